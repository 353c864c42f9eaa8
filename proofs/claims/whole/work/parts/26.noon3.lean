section ZN8
variable {E : zE} {Q : Nat → Nat → Nat → Int32} {Z : zS} {n : Nat}
set_option maxHeartbeats 4000000 in
set_option maxRecDepth 100000 in
theorem x_ahead_bad {x y w : Int32} (hb : ¬ ((¬ x < 0 ∧ ¬ Q 1 0 0 ≤ x) ∧ (nI 0 ≤ y ∧ y ≤ nI 60) ∧ (nI 0 ≤ w ∧ w ≤ nI 1))) : zCT E 6 zm_X6_ahead [.ref (zad E 145), .int x, .int y, .int w] (Q, Z) (some (.int zBAD)) (Q, Z) := by
  refine zCT.of (by decide +kernel) (Nat.le_of_ble_eq_true rfl) ?_
  refine zi_aload0 (n := 1) dX6_ahead_0 rfl ?_
  refine zg_X6_2 (n := 4) dX6_ahead_1 rfl zl_X6_26 ?_
  refine zi_iload1 (n := 5) dX6_ahead_4 rfl ?_
  refine zi_V1s (mj := zm_X4_has) (n := 8) dX6_ahead_5 rfl zl_X6_153 zy_X4_has (zrc_sq _ _ (by omega)) (by decide) (Nat.le_of_ble_eq_true rfl) (zrr (j := 1) (c_X4_has (S := Q 1) (j := 1) (by decide))) ?_
  refine zi_ifeq_b (n := 11) (tgt := 30) dX6_ahead_8 rfl (by decide) (fun h8 => ?_) (fun h8 => ?_)
  · refine zi_ldc (n := 32) dX6_ahead_30 rfl zl_X6_67 ?_
    exact zi_iret dX6_ahead_32 rfl (by rfl) (by rfl)
  · refine zi_iload2 (n := 12) dX6_ahead_11 rfl ?_
    refine zi_iconst (n := 13) (nI 0) dX6_ahead_12 rfl (by decide) ?_
    refine zi_bipush (n := 15) (nI 60) dX6_ahead_13 rfl (by decide) ?_
    refine zi_S3s (mj := zm_X6_within) (n := 18) dX6_ahead_15 rfl zl_X6_63 zy_X6_within (by decide) (Nat.le_of_ble_eq_true rfl) (c_X6_within) ?_
    refine zi_ifeq_b (n := 21) (tgt := 30) dX6_ahead_18 rfl (by decide) (fun h18 => ?_) (fun h18 => ?_)
    · refine zi_ldc (n := 32) dX6_ahead_30 rfl zl_X6_67 ?_
      exact zi_iret dX6_ahead_32 rfl (by rfl) (by rfl)
    · refine zi_iload3 (n := 22) dX6_ahead_21 rfl ?_
      refine zi_iconst (n := 23) (nI 0) dX6_ahead_22 rfl (by decide) ?_
      refine zi_iconst (n := 24) (nI 1) dX6_ahead_23 rfl (by decide) ?_
      refine zi_S3s (mj := zm_X6_within) (n := 27) dX6_ahead_24 rfl zl_X6_63 zy_X6_within (by decide) (Nat.le_of_ble_eq_true rfl) (c_X6_within) ?_
      refine zi_ifne_b (n := 30) (tgt := 33) dX6_ahead_27 rfl (by decide) (fun h27 => ?_) (fun h27 => ?_)
      · exact absurd ⟨h8, h18, h27⟩ hb
      · refine zi_ldc (n := 32) dX6_ahead_30 rfl zl_X6_67 ?_
        exact zi_iret dX6_ahead_32 rfl (by rfl) (by rfl)
set_option maxHeartbeats 4000000 in
set_option maxRecDepth 100000 in
theorem x_ahead_0 (hn : Q 1 0 0 = nI n) (h6 : n ≤ 6) {p : Nat} (hp : p < n) {m : Nat} (hm1 : 0 ≤ m) (hm2 : m ≤ 60) : zCT E 6 zm_X6_ahead [.ref (zad E 145), .int (nI p), .int (nI m), .int (nI 0)] (Q, Z) (some (.int ((noonsC (takeC (Q 4) (Q 1)) n m) 4 p))) (va_up Q 4 (noonsC (takeC (Q 4) (Q 1)) n m), Z) := by
  refine zCT.of (by decide +kernel) (Nat.le_of_ble_eq_true rfl) ?_
  have a1 := zhas hn h6 hp
  have a2 := zrg hm1 hm2 (by decide)
  have a3 : nI 0 ≤ nI 0 ∧ nI 0 ≤ nI 1 := by decide
  have a4 : nI 0 = 0 := by decide
  refine zi_aload0 (n := 1) dX6_ahead_0 rfl ?_
  refine zg_X6_2 (n := 4) dX6_ahead_1 rfl zl_X6_26 ?_
  refine zi_iload1 (n := 5) dX6_ahead_4 rfl ?_
  refine zi_V1s (mj := zm_X4_has) (n := 8) dX6_ahead_5 rfl zl_X6_153 zy_X4_has (zrc_sq _ _ (by omega)) (by decide) (Nat.le_of_ble_eq_true rfl) (zrr (j := 1) (c_X4_has (S := Q 1) (j := 1) (by decide))) ?_
  refine zi_ifeq_b (n := 11) (tgt := 30) dX6_ahead_8 rfl (by decide) (fun h8 => ?_) (fun h8 => ?_)
  · first | exact absurd a1 h8 | exact absurd h8 a1
  · refine zi_iload2 (n := 12) dX6_ahead_11 rfl ?_
    refine zi_iconst (n := 13) (nI 0) dX6_ahead_12 rfl (by decide) ?_
    refine zi_bipush (n := 15) (nI 60) dX6_ahead_13 rfl (by decide) ?_
    refine zi_S3s (mj := zm_X6_within) (n := 18) dX6_ahead_15 rfl zl_X6_63 zy_X6_within (by decide) (Nat.le_of_ble_eq_true rfl) (c_X6_within) ?_
    refine zi_ifeq_b (n := 21) (tgt := 30) dX6_ahead_18 rfl (by decide) (fun h18 => ?_) (fun h18 => ?_)
    · first | exact absurd a2 h18 | exact absurd h18 a2
    · refine zi_iload3 (n := 22) dX6_ahead_21 rfl ?_
      refine zi_iconst (n := 23) (nI 0) dX6_ahead_22 rfl (by decide) ?_
      refine zi_iconst (n := 24) (nI 1) dX6_ahead_23 rfl (by decide) ?_
      refine zi_S3s (mj := zm_X6_within) (n := 27) dX6_ahead_24 rfl zl_X6_63 zy_X6_within (by decide) (Nat.le_of_ble_eq_true rfl) (c_X6_within) ?_
      refine zi_ifne_b (n := 30) (tgt := 33) dX6_ahead_27 rfl (by decide) (fun h27 => ?_) (fun h27 => ?_)
      · refine zi_aload0 (n := 34) dX6_ahead_33 rfl ?_
        refine zg_X6_6 (n := 37) dX6_ahead_34 rfl zl_X6_48 ?_
        refine zi_iload2 (n := 38) dX6_ahead_37 rfl ?_
        refine zi_V1s (mj := zm_X2_behind) (n := 41) dX6_ahead_38 rfl zl_X6_194 zy_X2_behind (zrc_X2 _ _) (by decide) (Nat.le_of_ble_eq_true rfl) (zra (j := 4) (c_X2_behind (S := Q 4) hn h6 (by omega))) ?_
        refine zi_astore4 (n := 43) dX6_ahead_41 rfl (by decide) rfl ?_
        refine zi_iload3 (n := 44) dX6_ahead_43 rfl ?_
        refine zi_ifne (n := 47) (tgt := 57) dX6_ahead_44 rfl (by decide) (fun h44 => ?_) (fun h44 => ?_)
        · first | exact absurd a4 h44 | exact absurd h44 a4
        · refine zi_aload4 (n := 49) dX6_ahead_47 rfl ?_
          refine zgN_X4_12 (n := 52) dX6_ahead_49 rfl zl_X6_163 (by decide) ?_
          refine zi_iload1 (n := 53) dX6_ahead_52 rfl ?_
          refine zi_qald (n := 54) dX6_ahead_53 rfl (by decide) (by decide) rfl (by omega) (zfs _ _ _ _ _ _) ?_
          refine zi_goto (tgt := 64) dX6_ahead_54 (by decide) ?_
          exact zi_iret dX6_ahead_64 rfl (by rfl) (by rfl)
      · first | exact absurd a3 h27 | exact absurd h27 a3
set_option maxHeartbeats 4000000 in
set_option maxRecDepth 100000 in
theorem x_ahead_1 (hn : Q 1 0 0 = nI n) (h6 : n ≤ 6) {p : Nat} (hp : p < n) {m : Nat} (hm1 : 0 ≤ m) (hm2 : m ≤ 60) : zCT E 6 zm_X6_ahead [.ref (zad E 145), .int (nI p), .int (nI m), .int (nI 1)] (Q, Z) (some (.int ((noonsC (takeC (Q 4) (Q 1)) n m) 2 p))) (va_up Q 4 (noonsC (takeC (Q 4) (Q 1)) n m), Z) := by
  refine zCT.of (by decide +kernel) (Nat.le_of_ble_eq_true rfl) ?_
  have a1 := zhas hn h6 hp
  have a2 := zrg hm1 hm2 (by decide)
  have a3 : nI 0 ≤ nI 1 ∧ nI 1 ≤ nI 1 := by decide
  have a4 : ¬ nI 1 = 0 := by decide
  refine zi_aload0 (n := 1) dX6_ahead_0 rfl ?_
  refine zg_X6_2 (n := 4) dX6_ahead_1 rfl zl_X6_26 ?_
  refine zi_iload1 (n := 5) dX6_ahead_4 rfl ?_
  refine zi_V1s (mj := zm_X4_has) (n := 8) dX6_ahead_5 rfl zl_X6_153 zy_X4_has (zrc_sq _ _ (by omega)) (by decide) (Nat.le_of_ble_eq_true rfl) (zrr (j := 1) (c_X4_has (S := Q 1) (j := 1) (by decide))) ?_
  refine zi_ifeq_b (n := 11) (tgt := 30) dX6_ahead_8 rfl (by decide) (fun h8 => ?_) (fun h8 => ?_)
  · first | exact absurd a1 h8 | exact absurd h8 a1
  · refine zi_iload2 (n := 12) dX6_ahead_11 rfl ?_
    refine zi_iconst (n := 13) (nI 0) dX6_ahead_12 rfl (by decide) ?_
    refine zi_bipush (n := 15) (nI 60) dX6_ahead_13 rfl (by decide) ?_
    refine zi_S3s (mj := zm_X6_within) (n := 18) dX6_ahead_15 rfl zl_X6_63 zy_X6_within (by decide) (Nat.le_of_ble_eq_true rfl) (c_X6_within) ?_
    refine zi_ifeq_b (n := 21) (tgt := 30) dX6_ahead_18 rfl (by decide) (fun h18 => ?_) (fun h18 => ?_)
    · first | exact absurd a2 h18 | exact absurd h18 a2
    · refine zi_iload3 (n := 22) dX6_ahead_21 rfl ?_
      refine zi_iconst (n := 23) (nI 0) dX6_ahead_22 rfl (by decide) ?_
      refine zi_iconst (n := 24) (nI 1) dX6_ahead_23 rfl (by decide) ?_
      refine zi_S3s (mj := zm_X6_within) (n := 27) dX6_ahead_24 rfl zl_X6_63 zy_X6_within (by decide) (Nat.le_of_ble_eq_true rfl) (c_X6_within) ?_
      refine zi_ifne_b (n := 30) (tgt := 33) dX6_ahead_27 rfl (by decide) (fun h27 => ?_) (fun h27 => ?_)
      · refine zi_aload0 (n := 34) dX6_ahead_33 rfl ?_
        refine zg_X6_6 (n := 37) dX6_ahead_34 rfl zl_X6_48 ?_
        refine zi_iload2 (n := 38) dX6_ahead_37 rfl ?_
        refine zi_V1s (mj := zm_X2_behind) (n := 41) dX6_ahead_38 rfl zl_X6_194 zy_X2_behind (zrc_X2 _ _) (by decide) (Nat.le_of_ble_eq_true rfl) (zra (j := 4) (c_X2_behind (S := Q 4) hn h6 (by omega))) ?_
        refine zi_astore4 (n := 43) dX6_ahead_41 rfl (by decide) rfl ?_
        refine zi_iload3 (n := 44) dX6_ahead_43 rfl ?_
        refine zi_ifne (n := 47) (tgt := 57) dX6_ahead_44 rfl (by decide) (fun h44 => ?_) (fun h44 => ?_)
        · refine zi_aload4 (n := 59) dX6_ahead_57 rfl ?_
          refine zgN_X4_10 (n := 62) dX6_ahead_59 rfl zl_X6_159 (by decide) ?_
          refine zi_iload1 (n := 63) dX6_ahead_62 rfl ?_
          refine zi_qald (n := 64) dX6_ahead_63 rfl (by decide) (by decide) rfl (by omega) (zfs _ _ _ _ _ _) ?_
          exact zi_iret dX6_ahead_64 rfl (by rfl) (by rfl)
        · first | exact absurd a4 h44 | exact absurd h44 a4
      · first | exact absurd a3 h27 | exact absurd h27 a3
set_option maxHeartbeats 4000000 in
set_option maxRecDepth 100000 in
theorem x_bitten_state {x y : Int32} (h0 : Q 1 0 0 = 0) : zCT E 6 zm_X6_bitten [.ref (zad E 145), .int x, .int y] (Q, Z) (some (.int zSTATE)) (Q, Z) := by
  refine zCT.of (by decide +kernel) (Nat.le_of_ble_eq_true rfl) ?_
  refine zi_aload0 (n := 1) dX6_bitten_0 rfl ?_
  refine zg_X6_2 (n := 4) dX6_bitten_1 rfl zl_X6_26 ?_
  refine zgN_X4_0 (n := 7) dX6_bitten_4 rfl zl_X6_131 (by omega) rfl ?_
  refine zi_ifne (n := 10) (tgt := 13) dX6_bitten_7 rfl (by decide) (fun h7 => ?_) (fun h7 => ?_)
  · first | exact absurd h0 h7 | exact absurd h7 h0
  · refine zi_ldc (n := 12) dX6_bitten_10 rfl zl_X6_137 ?_
    exact zi_iret dX6_bitten_12 rfl (by rfl) (by rfl)
set_option maxHeartbeats 4000000 in
set_option maxRecDepth 100000 in
theorem x_bitten_bad {x y : Int32} (h0 : ¬ Q 1 0 0 = 0) (hb : ¬ ((nI 1 ≤ x ∧ x ≤ nI 60) ∧ (nI 0 ≤ y ∧ y ≤ nI 1))) : zCT E 6 zm_X6_bitten [.ref (zad E 145), .int x, .int y] (Q, Z) (some (.int zBAD)) (Q, Z) := by
  refine zCT.of (by decide +kernel) (Nat.le_of_ble_eq_true rfl) ?_
  refine zi_aload0 (n := 1) dX6_bitten_0 rfl ?_
  refine zg_X6_2 (n := 4) dX6_bitten_1 rfl zl_X6_26 ?_
  refine zgN_X4_0 (n := 7) dX6_bitten_4 rfl zl_X6_131 (by omega) rfl ?_
  refine zi_ifne (n := 10) (tgt := 13) dX6_bitten_7 rfl (by decide) (fun h7 => ?_) (fun h7 => ?_)
  · refine zi_iload1 (n := 14) dX6_bitten_13 rfl ?_
    refine zi_iconst (n := 15) (nI 1) dX6_bitten_14 rfl (by decide) ?_
    refine zi_bipush (n := 17) (nI 60) dX6_bitten_15 rfl (by decide) ?_
    refine zi_S3s (mj := zm_X6_within) (n := 20) dX6_bitten_17 rfl zl_X6_63 zy_X6_within (by decide) (Nat.le_of_ble_eq_true rfl) (c_X6_within) ?_
    refine zi_ifeq_b (n := 23) (tgt := 32) dX6_bitten_20 rfl (by decide) (fun h20 => ?_) (fun h20 => ?_)
    · refine zi_ldc (n := 34) dX6_bitten_32 rfl zl_X6_67 ?_
      exact zi_iret dX6_bitten_34 rfl (by rfl) (by rfl)
    · refine zi_iload2 (n := 24) dX6_bitten_23 rfl ?_
      refine zi_iconst (n := 25) (nI 0) dX6_bitten_24 rfl (by decide) ?_
      refine zi_iconst (n := 26) (nI 1) dX6_bitten_25 rfl (by decide) ?_
      refine zi_S3s (mj := zm_X6_within) (n := 29) dX6_bitten_26 rfl zl_X6_63 zy_X6_within (by decide) (Nat.le_of_ble_eq_true rfl) (c_X6_within) ?_
      refine zi_ifne_b (n := 32) (tgt := 35) dX6_bitten_29 rfl (by decide) (fun h29 => ?_) (fun h29 => ?_)
      · exact absurd ⟨h20, h29⟩ hb
      · refine zi_ldc (n := 34) dX6_bitten_32 rfl zl_X6_67 ?_
        exact zi_iret dX6_bitten_34 rfl (by rfl) (by rfl)
  · first | exact absurd h0 h7 | exact absurd h7 h0
set_option maxHeartbeats 4000000 in
set_option maxRecDepth 100000 in
theorem x_bitten_0 (hn : Q 1 0 0 = nI n) (h6 : n ≤ 6) (h0 : ¬ Q 1 0 0 = 0) {m : Nat} (hm1 : 1 ≤ m) (hm2 : m ≤ 60) : zCT E 6 zm_X6_bitten [.ref (zad E 145), .int (nI m), .int (nI 0)] (Q, Z) (some (.int ((noonsC (takeC (Q 4) (Q 1)) n m) 0 7))) (va_up Q 4 (noonsC (takeC (Q 4) (Q 1)) n m), Z) := by
  refine zCT.of (by decide +kernel) (Nat.le_of_ble_eq_true rfl) ?_
  have a2 := zrg hm1 hm2 (by decide)
  have a3 : nI 0 ≤ nI 0 ∧ nI 0 ≤ nI 1 := by decide
  have a4 : nI 0 = 0 := by decide
  refine zi_aload0 (n := 1) dX6_bitten_0 rfl ?_
  refine zg_X6_2 (n := 4) dX6_bitten_1 rfl zl_X6_26 ?_
  refine zgN_X4_0 (n := 7) dX6_bitten_4 rfl zl_X6_131 (by omega) rfl ?_
  refine zi_ifne (n := 10) (tgt := 13) dX6_bitten_7 rfl (by decide) (fun h7 => ?_) (fun h7 => ?_)
  · refine zi_iload1 (n := 14) dX6_bitten_13 rfl ?_
    refine zi_iconst (n := 15) (nI 1) dX6_bitten_14 rfl (by decide) ?_
    refine zi_bipush (n := 17) (nI 60) dX6_bitten_15 rfl (by decide) ?_
    refine zi_S3s (mj := zm_X6_within) (n := 20) dX6_bitten_17 rfl zl_X6_63 zy_X6_within (by decide) (Nat.le_of_ble_eq_true rfl) (c_X6_within) ?_
    refine zi_ifeq_b (n := 23) (tgt := 32) dX6_bitten_20 rfl (by decide) (fun h20 => ?_) (fun h20 => ?_)
    · first | exact absurd a2 h20 | exact absurd h20 a2
    · refine zi_iload2 (n := 24) dX6_bitten_23 rfl ?_
      refine zi_iconst (n := 25) (nI 0) dX6_bitten_24 rfl (by decide) ?_
      refine zi_iconst (n := 26) (nI 1) dX6_bitten_25 rfl (by decide) ?_
      refine zi_S3s (mj := zm_X6_within) (n := 29) dX6_bitten_26 rfl zl_X6_63 zy_X6_within (by decide) (Nat.le_of_ble_eq_true rfl) (c_X6_within) ?_
      refine zi_ifne_b (n := 32) (tgt := 35) dX6_bitten_29 rfl (by decide) (fun h29 => ?_) (fun h29 => ?_)
      · refine zi_aload0 (n := 36) dX6_bitten_35 rfl ?_
        refine zg_X6_6 (n := 39) dX6_bitten_36 rfl zl_X6_48 ?_
        refine zi_iload1 (n := 40) dX6_bitten_39 rfl ?_
        refine zi_V1s (mj := zm_X2_behind) (n := 43) dX6_bitten_40 rfl zl_X6_194 zy_X2_behind (zrc_X2 _ _) (by decide) (Nat.le_of_ble_eq_true rfl) (zra (j := 4) (c_X2_behind (S := Q 4) hn h6 (by omega))) ?_
        refine zi_astore3 (n := 44) dX6_bitten_43 rfl (by decide) rfl ?_
        refine zi_iload2 (n := 45) dX6_bitten_44 rfl ?_
        refine zi_ifne (n := 48) (tgt := 55) dX6_bitten_45 rfl (by decide) (fun h45 => ?_) (fun h45 => ?_)
        · first | exact absurd a4 h45 | exact absurd h45 a4
        · refine zi_aload3 (n := 49) dX6_bitten_48 rfl ?_
          refine zgN_X4_7 (n := 52) dX6_bitten_49 rfl zl_X6_198 (by decide) (zfs _ _ _ _ _ _) ?_
          refine zi_goto (tgt := 59) dX6_bitten_52 (by decide) ?_
          exact zi_iret dX6_bitten_59 rfl (by rfl) (by rfl)
      · first | exact absurd a3 h29 | exact absurd h29 a3
  · first | exact absurd h0 h7 | exact absurd h7 h0
set_option maxHeartbeats 4000000 in
set_option maxRecDepth 100000 in
theorem x_bitten_1 (hn : Q 1 0 0 = nI n) (h6 : n ≤ 6) (h0 : ¬ Q 1 0 0 = 0) {m : Nat} (hm1 : 1 ≤ m) (hm2 : m ≤ 60) : zCT E 6 zm_X6_bitten [.ref (zad E 145), .int (nI m), .int (nI 1)] (Q, Z) (some (.int ((noonsC (takeC (Q 4) (Q 1)) n m) 0 8))) (va_up Q 4 (noonsC (takeC (Q 4) (Q 1)) n m), Z) := by
  refine zCT.of (by decide +kernel) (Nat.le_of_ble_eq_true rfl) ?_
  have a2 := zrg hm1 hm2 (by decide)
  have a3 : nI 0 ≤ nI 1 ∧ nI 1 ≤ nI 1 := by decide
  have a4 : ¬ nI 1 = 0 := by decide
  refine zi_aload0 (n := 1) dX6_bitten_0 rfl ?_
  refine zg_X6_2 (n := 4) dX6_bitten_1 rfl zl_X6_26 ?_
  refine zgN_X4_0 (n := 7) dX6_bitten_4 rfl zl_X6_131 (by omega) rfl ?_
  refine zi_ifne (n := 10) (tgt := 13) dX6_bitten_7 rfl (by decide) (fun h7 => ?_) (fun h7 => ?_)
  · refine zi_iload1 (n := 14) dX6_bitten_13 rfl ?_
    refine zi_iconst (n := 15) (nI 1) dX6_bitten_14 rfl (by decide) ?_
    refine zi_bipush (n := 17) (nI 60) dX6_bitten_15 rfl (by decide) ?_
    refine zi_S3s (mj := zm_X6_within) (n := 20) dX6_bitten_17 rfl zl_X6_63 zy_X6_within (by decide) (Nat.le_of_ble_eq_true rfl) (c_X6_within) ?_
    refine zi_ifeq_b (n := 23) (tgt := 32) dX6_bitten_20 rfl (by decide) (fun h20 => ?_) (fun h20 => ?_)
    · first | exact absurd a2 h20 | exact absurd h20 a2
    · refine zi_iload2 (n := 24) dX6_bitten_23 rfl ?_
      refine zi_iconst (n := 25) (nI 0) dX6_bitten_24 rfl (by decide) ?_
      refine zi_iconst (n := 26) (nI 1) dX6_bitten_25 rfl (by decide) ?_
      refine zi_S3s (mj := zm_X6_within) (n := 29) dX6_bitten_26 rfl zl_X6_63 zy_X6_within (by decide) (Nat.le_of_ble_eq_true rfl) (c_X6_within) ?_
      refine zi_ifne_b (n := 32) (tgt := 35) dX6_bitten_29 rfl (by decide) (fun h29 => ?_) (fun h29 => ?_)
      · refine zi_aload0 (n := 36) dX6_bitten_35 rfl ?_
        refine zg_X6_6 (n := 39) dX6_bitten_36 rfl zl_X6_48 ?_
        refine zi_iload1 (n := 40) dX6_bitten_39 rfl ?_
        refine zi_V1s (mj := zm_X2_behind) (n := 43) dX6_bitten_40 rfl zl_X6_194 zy_X2_behind (zrc_X2 _ _) (by decide) (Nat.le_of_ble_eq_true rfl) (zra (j := 4) (c_X2_behind (S := Q 4) hn h6 (by omega))) ?_
        refine zi_astore3 (n := 44) dX6_bitten_43 rfl (by decide) rfl ?_
        refine zi_iload2 (n := 45) dX6_bitten_44 rfl ?_
        refine zi_ifne (n := 48) (tgt := 55) dX6_bitten_45 rfl (by decide) (fun h45 => ?_) (fun h45 => ?_)
        · refine zi_aload3 (n := 56) dX6_bitten_55 rfl ?_
          refine zgN_X4_8 (n := 59) dX6_bitten_56 rfl zl_X6_201 (by decide) (zfs _ _ _ _ _ _) ?_
          exact zi_iret dX6_bitten_59 rfl (by rfl) (by rfl)
        · first | exact absurd a4 h45 | exact absurd h45 a4
      · first | exact absurd a3 h29 | exact absurd h29 a3
  · first | exact absurd h0 h7 | exact absurd h7 h0
set_option maxHeartbeats 4000000 in
set_option maxRecDepth 100000 in
theorem x_left_state {x y : Int32} (h0 : Q 1 0 0 = 0) : zCT E 6 zm_X6_left [.ref (zad E 145), .int x, .int y] (Q, Z) (some (.int zSTATE)) (Q, Z) := by
  refine zCT.of (by decide +kernel) (Nat.le_of_ble_eq_true rfl) ?_
  refine zi_aload0 (n := 1) dX6_left_0 rfl ?_
  refine zg_X6_2 (n := 4) dX6_left_1 rfl zl_X6_26 ?_
  refine zgN_X4_0 (n := 7) dX6_left_4 rfl zl_X6_131 (by omega) rfl ?_
  refine zi_ifne (n := 10) (tgt := 13) dX6_left_7 rfl (by decide) (fun h7 => ?_) (fun h7 => ?_)
  · first | exact absurd h0 h7 | exact absurd h7 h0
  · refine zi_ldc (n := 12) dX6_left_10 rfl zl_X6_137 ?_
    exact zi_iret dX6_left_12 rfl (by rfl) (by rfl)
set_option maxHeartbeats 4000000 in
set_option maxRecDepth 100000 in
theorem x_left_bad {x y : Int32} (h0 : ¬ Q 1 0 0 = 0) (hb : ¬ ((nI 0 ≤ x ∧ x ≤ nI 60) ∧ (nI 0 ≤ y ∧ y ≤ nI 2))) : zCT E 6 zm_X6_left [.ref (zad E 145), .int x, .int y] (Q, Z) (some (.int zBAD)) (Q, Z) := by
  refine zCT.of (by decide +kernel) (Nat.le_of_ble_eq_true rfl) ?_
  refine zi_aload0 (n := 1) dX6_left_0 rfl ?_
  refine zg_X6_2 (n := 4) dX6_left_1 rfl zl_X6_26 ?_
  refine zgN_X4_0 (n := 7) dX6_left_4 rfl zl_X6_131 (by omega) rfl ?_
  refine zi_ifne (n := 10) (tgt := 13) dX6_left_7 rfl (by decide) (fun h7 => ?_) (fun h7 => ?_)
  · refine zi_iload1 (n := 14) dX6_left_13 rfl ?_
    refine zi_iconst (n := 15) (nI 0) dX6_left_14 rfl (by decide) ?_
    refine zi_bipush (n := 17) (nI 60) dX6_left_15 rfl (by decide) ?_
    refine zi_S3s (mj := zm_X6_within) (n := 20) dX6_left_17 rfl zl_X6_63 zy_X6_within (by decide) (Nat.le_of_ble_eq_true rfl) (c_X6_within) ?_
    refine zi_ifeq_b (n := 23) (tgt := 32) dX6_left_20 rfl (by decide) (fun h20 => ?_) (fun h20 => ?_)
    · refine zi_ldc (n := 34) dX6_left_32 rfl zl_X6_67 ?_
      exact zi_iret dX6_left_34 rfl (by rfl) (by rfl)
    · refine zi_iload2 (n := 24) dX6_left_23 rfl ?_
      refine zi_iconst (n := 25) (nI 0) dX6_left_24 rfl (by decide) ?_
      refine zi_iconst (n := 26) (nI 2) dX6_left_25 rfl (by decide) ?_
      refine zi_S3s (mj := zm_X6_within) (n := 29) dX6_left_26 rfl zl_X6_63 zy_X6_within (by decide) (Nat.le_of_ble_eq_true rfl) (c_X6_within) ?_
      refine zi_ifne_b (n := 32) (tgt := 35) dX6_left_29 rfl (by decide) (fun h29 => ?_) (fun h29 => ?_)
      · exact absurd ⟨h20, h29⟩ hb
      · refine zi_ldc (n := 34) dX6_left_32 rfl zl_X6_67 ?_
        exact zi_iret dX6_left_34 rfl (by rfl) (by rfl)
  · first | exact absurd h0 h7 | exact absurd h7 h0
set_option maxHeartbeats 4000000 in
set_option maxRecDepth 100000 in
theorem x_left_0 (hn : Q 1 0 0 = nI n) (h6 : n ≤ 6) (h0 : ¬ Q 1 0 0 = 0) {m : Nat} (hm1 : 0 ≤ m) (hm2 : m ≤ 60) : zCT E 6 zm_X6_left [.ref (zad E 145), .int (nI m), .int (nI 0)] (Q, Z) (some (.int (zsum ((noonsC (takeC (Q 4) (Q 1)) n m) 4) n))) (va_up Q 4 (noonsC (takeC (Q 4) (Q 1)) n m), Z) := by
  refine zCT.of (by decide +kernel) (Nat.le_of_ble_eq_true rfl) ?_
  have a2 := zrg hm1 hm2 (by decide)
  have a3 : nI 0 ≤ nI 0 ∧ nI 0 ≤ nI 2 := by decide
  refine zi_aload0 (n := 1) dX6_left_0 rfl ?_
  refine zg_X6_2 (n := 4) dX6_left_1 rfl zl_X6_26 ?_
  refine zgN_X4_0 (n := 7) dX6_left_4 rfl zl_X6_131 (by omega) rfl ?_
  refine zi_ifne (n := 10) (tgt := 13) dX6_left_7 rfl (by decide) (fun h7 => ?_) (fun h7 => ?_)
  · refine zi_iload1 (n := 14) dX6_left_13 rfl ?_
    refine zi_iconst (n := 15) (nI 0) dX6_left_14 rfl (by decide) ?_
    refine zi_bipush (n := 17) (nI 60) dX6_left_15 rfl (by decide) ?_
    refine zi_S3s (mj := zm_X6_within) (n := 20) dX6_left_17 rfl zl_X6_63 zy_X6_within (by decide) (Nat.le_of_ble_eq_true rfl) (c_X6_within) ?_
    refine zi_ifeq_b (n := 23) (tgt := 32) dX6_left_20 rfl (by decide) (fun h20 => ?_) (fun h20 => ?_)
    · first | exact absurd a2 h20 | exact absurd h20 a2
    · refine zi_iload2 (n := 24) dX6_left_23 rfl ?_
      refine zi_iconst (n := 25) (nI 0) dX6_left_24 rfl (by decide) ?_
      refine zi_iconst (n := 26) (nI 2) dX6_left_25 rfl (by decide) ?_
      refine zi_S3s (mj := zm_X6_within) (n := 29) dX6_left_26 rfl zl_X6_63 zy_X6_within (by decide) (Nat.le_of_ble_eq_true rfl) (c_X6_within) ?_
      refine zi_ifne_b (n := 32) (tgt := 35) dX6_left_29 rfl (by decide) (fun h29 => ?_) (fun h29 => ?_)
      · refine zi_aload0 (n := 36) dX6_left_35 rfl ?_
        refine zg_X6_6 (n := 39) dX6_left_36 rfl zl_X6_48 ?_
        refine zi_iload1 (n := 40) dX6_left_39 rfl ?_
        refine zi_V1s (mj := zm_X2_behind) (n := 43) dX6_left_40 rfl zl_X6_194 zy_X2_behind (zrc_X2 _ _) (by decide) (Nat.le_of_ble_eq_true rfl) (zra (j := 4) (c_X2_behind (S := Q 4) hn h6 (by omega))) ?_
        refine zi_astore3 (n := 44) dX6_left_43 rfl (by decide) rfl ?_
        refine zi_iload2 (n := 45) dX6_left_44 rfl ?_
        refine zi_lookup (tgt := 72) dX6_left_45 (by decide) rfl (by decide) ?_
        refine zi_aload3 (n := 73) dX6_left_72 rfl ?_
        refine zi_V0s (mj := zm_X4_allLetters) (n := 76) dX6_left_73 rfl zl_X6_204 zy_X4_allLetters (zrc_sq _ _ (by omega)) (by decide) (Nat.le_of_ble_eq_true rfl) (c_X4_allLetters (by decide) ((noonsC_0 m).trans ((takeC_0 (by decide)).trans hn)) h6) ?_
        exact zi_iret dX6_left_76 rfl (by rfl) (by rfl)
      · first | exact absurd a3 h29 | exact absurd h29 a3
  · first | exact absurd h0 h7 | exact absurd h7 h0
set_option maxHeartbeats 4000000 in
set_option maxRecDepth 100000 in
theorem x_left_1 (hn : Q 1 0 0 = nI n) (h6 : n ≤ 6) (h0 : ¬ Q 1 0 0 = 0) {m : Nat} (hm1 : 0 ≤ m) (hm2 : m ≤ 60) : zCT E 6 zm_X6_left [.ref (zad E 145), .int (nI m), .int (nI 1)] (Q, Z) (some (.int (zNml (noonsC (takeC (Q 4) (Q 1)) n m) n))) (va_up Q 4 (noonsC (takeC (Q 4) (Q 1)) n m), Z) := by
  refine zCT.of (by decide +kernel) (Nat.le_of_ble_eq_true rfl) ?_
  have a2 := zrg hm1 hm2 (by decide)
  have a3 : nI 0 ≤ nI 1 ∧ nI 1 ≤ nI 2 := by decide
  refine zi_aload0 (n := 1) dX6_left_0 rfl ?_
  refine zg_X6_2 (n := 4) dX6_left_1 rfl zl_X6_26 ?_
  refine zgN_X4_0 (n := 7) dX6_left_4 rfl zl_X6_131 (by omega) rfl ?_
  refine zi_ifne (n := 10) (tgt := 13) dX6_left_7 rfl (by decide) (fun h7 => ?_) (fun h7 => ?_)
  · refine zi_iload1 (n := 14) dX6_left_13 rfl ?_
    refine zi_iconst (n := 15) (nI 0) dX6_left_14 rfl (by decide) ?_
    refine zi_bipush (n := 17) (nI 60) dX6_left_15 rfl (by decide) ?_
    refine zi_S3s (mj := zm_X6_within) (n := 20) dX6_left_17 rfl zl_X6_63 zy_X6_within (by decide) (Nat.le_of_ble_eq_true rfl) (c_X6_within) ?_
    refine zi_ifeq_b (n := 23) (tgt := 32) dX6_left_20 rfl (by decide) (fun h20 => ?_) (fun h20 => ?_)
    · first | exact absurd a2 h20 | exact absurd h20 a2
    · refine zi_iload2 (n := 24) dX6_left_23 rfl ?_
      refine zi_iconst (n := 25) (nI 0) dX6_left_24 rfl (by decide) ?_
      refine zi_iconst (n := 26) (nI 2) dX6_left_25 rfl (by decide) ?_
      refine zi_S3s (mj := zm_X6_within) (n := 29) dX6_left_26 rfl zl_X6_63 zy_X6_within (by decide) (Nat.le_of_ble_eq_true rfl) (c_X6_within) ?_
      refine zi_ifne_b (n := 32) (tgt := 35) dX6_left_29 rfl (by decide) (fun h29 => ?_) (fun h29 => ?_)
      · refine zi_aload0 (n := 36) dX6_left_35 rfl ?_
        refine zg_X6_6 (n := 39) dX6_left_36 rfl zl_X6_48 ?_
        refine zi_iload1 (n := 40) dX6_left_39 rfl ?_
        refine zi_V1s (mj := zm_X2_behind) (n := 43) dX6_left_40 rfl zl_X6_194 zy_X2_behind (zrc_X2 _ _) (by decide) (Nat.le_of_ble_eq_true rfl) (zra (j := 4) (c_X2_behind (S := Q 4) hn h6 (by omega))) ?_
        refine zi_astore3 (n := 44) dX6_left_43 rfl (by decide) rfl ?_
        refine zi_iload2 (n := 45) dX6_left_44 rfl ?_
        refine zi_lookup (tgt := 77) dX6_left_45 (by decide) rfl (by decide) ?_
        refine zi_aload3 (n := 78) dX6_left_77 rfl ?_
        refine zi_V0s (mj := zm_X4_namelessBits) (n := 81) dX6_left_78 rfl zl_X6_187 zy_X4_namelessBits (zrc_sq _ _ (by omega)) (by decide) (Nat.le_of_ble_eq_true rfl) (c_X4_namelessBits (by decide) ((noonsC_0 m).trans ((takeC_0 (by decide)).trans hn)) h6) ?_
        exact zi_iret dX6_left_81 rfl (by rfl) (by rfl)
      · first | exact absurd a3 h29 | exact absurd h29 a3
  · first | exact absurd h0 h7 | exact absurd h7 h0
set_option maxHeartbeats 4000000 in
set_option maxRecDepth 100000 in
theorem x_left_2 (hn : Q 1 0 0 = nI n) (h6 : n ≤ 6) (h0 : ¬ Q 1 0 0 = 0) {m : Nat} (hm1 : 0 ≤ m) (hm2 : m ≤ 60) : zCT E 6 zm_X6_left [.ref (zad E 145), .int (nI m), .int (nI 2)] (Q, Z) (some (.int ((noonsC (takeC (Q 4) (Q 1)) n m) 0 1))) (va_up Q 4 (noonsC (takeC (Q 4) (Q 1)) n m), Z) := by
  refine zCT.of (by decide +kernel) (Nat.le_of_ble_eq_true rfl) ?_
  have a2 := zrg hm1 hm2 (by decide)
  have a3 : nI 0 ≤ nI 2 ∧ nI 2 ≤ nI 2 := by decide
  refine zi_aload0 (n := 1) dX6_left_0 rfl ?_
  refine zg_X6_2 (n := 4) dX6_left_1 rfl zl_X6_26 ?_
  refine zgN_X4_0 (n := 7) dX6_left_4 rfl zl_X6_131 (by omega) rfl ?_
  refine zi_ifne (n := 10) (tgt := 13) dX6_left_7 rfl (by decide) (fun h7 => ?_) (fun h7 => ?_)
  · refine zi_iload1 (n := 14) dX6_left_13 rfl ?_
    refine zi_iconst (n := 15) (nI 0) dX6_left_14 rfl (by decide) ?_
    refine zi_bipush (n := 17) (nI 60) dX6_left_15 rfl (by decide) ?_
    refine zi_S3s (mj := zm_X6_within) (n := 20) dX6_left_17 rfl zl_X6_63 zy_X6_within (by decide) (Nat.le_of_ble_eq_true rfl) (c_X6_within) ?_
    refine zi_ifeq_b (n := 23) (tgt := 32) dX6_left_20 rfl (by decide) (fun h20 => ?_) (fun h20 => ?_)
    · first | exact absurd a2 h20 | exact absurd h20 a2
    · refine zi_iload2 (n := 24) dX6_left_23 rfl ?_
      refine zi_iconst (n := 25) (nI 0) dX6_left_24 rfl (by decide) ?_
      refine zi_iconst (n := 26) (nI 2) dX6_left_25 rfl (by decide) ?_
      refine zi_S3s (mj := zm_X6_within) (n := 29) dX6_left_26 rfl zl_X6_63 zy_X6_within (by decide) (Nat.le_of_ble_eq_true rfl) (c_X6_within) ?_
      refine zi_ifne_b (n := 32) (tgt := 35) dX6_left_29 rfl (by decide) (fun h29 => ?_) (fun h29 => ?_)
      · refine zi_aload0 (n := 36) dX6_left_35 rfl ?_
        refine zg_X6_6 (n := 39) dX6_left_36 rfl zl_X6_48 ?_
        refine zi_iload1 (n := 40) dX6_left_39 rfl ?_
        refine zi_V1s (mj := zm_X2_behind) (n := 43) dX6_left_40 rfl zl_X6_194 zy_X2_behind (zrc_X2 _ _) (by decide) (Nat.le_of_ble_eq_true rfl) (zra (j := 4) (c_X2_behind (S := Q 4) hn h6 (by omega))) ?_
        refine zi_astore3 (n := 44) dX6_left_43 rfl (by decide) rfl ?_
        refine zi_iload2 (n := 45) dX6_left_44 rfl ?_
        refine zi_lookup (tgt := 82) dX6_left_45 (by decide) rfl (by decide) ?_
        refine zi_aload3 (n := 83) dX6_left_82 rfl ?_
        refine zgN_X4_1 (n := 86) dX6_left_83 rfl zl_X6_172 (by decide) (zfs _ _ _ _ _ _) ?_
        exact zi_iret dX6_left_86 rfl (by rfl) (by rfl)
      · first | exact absurd a3 h29 | exact absurd h29 a3
  · first | exact absurd h0 h7 | exact absurd h7 h0
set_option maxHeartbeats 4000000 in
set_option maxRecDepth 100000 in
theorem x_when_bad {x y : Int32} (hb : ¬ ((¬ x < 0 ∧ ¬ Q 1 0 0 ≤ x) ∧ (nI 0 ≤ y ∧ y ≤ nI 1))) : zCT E 5 zm_X6_when [.ref (zad E 145), .int x, .int y] (Q, Z) (some (.int zBAD)) (Q, Z) := by
  refine zCT.of (by decide +kernel) (Nat.le_of_ble_eq_true rfl) ?_
  refine zi_aload0 (n := 1) dX6_when_0 rfl ?_
  refine zg_X6_2 (n := 4) dX6_when_1 rfl zl_X6_26 ?_
  refine zi_iload1 (n := 5) dX6_when_4 rfl ?_
  refine zi_V1s (mj := zm_X4_has) (n := 8) dX6_when_5 rfl zl_X6_153 zy_X4_has (zrc_sq _ _ (by omega)) (by decide) (Nat.le_of_ble_eq_true rfl) (zrr (j := 1) (c_X4_has (S := Q 1) (j := 1) (by decide))) ?_
  refine zi_ifeq_b (n := 11) (tgt := 20) dX6_when_8 rfl (by decide) (fun h8 => ?_) (fun h8 => ?_)
  · refine zi_ldc (n := 22) dX6_when_20 rfl zl_X6_67 ?_
    exact zi_iret dX6_when_22 rfl (by rfl) (by rfl)
  · refine zi_iload2 (n := 12) dX6_when_11 rfl ?_
    refine zi_iconst (n := 13) (nI 0) dX6_when_12 rfl (by decide) ?_
    refine zi_iconst (n := 14) (nI 1) dX6_when_13 rfl (by decide) ?_
    refine zi_S3s (mj := zm_X6_within) (n := 17) dX6_when_14 rfl zl_X6_63 zy_X6_within (by decide) (Nat.le_of_ble_eq_true rfl) (c_X6_within) ?_
    refine zi_ifne_b (n := 20) (tgt := 23) dX6_when_17 rfl (by decide) (fun h17 => ?_) (fun h17 => ?_)
    · exact absurd ⟨h8, h17⟩ hb
    · refine zi_ldc (n := 22) dX6_when_20 rfl zl_X6_67 ?_
      exact zi_iret dX6_when_22 rfl (by rfl) (by rfl)
set_option maxHeartbeats 4000000 in
set_option maxRecDepth 100000 in
theorem x_when_0 (hn : Q 1 0 0 = nI n) (h6 : n ≤ 6) {p : Nat} (hp : p < n) : zCT E 5 zm_X6_when [.ref (zad E 145), .int (nI p), .int (nI 0)] (Q, Z) (some (.int (zfbL n (nI p) 60 1 (takeC (Q 4) (Q 1))).1)) (va_up Q 4 (zfbL n (nI p) 60 1 (takeC (Q 4) (Q 1))).2, Z) := by
  refine zCT.of (by decide +kernel) (Nat.le_of_ble_eq_true rfl) ?_
  have a1 := zhas hn h6 hp
  have a3 : nI 0 ≤ nI 0 ∧ nI 0 ≤ nI 1 := by decide
  have a4 : nI 0 = 0 := by decide
  refine zi_aload0 (n := 1) dX6_when_0 rfl ?_
  refine zg_X6_2 (n := 4) dX6_when_1 rfl zl_X6_26 ?_
  refine zi_iload1 (n := 5) dX6_when_4 rfl ?_
  refine zi_V1s (mj := zm_X4_has) (n := 8) dX6_when_5 rfl zl_X6_153 zy_X4_has (zrc_sq _ _ (by omega)) (by decide) (Nat.le_of_ble_eq_true rfl) (zrr (j := 1) (c_X4_has (S := Q 1) (j := 1) (by decide))) ?_
  refine zi_ifeq_b (n := 11) (tgt := 20) dX6_when_8 rfl (by decide) (fun h8 => ?_) (fun h8 => ?_)
  · first | exact absurd a1 h8 | exact absurd h8 a1
  · refine zi_iload2 (n := 12) dX6_when_11 rfl ?_
    refine zi_iconst (n := 13) (nI 0) dX6_when_12 rfl (by decide) ?_
    refine zi_iconst (n := 14) (nI 1) dX6_when_13 rfl (by decide) ?_
    refine zi_S3s (mj := zm_X6_within) (n := 17) dX6_when_14 rfl zl_X6_63 zy_X6_within (by decide) (Nat.le_of_ble_eq_true rfl) (c_X6_within) ?_
    refine zi_ifne_b (n := 20) (tgt := 23) dX6_when_17 rfl (by decide) (fun h17 => ?_) (fun h17 => ?_)
    · refine zi_iload2 (n := 24) dX6_when_23 rfl ?_
      refine zi_ifne (n := 27) (tgt := 38) dX6_when_24 rfl (by decide) (fun h24 => ?_) (fun h24 => ?_)
      · first | exact absurd a4 h24 | exact absurd h24 a4
      · refine zi_aload0 (n := 28) dX6_when_27 rfl ?_
        refine zg_X6_6 (n := 31) dX6_when_28 rfl zl_X6_48 ?_
        refine zi_iload1 (n := 32) dX6_when_31 rfl ?_
        refine zi_V1s (mj := zm_X2_firstBitten) (n := 35) dX6_when_32 rfl zl_X6_207 zy_X2_firstBitten (zrc_X2 _ _) (by decide) (Nat.le_of_ble_eq_true rfl) (zra (j := 4) (c_X2_firstBitten (S := Q 4) hn h6)) ?_
        refine zi_goto (tgt := 48) dX6_when_35 (by decide) ?_
        exact zi_iret dX6_when_48 rfl (by rfl) (by rfl)
    · first | exact absurd a3 h17 | exact absurd h17 a3
set_option maxHeartbeats 4000000 in
set_option maxRecDepth 100000 in
theorem x_when_1 (hn : Q 1 0 0 = nI n) (h6 : n ≤ 6) {p : Nat} (hp : p < n) : zCT E 5 zm_X6_when [.ref (zad E 145), .int (nI p), .int (nI 1)] (Q, Z) (some (.int (zfnL n (nI 1 <<< (nI p &&& 31)) 61 0 (takeC (Q 4) (Q 1))).1)) (va_up Q 4 (zfnL n (nI 1 <<< (nI p &&& 31)) 61 0 (takeC (Q 4) (Q 1))).2, Z) := by
  refine zCT.of (by decide +kernel) (Nat.le_of_ble_eq_true rfl) ?_
  have a1 := zhas hn h6 hp
  have a3 : nI 0 ≤ nI 1 ∧ nI 1 ≤ nI 1 := by decide
  have a4 : ¬ nI 1 = 0 := by decide
  refine zi_aload0 (n := 1) dX6_when_0 rfl ?_
  refine zg_X6_2 (n := 4) dX6_when_1 rfl zl_X6_26 ?_
  refine zi_iload1 (n := 5) dX6_when_4 rfl ?_
  refine zi_V1s (mj := zm_X4_has) (n := 8) dX6_when_5 rfl zl_X6_153 zy_X4_has (zrc_sq _ _ (by omega)) (by decide) (Nat.le_of_ble_eq_true rfl) (zrr (j := 1) (c_X4_has (S := Q 1) (j := 1) (by decide))) ?_
  refine zi_ifeq_b (n := 11) (tgt := 20) dX6_when_8 rfl (by decide) (fun h8 => ?_) (fun h8 => ?_)
  · first | exact absurd a1 h8 | exact absurd h8 a1
  · refine zi_iload2 (n := 12) dX6_when_11 rfl ?_
    refine zi_iconst (n := 13) (nI 0) dX6_when_12 rfl (by decide) ?_
    refine zi_iconst (n := 14) (nI 1) dX6_when_13 rfl (by decide) ?_
    refine zi_S3s (mj := zm_X6_within) (n := 17) dX6_when_14 rfl zl_X6_63 zy_X6_within (by decide) (Nat.le_of_ble_eq_true rfl) (c_X6_within) ?_
    refine zi_ifne_b (n := 20) (tgt := 23) dX6_when_17 rfl (by decide) (fun h17 => ?_) (fun h17 => ?_)
    · refine zi_iload2 (n := 24) dX6_when_23 rfl ?_
      refine zi_ifne (n := 27) (tgt := 38) dX6_when_24 rfl (by decide) (fun h24 => ?_) (fun h24 => ?_)
      · refine zi_aload0 (n := 39) dX6_when_38 rfl ?_
        refine zg_X6_6 (n := 42) dX6_when_39 rfl zl_X6_48 ?_
        refine zi_iconst (n := 43) (nI 1) dX6_when_42 rfl (by decide) ?_
        refine zi_iload1 (n := 44) dX6_when_43 rfl ?_
        refine zi_ishl (n := 45) dX6_when_44 rfl ?_
        refine zi_V1s (mj := zm_X2_firstNameless) (n := 48) dX6_when_45 rfl zl_X6_210 zy_X2_firstNameless (zrc_X2 _ _) (by decide) (Nat.le_of_ble_eq_true rfl) (zra (j := 4) (c_X2_firstNameless (S := Q 4) hn h6)) ?_
        exact zi_iret dX6_when_48 rfl (by rfl) (by rfl)
      · first | exact absurd a4 h24 | exact absurd h24 a4
    · first | exact absurd a3 h17 | exact absurd h17 a3
set_option maxHeartbeats 4000000 in
set_option maxRecDepth 100000 in
theorem x_over_state  (h0 : Q 1 0 0 = 0) : zCT E 5 zm_X6_over [.ref (zad E 145)] (Q, Z) (some (.int zSTATE)) (Q, Z) := by
  refine zCT.of (by decide +kernel) (Nat.le_of_ble_eq_true rfl) ?_
  refine zi_aload0 (n := 1) dX6_over_0 rfl ?_
  refine zg_X6_2 (n := 4) dX6_over_1 rfl zl_X6_26 ?_
  refine zgN_X4_0 (n := 7) dX6_over_4 rfl zl_X6_131 (by omega) rfl ?_
  refine zi_ifne (n := 10) (tgt := 13) dX6_over_7 rfl (by decide) (fun h7 => ?_) (fun h7 => ?_)
  · first | exact absurd h0 h7 | exact absurd h7 h0
  · refine zi_ldc (n := 12) dX6_over_10 rfl zl_X6_137 ?_
    exact zi_iret dX6_over_12 rfl (by rfl) (by rfl)
set_option maxHeartbeats 4000000 in
set_option maxRecDepth 100000 in
theorem x_over_ok (hn : Q 1 0 0 = nI n) (h6 : n ≤ 6) (h0 : ¬ Q 1 0 0 = 0) : zCT E 5 zm_X6_over [.ref (zad E 145)] (Q, Z) (some (.int (zfnL n (allC (Q 1)) 61 0 (takeC (Q 4) (Q 1))).1)) (va_up Q 4 (zfnL n (allC (Q 1)) 61 0 (takeC (Q 4) (Q 1))).2, Z) := by
  refine zCT.of (by decide +kernel) (Nat.le_of_ble_eq_true rfl) ?_
  refine zi_aload0 (n := 1) dX6_over_0 rfl ?_
  refine zg_X6_2 (n := 4) dX6_over_1 rfl zl_X6_26 ?_
  refine zgN_X4_0 (n := 7) dX6_over_4 rfl zl_X6_131 (by omega) rfl ?_
  refine zi_ifne (n := 10) (tgt := 13) dX6_over_7 rfl (by decide) (fun h7 => ?_) (fun h7 => ?_)
  · refine zi_aload0 (n := 14) dX6_over_13 rfl ?_
    refine zg_X6_6 (n := 17) dX6_over_14 rfl zl_X6_48 ?_
    refine zi_aload0 (n := 18) dX6_over_17 rfl ?_
    refine zg_X6_2 (n := 21) dX6_over_18 rfl zl_X6_26 ?_
    refine zi_V0s (mj := zm_X4_allBits) (n := 24) dX6_over_21 rfl zl_X6_213 zy_X4_allBits (zrc_sq _ _ (by omega)) (by decide) (Nat.le_of_ble_eq_true rfl) (zrr (j := 1) (c_X4_allBits (S := Q 1) (j := 1) (by decide))) ?_
    refine zi_V1s (mj := zm_X2_firstNameless) (n := 27) dX6_over_24 rfl zl_X6_210 zy_X2_firstNameless (zrc_X2 _ _) (by decide) (Nat.le_of_ble_eq_true rfl) (zra (j := 4) (c_X2_firstNameless (S := Q 4) hn h6)) ?_
    exact zi_iret dX6_over_27 rfl (by rfl) (by rfl)
  · first | exact absurd h0 h7 | exact absurd h7 h0
set_option maxHeartbeats 4000000 in
set_option maxRecDepth 100000 in
theorem x_spot_bad {x y w : Int32} (hb : ¬ ((¬ x < 0 ∧ ¬ Q 1 0 0 ≤ x) ∧ (nI 1 ≤ y ∧ y ≤ nI 60) ∧ (nI 0 ≤ w ∧ w ≤ nI 1))) : zCT E 7 zm_X6_spot [.ref (zad E 145), .int x, .int y, .int w] (Q, Z) (some (.int zBAD)) (Q, Z) := by
  refine zCT.of (by decide +kernel) (Nat.le_of_ble_eq_true rfl) ?_
  refine zi_aload0 (n := 1) dX6_spot_0 rfl ?_
  refine zg_X6_2 (n := 4) dX6_spot_1 rfl zl_X6_26 ?_
  refine zi_iload1 (n := 5) dX6_spot_4 rfl ?_
  refine zi_V1s (mj := zm_X4_has) (n := 8) dX6_spot_5 rfl zl_X6_153 zy_X4_has (zrc_sq _ _ (by omega)) (by decide) (Nat.le_of_ble_eq_true rfl) (zrr (j := 1) (c_X4_has (S := Q 1) (j := 1) (by decide))) ?_
  refine zi_ifeq_b (n := 11) (tgt := 30) dX6_spot_8 rfl (by decide) (fun h8 => ?_) (fun h8 => ?_)
  · refine zi_ldc (n := 32) dX6_spot_30 rfl zl_X6_67 ?_
    exact zi_iret dX6_spot_32 rfl (by rfl) (by rfl)
  · refine zi_iload2 (n := 12) dX6_spot_11 rfl ?_
    refine zi_iconst (n := 13) (nI 1) dX6_spot_12 rfl (by decide) ?_
    refine zi_bipush (n := 15) (nI 60) dX6_spot_13 rfl (by decide) ?_
    refine zi_S3s (mj := zm_X6_within) (n := 18) dX6_spot_15 rfl zl_X6_63 zy_X6_within (by decide) (Nat.le_of_ble_eq_true rfl) (c_X6_within) ?_
    refine zi_ifeq_b (n := 21) (tgt := 30) dX6_spot_18 rfl (by decide) (fun h18 => ?_) (fun h18 => ?_)
    · refine zi_ldc (n := 32) dX6_spot_30 rfl zl_X6_67 ?_
      exact zi_iret dX6_spot_32 rfl (by rfl) (by rfl)
    · refine zi_iload3 (n := 22) dX6_spot_21 rfl ?_
      refine zi_iconst (n := 23) (nI 0) dX6_spot_22 rfl (by decide) ?_
      refine zi_iconst (n := 24) (nI 1) dX6_spot_23 rfl (by decide) ?_
      refine zi_S3s (mj := zm_X6_within) (n := 27) dX6_spot_24 rfl zl_X6_63 zy_X6_within (by decide) (Nat.le_of_ble_eq_true rfl) (c_X6_within) ?_
      refine zi_ifne_b (n := 30) (tgt := 33) dX6_spot_27 rfl (by decide) (fun h27 => ?_) (fun h27 => ?_)
      · exact absurd ⟨h8, h18, h27⟩ hb
      · refine zi_ldc (n := 32) dX6_spot_30 rfl zl_X6_67 ?_
        exact zi_iret dX6_spot_32 rfl (by rfl) (by rfl)
set_option maxHeartbeats 4000000 in
set_option maxRecDepth 100000 in
theorem x_spot_0 (hn : Q 1 0 0 = nI n) (h6 : n ≤ 6) {p : Nat} (hp : p < n) {m : Nat} (hm1 : 1 ≤ m) (hm2 : m ≤ 60) : zCT E 7 zm_X6_spot [.ref (zad E 145), .int (nI p), .int (nI m), .int (nI 0)] (Q, Z) (some (.int (zbpL (Q 1) n p m 10 0 (nI 0) (-1) (Q 4)).1)) (va_up Q 4 (zbpL (Q 1) n p m 10 0 (nI 0) (-1) (Q 4)).2, Z) := by
  refine zCT.of (by decide +kernel) (Nat.le_of_ble_eq_true rfl) ?_
  have a1 := zhas hn h6 hp
  have a2 := zrg hm1 hm2 (by decide)
  have a3 : nI 0 ≤ nI 0 ∧ nI 0 ≤ nI 1 := by decide
  have a4 : nI 0 = 0 := by decide
  refine zi_aload0 (n := 1) dX6_spot_0 rfl ?_
  refine zg_X6_2 (n := 4) dX6_spot_1 rfl zl_X6_26 ?_
  refine zi_iload1 (n := 5) dX6_spot_4 rfl ?_
  refine zi_V1s (mj := zm_X4_has) (n := 8) dX6_spot_5 rfl zl_X6_153 zy_X4_has (zrc_sq _ _ (by omega)) (by decide) (Nat.le_of_ble_eq_true rfl) (zrr (j := 1) (c_X4_has (S := Q 1) (j := 1) (by decide))) ?_
  refine zi_ifeq_b (n := 11) (tgt := 30) dX6_spot_8 rfl (by decide) (fun h8 => ?_) (fun h8 => ?_)
  · first | exact absurd a1 h8 | exact absurd h8 a1
  · refine zi_iload2 (n := 12) dX6_spot_11 rfl ?_
    refine zi_iconst (n := 13) (nI 1) dX6_spot_12 rfl (by decide) ?_
    refine zi_bipush (n := 15) (nI 60) dX6_spot_13 rfl (by decide) ?_
    refine zi_S3s (mj := zm_X6_within) (n := 18) dX6_spot_15 rfl zl_X6_63 zy_X6_within (by decide) (Nat.le_of_ble_eq_true rfl) (c_X6_within) ?_
    refine zi_ifeq_b (n := 21) (tgt := 30) dX6_spot_18 rfl (by decide) (fun h18 => ?_) (fun h18 => ?_)
    · first | exact absurd a2 h18 | exact absurd h18 a2
    · refine zi_iload3 (n := 22) dX6_spot_21 rfl ?_
      refine zi_iconst (n := 23) (nI 0) dX6_spot_22 rfl (by decide) ?_
      refine zi_iconst (n := 24) (nI 1) dX6_spot_23 rfl (by decide) ?_
      refine zi_S3s (mj := zm_X6_within) (n := 27) dX6_spot_24 rfl zl_X6_63 zy_X6_within (by decide) (Nat.le_of_ble_eq_true rfl) (c_X6_within) ?_
      refine zi_ifne_b (n := 30) (tgt := 33) dX6_spot_27 rfl (by decide) (fun h27 => ?_) (fun h27 => ?_)
      · refine zi_aload0 (n := 34) dX6_spot_33 rfl ?_
        refine zg_X6_6 (n := 37) dX6_spot_34 rfl zl_X6_48 ?_
        refine zi_iload1 (n := 38) dX6_spot_37 rfl ?_
        refine zi_iload2 (n := 39) dX6_spot_38 rfl ?_
        refine zi_V2s (mj := zm_X2_bestPlace) (n := 42) dX6_spot_39 rfl zl_X6_216 zy_X2_bestPlace (zrc_X2 _ _) (by decide) (Nat.le_of_ble_eq_true rfl) (zra (j := 4) (c_X2_bestPlace (S := Q 4) hn h6 (by omega) (by omega))) ?_
        refine zi_istore4 (n := 44) dX6_spot_42 rfl (by decide) rfl ?_
        refine zi_iload3 (n := 45) dX6_spot_44 rfl ?_
        refine zi_ifne (n := 48) (tgt := 53) dX6_spot_45 rfl (by decide) (fun h45 => ?_) (fun h45 => ?_)
        · first | exact absurd a4 h45 | exact absurd h45 a4
        · refine zi_iload4 (n := 50) dX6_spot_48 rfl ?_
          refine zi_goto (tgt := 64) dX6_spot_50 (by decide) ?_
          exact zi_iret dX6_spot_64 rfl (by rfl) (by rfl)
      · first | exact absurd a3 h27 | exact absurd h27 a3
set_option maxHeartbeats 4000000 in
set_option maxRecDepth 100000 in
theorem x_spot_1 (hn : Q 1 0 0 = nI n) (h6 : n ≤ 6) {p : Nat} (hp : p < n) {m : Nat} (hm1 : 1 ≤ m) (hm2 : m ≤ 60) : zCT E 7 zm_X6_spot [.ref (zad E 145), .int (nI p), .int (nI m), .int (nI 1)] (Q, Z) (some (.int (zlf (zbpL (Q 1) n p m 10 0 (nI 0) (-1) (Q 4)).2 (Q 1) n p (zbpL (Q 1) n p m 10 0 (nI 0) (-1) (Q 4)).1 m 4 p))) (va_up Q 4 (zlf (zbpL (Q 1) n p m 10 0 (nI 0) (-1) (Q 4)).2 (Q 1) n p (zbpL (Q 1) n p m 10 0 (nI 0) (-1) (Q 4)).1 m), Z) := by
  refine zCT.of (by decide +kernel) (Nat.le_of_ble_eq_true rfl) ?_
  have a1 := zhas hn h6 hp
  have a2 := zrg hm1 hm2 (by decide)
  have a3 : nI 0 ≤ nI 1 ∧ nI 1 ≤ nI 1 := by decide
  have a4 : ¬ nI 1 = 0 := by decide
  refine zi_aload0 (n := 1) dX6_spot_0 rfl ?_
  refine zg_X6_2 (n := 4) dX6_spot_1 rfl zl_X6_26 ?_
  refine zi_iload1 (n := 5) dX6_spot_4 rfl ?_
  refine zi_V1s (mj := zm_X4_has) (n := 8) dX6_spot_5 rfl zl_X6_153 zy_X4_has (zrc_sq _ _ (by omega)) (by decide) (Nat.le_of_ble_eq_true rfl) (zrr (j := 1) (c_X4_has (S := Q 1) (j := 1) (by decide))) ?_
  refine zi_ifeq_b (n := 11) (tgt := 30) dX6_spot_8 rfl (by decide) (fun h8 => ?_) (fun h8 => ?_)
  · first | exact absurd a1 h8 | exact absurd h8 a1
  · refine zi_iload2 (n := 12) dX6_spot_11 rfl ?_
    refine zi_iconst (n := 13) (nI 1) dX6_spot_12 rfl (by decide) ?_
    refine zi_bipush (n := 15) (nI 60) dX6_spot_13 rfl (by decide) ?_
    refine zi_S3s (mj := zm_X6_within) (n := 18) dX6_spot_15 rfl zl_X6_63 zy_X6_within (by decide) (Nat.le_of_ble_eq_true rfl) (c_X6_within) ?_
    refine zi_ifeq_b (n := 21) (tgt := 30) dX6_spot_18 rfl (by decide) (fun h18 => ?_) (fun h18 => ?_)
    · first | exact absurd a2 h18 | exact absurd h18 a2
    · refine zi_iload3 (n := 22) dX6_spot_21 rfl ?_
      refine zi_iconst (n := 23) (nI 0) dX6_spot_22 rfl (by decide) ?_
      refine zi_iconst (n := 24) (nI 1) dX6_spot_23 rfl (by decide) ?_
      refine zi_S3s (mj := zm_X6_within) (n := 27) dX6_spot_24 rfl zl_X6_63 zy_X6_within (by decide) (Nat.le_of_ble_eq_true rfl) (c_X6_within) ?_
      refine zi_ifne_b (n := 30) (tgt := 33) dX6_spot_27 rfl (by decide) (fun h27 => ?_) (fun h27 => ?_)
      · refine zi_aload0 (n := 34) dX6_spot_33 rfl ?_
        refine zg_X6_6 (n := 37) dX6_spot_34 rfl zl_X6_48 ?_
        refine zi_iload1 (n := 38) dX6_spot_37 rfl ?_
        refine zi_iload2 (n := 39) dX6_spot_38 rfl ?_
        refine zi_V2s (mj := zm_X2_bestPlace) (n := 42) dX6_spot_39 rfl zl_X6_216 zy_X2_bestPlace (zrc_X2 _ _) (by decide) (Nat.le_of_ble_eq_true rfl) (zra (j := 4) (c_X2_bestPlace (S := Q 4) hn h6 (by omega) (by omega))) ?_
        refine zi_istore4 (n := 44) dX6_spot_42 rfl (by decide) rfl ?_
        refine zi_iload3 (n := 45) dX6_spot_44 rfl ?_
        refine zi_ifne (n := 48) (tgt := 53) dX6_spot_45 rfl (by decide) (fun h45 => ?_) (fun h45 => ?_)
        · refine zi_aload0 (n := 54) dX6_spot_53 rfl ?_
          refine zg_X6_6 (n := 57) dX6_spot_54 rfl zl_X6_48 ?_
          refine zi_iload1 (n := 58) dX6_spot_57 rfl ?_
          refine zi_iload4 (n := 60) dX6_spot_58 rfl ?_
          refine zi_iload2 (n := 61) dX6_spot_60 rfl ?_
          refine zi_V3s (mj := zm_X2_lettersFrom) (n := 64) dX6_spot_61 rfl zl_X6_220 zy_X2_lettersFrom (zrc_X2 _ _) (by decide) (Nat.le_of_ble_eq_true rfl) (c_X2_lettersFrom (S := (zbpL (Q 1) n p m 10 0 (nI 0) (-1) (Q 4)).2) hn h6 (by omega) (by omega)) ?_
          exact zi_iret dX6_spot_64 rfl (by rfl) (by rfl)
        · first | exact absurd a4 h45 | exact absurd h45 a4
      · first | exact absurd a3 h27 | exact absurd h27 a3
set_option maxHeartbeats 4000000 in
set_option maxRecDepth 100000 in
theorem x_decoy_bad {x y w : Int32} (hb : ¬ ((¬ x < 0 ∧ ¬ Q 1 0 0 ≤ x) ∧ (¬ y < 0 ∧ ¬ Q 1 0 0 ≤ y) ∧ ¬ x = y ∧ (nI 1 ≤ w ∧ w ≤ nI 40))) : zCT E 6 zm_X6_decoy [.ref (zad E 145), .int x, .int y, .int w] (Q, Z) (some (.int zBAD)) (Q, Z) := by
  refine zCT.of (by decide +kernel) (Nat.le_of_ble_eq_true rfl) ?_
  refine zi_aload0 (n := 1) dX6_decoy_0 rfl ?_
  refine zg_X6_2 (n := 4) dX6_decoy_1 rfl zl_X6_26 ?_
  refine zi_iload1 (n := 5) dX6_decoy_4 rfl ?_
  refine zi_V1s (mj := zm_X4_has) (n := 8) dX6_decoy_5 rfl zl_X6_153 zy_X4_has (zrc_sq _ _ (by omega)) (by decide) (Nat.le_of_ble_eq_true rfl) (zrr (j := 1) (c_X4_has (S := Q 1) (j := 1) (by decide))) ?_
  refine zi_ifeq_b (n := 11) (tgt := 37) dX6_decoy_8 rfl (by decide) (fun h8 => ?_) (fun h8 => ?_)
  · refine zi_ldc (n := 39) dX6_decoy_37 rfl zl_X6_67 ?_
    exact zi_iret dX6_decoy_39 rfl (by rfl) (by rfl)
  · refine zi_aload0 (n := 12) dX6_decoy_11 rfl ?_
    refine zg_X6_2 (n := 15) dX6_decoy_12 rfl zl_X6_26 ?_
    refine zi_iload2 (n := 16) dX6_decoy_15 rfl ?_
    refine zi_V1s (mj := zm_X4_has) (n := 19) dX6_decoy_16 rfl zl_X6_153 zy_X4_has (zrc_sq _ _ (by omega)) (by decide) (Nat.le_of_ble_eq_true rfl) (zrr (j := 1) (c_X4_has (S := Q 1) (j := 1) (by decide))) ?_
    refine zi_ifeq_b (n := 22) (tgt := 37) dX6_decoy_19 rfl (by decide) (fun h19 => ?_) (fun h19 => ?_)
    · refine zi_ldc (n := 39) dX6_decoy_37 rfl zl_X6_67 ?_
      exact zi_iret dX6_decoy_39 rfl (by rfl) (by rfl)
    · refine zi_iload1 (n := 23) dX6_decoy_22 rfl ?_
      refine zi_iload2 (n := 24) dX6_decoy_23 rfl ?_
      refine zi_iceq (n := 27) (tgt := 37) dX6_decoy_24 rfl (by decide) (fun h24 => ?_) (fun h24 => ?_)
      · refine zi_ldc (n := 39) dX6_decoy_37 rfl zl_X6_67 ?_
        exact zi_iret dX6_decoy_39 rfl (by rfl) (by rfl)
      · refine zi_iload3 (n := 28) dX6_decoy_27 rfl ?_
        refine zi_iconst (n := 29) (nI 1) dX6_decoy_28 rfl (by decide) ?_
        refine zi_bipush (n := 31) (nI 40) dX6_decoy_29 rfl (by decide) ?_
        refine zi_S3s (mj := zm_X6_within) (n := 34) dX6_decoy_31 rfl zl_X6_63 zy_X6_within (by decide) (Nat.le_of_ble_eq_true rfl) (c_X6_within) ?_
        refine zi_ifne_b (n := 37) (tgt := 40) dX6_decoy_34 rfl (by decide) (fun h34 => ?_) (fun h34 => ?_)
        · exact absurd ⟨h8, h19, h24, h34⟩ hb
        · refine zi_ldc (n := 39) dX6_decoy_37 rfl zl_X6_67 ?_
          exact zi_iret dX6_decoy_39 rfl (by rfl) (by rfl)
set_option maxHeartbeats 4000000 in
set_option maxRecDepth 100000 in
theorem x_decoy_ok (hn : Q 1 0 0 = nI n) (h6 : n ≤ 6) {p : Nat} (hp : p < n) {o : Nat} (ho : o < n) (hpo : p ≠ o) {m : Nat} (hm1 : 1 ≤ m) (hm2 : m ≤ 40) : zCT E 6 zm_X6_decoy [.ref (zad E 145), .int (nI p), .int (nI o), .int (nI m)] (Q, Z) (some (.int (zdcL (Q 1) n p o m 9 1 (Q 4)).1)) (va_up Q 4 (zdcL (Q 1) n p o m 9 1 (Q 4)).2, Z) := by
  refine zCT.of (by decide +kernel) (Nat.le_of_ble_eq_true rfl) ?_
  have a1 := zhas hn h6 hp
  have a2 := zrg hm1 hm2 (by decide)
  have a3 := zhas hn h6 ho
  have a4 : ¬ nI p = nI o := fun zz => hpo ((nI_eq (by omega) (by omega)).mp zz)
  refine zi_aload0 (n := 1) dX6_decoy_0 rfl ?_
  refine zg_X6_2 (n := 4) dX6_decoy_1 rfl zl_X6_26 ?_
  refine zi_iload1 (n := 5) dX6_decoy_4 rfl ?_
  refine zi_V1s (mj := zm_X4_has) (n := 8) dX6_decoy_5 rfl zl_X6_153 zy_X4_has (zrc_sq _ _ (by omega)) (by decide) (Nat.le_of_ble_eq_true rfl) (zrr (j := 1) (c_X4_has (S := Q 1) (j := 1) (by decide))) ?_
  refine zi_ifeq_b (n := 11) (tgt := 37) dX6_decoy_8 rfl (by decide) (fun h8 => ?_) (fun h8 => ?_)
  · first | exact absurd a1 h8 | exact absurd h8 a1
  · refine zi_aload0 (n := 12) dX6_decoy_11 rfl ?_
    refine zg_X6_2 (n := 15) dX6_decoy_12 rfl zl_X6_26 ?_
    refine zi_iload2 (n := 16) dX6_decoy_15 rfl ?_
    refine zi_V1s (mj := zm_X4_has) (n := 19) dX6_decoy_16 rfl zl_X6_153 zy_X4_has (zrc_sq _ _ (by omega)) (by decide) (Nat.le_of_ble_eq_true rfl) (zrr (j := 1) (c_X4_has (S := Q 1) (j := 1) (by decide))) ?_
    refine zi_ifeq_b (n := 22) (tgt := 37) dX6_decoy_19 rfl (by decide) (fun h19 => ?_) (fun h19 => ?_)
    · first | exact absurd a3 h19 | exact absurd h19 a3
    · refine zi_iload1 (n := 23) dX6_decoy_22 rfl ?_
      refine zi_iload2 (n := 24) dX6_decoy_23 rfl ?_
      refine zi_iceq (n := 27) (tgt := 37) dX6_decoy_24 rfl (by decide) (fun h24 => ?_) (fun h24 => ?_)
      · first | exact absurd a4 h24 | exact absurd h24 a4
      · refine zi_iload3 (n := 28) dX6_decoy_27 rfl ?_
        refine zi_iconst (n := 29) (nI 1) dX6_decoy_28 rfl (by decide) ?_
        refine zi_bipush (n := 31) (nI 40) dX6_decoy_29 rfl (by decide) ?_
        refine zi_S3s (mj := zm_X6_within) (n := 34) dX6_decoy_31 rfl zl_X6_63 zy_X6_within (by decide) (Nat.le_of_ble_eq_true rfl) (c_X6_within) ?_
        refine zi_ifne_b (n := 37) (tgt := 40) dX6_decoy_34 rfl (by decide) (fun h34 => ?_) (fun h34 => ?_)
        · refine zi_aload0 (n := 41) dX6_decoy_40 rfl ?_
          refine zg_X6_6 (n := 44) dX6_decoy_41 rfl zl_X6_48 ?_
          refine zi_iload1 (n := 45) dX6_decoy_44 rfl ?_
          refine zi_iload2 (n := 46) dX6_decoy_45 rfl ?_
          refine zi_iload3 (n := 47) dX6_decoy_46 rfl ?_
          refine zi_V3s (mj := zm_X2_leastDecoy) (n := 50) dX6_decoy_47 rfl zl_X6_223 zy_X2_leastDecoy (zrc_X2 _ _) (by decide) (Nat.le_of_ble_eq_true rfl) (zra (j := 4) (c_X2_leastDecoy (S := Q 4) hn h6 (by omega) (by omega) (by omega))) ?_
          exact zi_iret dX6_decoy_50 rfl (by rfl) (by rfl)
        · first | exact absurd a2 h34 | exact absurd h34 a2
set_option maxHeartbeats 4000000 in
set_option maxRecDepth 100000 in
theorem x_hides_state {x y : Int32} (h0 : Q 1 0 0 = 0) : zCT E 7 zm_X6_hides [.ref (zad E 145), .int x, .int y] (Q, Z) (some (.int zSTATE)) (Q, Z) := by
  refine zCT.of (by decide +kernel) (Nat.le_of_ble_eq_true rfl) ?_
  refine zi_aload0 (n := 1) dX6_hides_0 rfl ?_
  refine zg_X6_2 (n := 4) dX6_hides_1 rfl zl_X6_26 ?_
  refine zgN_X4_0 (n := 7) dX6_hides_4 rfl zl_X6_131 (by omega) rfl ?_
  refine zi_ifne (n := 10) (tgt := 13) dX6_hides_7 rfl (by decide) (fun h7 => ?_) (fun h7 => ?_)
  · first | exact absurd h0 h7 | exact absurd h7 h0
  · refine zi_ldc (n := 12) dX6_hides_10 rfl zl_X6_137 ?_
    exact zi_iret dX6_hides_12 rfl (by rfl) (by rfl)
set_option maxHeartbeats 4000000 in
set_option maxRecDepth 100000 in
theorem x_hides_bad {x y : Int32} (h0 : ¬ Q 1 0 0 = 0) (hb : ¬ ((nI 1 ≤ x ∧ x ≤ nI 40) ∧ (nI 0 ≤ y ∧ y ≤ nI 1))) : zCT E 7 zm_X6_hides [.ref (zad E 145), .int x, .int y] (Q, Z) (some (.int zBAD)) (Q, Z) := by
  refine zCT.of (by decide +kernel) (Nat.le_of_ble_eq_true rfl) ?_
  refine zi_aload0 (n := 1) dX6_hides_0 rfl ?_
  refine zg_X6_2 (n := 4) dX6_hides_1 rfl zl_X6_26 ?_
  refine zgN_X4_0 (n := 7) dX6_hides_4 rfl zl_X6_131 (by omega) rfl ?_
  refine zi_ifne (n := 10) (tgt := 13) dX6_hides_7 rfl (by decide) (fun h7 => ?_) (fun h7 => ?_)
  · refine zi_iload1 (n := 14) dX6_hides_13 rfl ?_
    refine zi_iconst (n := 15) (nI 1) dX6_hides_14 rfl (by decide) ?_
    refine zi_bipush (n := 17) (nI 40) dX6_hides_15 rfl (by decide) ?_
    refine zi_S3s (mj := zm_X6_within) (n := 20) dX6_hides_17 rfl zl_X6_63 zy_X6_within (by decide) (Nat.le_of_ble_eq_true rfl) (c_X6_within) ?_
    refine zi_ifeq_b (n := 23) (tgt := 32) dX6_hides_20 rfl (by decide) (fun h20 => ?_) (fun h20 => ?_)
    · refine zi_ldc (n := 34) dX6_hides_32 rfl zl_X6_67 ?_
      exact zi_iret dX6_hides_34 rfl (by rfl) (by rfl)
    · refine zi_iload2 (n := 24) dX6_hides_23 rfl ?_
      refine zi_iconst (n := 25) (nI 0) dX6_hides_24 rfl (by decide) ?_
      refine zi_iconst (n := 26) (nI 1) dX6_hides_25 rfl (by decide) ?_
      refine zi_S3s (mj := zm_X6_within) (n := 29) dX6_hides_26 rfl zl_X6_63 zy_X6_within (by decide) (Nat.le_of_ble_eq_true rfl) (c_X6_within) ?_
      refine zi_ifne_b (n := 32) (tgt := 35) dX6_hides_29 rfl (by decide) (fun h29 => ?_) (fun h29 => ?_)
      · exact absurd ⟨h20, h29⟩ hb
      · refine zi_ldc (n := 34) dX6_hides_32 rfl zl_X6_67 ?_
        exact zi_iret dX6_hides_34 rfl (by rfl) (by rfl)
  · first | exact absurd h0 h7 | exact absurd h7 h0
set_option maxHeartbeats 4000000 in
set_option maxRecDepth 100000 in
theorem x_hides_0 (hn : Q 1 0 0 = nI n) (h6 : n ≤ 6) (h0 : ¬ Q 1 0 0 = 0) {m : Nat} (hm1 : 1 ≤ m) (hm2 : m ≤ 40) : zCT E 7 zm_X6_hides [.ref (zad E 145), .int (nI m), .int (nI 0)] (Q, Z) (some (.int (zbc (zfhL (Q 1) n m (2 ^ n - 1) 0 (nI (2 ^ n - 1)) (Q 4)).1))) (va_up Q 4 (zfhL (Q 1) n m (2 ^ n - 1) 0 (nI (2 ^ n - 1)) (Q 4)).2, Z) := by
  refine zCT.of (by decide +kernel) (Nat.le_of_ble_eq_true rfl) ?_
  have a2 := zrg hm1 hm2 (by decide)
  have a3 : nI 0 ≤ nI 0 ∧ nI 0 ≤ nI 1 := by decide
  have a4 : nI 0 = 0 := by decide
  refine zi_aload0 (n := 1) dX6_hides_0 rfl ?_
  refine zg_X6_2 (n := 4) dX6_hides_1 rfl zl_X6_26 ?_
  refine zgN_X4_0 (n := 7) dX6_hides_4 rfl zl_X6_131 (by omega) rfl ?_
  refine zi_ifne (n := 10) (tgt := 13) dX6_hides_7 rfl (by decide) (fun h7 => ?_) (fun h7 => ?_)
  · refine zi_iload1 (n := 14) dX6_hides_13 rfl ?_
    refine zi_iconst (n := 15) (nI 1) dX6_hides_14 rfl (by decide) ?_
    refine zi_bipush (n := 17) (nI 40) dX6_hides_15 rfl (by decide) ?_
    refine zi_S3s (mj := zm_X6_within) (n := 20) dX6_hides_17 rfl zl_X6_63 zy_X6_within (by decide) (Nat.le_of_ble_eq_true rfl) (c_X6_within) ?_
    refine zi_ifeq_b (n := 23) (tgt := 32) dX6_hides_20 rfl (by decide) (fun h20 => ?_) (fun h20 => ?_)
    · first | exact absurd a2 h20 | exact absurd h20 a2
    · refine zi_iload2 (n := 24) dX6_hides_23 rfl ?_
      refine zi_iconst (n := 25) (nI 0) dX6_hides_24 rfl (by decide) ?_
      refine zi_iconst (n := 26) (nI 1) dX6_hides_25 rfl (by decide) ?_
      refine zi_S3s (mj := zm_X6_within) (n := 29) dX6_hides_26 rfl zl_X6_63 zy_X6_within (by decide) (Nat.le_of_ble_eq_true rfl) (c_X6_within) ?_
      refine zi_ifne_b (n := 32) (tgt := 35) dX6_hides_29 rfl (by decide) (fun h29 => ?_) (fun h29 => ?_)
      · refine zi_aload0 (n := 36) dX6_hides_35 rfl ?_
        refine zg_X6_6 (n := 39) dX6_hides_36 rfl zl_X6_48 ?_
        refine zi_iload1 (n := 40) dX6_hides_39 rfl ?_
        refine zi_V1s (mj := zm_X2_fewestHidden) (n := 43) dX6_hides_40 rfl zl_X6_226 zy_X2_fewestHidden (zrc_X2 _ _) (by decide) (Nat.le_of_ble_eq_true rfl) (zra (j := 4) (c_X2_fewestHidden (S := Q 4) hn h6 (by omega))) ?_
        refine zi_istore3 (n := 44) dX6_hides_43 rfl (by decide) rfl ?_
        refine zi_iload2 (n := 45) dX6_hides_44 rfl ?_
        refine zi_ifne (n := 48) (tgt := 55) dX6_hides_45 rfl (by decide) (fun h45 => ?_) (fun h45 => ?_)
        · first | exact absurd a4 h45 | exact absurd h45 a4
        · refine zi_iload3 (n := 49) dX6_hides_48 rfl ?_
          refine zi_S1s (mj := zm_J6_bitCount_0f7a4) (n := 52) dX6_hides_49 rfl zl_X6_229 zy_J6_bitCount_0f7a4 (by decide) (Nat.le_of_ble_eq_true rfl) (c_J6_bitCount_0f7a4) ?_
          refine zi_goto (tgt := 56) dX6_hides_52 (by decide) ?_
          exact zi_iret dX6_hides_56 rfl (by rfl) (by rfl)
      · first | exact absurd a3 h29 | exact absurd h29 a3
  · first | exact absurd h0 h7 | exact absurd h7 h0
set_option maxHeartbeats 4000000 in
set_option maxRecDepth 100000 in
theorem x_hides_1 (hn : Q 1 0 0 = nI n) (h6 : n ≤ 6) (h0 : ¬ Q 1 0 0 = 0) {m : Nat} (hm1 : 1 ≤ m) (hm2 : m ≤ 40) : zCT E 7 zm_X6_hides [.ref (zad E 145), .int (nI m), .int (nI 1)] (Q, Z) (some (.int (zfhL (Q 1) n m (2 ^ n - 1) 0 (nI (2 ^ n - 1)) (Q 4)).1)) (va_up Q 4 (zfhL (Q 1) n m (2 ^ n - 1) 0 (nI (2 ^ n - 1)) (Q 4)).2, Z) := by
  refine zCT.of (by decide +kernel) (Nat.le_of_ble_eq_true rfl) ?_
  have a2 := zrg hm1 hm2 (by decide)
  have a3 : nI 0 ≤ nI 1 ∧ nI 1 ≤ nI 1 := by decide
  have a4 : ¬ nI 1 = 0 := by decide
  refine zi_aload0 (n := 1) dX6_hides_0 rfl ?_
  refine zg_X6_2 (n := 4) dX6_hides_1 rfl zl_X6_26 ?_
  refine zgN_X4_0 (n := 7) dX6_hides_4 rfl zl_X6_131 (by omega) rfl ?_
  refine zi_ifne (n := 10) (tgt := 13) dX6_hides_7 rfl (by decide) (fun h7 => ?_) (fun h7 => ?_)
  · refine zi_iload1 (n := 14) dX6_hides_13 rfl ?_
    refine zi_iconst (n := 15) (nI 1) dX6_hides_14 rfl (by decide) ?_
    refine zi_bipush (n := 17) (nI 40) dX6_hides_15 rfl (by decide) ?_
    refine zi_S3s (mj := zm_X6_within) (n := 20) dX6_hides_17 rfl zl_X6_63 zy_X6_within (by decide) (Nat.le_of_ble_eq_true rfl) (c_X6_within) ?_
    refine zi_ifeq_b (n := 23) (tgt := 32) dX6_hides_20 rfl (by decide) (fun h20 => ?_) (fun h20 => ?_)
    · first | exact absurd a2 h20 | exact absurd h20 a2
    · refine zi_iload2 (n := 24) dX6_hides_23 rfl ?_
      refine zi_iconst (n := 25) (nI 0) dX6_hides_24 rfl (by decide) ?_
      refine zi_iconst (n := 26) (nI 1) dX6_hides_25 rfl (by decide) ?_
      refine zi_S3s (mj := zm_X6_within) (n := 29) dX6_hides_26 rfl zl_X6_63 zy_X6_within (by decide) (Nat.le_of_ble_eq_true rfl) (c_X6_within) ?_
      refine zi_ifne_b (n := 32) (tgt := 35) dX6_hides_29 rfl (by decide) (fun h29 => ?_) (fun h29 => ?_)
      · refine zi_aload0 (n := 36) dX6_hides_35 rfl ?_
        refine zg_X6_6 (n := 39) dX6_hides_36 rfl zl_X6_48 ?_
        refine zi_iload1 (n := 40) dX6_hides_39 rfl ?_
        refine zi_V1s (mj := zm_X2_fewestHidden) (n := 43) dX6_hides_40 rfl zl_X6_226 zy_X2_fewestHidden (zrc_X2 _ _) (by decide) (Nat.le_of_ble_eq_true rfl) (zra (j := 4) (c_X2_fewestHidden (S := Q 4) hn h6 (by omega))) ?_
        refine zi_istore3 (n := 44) dX6_hides_43 rfl (by decide) rfl ?_
        refine zi_iload2 (n := 45) dX6_hides_44 rfl ?_
        refine zi_ifne (n := 48) (tgt := 55) dX6_hides_45 rfl (by decide) (fun h45 => ?_) (fun h45 => ?_)
        · refine zi_iload3 (n := 56) dX6_hides_55 rfl ?_
          exact zi_iret dX6_hides_56 rfl (by rfl) (by rfl)
        · first | exact absurd a4 h45 | exact absurd h45 a4
      · first | exact absurd a3 h29 | exact absurd h29 a3
  · first | exact absurd h0 h7 | exact absurd h7 h0
set_option maxHeartbeats 4000000 in
set_option maxRecDepth 100000 in
theorem x_sets_state {x y : Int32} (h0 : Q 1 0 0 = 0) : zCT E 3 zm_X6_sets [.ref (zad E 145), .int x, .int y] (Q, Z) (some (.int zSTATE)) (Q, Z) := by
  refine zCT.of (by decide +kernel) (Nat.le_of_ble_eq_true rfl) ?_
  refine zi_aload0 (n := 1) dX6_sets_0 rfl ?_
  refine zg_X6_2 (n := 4) dX6_sets_1 rfl zl_X6_26 ?_
  refine zgN_X4_0 (n := 7) dX6_sets_4 rfl zl_X6_131 (by omega) rfl ?_
  refine zi_ifne (n := 10) (tgt := 13) dX6_sets_7 rfl (by decide) (fun h7 => ?_) (fun h7 => ?_)
  · first | exact absurd h0 h7 | exact absurd h7 h0
  · refine zi_ldc (n := 12) dX6_sets_10 rfl zl_X6_137 ?_
    exact zi_iret dX6_sets_12 rfl (by rfl) (by rfl)
set_option maxHeartbeats 4000000 in
set_option maxRecDepth 100000 in
theorem x_sets_bad {x y : Int32} (h0 : ¬ Q 1 0 0 = 0) (hb : ¬ ((nI 0 ≤ x ∧ x ≤ nI 54) ∧ (nI 0 ≤ y ∧ y ≤ nI 2))) : zCT E 3 zm_X6_sets [.ref (zad E 145), .int x, .int y] (Q, Z) (some (.int zBAD)) (Q, Z) := by
  refine zCT.of (by decide +kernel) (Nat.le_of_ble_eq_true rfl) ?_
  refine zi_aload0 (n := 1) dX6_sets_0 rfl ?_
  refine zg_X6_2 (n := 4) dX6_sets_1 rfl zl_X6_26 ?_
  refine zgN_X4_0 (n := 7) dX6_sets_4 rfl zl_X6_131 (by omega) rfl ?_
  refine zi_ifne (n := 10) (tgt := 13) dX6_sets_7 rfl (by decide) (fun h7 => ?_) (fun h7 => ?_)
  · refine zi_iload1 (n := 14) dX6_sets_13 rfl ?_
    refine zi_iconst (n := 15) (nI 0) dX6_sets_14 rfl (by decide) ?_
    refine zi_bipush (n := 17) (nI 54) dX6_sets_15 rfl (by decide) ?_
    refine zi_S3s (mj := zm_X6_within) (n := 20) dX6_sets_17 rfl zl_X6_63 zy_X6_within (by decide) (Nat.le_of_ble_eq_true rfl) (c_X6_within) ?_
    refine zi_ifeq_b (n := 23) (tgt := 32) dX6_sets_20 rfl (by decide) (fun h20 => ?_) (fun h20 => ?_)
    · refine zi_ldc (n := 34) dX6_sets_32 rfl zl_X6_67 ?_
      exact zi_iret dX6_sets_34 rfl (by rfl) (by rfl)
    · refine zi_iload2 (n := 24) dX6_sets_23 rfl ?_
      refine zi_iconst (n := 25) (nI 0) dX6_sets_24 rfl (by decide) ?_
      refine zi_iconst (n := 26) (nI 2) dX6_sets_25 rfl (by decide) ?_
      refine zi_S3s (mj := zm_X6_within) (n := 29) dX6_sets_26 rfl zl_X6_63 zy_X6_within (by decide) (Nat.le_of_ble_eq_true rfl) (c_X6_within) ?_
      refine zi_ifne_b (n := 32) (tgt := 35) dX6_sets_29 rfl (by decide) (fun h29 => ?_) (fun h29 => ?_)
      · exact absurd ⟨h20, h29⟩ hb
      · refine zi_ldc (n := 34) dX6_sets_32 rfl zl_X6_67 ?_
        exact zi_iret dX6_sets_34 rfl (by rfl) (by rfl)
  · first | exact absurd h0 h7 | exact absurd h7 h0
set_option maxHeartbeats 4000000 in
set_option maxRecDepth 100000 in
theorem x_sets_0 (hn : Q 1 0 0 = nI n) (h6 : n ≤ 6) (h0 : ¬ Q 1 0 0 = 0) {v : Int32} (hv : (nI 0 ≤ v ∧ v ≤ nI 54)) : zCT E 3 zm_X6_sets [.ref (zad E 145), .int v, .int (nI 0)] (Q, Z) (some (.int (zhm (Q 1) n v (2 ^ n)))) (Q, Z) := by
  refine zCT.of (by decide +kernel) (Nat.le_of_ble_eq_true rfl) ?_
  have a3 : nI 0 ≤ nI 0 ∧ nI 0 ≤ nI 2 := by decide
  refine zi_aload0 (n := 1) dX6_sets_0 rfl ?_
  refine zg_X6_2 (n := 4) dX6_sets_1 rfl zl_X6_26 ?_
  refine zgN_X4_0 (n := 7) dX6_sets_4 rfl zl_X6_131 (by omega) rfl ?_
  refine zi_ifne (n := 10) (tgt := 13) dX6_sets_7 rfl (by decide) (fun h7 => ?_) (fun h7 => ?_)
  · refine zi_iload1 (n := 14) dX6_sets_13 rfl ?_
    refine zi_iconst (n := 15) (nI 0) dX6_sets_14 rfl (by decide) ?_
    refine zi_bipush (n := 17) (nI 54) dX6_sets_15 rfl (by decide) ?_
    refine zi_S3s (mj := zm_X6_within) (n := 20) dX6_sets_17 rfl zl_X6_63 zy_X6_within (by decide) (Nat.le_of_ble_eq_true rfl) (c_X6_within) ?_
    refine zi_ifeq_b (n := 23) (tgt := 32) dX6_sets_20 rfl (by decide) (fun h20 => ?_) (fun h20 => ?_)
    · first | exact absurd hv h20 | exact absurd h20 hv
    · refine zi_iload2 (n := 24) dX6_sets_23 rfl ?_
      refine zi_iconst (n := 25) (nI 0) dX6_sets_24 rfl (by decide) ?_
      refine zi_iconst (n := 26) (nI 2) dX6_sets_25 rfl (by decide) ?_
      refine zi_S3s (mj := zm_X6_within) (n := 29) dX6_sets_26 rfl zl_X6_63 zy_X6_within (by decide) (Nat.le_of_ble_eq_true rfl) (c_X6_within) ?_
      refine zi_ifne_b (n := 32) (tgt := 35) dX6_sets_29 rfl (by decide) (fun h29 => ?_) (fun h29 => ?_)
      · refine zi_iload2 (n := 36) dX6_sets_35 rfl ?_
        refine zi_lookup (tgt := 64) dX6_sets_36 (by decide) rfl (by decide) ?_
        refine zi_aload0 (n := 65) dX6_sets_64 rfl ?_
        refine zg_X6_6 (n := 68) dX6_sets_65 rfl zl_X6_48 ?_
        refine zi_iload1 (n := 69) dX6_sets_68 rfl ?_
        refine zi_V1s (mj := zm_X2_howManySets) (n := 72) dX6_sets_69 rfl zl_X6_234 zy_X2_howManySets (zrc_X2 _ _) (by decide) (Nat.le_of_ble_eq_true rfl) (zrr (j := 4) (c_X2_howManySets (S := Q 4) hn h6)) ?_
        exact zi_iret dX6_sets_72 rfl (by rfl) (by rfl)
      · first | exact absurd a3 h29 | exact absurd h29 a3
  · first | exact absurd h0 h7 | exact absurd h7 h0
set_option maxHeartbeats 4000000 in
set_option maxRecDepth 100000 in
theorem x_sets_1 (hn : Q 1 0 0 = nI n) (h6 : n ≤ 6) (h0 : ¬ Q 1 0 0 = 0) {v : Int32} (hv : (nI 0 ≤ v ∧ v ≤ nI 54)) : zCT E 3 zm_X6_sets [.ref (zad E 145), .int v, .int (nI 1)] (Q, Z) (some (.int (if zif (Q 1) n v (2 ^ n) = 0 then nI 0 else zia (Q 1) n v (2 ^ n)))) (Q, Z) := by
  refine zCT.of (by decide +kernel) (Nat.le_of_ble_eq_true rfl) ?_
  have a3 : nI 0 ≤ nI 1 ∧ nI 1 ≤ nI 2 := by decide
  refine zi_aload0 (n := 1) dX6_sets_0 rfl ?_
  refine zg_X6_2 (n := 4) dX6_sets_1 rfl zl_X6_26 ?_
  refine zgN_X4_0 (n := 7) dX6_sets_4 rfl zl_X6_131 (by omega) rfl ?_
  refine zi_ifne (n := 10) (tgt := 13) dX6_sets_7 rfl (by decide) (fun h7 => ?_) (fun h7 => ?_)
  · refine zi_iload1 (n := 14) dX6_sets_13 rfl ?_
    refine zi_iconst (n := 15) (nI 0) dX6_sets_14 rfl (by decide) ?_
    refine zi_bipush (n := 17) (nI 54) dX6_sets_15 rfl (by decide) ?_
    refine zi_S3s (mj := zm_X6_within) (n := 20) dX6_sets_17 rfl zl_X6_63 zy_X6_within (by decide) (Nat.le_of_ble_eq_true rfl) (c_X6_within) ?_
    refine zi_ifeq_b (n := 23) (tgt := 32) dX6_sets_20 rfl (by decide) (fun h20 => ?_) (fun h20 => ?_)
    · first | exact absurd hv h20 | exact absurd h20 hv
    · refine zi_iload2 (n := 24) dX6_sets_23 rfl ?_
      refine zi_iconst (n := 25) (nI 0) dX6_sets_24 rfl (by decide) ?_
      refine zi_iconst (n := 26) (nI 2) dX6_sets_25 rfl (by decide) ?_
      refine zi_S3s (mj := zm_X6_within) (n := 29) dX6_sets_26 rfl zl_X6_63 zy_X6_within (by decide) (Nat.le_of_ble_eq_true rfl) (c_X6_within) ?_
      refine zi_ifne_b (n := 32) (tgt := 35) dX6_sets_29 rfl (by decide) (fun h29 => ?_) (fun h29 => ?_)
      · refine zi_iload2 (n := 36) dX6_sets_35 rfl ?_
        refine zi_lookup (tgt := 73) dX6_sets_36 (by decide) rfl (by decide) ?_
        refine zi_aload0 (n := 74) dX6_sets_73 rfl ?_
        refine zg_X6_6 (n := 77) dX6_sets_74 rfl zl_X6_48 ?_
        refine zi_iload1 (n := 78) dX6_sets_77 rfl ?_
        refine zi_V1s (mj := zm_X2_inAllSets) (n := 81) dX6_sets_78 rfl zl_X6_237 zy_X2_inAllSets (zrc_X2 _ _) (by decide) (Nat.le_of_ble_eq_true rfl) (zrr (j := 4) (c_X2_inAllSets (S := Q 4) hn h6)) ?_
        exact zi_iret dX6_sets_81 rfl (by rfl) (by rfl)
      · first | exact absurd a3 h29 | exact absurd h29 a3
  · first | exact absurd h0 h7 | exact absurd h7 h0
set_option maxHeartbeats 4000000 in
set_option maxRecDepth 100000 in
theorem x_sets_2 (hn : Q 1 0 0 = nI n) (h6 : n ≤ 6) (h0 : ¬ Q 1 0 0 = 0) {v : Int32} (hv : (nI 0 ≤ v ∧ v ≤ nI 54)) : zCT E 3 zm_X6_sets [.ref (zad E 145), .int v, .int (nI 2)] (Q, Z) (some (.int (zin (Q 1) n v (2 ^ n)))) (Q, Z) := by
  refine zCT.of (by decide +kernel) (Nat.le_of_ble_eq_true rfl) ?_
  have a3 : nI 0 ≤ nI 2 ∧ nI 2 ≤ nI 2 := by decide
  refine zi_aload0 (n := 1) dX6_sets_0 rfl ?_
  refine zg_X6_2 (n := 4) dX6_sets_1 rfl zl_X6_26 ?_
  refine zgN_X4_0 (n := 7) dX6_sets_4 rfl zl_X6_131 (by omega) rfl ?_
  refine zi_ifne (n := 10) (tgt := 13) dX6_sets_7 rfl (by decide) (fun h7 => ?_) (fun h7 => ?_)
  · refine zi_iload1 (n := 14) dX6_sets_13 rfl ?_
    refine zi_iconst (n := 15) (nI 0) dX6_sets_14 rfl (by decide) ?_
    refine zi_bipush (n := 17) (nI 54) dX6_sets_15 rfl (by decide) ?_
    refine zi_S3s (mj := zm_X6_within) (n := 20) dX6_sets_17 rfl zl_X6_63 zy_X6_within (by decide) (Nat.le_of_ble_eq_true rfl) (c_X6_within) ?_
    refine zi_ifeq_b (n := 23) (tgt := 32) dX6_sets_20 rfl (by decide) (fun h20 => ?_) (fun h20 => ?_)
    · first | exact absurd hv h20 | exact absurd h20 hv
    · refine zi_iload2 (n := 24) dX6_sets_23 rfl ?_
      refine zi_iconst (n := 25) (nI 0) dX6_sets_24 rfl (by decide) ?_
      refine zi_iconst (n := 26) (nI 2) dX6_sets_25 rfl (by decide) ?_
      refine zi_S3s (mj := zm_X6_within) (n := 29) dX6_sets_26 rfl zl_X6_63 zy_X6_within (by decide) (Nat.le_of_ble_eq_true rfl) (c_X6_within) ?_
      refine zi_ifne_b (n := 32) (tgt := 35) dX6_sets_29 rfl (by decide) (fun h29 => ?_) (fun h29 => ?_)
      · refine zi_iload2 (n := 36) dX6_sets_35 rfl ?_
        refine zi_lookup (tgt := 82) dX6_sets_36 (by decide) rfl (by decide) ?_
        refine zi_aload0 (n := 83) dX6_sets_82 rfl ?_
        refine zg_X6_6 (n := 86) dX6_sets_83 rfl zl_X6_48 ?_
        refine zi_iload1 (n := 87) dX6_sets_86 rfl ?_
        refine zi_V1s (mj := zm_X2_inAnySet) (n := 90) dX6_sets_87 rfl zl_X6_240 zy_X2_inAnySet (zrc_X2 _ _) (by decide) (Nat.le_of_ble_eq_true rfl) (zrr (j := 4) (c_X2_inAnySet (S := Q 4) hn h6)) ?_
        exact zi_iret dX6_sets_90 rfl (by rfl) (by rfl)
      · first | exact absurd a3 h29 | exact absurd h29 a3
  · first | exact absurd h0 h7 | exact absurd h7 h0
set_option maxHeartbeats 4000000 in
set_option maxRecDepth 100000 in
theorem x_share_bad {x y : Int32} (hb : ¬ ((¬ x < 0 ∧ ¬ Q 1 0 0 ≤ x) ∧ (nI 0 ≤ y ∧ y ≤ nI 999))) : zCT E 2 zm_X6_share [.ref (zad E 145), .int x, .int y] (Q, Z) (some (.int zBAD)) (Q, Z) := by
  refine zCT.of (by decide +kernel) (Nat.le_of_ble_eq_true rfl) ?_
  refine zi_aload0 (n := 1) dX6_share_0 rfl ?_
  refine zg_X6_2 (n := 4) dX6_share_1 rfl zl_X6_26 ?_
  refine zi_iload1 (n := 5) dX6_share_4 rfl ?_
  refine zi_V1s (mj := zm_X4_has) (n := 8) dX6_share_5 rfl zl_X6_153 zy_X4_has (zrc_sq _ _ (by omega)) (by decide) (Nat.le_of_ble_eq_true rfl) (zrr (j := 1) (c_X4_has (S := Q 1) (j := 1) (by decide))) ?_
  refine zi_ifeq_b (n := 11) (tgt := 22) dX6_share_8 rfl (by decide) (fun h8 => ?_) (fun h8 => ?_)
  · refine zi_ldc (n := 24) dX6_share_22 rfl zl_X6_67 ?_
    exact zi_iret dX6_share_24 rfl (by rfl) (by rfl)
  · refine zi_iload2 (n := 12) dX6_share_11 rfl ?_
    refine zi_iconst (n := 13) (nI 0) dX6_share_12 rfl (by decide) ?_
    refine zi_sipush (n := 16) (nI 999) dX6_share_13 rfl (by decide) ?_
    refine zi_S3s (mj := zm_X6_within) (n := 19) dX6_share_16 rfl zl_X6_63 zy_X6_within (by decide) (Nat.le_of_ble_eq_true rfl) (c_X6_within) ?_
    refine zi_ifne_b (n := 22) (tgt := 25) dX6_share_19 rfl (by decide) (fun h19 => ?_) (fun h19 => ?_)
    · exact absurd ⟨h8, h19⟩ hb
    · refine zi_ldc (n := 24) dX6_share_22 rfl zl_X6_67 ?_
      exact zi_iret dX6_share_24 rfl (by rfl) (by rfl)
set_option maxHeartbeats 4000000 in
set_option maxRecDepth 100000 in
theorem x_share_ok (hn : Q 1 0 0 = nI n) (h6 : n ≤ 6) {p : Nat} (hp : p < n) {y : Int32} (hy : (nI 0 ≤ y ∧ y ≤ nI 999)) : zCT E 2 zm_X6_share [.ref (zad E 145), .int (nI p), .int y] (Q, Z) (some (.int (zink (Q 1) n p y))) (Q, Z) := by
  refine zCT.of (by decide +kernel) (Nat.le_of_ble_eq_true rfl) ?_
  have a1 := zhas hn h6 hp
  refine zi_aload0 (n := 1) dX6_share_0 rfl ?_
  refine zg_X6_2 (n := 4) dX6_share_1 rfl zl_X6_26 ?_
  refine zi_iload1 (n := 5) dX6_share_4 rfl ?_
  refine zi_V1s (mj := zm_X4_has) (n := 8) dX6_share_5 rfl zl_X6_153 zy_X4_has (zrc_sq _ _ (by omega)) (by decide) (Nat.le_of_ble_eq_true rfl) (zrr (j := 1) (c_X4_has (S := Q 1) (j := 1) (by decide))) ?_
  refine zi_ifeq_b (n := 11) (tgt := 22) dX6_share_8 rfl (by decide) (fun h8 => ?_) (fun h8 => ?_)
  · first | exact absurd a1 h8 | exact absurd h8 a1
  · refine zi_iload2 (n := 12) dX6_share_11 rfl ?_
    refine zi_iconst (n := 13) (nI 0) dX6_share_12 rfl (by decide) ?_
    refine zi_sipush (n := 16) (nI 999) dX6_share_13 rfl (by decide) ?_
    refine zi_S3s (mj := zm_X6_within) (n := 19) dX6_share_16 rfl zl_X6_63 zy_X6_within (by decide) (Nat.le_of_ble_eq_true rfl) (c_X6_within) ?_
    refine zi_ifne_b (n := 22) (tgt := 25) dX6_share_19 rfl (by decide) (fun h19 => ?_) (fun h19 => ?_)
    · refine zi_aload0 (n := 26) dX6_share_25 rfl ?_
      refine zg_X6_6 (n := 29) dX6_share_26 rfl zl_X6_48 ?_
      refine zi_iload1 (n := 30) dX6_share_29 rfl ?_
      refine zi_iload2 (n := 31) dX6_share_30 rfl ?_
      refine zi_V2s (mj := zm_X2_inkOf) (n := 34) dX6_share_31 rfl zl_X6_243 zy_X2_inkOf (zrc_X2 _ _) (by decide) (Nat.le_of_ble_eq_true rfl) (zrr (j := 4) (c_X2_inkOf (S := Q 4) hn h6 (by omega))) ?_
      exact zi_iret dX6_share_34 rfl (by rfl) (by rfl)
    · first | exact absurd hy h19 | exact absurd h19 hy
set_option maxHeartbeats 4000000 in
set_option maxRecDepth 100000 in
theorem x_turns_state {x y : Int32} (h0 : Q 1 0 0 = 0) : zCT E 11 zm_X6_byTurns [.ref (zad E 145), .int x, .int y] (Q, Z) (some (.int zSTATE)) (Q, Z) := by
  refine zCT.of (by decide +kernel) (Nat.le_of_ble_eq_true rfl) ?_
  have a0 : ¬ (¬ Q 1 0 0 - nI 1 < 0 ∧ ¬ Q 1 0 0 ≤ Q 1 0 0 - nI 1) := by rw [h0]; decide
  refine zi_aload0 (n := 1) dX6_byTurns_0 rfl ?_
  refine zg_X6_2 (n := 4) dX6_byTurns_1 rfl zl_X6_26 ?_
  refine zgN_X4_0 (n := 7) dX6_byTurns_4 rfl zl_X6_131 (by omega) rfl ?_
  refine zi_iconst (n := 8) (nI 1) dX6_byTurns_7 rfl (by decide) ?_
  refine zi_isub (n := 9) dX6_byTurns_8 rfl ?_
  refine zi_istore3 (n := 10) dX6_byTurns_9 rfl (by decide) rfl ?_
  refine zi_aload0 (n := 11) dX6_byTurns_10 rfl ?_
  refine zg_X6_2 (n := 14) dX6_byTurns_11 rfl zl_X6_26 ?_
  refine zi_iload3 (n := 15) dX6_byTurns_14 rfl ?_
  refine zi_V1s (mj := zm_X4_has) (n := 18) dX6_byTurns_15 rfl zl_X6_153 zy_X4_has (zrc_sq _ _ (by omega)) (by decide) (Nat.le_of_ble_eq_true rfl) (zrr (j := 1) (c_X4_has (S := Q 1) (j := 1) (by decide))) ?_
  refine zi_ifne_b (n := 21) (tgt := 24) dX6_byTurns_18 rfl (by decide) (fun h18 => ?_) (fun h18 => ?_)
  · first | exact absurd a0 h18 | exact absurd h18 a0
  · refine zi_ldc (n := 23) dX6_byTurns_21 rfl zl_X6_137 ?_
    exact zi_iret dX6_byTurns_23 rfl (by rfl) (by rfl)
set_option maxHeartbeats 4000000 in
set_option maxRecDepth 100000 in
theorem x_turns_bad (hn : Q 1 0 0 = nI n) (h6 : n ≤ 6) (h1 : 0 < n) {x y : Int32} (hb : ¬ ((nI 0 ≤ x ∧ x ≤ nI 4) ∧ (nI 1 ≤ y ∧ y ≤ nI 20))) : zCT E 11 zm_X6_byTurns [.ref (zad E 145), .int x, .int y] (Q, Z) (some (.int zBAD)) (Q, Z) := by
  refine zCT.of (by decide +kernel) (Nat.le_of_ble_eq_true rfl) ?_
  have a0 : ¬ Q 1 0 0 - nI 1 < 0 ∧ ¬ Q 1 0 0 ≤ Q 1 0 0 - nI 1 := by
    have q := zhas hn h6 (p := n - 1) (by omega)
    rw [← pk_sub (by omega), ← hn] at q
    exact q
  refine zi_aload0 (n := 1) dX6_byTurns_0 rfl ?_
  refine zg_X6_2 (n := 4) dX6_byTurns_1 rfl zl_X6_26 ?_
  refine zgN_X4_0 (n := 7) dX6_byTurns_4 rfl zl_X6_131 (by omega) rfl ?_
  refine zi_iconst (n := 8) (nI 1) dX6_byTurns_7 rfl (by decide) ?_
  refine zi_isub (n := 9) dX6_byTurns_8 rfl ?_
  refine zi_istore3 (n := 10) dX6_byTurns_9 rfl (by decide) rfl ?_
  refine zi_aload0 (n := 11) dX6_byTurns_10 rfl ?_
  refine zg_X6_2 (n := 14) dX6_byTurns_11 rfl zl_X6_26 ?_
  refine zi_iload3 (n := 15) dX6_byTurns_14 rfl ?_
  refine zi_V1s (mj := zm_X4_has) (n := 18) dX6_byTurns_15 rfl zl_X6_153 zy_X4_has (zrc_sq _ _ (by omega)) (by decide) (Nat.le_of_ble_eq_true rfl) (zrr (j := 1) (c_X4_has (S := Q 1) (j := 1) (by decide))) ?_
  refine zi_ifne_b (n := 21) (tgt := 24) dX6_byTurns_18 rfl (by decide) (fun h18 => ?_) (fun h18 => ?_)
  · refine zi_iload1 (n := 25) dX6_byTurns_24 rfl ?_
    refine zi_iconst (n := 26) (nI 0) dX6_byTurns_25 rfl (by decide) ?_
    refine zi_iconst (n := 27) (nI 4) dX6_byTurns_26 rfl (by decide) ?_
    refine zi_S3s (mj := zm_X6_within) (n := 30) dX6_byTurns_27 rfl zl_X6_63 zy_X6_within (by decide) (Nat.le_of_ble_eq_true rfl) (c_X6_within) ?_
    refine zi_ifeq_b (n := 33) (tgt := 43) dX6_byTurns_30 rfl (by decide) (fun h30 => ?_) (fun h30 => ?_)
    · refine zi_ldc (n := 45) dX6_byTurns_43 rfl zl_X6_67 ?_
      exact zi_iret dX6_byTurns_45 rfl (by rfl) (by rfl)
    · refine zi_iload2 (n := 34) dX6_byTurns_33 rfl ?_
      refine zi_iconst (n := 35) (nI 1) dX6_byTurns_34 rfl (by decide) ?_
      refine zi_bipush (n := 37) (nI 20) dX6_byTurns_35 rfl (by decide) ?_
      refine zi_S3s (mj := zm_X6_within) (n := 40) dX6_byTurns_37 rfl zl_X6_63 zy_X6_within (by decide) (Nat.le_of_ble_eq_true rfl) (c_X6_within) ?_
      refine zi_ifne_b (n := 43) (tgt := 46) dX6_byTurns_40 rfl (by decide) (fun h40 => ?_) (fun h40 => ?_)
      · exact absurd ⟨h30, h40⟩ hb
      · refine zi_ldc (n := 45) dX6_byTurns_43 rfl zl_X6_67 ?_
        exact zi_iret dX6_byTurns_45 rfl (by rfl) (by rfl)
  · first | exact absurd a0 h18 | exact absurd h18 a0
set_option maxHeartbeats 4000000 in
set_option maxRecDepth 100000 in
theorem x_turns_ok (hn : Q 1 0 0 = nI n) (h6 : n ≤ 6) (h1 : 0 < n) {c : Nat} (hc : c ≤ 4) {m : Nat} (hm1 : 1 ≤ m) (hm2 : m ≤ 20) : zCT E 11 zm_X6_byTurns [.ref (zad E 145), .int (nI c), .int (nI m)] (Q, Z) (some (.int (zbo (Q 1) n m c 0 (Q 1 2 0) (Q 1 2 (n - 1)) (Q 4)).1)) (va_up Q 4 (zbo (Q 1) n m c 0 (Q 1 2 0) (Q 1 2 (n - 1)) (Q 4)).2, Z) := by
  refine zCT.of (by decide +kernel) (Nat.le_of_ble_eq_true rfl) ?_
  have a0 := zhas hn h6 (p := n - 1) (by omega)
  have a2 := zrg hm1 hm2 (by decide)
  have a3 : nI 0 ≤ nI c ∧ nI c ≤ nI 4 := zrg (by omega) hc (by decide)
  refine zi_aload0 (n := 1) dX6_byTurns_0 rfl ?_
  refine zg_X6_2 (n := 4) dX6_byTurns_1 rfl zl_X6_26 ?_
  refine zgN_X4_0 (n := 7) dX6_byTurns_4 rfl zl_X6_131 (by decide) hn ?_
  refine zi_iconst (n := 8) (nI 1) dX6_byTurns_7 rfl (by decide) ?_
  refine zi_isub (n := 9) dX6_byTurns_8 rfl ?_
  rw [pk_sub (by omega)]
  refine zi_istore3 (n := 10) dX6_byTurns_9 rfl (by decide) rfl ?_
  refine zi_aload0 (n := 11) dX6_byTurns_10 rfl ?_
  refine zg_X6_2 (n := 14) dX6_byTurns_11 rfl zl_X6_26 ?_
  refine zi_iload3 (n := 15) dX6_byTurns_14 rfl ?_
  refine zi_V1s (mj := zm_X4_has) (n := 18) dX6_byTurns_15 rfl zl_X6_153 zy_X4_has (zrc_sq _ _ (by omega)) (by omega) (Nat.le_of_ble_eq_true rfl) (zrr (j := 1) (c_X4_has (S := Q 1) (j := 1) (by decide))) ?_
  refine zi_ifne_b (n := 21) (tgt := 24) dX6_byTurns_18 rfl (by decide) (fun h18 => ?_) (fun h18 => ?_)
  · refine zi_iload1 (n := 25) dX6_byTurns_24 rfl ?_
    refine zi_iconst (n := 26) (nI 0) dX6_byTurns_25 rfl (by decide) ?_
    refine zi_iconst (n := 27) (nI 4) dX6_byTurns_26 rfl (by decide) ?_
    refine zi_S3s (mj := zm_X6_within) (n := 30) dX6_byTurns_27 rfl zl_X6_63 zy_X6_within (by omega) (Nat.le_of_ble_eq_true rfl) (c_X6_within) ?_
    refine zi_ifeq_b (n := 33) (tgt := 43) dX6_byTurns_30 rfl (by decide) (fun h30 => ?_) (fun h30 => ?_)
    · first | exact absurd a3 h30 | exact absurd h30 a3
    · refine zi_iload2 (n := 34) dX6_byTurns_33 rfl ?_
      refine zi_iconst (n := 35) (nI 1) dX6_byTurns_34 rfl (by decide) ?_
      refine zi_bipush (n := 37) (nI 20) dX6_byTurns_35 rfl (by decide) ?_
      refine zi_S3s (mj := zm_X6_within) (n := 40) dX6_byTurns_37 rfl zl_X6_63 zy_X6_within (by omega) (Nat.le_of_ble_eq_true rfl) (c_X6_within) ?_
      refine zi_ifne_b (n := 43) (tgt := 46) dX6_byTurns_40 rfl (by decide) (fun h40 => ?_) (fun h40 => ?_)
      · refine zi_aload0 (n := 47) dX6_byTurns_46 rfl ?_
        refine zg_X6_6 (n := 50) dX6_byTurns_47 rfl zl_X6_48 ?_
        refine zi_iconst (n := 51) (nI 0) dX6_byTurns_50 rfl (by decide) ?_
        refine zi_iload1 (n := 52) dX6_byTurns_51 rfl ?_
        refine zi_iload2 (n := 53) dX6_byTurns_52 rfl ?_
        refine zi_aload0 (n := 54) dX6_byTurns_53 rfl ?_
        refine zg_X6_2 (n := 57) dX6_byTurns_54 rfl zl_X6_26 ?_
        refine zgN_X4_10 (n := 60) dX6_byTurns_57 rfl zl_X6_159 (by omega) ?_
        refine zi_iconst (n := 61) (nI 0) dX6_byTurns_60 rfl (by decide) ?_
        refine zi_qald (n := 62) dX6_byTurns_61 rfl (by omega) (by decide) rfl (by omega) rfl ?_
        refine zi_aload0 (n := 63) dX6_byTurns_62 rfl ?_
        refine zg_X6_2 (n := 66) dX6_byTurns_63 rfl zl_X6_26 ?_
        refine zgN_X4_10 (n := 69) dX6_byTurns_66 rfl zl_X6_159 (by omega) ?_
        refine zi_iload3 (n := 70) dX6_byTurns_69 rfl ?_
        refine zi_qald (n := 71) dX6_byTurns_70 rfl (by omega) (by decide) rfl (by omega) rfl ?_
        refine zi_SN6s (mj := zm_X2_bestOf) (n := 74) dX6_byTurns_71 rfl zl_X6_246 zy_X2_bestOf (by omega) (Nat.le_of_ble_eq_true rfl) (zra (j := 4) (c_X2_bestOf (E := E) (Z := Z) hn h6 h1 (m := m) (c := c) (by omega) hc c 0 (Q 1 2 0) (Q 1 2 (n - 1)) (Q 4) (by omega))) ?_
        exact zi_iret dX6_byTurns_74 rfl (by rfl) (by rfl)
      · first | exact absurd a2 h40 | exact absurd h40 a2
  · first | exact absurd a0 h18 | exact absurd h18 a0
set_option maxHeartbeats 4000000 in
set_option maxRecDepth 100000 in
theorem x_rain_bad {x y c w : Int32} (hb : ¬ ((¬ x < 0 ∧ ¬ Q 1 0 0 ≤ x) ∧ (nI 0 ≤ y ∧ y ≤ nI 60) ∧ (nI 0 ≤ c ∧ c ≤ nI 10) ∧ (nI 0 ≤ w ∧ w ≤ nI 1))) : zCT E 7 zm_X6_rain [.ref (zad E 145), .int x, .int y, .int c, .int w] (Q, Z) (some (.long (-1000001))) (Q, Z) := by
  refine zCT.of (by decide +kernel) (Nat.le_of_ble_eq_true rfl) ?_
  refine zi_aload0 (n := 1) dX6_rain_0 rfl ?_
  refine zg_X6_2 (n := 4) dX6_rain_1 rfl zl_X6_26 ?_
  refine zi_iload1 (n := 5) dX6_rain_4 rfl ?_
  refine zi_V1s (mj := zm_X4_has) (n := 8) dX6_rain_5 rfl zl_X6_153 zy_X4_has (zrc_sq _ _ (by omega)) (by decide) (Nat.le_of_ble_eq_true rfl) (zrr (j := 1) (c_X4_has (S := Q 1) (j := 1) (by decide))) ?_
  refine zi_ifeq_b (n := 11) (tgt := 41) dX6_rain_8 rfl (by decide) (fun h8 => ?_) (fun h8 => ?_)
  · refine zi_ldc2 (n := 44) dX6_rain_41 rfl zl_X6_254 ?_
    exact zi_lret dX6_rain_44 rfl (by rfl) (by rfl)
  · refine zi_iload2 (n := 12) dX6_rain_11 rfl ?_
    refine zi_iconst (n := 13) (nI 0) dX6_rain_12 rfl (by decide) ?_
    refine zi_bipush (n := 15) (nI 60) dX6_rain_13 rfl (by decide) ?_
    refine zi_S3s (mj := zm_X6_within) (n := 18) dX6_rain_15 rfl zl_X6_63 zy_X6_within (by decide) (Nat.le_of_ble_eq_true rfl) (c_X6_within) ?_
    refine zi_ifeq_b (n := 21) (tgt := 41) dX6_rain_18 rfl (by decide) (fun h18 => ?_) (fun h18 => ?_)
    · refine zi_ldc2 (n := 44) dX6_rain_41 rfl zl_X6_254 ?_
      exact zi_lret dX6_rain_44 rfl (by rfl) (by rfl)
    · refine zi_iload3 (n := 22) dX6_rain_21 rfl ?_
      refine zi_iconst (n := 23) (nI 0) dX6_rain_22 rfl (by decide) ?_
      refine zi_bipush (n := 25) (nI 10) dX6_rain_23 rfl (by decide) ?_
      refine zi_S3s (mj := zm_X6_within) (n := 28) dX6_rain_25 rfl zl_X6_63 zy_X6_within (by decide) (Nat.le_of_ble_eq_true rfl) (c_X6_within) ?_
      refine zi_ifeq_b (n := 31) (tgt := 41) dX6_rain_28 rfl (by decide) (fun h28 => ?_) (fun h28 => ?_)
      · refine zi_ldc2 (n := 44) dX6_rain_41 rfl zl_X6_254 ?_
        exact zi_lret dX6_rain_44 rfl (by rfl) (by rfl)
      · refine zi_iload4 (n := 33) dX6_rain_31 rfl ?_
        refine zi_iconst (n := 34) (nI 0) dX6_rain_33 rfl (by decide) ?_
        refine zi_iconst (n := 35) (nI 1) dX6_rain_34 rfl (by decide) ?_
        refine zi_S3s (mj := zm_X6_within) (n := 38) dX6_rain_35 rfl zl_X6_63 zy_X6_within (by decide) (Nat.le_of_ble_eq_true rfl) (c_X6_within) ?_
        refine zi_ifne_b (n := 41) (tgt := 45) dX6_rain_38 rfl (by decide) (fun h38 => ?_) (fun h38 => ?_)
        · exact absurd ⟨h8, h18, h28, h38⟩ hb
        · refine zi_ldc2 (n := 44) dX6_rain_41 rfl zl_X6_254 ?_
          exact zi_lret dX6_rain_44 rfl (by rfl) (by rfl)
set_option maxHeartbeats 4000000 in
set_option maxRecDepth 100000 in
theorem x_rain_0 (hn : Q 1 0 0 = nI n) (h6 : n ≤ 6) {p : Nat} (hp : p < n) {m : Nat} (hm1 : 0 ≤ m) (hm2 : m ≤ 60) {c : Int32} (hc : (nI 0 ≤ c ∧ c ≤ nI 10)) (hg : ¬ (zgcdC 200 (zckL (Q 1) n p m c (2 ^ n) 0 (nI 0).toInt64 (Q 4)).1 (zpw (nI 10) (zbN (zsh (Q 1) n)))) = (nI 0).toInt64) : zCT E 7 zm_X6_rain [.ref (zad E 145), .int (nI p), .int (nI m), .int c, .int (nI 0)] (Q, Z) (some (.long ((zckL (Q 1) n p m c (2 ^ n) 0 (nI 0).toInt64 (Q 4)).1 / (zgcdC 200 (zckL (Q 1) n p m c (2 ^ n) 0 (nI 0).toInt64 (Q 4)).1 (zpw (nI 10) (zbN (zsh (Q 1) n))))))) (va_up Q 4 (zckL (Q 1) n p m c (2 ^ n) 0 (nI 0).toInt64 (Q 4)).2, Z) := by
  refine zCT.of (by decide +kernel) (Nat.le_of_ble_eq_true rfl) ?_
  have a1 := zhas hn h6 hp
  have a2 := zrg hm1 hm2 (by decide)
  have a3 : nI 0 ≤ nI 0 ∧ nI 0 ≤ nI 1 := by decide
  have a4 : nI 0 = 0 := by decide
  refine zi_aload0 (n := 1) dX6_rain_0 rfl ?_
  refine zg_X6_2 (n := 4) dX6_rain_1 rfl zl_X6_26 ?_
  refine zi_iload1 (n := 5) dX6_rain_4 rfl ?_
  refine zi_V1s (mj := zm_X4_has) (n := 8) dX6_rain_5 rfl zl_X6_153 zy_X4_has (zrc_sq _ _ (by omega)) (by decide) (Nat.le_of_ble_eq_true rfl) (zrr (j := 1) (c_X4_has (S := Q 1) (j := 1) (by decide))) ?_
  refine zi_ifeq_b (n := 11) (tgt := 41) dX6_rain_8 rfl (by decide) (fun h8 => ?_) (fun h8 => ?_)
  · first | exact absurd a1 h8 | exact absurd h8 a1
  · refine zi_iload2 (n := 12) dX6_rain_11 rfl ?_
    refine zi_iconst (n := 13) (nI 0) dX6_rain_12 rfl (by decide) ?_
    refine zi_bipush (n := 15) (nI 60) dX6_rain_13 rfl (by decide) ?_
    refine zi_S3s (mj := zm_X6_within) (n := 18) dX6_rain_15 rfl zl_X6_63 zy_X6_within (by decide) (Nat.le_of_ble_eq_true rfl) (c_X6_within) ?_
    refine zi_ifeq_b (n := 21) (tgt := 41) dX6_rain_18 rfl (by decide) (fun h18 => ?_) (fun h18 => ?_)
    · first | exact absurd a2 h18 | exact absurd h18 a2
    · refine zi_iload3 (n := 22) dX6_rain_21 rfl ?_
      refine zi_iconst (n := 23) (nI 0) dX6_rain_22 rfl (by decide) ?_
      refine zi_bipush (n := 25) (nI 10) dX6_rain_23 rfl (by decide) ?_
      refine zi_S3s (mj := zm_X6_within) (n := 28) dX6_rain_25 rfl zl_X6_63 zy_X6_within (by decide) (Nat.le_of_ble_eq_true rfl) (c_X6_within) ?_
      refine zi_ifeq_b (n := 31) (tgt := 41) dX6_rain_28 rfl (by decide) (fun h28 => ?_) (fun h28 => ?_)
      · first | exact absurd hc h28 | exact absurd h28 hc
      · refine zi_iload4 (n := 33) dX6_rain_31 rfl ?_
        refine zi_iconst (n := 34) (nI 0) dX6_rain_33 rfl (by decide) ?_
        refine zi_iconst (n := 35) (nI 1) dX6_rain_34 rfl (by decide) ?_
        refine zi_S3s (mj := zm_X6_within) (n := 38) dX6_rain_35 rfl zl_X6_63 zy_X6_within (by decide) (Nat.le_of_ble_eq_true rfl) (c_X6_within) ?_
        refine zi_ifne_b (n := 41) (tgt := 45) dX6_rain_38 rfl (by decide) (fun h38 => ?_) (fun h38 => ?_)
        · refine zi_aload0 (n := 46) dX6_rain_45 rfl ?_
          refine zg_X6_6 (n := 49) dX6_rain_46 rfl zl_X6_48 ?_
          refine zi_iload1 (n := 50) dX6_rain_49 rfl ?_
          refine zi_iload2 (n := 51) dX6_rain_50 rfl ?_
          refine zi_iload3 (n := 52) dX6_rain_51 rfl ?_
          refine zi_V3s (mj := zm_X2_casesKept) (n := 55) dX6_rain_52 rfl zl_X6_256 zy_X2_casesKept (zrc_X2 _ _) (by decide) (Nat.le_of_ble_eq_true rfl) (zra (j := 4) (c_X2_casesKept (S := Q 4) hn h6 (by omega) (by omega))) ?_
          refine zi_lstore5 (n := 57) dX6_rain_55 rfl (by decide) rfl ?_
          refine zi_aload0 (n := 58) dX6_rain_57 rfl ?_
          refine zg_X6_6 (n := 61) dX6_rain_58 rfl zl_X6_48 ?_
          refine zi_V0s (mj := zm_X2_casesOfRain) (n := 64) dX6_rain_61 rfl zl_X6_260 zy_X2_casesOfRain (zrc_X2 _ _) (by decide) (Nat.le_of_ble_eq_true rfl) (c_X2_casesOfRain (S := (zckL (Q 1) n p m c (2 ^ n) 0 (nI 0).toInt64 (Q 4)).2) hn h6) ?_
          refine zi_lstore7 (n := 66) dX6_rain_64 rfl (by decide) rfl ?_
          refine zi_lload5 (n := 68) dX6_rain_66 rfl ?_
          refine zi_lload7 (n := 70) dX6_rain_68 rfl ?_
          refine zi_S2s (mj := zm_X6_commonDivisor) (n := 73) dX6_rain_70 rfl zl_X6_264 zy_X6_commonDivisor (by decide) (Nat.le_of_ble_eq_true rfl) (c_X6_commonDivisor) ?_
          refine zi_lstore9 (n := 75) dX6_rain_73 rfl (by decide) rfl ?_
          refine zi_lload9 (n := 77) dX6_rain_75 rfl ?_
          refine zi_lconst (n := 78) ((nI 0).toInt64) dX6_rain_77 rfl (by decide) ?_
          refine zi_lcmp (n := 79) dX6_rain_78 rfl ?_
          refine zi_ifne_l (n := 82) (tgt := 86) dX6_rain_79 rfl (by decide) (fun h79 => ?_) (fun h79 => ?_)
          · refine zi_iload4 (n := 88) dX6_rain_86 rfl ?_
            refine zi_ifne (n := 91) (tgt := 99) dX6_rain_88 rfl (by decide) (fun h88 => ?_) (fun h88 => ?_)
            · first | exact absurd a4 h88 | exact absurd h88 a4
            · refine zi_lload5 (n := 93) dX6_rain_91 rfl ?_
              refine zi_lload9 (n := 95) dX6_rain_93 rfl ?_
              refine zi_ldiv (n := 96) dX6_rain_95 rfl hg ?_
              refine zi_goto (tgt := 104) dX6_rain_96 (by decide) ?_
              exact zi_lret dX6_rain_104 rfl (by rfl) (by rfl)
          · first | exact absurd hg h79 | exact absurd h79 hg
        · first | exact absurd a3 h38 | exact absurd h38 a3
set_option maxHeartbeats 4000000 in
set_option maxRecDepth 100000 in
theorem x_rain_1 (hn : Q 1 0 0 = nI n) (h6 : n ≤ 6) {p : Nat} (hp : p < n) {m : Nat} (hm1 : 0 ≤ m) (hm2 : m ≤ 60) {c : Int32} (hc : (nI 0 ≤ c ∧ c ≤ nI 10)) (hg : ¬ (zgcdC 200 (zckL (Q 1) n p m c (2 ^ n) 0 (nI 0).toInt64 (Q 4)).1 (zpw (nI 10) (zbN (zsh (Q 1) n)))) = (nI 0).toInt64) : zCT E 7 zm_X6_rain [.ref (zad E 145), .int (nI p), .int (nI m), .int c, .int (nI 1)] (Q, Z) (some (.long ((zpw (nI 10) (zbN (zsh (Q 1) n))) / (zgcdC 200 (zckL (Q 1) n p m c (2 ^ n) 0 (nI 0).toInt64 (Q 4)).1 (zpw (nI 10) (zbN (zsh (Q 1) n))))))) (va_up Q 4 (zckL (Q 1) n p m c (2 ^ n) 0 (nI 0).toInt64 (Q 4)).2, Z) := by
  refine zCT.of (by decide +kernel) (Nat.le_of_ble_eq_true rfl) ?_
  have a1 := zhas hn h6 hp
  have a2 := zrg hm1 hm2 (by decide)
  have a3 : nI 0 ≤ nI 1 ∧ nI 1 ≤ nI 1 := by decide
  have a4 : ¬ nI 1 = 0 := by decide
  refine zi_aload0 (n := 1) dX6_rain_0 rfl ?_
  refine zg_X6_2 (n := 4) dX6_rain_1 rfl zl_X6_26 ?_
  refine zi_iload1 (n := 5) dX6_rain_4 rfl ?_
  refine zi_V1s (mj := zm_X4_has) (n := 8) dX6_rain_5 rfl zl_X6_153 zy_X4_has (zrc_sq _ _ (by omega)) (by decide) (Nat.le_of_ble_eq_true rfl) (zrr (j := 1) (c_X4_has (S := Q 1) (j := 1) (by decide))) ?_
  refine zi_ifeq_b (n := 11) (tgt := 41) dX6_rain_8 rfl (by decide) (fun h8 => ?_) (fun h8 => ?_)
  · first | exact absurd a1 h8 | exact absurd h8 a1
  · refine zi_iload2 (n := 12) dX6_rain_11 rfl ?_
    refine zi_iconst (n := 13) (nI 0) dX6_rain_12 rfl (by decide) ?_
    refine zi_bipush (n := 15) (nI 60) dX6_rain_13 rfl (by decide) ?_
    refine zi_S3s (mj := zm_X6_within) (n := 18) dX6_rain_15 rfl zl_X6_63 zy_X6_within (by decide) (Nat.le_of_ble_eq_true rfl) (c_X6_within) ?_
    refine zi_ifeq_b (n := 21) (tgt := 41) dX6_rain_18 rfl (by decide) (fun h18 => ?_) (fun h18 => ?_)
    · first | exact absurd a2 h18 | exact absurd h18 a2
    · refine zi_iload3 (n := 22) dX6_rain_21 rfl ?_
      refine zi_iconst (n := 23) (nI 0) dX6_rain_22 rfl (by decide) ?_
      refine zi_bipush (n := 25) (nI 10) dX6_rain_23 rfl (by decide) ?_
      refine zi_S3s (mj := zm_X6_within) (n := 28) dX6_rain_25 rfl zl_X6_63 zy_X6_within (by decide) (Nat.le_of_ble_eq_true rfl) (c_X6_within) ?_
      refine zi_ifeq_b (n := 31) (tgt := 41) dX6_rain_28 rfl (by decide) (fun h28 => ?_) (fun h28 => ?_)
      · first | exact absurd hc h28 | exact absurd h28 hc
      · refine zi_iload4 (n := 33) dX6_rain_31 rfl ?_
        refine zi_iconst (n := 34) (nI 0) dX6_rain_33 rfl (by decide) ?_
        refine zi_iconst (n := 35) (nI 1) dX6_rain_34 rfl (by decide) ?_
        refine zi_S3s (mj := zm_X6_within) (n := 38) dX6_rain_35 rfl zl_X6_63 zy_X6_within (by decide) (Nat.le_of_ble_eq_true rfl) (c_X6_within) ?_
        refine zi_ifne_b (n := 41) (tgt := 45) dX6_rain_38 rfl (by decide) (fun h38 => ?_) (fun h38 => ?_)
        · refine zi_aload0 (n := 46) dX6_rain_45 rfl ?_
          refine zg_X6_6 (n := 49) dX6_rain_46 rfl zl_X6_48 ?_
          refine zi_iload1 (n := 50) dX6_rain_49 rfl ?_
          refine zi_iload2 (n := 51) dX6_rain_50 rfl ?_
          refine zi_iload3 (n := 52) dX6_rain_51 rfl ?_
          refine zi_V3s (mj := zm_X2_casesKept) (n := 55) dX6_rain_52 rfl zl_X6_256 zy_X2_casesKept (zrc_X2 _ _) (by decide) (Nat.le_of_ble_eq_true rfl) (zra (j := 4) (c_X2_casesKept (S := Q 4) hn h6 (by omega) (by omega))) ?_
          refine zi_lstore5 (n := 57) dX6_rain_55 rfl (by decide) rfl ?_
          refine zi_aload0 (n := 58) dX6_rain_57 rfl ?_
          refine zg_X6_6 (n := 61) dX6_rain_58 rfl zl_X6_48 ?_
          refine zi_V0s (mj := zm_X2_casesOfRain) (n := 64) dX6_rain_61 rfl zl_X6_260 zy_X2_casesOfRain (zrc_X2 _ _) (by decide) (Nat.le_of_ble_eq_true rfl) (c_X2_casesOfRain (S := (zckL (Q 1) n p m c (2 ^ n) 0 (nI 0).toInt64 (Q 4)).2) hn h6) ?_
          refine zi_lstore7 (n := 66) dX6_rain_64 rfl (by decide) rfl ?_
          refine zi_lload5 (n := 68) dX6_rain_66 rfl ?_
          refine zi_lload7 (n := 70) dX6_rain_68 rfl ?_
          refine zi_S2s (mj := zm_X6_commonDivisor) (n := 73) dX6_rain_70 rfl zl_X6_264 zy_X6_commonDivisor (by decide) (Nat.le_of_ble_eq_true rfl) (c_X6_commonDivisor) ?_
          refine zi_lstore9 (n := 75) dX6_rain_73 rfl (by decide) rfl ?_
          refine zi_lload9 (n := 77) dX6_rain_75 rfl ?_
          refine zi_lconst (n := 78) ((nI 0).toInt64) dX6_rain_77 rfl (by decide) ?_
          refine zi_lcmp (n := 79) dX6_rain_78 rfl ?_
          refine zi_ifne_l (n := 82) (tgt := 86) dX6_rain_79 rfl (by decide) (fun h79 => ?_) (fun h79 => ?_)
          · refine zi_iload4 (n := 88) dX6_rain_86 rfl ?_
            refine zi_ifne (n := 91) (tgt := 99) dX6_rain_88 rfl (by decide) (fun h88 => ?_) (fun h88 => ?_)
            · refine zi_lload7 (n := 101) dX6_rain_99 rfl ?_
              refine zi_lload9 (n := 103) dX6_rain_101 rfl ?_
              refine zi_ldiv (n := 104) dX6_rain_103 rfl hg ?_
              exact zi_lret dX6_rain_104 rfl (by rfl) (by rfl)
            · first | exact absurd a4 h88 | exact absurd h88 a4
          · first | exact absurd hg h79 | exact absurd h79 hg
        · first | exact absurd a3 h38 | exact absurd h38 a3
set_option maxHeartbeats 4000000 in
set_option maxRecDepth 100000 in
theorem x_drawn_state {x y w : Int32} (h0 : Q 1 0 0 = 0) : zCT E 5 zm_X6_drawn [.ref (zad E 145), .int x, .int y, .int w] (Q, Z) (some (.int zSTATE)) (Q, Z) := by
  refine zCT.of (by decide +kernel) (Nat.le_of_ble_eq_true rfl) ?_
  refine zi_aload0 (n := 1) dX6_drawn_0 rfl ?_
  refine zg_X6_2 (n := 4) dX6_drawn_1 rfl zl_X6_26 ?_
  refine zgN_X4_0 (n := 7) dX6_drawn_4 rfl zl_X6_131 (by omega) rfl ?_
  refine zi_ifne (n := 10) (tgt := 13) dX6_drawn_7 rfl (by decide) (fun h7 => ?_) (fun h7 => ?_)
  · first | exact absurd h0 h7 | exact absurd h7 h0
  · refine zi_ldc (n := 12) dX6_drawn_10 rfl zl_X6_137 ?_
    exact zi_iret dX6_drawn_12 rfl (by rfl) (by rfl)
set_option maxHeartbeats 4000000 in
set_option maxRecDepth 100000 in
theorem x_drawn_bad {x y w : Int32} (h0 : ¬ Q 1 0 0 = 0) (hb : ¬ ((nI 0 ≤ x ∧ x ≤ nI 60) ∧ (nI 1 ≤ y ∧ y ≤ 999999) ∧ (nI 0 ≤ w ∧ w ≤ nI 1))) : zCT E 5 zm_X6_drawn [.ref (zad E 145), .int x, .int y, .int w] (Q, Z) (some (.int zBAD)) (Q, Z) := by
  refine zCT.of (by decide +kernel) (Nat.le_of_ble_eq_true rfl) ?_
  refine zi_aload0 (n := 1) dX6_drawn_0 rfl ?_
  refine zg_X6_2 (n := 4) dX6_drawn_1 rfl zl_X6_26 ?_
  refine zgN_X4_0 (n := 7) dX6_drawn_4 rfl zl_X6_131 (by omega) rfl ?_
  refine zi_ifne (n := 10) (tgt := 13) dX6_drawn_7 rfl (by decide) (fun h7 => ?_) (fun h7 => ?_)
  · refine zi_iload1 (n := 14) dX6_drawn_13 rfl ?_
    refine zi_iconst (n := 15) (nI 0) dX6_drawn_14 rfl (by decide) ?_
    refine zi_bipush (n := 17) (nI 60) dX6_drawn_15 rfl (by decide) ?_
    refine zi_S3s (mj := zm_X6_within) (n := 20) dX6_drawn_17 rfl zl_X6_63 zy_X6_within (by decide) (Nat.le_of_ble_eq_true rfl) (c_X6_within) ?_
    refine zi_ifeq_b (n := 23) (tgt := 43) dX6_drawn_20 rfl (by decide) (fun h20 => ?_) (fun h20 => ?_)
    · refine zi_ldc (n := 45) dX6_drawn_43 rfl zl_X6_67 ?_
      exact zi_iret dX6_drawn_45 rfl (by rfl) (by rfl)
    · refine zi_iload2 (n := 24) dX6_drawn_23 rfl ?_
      refine zi_iconst (n := 25) (nI 1) dX6_drawn_24 rfl (by decide) ?_
      refine zi_ldcw (n := 28) dX6_drawn_25 rfl zl_X6_268 ?_
      refine zi_S3s (mj := zm_X6_within) (n := 31) dX6_drawn_28 rfl zl_X6_63 zy_X6_within (by decide) (Nat.le_of_ble_eq_true rfl) (c_X6_within) ?_
      refine zi_ifeq_b (n := 34) (tgt := 43) dX6_drawn_31 rfl (by decide) (fun h31 => ?_) (fun h31 => ?_)
      · refine zi_ldc (n := 45) dX6_drawn_43 rfl zl_X6_67 ?_
        exact zi_iret dX6_drawn_45 rfl (by rfl) (by rfl)
      · refine zi_iload3 (n := 35) dX6_drawn_34 rfl ?_
        refine zi_iconst (n := 36) (nI 0) dX6_drawn_35 rfl (by decide) ?_
        refine zi_iconst (n := 37) (nI 1) dX6_drawn_36 rfl (by decide) ?_
        refine zi_S3s (mj := zm_X6_within) (n := 40) dX6_drawn_37 rfl zl_X6_63 zy_X6_within (by decide) (Nat.le_of_ble_eq_true rfl) (c_X6_within) ?_
        refine zi_ifne_b (n := 43) (tgt := 46) dX6_drawn_40 rfl (by decide) (fun h40 => ?_) (fun h40 => ?_)
        · exact absurd ⟨h20, h31, h40⟩ hb
        · refine zi_ldc (n := 45) dX6_drawn_43 rfl zl_X6_67 ?_
          exact zi_iret dX6_drawn_45 rfl (by rfl) (by rfl)
  · first | exact absurd h0 h7 | exact absurd h7 h0
theorem zbdL_0 {n : Nat} : ∀ (f X : Nat) (S : zS), zbdL n f X S 0 0 = S 0 0
  | 0, X, S => rfl
  | f + 1, X, S => by rw [zbdL, zbdL_0 f, noonC_0, zdraw_0]
set_option maxHeartbeats 4000000 in
set_option maxRecDepth 100000 in
theorem x_drawn_0 (hn : Q 1 0 0 = nI n) (h6 : n ≤ 6) (h0 : ¬ Q 1 0 0 = 0) (h1 : 0 < n) {m : Nat} (hm1 : 0 ≤ m) (hm2 : m ≤ 60) {s : Nat} (hs1 : 1 ≤ s) (hs2 : s ≤ 999999) : zCT E 5 zm_X6_drawn [.ref (zad E 145), .int (nI m), .int (nI s), .int (nI 0)] (Q, Z) (some (.int ((zbdL n m s (takeC (Q 4) (Q 1))) 0 5 - Q 1 0 5))) (va_up Q 4 (zbdL n m s (takeC (Q 4) (Q 1))), Z) := by
  refine zCT.of (by decide +kernel) (Nat.le_of_ble_eq_true rfl) ?_
  have a2 := zrg hm1 hm2 (by decide)
  have a5 : nI 1 ≤ nI s ∧ nI s ≤ 999999 := zrg hs1 hs2 (by decide)
  have a3 : nI 0 ≤ nI 0 ∧ nI 0 ≤ nI 1 := by decide
  have a4 : nI 0 = 0 := by decide
  refine zi_aload0 (n := 1) dX6_drawn_0 rfl ?_
  refine zg_X6_2 (n := 4) dX6_drawn_1 rfl zl_X6_26 ?_
  refine zgN_X4_0 (n := 7) dX6_drawn_4 rfl zl_X6_131 (by omega) rfl ?_
  refine zi_ifne (n := 10) (tgt := 13) dX6_drawn_7 rfl (by decide) (fun h7 => ?_) (fun h7 => ?_)
  · refine zi_iload1 (n := 14) dX6_drawn_13 rfl ?_
    refine zi_iconst (n := 15) (nI 0) dX6_drawn_14 rfl (by decide) ?_
    refine zi_bipush (n := 17) (nI 60) dX6_drawn_15 rfl (by decide) ?_
    refine zi_S3s (mj := zm_X6_within) (n := 20) dX6_drawn_17 rfl zl_X6_63 zy_X6_within (by decide) (Nat.le_of_ble_eq_true rfl) (c_X6_within) ?_
    refine zi_ifeq_b (n := 23) (tgt := 43) dX6_drawn_20 rfl (by decide) (fun h20 => ?_) (fun h20 => ?_)
    · first | exact absurd a2 h20 | exact absurd h20 a2
    · refine zi_iload2 (n := 24) dX6_drawn_23 rfl ?_
      refine zi_iconst (n := 25) (nI 1) dX6_drawn_24 rfl (by decide) ?_
      refine zi_ldcw (n := 28) dX6_drawn_25 rfl zl_X6_268 ?_
      refine zi_S3s (mj := zm_X6_within) (n := 31) dX6_drawn_28 rfl zl_X6_63 zy_X6_within (by decide) (Nat.le_of_ble_eq_true rfl) (c_X6_within) ?_
      refine zi_ifeq_b (n := 34) (tgt := 43) dX6_drawn_31 rfl (by decide) (fun h31 => ?_) (fun h31 => ?_)
      · first | exact absurd a5 h31 | exact absurd h31 a5
      · refine zi_iload3 (n := 35) dX6_drawn_34 rfl ?_
        refine zi_iconst (n := 36) (nI 0) dX6_drawn_35 rfl (by decide) ?_
        refine zi_iconst (n := 37) (nI 1) dX6_drawn_36 rfl (by decide) ?_
        refine zi_S3s (mj := zm_X6_within) (n := 40) dX6_drawn_37 rfl zl_X6_63 zy_X6_within (by decide) (Nat.le_of_ble_eq_true rfl) (c_X6_within) ?_
        refine zi_ifne_b (n := 43) (tgt := 46) dX6_drawn_40 rfl (by decide) (fun h40 => ?_) (fun h40 => ?_)
        · refine zi_aload0 (n := 47) dX6_drawn_46 rfl ?_
          refine zg_X6_6 (n := 50) dX6_drawn_47 rfl zl_X6_48 ?_
          refine zi_iload1 (n := 51) dX6_drawn_50 rfl ?_
          refine zi_iload2 (n := 52) dX6_drawn_51 rfl ?_
          refine zi_V2s (mj := zm_X2_behindDraws) (n := 55) dX6_drawn_52 rfl zl_X6_269 zy_X2_behindDraws (zrc_X2 _ _) (by decide) (Nat.le_of_ble_eq_true rfl) (zra (j := 4) (c_X2_behindDraws (S := Q 4) hn h6 h1 (by omega) (by omega))) ?_
          refine zi_astore4 (n := 57) dX6_drawn_55 rfl (by decide) rfl ?_
          refine zi_iload3 (n := 58) dX6_drawn_57 rfl ?_
          refine zi_ifne (n := 61) (tgt := 77) dX6_drawn_58 rfl (by decide) (fun h58 => ?_) (fun h58 => ?_)
          · first | exact absurd a4 h58 | exact absurd h58 a4
          · refine zi_aload4 (n := 63) dX6_drawn_61 rfl ?_
            refine zgN_X4_5 (n := 66) dX6_drawn_63 rfl zl_X6_144 (by decide) (zfs _ _ _ _ _ _) ?_
            refine zi_aload0 (n := 67) dX6_drawn_66 rfl ?_
            refine zg_X6_2 (n := 70) dX6_drawn_67 rfl zl_X6_26 ?_
            refine zgN_X4_5 (n := 73) dX6_drawn_70 rfl zl_X6_144 (by decide) (zfo _ (by decide) _ _ _ _) ?_
            refine zi_isub (n := 74) dX6_drawn_73 rfl ?_
            refine zi_goto (tgt := 82) dX6_drawn_74 (by decide) ?_
            exact zi_iret dX6_drawn_82 rfl (by rfl) (by rfl)
        · first | exact absurd a3 h40 | exact absurd h40 a3
  · first | exact absurd h0 h7 | exact absurd h7 h0
set_option maxHeartbeats 4000000 in
set_option maxRecDepth 100000 in
theorem x_drawn_1 (hn : Q 1 0 0 = nI n) (h6 : n ≤ 6) (h0 : ¬ Q 1 0 0 = 0) (h1 : 0 < n) {m : Nat} (hm1 : 0 ≤ m) (hm2 : m ≤ 60) {s : Nat} (hs1 : 1 ≤ s) (hs2 : s ≤ 999999) : zCT E 5 zm_X6_drawn [.ref (zad E 145), .int (nI m), .int (nI s), .int (nI 1)] (Q, Z) (some (.int (zsum ((zbdL n m s (takeC (Q 4) (Q 1))) 4) n))) (va_up Q 4 (zbdL n m s (takeC (Q 4) (Q 1))), Z) := by
  refine zCT.of (by decide +kernel) (Nat.le_of_ble_eq_true rfl) ?_
  have a2 := zrg hm1 hm2 (by decide)
  have a5 : nI 1 ≤ nI s ∧ nI s ≤ 999999 := zrg hs1 hs2 (by decide)
  have a3 : nI 0 ≤ nI 1 ∧ nI 1 ≤ nI 1 := by decide
  have a4 : ¬ nI 1 = 0 := by decide
  refine zi_aload0 (n := 1) dX6_drawn_0 rfl ?_
  refine zg_X6_2 (n := 4) dX6_drawn_1 rfl zl_X6_26 ?_
  refine zgN_X4_0 (n := 7) dX6_drawn_4 rfl zl_X6_131 (by omega) rfl ?_
  refine zi_ifne (n := 10) (tgt := 13) dX6_drawn_7 rfl (by decide) (fun h7 => ?_) (fun h7 => ?_)
  · refine zi_iload1 (n := 14) dX6_drawn_13 rfl ?_
    refine zi_iconst (n := 15) (nI 0) dX6_drawn_14 rfl (by decide) ?_
    refine zi_bipush (n := 17) (nI 60) dX6_drawn_15 rfl (by decide) ?_
    refine zi_S3s (mj := zm_X6_within) (n := 20) dX6_drawn_17 rfl zl_X6_63 zy_X6_within (by decide) (Nat.le_of_ble_eq_true rfl) (c_X6_within) ?_
    refine zi_ifeq_b (n := 23) (tgt := 43) dX6_drawn_20 rfl (by decide) (fun h20 => ?_) (fun h20 => ?_)
    · first | exact absurd a2 h20 | exact absurd h20 a2
    · refine zi_iload2 (n := 24) dX6_drawn_23 rfl ?_
      refine zi_iconst (n := 25) (nI 1) dX6_drawn_24 rfl (by decide) ?_
      refine zi_ldcw (n := 28) dX6_drawn_25 rfl zl_X6_268 ?_
      refine zi_S3s (mj := zm_X6_within) (n := 31) dX6_drawn_28 rfl zl_X6_63 zy_X6_within (by decide) (Nat.le_of_ble_eq_true rfl) (c_X6_within) ?_
      refine zi_ifeq_b (n := 34) (tgt := 43) dX6_drawn_31 rfl (by decide) (fun h31 => ?_) (fun h31 => ?_)
      · first | exact absurd a5 h31 | exact absurd h31 a5
      · refine zi_iload3 (n := 35) dX6_drawn_34 rfl ?_
        refine zi_iconst (n := 36) (nI 0) dX6_drawn_35 rfl (by decide) ?_
        refine zi_iconst (n := 37) (nI 1) dX6_drawn_36 rfl (by decide) ?_
        refine zi_S3s (mj := zm_X6_within) (n := 40) dX6_drawn_37 rfl zl_X6_63 zy_X6_within (by decide) (Nat.le_of_ble_eq_true rfl) (c_X6_within) ?_
        refine zi_ifne_b (n := 43) (tgt := 46) dX6_drawn_40 rfl (by decide) (fun h40 => ?_) (fun h40 => ?_)
        · refine zi_aload0 (n := 47) dX6_drawn_46 rfl ?_
          refine zg_X6_6 (n := 50) dX6_drawn_47 rfl zl_X6_48 ?_
          refine zi_iload1 (n := 51) dX6_drawn_50 rfl ?_
          refine zi_iload2 (n := 52) dX6_drawn_51 rfl ?_
          refine zi_V2s (mj := zm_X2_behindDraws) (n := 55) dX6_drawn_52 rfl zl_X6_269 zy_X2_behindDraws (zrc_X2 _ _) (by decide) (Nat.le_of_ble_eq_true rfl) (zra (j := 4) (c_X2_behindDraws (S := Q 4) hn h6 h1 (by omega) (by omega))) ?_
          refine zi_astore4 (n := 57) dX6_drawn_55 rfl (by decide) rfl ?_
          refine zi_iload3 (n := 58) dX6_drawn_57 rfl ?_
          refine zi_ifne (n := 61) (tgt := 77) dX6_drawn_58 rfl (by decide) (fun h58 => ?_) (fun h58 => ?_)
          · refine zi_aload4 (n := 79) dX6_drawn_77 rfl ?_
            refine zi_V0s (mj := zm_X4_allLetters) (n := 82) dX6_drawn_79 rfl zl_X6_204 zy_X4_allLetters (zrc_sq _ _ (by omega)) (by decide) (Nat.le_of_ble_eq_true rfl) (c_X4_allLetters (by decide) ((zbdL_0 m s _).trans ((takeC_0 (by decide)).trans hn)) h6) ?_
            exact zi_iret dX6_drawn_82 rfl (by rfl) (by rfl)
          · first | exact absurd a4 h58 | exact absurd h58 a4
        · first | exact absurd a3 h40 | exact absurd h40 a3
  · first | exact absurd h0 h7 | exact absurd h7 h0
set_option maxHeartbeats 4000000 in
set_option maxRecDepth 100000 in
theorem x_who_bad {x y r i m : Int32} (hb : ¬ ((¬ x < 0 ∧ ¬ Q 1 0 0 ≤ x) ∧ (nI 0 ≤ y ∧ y ≤ nI 3) ∧ (nI 0 ≤ r ∧ r ≤ nI 7) ∧ (nI 1 ≤ m ∧ m ≤ nI 12))) : zCT E 6 zm_X6_who [.ref (zad E 145), .int x, .int y, .int r, .int i, .int m] (Q, Z) (some (.int zBAD)) (Q, Z) := by
  refine zCT.of (by decide +kernel) (Nat.le_of_ble_eq_true rfl) ?_
  refine zi_aload0 (n := 1) dX6_who_0 rfl ?_
  refine zg_X6_2 (n := 4) dX6_who_1 rfl zl_X6_26 ?_
  refine zi_iload1 (n := 5) dX6_who_4 rfl ?_
  refine zi_V1s (mj := zm_X4_has) (n := 8) dX6_who_5 rfl zl_X6_153 zy_X4_has (zrc_sq _ _ (by omega)) (by decide) (Nat.le_of_ble_eq_true rfl) (zrr (j := 1) (c_X4_has (S := Q 1) (j := 1) (by decide))) ?_
  refine zi_ifeq_b (n := 11) (tgt := 42) dX6_who_8 rfl (by decide) (fun h8 => ?_) (fun h8 => ?_)
  · refine zi_ldc (n := 44) dX6_who_42 rfl zl_X6_67 ?_
    exact zi_iret dX6_who_44 rfl (by rfl) (by rfl)
  · refine zi_iload2 (n := 12) dX6_who_11 rfl ?_
    refine zi_iconst (n := 13) (nI 0) dX6_who_12 rfl (by decide) ?_
    refine zi_iconst (n := 14) (nI 3) dX6_who_13 rfl (by decide) ?_
    refine zi_S3s (mj := zm_X6_within) (n := 17) dX6_who_14 rfl zl_X6_63 zy_X6_within (by decide) (Nat.le_of_ble_eq_true rfl) (c_X6_within) ?_
    refine zi_ifeq_b (n := 20) (tgt := 42) dX6_who_17 rfl (by decide) (fun h17 => ?_) (fun h17 => ?_)
    · refine zi_ldc (n := 44) dX6_who_42 rfl zl_X6_67 ?_
      exact zi_iret dX6_who_44 rfl (by rfl) (by rfl)
    · refine zi_aload0 (n := 21) dX6_who_20 rfl ?_
      refine zg_X6_0 (n := 24) dX6_who_21 rfl zl_X6_12 ?_
      refine zi_iload3 (n := 25) dX6_who_24 rfl ?_
      refine zi_V1s (mj := zm_X3_isRow) (n := 28) dX6_who_25 rfl zl_X6_59 zy_X3_isRow (zrc_X3 _ _) (by decide) (Nat.le_of_ble_eq_true rfl) (c_X3_isRow) ?_
      refine zi_ifeq_b (n := 31) (tgt := 42) dX6_who_28 rfl (by decide) (fun h28 => ?_) (fun h28 => ?_)
      · refine zi_ldc (n := 44) dX6_who_42 rfl zl_X6_67 ?_
        exact zi_iret dX6_who_44 rfl (by rfl) (by rfl)
      · refine zi_iload5 (n := 33) dX6_who_31 rfl ?_
        refine zi_iconst (n := 34) (nI 1) dX6_who_33 rfl (by decide) ?_
        refine zi_bipush (n := 36) (nI 12) dX6_who_34 rfl (by decide) ?_
        refine zi_S3s (mj := zm_X6_within) (n := 39) dX6_who_36 rfl zl_X6_63 zy_X6_within (by decide) (Nat.le_of_ble_eq_true rfl) (c_X6_within) ?_
        refine zi_ifne_b (n := 42) (tgt := 45) dX6_who_39 rfl (by decide) (fun h39 => ?_) (fun h39 => ?_)
        · exact absurd ⟨h8, h17, h28, h39⟩ hb
        · refine zi_ldc (n := 44) dX6_who_42 rfl zl_X6_67 ?_
          exact zi_iret dX6_who_44 rfl (by rfl) (by rfl)
set_option maxHeartbeats 4000000 in
set_option maxRecDepth 100000 in
theorem x_who_null (hn : Q 1 0 0 = nI n) (h6 : n ≤ 6) {p : Nat} (hp : p < n) {w r m : Nat} {i : Int32} (hw : w < 4) (hr : r < 8) (hm1 : 1 ≤ m) (hm2 : m ≤ 12) (hz : Z 157 r = -1) : zCT E 6 zm_X6_who [.ref (zad E 145), .int (nI p), .int (nI w), .int (nI r), .int i, .int (nI m)] (Q, Z) (some (.int (-1000010 - nI 1))) (Q, zsu Z 145 9 (nI 1)) := by
  refine zCT.of (by decide +kernel) (Nat.le_of_ble_eq_true rfl) ?_
  have a1 := zhas hn h6 hp
  have a2 : nI 0 ≤ nI w ∧ nI w ≤ nI 3 := zrg (by omega) (by omega) (by decide)
  have a3 : nI 0 ≤ nI r ∧ nI r ≤ nI 7 := zrg (by omega) (by omega) (by decide)
  have a4 := zrg hm1 hm2 (by decide)
  refine zi_aload0 (n := 1) dX6_who_0 rfl ?_
  refine zg_X6_2 (n := 4) dX6_who_1 rfl zl_X6_26 ?_
  refine zi_iload1 (n := 5) dX6_who_4 rfl ?_
  refine zi_V1s (mj := zm_X4_has) (n := 8) dX6_who_5 rfl zl_X6_153 zy_X4_has (zrc_sq _ _ (by omega)) (by decide) (Nat.le_of_ble_eq_true rfl) (zrr (j := 1) (c_X4_has (S := Q 1) (j := 1) (by decide))) ?_
  refine zi_ifeq_b (n := 11) (tgt := 42) dX6_who_8 rfl (by decide) (fun h8 => ?_) (fun h8 => ?_)
  · first | exact absurd a1 h8 | exact absurd h8 a1
  · refine zi_iload2 (n := 12) dX6_who_11 rfl ?_
    refine zi_iconst (n := 13) (nI 0) dX6_who_12 rfl (by decide) ?_
    refine zi_iconst (n := 14) (nI 3) dX6_who_13 rfl (by decide) ?_
    refine zi_S3s (mj := zm_X6_within) (n := 17) dX6_who_14 rfl zl_X6_63 zy_X6_within (by decide) (Nat.le_of_ble_eq_true rfl) (c_X6_within) ?_
    refine zi_ifeq_b (n := 20) (tgt := 42) dX6_who_17 rfl (by decide) (fun h17 => ?_) (fun h17 => ?_)
    · first | exact absurd a2 h17 | exact absurd h17 a2
    · refine zi_aload0 (n := 21) dX6_who_20 rfl ?_
      refine zg_X6_0 (n := 24) dX6_who_21 rfl zl_X6_12 ?_
      refine zi_iload3 (n := 25) dX6_who_24 rfl ?_
      refine zi_V1s (mj := zm_X3_isRow) (n := 28) dX6_who_25 rfl zl_X6_59 zy_X3_isRow (zrc_X3 _ _) (by decide) (Nat.le_of_ble_eq_true rfl) (c_X3_isRow) ?_
      refine zi_ifeq_b (n := 31) (tgt := 42) dX6_who_28 rfl (by decide) (fun h28 => ?_) (fun h28 => ?_)
      · first | exact absurd a3 h28 | exact absurd h28 a3
      · refine zi_iload5 (n := 33) dX6_who_31 rfl ?_
        refine zi_iconst (n := 34) (nI 1) dX6_who_33 rfl (by decide) ?_
        refine zi_bipush (n := 36) (nI 12) dX6_who_34 rfl (by decide) ?_
        refine zi_S3s (mj := zm_X6_within) (n := 39) dX6_who_36 rfl zl_X6_63 zy_X6_within (by decide) (Nat.le_of_ble_eq_true rfl) (c_X6_within) ?_
        refine zi_ifne_b (n := 42) (tgt := 45) dX6_who_39 rfl (by decide) (fun h39 => ?_) (fun h39 => ?_)
        · refine zi_aload0 (n := 46) dX6_who_45 rfl ?_
          refine zg_X6_0 (n := 49) dX6_who_46 rfl zl_X6_12 ?_
          refine zi_iload3 (n := 50) dX6_who_49 rfl ?_
          refine zi_V1s (mj := zm_X3_isMissing) (n := 53) dX6_who_50 rfl zl_X6_80 zy_X3_isMissing (zrc_X3 _ _) (by decide) (Nat.le_of_ble_eq_true rfl) (c_X3_isMissing hr) ?_
          refine zi_ifeq_b (n := 56) (tgt := 62) dX6_who_53 rfl (by decide) (fun h53 => ?_) (fun h53 => ?_)
          · first | exact absurd hz h53 | exact absurd h53 hz
          · refine zi_aload0 (n := 57) dX6_who_56 rfl ?_
            refine zi_iconst (n := 58) (nI 1) dX6_who_57 rfl (by decide) ?_
            refine zi_V1s (mj := zm_X6_found) (n := 61) dX6_who_58 rfl zl_X6_68 zy_X6_found (zrc_X6 _ _) (by decide) (Nat.le_of_ble_eq_true rfl) (c_X6_found) ?_
            exact zi_iret dX6_who_61 rfl (by rfl) (by rfl)
        · first | exact absurd a4 h39 | exact absurd h39 a4
set_option maxHeartbeats 4000000 in
set_option maxRecDepth 100000 in
theorem x_who_place (hn : Q 1 0 0 = nI n) (h6 : n ≤ 6) {p : Nat} (hp : p < n) {w r m : Nat} {i : Int32} (hw : w < 4) (hr : r < 8) (hm1 : 1 ≤ m) (hm2 : m ≤ 12) (hz : ¬ Z 157 r = -1) (hi : ¬ (¬ i < 0 ∧ ¬ nI m < 0 ∧ ¬ (Z 157 r).toInt64 < i.toInt64 + (nI m).toInt64)) : zCT E 6 zm_X6_who [.ref (zad E 145), .int (nI p), .int (nI w), .int (nI r), .int i, .int (nI m)] (Q, Z) (some (.int (-1000010 - nI 2))) (Q, zsu Z 145 9 (nI 2)) := by
  refine zCT.of (by decide +kernel) (Nat.le_of_ble_eq_true rfl) ?_
  have a1 := zhas hn h6 hp
  have a2 : nI 0 ≤ nI w ∧ nI w ≤ nI 3 := zrg (by omega) (by omega) (by decide)
  have a3 : nI 0 ≤ nI r ∧ nI r ≤ nI 7 := zrg (by omega) (by omega) (by decide)
  have a4 := zrg hm1 hm2 (by decide)
  refine zi_aload0 (n := 1) dX6_who_0 rfl ?_
  refine zg_X6_2 (n := 4) dX6_who_1 rfl zl_X6_26 ?_
  refine zi_iload1 (n := 5) dX6_who_4 rfl ?_
  refine zi_V1s (mj := zm_X4_has) (n := 8) dX6_who_5 rfl zl_X6_153 zy_X4_has (zrc_sq _ _ (by omega)) (by decide) (Nat.le_of_ble_eq_true rfl) (zrr (j := 1) (c_X4_has (S := Q 1) (j := 1) (by decide))) ?_
  refine zi_ifeq_b (n := 11) (tgt := 42) dX6_who_8 rfl (by decide) (fun h8 => ?_) (fun h8 => ?_)
  · first | exact absurd a1 h8 | exact absurd h8 a1
  · refine zi_iload2 (n := 12) dX6_who_11 rfl ?_
    refine zi_iconst (n := 13) (nI 0) dX6_who_12 rfl (by decide) ?_
    refine zi_iconst (n := 14) (nI 3) dX6_who_13 rfl (by decide) ?_
    refine zi_S3s (mj := zm_X6_within) (n := 17) dX6_who_14 rfl zl_X6_63 zy_X6_within (by decide) (Nat.le_of_ble_eq_true rfl) (c_X6_within) ?_
    refine zi_ifeq_b (n := 20) (tgt := 42) dX6_who_17 rfl (by decide) (fun h17 => ?_) (fun h17 => ?_)
    · first | exact absurd a2 h17 | exact absurd h17 a2
    · refine zi_aload0 (n := 21) dX6_who_20 rfl ?_
      refine zg_X6_0 (n := 24) dX6_who_21 rfl zl_X6_12 ?_
      refine zi_iload3 (n := 25) dX6_who_24 rfl ?_
      refine zi_V1s (mj := zm_X3_isRow) (n := 28) dX6_who_25 rfl zl_X6_59 zy_X3_isRow (zrc_X3 _ _) (by decide) (Nat.le_of_ble_eq_true rfl) (c_X3_isRow) ?_
      refine zi_ifeq_b (n := 31) (tgt := 42) dX6_who_28 rfl (by decide) (fun h28 => ?_) (fun h28 => ?_)
      · first | exact absurd a3 h28 | exact absurd h28 a3
      · refine zi_iload5 (n := 33) dX6_who_31 rfl ?_
        refine zi_iconst (n := 34) (nI 1) dX6_who_33 rfl (by decide) ?_
        refine zi_bipush (n := 36) (nI 12) dX6_who_34 rfl (by decide) ?_
        refine zi_S3s (mj := zm_X6_within) (n := 39) dX6_who_36 rfl zl_X6_63 zy_X6_within (by decide) (Nat.le_of_ble_eq_true rfl) (c_X6_within) ?_
        refine zi_ifne_b (n := 42) (tgt := 45) dX6_who_39 rfl (by decide) (fun h39 => ?_) (fun h39 => ?_)
        · refine zi_aload0 (n := 46) dX6_who_45 rfl ?_
          refine zg_X6_0 (n := 49) dX6_who_46 rfl zl_X6_12 ?_
          refine zi_iload3 (n := 50) dX6_who_49 rfl ?_
          refine zi_V1s (mj := zm_X3_isMissing) (n := 53) dX6_who_50 rfl zl_X6_80 zy_X3_isMissing (zrc_X3 _ _) (by decide) (Nat.le_of_ble_eq_true rfl) (c_X3_isMissing hr) ?_
          refine zi_ifeq_b (n := 56) (tgt := 62) dX6_who_53 rfl (by decide) (fun h53 => ?_) (fun h53 => ?_)
          · refine zi_aload0 (n := 63) dX6_who_62 rfl ?_
            refine zg_X6_0 (n := 66) dX6_who_63 rfl zl_X6_12 ?_
            refine zi_iload3 (n := 67) dX6_who_66 rfl ?_
            refine zi_iload4 (n := 69) dX6_who_67 rfl ?_
            refine zi_iload5 (n := 71) dX6_who_69 rfl ?_
            refine zi_V3s (mj := zm_X3_hasItems) (n := 74) dX6_who_71 rfl zl_X6_83 zy_X3_hasItems (zrc_X3 _ _) (by decide) (Nat.le_of_ble_eq_true rfl) (c_X3_hasItems hr) ?_
            refine zi_ifne_b (n := 77) (tgt := 83) dX6_who_74 rfl (by decide) (fun h74 => ?_) (fun h74 => ?_)
            · first | exact absurd hi h74 | exact absurd h74 hi
            · refine zi_aload0 (n := 78) dX6_who_77 rfl ?_
              refine zi_iconst (n := 79) (nI 2) dX6_who_78 rfl (by decide) ?_
              refine zi_V1s (mj := zm_X6_found) (n := 82) dX6_who_79 rfl zl_X6_68 zy_X6_found (zrc_X6 _ _) (by decide) (Nat.le_of_ble_eq_true rfl) (c_X6_found) ?_
              exact zi_iret dX6_who_82 rfl (by rfl) (by rfl)
          · first | exact absurd hz h53 | exact absurd h53 hz
        · first | exact absurd a4 h39 | exact absurd h39 a4
set_option maxHeartbeats 4000000 in
set_option maxRecDepth 100000 in
theorem x_who_0 (hn : Q 1 0 0 = nI n) (h6 : n ≤ 6) {p : Nat} (hp : p < n) {r m i : Nat} (hr : r < 8) (hm1 : 1 ≤ m) (hm2 : m ≤ 12) (him : i + m ≤ 40) (hz : ¬ Z 157 r = -1) (hi : (¬ nI i < 0 ∧ ¬ nI m < 0 ∧ ¬ (Z 157 r).toInt64 < (nI i).toInt64 + (nI m).toInt64)) : zCT E 6 zm_X6_who [.ref (zad E 145), .int (nI p), .int (nI 0), .int (nI r), .int (nI i), .int (nI m)] (Q, Z) (some (.int (zfiL (Q 1) n p 0 (fun k => zsu Z 145 9 (nI 0) (148 + r) (i + k)) m 5 1 (nI 0) (Q 4)).1)) (va_up Q 4 (zfiL (Q 1) n p 0 (fun k => zsu Z 145 9 (nI 0) (148 + r) (i + k)) m 5 1 (nI 0) (Q 4)).2, zsu Z 145 9 (nI 0)) := by
  refine zCT.of (by decide +kernel) (Nat.le_of_ble_eq_true rfl) ?_
  have a1 := zhas hn h6 hp
  have a2 : nI 0 ≤ nI 0 ∧ nI 0 ≤ nI 3 := zrg (by omega) (by omega) (by decide)
  have a3 : nI 0 ≤ nI r ∧ nI r ≤ nI 7 := zrg (by omega) (by omega) (by decide)
  have a4 := zrg hm1 hm2 (by decide)
  refine zi_aload0 (n := 1) dX6_who_0 rfl ?_
  refine zg_X6_2 (n := 4) dX6_who_1 rfl zl_X6_26 ?_
  refine zi_iload1 (n := 5) dX6_who_4 rfl ?_
  refine zi_V1s (mj := zm_X4_has) (n := 8) dX6_who_5 rfl zl_X6_153 zy_X4_has (zrc_sq _ _ (by omega)) (by decide) (Nat.le_of_ble_eq_true rfl) (zrr (j := 1) (c_X4_has (S := Q 1) (j := 1) (by decide))) ?_
  refine zi_ifeq_b (n := 11) (tgt := 42) dX6_who_8 rfl (by decide) (fun h8 => ?_) (fun h8 => ?_)
  · first | exact absurd a1 h8 | exact absurd h8 a1
  · refine zi_iload2 (n := 12) dX6_who_11 rfl ?_
    refine zi_iconst (n := 13) (nI 0) dX6_who_12 rfl (by decide) ?_
    refine zi_iconst (n := 14) (nI 3) dX6_who_13 rfl (by decide) ?_
    refine zi_S3s (mj := zm_X6_within) (n := 17) dX6_who_14 rfl zl_X6_63 zy_X6_within (by decide) (Nat.le_of_ble_eq_true rfl) (c_X6_within) ?_
    refine zi_ifeq_b (n := 20) (tgt := 42) dX6_who_17 rfl (by decide) (fun h17 => ?_) (fun h17 => ?_)
    · first | exact absurd a2 h17 | exact absurd h17 a2
    · refine zi_aload0 (n := 21) dX6_who_20 rfl ?_
      refine zg_X6_0 (n := 24) dX6_who_21 rfl zl_X6_12 ?_
      refine zi_iload3 (n := 25) dX6_who_24 rfl ?_
      refine zi_V1s (mj := zm_X3_isRow) (n := 28) dX6_who_25 rfl zl_X6_59 zy_X3_isRow (zrc_X3 _ _) (by decide) (Nat.le_of_ble_eq_true rfl) (c_X3_isRow) ?_
      refine zi_ifeq_b (n := 31) (tgt := 42) dX6_who_28 rfl (by decide) (fun h28 => ?_) (fun h28 => ?_)
      · first | exact absurd a3 h28 | exact absurd h28 a3
      · refine zi_iload5 (n := 33) dX6_who_31 rfl ?_
        refine zi_iconst (n := 34) (nI 1) dX6_who_33 rfl (by decide) ?_
        refine zi_bipush (n := 36) (nI 12) dX6_who_34 rfl (by decide) ?_
        refine zi_S3s (mj := zm_X6_within) (n := 39) dX6_who_36 rfl zl_X6_63 zy_X6_within (by decide) (Nat.le_of_ble_eq_true rfl) (c_X6_within) ?_
        refine zi_ifne_b (n := 42) (tgt := 45) dX6_who_39 rfl (by decide) (fun h39 => ?_) (fun h39 => ?_)
        · refine zi_aload0 (n := 46) dX6_who_45 rfl ?_
          refine zg_X6_0 (n := 49) dX6_who_46 rfl zl_X6_12 ?_
          refine zi_iload3 (n := 50) dX6_who_49 rfl ?_
          refine zi_V1s (mj := zm_X3_isMissing) (n := 53) dX6_who_50 rfl zl_X6_80 zy_X3_isMissing (zrc_X3 _ _) (by decide) (Nat.le_of_ble_eq_true rfl) (c_X3_isMissing hr) ?_
          refine zi_ifeq_b (n := 56) (tgt := 62) dX6_who_53 rfl (by decide) (fun h53 => ?_) (fun h53 => ?_)
          · refine zi_aload0 (n := 63) dX6_who_62 rfl ?_
            refine zg_X6_0 (n := 66) dX6_who_63 rfl zl_X6_12 ?_
            refine zi_iload3 (n := 67) dX6_who_66 rfl ?_
            refine zi_iload4 (n := 69) dX6_who_67 rfl ?_
            refine zi_iload5 (n := 71) dX6_who_69 rfl ?_
            refine zi_V3s (mj := zm_X3_hasItems) (n := 74) dX6_who_71 rfl zl_X6_83 zy_X3_hasItems (zrc_X3 _ _) (by decide) (Nat.le_of_ble_eq_true rfl) (c_X3_hasItems hr) ?_
            refine zi_ifne_b (n := 77) (tgt := 83) dX6_who_74 rfl (by decide) (fun h74 => ?_) (fun h74 => ?_)
            · refine zi_aload0 (n := 84) dX6_who_83 rfl ?_
              refine zi_iconst (n := 85) (nI 0) dX6_who_84 rfl (by decide) ?_
              refine zp_X6_9 (n := 88) dX6_who_85 rfl zl_X6_72 rfl ?_
              refine zi_aload0 (n := 89) dX6_who_88 rfl ?_
              refine zg_X6_6 (n := 92) dX6_who_89 rfl zl_X6_48 ?_
              refine zi_iload1 (n := 93) dX6_who_92 rfl ?_
              refine zi_iload2 (n := 94) dX6_who_93 rfl ?_
              refine zi_aload0 (n := 95) dX6_who_94 rfl ?_
              refine zg_X6_0 (n := 98) dX6_who_95 rfl zl_X6_12 ?_
              refine zi_iload3 (n := 99) dX6_who_98 rfl ?_
              refine zi_iload4 (n := 101) dX6_who_99 rfl ?_
              refine zi_iload5 (n := 103) dX6_who_101 rfl ?_
              refine zi_V6s (mj := zm_X2_fitting) (n := 106) dX6_who_103 rfl zl_X6_250 zy_X2_fitting (zrc_X2 _ _) (by decide) (Nat.le_of_ble_eq_true rfl) (zra (j := 4) (c_fit_0 (Z := zsu Z 145 9 (nI 0)) (S := Q 4) hn h6 (by omega) hr him)) ?_
              exact zi_iret dX6_who_106 rfl (by rfl) (by rfl)
            · first | exact absurd hi h74 | exact absurd h74 hi
          · first | exact absurd hz h53 | exact absurd h53 hz
        · first | exact absurd a4 h39 | exact absurd h39 a4
set_option maxHeartbeats 4000000 in
set_option maxRecDepth 100000 in
theorem x_who_1 (hn : Q 1 0 0 = nI n) (h6 : n ≤ 6) {p : Nat} (hp : p < n) {r m i : Nat} (hr : r < 8) (hm1 : 1 ≤ m) (hm2 : m ≤ 12) (him : i + m ≤ 40) (hz : ¬ Z 157 r = -1) (hi : (¬ nI i < 0 ∧ ¬ nI m < 0 ∧ ¬ (Z 157 r).toInt64 < (nI i).toInt64 + (nI m).toInt64)) : zCT E 6 zm_X6_who [.ref (zad E 145), .int (nI p), .int (nI 1), .int (nI r), .int (nI i), .int (nI m)] (Q, Z) (some (.int (zfiL (Q 1) n p 1 (fun k => zsu Z 145 9 (nI 0) (148 + r) (i + k)) m 10 0 (nI 0) (Q 4)).1)) (va_up Q 4 (zfiL (Q 1) n p 1 (fun k => zsu Z 145 9 (nI 0) (148 + r) (i + k)) m 10 0 (nI 0) (Q 4)).2, zsu Z 145 9 (nI 0)) := by
  refine zCT.of (by decide +kernel) (Nat.le_of_ble_eq_true rfl) ?_
  have a1 := zhas hn h6 hp
  have a2 : nI 0 ≤ nI 1 ∧ nI 1 ≤ nI 3 := zrg (by omega) (by omega) (by decide)
  have a3 : nI 0 ≤ nI r ∧ nI r ≤ nI 7 := zrg (by omega) (by omega) (by decide)
  have a4 := zrg hm1 hm2 (by decide)
  refine zi_aload0 (n := 1) dX6_who_0 rfl ?_
  refine zg_X6_2 (n := 4) dX6_who_1 rfl zl_X6_26 ?_
  refine zi_iload1 (n := 5) dX6_who_4 rfl ?_
  refine zi_V1s (mj := zm_X4_has) (n := 8) dX6_who_5 rfl zl_X6_153 zy_X4_has (zrc_sq _ _ (by omega)) (by decide) (Nat.le_of_ble_eq_true rfl) (zrr (j := 1) (c_X4_has (S := Q 1) (j := 1) (by decide))) ?_
  refine zi_ifeq_b (n := 11) (tgt := 42) dX6_who_8 rfl (by decide) (fun h8 => ?_) (fun h8 => ?_)
  · first | exact absurd a1 h8 | exact absurd h8 a1
  · refine zi_iload2 (n := 12) dX6_who_11 rfl ?_
    refine zi_iconst (n := 13) (nI 0) dX6_who_12 rfl (by decide) ?_
    refine zi_iconst (n := 14) (nI 3) dX6_who_13 rfl (by decide) ?_
    refine zi_S3s (mj := zm_X6_within) (n := 17) dX6_who_14 rfl zl_X6_63 zy_X6_within (by decide) (Nat.le_of_ble_eq_true rfl) (c_X6_within) ?_
    refine zi_ifeq_b (n := 20) (tgt := 42) dX6_who_17 rfl (by decide) (fun h17 => ?_) (fun h17 => ?_)
    · first | exact absurd a2 h17 | exact absurd h17 a2
    · refine zi_aload0 (n := 21) dX6_who_20 rfl ?_
      refine zg_X6_0 (n := 24) dX6_who_21 rfl zl_X6_12 ?_
      refine zi_iload3 (n := 25) dX6_who_24 rfl ?_
      refine zi_V1s (mj := zm_X3_isRow) (n := 28) dX6_who_25 rfl zl_X6_59 zy_X3_isRow (zrc_X3 _ _) (by decide) (Nat.le_of_ble_eq_true rfl) (c_X3_isRow) ?_
      refine zi_ifeq_b (n := 31) (tgt := 42) dX6_who_28 rfl (by decide) (fun h28 => ?_) (fun h28 => ?_)
      · first | exact absurd a3 h28 | exact absurd h28 a3
      · refine zi_iload5 (n := 33) dX6_who_31 rfl ?_
        refine zi_iconst (n := 34) (nI 1) dX6_who_33 rfl (by decide) ?_
        refine zi_bipush (n := 36) (nI 12) dX6_who_34 rfl (by decide) ?_
        refine zi_S3s (mj := zm_X6_within) (n := 39) dX6_who_36 rfl zl_X6_63 zy_X6_within (by decide) (Nat.le_of_ble_eq_true rfl) (c_X6_within) ?_
        refine zi_ifne_b (n := 42) (tgt := 45) dX6_who_39 rfl (by decide) (fun h39 => ?_) (fun h39 => ?_)
        · refine zi_aload0 (n := 46) dX6_who_45 rfl ?_
          refine zg_X6_0 (n := 49) dX6_who_46 rfl zl_X6_12 ?_
          refine zi_iload3 (n := 50) dX6_who_49 rfl ?_
          refine zi_V1s (mj := zm_X3_isMissing) (n := 53) dX6_who_50 rfl zl_X6_80 zy_X3_isMissing (zrc_X3 _ _) (by decide) (Nat.le_of_ble_eq_true rfl) (c_X3_isMissing hr) ?_
          refine zi_ifeq_b (n := 56) (tgt := 62) dX6_who_53 rfl (by decide) (fun h53 => ?_) (fun h53 => ?_)
          · refine zi_aload0 (n := 63) dX6_who_62 rfl ?_
            refine zg_X6_0 (n := 66) dX6_who_63 rfl zl_X6_12 ?_
            refine zi_iload3 (n := 67) dX6_who_66 rfl ?_
            refine zi_iload4 (n := 69) dX6_who_67 rfl ?_
            refine zi_iload5 (n := 71) dX6_who_69 rfl ?_
            refine zi_V3s (mj := zm_X3_hasItems) (n := 74) dX6_who_71 rfl zl_X6_83 zy_X3_hasItems (zrc_X3 _ _) (by decide) (Nat.le_of_ble_eq_true rfl) (c_X3_hasItems hr) ?_
            refine zi_ifne_b (n := 77) (tgt := 83) dX6_who_74 rfl (by decide) (fun h74 => ?_) (fun h74 => ?_)
            · refine zi_aload0 (n := 84) dX6_who_83 rfl ?_
              refine zi_iconst (n := 85) (nI 0) dX6_who_84 rfl (by decide) ?_
              refine zp_X6_9 (n := 88) dX6_who_85 rfl zl_X6_72 rfl ?_
              refine zi_aload0 (n := 89) dX6_who_88 rfl ?_
              refine zg_X6_6 (n := 92) dX6_who_89 rfl zl_X6_48 ?_
              refine zi_iload1 (n := 93) dX6_who_92 rfl ?_
              refine zi_iload2 (n := 94) dX6_who_93 rfl ?_
              refine zi_aload0 (n := 95) dX6_who_94 rfl ?_
              refine zg_X6_0 (n := 98) dX6_who_95 rfl zl_X6_12 ?_
              refine zi_iload3 (n := 99) dX6_who_98 rfl ?_
              refine zi_iload4 (n := 101) dX6_who_99 rfl ?_
              refine zi_iload5 (n := 103) dX6_who_101 rfl ?_
              refine zi_V6s (mj := zm_X2_fitting) (n := 106) dX6_who_103 rfl zl_X6_250 zy_X2_fitting (zrc_X2 _ _) (by decide) (Nat.le_of_ble_eq_true rfl) (zra (j := 4) (c_fit_1 (Z := zsu Z 145 9 (nI 0)) (S := Q 4) hn h6 (by omega) hr him)) ?_
              exact zi_iret dX6_who_106 rfl (by rfl) (by rfl)
            · first | exact absurd hi h74 | exact absurd h74 hi
          · first | exact absurd hz h53 | exact absurd h53 hz
        · first | exact absurd a4 h39 | exact absurd h39 a4
set_option maxHeartbeats 4000000 in
set_option maxRecDepth 100000 in
theorem x_who_2 (hn : Q 1 0 0 = nI n) (h6 : n ≤ 6) {p : Nat} (hp : p < n) {r m i : Nat} (hr : r < 8) (hm1 : 1 ≤ m) (hm2 : m ≤ 12) (him : i + m ≤ 40) (hz : ¬ Z 157 r = -1) (hi : (¬ nI i < 0 ∧ ¬ nI m < 0 ∧ ¬ (Z 157 r).toInt64 < (nI i).toInt64 + (nI m).toInt64)) : zCT E 6 zm_X6_who [.ref (zad E 145), .int (nI p), .int (nI 2), .int (nI r), .int (nI i), .int (nI m)] (Q, Z) (some (.int (zfiL (Q 1) n p 2 (fun k => zsu Z 145 9 (nI 0) (148 + r) (i + k)) m 9 1 (nI 0) (Q 4)).1)) (va_up Q 4 (zfiL (Q 1) n p 2 (fun k => zsu Z 145 9 (nI 0) (148 + r) (i + k)) m 9 1 (nI 0) (Q 4)).2, zsu Z 145 9 (nI 0)) := by
  refine zCT.of (by decide +kernel) (Nat.le_of_ble_eq_true rfl) ?_
  have a1 := zhas hn h6 hp
  have a2 : nI 0 ≤ nI 2 ∧ nI 2 ≤ nI 3 := zrg (by omega) (by omega) (by decide)
  have a3 : nI 0 ≤ nI r ∧ nI r ≤ nI 7 := zrg (by omega) (by omega) (by decide)
  have a4 := zrg hm1 hm2 (by decide)
  refine zi_aload0 (n := 1) dX6_who_0 rfl ?_
  refine zg_X6_2 (n := 4) dX6_who_1 rfl zl_X6_26 ?_
  refine zi_iload1 (n := 5) dX6_who_4 rfl ?_
  refine zi_V1s (mj := zm_X4_has) (n := 8) dX6_who_5 rfl zl_X6_153 zy_X4_has (zrc_sq _ _ (by omega)) (by decide) (Nat.le_of_ble_eq_true rfl) (zrr (j := 1) (c_X4_has (S := Q 1) (j := 1) (by decide))) ?_
  refine zi_ifeq_b (n := 11) (tgt := 42) dX6_who_8 rfl (by decide) (fun h8 => ?_) (fun h8 => ?_)
  · first | exact absurd a1 h8 | exact absurd h8 a1
  · refine zi_iload2 (n := 12) dX6_who_11 rfl ?_
    refine zi_iconst (n := 13) (nI 0) dX6_who_12 rfl (by decide) ?_
    refine zi_iconst (n := 14) (nI 3) dX6_who_13 rfl (by decide) ?_
    refine zi_S3s (mj := zm_X6_within) (n := 17) dX6_who_14 rfl zl_X6_63 zy_X6_within (by decide) (Nat.le_of_ble_eq_true rfl) (c_X6_within) ?_
    refine zi_ifeq_b (n := 20) (tgt := 42) dX6_who_17 rfl (by decide) (fun h17 => ?_) (fun h17 => ?_)
    · first | exact absurd a2 h17 | exact absurd h17 a2
    · refine zi_aload0 (n := 21) dX6_who_20 rfl ?_
      refine zg_X6_0 (n := 24) dX6_who_21 rfl zl_X6_12 ?_
      refine zi_iload3 (n := 25) dX6_who_24 rfl ?_
      refine zi_V1s (mj := zm_X3_isRow) (n := 28) dX6_who_25 rfl zl_X6_59 zy_X3_isRow (zrc_X3 _ _) (by decide) (Nat.le_of_ble_eq_true rfl) (c_X3_isRow) ?_
      refine zi_ifeq_b (n := 31) (tgt := 42) dX6_who_28 rfl (by decide) (fun h28 => ?_) (fun h28 => ?_)
      · first | exact absurd a3 h28 | exact absurd h28 a3
      · refine zi_iload5 (n := 33) dX6_who_31 rfl ?_
        refine zi_iconst (n := 34) (nI 1) dX6_who_33 rfl (by decide) ?_
        refine zi_bipush (n := 36) (nI 12) dX6_who_34 rfl (by decide) ?_
        refine zi_S3s (mj := zm_X6_within) (n := 39) dX6_who_36 rfl zl_X6_63 zy_X6_within (by decide) (Nat.le_of_ble_eq_true rfl) (c_X6_within) ?_
        refine zi_ifne_b (n := 42) (tgt := 45) dX6_who_39 rfl (by decide) (fun h39 => ?_) (fun h39 => ?_)
        · refine zi_aload0 (n := 46) dX6_who_45 rfl ?_
          refine zg_X6_0 (n := 49) dX6_who_46 rfl zl_X6_12 ?_
          refine zi_iload3 (n := 50) dX6_who_49 rfl ?_
          refine zi_V1s (mj := zm_X3_isMissing) (n := 53) dX6_who_50 rfl zl_X6_80 zy_X3_isMissing (zrc_X3 _ _) (by decide) (Nat.le_of_ble_eq_true rfl) (c_X3_isMissing hr) ?_
          refine zi_ifeq_b (n := 56) (tgt := 62) dX6_who_53 rfl (by decide) (fun h53 => ?_) (fun h53 => ?_)
          · refine zi_aload0 (n := 63) dX6_who_62 rfl ?_
            refine zg_X6_0 (n := 66) dX6_who_63 rfl zl_X6_12 ?_
            refine zi_iload3 (n := 67) dX6_who_66 rfl ?_
            refine zi_iload4 (n := 69) dX6_who_67 rfl ?_
            refine zi_iload5 (n := 71) dX6_who_69 rfl ?_
            refine zi_V3s (mj := zm_X3_hasItems) (n := 74) dX6_who_71 rfl zl_X6_83 zy_X3_hasItems (zrc_X3 _ _) (by decide) (Nat.le_of_ble_eq_true rfl) (c_X3_hasItems hr) ?_
            refine zi_ifne_b (n := 77) (tgt := 83) dX6_who_74 rfl (by decide) (fun h74 => ?_) (fun h74 => ?_)
            · refine zi_aload0 (n := 84) dX6_who_83 rfl ?_
              refine zi_iconst (n := 85) (nI 0) dX6_who_84 rfl (by decide) ?_
              refine zp_X6_9 (n := 88) dX6_who_85 rfl zl_X6_72 rfl ?_
              refine zi_aload0 (n := 89) dX6_who_88 rfl ?_
              refine zg_X6_6 (n := 92) dX6_who_89 rfl zl_X6_48 ?_
              refine zi_iload1 (n := 93) dX6_who_92 rfl ?_
              refine zi_iload2 (n := 94) dX6_who_93 rfl ?_
              refine zi_aload0 (n := 95) dX6_who_94 rfl ?_
              refine zg_X6_0 (n := 98) dX6_who_95 rfl zl_X6_12 ?_
              refine zi_iload3 (n := 99) dX6_who_98 rfl ?_
              refine zi_iload4 (n := 101) dX6_who_99 rfl ?_
              refine zi_iload5 (n := 103) dX6_who_101 rfl ?_
              refine zi_V6s (mj := zm_X2_fitting) (n := 106) dX6_who_103 rfl zl_X6_250 zy_X2_fitting (zrc_X2 _ _) (by decide) (Nat.le_of_ble_eq_true rfl) (zra (j := 4) (c_fit_2 (Z := zsu Z 145 9 (nI 0)) (S := Q 4) hn h6 (by omega) hr him)) ?_
              exact zi_iret dX6_who_106 rfl (by rfl) (by rfl)
            · first | exact absurd hi h74 | exact absurd h74 hi
          · first | exact absurd hz h53 | exact absurd h53 hz
        · first | exact absurd a4 h39 | exact absurd h39 a4
set_option maxHeartbeats 4000000 in
set_option maxRecDepth 100000 in
theorem x_who_3 (hn : Q 1 0 0 = nI n) (h6 : n ≤ 6) {p : Nat} (hp : p < n) {r m i : Nat} (hr : r < 8) (hm1 : 1 ≤ m) (hm2 : m ≤ 12) (him : i + m ≤ 40) (hz : ¬ Z 157 r = -1) (hi : (¬ nI i < 0 ∧ ¬ nI m < 0 ∧ ¬ (Z 157 r).toInt64 < (nI i).toInt64 + (nI m).toInt64)) : zCT E 6 zm_X6_who [.ref (zad E 145), .int (nI p), .int (nI 3), .int (nI r), .int (nI i), .int (nI m)] (Q, Z) (some (.int (zfiL (Q 1) n p 3 (fun k => zsu Z 145 9 (nI 0) (148 + r) (i + k)) m 10 0 (nI 0) (Q 4)).1)) (va_up Q 4 (zfiL (Q 1) n p 3 (fun k => zsu Z 145 9 (nI 0) (148 + r) (i + k)) m 10 0 (nI 0) (Q 4)).2, zsu Z 145 9 (nI 0)) := by
  refine zCT.of (by decide +kernel) (Nat.le_of_ble_eq_true rfl) ?_
  have a1 := zhas hn h6 hp
  have a2 : nI 0 ≤ nI 3 ∧ nI 3 ≤ nI 3 := zrg (by omega) (by omega) (by decide)
  have a3 : nI 0 ≤ nI r ∧ nI r ≤ nI 7 := zrg (by omega) (by omega) (by decide)
  have a4 := zrg hm1 hm2 (by decide)
  refine zi_aload0 (n := 1) dX6_who_0 rfl ?_
  refine zg_X6_2 (n := 4) dX6_who_1 rfl zl_X6_26 ?_
  refine zi_iload1 (n := 5) dX6_who_4 rfl ?_
  refine zi_V1s (mj := zm_X4_has) (n := 8) dX6_who_5 rfl zl_X6_153 zy_X4_has (zrc_sq _ _ (by omega)) (by decide) (Nat.le_of_ble_eq_true rfl) (zrr (j := 1) (c_X4_has (S := Q 1) (j := 1) (by decide))) ?_
  refine zi_ifeq_b (n := 11) (tgt := 42) dX6_who_8 rfl (by decide) (fun h8 => ?_) (fun h8 => ?_)
  · first | exact absurd a1 h8 | exact absurd h8 a1
  · refine zi_iload2 (n := 12) dX6_who_11 rfl ?_
    refine zi_iconst (n := 13) (nI 0) dX6_who_12 rfl (by decide) ?_
    refine zi_iconst (n := 14) (nI 3) dX6_who_13 rfl (by decide) ?_
    refine zi_S3s (mj := zm_X6_within) (n := 17) dX6_who_14 rfl zl_X6_63 zy_X6_within (by decide) (Nat.le_of_ble_eq_true rfl) (c_X6_within) ?_
    refine zi_ifeq_b (n := 20) (tgt := 42) dX6_who_17 rfl (by decide) (fun h17 => ?_) (fun h17 => ?_)
    · first | exact absurd a2 h17 | exact absurd h17 a2
    · refine zi_aload0 (n := 21) dX6_who_20 rfl ?_
      refine zg_X6_0 (n := 24) dX6_who_21 rfl zl_X6_12 ?_
      refine zi_iload3 (n := 25) dX6_who_24 rfl ?_
      refine zi_V1s (mj := zm_X3_isRow) (n := 28) dX6_who_25 rfl zl_X6_59 zy_X3_isRow (zrc_X3 _ _) (by decide) (Nat.le_of_ble_eq_true rfl) (c_X3_isRow) ?_
      refine zi_ifeq_b (n := 31) (tgt := 42) dX6_who_28 rfl (by decide) (fun h28 => ?_) (fun h28 => ?_)
      · first | exact absurd a3 h28 | exact absurd h28 a3
      · refine zi_iload5 (n := 33) dX6_who_31 rfl ?_
        refine zi_iconst (n := 34) (nI 1) dX6_who_33 rfl (by decide) ?_
        refine zi_bipush (n := 36) (nI 12) dX6_who_34 rfl (by decide) ?_
        refine zi_S3s (mj := zm_X6_within) (n := 39) dX6_who_36 rfl zl_X6_63 zy_X6_within (by decide) (Nat.le_of_ble_eq_true rfl) (c_X6_within) ?_
        refine zi_ifne_b (n := 42) (tgt := 45) dX6_who_39 rfl (by decide) (fun h39 => ?_) (fun h39 => ?_)
        · refine zi_aload0 (n := 46) dX6_who_45 rfl ?_
          refine zg_X6_0 (n := 49) dX6_who_46 rfl zl_X6_12 ?_
          refine zi_iload3 (n := 50) dX6_who_49 rfl ?_
          refine zi_V1s (mj := zm_X3_isMissing) (n := 53) dX6_who_50 rfl zl_X6_80 zy_X3_isMissing (zrc_X3 _ _) (by decide) (Nat.le_of_ble_eq_true rfl) (c_X3_isMissing hr) ?_
          refine zi_ifeq_b (n := 56) (tgt := 62) dX6_who_53 rfl (by decide) (fun h53 => ?_) (fun h53 => ?_)
          · refine zi_aload0 (n := 63) dX6_who_62 rfl ?_
            refine zg_X6_0 (n := 66) dX6_who_63 rfl zl_X6_12 ?_
            refine zi_iload3 (n := 67) dX6_who_66 rfl ?_
            refine zi_iload4 (n := 69) dX6_who_67 rfl ?_
            refine zi_iload5 (n := 71) dX6_who_69 rfl ?_
            refine zi_V3s (mj := zm_X3_hasItems) (n := 74) dX6_who_71 rfl zl_X6_83 zy_X3_hasItems (zrc_X3 _ _) (by decide) (Nat.le_of_ble_eq_true rfl) (c_X3_hasItems hr) ?_
            refine zi_ifne_b (n := 77) (tgt := 83) dX6_who_74 rfl (by decide) (fun h74 => ?_) (fun h74 => ?_)
            · refine zi_aload0 (n := 84) dX6_who_83 rfl ?_
              refine zi_iconst (n := 85) (nI 0) dX6_who_84 rfl (by decide) ?_
              refine zp_X6_9 (n := 88) dX6_who_85 rfl zl_X6_72 rfl ?_
              refine zi_aload0 (n := 89) dX6_who_88 rfl ?_
              refine zg_X6_6 (n := 92) dX6_who_89 rfl zl_X6_48 ?_
              refine zi_iload1 (n := 93) dX6_who_92 rfl ?_
              refine zi_iload2 (n := 94) dX6_who_93 rfl ?_
              refine zi_aload0 (n := 95) dX6_who_94 rfl ?_
              refine zg_X6_0 (n := 98) dX6_who_95 rfl zl_X6_12 ?_
              refine zi_iload3 (n := 99) dX6_who_98 rfl ?_
              refine zi_iload4 (n := 101) dX6_who_99 rfl ?_
              refine zi_iload5 (n := 103) dX6_who_101 rfl ?_
              refine zi_V6s (mj := zm_X2_fitting) (n := 106) dX6_who_103 rfl zl_X6_250 zy_X2_fitting (zrc_X2 _ _) (by decide) (Nat.le_of_ble_eq_true rfl) (zra (j := 4) (c_fit_3 (Z := zsu Z 145 9 (nI 0)) (S := Q 4) hn h6 (by omega) hr him)) ?_
              exact zi_iret dX6_who_106 rfl (by rfl) (by rfl)
            · first | exact absurd hi h74 | exact absurd h74 hi
          · first | exact absurd hz h53 | exact absurd h53 hz
        · first | exact absurd a4 h39 | exact absurd h39 a4
end ZN8
