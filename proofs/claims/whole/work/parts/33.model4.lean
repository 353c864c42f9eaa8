section ZM4
variable {E : zE} {Q : Nat → Nat → Nat → Int32} {Z : zS} {M M1 : zMem} {n p d : Nat} {f : zF} {w : zTf}
theorem zisP (hn : Z 169 0 = nI n) (h6 : n ≤ 6) (hp : p < n) : nI 0 ≤ nI p ∧ nI p ≤ Z 169 0 - nI 1 := by
  rw [hn, pk_sub (by omega)]; exact zrg (by omega) (by omega) (by omega)
theorem c_of9 {c : Nat} (hp : p < 6) (hc : c < 5) {x : Int32} (hx : Z 169 (6 + 5 * p + c) = x) : zCT E 0 zm_X7_of [.ref (zad E 169), .int (nI p), .int (nI c)] (Q, Z) (some (.int x)) (Q, Z) := by
  subst hx; exact zrq (a := 169) (c_X7_of (Or.inl rfl) hp hc)
theorem c_be9 {c : Nat} (hp : p < 6) (hc : c < 5) {x : Int32} {f : zF} (hf : Z 169 = f) : zCT E 0 zm_X7_be [.ref (zad E 169), .int (nI p), .int (nI c), .int x] (Q, Z) none (Q, va_up Z 169 (upd f (6 + 5 * p + c) x)) := by
  subst hf; exact zrz (a := 169) (c_X7_be (Or.inl rfl) hp hc)
set_option maxHeartbeats 4000000 in
set_option maxRecDepth 100000 in
theorem m_copy_bad (h0 : Z 165 0 = nI 0) {x y i j k : Int32} (hb : ¬ ((nI 0 ≤ x ∧ x ≤ nI 7) ∧ (nI 0 ≤ y ∧ y ≤ nI 7))) : zCT E 2 zm_X7_copy [.ref (zad E 165), .int x, .int i, .int y, .int j, .int k] (Q, Z) (some (.int zBAD)) (Q, Z) := by
  refine zCT.of (by decide +kernel) (Nat.le_of_ble_eq_true rfl) ?_
  refine zi_aload0 (n := 1) dX7_copy_0 rfl ?_
  refine zi_iconst (n := 2) (nI 0) dX7_copy_1 rfl (by decide) ?_
  refine zp_X7_0 (n := 5) dX7_copy_2 rfl zl_X7_44 (zt0 h0) ?_
  refine zi_iload1 (n := 6) dX7_copy_5 rfl ?_
  refine zi_S1s (mj := zm_X7_isRow) (n := 9) dX7_copy_6 rfl zl_X7_58 zy_X7_isRow (by decide) (Nat.le_of_ble_eq_true rfl) (c_X7_isRow) ?_
  refine zi_ifeq_b (n := 12) (tgt := 19) dX7_copy_9 rfl (by decide) (fun h9 => ?_) (fun h9 => ?_)
  · refine zi_ldc (n := 21) dX7_copy_19 rfl zl_X7_64 ?_
    exact zi_iret dX7_copy_21 rfl (by rfl) (by rfl)
  · refine zi_iload3 (n := 13) dX7_copy_12 rfl ?_
    refine zi_S1s (mj := zm_X7_isRow) (n := 16) dX7_copy_13 rfl zl_X7_58 zy_X7_isRow (by decide) (Nat.le_of_ble_eq_true rfl) (c_X7_isRow) ?_
    refine zi_ifne_b (n := 19) (tgt := 22) dX7_copy_16 rfl (by decide) (fun h16 => ?_) (fun h16 => ?_)
    · exact absurd ⟨h9, h16⟩ hb
    · refine zi_ldc (n := 21) dX7_copy_19 rfl zl_X7_64 ?_
      exact zi_iret dX7_copy_21 rfl (by rfl) (by rfl)
set_option maxHeartbeats 4000000 in
set_option maxRecDepth 100000 in
theorem m_copy_null (h0 : Z 165 0 = nI 0) {a c : Nat} {i j k : Int32} (ha : a < 8) (hc : c < 8) (hz : ¬ (0 ≤ Z 166 a ∧ 0 ≤ Z 166 c)) : zCT E 2 zm_X7_copy [.ref (zad E 165), .int (nI a), .int i, .int (nI c), .int j, .int k] (Q, Z) (some (.int (-1000010 - nI 1))) (Q, zsu (zsu Z 165 1 (nI 0)) 165 1 (nI 1)) := by
  refine zCT.of (by decide +kernel) (Nat.le_of_ble_eq_true rfl) ?_
  have a1 : nI 0 ≤ nI a ∧ nI a ≤ nI 7 := zrg (by omega) (by omega) (by decide)
  have a2 : nI 0 ≤ nI c ∧ nI c ≤ nI 7 := zrg (by omega) (by omega) (by decide)
  refine zi_aload0 (n := 1) dX7_copy_0 rfl ?_
  refine zi_iconst (n := 2) (nI 0) dX7_copy_1 rfl (by decide) ?_
  refine zp_X7_0 (n := 5) dX7_copy_2 rfl zl_X7_44 (zt0 h0) ?_
  refine zi_iload1 (n := 6) dX7_copy_5 rfl ?_
  refine zi_S1s (mj := zm_X7_isRow) (n := 9) dX7_copy_6 rfl zl_X7_58 zy_X7_isRow (by decide) (Nat.le_of_ble_eq_true rfl) (c_X7_isRow) ?_
  refine zi_ifeq_b (n := 12) (tgt := 19) dX7_copy_9 rfl (by decide) (fun h9 => ?_) (fun h9 => ?_)
  · first | exact absurd a1 h9 | exact absurd h9 a1
  · refine zi_iload3 (n := 13) dX7_copy_12 rfl ?_
    refine zi_S1s (mj := zm_X7_isRow) (n := 16) dX7_copy_13 rfl zl_X7_58 zy_X7_isRow (by decide) (Nat.le_of_ble_eq_true rfl) (c_X7_isRow) ?_
    refine zi_ifne_b (n := 19) (tgt := 22) dX7_copy_16 rfl (by decide) (fun h16 => ?_) (fun h16 => ?_)
    · refine zi_aload0 (n := 23) dX7_copy_22 rfl ?_
      refine zi_iconst (n := 24) (nI 0) dX7_copy_23 rfl (by decide) ?_
      refine zp_X7_1 (n := 27) dX7_copy_24 rfl zl_X7_48 rfl ?_
      refine zi_aload0 (n := 28) dX7_copy_27 rfl ?_
      refine zg_X7_2 (n := 31) dX7_copy_28 rfl zl_X7_7 ?_
      refine zi_iload1 (n := 32) dX7_copy_31 rfl ?_
      refine zi_oald (N := 8) (n := 33) dX7_copy_32 rfl (by decide) (fun _ => rfl) (by decide) rfl (by omega) rfl ?_
      refine zi_iflt (n := 36) (tgt := 45) dX7_copy_33 rfl (by decide) (fun h33 => ?_) (fun h33 => ?_)
      · refine zi_aload0 (n := 46) dX7_copy_45 rfl ?_
        refine zi_iconst (n := 47) (nI 1) dX7_copy_46 rfl (by decide) ?_
        refine zi_V1s (mj := zm_X7_finding) (n := 50) dX7_copy_47 rfl zl_X7_65 zy_X7_finding (zrc_X7 _ _) (by decide) (Nat.le_of_ble_eq_true rfl) (c_X7_finding) ?_
        exact zi_iret dX7_copy_50 rfl (by rfl) (by rfl)
      · refine zi_aload0 (n := 37) dX7_copy_36 rfl ?_
        refine zg_X7_2 (n := 40) dX7_copy_37 rfl zl_X7_7 ?_
        refine zi_iload3 (n := 41) dX7_copy_40 rfl ?_
        refine zi_oald (N := 8) (n := 42) dX7_copy_41 rfl (by decide) (fun _ => rfl) (by decide) rfl (by omega) rfl ?_
        refine zi_ifge (n := 45) (tgt := 51) dX7_copy_42 rfl (by decide) (fun h42 => ?_) (fun h42 => ?_)
        · exact absurd ⟨Int32.not_lt.mp h33, h42⟩ hz
        · refine zi_aload0 (n := 46) dX7_copy_45 rfl ?_
          refine zi_iconst (n := 47) (nI 1) dX7_copy_46 rfl (by decide) ?_
          refine zi_V1s (mj := zm_X7_finding) (n := 50) dX7_copy_47 rfl zl_X7_65 zy_X7_finding (zrc_X7 _ _) (by decide) (Nat.le_of_ble_eq_true rfl) (c_X7_finding) ?_
          exact zi_iret dX7_copy_50 rfl (by rfl) (by rfl)
    · first | exact absurd a2 h16 | exact absurd h16 a2
set_option maxHeartbeats 4000000 in
set_option maxRecDepth 100000 in
theorem m_copy_store (h0 : Z 165 0 = nI 0) {a c : Nat} {i j k : Int32} (ha : a < 8) (hc : c < 8) (hz : ¬ Z 166 a < 0) (hy : 0 ≤ Z 166 c) (hs : ¬ Z 166 a = Z 166 c) : zCT E 2 zm_X7_copy [.ref (zad E 165), .int (nI a), .int i, .int (nI c), .int j, .int k] (Q, Z) (some (.int (-1000010 - nI 5))) (Q, zsu (zsu Z 165 1 (nI 0)) 165 1 (nI 5)) := by
  refine zCT.of (by decide +kernel) (Nat.le_of_ble_eq_true rfl) ?_
  have a1 : nI 0 ≤ nI a ∧ nI a ≤ nI 7 := zrg (by omega) (by omega) (by decide)
  have a2 : nI 0 ≤ nI c ∧ nI c ≤ nI 7 := zrg (by omega) (by omega) (by decide)
  have hz2 := Int32.not_lt.mp hz
  refine zi_aload0 (n := 1) dX7_copy_0 rfl ?_
  refine zi_iconst (n := 2) (nI 0) dX7_copy_1 rfl (by decide) ?_
  refine zp_X7_0 (n := 5) dX7_copy_2 rfl zl_X7_44 (zt0 h0) ?_
  refine zi_iload1 (n := 6) dX7_copy_5 rfl ?_
  refine zi_S1s (mj := zm_X7_isRow) (n := 9) dX7_copy_6 rfl zl_X7_58 zy_X7_isRow (by decide) (Nat.le_of_ble_eq_true rfl) (c_X7_isRow) ?_
  refine zi_ifeq_b (n := 12) (tgt := 19) dX7_copy_9 rfl (by decide) (fun h9 => ?_) (fun h9 => ?_)
  · first | exact absurd a1 h9 | exact absurd h9 a1
  · refine zi_iload3 (n := 13) dX7_copy_12 rfl ?_
    refine zi_S1s (mj := zm_X7_isRow) (n := 16) dX7_copy_13 rfl zl_X7_58 zy_X7_isRow (by decide) (Nat.le_of_ble_eq_true rfl) (c_X7_isRow) ?_
    refine zi_ifne_b (n := 19) (tgt := 22) dX7_copy_16 rfl (by decide) (fun h16 => ?_) (fun h16 => ?_)
    · refine zi_aload0 (n := 23) dX7_copy_22 rfl ?_
      refine zi_iconst (n := 24) (nI 0) dX7_copy_23 rfl (by decide) ?_
      refine zp_X7_1 (n := 27) dX7_copy_24 rfl zl_X7_48 rfl ?_
      refine zi_aload0 (n := 28) dX7_copy_27 rfl ?_
      refine zg_X7_2 (n := 31) dX7_copy_28 rfl zl_X7_7 ?_
      refine zi_iload1 (n := 32) dX7_copy_31 rfl ?_
      refine zi_oald (N := 8) (n := 33) dX7_copy_32 rfl (by decide) (fun _ => rfl) (by decide) rfl (by omega) rfl ?_
      refine zi_iflt (n := 36) (tgt := 45) dX7_copy_33 rfl (by decide) (fun h33 => ?_) (fun h33 => ?_)
      · first | exact absurd hz h33 | exact absurd h33 hz
      · refine zi_aload0 (n := 37) dX7_copy_36 rfl ?_
        refine zg_X7_2 (n := 40) dX7_copy_37 rfl zl_X7_7 ?_
        refine zi_iload3 (n := 41) dX7_copy_40 rfl ?_
        refine zi_oald (N := 8) (n := 42) dX7_copy_41 rfl (by decide) (fun _ => rfl) (by decide) rfl (by omega) rfl ?_
        refine zi_ifge (n := 45) (tgt := 51) dX7_copy_42 rfl (by decide) (fun h42 => ?_) (fun h42 => ?_)
        · refine zi_aload0 (n := 52) dX7_copy_51 rfl ?_
          refine zg_X7_2 (n := 55) dX7_copy_52 rfl zl_X7_7 ?_
          refine zi_iload1 (n := 56) dX7_copy_55 rfl ?_
          refine zi_oald (N := 8) (n := 57) dX7_copy_56 rfl (by decide) (fun _ => rfl) (by decide) rfl (by omega) rfl ?_
          refine zi_aload0 (n := 58) dX7_copy_57 rfl ?_
          refine zg_X7_2 (n := 61) dX7_copy_58 rfl zl_X7_7 ?_
          refine zi_iload3 (n := 62) dX7_copy_61 rfl ?_
          refine zi_oald (N := 8) (n := 63) dX7_copy_62 rfl (by decide) (fun _ => rfl) (by decide) rfl (by omega) rfl ?_
          refine zi_iceq (n := 66) (tgt := 72) dX7_copy_63 rfl (by decide) (fun h63 => ?_) (fun h63 => ?_)
          · first | exact absurd hs h63 | exact absurd h63 hs
          · refine zi_aload0 (n := 67) dX7_copy_66 rfl ?_
            refine zi_iconst (n := 68) (nI 5) dX7_copy_67 rfl (by decide) ?_
            refine zi_V1s (mj := zm_X7_finding) (n := 71) dX7_copy_68 rfl zl_X7_65 zy_X7_finding (zrc_X7 _ _) (by decide) (Nat.le_of_ble_eq_true rfl) (c_X7_finding) ?_
            exact zi_iret dX7_copy_71 rfl (by rfl) (by rfl)
        · first | exact absurd hy h42 | exact absurd h42 hy
    · first | exact absurd a2 h16 | exact absurd h16 a2
set_option maxHeartbeats 4000000 in
set_option maxRecDepth 100000 in
theorem m_copy_place (h0 : Z 165 0 = nI 0) {a c : Nat} {i j k : Int32} (ha : a < 8) (hc : c < 8) (hz : ¬ Z 166 a < 0) (hy : 0 ≤ Z 166 c) (hs : Z 166 a = Z 166 c) (hi : ¬ (¬ i < 0 ∧ ¬ j < 0 ∧ ¬ k < 0 ∧ ¬ (Z 167 a).toInt64 < i.toInt64 + k.toInt64 ∧ ¬ (Z 167 c).toInt64 < j.toInt64 + k.toInt64)) : zCT E 2 zm_X7_copy [.ref (zad E 165), .int (nI a), .int i, .int (nI c), .int j, .int k] (Q, Z) (some (.int (-1000010 - nI 2))) (Q, zsu (zsu Z 165 1 (nI 0)) 165 1 (nI 2)) := by
  refine zCT.of (by decide +kernel) (Nat.le_of_ble_eq_true rfl) ?_
  have a1 : nI 0 ≤ nI a ∧ nI a ≤ nI 7 := zrg (by omega) (by omega) (by decide)
  have a2 : nI 0 ≤ nI c ∧ nI c ≤ nI 7 := zrg (by omega) (by omega) (by decide)
  refine zi_aload0 (n := 1) dX7_copy_0 rfl ?_
  refine zi_iconst (n := 2) (nI 0) dX7_copy_1 rfl (by decide) ?_
  refine zp_X7_0 (n := 5) dX7_copy_2 rfl zl_X7_44 (zt0 h0) ?_
  refine zi_iload1 (n := 6) dX7_copy_5 rfl ?_
  refine zi_S1s (mj := zm_X7_isRow) (n := 9) dX7_copy_6 rfl zl_X7_58 zy_X7_isRow (by decide) (Nat.le_of_ble_eq_true rfl) (c_X7_isRow) ?_
  refine zi_ifeq_b (n := 12) (tgt := 19) dX7_copy_9 rfl (by decide) (fun h9 => ?_) (fun h9 => ?_)
  · first | exact absurd a1 h9 | exact absurd h9 a1
  · refine zi_iload3 (n := 13) dX7_copy_12 rfl ?_
    refine zi_S1s (mj := zm_X7_isRow) (n := 16) dX7_copy_13 rfl zl_X7_58 zy_X7_isRow (by decide) (Nat.le_of_ble_eq_true rfl) (c_X7_isRow) ?_
    refine zi_ifne_b (n := 19) (tgt := 22) dX7_copy_16 rfl (by decide) (fun h16 => ?_) (fun h16 => ?_)
    · refine zi_aload0 (n := 23) dX7_copy_22 rfl ?_
      refine zi_iconst (n := 24) (nI 0) dX7_copy_23 rfl (by decide) ?_
      refine zp_X7_1 (n := 27) dX7_copy_24 rfl zl_X7_48 rfl ?_
      refine zi_aload0 (n := 28) dX7_copy_27 rfl ?_
      refine zg_X7_2 (n := 31) dX7_copy_28 rfl zl_X7_7 ?_
      refine zi_iload1 (n := 32) dX7_copy_31 rfl ?_
      refine zi_oald (N := 8) (n := 33) dX7_copy_32 rfl (by decide) (fun _ => rfl) (by decide) rfl (by omega) rfl ?_
      refine zi_iflt (n := 36) (tgt := 45) dX7_copy_33 rfl (by decide) (fun h33 => ?_) (fun h33 => ?_)
      · first | exact absurd hz h33 | exact absurd h33 hz
      · refine zi_aload0 (n := 37) dX7_copy_36 rfl ?_
        refine zg_X7_2 (n := 40) dX7_copy_37 rfl zl_X7_7 ?_
        refine zi_iload3 (n := 41) dX7_copy_40 rfl ?_
        refine zi_oald (N := 8) (n := 42) dX7_copy_41 rfl (by decide) (fun _ => rfl) (by decide) rfl (by omega) rfl ?_
        refine zi_ifge (n := 45) (tgt := 51) dX7_copy_42 rfl (by decide) (fun h42 => ?_) (fun h42 => ?_)
        · refine zi_aload0 (n := 52) dX7_copy_51 rfl ?_
          refine zg_X7_2 (n := 55) dX7_copy_52 rfl zl_X7_7 ?_
          refine zi_iload1 (n := 56) dX7_copy_55 rfl ?_
          refine zi_oald (N := 8) (n := 57) dX7_copy_56 rfl (by decide) (fun _ => rfl) (by decide) rfl (by omega) rfl ?_
          refine zi_aload0 (n := 58) dX7_copy_57 rfl ?_
          refine zg_X7_2 (n := 61) dX7_copy_58 rfl zl_X7_7 ?_
          refine zi_iload3 (n := 62) dX7_copy_61 rfl ?_
          refine zi_oald (N := 8) (n := 63) dX7_copy_62 rfl (by decide) (fun _ => rfl) (by decide) rfl (by omega) rfl ?_
          refine zi_iceq (n := 66) (tgt := 72) dX7_copy_63 rfl (by decide) (fun h63 => ?_) (fun h63 => ?_)
          · refine zi_iload2 (n := 73) dX7_copy_72 rfl ?_
            refine zi_iflt (n := 76) (tgt := 121) dX7_copy_73 rfl (by decide) (fun h73 => ?_) (fun h73 => ?_)
            · refine zi_aload0 (n := 122) dX7_copy_121 rfl ?_
              refine zi_iconst (n := 123) (nI 2) dX7_copy_122 rfl (by decide) ?_
              refine zi_V1s (mj := zm_X7_finding) (n := 126) dX7_copy_123 rfl zl_X7_65 zy_X7_finding (zrc_X7 _ _) (by decide) (Nat.le_of_ble_eq_true rfl) (c_X7_finding) ?_
              exact zi_iret dX7_copy_126 rfl (by rfl) (by rfl)
            · refine zi_iload4 (n := 78) dX7_copy_76 rfl ?_
              refine zi_iflt (n := 81) (tgt := 121) dX7_copy_78 rfl (by decide) (fun h78 => ?_) (fun h78 => ?_)
              · refine zi_aload0 (n := 122) dX7_copy_121 rfl ?_
                refine zi_iconst (n := 123) (nI 2) dX7_copy_122 rfl (by decide) ?_
                refine zi_V1s (mj := zm_X7_finding) (n := 126) dX7_copy_123 rfl zl_X7_65 zy_X7_finding (zrc_X7 _ _) (by decide) (Nat.le_of_ble_eq_true rfl) (c_X7_finding) ?_
                exact zi_iret dX7_copy_126 rfl (by rfl) (by rfl)
              · refine zi_iload5 (n := 83) dX7_copy_81 rfl ?_
                refine zi_iflt (n := 86) (tgt := 121) dX7_copy_83 rfl (by decide) (fun h83 => ?_) (fun h83 => ?_)
                · refine zi_aload0 (n := 122) dX7_copy_121 rfl ?_
                  refine zi_iconst (n := 123) (nI 2) dX7_copy_122 rfl (by decide) ?_
                  refine zi_V1s (mj := zm_X7_finding) (n := 126) dX7_copy_123 rfl zl_X7_65 zy_X7_finding (zrc_X7 _ _) (by decide) (Nat.le_of_ble_eq_true rfl) (c_X7_finding) ?_
                  exact zi_iret dX7_copy_126 rfl (by rfl) (by rfl)
                · refine zi_iload2 (n := 87) dX7_copy_86 rfl ?_
                  refine zi_i2l (n := 88) dX7_copy_87 rfl ?_
                  refine zi_iload5 (n := 90) dX7_copy_88 rfl ?_
                  refine zi_i2l (n := 91) dX7_copy_90 rfl ?_
                  refine zi_ladd (n := 92) dX7_copy_91 rfl ?_
                  refine zi_aload0 (n := 93) dX7_copy_92 rfl ?_
                  refine zg_X7_3 (n := 96) dX7_copy_93 rfl zl_X7_13 ?_
                  refine zi_iload1 (n := 97) dX7_copy_96 rfl ?_
                  refine zi_oald (N := 8) (n := 98) dX7_copy_97 rfl (by decide) (fun _ => rfl) (by decide) rfl (by omega) rfl ?_
                  refine zi_i2l (n := 99) dX7_copy_98 rfl ?_
                  refine zi_lcmp (n := 100) dX7_copy_99 rfl ?_
                  refine zi_ifgt_l (n := 103) (tgt := 121) dX7_copy_100 rfl (by decide) (fun h100 => ?_) (fun h100 => ?_)
                  · refine zi_aload0 (n := 122) dX7_copy_121 rfl ?_
                    refine zi_iconst (n := 123) (nI 2) dX7_copy_122 rfl (by decide) ?_
                    refine zi_V1s (mj := zm_X7_finding) (n := 126) dX7_copy_123 rfl zl_X7_65 zy_X7_finding (zrc_X7 _ _) (by decide) (Nat.le_of_ble_eq_true rfl) (c_X7_finding) ?_
                    exact zi_iret dX7_copy_126 rfl (by rfl) (by rfl)
                  · refine zi_iload4 (n := 105) dX7_copy_103 rfl ?_
                    refine zi_i2l (n := 106) dX7_copy_105 rfl ?_
                    refine zi_iload5 (n := 108) dX7_copy_106 rfl ?_
                    refine zi_i2l (n := 109) dX7_copy_108 rfl ?_
                    refine zi_ladd (n := 110) dX7_copy_109 rfl ?_
                    refine zi_aload0 (n := 111) dX7_copy_110 rfl ?_
                    refine zg_X7_3 (n := 114) dX7_copy_111 rfl zl_X7_13 ?_
                    refine zi_iload3 (n := 115) dX7_copy_114 rfl ?_
                    refine zi_oald (N := 8) (n := 116) dX7_copy_115 rfl (by decide) (fun _ => rfl) (by decide) rfl (by omega) rfl ?_
                    refine zi_i2l (n := 117) dX7_copy_116 rfl ?_
                    refine zi_lcmp (n := 118) dX7_copy_117 rfl ?_
                    refine zi_ifle_l (n := 121) (tgt := 127) dX7_copy_118 rfl (by decide) (fun h118 => ?_) (fun h118 => ?_)
                    · exact absurd ⟨h73, h78, h83, h100, h118⟩ hi
                    · refine zi_aload0 (n := 122) dX7_copy_121 rfl ?_
                      refine zi_iconst (n := 123) (nI 2) dX7_copy_122 rfl (by decide) ?_
                      refine zi_V1s (mj := zm_X7_finding) (n := 126) dX7_copy_123 rfl zl_X7_65 zy_X7_finding (zrc_X7 _ _) (by decide) (Nat.le_of_ble_eq_true rfl) (c_X7_finding) ?_
                      exact zi_iret dX7_copy_126 rfl (by rfl) (by rfl)
          · first | exact absurd hs h63 | exact absurd h63 hs
        · first | exact absurd hy h42 | exact absurd h42 hy
    · first | exact absurd a2 h16 | exact absurd h16 a2
theorem zcpd {g : zF} {a c i j m k : Nat} (e : k < m) : upd (zpt g (fun q => g (40 * a + i + (m - k) + q)) (40 * c + j + (m - k)) k) (40 * c + j + (m - 1 - k)) (g (40 * a + i + (m - 1 - k))) = zpt g (fun q => g (40 * a + i + (m - (k + 1)) + q)) (40 * c + j + (m - (k + 1))) (k + 1) := by
  funext q
  unfold upd zpt
  by_cases h1 : q = 40 * c + j + (m - 1 - k)
  · rw [if_pos h1, if_pos (by omega)]
    congr 1
    omega
  · rw [if_neg h1]
    by_cases h2 : 40 * c + j + (m - k) ≤ q ∧ q < 40 * c + j + (m - k) + k
    · rw [if_pos h2, if_pos (by omega)]
      dsimp only
      congr 1
      omega
    · rw [if_neg h2, if_neg (by omega)]
set_option maxHeartbeats 4000000 in
set_option maxRecDepth 100000 in
theorem lu_X7_copy {g : zF} {a c i j m : Nat} (ha : a < 8) (hc : c < 8) (hi4 : i + m ≤ 40) (hj4 : j + m ≤ 40) (hd : (a = c → j ≤ i)) : ∀ f k (x8 : Option Value), m - k < f → k ≤ m → zG E zm_X7_copy 2 (some (.int (nI m))) (Q, va_up Z 168 (zpt g (fun q => g (40 * a + i + q)) (40 * c + j) m)) 143 [some (.ref (zad E 165)), some (.int (nI a)), some (.int (nI i)), some (.int (nI c)), some (.int (nI j)), some (.int (nI m)), some (.int (nI 1)), some (.int (nI k)), x8] [] (Q, va_up Z 168 (zpt g (fun q => g (40 * a + i + q)) (40 * c + j) k)) := by
  intro f
  induction f with
  | zero => intro k x8 h; omega
  | succ f ih =>
    intro k x8 h1 h2
    refine zi_iload7 (n := 145) dX7_copy_143 rfl ?_
    refine zi_iload5 (n := 147) dX7_copy_145 rfl ?_
    refine zi_icge (n := 150) (tgt := 204) dX7_copy_147 rfl (by decide) (fun h147 => ?_) (fun h147 => ?_)
    · have e : k = m := by have := (nI_leI (by omega) (by omega)).mp h147; omega
      subst e
      refine zi_iload5 (n := 206) dX7_copy_204 rfl ?_
      exact zi_iret dX7_copy_206 rfl (by rfl) (by rfl)
    · have e : k < m := by have := mt (nI_leI (by omega) (by omega)).mpr h147; omega
      refine zi_iload6 (n := 152) dX7_copy_150 rfl ?_
      refine zi_ifeq (n := 155) (tgt := 160) dX7_copy_152 rfl (by decide) (fun h152 => ?_) (fun h152 => ?_)
      · exact absurd h152 (by decide)
      · refine zi_iload7 (n := 157) dX7_copy_155 rfl ?_
        refine zi_goto (tgt := 167) dX7_copy_157 (by decide) ?_
        refine zi_istore8 (n := 169) dX7_copy_167 rfl (by decide) rfl ?_
        refine zi_aload0 (n := 170) dX7_copy_169 rfl ?_
        refine zg_X7_4 (n := 173) dX7_copy_170 rfl zl_X7_16 ?_
        refine zi_bipush (n := 175) (nI 40) dX7_copy_173 rfl (by decide) ?_
        refine zi_iload3 (n := 176) dX7_copy_175 rfl ?_
        refine zi_imul (n := 177) dX7_copy_176 rfl ?_
        refine zi_iload4 (n := 179) dX7_copy_177 rfl ?_
        refine zi_iadd (n := 180) dX7_copy_179 rfl ?_
        refine zi_iload8 (n := 182) dX7_copy_180 rfl ?_
        refine zi_iadd (n := 183) dX7_copy_182 rfl ?_
        refine zi_aload0 (n := 184) dX7_copy_183 rfl ?_
        refine zg_X7_4 (n := 187) dX7_copy_184 rfl zl_X7_16 ?_
        refine zi_bipush (n := 189) (nI 40) dX7_copy_187 rfl (by decide) ?_
        refine zi_iload1 (n := 190) dX7_copy_189 rfl ?_
        refine zi_imul (n := 191) dX7_copy_190 rfl ?_
        refine zi_iload2 (n := 192) dX7_copy_191 rfl ?_
        refine zi_iadd (n := 193) dX7_copy_192 rfl ?_
        refine zi_iload8 (n := 195) dX7_copy_193 rfl ?_
        refine zi_iadd (n := 196) dX7_copy_195 rfl ?_
        refine zi_oald (N := 320) (i := 40 * a + i + k) (n := 197) dX7_copy_196 rfl (by decide) (fun _ => rfl) (by decide) (by rw [pk_mul, nI_add, nI_add]) (by omega) ((zfz _ _ _ _ _).trans (if_neg (by omega))) ?_
        refine zi_oast (N := 320) (i := 40 * c + j + k) (n := 198) dX7_copy_197 rfl (by decide) (fun _ => rfl) (by decide) (by rw [pk_mul, nI_add, nI_add]) (by omega) (zfqe (zpt_step g (fun q => g (40 * a + i + q)) (40 * c + j) k)) ?_
        refine zi_iinc7 (n := 201) (nI (k + 1)) dX7_copy_198 rfl (by decide) rfl (zi1 _) ?_
        refine zi_goto (tgt := 143) dX7_copy_201 (by decide) ?_
        exact ih (k + 1) _ (by omega) (by omega)
set_option maxHeartbeats 4000000 in
set_option maxRecDepth 100000 in
theorem ld_X7_copy {g : zF} {a c i j m : Nat} (ha : a < 8) (hc : c < 8) (hi4 : i + m ≤ 40) (hj4 : j + m ≤ 40) (hd : (i < j)) : ∀ f k (x8 : Option Value), m - k < f → k ≤ m → zG E zm_X7_copy 2 (some (.int (nI m))) (Q, va_up Z 168 (zpt g (fun q => g (40 * a + i + q)) (40 * c + j) m)) 143 [some (.ref (zad E 165)), some (.int (nI a)), some (.int (nI i)), some (.int (nI c)), some (.int (nI j)), some (.int (nI m)), some (.int (nI 0)), some (.int (nI k)), x8] [] (Q, va_up Z 168 (zpt g (fun q => g (40 * a + i + (m - k) + q)) (40 * c + j + (m - k)) k)) := by
  intro f
  induction f with
  | zero => intro k x8 h; omega
  | succ f ih =>
    intro k x8 h1 h2
    refine zi_iload7 (n := 145) dX7_copy_143 rfl ?_
    refine zi_iload5 (n := 147) dX7_copy_145 rfl ?_
    refine zi_icge (n := 150) (tgt := 204) dX7_copy_147 rfl (by decide) (fun h147 => ?_) (fun h147 => ?_)
    · have e : k = m := by have := (nI_leI (by omega) (by omega)).mp h147; omega
      subst e
      refine zG_eqM (M2 := (Q, va_up Z 168 (zpt g (fun q => g (40 * a + i + q)) (40 * c + j) k))) (by rw [Nat.sub_self]; rfl) ?_
      refine zi_iload5 (n := 206) dX7_copy_204 rfl ?_
      exact zi_iret dX7_copy_206 rfl (by rfl) (by rfl)
    · have e : k < m := by have := mt (nI_leI (by omega) (by omega)).mpr h147; omega
      refine zi_iload6 (n := 152) dX7_copy_150 rfl ?_
      refine zi_ifeq (n := 155) (tgt := 160) dX7_copy_152 rfl (by decide) (fun h152 => ?_) (fun h152 => ?_)
      · refine zi_iload5 (n := 162) dX7_copy_160 rfl ?_
        refine zi_iconst (n := 163) (nI 1) dX7_copy_162 rfl (by decide) ?_
        refine zi_isub (n := 164) dX7_copy_163 rfl ?_
        rw [pk_sub (by omega)]
        refine zi_iload7 (n := 166) dX7_copy_164 rfl ?_
        refine zi_isub (n := 167) dX7_copy_166 rfl ?_
        rw [pk_sub (by omega)]
        refine zi_istore8 (n := 169) dX7_copy_167 rfl (by decide) rfl ?_
        refine zi_aload0 (n := 170) dX7_copy_169 rfl ?_
        refine zg_X7_4 (n := 173) dX7_copy_170 rfl zl_X7_16 ?_
        refine zi_bipush (n := 175) (nI 40) dX7_copy_173 rfl (by decide) ?_
        refine zi_iload3 (n := 176) dX7_copy_175 rfl ?_
        refine zi_imul (n := 177) dX7_copy_176 rfl ?_
        refine zi_iload4 (n := 179) dX7_copy_177 rfl ?_
        refine zi_iadd (n := 180) dX7_copy_179 rfl ?_
        refine zi_iload8 (n := 182) dX7_copy_180 rfl ?_
        refine zi_iadd (n := 183) dX7_copy_182 rfl ?_
        refine zi_aload0 (n := 184) dX7_copy_183 rfl ?_
        refine zg_X7_4 (n := 187) dX7_copy_184 rfl zl_X7_16 ?_
        refine zi_bipush (n := 189) (nI 40) dX7_copy_187 rfl (by decide) ?_
        refine zi_iload1 (n := 190) dX7_copy_189 rfl ?_
        refine zi_imul (n := 191) dX7_copy_190 rfl ?_
        refine zi_iload2 (n := 192) dX7_copy_191 rfl ?_
        refine zi_iadd (n := 193) dX7_copy_192 rfl ?_
        refine zi_iload8 (n := 195) dX7_copy_193 rfl ?_
        refine zi_iadd (n := 196) dX7_copy_195 rfl ?_
        refine zi_oald (N := 320) (i := 40 * a + i + (m - 1 - k)) (n := 197) dX7_copy_196 rfl (by decide) (fun _ => rfl) (by decide) (by rw [pk_mul, nI_add, nI_add]) (by omega) ((zfz _ _ _ _ _).trans (if_neg (by omega))) ?_
        refine zi_oast (N := 320) (i := 40 * c + j + (m - 1 - k)) (n := 198) dX7_copy_197 rfl (by decide) (fun _ => rfl) (by decide) (by rw [pk_mul, nI_add, nI_add]) (by omega) (zfqe (zcpd e)) ?_
        refine zi_iinc7 (n := 201) (nI (k + 1)) dX7_copy_198 rfl (by decide) rfl (zi1 _) ?_
        refine zi_goto (tgt := 143) dX7_copy_201 (by decide) ?_
        exact ih (k + 1) _ (by omega) (by omega)
      · exact absurd rfl h152
set_option maxHeartbeats 4000000 in
set_option maxRecDepth 100000 in
theorem m_copy_u (h0 : Z 165 0 = nI 0) {a c i j m : Nat} (ha : a < 8) (hc : c < 8) (hi4 : i + m ≤ 40) (hj4 : j + m ≤ 40) (hz : ¬ Z 166 a < 0) (hy : 0 ≤ Z 166 c) (hs : Z 166 a = Z 166 c) (hi : (¬ nI i < 0 ∧ ¬ nI j < 0 ∧ ¬ nI m < 0 ∧ ¬ (Z 167 a).toInt64 < (nI i).toInt64 + (nI m).toInt64 ∧ ¬ (Z 167 c).toInt64 < (nI j).toInt64 + (nI m).toInt64)) (hij : j ≤ i) : zCT E 2 zm_X7_copy [.ref (zad E 165), .int (nI a), .int (nI i), .int (nI c), .int (nI j), .int (nI m)] (Q, Z) (some (.int (nI m))) (Q, va_up (zsu Z 165 1 (nI 0)) 168 (zpt (Z 168) (fun q => Z 168 (40 * a + i + q)) (40 * c + j) m)) := by
  refine zCT.of (by decide +kernel) (Nat.le_of_ble_eq_true rfl) ?_
  have a1 : nI 0 ≤ nI a ∧ nI a ≤ nI 7 := zrg (by omega) (by omega) (by decide)
  have a2 : nI 0 ≤ nI c ∧ nI c ≤ nI 7 := zrg (by omega) (by omega) (by decide)
  obtain ⟨b1, b2, b3, b4, b5⟩ := hi
  have b6 : ¬ nI i < nI j := Int32.not_lt.mpr (nI_le hij (by omega))
  refine zi_aload0 (n := 1) dX7_copy_0 rfl ?_
  refine zi_iconst (n := 2) (nI 0) dX7_copy_1 rfl (by decide) ?_
  refine zp_X7_0 (n := 5) dX7_copy_2 rfl zl_X7_44 (zt0 h0) ?_
  refine zi_iload1 (n := 6) dX7_copy_5 rfl ?_
  refine zi_S1s (mj := zm_X7_isRow) (n := 9) dX7_copy_6 rfl zl_X7_58 zy_X7_isRow (by decide) (Nat.le_of_ble_eq_true rfl) (c_X7_isRow) ?_
  refine zi_ifeq_b (n := 12) (tgt := 19) dX7_copy_9 rfl (by decide) (fun h9 => ?_) (fun h9 => ?_)
  · first | exact absurd a1 h9 | exact absurd h9 a1
  · refine zi_iload3 (n := 13) dX7_copy_12 rfl ?_
    refine zi_S1s (mj := zm_X7_isRow) (n := 16) dX7_copy_13 rfl zl_X7_58 zy_X7_isRow (by decide) (Nat.le_of_ble_eq_true rfl) (c_X7_isRow) ?_
    refine zi_ifne_b (n := 19) (tgt := 22) dX7_copy_16 rfl (by decide) (fun h16 => ?_) (fun h16 => ?_)
    · refine zi_aload0 (n := 23) dX7_copy_22 rfl ?_
      refine zi_iconst (n := 24) (nI 0) dX7_copy_23 rfl (by decide) ?_
      refine zp_X7_1 (n := 27) dX7_copy_24 rfl zl_X7_48 rfl ?_
      refine zi_aload0 (n := 28) dX7_copy_27 rfl ?_
      refine zg_X7_2 (n := 31) dX7_copy_28 rfl zl_X7_7 ?_
      refine zi_iload1 (n := 32) dX7_copy_31 rfl ?_
      refine zi_oald (N := 8) (n := 33) dX7_copy_32 rfl (by decide) (fun _ => rfl) (by decide) rfl (by omega) rfl ?_
      refine zi_iflt (n := 36) (tgt := 45) dX7_copy_33 rfl (by decide) (fun h33 => ?_) (fun h33 => ?_)
      · first | exact absurd hz h33 | exact absurd h33 hz
      · refine zi_aload0 (n := 37) dX7_copy_36 rfl ?_
        refine zg_X7_2 (n := 40) dX7_copy_37 rfl zl_X7_7 ?_
        refine zi_iload3 (n := 41) dX7_copy_40 rfl ?_
        refine zi_oald (N := 8) (n := 42) dX7_copy_41 rfl (by decide) (fun _ => rfl) (by decide) rfl (by omega) rfl ?_
        refine zi_ifge (n := 45) (tgt := 51) dX7_copy_42 rfl (by decide) (fun h42 => ?_) (fun h42 => ?_)
        · refine zi_aload0 (n := 52) dX7_copy_51 rfl ?_
          refine zg_X7_2 (n := 55) dX7_copy_52 rfl zl_X7_7 ?_
          refine zi_iload1 (n := 56) dX7_copy_55 rfl ?_
          refine zi_oald (N := 8) (n := 57) dX7_copy_56 rfl (by decide) (fun _ => rfl) (by decide) rfl (by omega) rfl ?_
          refine zi_aload0 (n := 58) dX7_copy_57 rfl ?_
          refine zg_X7_2 (n := 61) dX7_copy_58 rfl zl_X7_7 ?_
          refine zi_iload3 (n := 62) dX7_copy_61 rfl ?_
          refine zi_oald (N := 8) (n := 63) dX7_copy_62 rfl (by decide) (fun _ => rfl) (by decide) rfl (by omega) rfl ?_
          refine zi_iceq (n := 66) (tgt := 72) dX7_copy_63 rfl (by decide) (fun h63 => ?_) (fun h63 => ?_)
          · refine zi_iload2 (n := 73) dX7_copy_72 rfl ?_
            refine zi_iflt (n := 76) (tgt := 121) dX7_copy_73 rfl (by decide) (fun h73 => ?_) (fun h73 => ?_)
            · first | exact absurd b1 h73 | exact absurd h73 b1
            · refine zi_iload4 (n := 78) dX7_copy_76 rfl ?_
              refine zi_iflt (n := 81) (tgt := 121) dX7_copy_78 rfl (by decide) (fun h78 => ?_) (fun h78 => ?_)
              · first | exact absurd b2 h78 | exact absurd h78 b2
              · refine zi_iload5 (n := 83) dX7_copy_81 rfl ?_
                refine zi_iflt (n := 86) (tgt := 121) dX7_copy_83 rfl (by decide) (fun h83 => ?_) (fun h83 => ?_)
                · first | exact absurd b3 h83 | exact absurd h83 b3
                · refine zi_iload2 (n := 87) dX7_copy_86 rfl ?_
                  refine zi_i2l (n := 88) dX7_copy_87 rfl ?_
                  refine zi_iload5 (n := 90) dX7_copy_88 rfl ?_
                  refine zi_i2l (n := 91) dX7_copy_90 rfl ?_
                  refine zi_ladd (n := 92) dX7_copy_91 rfl ?_
                  refine zi_aload0 (n := 93) dX7_copy_92 rfl ?_
                  refine zg_X7_3 (n := 96) dX7_copy_93 rfl zl_X7_13 ?_
                  refine zi_iload1 (n := 97) dX7_copy_96 rfl ?_
                  refine zi_oald (N := 8) (n := 98) dX7_copy_97 rfl (by decide) (fun _ => rfl) (by decide) rfl (by omega) rfl ?_
                  refine zi_i2l (n := 99) dX7_copy_98 rfl ?_
                  refine zi_lcmp (n := 100) dX7_copy_99 rfl ?_
                  refine zi_ifgt_l (n := 103) (tgt := 121) dX7_copy_100 rfl (by decide) (fun h100 => ?_) (fun h100 => ?_)
                  · first | exact absurd b4 h100 | exact absurd h100 b4
                  · refine zi_iload4 (n := 105) dX7_copy_103 rfl ?_
                    refine zi_i2l (n := 106) dX7_copy_105 rfl ?_
                    refine zi_iload5 (n := 108) dX7_copy_106 rfl ?_
                    refine zi_i2l (n := 109) dX7_copy_108 rfl ?_
                    refine zi_ladd (n := 110) dX7_copy_109 rfl ?_
                    refine zi_aload0 (n := 111) dX7_copy_110 rfl ?_
                    refine zg_X7_3 (n := 114) dX7_copy_111 rfl zl_X7_13 ?_
                    refine zi_iload3 (n := 115) dX7_copy_114 rfl ?_
                    refine zi_oald (N := 8) (n := 116) dX7_copy_115 rfl (by decide) (fun _ => rfl) (by decide) rfl (by omega) rfl ?_
                    refine zi_i2l (n := 117) dX7_copy_116 rfl ?_
                    refine zi_lcmp (n := 118) dX7_copy_117 rfl ?_
                    refine zi_ifle_l (n := 121) (tgt := 127) dX7_copy_118 rfl (by decide) (fun h118 => ?_) (fun h118 => ?_)
                    · refine zi_iload2 (n := 128) dX7_copy_127 rfl ?_
                      refine zi_iload4 (n := 130) dX7_copy_128 rfl ?_
                      refine zi_iclt (n := 133) (tgt := 137) dX7_copy_130 rfl (by decide) (fun h130 => ?_) (fun h130 => ?_)
                      · first | exact absurd b6 h130 | exact absurd h130 b6
                      · refine zi_iconst (n := 134) (nI 1) dX7_copy_133 rfl (by decide) ?_
                        refine zi_goto (tgt := 138) dX7_copy_134 (by decide) ?_
                        refine zi_istore6 (n := 140) dX7_copy_138 rfl (by decide) rfl ?_
                        refine zi_iconst (n := 141) (nI 0) dX7_copy_140 rfl (by decide) ?_
                        refine zi_istore7 (n := 143) dX7_copy_141 rfl (by decide) rfl ?_
                        have g := lu_X7_copy (E := E) (Q := Q) (Z := (zsu Z 165 1 (nI 0))) (g := Z 168) ha hc hi4 hj4 (fun _ => hij) (m + 1) 0 none (by omega) (by omega)
                        rw [zpt_0] at g
                        exact zG_eqM (congrArg (Prod.mk Q) (zup_at (f := (zsu Z 165 1 (nI 0))) (a := 168) (v := Z 168) rfl).symm) g
                    · first | exact absurd b5 h118 | exact absurd h118 b5
          · first | exact absurd hs h63 | exact absurd h63 hs
        · first | exact absurd hy h42 | exact absurd h42 hy
    · first | exact absurd a2 h16 | exact absurd h16 a2
set_option maxHeartbeats 4000000 in
set_option maxRecDepth 100000 in
theorem m_copy_d (h0 : Z 165 0 = nI 0) {a c i j m : Nat} (ha : a < 8) (hc : c < 8) (hi4 : i + m ≤ 40) (hj4 : j + m ≤ 40) (hz : ¬ Z 166 a < 0) (hy : 0 ≤ Z 166 c) (hs : Z 166 a = Z 166 c) (hi : (¬ nI i < 0 ∧ ¬ nI j < 0 ∧ ¬ nI m < 0 ∧ ¬ (Z 167 a).toInt64 < (nI i).toInt64 + (nI m).toInt64 ∧ ¬ (Z 167 c).toInt64 < (nI j).toInt64 + (nI m).toInt64)) (hij : i < j) : zCT E 2 zm_X7_copy [.ref (zad E 165), .int (nI a), .int (nI i), .int (nI c), .int (nI j), .int (nI m)] (Q, Z) (some (.int (nI m))) (Q, va_up (zsu Z 165 1 (nI 0)) 168 (zpt (Z 168) (fun q => Z 168 (40 * a + i + q)) (40 * c + j) m)) := by
  refine zCT.of (by decide +kernel) (Nat.le_of_ble_eq_true rfl) ?_
  have a1 : nI 0 ≤ nI a ∧ nI a ≤ nI 7 := zrg (by omega) (by omega) (by decide)
  have a2 : nI 0 ≤ nI c ∧ nI c ≤ nI 7 := zrg (by omega) (by omega) (by decide)
  obtain ⟨b1, b2, b3, b4, b5⟩ := hi
  have b6 : nI i < nI j := nI_lt hij (by omega)
  refine zi_aload0 (n := 1) dX7_copy_0 rfl ?_
  refine zi_iconst (n := 2) (nI 0) dX7_copy_1 rfl (by decide) ?_
  refine zp_X7_0 (n := 5) dX7_copy_2 rfl zl_X7_44 (zt0 h0) ?_
  refine zi_iload1 (n := 6) dX7_copy_5 rfl ?_
  refine zi_S1s (mj := zm_X7_isRow) (n := 9) dX7_copy_6 rfl zl_X7_58 zy_X7_isRow (by decide) (Nat.le_of_ble_eq_true rfl) (c_X7_isRow) ?_
  refine zi_ifeq_b (n := 12) (tgt := 19) dX7_copy_9 rfl (by decide) (fun h9 => ?_) (fun h9 => ?_)
  · first | exact absurd a1 h9 | exact absurd h9 a1
  · refine zi_iload3 (n := 13) dX7_copy_12 rfl ?_
    refine zi_S1s (mj := zm_X7_isRow) (n := 16) dX7_copy_13 rfl zl_X7_58 zy_X7_isRow (by decide) (Nat.le_of_ble_eq_true rfl) (c_X7_isRow) ?_
    refine zi_ifne_b (n := 19) (tgt := 22) dX7_copy_16 rfl (by decide) (fun h16 => ?_) (fun h16 => ?_)
    · refine zi_aload0 (n := 23) dX7_copy_22 rfl ?_
      refine zi_iconst (n := 24) (nI 0) dX7_copy_23 rfl (by decide) ?_
      refine zp_X7_1 (n := 27) dX7_copy_24 rfl zl_X7_48 rfl ?_
      refine zi_aload0 (n := 28) dX7_copy_27 rfl ?_
      refine zg_X7_2 (n := 31) dX7_copy_28 rfl zl_X7_7 ?_
      refine zi_iload1 (n := 32) dX7_copy_31 rfl ?_
      refine zi_oald (N := 8) (n := 33) dX7_copy_32 rfl (by decide) (fun _ => rfl) (by decide) rfl (by omega) rfl ?_
      refine zi_iflt (n := 36) (tgt := 45) dX7_copy_33 rfl (by decide) (fun h33 => ?_) (fun h33 => ?_)
      · first | exact absurd hz h33 | exact absurd h33 hz
      · refine zi_aload0 (n := 37) dX7_copy_36 rfl ?_
        refine zg_X7_2 (n := 40) dX7_copy_37 rfl zl_X7_7 ?_
        refine zi_iload3 (n := 41) dX7_copy_40 rfl ?_
        refine zi_oald (N := 8) (n := 42) dX7_copy_41 rfl (by decide) (fun _ => rfl) (by decide) rfl (by omega) rfl ?_
        refine zi_ifge (n := 45) (tgt := 51) dX7_copy_42 rfl (by decide) (fun h42 => ?_) (fun h42 => ?_)
        · refine zi_aload0 (n := 52) dX7_copy_51 rfl ?_
          refine zg_X7_2 (n := 55) dX7_copy_52 rfl zl_X7_7 ?_
          refine zi_iload1 (n := 56) dX7_copy_55 rfl ?_
          refine zi_oald (N := 8) (n := 57) dX7_copy_56 rfl (by decide) (fun _ => rfl) (by decide) rfl (by omega) rfl ?_
          refine zi_aload0 (n := 58) dX7_copy_57 rfl ?_
          refine zg_X7_2 (n := 61) dX7_copy_58 rfl zl_X7_7 ?_
          refine zi_iload3 (n := 62) dX7_copy_61 rfl ?_
          refine zi_oald (N := 8) (n := 63) dX7_copy_62 rfl (by decide) (fun _ => rfl) (by decide) rfl (by omega) rfl ?_
          refine zi_iceq (n := 66) (tgt := 72) dX7_copy_63 rfl (by decide) (fun h63 => ?_) (fun h63 => ?_)
          · refine zi_iload2 (n := 73) dX7_copy_72 rfl ?_
            refine zi_iflt (n := 76) (tgt := 121) dX7_copy_73 rfl (by decide) (fun h73 => ?_) (fun h73 => ?_)
            · first | exact absurd b1 h73 | exact absurd h73 b1
            · refine zi_iload4 (n := 78) dX7_copy_76 rfl ?_
              refine zi_iflt (n := 81) (tgt := 121) dX7_copy_78 rfl (by decide) (fun h78 => ?_) (fun h78 => ?_)
              · first | exact absurd b2 h78 | exact absurd h78 b2
              · refine zi_iload5 (n := 83) dX7_copy_81 rfl ?_
                refine zi_iflt (n := 86) (tgt := 121) dX7_copy_83 rfl (by decide) (fun h83 => ?_) (fun h83 => ?_)
                · first | exact absurd b3 h83 | exact absurd h83 b3
                · refine zi_iload2 (n := 87) dX7_copy_86 rfl ?_
                  refine zi_i2l (n := 88) dX7_copy_87 rfl ?_
                  refine zi_iload5 (n := 90) dX7_copy_88 rfl ?_
                  refine zi_i2l (n := 91) dX7_copy_90 rfl ?_
                  refine zi_ladd (n := 92) dX7_copy_91 rfl ?_
                  refine zi_aload0 (n := 93) dX7_copy_92 rfl ?_
                  refine zg_X7_3 (n := 96) dX7_copy_93 rfl zl_X7_13 ?_
                  refine zi_iload1 (n := 97) dX7_copy_96 rfl ?_
                  refine zi_oald (N := 8) (n := 98) dX7_copy_97 rfl (by decide) (fun _ => rfl) (by decide) rfl (by omega) rfl ?_
                  refine zi_i2l (n := 99) dX7_copy_98 rfl ?_
                  refine zi_lcmp (n := 100) dX7_copy_99 rfl ?_
                  refine zi_ifgt_l (n := 103) (tgt := 121) dX7_copy_100 rfl (by decide) (fun h100 => ?_) (fun h100 => ?_)
                  · first | exact absurd b4 h100 | exact absurd h100 b4
                  · refine zi_iload4 (n := 105) dX7_copy_103 rfl ?_
                    refine zi_i2l (n := 106) dX7_copy_105 rfl ?_
                    refine zi_iload5 (n := 108) dX7_copy_106 rfl ?_
                    refine zi_i2l (n := 109) dX7_copy_108 rfl ?_
                    refine zi_ladd (n := 110) dX7_copy_109 rfl ?_
                    refine zi_aload0 (n := 111) dX7_copy_110 rfl ?_
                    refine zg_X7_3 (n := 114) dX7_copy_111 rfl zl_X7_13 ?_
                    refine zi_iload3 (n := 115) dX7_copy_114 rfl ?_
                    refine zi_oald (N := 8) (n := 116) dX7_copy_115 rfl (by decide) (fun _ => rfl) (by decide) rfl (by omega) rfl ?_
                    refine zi_i2l (n := 117) dX7_copy_116 rfl ?_
                    refine zi_lcmp (n := 118) dX7_copy_117 rfl ?_
                    refine zi_ifle_l (n := 121) (tgt := 127) dX7_copy_118 rfl (by decide) (fun h118 => ?_) (fun h118 => ?_)
                    · refine zi_iload2 (n := 128) dX7_copy_127 rfl ?_
                      refine zi_iload4 (n := 130) dX7_copy_128 rfl ?_
                      refine zi_iclt (n := 133) (tgt := 137) dX7_copy_130 rfl (by decide) (fun h130 => ?_) (fun h130 => ?_)
                      · refine zi_iconst (n := 138) (nI 0) dX7_copy_137 rfl (by decide) ?_
                        refine zi_istore6 (n := 140) dX7_copy_138 rfl (by decide) rfl ?_
                        refine zi_iconst (n := 141) (nI 0) dX7_copy_140 rfl (by decide) ?_
                        refine zi_istore7 (n := 143) dX7_copy_141 rfl (by decide) rfl ?_
                        have g := ld_X7_copy (E := E) (Q := Q) (Z := (zsu Z 165 1 (nI 0))) (g := Z 168) ha hc hi4 hj4 hij (m + 1) 0 none (by omega) (by omega)
                        rw [zpt_0] at g
                        exact zG_eqM (congrArg (Prod.mk Q) (zup_at (f := (zsu Z 165 1 (nI 0))) (a := 168) (v := Z 168) rfl).symm) g
                      · first | exact absurd b6 h130 | exact absurd h130 b6
                    · first | exact absurd b5 h118 | exact absurd h118 b5
          · first | exact absurd hs h63 | exact absurd h63 hs
        · first | exact absurd hy h42 | exact absurd h42 hy
    · first | exact absurd a2 h16 | exact absurd h16 a2
theorem m_copy_ok (h0 : Z 165 0 = nI 0) {a c i j m : Nat} (ha : a < 8) (hc : c < 8) (hi4 : i + m ≤ 40) (hj4 : j + m ≤ 40) (hz : ¬ Z 166 a < 0) (hy : 0 ≤ Z 166 c) (hs : Z 166 a = Z 166 c) (hi : (¬ nI i < 0 ∧ ¬ nI j < 0 ∧ ¬ nI m < 0 ∧ ¬ (Z 167 a).toInt64 < (nI i).toInt64 + (nI m).toInt64 ∧ ¬ (Z 167 c).toInt64 < (nI j).toInt64 + (nI m).toInt64)) : zCT E 2 zm_X7_copy [.ref (zad E 165), .int (nI a), .int (nI i), .int (nI c), .int (nI j), .int (nI m)] (Q, Z) (some (.int (nI m))) (Q, va_up (zsu Z 165 1 (nI 0)) 168 (zpt (Z 168) (fun q => Z 168 (40 * a + i + q)) (40 * c + j) m)) := by
  by_cases h : j ≤ i
  · exact m_copy_u h0 ha hc hi4 hj4 hz hy hs hi h
  · exact m_copy_d h0 ha hc hi4 hj4 hz hy hs hi (by omega)
set_option maxHeartbeats 4000000 in
set_option maxRecDepth 100000 in
theorem m_noons_state (h0 : Z 165 0 = nI 0) {x : Int32} (hz : Z 169 0 ≤ 0) : zCT E 4 zm_X7_noons [.ref (zad E 165), .int x] (Q, Z) (some (.int zSTATE)) (Q, Z) := by
  refine zCT.of (by decide +kernel) (Nat.le_of_ble_eq_true rfl) ?_
  refine zi_aload0 (n := 1) dX7_noons_0 rfl ?_
  refine zi_iconst (n := 2) (nI 0) dX7_noons_1 rfl (by decide) ?_
  refine zp_X7_0 (n := 5) dX7_noons_2 rfl zl_X7_44 (zt0 h0) ?_
  refine zi_aload0 (n := 6) dX7_noons_5 rfl ?_
  refine zi_V0s (mj := zm_X7_isThere) (n := 9) dX7_noons_6 rfl zl_X7_171 zy_X7_isThere (zrc_X7 _ _) (by decide) (Nat.le_of_ble_eq_true rfl) (c_X7_isThere) ?_
  refine zi_ifne_b (n := 12) (tgt := 15) dX7_noons_9 rfl (by decide) (fun h9 => ?_) (fun h9 => ?_)
  · first | exact absurd (fun q => q hz : ¬ ¬ Z 169 0 ≤ 0) h9 | exact absurd h9 (fun q => q hz : ¬ ¬ Z 169 0 ≤ 0)
  · refine zi_ldc (n := 14) dX7_noons_12 rfl zl_X7_174 ?_
    exact zi_iret dX7_noons_14 rfl (by rfl) (by rfl)
set_option maxHeartbeats 4000000 in
set_option maxRecDepth 100000 in
theorem m_noons_bad (h0 : Z 165 0 = nI 0) {x : Int32} (hz : ¬ Z 169 0 ≤ 0) (hb : ¬ (nI 1 ≤ x ∧ x ≤ nI 24)) : zCT E 4 zm_X7_noons [.ref (zad E 165), .int x] (Q, Z) (some (.int zBAD)) (Q, Z) := by
  refine zCT.of (by decide +kernel) (Nat.le_of_ble_eq_true rfl) ?_
  refine zi_aload0 (n := 1) dX7_noons_0 rfl ?_
  refine zi_iconst (n := 2) (nI 0) dX7_noons_1 rfl (by decide) ?_
  refine zp_X7_0 (n := 5) dX7_noons_2 rfl zl_X7_44 (zt0 h0) ?_
  refine zi_aload0 (n := 6) dX7_noons_5 rfl ?_
  refine zi_V0s (mj := zm_X7_isThere) (n := 9) dX7_noons_6 rfl zl_X7_171 zy_X7_isThere (zrc_X7 _ _) (by decide) (Nat.le_of_ble_eq_true rfl) (c_X7_isThere) ?_
  refine zi_ifne_b (n := 12) (tgt := 15) dX7_noons_9 rfl (by decide) (fun h9 => ?_) (fun h9 => ?_)
  · refine zi_iload1 (n := 16) dX7_noons_15 rfl ?_
    refine zi_i2l (n := 17) dX7_noons_16 rfl ?_
    refine zi_lconst (n := 18) ((nI 1).toInt64) dX7_noons_17 rfl (by decide) ?_
    refine zi_ldc2 (n := 21) dX7_noons_18 rfl zl_X7_175 ?_
    rw [show (24 : Int64) = (nI 24).toInt64 by decide]
    refine zi_S3s (mj := zm_X7_in) (n := 24) dX7_noons_21 rfl zl_X7_54 zy_X7_in (by decide) (Nat.le_of_ble_eq_true rfl) (c_X7_in) ?_
    refine zi_ifne_b (n := 27) (tgt := 30) dX7_noons_24 rfl (by decide) (fun h24 => ?_) (fun h24 => ?_)
    · first | exact absurd hb h24 | exact absurd h24 hb
    · refine zi_ldc (n := 29) dX7_noons_27 rfl zl_X7_64 ?_
      exact zi_iret dX7_noons_29 rfl (by rfl) (by rfl)
  · first | exact absurd hz h9 | exact absurd h9 hz
set_option maxHeartbeats 4000000 in
set_option maxRecDepth 100000 in
theorem m_noons_full (h0 : Z 165 0 = nI 0) {x : Int32} (hz : ¬ Z 169 0 ≤ 0) (hx : (nI 1 ≤ x ∧ x ≤ nI 24)) (hf : ¬ Z 169 4 + x ≤ nI 999) : zCT E 4 zm_X7_noons [.ref (zad E 165), .int x] (Q, Z) (some (.int zFULL)) (Q, Z) := by
  refine zCT.of (by decide +kernel) (Nat.le_of_ble_eq_true rfl) ?_
  refine zi_aload0 (n := 1) dX7_noons_0 rfl ?_
  refine zi_iconst (n := 2) (nI 0) dX7_noons_1 rfl (by decide) ?_
  refine zp_X7_0 (n := 5) dX7_noons_2 rfl zl_X7_44 (zt0 h0) ?_
  refine zi_aload0 (n := 6) dX7_noons_5 rfl ?_
  refine zi_V0s (mj := zm_X7_isThere) (n := 9) dX7_noons_6 rfl zl_X7_171 zy_X7_isThere (zrc_X7 _ _) (by decide) (Nat.le_of_ble_eq_true rfl) (c_X7_isThere) ?_
  refine zi_ifne_b (n := 12) (tgt := 15) dX7_noons_9 rfl (by decide) (fun h9 => ?_) (fun h9 => ?_)
  · refine zi_iload1 (n := 16) dX7_noons_15 rfl ?_
    refine zi_i2l (n := 17) dX7_noons_16 rfl ?_
    refine zi_lconst (n := 18) ((nI 1).toInt64) dX7_noons_17 rfl (by decide) ?_
    refine zi_ldc2 (n := 21) dX7_noons_18 rfl zl_X7_175 ?_
    rw [show (24 : Int64) = (nI 24).toInt64 by decide]
    refine zi_S3s (mj := zm_X7_in) (n := 24) dX7_noons_21 rfl zl_X7_54 zy_X7_in (by decide) (Nat.le_of_ble_eq_true rfl) (c_X7_in) ?_
    refine zi_ifne_b (n := 27) (tgt := 30) dX7_noons_24 rfl (by decide) (fun h24 => ?_) (fun h24 => ?_)
    · refine zi_aload0 (n := 31) dX7_noons_30 rfl ?_
      refine zg_X7_5 (n := 34) dX7_noons_31 rfl zl_X7_19 ?_
      refine zi_iconst (n := 35) (nI 4) dX7_noons_34 rfl (by decide) ?_
      refine zi_oald (N := 36) (n := 36) dX7_noons_35 rfl (by decide) (fun _ => rfl) (by decide) rfl (by omega) rfl ?_
      refine zi_iload1 (n := 37) dX7_noons_36 rfl ?_
      refine zi_iadd (n := 38) dX7_noons_37 rfl ?_
      refine zi_sipush (n := 41) (nI 999) dX7_noons_38 rfl (by decide) ?_
      refine zi_icle (n := 44) (tgt := 47) dX7_noons_41 rfl (by decide) (fun h41 => ?_) (fun h41 => ?_)
      · first | exact absurd hf h41 | exact absurd h41 hf
      · refine zi_ldc (n := 46) dX7_noons_44 rfl zl_X7_74 ?_
        exact zi_iret dX7_noons_46 rfl (by rfl) (by rfl)
    · first | exact absurd hx h24 | exact absurd h24 hx
  · first | exact absurd hz h9 | exact absurd h9 hz
def zNk (n : Nat) : Nat → zS → Nat → Int32 → Int32 × zS
  | 0, Z, _, x => (x, Z)
  | f + 1, Z, a, x => zNk n f (va_up (zkM Z a) 169 (noonM (Z 169) n)) (zkN a) (x + (n1M (Z 169) n).1)
theorem zkN_le {a : Nat} (h : a ≤ 24) : zkN a ≤ 24 := by unfold zkN; split <;> omega
theorem c_noon9 {f : zF} (hf : Z 169 = f) (hk : zKd f n) : zCT E 3 zm_X7_noonOf [.ref (zad E 169)] (Q, Z) (some (.int (n1M f n).1)) (Q, va_up Z 169 (noonM f n)) := by
  subst hf; exact zrz (a := 169) (c_X7_noonOf (Or.inl rfl) hk)
set_option maxHeartbeats 4000000 in
set_option maxRecDepth 100000 in
theorem l_X7_noons {m : Nat} (hm : m < 2 ^ 30) {R : Int32 × zS} : ∀ f i (Z : zS) (a : Nat) (x : Int32), i + f = m → Z 165 9 = nI a → a ≤ 24 → zKd (Z 169) n → zNk n f Z a x = R → zG E zm_X7_noons 4 (some (.int R.1)) (Q, R.2) 51 [some (.ref (zad E 165)), some (.int (nI m)), some (.int x), some (.int (nI i))] [] (Q, Z) := by
  intro f
  induction f with
  | zero =>
    intro i Z a x hi ha h24 hk hr
    refine zi_iload3 (n := 52) dX7_noons_51 rfl ?_
    refine zi_iload1 (n := 53) dX7_noons_52 rfl ?_
    refine zi_icge (n := 56) (tgt := 76) dX7_noons_53 rfl (by decide) (fun h53 => ?_) (fun h53 => ?_)
    · refine zi_iload2 (n := 77) dX7_noons_76 rfl ?_
      exact zi_iret dX7_noons_77 rfl (by rw [← hr]; rfl) (by rw [← hr]; rfl)
    · exact absurd (nI_le (by omega) (by omega)) h53
  | succ f ih =>
    intro i Z a x hi ha h24 hk hr
    refine zi_iload3 (n := 52) dX7_noons_51 rfl ?_
    refine zi_iload1 (n := 53) dX7_noons_52 rfl ?_
    refine zi_icge (n := 56) (tgt := 76) dX7_noons_53 rfl (by decide) (fun h53 => ?_) (fun h53 => ?_)
    · exact absurd ((nI_leI (by omega) (by omega)).mp h53) (by omega)
    · refine zi_aload0 (n := 57) dX7_noons_56 rfl ?_
      refine zi_V0v (mj := zm_X7_keep) (n := 60) dX7_noons_57 rfl zl_X7_177 zy_X7_keep (zrc_X7 _ _) (by decide) (Nat.le_of_ble_eq_true rfl) (c_X7_keep ha h24) ?_
      refine zi_iload2 (n := 61) dX7_noons_60 rfl ?_
      refine zi_aload0 (n := 62) dX7_noons_61 rfl ?_
      refine zg_X7_5 (n := 65) dX7_noons_62 rfl zl_X7_19 ?_
      refine zi_S1s (mj := zm_X7_noonOf) (n := 68) dX7_noons_65 rfl zl_X7_168 zy_X7_noonOf (by decide) (Nat.le_of_ble_eq_true rfl) (c_noon9 zkM_169 hk) ?_
      refine zi_iadd (n := 69) dX7_noons_68 rfl ?_
      refine zi_istore2 (n := 70) dX7_noons_69 rfl (by decide) rfl ?_
      refine zi_iinc3 (n := 73) (nI (i + 1)) dX7_noons_70 rfl (by decide) rfl (zi1 _) ?_
      refine zi_goto (tgt := 51) dX7_noons_73 (by decide) ?_
      exact ih (i + 1) _ (zkN a) _ (by omega) ((congrFun (va_up_ne _ _ (by decide)) 9).trans (zsu_self _ _ _ _)) (zkN_le h24) (by rw [va_up_self]; exact hk.noon) hr
set_option maxHeartbeats 4000000 in
set_option maxRecDepth 100000 in
theorem m_noons_ok (h0 : Z 165 0 = nI 0) {a : Nat} (ha : Z 165 9 = nI a) (ha24 : a ≤ 24) (hk : zKd (Z 169) n) {m : Nat} (hz : ¬ Z 169 0 ≤ 0) (h1 : 1 ≤ m) (hm : m ≤ 24) (hf : Z 169 4 + nI m ≤ nI 999) : zCT E 4 zm_X7_noons [.ref (zad E 165), .int (nI m)] (Q, Z) (some (.int (zNk n m Z a (nI 0)).1)) (Q, (zNk n m Z a (nI 0)).2) := by
  refine zCT.of (by decide +kernel) (Nat.le_of_ble_eq_true rfl) ?_
  have a1 := zrg h1 hm (b := 24) (by decide)
  refine zi_aload0 (n := 1) dX7_noons_0 rfl ?_
  refine zi_iconst (n := 2) (nI 0) dX7_noons_1 rfl (by decide) ?_
  refine zp_X7_0 (n := 5) dX7_noons_2 rfl zl_X7_44 (zt0 h0) ?_
  refine zi_aload0 (n := 6) dX7_noons_5 rfl ?_
  refine zi_V0s (mj := zm_X7_isThere) (n := 9) dX7_noons_6 rfl zl_X7_171 zy_X7_isThere (zrc_X7 _ _) (by decide) (Nat.le_of_ble_eq_true rfl) (c_X7_isThere) ?_
  refine zi_ifne_b (n := 12) (tgt := 15) dX7_noons_9 rfl (by decide) (fun h9 => ?_) (fun h9 => ?_)
  · refine zi_iload1 (n := 16) dX7_noons_15 rfl ?_
    refine zi_i2l (n := 17) dX7_noons_16 rfl ?_
    refine zi_lconst (n := 18) ((nI 1).toInt64) dX7_noons_17 rfl (by decide) ?_
    refine zi_ldc2 (n := 21) dX7_noons_18 rfl zl_X7_175 ?_
    rw [show (24 : Int64) = (nI 24).toInt64 by decide]
    refine zi_S3s (mj := zm_X7_in) (n := 24) dX7_noons_21 rfl zl_X7_54 zy_X7_in (by decide) (Nat.le_of_ble_eq_true rfl) (c_X7_in) ?_
    refine zi_ifne_b (n := 27) (tgt := 30) dX7_noons_24 rfl (by decide) (fun h24 => ?_) (fun h24 => ?_)
    · refine zi_aload0 (n := 31) dX7_noons_30 rfl ?_
      refine zg_X7_5 (n := 34) dX7_noons_31 rfl zl_X7_19 ?_
      refine zi_iconst (n := 35) (nI 4) dX7_noons_34 rfl (by decide) ?_
      refine zi_oald (N := 36) (n := 36) dX7_noons_35 rfl (by decide) (fun _ => rfl) (by decide) rfl (by omega) rfl ?_
      refine zi_iload1 (n := 37) dX7_noons_36 rfl ?_
      refine zi_iadd (n := 38) dX7_noons_37 rfl ?_
      refine zi_sipush (n := 41) (nI 999) dX7_noons_38 rfl (by decide) ?_
      refine zi_icle (n := 44) (tgt := 47) dX7_noons_41 rfl (by decide) (fun h41 => ?_) (fun h41 => ?_)
      · refine zi_iconst (n := 48) (nI 0) dX7_noons_47 rfl (by decide) ?_
        refine zi_istore2 (n := 49) dX7_noons_48 rfl (by decide) rfl ?_
        refine zi_iconst (n := 50) (nI 0) dX7_noons_49 rfl (by decide) ?_
        refine zi_istore3 (n := 51) dX7_noons_50 rfl (by decide) rfl ?_
        exact l_X7_noons (by omega) m 0 Z a (nI 0) (by omega) ha ha24 hk rfl
      · first | exact absurd hf h41 | exact absurd h41 hf
    · first | exact absurd a1 h24 | exact absurd h24 a1
  · first | exact absurd hz h9 | exact absurd h9 hz
set_option maxHeartbeats 4000000 in
set_option maxRecDepth 100000 in
theorem m_move_bad (h0 : Z 165 0 = nI 0) {x y : Int32} (hb : ¬ ((nI 0 ≤ x ∧ x ≤ Z 169 0 - nI 1) ∧ (nI 0 ≤ y ∧ y ≤ nI 9))) : zCT E 2 zm_X7_move [.ref (zad E 165), .int x, .int y] (Q, Z) (some (.int zBAD)) (Q, Z) := by
  refine zCT.of (by decide +kernel) (Nat.le_of_ble_eq_true rfl) ?_
  refine zi_aload0 (n := 1) dX7_move_0 rfl ?_
  refine zi_iconst (n := 2) (nI 0) dX7_move_1 rfl (by decide) ?_
  refine zp_X7_0 (n := 5) dX7_move_2 rfl zl_X7_44 (zt0 h0) ?_
  refine zi_aload0 (n := 6) dX7_move_5 rfl ?_
  refine zi_iload1 (n := 7) dX7_move_6 rfl ?_
  refine zi_V1s (mj := zm_X7_isPaper) (n := 10) dX7_move_7 rfl zl_X7_180 zy_X7_isPaper (zrc_X7 _ _) (by decide) (Nat.le_of_ble_eq_true rfl) (c_X7_isPaper) ?_
  refine zi_ifeq_b (n := 13) (tgt := 25) dX7_move_10 rfl (by decide) (fun h10 => ?_) (fun h10 => ?_)
  · refine zi_ldc (n := 27) dX7_move_25 rfl zl_X7_64 ?_
    exact zi_iret dX7_move_27 rfl (by rfl) (by rfl)
  · refine zi_iload2 (n := 14) dX7_move_13 rfl ?_
    refine zi_i2l (n := 15) dX7_move_14 rfl ?_
    refine zi_lconst (n := 16) ((nI 0).toInt64) dX7_move_15 rfl (by decide) ?_
    refine zi_ldc2 (n := 19) dX7_move_16 rfl zl_X7_183 ?_
    rw [show (9 : Int64) = (nI 9).toInt64 by decide]
    refine zi_S3s (mj := zm_X7_in) (n := 22) dX7_move_19 rfl zl_X7_54 zy_X7_in (by decide) (Nat.le_of_ble_eq_true rfl) (c_X7_in) ?_
    refine zi_ifne_b (n := 25) (tgt := 28) dX7_move_22 rfl (by decide) (fun h22 => ?_) (fun h22 => ?_)
    · exact absurd ⟨h10, h22⟩ hb
    · refine zi_ldc (n := 27) dX7_move_25 rfl zl_X7_64 ?_
      exact zi_iret dX7_move_27 rfl (by rfl) (by rfl)
set_option maxHeartbeats 4000000 in
set_option maxRecDepth 100000 in
theorem m_move_there (h0 : Z 165 0 = nI 0) (hn : Z 169 0 = nI n) (h6 : n ≤ 6) {p : Nat} (hp : p < n) {y : Int32} (hy : (nI 0 ≤ y ∧ y ≤ nI 9)) (he : Z 169 (6 + 5 * p + 1) = y) : zCT E 2 zm_X7_move [.ref (zad E 165), .int (nI p), .int y] (Q, Z) (some (.int zSTATE)) (Q, Z) := by
  refine zCT.of (by decide +kernel) (Nat.le_of_ble_eq_true rfl) ?_
  have a1 := zisP hn h6 hp
  refine zi_aload0 (n := 1) dX7_move_0 rfl ?_
  refine zi_iconst (n := 2) (nI 0) dX7_move_1 rfl (by decide) ?_
  refine zp_X7_0 (n := 5) dX7_move_2 rfl zl_X7_44 (zt0 h0) ?_
  refine zi_aload0 (n := 6) dX7_move_5 rfl ?_
  refine zi_iload1 (n := 7) dX7_move_6 rfl ?_
  refine zi_V1s (mj := zm_X7_isPaper) (n := 10) dX7_move_7 rfl zl_X7_180 zy_X7_isPaper (zrc_X7 _ _) (by decide) (Nat.le_of_ble_eq_true rfl) (c_X7_isPaper) ?_
  refine zi_ifeq_b (n := 13) (tgt := 25) dX7_move_10 rfl (by decide) (fun h10 => ?_) (fun h10 => ?_)
  · first | exact absurd a1 h10 | exact absurd h10 a1
  · refine zi_iload2 (n := 14) dX7_move_13 rfl ?_
    refine zi_i2l (n := 15) dX7_move_14 rfl ?_
    refine zi_lconst (n := 16) ((nI 0).toInt64) dX7_move_15 rfl (by decide) ?_
    refine zi_ldc2 (n := 19) dX7_move_16 rfl zl_X7_183 ?_
    rw [show (9 : Int64) = (nI 9).toInt64 by decide]
    refine zi_S3s (mj := zm_X7_in) (n := 22) dX7_move_19 rfl zl_X7_54 zy_X7_in (by decide) (Nat.le_of_ble_eq_true rfl) (c_X7_in) ?_
    refine zi_ifne_b (n := 25) (tgt := 28) dX7_move_22 rfl (by decide) (fun h22 => ?_) (fun h22 => ?_)
    · refine zi_aload0 (n := 29) dX7_move_28 rfl ?_
      refine zg_X7_5 (n := 32) dX7_move_29 rfl zl_X7_19 ?_
      refine zi_iload1 (n := 33) dX7_move_32 rfl ?_
      refine zi_iconst (n := 34) (nI 1) dX7_move_33 rfl (by decide) ?_
      refine zi_S3s (mj := zm_X7_of) (n := 37) dX7_move_34 rfl zl_X7_146 zy_X7_of (by decide) (Nat.le_of_ble_eq_true rfl) (c_of9 (by omega) (by decide) rfl) ?_
      refine zi_istore3 (n := 38) dX7_move_37 rfl (by decide) rfl ?_
      refine zi_iload3 (n := 39) dX7_move_38 rfl ?_
      refine zi_iload2 (n := 40) dX7_move_39 rfl ?_
      refine zi_icne (n := 43) (tgt := 46) dX7_move_40 rfl (by decide) (fun h40 => ?_) (fun h40 => ?_)
      · first | exact absurd he h40 | exact absurd h40 he
      · refine zi_ldc (n := 45) dX7_move_43 rfl zl_X7_174 ?_
        exact zi_iret dX7_move_45 rfl (by rfl) (by rfl)
    · first | exact absurd hy h22 | exact absurd h22 hy
set_option maxHeartbeats 4000000 in
set_option maxRecDepth 100000 in
theorem m_move_ok (h0 : Z 165 0 = nI 0) (hn : Z 169 0 = nI n) (h6 : n ≤ 6) {a : Nat} (ha : Z 165 9 = nI a) (ha24 : a ≤ 24) {p : Nat} (hp : p < n) {y : Int32} (hy : (nI 0 ≤ y ∧ y ≤ nI 9)) (he : ¬ Z 169 (6 + 5 * p + 1) = y) : zCT E 2 zm_X7_move [.ref (zad E 165), .int (nI p), .int y] (Q, Z) (some (.int (Z 169 (6 + 5 * p + 1)))) (Q, va_up (zkM Z a) 169 (upd (Z 169) (6 + 5 * p + 1) y)) := by
  refine zCT.of (by decide +kernel) (Nat.le_of_ble_eq_true rfl) ?_
  have a1 := zisP hn h6 hp
  refine zi_aload0 (n := 1) dX7_move_0 rfl ?_
  refine zi_iconst (n := 2) (nI 0) dX7_move_1 rfl (by decide) ?_
  refine zp_X7_0 (n := 5) dX7_move_2 rfl zl_X7_44 (zt0 h0) ?_
  refine zi_aload0 (n := 6) dX7_move_5 rfl ?_
  refine zi_iload1 (n := 7) dX7_move_6 rfl ?_
  refine zi_V1s (mj := zm_X7_isPaper) (n := 10) dX7_move_7 rfl zl_X7_180 zy_X7_isPaper (zrc_X7 _ _) (by decide) (Nat.le_of_ble_eq_true rfl) (c_X7_isPaper) ?_
  refine zi_ifeq_b (n := 13) (tgt := 25) dX7_move_10 rfl (by decide) (fun h10 => ?_) (fun h10 => ?_)
  · first | exact absurd a1 h10 | exact absurd h10 a1
  · refine zi_iload2 (n := 14) dX7_move_13 rfl ?_
    refine zi_i2l (n := 15) dX7_move_14 rfl ?_
    refine zi_lconst (n := 16) ((nI 0).toInt64) dX7_move_15 rfl (by decide) ?_
    refine zi_ldc2 (n := 19) dX7_move_16 rfl zl_X7_183 ?_
    rw [show (9 : Int64) = (nI 9).toInt64 by decide]
    refine zi_S3s (mj := zm_X7_in) (n := 22) dX7_move_19 rfl zl_X7_54 zy_X7_in (by decide) (Nat.le_of_ble_eq_true rfl) (c_X7_in) ?_
    refine zi_ifne_b (n := 25) (tgt := 28) dX7_move_22 rfl (by decide) (fun h22 => ?_) (fun h22 => ?_)
    · refine zi_aload0 (n := 29) dX7_move_28 rfl ?_
      refine zg_X7_5 (n := 32) dX7_move_29 rfl zl_X7_19 ?_
      refine zi_iload1 (n := 33) dX7_move_32 rfl ?_
      refine zi_iconst (n := 34) (nI 1) dX7_move_33 rfl (by decide) ?_
      refine zi_S3s (mj := zm_X7_of) (n := 37) dX7_move_34 rfl zl_X7_146 zy_X7_of (by decide) (Nat.le_of_ble_eq_true rfl) (c_of9 (by omega) (by decide) rfl) ?_
      refine zi_istore3 (n := 38) dX7_move_37 rfl (by decide) rfl ?_
      refine zi_iload3 (n := 39) dX7_move_38 rfl ?_
      refine zi_iload2 (n := 40) dX7_move_39 rfl ?_
      refine zi_icne (n := 43) (tgt := 46) dX7_move_40 rfl (by decide) (fun h40 => ?_) (fun h40 => ?_)
      · refine zi_aload0 (n := 47) dX7_move_46 rfl ?_
        refine zi_V0v (mj := zm_X7_keep) (n := 50) dX7_move_47 rfl zl_X7_177 zy_X7_keep (zrc_X7 _ _) (by decide) (Nat.le_of_ble_eq_true rfl) (c_X7_keep ha ha24) ?_
        refine zi_aload0 (n := 51) dX7_move_50 rfl ?_
        refine zg_X7_5 (n := 54) dX7_move_51 rfl zl_X7_19 ?_
        refine zi_iload1 (n := 55) dX7_move_54 rfl ?_
        refine zi_iconst (n := 56) (nI 1) dX7_move_55 rfl (by decide) ?_
        refine zi_iload2 (n := 57) dX7_move_56 rfl ?_
        refine zi_S4v (mj := zm_X7_be) (n := 60) dX7_move_57 rfl zl_X7_154 zy_X7_be (by decide) (Nat.le_of_ble_eq_true rfl) (c_be9 (by omega) (by decide) zkM_169) ?_
        refine zi_iload3 (n := 61) dX7_move_60 rfl ?_
        exact zi_iret dX7_move_61 rfl (by rfl) (by rfl)
      · first | exact absurd he h40 | exact absurd h40 he
    · first | exact absurd hy h22 | exact absurd h22 hy
set_option maxHeartbeats 4000000 in
set_option maxRecDepth 100000 in
theorem m_write_bad (h0 : Z 165 0 = nI 0) {x y : Int32} (hb : ¬ ((nI 0 ≤ x ∧ x ≤ Z 169 0 - nI 1) ∧ (nI 1 ≤ y ∧ y ≤ nI 9))) : zCT E 2 zm_X7_write [.ref (zad E 165), .int x, .int y] (Q, Z) (some (.int zBAD)) (Q, Z) := by
  refine zCT.of (by decide +kernel) (Nat.le_of_ble_eq_true rfl) ?_
  refine zi_aload0 (n := 1) dX7_write_0 rfl ?_
  refine zi_iconst (n := 2) (nI 0) dX7_write_1 rfl (by decide) ?_
  refine zp_X7_0 (n := 5) dX7_write_2 rfl zl_X7_44 (zt0 h0) ?_
  refine zi_aload0 (n := 6) dX7_write_5 rfl ?_
  refine zi_iload1 (n := 7) dX7_write_6 rfl ?_
  refine zi_V1s (mj := zm_X7_isPaper) (n := 10) dX7_write_7 rfl zl_X7_180 zy_X7_isPaper (zrc_X7 _ _) (by decide) (Nat.le_of_ble_eq_true rfl) (c_X7_isPaper) ?_
  refine zi_ifeq_b (n := 13) (tgt := 25) dX7_write_10 rfl (by decide) (fun h10 => ?_) (fun h10 => ?_)
  · refine zi_ldc (n := 27) dX7_write_25 rfl zl_X7_64 ?_
    exact zi_iret dX7_write_27 rfl (by rfl) (by rfl)
  · refine zi_iload2 (n := 14) dX7_write_13 rfl ?_
    refine zi_i2l (n := 15) dX7_write_14 rfl ?_
    refine zi_lconst (n := 16) ((nI 1).toInt64) dX7_write_15 rfl (by decide) ?_
    refine zi_ldc2 (n := 19) dX7_write_16 rfl zl_X7_183 ?_
    rw [show (9 : Int64) = (nI 9).toInt64 by decide]
    refine zi_S3s (mj := zm_X7_in) (n := 22) dX7_write_19 rfl zl_X7_54 zy_X7_in (by decide) (Nat.le_of_ble_eq_true rfl) (c_X7_in) ?_
    refine zi_ifne_b (n := 25) (tgt := 28) dX7_write_22 rfl (by decide) (fun h22 => ?_) (fun h22 => ?_)
    · exact absurd ⟨h10, h22⟩ hb
    · refine zi_ldc (n := 27) dX7_write_25 rfl zl_X7_64 ?_
      exact zi_iret dX7_write_27 rfl (by rfl) (by rfl)
set_option maxHeartbeats 4000000 in
set_option maxRecDepth 100000 in
theorem m_write_ok (h0 : Z 165 0 = nI 0) (hn : Z 169 0 = nI n) (h6 : n ≤ 6) {a : Nat} (ha : Z 165 9 = nI a) (ha24 : a ≤ 24) {p : Nat} (hp : p < n) {y : Int32} (hy : (nI 1 ≤ y ∧ y ≤ nI 9)) : zCT E 2 zm_X7_write [.ref (zad E 165), .int (nI p), .int y] (Q, Z) (some (.int (Z 169 (6 + 5 * p + 3)))) (Q, va_up (zkM Z a) 169 (upd (Z 169) (6 + 5 * p + 3) y)) := by
  refine zCT.of (by decide +kernel) (Nat.le_of_ble_eq_true rfl) ?_
  have a1 := zisP hn h6 hp
  refine zi_aload0 (n := 1) dX7_write_0 rfl ?_
  refine zi_iconst (n := 2) (nI 0) dX7_write_1 rfl (by decide) ?_
  refine zp_X7_0 (n := 5) dX7_write_2 rfl zl_X7_44 (zt0 h0) ?_
  refine zi_aload0 (n := 6) dX7_write_5 rfl ?_
  refine zi_iload1 (n := 7) dX7_write_6 rfl ?_
  refine zi_V1s (mj := zm_X7_isPaper) (n := 10) dX7_write_7 rfl zl_X7_180 zy_X7_isPaper (zrc_X7 _ _) (by decide) (Nat.le_of_ble_eq_true rfl) (c_X7_isPaper) ?_
  refine zi_ifeq_b (n := 13) (tgt := 25) dX7_write_10 rfl (by decide) (fun h10 => ?_) (fun h10 => ?_)
  · first | exact absurd a1 h10 | exact absurd h10 a1
  · refine zi_iload2 (n := 14) dX7_write_13 rfl ?_
    refine zi_i2l (n := 15) dX7_write_14 rfl ?_
    refine zi_lconst (n := 16) ((nI 1).toInt64) dX7_write_15 rfl (by decide) ?_
    refine zi_ldc2 (n := 19) dX7_write_16 rfl zl_X7_183 ?_
    rw [show (9 : Int64) = (nI 9).toInt64 by decide]
    refine zi_S3s (mj := zm_X7_in) (n := 22) dX7_write_19 rfl zl_X7_54 zy_X7_in (by decide) (Nat.le_of_ble_eq_true rfl) (c_X7_in) ?_
    refine zi_ifne_b (n := 25) (tgt := 28) dX7_write_22 rfl (by decide) (fun h22 => ?_) (fun h22 => ?_)
    · refine zi_aload0 (n := 29) dX7_write_28 rfl ?_
      refine zi_V0v (mj := zm_X7_keep) (n := 32) dX7_write_29 rfl zl_X7_177 zy_X7_keep (zrc_X7 _ _) (by decide) (Nat.le_of_ble_eq_true rfl) (c_X7_keep ha ha24) ?_
      refine zi_aload0 (n := 33) dX7_write_32 rfl ?_
      refine zg_X7_5 (n := 36) dX7_write_33 rfl zl_X7_19 ?_
      refine zi_iload1 (n := 37) dX7_write_36 rfl ?_
      refine zi_iconst (n := 38) (nI 3) dX7_write_37 rfl (by decide) ?_
      refine zi_S3s (mj := zm_X7_of) (n := 41) dX7_write_38 rfl zl_X7_146 zy_X7_of (by decide) (Nat.le_of_ble_eq_true rfl) (c_of9 (by omega) (by decide) (congrFun zkM_169 _)) ?_
      refine zi_istore3 (n := 42) dX7_write_41 rfl (by decide) rfl ?_
      refine zi_aload0 (n := 43) dX7_write_42 rfl ?_
      refine zg_X7_5 (n := 46) dX7_write_43 rfl zl_X7_19 ?_
      refine zi_iload1 (n := 47) dX7_write_46 rfl ?_
      refine zi_iconst (n := 48) (nI 3) dX7_write_47 rfl (by decide) ?_
      refine zi_iload2 (n := 49) dX7_write_48 rfl ?_
      refine zi_S4v (mj := zm_X7_be) (n := 52) dX7_write_49 rfl zl_X7_154 zy_X7_be (by decide) (Nat.le_of_ble_eq_true rfl) (c_be9 (by omega) (by decide) zkM_169) ?_
      refine zi_iload3 (n := 53) dX7_write_52 rfl ?_
      exact zi_iret dX7_write_53 rfl (by rfl) (by rfl)
    · first | exact absurd hy h22 | exact absurd h22 hy
set_option maxHeartbeats 4000000 in
set_option maxRecDepth 100000 in
theorem m_hide_bad (h0 : Z 165 0 = nI 0) {x : Int32} (hb : ¬ (nI 0 ≤ x ∧ x ≤ Z 169 0 - nI 1)) : zCT E 2 zm_X7_hide [.ref (zad E 165), .int x] (Q, Z) (some (.int zBAD)) (Q, Z) := by
  refine zCT.of (by decide +kernel) (Nat.le_of_ble_eq_true rfl) ?_
  refine zi_aload0 (n := 1) dX7_hide_0 rfl ?_
  refine zi_iconst (n := 2) (nI 0) dX7_hide_1 rfl (by decide) ?_
  refine zp_X7_0 (n := 5) dX7_hide_2 rfl zl_X7_44 (zt0 h0) ?_
  refine zi_aload0 (n := 6) dX7_hide_5 rfl ?_
  refine zi_iload1 (n := 7) dX7_hide_6 rfl ?_
  refine zi_V1s (mj := zm_X7_isPaper) (n := 10) dX7_hide_7 rfl zl_X7_180 zy_X7_isPaper (zrc_X7 _ _) (by decide) (Nat.le_of_ble_eq_true rfl) (c_X7_isPaper) ?_
  refine zi_ifne_b (n := 13) (tgt := 16) dX7_hide_10 rfl (by decide) (fun h10 => ?_) (fun h10 => ?_)
  · first | exact absurd hb h10 | exact absurd h10 hb
  · refine zi_ldc (n := 15) dX7_hide_13 rfl zl_X7_64 ?_
    exact zi_iret dX7_hide_15 rfl (by rfl) (by rfl)
set_option maxHeartbeats 4000000 in
set_option maxRecDepth 100000 in
theorem m_hide_ok (h0 : Z 165 0 = nI 0) (hn : Z 169 0 = nI n) (h6 : n ≤ 6) {a : Nat} (ha : Z 165 9 = nI a) (ha24 : a ≤ 24) {p : Nat} (hp : p < n) : zCT E 2 zm_X7_hide [.ref (zad E 165), .int (nI p)] (Q, Z) (some (.int (nI 1 - Z 169 (6 + 5 * p + 4)))) (Q, va_up (zkM Z a) 169 (upd (Z 169) (6 + 5 * p + 4) (nI 1 - Z 169 (6 + 5 * p + 4)))) := by
  refine zCT.of (by decide +kernel) (Nat.le_of_ble_eq_true rfl) ?_
  have a1 := zisP hn h6 hp
  refine zi_aload0 (n := 1) dX7_hide_0 rfl ?_
  refine zi_iconst (n := 2) (nI 0) dX7_hide_1 rfl (by decide) ?_
  refine zp_X7_0 (n := 5) dX7_hide_2 rfl zl_X7_44 (zt0 h0) ?_
  refine zi_aload0 (n := 6) dX7_hide_5 rfl ?_
  refine zi_iload1 (n := 7) dX7_hide_6 rfl ?_
  refine zi_V1s (mj := zm_X7_isPaper) (n := 10) dX7_hide_7 rfl zl_X7_180 zy_X7_isPaper (zrc_X7 _ _) (by decide) (Nat.le_of_ble_eq_true rfl) (c_X7_isPaper) ?_
  refine zi_ifne_b (n := 13) (tgt := 16) dX7_hide_10 rfl (by decide) (fun h10 => ?_) (fun h10 => ?_)
  · refine zi_aload0 (n := 17) dX7_hide_16 rfl ?_
    refine zi_V0v (mj := zm_X7_keep) (n := 20) dX7_hide_17 rfl zl_X7_177 zy_X7_keep (zrc_X7 _ _) (by decide) (Nat.le_of_ble_eq_true rfl) (c_X7_keep ha ha24) ?_
    refine zi_aload0 (n := 21) dX7_hide_20 rfl ?_
    refine zg_X7_5 (n := 24) dX7_hide_21 rfl zl_X7_19 ?_
    refine zi_iload1 (n := 25) dX7_hide_24 rfl ?_
    refine zi_iconst (n := 26) (nI 4) dX7_hide_25 rfl (by decide) ?_
    refine zi_iconst (n := 27) (nI 1) dX7_hide_26 rfl (by decide) ?_
    refine zi_aload0 (n := 28) dX7_hide_27 rfl ?_
    refine zg_X7_5 (n := 31) dX7_hide_28 rfl zl_X7_19 ?_
    refine zi_iload1 (n := 32) dX7_hide_31 rfl ?_
    refine zi_iconst (n := 33) (nI 4) dX7_hide_32 rfl (by decide) ?_
    refine zi_S3s (mj := zm_X7_of) (n := 36) dX7_hide_33 rfl zl_X7_146 zy_X7_of (by decide) (Nat.le_of_ble_eq_true rfl) (c_of9 (by omega) (by decide) (congrFun zkM_169 _)) ?_
    refine zi_isub (n := 37) dX7_hide_36 rfl ?_
    refine zi_S4v (mj := zm_X7_be) (n := 40) dX7_hide_37 rfl zl_X7_154 zy_X7_be (by decide) (Nat.le_of_ble_eq_true rfl) (c_be9 (by omega) (by decide) zkM_169) ?_
    refine zi_aload0 (n := 41) dX7_hide_40 rfl ?_
    refine zg_X7_5 (n := 44) dX7_hide_41 rfl zl_X7_19 ?_
    refine zi_iload1 (n := 45) dX7_hide_44 rfl ?_
    refine zi_iconst (n := 46) (nI 4) dX7_hide_45 rfl (by decide) ?_
    refine zi_S3s (mj := zm_X7_of) (n := 49) dX7_hide_46 rfl zl_X7_146 zy_X7_of (by decide) (Nat.le_of_ble_eq_true rfl) (c_of9 (x := nI 1 - Z 169 (6 + 5 * p + 4)) (by omega) (by decide) (by rw [va_up_self]; unfold upd; exact if_pos rfl)) ?_
    exact zi_iret dX7_hide_49 rfl (by rfl) (by rfl)
  · first | exact absurd a1 h10 | exact absurd h10 a1
set_option maxHeartbeats 4000000 in
set_option maxRecDepth 100000 in
theorem m_clock_state (h0 : Z 165 0 = nI 0) {x : Int32} (hz : Z 169 0 ≤ 0) : zCT E 1 zm_X7_clock [.ref (zad E 165), .int x] (Q, Z) (some (.int zSTATE)) (Q, Z) := by
  refine zCT.of (by decide +kernel) (Nat.le_of_ble_eq_true rfl) ?_
  refine zi_aload0 (n := 1) dX7_clock_0 rfl ?_
  refine zi_iconst (n := 2) (nI 0) dX7_clock_1 rfl (by decide) ?_
  refine zp_X7_0 (n := 5) dX7_clock_2 rfl zl_X7_44 (zt0 h0) ?_
  refine zi_aload0 (n := 6) dX7_clock_5 rfl ?_
  refine zi_V0s (mj := zm_X7_isThere) (n := 9) dX7_clock_6 rfl zl_X7_171 zy_X7_isThere (zrc_X7 _ _) (by decide) (Nat.le_of_ble_eq_true rfl) (c_X7_isThere) ?_
  refine zi_ifne_b (n := 12) (tgt := 15) dX7_clock_9 rfl (by decide) (fun h9 => ?_) (fun h9 => ?_)
  · first | exact absurd (fun q => q hz : ¬ ¬ Z 169 0 ≤ 0) h9 | exact absurd h9 (fun q => q hz : ¬ ¬ Z 169 0 ≤ 0)
  · refine zi_ldc (n := 14) dX7_clock_12 rfl zl_X7_174 ?_
    exact zi_iret dX7_clock_14 rfl (by rfl) (by rfl)
set_option maxHeartbeats 4000000 in
set_option maxRecDepth 100000 in
theorem m_clock_bad (h0 : Z 165 0 = nI 0) {y : Int32} (hz : ¬ Z 169 0 ≤ 0) (hb : ¬ (nI 0 ≤ y ∧ y ≤ nI 9)) : zCT E 1 zm_X7_clock [.ref (zad E 165), .int y] (Q, Z) (some (.int zBAD)) (Q, Z) := by
  refine zCT.of (by decide +kernel) (Nat.le_of_ble_eq_true rfl) ?_
  refine zi_aload0 (n := 1) dX7_clock_0 rfl ?_
  refine zi_iconst (n := 2) (nI 0) dX7_clock_1 rfl (by decide) ?_
  refine zp_X7_0 (n := 5) dX7_clock_2 rfl zl_X7_44 (zt0 h0) ?_
  refine zi_aload0 (n := 6) dX7_clock_5 rfl ?_
  refine zi_V0s (mj := zm_X7_isThere) (n := 9) dX7_clock_6 rfl zl_X7_171 zy_X7_isThere (zrc_X7 _ _) (by decide) (Nat.le_of_ble_eq_true rfl) (c_X7_isThere) ?_
  refine zi_ifne_b (n := 12) (tgt := 15) dX7_clock_9 rfl (by decide) (fun h9 => ?_) (fun h9 => ?_)
  · refine zi_iload1 (n := 16) dX7_clock_15 rfl ?_
    refine zi_i2l (n := 17) dX7_clock_16 rfl ?_
    refine zi_lconst (n := 18) ((nI 0).toInt64) dX7_clock_17 rfl (by decide) ?_
    refine zi_ldc2 (n := 21) dX7_clock_18 rfl zl_X7_183 ?_
    rw [show (9 : Int64) = (nI 9).toInt64 by decide]
    refine zi_S3s (mj := zm_X7_in) (n := 24) dX7_clock_21 rfl zl_X7_54 zy_X7_in (by decide) (Nat.le_of_ble_eq_true rfl) (c_X7_in) ?_
    refine zi_ifne_b (n := 27) (tgt := 30) dX7_clock_24 rfl (by decide) (fun h24 => ?_) (fun h24 => ?_)
    · first | exact absurd hb h24 | exact absurd h24 hb
    · refine zi_ldc (n := 29) dX7_clock_27 rfl zl_X7_64 ?_
      exact zi_iret dX7_clock_29 rfl (by rfl) (by rfl)
  · first | exact absurd hz h9 | exact absurd h9 hz
set_option maxHeartbeats 4000000 in
set_option maxRecDepth 100000 in
theorem m_clock_there (h0 : Z 165 0 = nI 0) {y : Int32} (hz : ¬ Z 169 0 ≤ 0) (hy : (nI 0 ≤ y ∧ y ≤ nI 9)) (he : Z 169 1 = y) : zCT E 1 zm_X7_clock [.ref (zad E 165), .int y] (Q, Z) (some (.int zSTATE)) (Q, Z) := by
  refine zCT.of (by decide +kernel) (Nat.le_of_ble_eq_true rfl) ?_
  refine zi_aload0 (n := 1) dX7_clock_0 rfl ?_
  refine zi_iconst (n := 2) (nI 0) dX7_clock_1 rfl (by decide) ?_
  refine zp_X7_0 (n := 5) dX7_clock_2 rfl zl_X7_44 (zt0 h0) ?_
  refine zi_aload0 (n := 6) dX7_clock_5 rfl ?_
  refine zi_V0s (mj := zm_X7_isThere) (n := 9) dX7_clock_6 rfl zl_X7_171 zy_X7_isThere (zrc_X7 _ _) (by decide) (Nat.le_of_ble_eq_true rfl) (c_X7_isThere) ?_
  refine zi_ifne_b (n := 12) (tgt := 15) dX7_clock_9 rfl (by decide) (fun h9 => ?_) (fun h9 => ?_)
  · refine zi_iload1 (n := 16) dX7_clock_15 rfl ?_
    refine zi_i2l (n := 17) dX7_clock_16 rfl ?_
    refine zi_lconst (n := 18) ((nI 0).toInt64) dX7_clock_17 rfl (by decide) ?_
    refine zi_ldc2 (n := 21) dX7_clock_18 rfl zl_X7_183 ?_
    rw [show (9 : Int64) = (nI 9).toInt64 by decide]
    refine zi_S3s (mj := zm_X7_in) (n := 24) dX7_clock_21 rfl zl_X7_54 zy_X7_in (by decide) (Nat.le_of_ble_eq_true rfl) (c_X7_in) ?_
    refine zi_ifne_b (n := 27) (tgt := 30) dX7_clock_24 rfl (by decide) (fun h24 => ?_) (fun h24 => ?_)
    · refine zi_aload0 (n := 31) dX7_clock_30 rfl ?_
      refine zg_X7_5 (n := 34) dX7_clock_31 rfl zl_X7_19 ?_
      refine zi_iconst (n := 35) (nI 1) dX7_clock_34 rfl (by decide) ?_
      refine zi_oald (N := 36) (n := 36) dX7_clock_35 rfl (by decide) (fun _ => rfl) (by decide) rfl (by omega) rfl ?_
      refine zi_istore2 (n := 37) dX7_clock_36 rfl (by decide) rfl ?_
      refine zi_iload2 (n := 38) dX7_clock_37 rfl ?_
      refine zi_iload1 (n := 39) dX7_clock_38 rfl ?_
      refine zi_icne (n := 42) (tgt := 45) dX7_clock_39 rfl (by decide) (fun h39 => ?_) (fun h39 => ?_)
      · first | exact absurd he h39 | exact absurd h39 he
      · refine zi_ldc (n := 44) dX7_clock_42 rfl zl_X7_174 ?_
        exact zi_iret dX7_clock_44 rfl (by rfl) (by rfl)
    · first | exact absurd hy h24 | exact absurd h24 hy
  · first | exact absurd hz h9 | exact absurd h9 hz
set_option maxHeartbeats 4000000 in
set_option maxRecDepth 100000 in
theorem m_clock_ok (h0 : Z 165 0 = nI 0) {a : Nat} (ha : Z 165 9 = nI a) (ha24 : a ≤ 24) {y : Int32} (hz : ¬ Z 169 0 ≤ 0) (hy : (nI 0 ≤ y ∧ y ≤ nI 9)) (he : ¬ Z 169 1 = y) : zCT E 1 zm_X7_clock [.ref (zad E 165), .int y] (Q, Z) (some (.int (Z 169 1))) (Q, zsu (zkM Z a) 169 1 y) := by
  refine zCT.of (by decide +kernel) (Nat.le_of_ble_eq_true rfl) ?_
  refine zi_aload0 (n := 1) dX7_clock_0 rfl ?_
  refine zi_iconst (n := 2) (nI 0) dX7_clock_1 rfl (by decide) ?_
  refine zp_X7_0 (n := 5) dX7_clock_2 rfl zl_X7_44 (zt0 h0) ?_
  refine zi_aload0 (n := 6) dX7_clock_5 rfl ?_
  refine zi_V0s (mj := zm_X7_isThere) (n := 9) dX7_clock_6 rfl zl_X7_171 zy_X7_isThere (zrc_X7 _ _) (by decide) (Nat.le_of_ble_eq_true rfl) (c_X7_isThere) ?_
  refine zi_ifne_b (n := 12) (tgt := 15) dX7_clock_9 rfl (by decide) (fun h9 => ?_) (fun h9 => ?_)
  · refine zi_iload1 (n := 16) dX7_clock_15 rfl ?_
    refine zi_i2l (n := 17) dX7_clock_16 rfl ?_
    refine zi_lconst (n := 18) ((nI 0).toInt64) dX7_clock_17 rfl (by decide) ?_
    refine zi_ldc2 (n := 21) dX7_clock_18 rfl zl_X7_183 ?_
    rw [show (9 : Int64) = (nI 9).toInt64 by decide]
    refine zi_S3s (mj := zm_X7_in) (n := 24) dX7_clock_21 rfl zl_X7_54 zy_X7_in (by decide) (Nat.le_of_ble_eq_true rfl) (c_X7_in) ?_
    refine zi_ifne_b (n := 27) (tgt := 30) dX7_clock_24 rfl (by decide) (fun h24 => ?_) (fun h24 => ?_)
    · refine zi_aload0 (n := 31) dX7_clock_30 rfl ?_
      refine zg_X7_5 (n := 34) dX7_clock_31 rfl zl_X7_19 ?_
      refine zi_iconst (n := 35) (nI 1) dX7_clock_34 rfl (by decide) ?_
      refine zi_oald (N := 36) (n := 36) dX7_clock_35 rfl (by decide) (fun _ => rfl) (by decide) rfl (by omega) rfl ?_
      refine zi_istore2 (n := 37) dX7_clock_36 rfl (by decide) rfl ?_
      refine zi_iload2 (n := 38) dX7_clock_37 rfl ?_
      refine zi_iload1 (n := 39) dX7_clock_38 rfl ?_
      refine zi_icne (n := 42) (tgt := 45) dX7_clock_39 rfl (by decide) (fun h39 => ?_) (fun h39 => ?_)
      · refine zi_aload0 (n := 46) dX7_clock_45 rfl ?_
        refine zi_V0v (mj := zm_X7_keep) (n := 49) dX7_clock_46 rfl zl_X7_177 zy_X7_keep (zrc_X7 _ _) (by decide) (Nat.le_of_ble_eq_true rfl) (c_X7_keep ha ha24) ?_
        refine zi_aload0 (n := 50) dX7_clock_49 rfl ?_
        refine zg_X7_5 (n := 53) dX7_clock_50 rfl zl_X7_19 ?_
        refine zi_iconst (n := 54) (nI 1) dX7_clock_53 rfl (by decide) ?_
        refine zi_iload1 (n := 55) dX7_clock_54 rfl ?_
        refine zi_oast (N := 36) (n := 56) dX7_clock_55 rfl (by decide) (fun _ => rfl) (by decide) rfl (by omega) rfl ?_
        refine zi_iload2 (n := 57) dX7_clock_56 rfl ?_
        exact zi_iret dX7_clock_57 rfl (by rfl) (by rfl)
      · first | exact absurd he h39 | exact absurd h39 he
    · first | exact absurd hy h24 | exact absurd h24 hy
  · first | exact absurd hz h9 | exact absurd h9 hz
set_option maxHeartbeats 4000000 in
set_option maxRecDepth 100000 in
theorem m_paper_bad (h0 : Z 165 0 = nI 0) {x y : Int32} (hb : ¬ (nI 0 ≤ x ∧ x ≤ Z 169 0 - nI 1)) : zCT E 2 zm_X7_paper [.ref (zad E 165), .int x, .int y] (Q, Z) (some (.int zBAD)) (Q, Z) := by
  refine zCT.of (by decide +kernel) (Nat.le_of_ble_eq_true rfl) ?_
  refine zi_aload0 (n := 1) dX7_paper_0 rfl ?_
  refine zi_iconst (n := 2) (nI 0) dX7_paper_1 rfl (by decide) ?_
  refine zp_X7_0 (n := 5) dX7_paper_2 rfl zl_X7_44 (zt0 h0) ?_
  refine zi_aload0 (n := 6) dX7_paper_5 rfl ?_
  refine zi_iload1 (n := 7) dX7_paper_6 rfl ?_
  refine zi_V1s (mj := zm_X7_isPaper) (n := 10) dX7_paper_7 rfl zl_X7_180 zy_X7_isPaper (zrc_X7 _ _) (by decide) (Nat.le_of_ble_eq_true rfl) (c_X7_isPaper) ?_
  refine zi_ifne_b (n := 13) (tgt := 16) dX7_paper_10 rfl (by decide) (fun h10 => ?_) (fun h10 => ?_)
  · first | exact absurd hb h10 | exact absurd h10 hb
  · refine zi_ldc (n := 15) dX7_paper_13 rfl zl_X7_64 ?_
    exact zi_iret dX7_paper_15 rfl (by rfl) (by rfl)
set_option maxHeartbeats 4000000 in
set_option maxRecDepth 100000 in
theorem m_paper_what (h0 : Z 165 0 = nI 0) (hn : Z 169 0 = nI n) (h6 : n ≤ 6) {p : Nat} (hp : p < n) {y : Int32} (hy : y.toInt < 0 ∨ 4 < y.toInt) : zCT E 2 zm_X7_paper [.ref (zad E 165), .int (nI p), .int y] (Q, Z) (some (.int zBAD)) (Q, Z) := by
  refine zCT.of (by decide +kernel) (Nat.le_of_ble_eq_true rfl) ?_
  have a1 := zisP hn h6 hp
  refine zi_aload0 (n := 1) dX7_paper_0 rfl ?_
  refine zi_iconst (n := 2) (nI 0) dX7_paper_1 rfl (by decide) ?_
  refine zp_X7_0 (n := 5) dX7_paper_2 rfl zl_X7_44 (zt0 h0) ?_
  refine zi_aload0 (n := 6) dX7_paper_5 rfl ?_
  refine zi_iload1 (n := 7) dX7_paper_6 rfl ?_
  refine zi_V1s (mj := zm_X7_isPaper) (n := 10) dX7_paper_7 rfl zl_X7_180 zy_X7_isPaper (zrc_X7 _ _) (by decide) (Nat.le_of_ble_eq_true rfl) (c_X7_isPaper) ?_
  refine zi_ifne_b (n := 13) (tgt := 16) dX7_paper_10 rfl (by decide) (fun h10 => ?_) (fun h10 => ?_)
  · refine zi_iload2 (n := 17) dX7_paper_16 rfl ?_
    refine zi_tableOut (tgt := 101) dX7_paper_17 hy (by decide) ?_
    refine zi_ldc (n := 103) dX7_paper_101 rfl zl_X7_64 ?_
    exact zi_iret dX7_paper_103 rfl (by rfl) (by rfl)
  · first | exact absurd a1 h10 | exact absurd h10 a1
set_option maxHeartbeats 4000000 in
set_option maxRecDepth 100000 in
theorem m_paper_0 (h0 : Z 165 0 = nI 0) (hn : Z 169 0 = nI n) (h6 : n ≤ 6) {p : Nat} (hp : p < n) : zCT E 2 zm_X7_paper [.ref (zad E 165), .int (nI p), .int (nI 0)] (Q, Z) (some (.int (Z 169 (6 + 5 * p + 1)))) (Q, Z) := by
  refine zCT.of (by decide +kernel) (Nat.le_of_ble_eq_true rfl) ?_
  have a1 := zisP hn h6 hp
  refine zi_aload0 (n := 1) dX7_paper_0 rfl ?_
  refine zi_iconst (n := 2) (nI 0) dX7_paper_1 rfl (by decide) ?_
  refine zp_X7_0 (n := 5) dX7_paper_2 rfl zl_X7_44 (zt0 h0) ?_
  refine zi_aload0 (n := 6) dX7_paper_5 rfl ?_
  refine zi_iload1 (n := 7) dX7_paper_6 rfl ?_
  refine zi_V1s (mj := zm_X7_isPaper) (n := 10) dX7_paper_7 rfl zl_X7_180 zy_X7_isPaper (zrc_X7 _ _) (by decide) (Nat.le_of_ble_eq_true rfl) (c_X7_isPaper) ?_
  refine zi_ifne_b (n := 13) (tgt := 16) dX7_paper_10 rfl (by decide) (fun h10 => ?_) (fun h10 => ?_)
  · refine zi_iload2 (n := 17) dX7_paper_16 rfl ?_
    refine zi_tableIn (tgt := 52) dX7_paper_17 (by decide) (by decide) rfl (by decide) ?_
    refine zi_aload0 (n := 53) dX7_paper_52 rfl ?_
    refine zg_X7_5 (n := 56) dX7_paper_53 rfl zl_X7_19 ?_
    refine zi_iload1 (n := 57) dX7_paper_56 rfl ?_
    refine zi_iconst (n := 58) (nI 1) dX7_paper_57 rfl (by decide) ?_
    refine zi_S3s (mj := zm_X7_of) (n := 61) dX7_paper_58 rfl zl_X7_146 zy_X7_of (by decide) (Nat.le_of_ble_eq_true rfl) (c_of9 (by omega) (by decide) rfl) ?_
    exact zi_iret dX7_paper_61 rfl (by rfl) (by rfl)
  · first | exact absurd a1 h10 | exact absurd h10 a1
set_option maxHeartbeats 4000000 in
set_option maxRecDepth 100000 in
theorem m_paper_1 (h0 : Z 165 0 = nI 0) (hn : Z 169 0 = nI n) (h6 : n ≤ 6) {p : Nat} (hp : p < n) : zCT E 2 zm_X7_paper [.ref (zad E 165), .int (nI p), .int (nI 1)] (Q, Z) (some (.int (Z 169 (6 + 5 * p + 2)))) (Q, Z) := by
  refine zCT.of (by decide +kernel) (Nat.le_of_ble_eq_true rfl) ?_
  have a1 := zisP hn h6 hp
  refine zi_aload0 (n := 1) dX7_paper_0 rfl ?_
  refine zi_iconst (n := 2) (nI 0) dX7_paper_1 rfl (by decide) ?_
  refine zp_X7_0 (n := 5) dX7_paper_2 rfl zl_X7_44 (zt0 h0) ?_
  refine zi_aload0 (n := 6) dX7_paper_5 rfl ?_
  refine zi_iload1 (n := 7) dX7_paper_6 rfl ?_
  refine zi_V1s (mj := zm_X7_isPaper) (n := 10) dX7_paper_7 rfl zl_X7_180 zy_X7_isPaper (zrc_X7 _ _) (by decide) (Nat.le_of_ble_eq_true rfl) (c_X7_isPaper) ?_
  refine zi_ifne_b (n := 13) (tgt := 16) dX7_paper_10 rfl (by decide) (fun h10 => ?_) (fun h10 => ?_)
  · refine zi_iload2 (n := 17) dX7_paper_16 rfl ?_
    refine zi_tableIn (tgt := 62) dX7_paper_17 (by decide) (by decide) rfl (by decide) ?_
    refine zi_aload0 (n := 63) dX7_paper_62 rfl ?_
    refine zg_X7_5 (n := 66) dX7_paper_63 rfl zl_X7_19 ?_
    refine zi_iload1 (n := 67) dX7_paper_66 rfl ?_
    refine zi_iconst (n := 68) (nI 2) dX7_paper_67 rfl (by decide) ?_
    refine zi_S3s (mj := zm_X7_of) (n := 71) dX7_paper_68 rfl zl_X7_146 zy_X7_of (by decide) (Nat.le_of_ble_eq_true rfl) (c_of9 (by omega) (by decide) rfl) ?_
    exact zi_iret dX7_paper_71 rfl (by rfl) (by rfl)
  · first | exact absurd a1 h10 | exact absurd h10 a1
set_option maxHeartbeats 4000000 in
set_option maxRecDepth 100000 in
theorem m_paper_2 (h0 : Z 165 0 = nI 0) (hn : Z 169 0 = nI n) (h6 : n ≤ 6) {p : Nat} (hp : p < n) : zCT E 2 zm_X7_paper [.ref (zad E 165), .int (nI p), .int (nI 2)] (Q, Z) (some (.int (Z 169 (6 + 5 * p + 3)))) (Q, Z) := by
  refine zCT.of (by decide +kernel) (Nat.le_of_ble_eq_true rfl) ?_
  have a1 := zisP hn h6 hp
  refine zi_aload0 (n := 1) dX7_paper_0 rfl ?_
  refine zi_iconst (n := 2) (nI 0) dX7_paper_1 rfl (by decide) ?_
  refine zp_X7_0 (n := 5) dX7_paper_2 rfl zl_X7_44 (zt0 h0) ?_
  refine zi_aload0 (n := 6) dX7_paper_5 rfl ?_
  refine zi_iload1 (n := 7) dX7_paper_6 rfl ?_
  refine zi_V1s (mj := zm_X7_isPaper) (n := 10) dX7_paper_7 rfl zl_X7_180 zy_X7_isPaper (zrc_X7 _ _) (by decide) (Nat.le_of_ble_eq_true rfl) (c_X7_isPaper) ?_
  refine zi_ifne_b (n := 13) (tgt := 16) dX7_paper_10 rfl (by decide) (fun h10 => ?_) (fun h10 => ?_)
  · refine zi_iload2 (n := 17) dX7_paper_16 rfl ?_
    refine zi_tableIn (tgt := 72) dX7_paper_17 (by decide) (by decide) rfl (by decide) ?_
    refine zi_aload0 (n := 73) dX7_paper_72 rfl ?_
    refine zg_X7_5 (n := 76) dX7_paper_73 rfl zl_X7_19 ?_
    refine zi_iload1 (n := 77) dX7_paper_76 rfl ?_
    refine zi_iconst (n := 78) (nI 3) dX7_paper_77 rfl (by decide) ?_
    refine zi_S3s (mj := zm_X7_of) (n := 81) dX7_paper_78 rfl zl_X7_146 zy_X7_of (by decide) (Nat.le_of_ble_eq_true rfl) (c_of9 (by omega) (by decide) rfl) ?_
    exact zi_iret dX7_paper_81 rfl (by rfl) (by rfl)
  · first | exact absurd a1 h10 | exact absurd h10 a1
set_option maxHeartbeats 4000000 in
set_option maxRecDepth 100000 in
theorem m_paper_3 (h0 : Z 165 0 = nI 0) (hn : Z 169 0 = nI n) (h6 : n ≤ 6) {p : Nat} (hp : p < n) : zCT E 2 zm_X7_paper [.ref (zad E 165), .int (nI p), .int (nI 3)] (Q, Z) (some (.int (nearM (Z 169) p))) (Q, Z) := by
  refine zCT.of (by decide +kernel) (Nat.le_of_ble_eq_true rfl) ?_
  have a1 := zisP hn h6 hp
  refine zi_aload0 (n := 1) dX7_paper_0 rfl ?_
  refine zi_iconst (n := 2) (nI 0) dX7_paper_1 rfl (by decide) ?_
  refine zp_X7_0 (n := 5) dX7_paper_2 rfl zl_X7_44 (zt0 h0) ?_
  refine zi_aload0 (n := 6) dX7_paper_5 rfl ?_
  refine zi_iload1 (n := 7) dX7_paper_6 rfl ?_
  refine zi_V1s (mj := zm_X7_isPaper) (n := 10) dX7_paper_7 rfl zl_X7_180 zy_X7_isPaper (zrc_X7 _ _) (by decide) (Nat.le_of_ble_eq_true rfl) (c_X7_isPaper) ?_
  refine zi_ifne_b (n := 13) (tgt := 16) dX7_paper_10 rfl (by decide) (fun h10 => ?_) (fun h10 => ?_)
  · refine zi_iload2 (n := 17) dX7_paper_16 rfl ?_
    refine zi_tableIn (tgt := 82) dX7_paper_17 (by decide) (by decide) rfl (by decide) ?_
    refine zi_aload0 (n := 83) dX7_paper_82 rfl ?_
    refine zg_X7_5 (n := 86) dX7_paper_83 rfl zl_X7_19 ?_
    refine zi_iload1 (n := 87) dX7_paper_86 rfl ?_
    refine zi_S2s (mj := zm_X7_nearOf) (n := 90) dX7_paper_87 rfl zl_X7_150 zy_X7_nearOf (by decide) (Nat.le_of_ble_eq_true rfl) (zrq (a := 169) (c_X7_nearOf (Or.inl rfl) (by omega))) ?_
    exact zi_iret dX7_paper_90 rfl (by rfl) (by rfl)
  · first | exact absurd a1 h10 | exact absurd h10 a1
set_option maxHeartbeats 4000000 in
set_option maxRecDepth 100000 in
theorem m_paper_4 (h0 : Z 165 0 = nI 0) (hn : Z 169 0 = nI n) (h6 : n ≤ 6) {p : Nat} (hp : p < n) : zCT E 2 zm_X7_paper [.ref (zad E 165), .int (nI p), .int (nI 4)] (Q, Z) (some (.int (Z 169 (6 + 5 * p + 4)))) (Q, Z) := by
  refine zCT.of (by decide +kernel) (Nat.le_of_ble_eq_true rfl) ?_
  have a1 := zisP hn h6 hp
  refine zi_aload0 (n := 1) dX7_paper_0 rfl ?_
  refine zi_iconst (n := 2) (nI 0) dX7_paper_1 rfl (by decide) ?_
  refine zp_X7_0 (n := 5) dX7_paper_2 rfl zl_X7_44 (zt0 h0) ?_
  refine zi_aload0 (n := 6) dX7_paper_5 rfl ?_
  refine zi_iload1 (n := 7) dX7_paper_6 rfl ?_
  refine zi_V1s (mj := zm_X7_isPaper) (n := 10) dX7_paper_7 rfl zl_X7_180 zy_X7_isPaper (zrc_X7 _ _) (by decide) (Nat.le_of_ble_eq_true rfl) (c_X7_isPaper) ?_
  refine zi_ifne_b (n := 13) (tgt := 16) dX7_paper_10 rfl (by decide) (fun h10 => ?_) (fun h10 => ?_)
  · refine zi_iload2 (n := 17) dX7_paper_16 rfl ?_
    refine zi_tableIn (tgt := 91) dX7_paper_17 (by decide) (by decide) rfl (by decide) ?_
    refine zi_aload0 (n := 92) dX7_paper_91 rfl ?_
    refine zg_X7_5 (n := 95) dX7_paper_92 rfl zl_X7_19 ?_
    refine zi_iload1 (n := 96) dX7_paper_95 rfl ?_
    refine zi_iconst (n := 97) (nI 4) dX7_paper_96 rfl (by decide) ?_
    refine zi_S3s (mj := zm_X7_of) (n := 100) dX7_paper_97 rfl zl_X7_146 zy_X7_of (by decide) (Nat.le_of_ble_eq_true rfl) (c_of9 (by omega) (by decide) rfl) ?_
    exact zi_iret dX7_paper_100 rfl (by rfl) (by rfl)
  · first | exact absurd a1 h10 | exact absurd h10 a1
set_option maxHeartbeats 4000000 in
set_option maxRecDepth 100000 in
theorem m_stand_state (h0 : Z 165 0 = nI 0) {x : Int32} (hz : Z 169 0 ≤ 0) : zCT E 3 zm_X7_stand [.ref (zad E 165), .int x] (Q, Z) (some (.int zSTATE)) (Q, Z) := by
  refine zCT.of (by decide +kernel) (Nat.le_of_ble_eq_true rfl) ?_
  refine zi_aload0 (n := 1) dX7_stand_0 rfl ?_
  refine zi_iconst (n := 2) (nI 0) dX7_stand_1 rfl (by decide) ?_
  refine zp_X7_0 (n := 5) dX7_stand_2 rfl zl_X7_44 (zt0 h0) ?_
  refine zi_aload0 (n := 6) dX7_stand_5 rfl ?_
  refine zi_V0s (mj := zm_X7_isThere) (n := 9) dX7_stand_6 rfl zl_X7_171 zy_X7_isThere (zrc_X7 _ _) (by decide) (Nat.le_of_ble_eq_true rfl) (c_X7_isThere) ?_
  refine zi_ifne_b (n := 12) (tgt := 15) dX7_stand_9 rfl (by decide) (fun h9 => ?_) (fun h9 => ?_)
  · first | exact absurd (fun q => q hz : ¬ ¬ Z 169 0 ≤ 0) h9 | exact absurd h9 (fun q => q hz : ¬ ¬ Z 169 0 ≤ 0)
  · refine zi_ldc (n := 14) dX7_stand_12 rfl zl_X7_174 ?_
    exact zi_iret dX7_stand_14 rfl (by rfl) (by rfl)
set_option maxHeartbeats 4000000 in
set_option maxRecDepth 100000 in
theorem m_stand_what (h0 : Z 165 0 = nI 0) {y : Int32} (hz : ¬ Z 169 0 ≤ 0) (hy : y.toInt < 0 ∨ 6 < y.toInt) : zCT E 3 zm_X7_stand [.ref (zad E 165), .int y] (Q, Z) (some (.int zBAD)) (Q, Z) := by
  refine zCT.of (by decide +kernel) (Nat.le_of_ble_eq_true rfl) ?_
  refine zi_aload0 (n := 1) dX7_stand_0 rfl ?_
  refine zi_iconst (n := 2) (nI 0) dX7_stand_1 rfl (by decide) ?_
  refine zp_X7_0 (n := 5) dX7_stand_2 rfl zl_X7_44 (zt0 h0) ?_
  refine zi_aload0 (n := 6) dX7_stand_5 rfl ?_
  refine zi_V0s (mj := zm_X7_isThere) (n := 9) dX7_stand_6 rfl zl_X7_171 zy_X7_isThere (zrc_X7 _ _) (by decide) (Nat.le_of_ble_eq_true rfl) (c_X7_isThere) ?_
  refine zi_ifne_b (n := 12) (tgt := 15) dX7_stand_9 rfl (by decide) (fun h9 => ?_) (fun h9 => ?_)
  · refine zi_iload1 (n := 16) dX7_stand_15 rfl ?_
    refine zi_tableOut (tgt := 91) dX7_stand_16 hy (by decide) ?_
    refine zi_ldc (n := 93) dX7_stand_91 rfl zl_X7_64 ?_
    exact zi_iret dX7_stand_93 rfl (by rfl) (by rfl)
  · first | exact absurd hz h9 | exact absurd h9 hz
set_option maxHeartbeats 4000000 in
set_option maxRecDepth 100000 in
theorem m_stand_0 (h0 : Z 165 0 = nI 0) (hn : Z 169 0 = nI n) (h6 : n ≤ 6) (hz : ¬ Z 169 0 ≤ 0) : zCT E 3 zm_X7_stand [.ref (zad E 165), .int (nI 0)] (Q, Z) (some (.int (Z 169 0))) (Q, Z) := by
  refine zCT.of (by decide +kernel) (Nat.le_of_ble_eq_true rfl) ?_
  refine zi_aload0 (n := 1) dX7_stand_0 rfl ?_
  refine zi_iconst (n := 2) (nI 0) dX7_stand_1 rfl (by decide) ?_
  refine zp_X7_0 (n := 5) dX7_stand_2 rfl zl_X7_44 (zt0 h0) ?_
  refine zi_aload0 (n := 6) dX7_stand_5 rfl ?_
  refine zi_V0s (mj := zm_X7_isThere) (n := 9) dX7_stand_6 rfl zl_X7_171 zy_X7_isThere (zrc_X7 _ _) (by decide) (Nat.le_of_ble_eq_true rfl) (c_X7_isThere) ?_
  refine zi_ifne_b (n := 12) (tgt := 15) dX7_stand_9 rfl (by decide) (fun h9 => ?_) (fun h9 => ?_)
  · refine zi_iload1 (n := 16) dX7_stand_15 rfl ?_
    refine zi_tableIn (tgt := 60) dX7_stand_16 (by decide) (by decide) rfl (by decide) ?_
    refine zi_aload0 (n := 61) dX7_stand_60 rfl ?_
    refine zg_X7_5 (n := 64) dX7_stand_61 rfl zl_X7_19 ?_
    refine zi_iload1 (n := 65) dX7_stand_64 rfl ?_
    refine zi_oald (N := 36) (n := 66) dX7_stand_65 rfl (by decide) (fun _ => rfl) (by decide) rfl (by omega) rfl ?_
    exact zi_iret dX7_stand_66 rfl (by rfl) (by rfl)
  · first | exact absurd hz h9 | exact absurd h9 hz
set_option maxHeartbeats 4000000 in
set_option maxRecDepth 100000 in
theorem m_stand_1 (h0 : Z 165 0 = nI 0) (hn : Z 169 0 = nI n) (h6 : n ≤ 6) (hz : ¬ Z 169 0 ≤ 0) : zCT E 3 zm_X7_stand [.ref (zad E 165), .int (nI 1)] (Q, Z) (some (.int (Z 169 1))) (Q, Z) := by
  refine zCT.of (by decide +kernel) (Nat.le_of_ble_eq_true rfl) ?_
  refine zi_aload0 (n := 1) dX7_stand_0 rfl ?_
  refine zi_iconst (n := 2) (nI 0) dX7_stand_1 rfl (by decide) ?_
  refine zp_X7_0 (n := 5) dX7_stand_2 rfl zl_X7_44 (zt0 h0) ?_
  refine zi_aload0 (n := 6) dX7_stand_5 rfl ?_
  refine zi_V0s (mj := zm_X7_isThere) (n := 9) dX7_stand_6 rfl zl_X7_171 zy_X7_isThere (zrc_X7 _ _) (by decide) (Nat.le_of_ble_eq_true rfl) (c_X7_isThere) ?_
  refine zi_ifne_b (n := 12) (tgt := 15) dX7_stand_9 rfl (by decide) (fun h9 => ?_) (fun h9 => ?_)
  · refine zi_iload1 (n := 16) dX7_stand_15 rfl ?_
    refine zi_tableIn (tgt := 60) dX7_stand_16 (by decide) (by decide) rfl (by decide) ?_
    refine zi_aload0 (n := 61) dX7_stand_60 rfl ?_
    refine zg_X7_5 (n := 64) dX7_stand_61 rfl zl_X7_19 ?_
    refine zi_iload1 (n := 65) dX7_stand_64 rfl ?_
    refine zi_oald (N := 36) (n := 66) dX7_stand_65 rfl (by decide) (fun _ => rfl) (by decide) rfl (by omega) rfl ?_
    exact zi_iret dX7_stand_66 rfl (by rfl) (by rfl)
  · first | exact absurd hz h9 | exact absurd h9 hz
set_option maxHeartbeats 4000000 in
set_option maxRecDepth 100000 in
theorem m_stand_2 (h0 : Z 165 0 = nI 0) (hn : Z 169 0 = nI n) (h6 : n ≤ 6) (hz : ¬ Z 169 0 ≤ 0) : zCT E 3 zm_X7_stand [.ref (zad E 165), .int (nI 2)] (Q, Z) (some (.int (Z 169 2))) (Q, Z) := by
  refine zCT.of (by decide +kernel) (Nat.le_of_ble_eq_true rfl) ?_
  refine zi_aload0 (n := 1) dX7_stand_0 rfl ?_
  refine zi_iconst (n := 2) (nI 0) dX7_stand_1 rfl (by decide) ?_
  refine zp_X7_0 (n := 5) dX7_stand_2 rfl zl_X7_44 (zt0 h0) ?_
  refine zi_aload0 (n := 6) dX7_stand_5 rfl ?_
  refine zi_V0s (mj := zm_X7_isThere) (n := 9) dX7_stand_6 rfl zl_X7_171 zy_X7_isThere (zrc_X7 _ _) (by decide) (Nat.le_of_ble_eq_true rfl) (c_X7_isThere) ?_
  refine zi_ifne_b (n := 12) (tgt := 15) dX7_stand_9 rfl (by decide) (fun h9 => ?_) (fun h9 => ?_)
  · refine zi_iload1 (n := 16) dX7_stand_15 rfl ?_
    refine zi_tableIn (tgt := 60) dX7_stand_16 (by decide) (by decide) rfl (by decide) ?_
    refine zi_aload0 (n := 61) dX7_stand_60 rfl ?_
    refine zg_X7_5 (n := 64) dX7_stand_61 rfl zl_X7_19 ?_
    refine zi_iload1 (n := 65) dX7_stand_64 rfl ?_
    refine zi_oald (N := 36) (n := 66) dX7_stand_65 rfl (by decide) (fun _ => rfl) (by decide) rfl (by omega) rfl ?_
    exact zi_iret dX7_stand_66 rfl (by rfl) (by rfl)
  · first | exact absurd hz h9 | exact absurd h9 hz
set_option maxHeartbeats 4000000 in
set_option maxRecDepth 100000 in
theorem m_stand_3 (h0 : Z 165 0 = nI 0) (hn : Z 169 0 = nI n) (h6 : n ≤ 6) (hz : ¬ Z 169 0 ≤ 0) : zCT E 3 zm_X7_stand [.ref (zad E 165), .int (nI 3)] (Q, Z) (some (.int (Z 169 3))) (Q, Z) := by
  refine zCT.of (by decide +kernel) (Nat.le_of_ble_eq_true rfl) ?_
  refine zi_aload0 (n := 1) dX7_stand_0 rfl ?_
  refine zi_iconst (n := 2) (nI 0) dX7_stand_1 rfl (by decide) ?_
  refine zp_X7_0 (n := 5) dX7_stand_2 rfl zl_X7_44 (zt0 h0) ?_
  refine zi_aload0 (n := 6) dX7_stand_5 rfl ?_
  refine zi_V0s (mj := zm_X7_isThere) (n := 9) dX7_stand_6 rfl zl_X7_171 zy_X7_isThere (zrc_X7 _ _) (by decide) (Nat.le_of_ble_eq_true rfl) (c_X7_isThere) ?_
  refine zi_ifne_b (n := 12) (tgt := 15) dX7_stand_9 rfl (by decide) (fun h9 => ?_) (fun h9 => ?_)
  · refine zi_iload1 (n := 16) dX7_stand_15 rfl ?_
    refine zi_tableIn (tgt := 60) dX7_stand_16 (by decide) (by decide) rfl (by decide) ?_
    refine zi_aload0 (n := 61) dX7_stand_60 rfl ?_
    refine zg_X7_5 (n := 64) dX7_stand_61 rfl zl_X7_19 ?_
    refine zi_iload1 (n := 65) dX7_stand_64 rfl ?_
    refine zi_oald (N := 36) (n := 66) dX7_stand_65 rfl (by decide) (fun _ => rfl) (by decide) rfl (by omega) rfl ?_
    exact zi_iret dX7_stand_66 rfl (by rfl) (by rfl)
  · first | exact absurd hz h9 | exact absurd h9 hz
set_option maxHeartbeats 4000000 in
set_option maxRecDepth 100000 in
theorem m_stand_4 (h0 : Z 165 0 = nI 0) (hn : Z 169 0 = nI n) (h6 : n ≤ 6) (hz : ¬ Z 169 0 ≤ 0) : zCT E 3 zm_X7_stand [.ref (zad E 165), .int (nI 4)] (Q, Z) (some (.int (zbM (fun p => decide (Z 169 (6 + 5 * p + 3) = 0)) n))) (Q, Z) := by
  refine zCT.of (by decide +kernel) (Nat.le_of_ble_eq_true rfl) ?_
  refine zi_aload0 (n := 1) dX7_stand_0 rfl ?_
  refine zi_iconst (n := 2) (nI 0) dX7_stand_1 rfl (by decide) ?_
  refine zp_X7_0 (n := 5) dX7_stand_2 rfl zl_X7_44 (zt0 h0) ?_
  refine zi_aload0 (n := 6) dX7_stand_5 rfl ?_
  refine zi_V0s (mj := zm_X7_isThere) (n := 9) dX7_stand_6 rfl zl_X7_171 zy_X7_isThere (zrc_X7 _ _) (by decide) (Nat.le_of_ble_eq_true rfl) (c_X7_isThere) ?_
  refine zi_ifne_b (n := 12) (tgt := 15) dX7_stand_9 rfl (by decide) (fun h9 => ?_) (fun h9 => ?_)
  · refine zi_iload1 (n := 16) dX7_stand_15 rfl ?_
    refine zi_tableIn (tgt := 67) dX7_stand_16 (by decide) (by decide) rfl (by decide) ?_
    refine zi_aload0 (n := 68) dX7_stand_67 rfl ?_
    refine zg_X7_5 (n := 71) dX7_stand_68 rfl zl_X7_19 ?_
    refine zi_S1s (mj := zm_X7_nameless) (n := 74) dX7_stand_71 rfl zl_X7_185 zy_X7_nameless (by decide) (Nat.le_of_ble_eq_true rfl) (zrq (a := 169) (c_X7_nameless (Or.inl rfl) hn h6)) ?_
    exact zi_iret dX7_stand_74 rfl (by rfl) (by rfl)
  · first | exact absurd hz h9 | exact absurd h9 hz
set_option maxHeartbeats 4000000 in
set_option maxRecDepth 100000 in
theorem m_stand_5 (h0 : Z 165 0 = nI 0) (hn : Z 169 0 = nI n) (h6 : n ≤ 6) (hz : ¬ Z 169 0 ≤ 0) : zCT E 3 zm_X7_stand [.ref (zad E 165), .int (nI 5)] (Q, Z) (some (.int (zbM (fun p => decide (Z 169 (6 + 5 * p + 4) = nI 1)) n))) (Q, Z) := by
  refine zCT.of (by decide +kernel) (Nat.le_of_ble_eq_true rfl) ?_
  refine zi_aload0 (n := 1) dX7_stand_0 rfl ?_
  refine zi_iconst (n := 2) (nI 0) dX7_stand_1 rfl (by decide) ?_
  refine zp_X7_0 (n := 5) dX7_stand_2 rfl zl_X7_44 (zt0 h0) ?_
  refine zi_aload0 (n := 6) dX7_stand_5 rfl ?_
  refine zi_V0s (mj := zm_X7_isThere) (n := 9) dX7_stand_6 rfl zl_X7_171 zy_X7_isThere (zrc_X7 _ _) (by decide) (Nat.le_of_ble_eq_true rfl) (c_X7_isThere) ?_
  refine zi_ifne_b (n := 12) (tgt := 15) dX7_stand_9 rfl (by decide) (fun h9 => ?_) (fun h9 => ?_)
  · refine zi_iload1 (n := 16) dX7_stand_15 rfl ?_
    refine zi_tableIn (tgt := 75) dX7_stand_16 (by decide) (by decide) rfl (by decide) ?_
    refine zi_aload0 (n := 76) dX7_stand_75 rfl ?_
    refine zg_X7_5 (n := 79) dX7_stand_76 rfl zl_X7_19 ?_
    refine zi_S1s (mj := zm_X7_hiddenOf) (n := 82) dX7_stand_79 rfl zl_X7_188 zy_X7_hiddenOf (by decide) (Nat.le_of_ble_eq_true rfl) (zrq (a := 169) (c_X7_hiddenOf (Or.inl rfl) hn h6)) ?_
    exact zi_iret dX7_stand_82 rfl (by rfl) (by rfl)
  · first | exact absurd hz h9 | exact absurd h9 hz
set_option maxHeartbeats 4000000 in
set_option maxRecDepth 100000 in
theorem m_stand_6 (h0 : Z 165 0 = nI 0) (hn : Z 169 0 = nI n) (h6 : n ≤ 6) (hz : ¬ Z 169 0 ≤ 0) : zCT E 3 zm_X7_stand [.ref (zad E 165), .int (nI 6)] (Q, Z) (some (.int (encO (nextM (Z 169) n)))) (Q, Z) := by
  refine zCT.of (by decide +kernel) (Nat.le_of_ble_eq_true rfl) ?_
  refine zi_aload0 (n := 1) dX7_stand_0 rfl ?_
  refine zi_iconst (n := 2) (nI 0) dX7_stand_1 rfl (by decide) ?_
  refine zp_X7_0 (n := 5) dX7_stand_2 rfl zl_X7_44 (zt0 h0) ?_
  refine zi_aload0 (n := 6) dX7_stand_5 rfl ?_
  refine zi_V0s (mj := zm_X7_isThere) (n := 9) dX7_stand_6 rfl zl_X7_171 zy_X7_isThere (zrc_X7 _ _) (by decide) (Nat.le_of_ble_eq_true rfl) (c_X7_isThere) ?_
  refine zi_ifne_b (n := 12) (tgt := 15) dX7_stand_9 rfl (by decide) (fun h9 => ?_) (fun h9 => ?_)
  · refine zi_iload1 (n := 16) dX7_stand_15 rfl ?_
    refine zi_tableIn (tgt := 83) dX7_stand_16 (by decide) (by decide) rfl (by decide) ?_
    refine zi_aload0 (n := 84) dX7_stand_83 rfl ?_
    refine zg_X7_5 (n := 87) dX7_stand_84 rfl zl_X7_19 ?_
    refine zi_S1s (mj := zm_X7_nextOf) (n := 90) dX7_stand_87 rfl zl_X7_161 zy_X7_nextOf (by decide) (Nat.le_of_ble_eq_true rfl) (zrq (a := 169) (c_X7_nextOf (Or.inl rfl) hn h6)) ?_
    exact zi_iret dX7_stand_90 rfl (by rfl) (by rfl)
  · first | exact absurd hz h9 | exact absurd h9 hz
set_option maxHeartbeats 4000000 in
set_option maxRecDepth 100000 in
theorem m_kind_bad (h0 : Z 165 0 = nI 0) {x : Int32} (hb : ¬ (nI 0 ≤ x ∧ x ≤ Z 169 0 - nI 1)) : zCT E 2 zm_X7_kind [.ref (zad E 165), .int x] (Q, Z) (some (.int zBAD)) (Q, Z) := by
  refine zCT.of (by decide +kernel) (Nat.le_of_ble_eq_true rfl) ?_
  refine zi_aload0 (n := 1) dX7_kind_0 rfl ?_
  refine zi_iconst (n := 2) (nI 0) dX7_kind_1 rfl (by decide) ?_
  refine zp_X7_0 (n := 5) dX7_kind_2 rfl zl_X7_44 (zt0 h0) ?_
  refine zi_aload0 (n := 6) dX7_kind_5 rfl ?_
  refine zi_iload1 (n := 7) dX7_kind_6 rfl ?_
  refine zi_V1s (mj := zm_X7_isPaper) (n := 10) dX7_kind_7 rfl zl_X7_180 zy_X7_isPaper (zrc_X7 _ _) (by decide) (Nat.le_of_ble_eq_true rfl) (c_X7_isPaper) ?_
  refine zi_ifeq_b (n := 13) (tgt := 25) dX7_kind_10 rfl (by decide) (fun h10 => ?_) (fun h10 => ?_)
  · refine zi_ldc (n := 27) dX7_kind_25 rfl zl_X7_64 ?_
    exact zi_iret dX7_kind_27 rfl (by rfl) (by rfl)
  · first | exact absurd hb h10 | exact absurd h10 hb
set_option maxHeartbeats 4000000 in
set_option maxRecDepth 100000 in
theorem m_kind_ok (h0 : Z 165 0 = nI 0) (hn : Z 169 0 = nI n) (h6 : n ≤ 6) {p : Nat} (hp : p < n) : zCT E 2 zm_X7_kind [.ref (zad E 165), .int (nI p)] (Q, Z) (some (.int (Z 169 (6 + 5 * p)))) (Q, Z) := by
  refine zCT.of (by decide +kernel) (Nat.le_of_ble_eq_true rfl) ?_
  have a1 := zisP hn h6 hp
  refine zi_aload0 (n := 1) dX7_kind_0 rfl ?_
  refine zi_iconst (n := 2) (nI 0) dX7_kind_1 rfl (by decide) ?_
  refine zp_X7_0 (n := 5) dX7_kind_2 rfl zl_X7_44 (zt0 h0) ?_
  refine zi_aload0 (n := 6) dX7_kind_5 rfl ?_
  refine zi_iload1 (n := 7) dX7_kind_6 rfl ?_
  refine zi_V1s (mj := zm_X7_isPaper) (n := 10) dX7_kind_7 rfl zl_X7_180 zy_X7_isPaper (zrc_X7 _ _) (by decide) (Nat.le_of_ble_eq_true rfl) (c_X7_isPaper) ?_
  refine zi_ifeq_b (n := 13) (tgt := 25) dX7_kind_10 rfl (by decide) (fun h10 => ?_) (fun h10 => ?_)
  · first | exact absurd a1 h10 | exact absurd h10 a1
  · refine zi_aload0 (n := 14) dX7_kind_13 rfl ?_
    refine zg_X7_5 (n := 17) dX7_kind_14 rfl zl_X7_19 ?_
    refine zi_iload1 (n := 18) dX7_kind_17 rfl ?_
    refine zi_iconst (n := 19) (nI 0) dX7_kind_18 rfl (by decide) ?_
    refine zi_S3s (mj := zm_X7_of) (n := 22) dX7_kind_19 rfl zl_X7_146 zy_X7_of (by decide) (Nat.le_of_ble_eq_true rfl) (c_of9 (by omega) (by decide) rfl) ?_
    refine zi_goto (tgt := 27) dX7_kind_22 (by decide) ?_
    exact zi_iret dX7_kind_27 rfl (by rfl) (by rfl)
set_option maxHeartbeats 4000000 in
set_option maxRecDepth 100000 in
theorem c_X7_isOf {x y : Int32} : zCT E 0 zm_X7_isOf [.int x, .int y] M (some (.int (zb (y = 0 ∨ x = y ∨ (y = nI 1 ∧ x < nI 4) ∨ (y = nI 4 ∧ x = nI 5))))) M := by
  refine zCT.of (by decide +kernel) (Nat.le_of_ble_eq_true rfl) ?_
  refine zi_iload1 (n := 1) dX7_isOf_0 rfl ?_
  refine zi_ifeq (n := 4) (tgt := 29) dX7_isOf_1 rfl (by decide) (fun h1 => ?_) (fun h1 => ?_)
  · refine zi_iconst (n := 30) (nI 1) dX7_isOf_29 rfl (by decide) ?_
    refine zi_goto (tgt := 34) dX7_isOf_30 (by decide) ?_
    exact zi_zretT dX7_isOf_34 rfl (by first | exact Or.inl h1 | exact Or.inr (Or.inl h6) | exact Or.inr (Or.inr (Or.inl ⟨h11, h16⟩)) | exact Or.inr (Or.inr (Or.inr ⟨h21, h26⟩))) rfl (by rfl)
  · refine zi_iload0 (n := 5) dX7_isOf_4 rfl ?_
    refine zi_iload1 (n := 6) dX7_isOf_5 rfl ?_
    refine zi_iceq (n := 9) (tgt := 29) dX7_isOf_6 rfl (by decide) (fun h6 => ?_) (fun h6 => ?_)
    · refine zi_iconst (n := 30) (nI 1) dX7_isOf_29 rfl (by decide) ?_
      refine zi_goto (tgt := 34) dX7_isOf_30 (by decide) ?_
      exact zi_zretT dX7_isOf_34 rfl (by first | exact Or.inl h1 | exact Or.inr (Or.inl h6) | exact Or.inr (Or.inr (Or.inl ⟨h11, h16⟩)) | exact Or.inr (Or.inr (Or.inr ⟨h21, h26⟩))) rfl (by rfl)
    · refine zi_iload1 (n := 10) dX7_isOf_9 rfl ?_
      refine zi_iconst (n := 11) (nI 1) dX7_isOf_10 rfl (by decide) ?_
      refine zi_icne (n := 14) (tgt := 19) dX7_isOf_11 rfl (by decide) (fun h11 => ?_) (fun h11 => ?_)
      · refine zi_iload1 (n := 20) dX7_isOf_19 rfl ?_
        refine zi_iconst (n := 21) (nI 4) dX7_isOf_20 rfl (by decide) ?_
        refine zi_icne (n := 24) (tgt := 33) dX7_isOf_21 rfl (by decide) (fun h21 => ?_) (fun h21 => ?_)
        · refine zi_iconst (n := 34) (nI 0) dX7_isOf_33 rfl (by decide) ?_
          exact zi_zretF dX7_isOf_34 rfl (by rintro (q | q | q | q) <;> first | exact absurd q (by assumption) | exact absurd q.1 (by assumption) | exact absurd q.2 (by assumption)) rfl (by rfl)
        · refine zi_iload0 (n := 25) dX7_isOf_24 rfl ?_
          refine zi_iconst (n := 26) (nI 5) dX7_isOf_25 rfl (by decide) ?_
          refine zi_icne (n := 29) (tgt := 33) dX7_isOf_26 rfl (by decide) (fun h26 => ?_) (fun h26 => ?_)
          · refine zi_iconst (n := 34) (nI 0) dX7_isOf_33 rfl (by decide) ?_
            exact zi_zretF dX7_isOf_34 rfl (by rintro (q | q | q | q) <;> first | exact absurd q (by assumption) | exact absurd q.1 (by assumption) | exact absurd q.2 (by assumption)) rfl (by rfl)
          · refine zi_iconst (n := 30) (nI 1) dX7_isOf_29 rfl (by decide) ?_
            refine zi_goto (tgt := 34) dX7_isOf_30 (by decide) ?_
            exact zi_zretT dX7_isOf_34 rfl (by first | exact Or.inl h1 | exact Or.inr (Or.inl h6) | exact Or.inr (Or.inr (Or.inl ⟨h11, h16⟩)) | exact Or.inr (Or.inr (Or.inr ⟨h21, h26⟩))) rfl (by rfl)
      · refine zi_iload0 (n := 15) dX7_isOf_14 rfl ?_
        refine zi_iconst (n := 16) (nI 4) dX7_isOf_15 rfl (by decide) ?_
        refine zi_iclt (n := 19) (tgt := 29) dX7_isOf_16 rfl (by decide) (fun h16 => ?_) (fun h16 => ?_)
        · refine zi_iconst (n := 30) (nI 1) dX7_isOf_29 rfl (by decide) ?_
          refine zi_goto (tgt := 34) dX7_isOf_30 (by decide) ?_
          exact zi_zretT dX7_isOf_34 rfl (by first | exact Or.inl h1 | exact Or.inr (Or.inl h6) | exact Or.inr (Or.inr (Or.inl ⟨h11, h16⟩)) | exact Or.inr (Or.inr (Or.inr ⟨h21, h26⟩))) rfl (by rfl)
        · refine zi_iload1 (n := 20) dX7_isOf_19 rfl ?_
          refine zi_iconst (n := 21) (nI 4) dX7_isOf_20 rfl (by decide) ?_
          refine zi_icne (n := 24) (tgt := 33) dX7_isOf_21 rfl (by decide) (fun h21 => ?_) (fun h21 => ?_)
          · refine zi_iconst (n := 34) (nI 0) dX7_isOf_33 rfl (by decide) ?_
            exact zi_zretF dX7_isOf_34 rfl (by rintro (q | q | q | q) <;> first | exact absurd q (by assumption) | exact absurd q.1 (by assumption) | exact absurd q.2 (by assumption)) rfl (by rfl)
          · refine zi_iload0 (n := 25) dX7_isOf_24 rfl ?_
            refine zi_iconst (n := 26) (nI 5) dX7_isOf_25 rfl (by decide) ?_
            refine zi_icne (n := 29) (tgt := 33) dX7_isOf_26 rfl (by decide) (fun h26 => ?_) (fun h26 => ?_)
            · refine zi_iconst (n := 34) (nI 0) dX7_isOf_33 rfl (by decide) ?_
              exact zi_zretF dX7_isOf_34 rfl (by rintro (q | q | q | q) <;> first | exact absurd q (by assumption) | exact absurd q.1 (by assumption) | exact absurd q.2 (by assumption)) rfl (by rfl)
            · refine zi_iconst (n := 30) (nI 1) dX7_isOf_29 rfl (by decide) ?_
              refine zi_goto (tgt := 34) dX7_isOf_30 (by decide) ?_
              exact zi_zretT dX7_isOf_34 rfl (by first | exact Or.inl h1 | exact Or.inr (Or.inl h6) | exact Or.inr (Or.inr (Or.inl ⟨h11, h16⟩)) | exact Or.inr (Or.inr (Or.inr ⟨h21, h26⟩))) rfl (by rfl)
set_option maxHeartbeats 4000000 in
set_option maxRecDepth 100000 in
theorem m_as_bad (h0 : Z 165 0 = nI 0) {x y : Int32} (hb : ¬ ((nI 0 ≤ x ∧ x ≤ Z 169 0 - nI 1) ∧ (nI 0 ≤ y ∧ y ≤ nI 5))) : zCT E 2 zm_X7_as [.ref (zad E 165), .int x, .int y] (Q, Z) (some (.int zBAD)) (Q, Z) := by
  refine zCT.of (by decide +kernel) (Nat.le_of_ble_eq_true rfl) ?_
  refine zi_aload0 (n := 1) dX7_as_0 rfl ?_
  refine zi_iconst (n := 2) (nI 0) dX7_as_1 rfl (by decide) ?_
  refine zp_X7_0 (n := 5) dX7_as_2 rfl zl_X7_44 (zt0 h0) ?_
  refine zi_aload0 (n := 6) dX7_as_5 rfl ?_
  refine zi_iload1 (n := 7) dX7_as_6 rfl ?_
  refine zi_V1s (mj := zm_X7_isPaper) (n := 10) dX7_as_7 rfl zl_X7_180 zy_X7_isPaper (zrc_X7 _ _) (by decide) (Nat.le_of_ble_eq_true rfl) (c_X7_isPaper) ?_
  refine zi_ifeq_b (n := 13) (tgt := 25) dX7_as_10 rfl (by decide) (fun h10 => ?_) (fun h10 => ?_)
  · refine zi_ldc (n := 27) dX7_as_25 rfl zl_X7_64 ?_
    exact zi_iret dX7_as_27 rfl (by rfl) (by rfl)
  · refine zi_iload2 (n := 14) dX7_as_13 rfl ?_
    refine zi_i2l (n := 15) dX7_as_14 rfl ?_
    refine zi_lconst (n := 16) ((nI 0).toInt64) dX7_as_15 rfl (by decide) ?_
    refine zi_ldc2 (n := 19) dX7_as_16 rfl zl_X7_253 ?_
    rw [show (5 : Int64) = (nI 5).toInt64 by decide]
    refine zi_S3s (mj := zm_X7_in) (n := 22) dX7_as_19 rfl zl_X7_54 zy_X7_in (by decide) (Nat.le_of_ble_eq_true rfl) (c_X7_in) ?_
    refine zi_ifne_b (n := 25) (tgt := 28) dX7_as_22 rfl (by decide) (fun h22 => ?_) (fun h22 => ?_)
    · exact absurd ⟨h10, h22⟩ hb
    · refine zi_ldc (n := 27) dX7_as_25 rfl zl_X7_64 ?_
      exact zi_iret dX7_as_27 rfl (by rfl) (by rfl)
set_option maxHeartbeats 4000000 in
set_option maxRecDepth 100000 in
theorem m_as_no (h0 : Z 165 0 = nI 0) (hn : Z 169 0 = nI n) (h6 : n ≤ 6) {p : Nat} (hp : p < n) {k : Nat} (hk : Z 169 (6 + 5 * p) = nI k) {y : Int32} (hy : (nI 0 ≤ y ∧ y ≤ nI 5)) (ho : ¬ (y = 0 ∨ nI k = y ∨ (y = nI 1 ∧ nI k < nI 4) ∨ (y = nI 4 ∧ nI k = nI 5))) : zCT E 2 zm_X7_as [.ref (zad E 165), .int (nI p), .int y] (Q, Z) (some (.int (-1000010 - nI 3))) (Q, zsu (zsu Z 165 1 (nI 0)) 165 1 (nI 3)) := by
  refine zCT.of (by decide +kernel) (Nat.le_of_ble_eq_true rfl) ?_
  have a1 := zisP hn h6 hp
  refine zi_aload0 (n := 1) dX7_as_0 rfl ?_
  refine zi_iconst (n := 2) (nI 0) dX7_as_1 rfl (by decide) ?_
  refine zp_X7_0 (n := 5) dX7_as_2 rfl zl_X7_44 (zt0 h0) ?_
  refine zi_aload0 (n := 6) dX7_as_5 rfl ?_
  refine zi_iload1 (n := 7) dX7_as_6 rfl ?_
  refine zi_V1s (mj := zm_X7_isPaper) (n := 10) dX7_as_7 rfl zl_X7_180 zy_X7_isPaper (zrc_X7 _ _) (by decide) (Nat.le_of_ble_eq_true rfl) (c_X7_isPaper) ?_
  refine zi_ifeq_b (n := 13) (tgt := 25) dX7_as_10 rfl (by decide) (fun h10 => ?_) (fun h10 => ?_)
  · first | exact absurd a1 h10 | exact absurd h10 a1
  · refine zi_iload2 (n := 14) dX7_as_13 rfl ?_
    refine zi_i2l (n := 15) dX7_as_14 rfl ?_
    refine zi_lconst (n := 16) ((nI 0).toInt64) dX7_as_15 rfl (by decide) ?_
    refine zi_ldc2 (n := 19) dX7_as_16 rfl zl_X7_253 ?_
    rw [show (5 : Int64) = (nI 5).toInt64 by decide]
    refine zi_S3s (mj := zm_X7_in) (n := 22) dX7_as_19 rfl zl_X7_54 zy_X7_in (by decide) (Nat.le_of_ble_eq_true rfl) (c_X7_in) ?_
    refine zi_ifne_b (n := 25) (tgt := 28) dX7_as_22 rfl (by decide) (fun h22 => ?_) (fun h22 => ?_)
    · refine zi_aload0 (n := 29) dX7_as_28 rfl ?_
      refine zi_iconst (n := 30) (nI 0) dX7_as_29 rfl (by decide) ?_
      refine zp_X7_1 (n := 33) dX7_as_30 rfl zl_X7_48 rfl ?_
      refine zi_aload0 (n := 34) dX7_as_33 rfl ?_
      refine zg_X7_5 (n := 37) dX7_as_34 rfl zl_X7_19 ?_
      refine zi_iload1 (n := 38) dX7_as_37 rfl ?_
      refine zi_iconst (n := 39) (nI 0) dX7_as_38 rfl (by decide) ?_
      refine zi_S3s (mj := zm_X7_of) (n := 42) dX7_as_39 rfl zl_X7_146 zy_X7_of (by decide) (Nat.le_of_ble_eq_true rfl) (c_of9 (by omega) (by decide) (show zsu Z 165 1 (nI 0) 169 (6 + 5 * p) = nI k from hk)) ?_
      refine zi_iload2 (n := 43) dX7_as_42 rfl ?_
      refine zi_S2s (mj := zm_X7_isOf) (n := 46) dX7_as_43 rfl zl_X7_255 zy_X7_isOf (by decide) (Nat.le_of_ble_eq_true rfl) (c_X7_isOf) ?_
      refine zi_ifeq_b (n := 49) (tgt := 53) dX7_as_46 rfl (by decide) (fun h46 => ?_) (fun h46 => ?_)
      · refine zi_aload0 (n := 54) dX7_as_53 rfl ?_
        refine zi_iconst (n := 55) (nI 3) dX7_as_54 rfl (by decide) ?_
        refine zi_V1s (mj := zm_X7_finding) (n := 58) dX7_as_55 rfl zl_X7_65 zy_X7_finding (zrc_X7 _ _) (by decide) (Nat.le_of_ble_eq_true rfl) (c_X7_finding) ?_
        exact zi_iret dX7_as_58 rfl (by rfl) (by rfl)
      · first | exact absurd ho h46 | exact absurd h46 ho
    · first | exact absurd hy h22 | exact absurd h22 hy
set_option maxHeartbeats 4000000 in
set_option maxRecDepth 100000 in
theorem m_as_ok (h0 : Z 165 0 = nI 0) (hn : Z 169 0 = nI n) (h6 : n ≤ 6) {p : Nat} (hp : p < n) {k : Nat} (hk : Z 169 (6 + 5 * p) = nI k) {y : Int32} (hy : (nI 0 ≤ y ∧ y ≤ nI 5)) (ho : (y = 0 ∨ nI k = y ∨ (y = nI 1 ∧ nI k < nI 4) ∨ (y = nI 4 ∧ nI k = nI 5))) : zCT E 2 zm_X7_as [.ref (zad E 165), .int (nI p), .int y] (Q, Z) (some (.int (nI p))) (Q, zsu Z 165 1 (nI 0)) := by
  refine zCT.of (by decide +kernel) (Nat.le_of_ble_eq_true rfl) ?_
  have a1 := zisP hn h6 hp
  refine zi_aload0 (n := 1) dX7_as_0 rfl ?_
  refine zi_iconst (n := 2) (nI 0) dX7_as_1 rfl (by decide) ?_
  refine zp_X7_0 (n := 5) dX7_as_2 rfl zl_X7_44 (zt0 h0) ?_
  refine zi_aload0 (n := 6) dX7_as_5 rfl ?_
  refine zi_iload1 (n := 7) dX7_as_6 rfl ?_
  refine zi_V1s (mj := zm_X7_isPaper) (n := 10) dX7_as_7 rfl zl_X7_180 zy_X7_isPaper (zrc_X7 _ _) (by decide) (Nat.le_of_ble_eq_true rfl) (c_X7_isPaper) ?_
  refine zi_ifeq_b (n := 13) (tgt := 25) dX7_as_10 rfl (by decide) (fun h10 => ?_) (fun h10 => ?_)
  · first | exact absurd a1 h10 | exact absurd h10 a1
  · refine zi_iload2 (n := 14) dX7_as_13 rfl ?_
    refine zi_i2l (n := 15) dX7_as_14 rfl ?_
    refine zi_lconst (n := 16) ((nI 0).toInt64) dX7_as_15 rfl (by decide) ?_
    refine zi_ldc2 (n := 19) dX7_as_16 rfl zl_X7_253 ?_
    rw [show (5 : Int64) = (nI 5).toInt64 by decide]
    refine zi_S3s (mj := zm_X7_in) (n := 22) dX7_as_19 rfl zl_X7_54 zy_X7_in (by decide) (Nat.le_of_ble_eq_true rfl) (c_X7_in) ?_
    refine zi_ifne_b (n := 25) (tgt := 28) dX7_as_22 rfl (by decide) (fun h22 => ?_) (fun h22 => ?_)
    · refine zi_aload0 (n := 29) dX7_as_28 rfl ?_
      refine zi_iconst (n := 30) (nI 0) dX7_as_29 rfl (by decide) ?_
      refine zp_X7_1 (n := 33) dX7_as_30 rfl zl_X7_48 rfl ?_
      refine zi_aload0 (n := 34) dX7_as_33 rfl ?_
      refine zg_X7_5 (n := 37) dX7_as_34 rfl zl_X7_19 ?_
      refine zi_iload1 (n := 38) dX7_as_37 rfl ?_
      refine zi_iconst (n := 39) (nI 0) dX7_as_38 rfl (by decide) ?_
      refine zi_S3s (mj := zm_X7_of) (n := 42) dX7_as_39 rfl zl_X7_146 zy_X7_of (by decide) (Nat.le_of_ble_eq_true rfl) (c_of9 (by omega) (by decide) (show zsu Z 165 1 (nI 0) 169 (6 + 5 * p) = nI k from hk)) ?_
      refine zi_iload2 (n := 43) dX7_as_42 rfl ?_
      refine zi_S2s (mj := zm_X7_isOf) (n := 46) dX7_as_43 rfl zl_X7_255 zy_X7_isOf (by decide) (Nat.le_of_ble_eq_true rfl) (c_X7_isOf) ?_
      refine zi_ifeq_b (n := 49) (tgt := 53) dX7_as_46 rfl (by decide) (fun h46 => ?_) (fun h46 => ?_)
      · first | exact absurd ho h46 | exact absurd h46 ho
      · refine zi_iload1 (n := 50) dX7_as_49 rfl ?_
        refine zi_goto (tgt := 58) dX7_as_50 (by decide) ?_
        exact zi_iret dX7_as_58 rfl (by rfl) (by rfl)
    · first | exact absurd hy h22 | exact absurd h22 hy
set_option maxHeartbeats 4000000 in
set_option maxRecDepth 100000 in
theorem m_image_bad (h0 : Z 165 0 = nI 0) {x : Int32} (hb : ¬ (nI 0 ≤ x ∧ x ≤ nI 1)) : zCT E 1 zm_X7_image [.ref (zad E 165), .int x] (Q, Z) (some (.int zBAD)) (Q, Z) := by
  refine zCT.of (by decide +kernel) (Nat.le_of_ble_eq_true rfl) ?_
  refine zi_aload0 (n := 1) dX7_image_0 rfl ?_
  refine zi_iconst (n := 2) (nI 0) dX7_image_1 rfl (by decide) ?_
  refine zp_X7_0 (n := 5) dX7_image_2 rfl zl_X7_44 (zt0 h0) ?_
  refine zi_iload1 (n := 6) dX7_image_5 rfl ?_
  refine zi_i2l (n := 7) dX7_image_6 rfl ?_
  refine zi_lconst (n := 8) ((nI 0).toInt64) dX7_image_7 rfl (by decide) ?_
  refine zi_lconst (n := 9) ((nI 1).toInt64) dX7_image_8 rfl (by decide) ?_
  refine zi_S3s (mj := zm_X7_in) (n := 12) dX7_image_9 rfl zl_X7_54 zy_X7_in (by decide) (Nat.le_of_ble_eq_true rfl) (c_X7_in) ?_
  refine zi_ifne_b (n := 15) (tgt := 18) dX7_image_12 rfl (by decide) (fun h12 => ?_) (fun h12 => ?_)
  · first | exact absurd hb h12 | exact absurd h12 hb
  · refine zi_ldc (n := 17) dX7_image_15 rfl zl_X7_64 ?_
    exact zi_iret dX7_image_17 rfl (by rfl) (by rfl)
set_option maxHeartbeats 4000000 in
set_option maxRecDepth 100000 in
theorem m_image_state (h0 : Z 165 0 = nI 0) {x : Int32} (hx : (nI 0 ≤ x ∧ x ≤ nI 1)) (hz : Z 169 0 ≤ 0) : zCT E 1 zm_X7_image [.ref (zad E 165), .int x] (Q, Z) (some (.int zSTATE)) (Q, Z) := by
  refine zCT.of (by decide +kernel) (Nat.le_of_ble_eq_true rfl) ?_
  refine zi_aload0 (n := 1) dX7_image_0 rfl ?_
  refine zi_iconst (n := 2) (nI 0) dX7_image_1 rfl (by decide) ?_
  refine zp_X7_0 (n := 5) dX7_image_2 rfl zl_X7_44 (zt0 h0) ?_
  refine zi_iload1 (n := 6) dX7_image_5 rfl ?_
  refine zi_i2l (n := 7) dX7_image_6 rfl ?_
  refine zi_lconst (n := 8) ((nI 0).toInt64) dX7_image_7 rfl (by decide) ?_
  refine zi_lconst (n := 9) ((nI 1).toInt64) dX7_image_8 rfl (by decide) ?_
  refine zi_S3s (mj := zm_X7_in) (n := 12) dX7_image_9 rfl zl_X7_54 zy_X7_in (by decide) (Nat.le_of_ble_eq_true rfl) (c_X7_in) ?_
  refine zi_ifne_b (n := 15) (tgt := 18) dX7_image_12 rfl (by decide) (fun h12 => ?_) (fun h12 => ?_)
  · refine zi_aload0 (n := 19) dX7_image_18 rfl ?_
    refine zi_V0s (mj := zm_X7_isThere) (n := 22) dX7_image_19 rfl zl_X7_171 zy_X7_isThere (zrc_X7 _ _) (by decide) (Nat.le_of_ble_eq_true rfl) (c_X7_isThere) ?_
    refine zi_ifne_b (n := 25) (tgt := 28) dX7_image_22 rfl (by decide) (fun h22 => ?_) (fun h22 => ?_)
    · first | exact absurd (fun q => q hz : ¬ ¬ Z 169 0 ≤ 0) h22 | exact absurd h22 (fun q => q hz : ¬ ¬ Z 169 0 ≤ 0)
    · refine zi_ldc (n := 27) dX7_image_25 rfl zl_X7_174 ?_
      exact zi_iret dX7_image_27 rfl (by rfl) (by rfl)
  · first | exact absurd hx h12 | exact absurd h12 hx
set_option maxHeartbeats 4000000 in
set_option maxRecDepth 100000 in
theorem l_X7_image {g : zF} {b : Nat} (hb : b < 2) : ∀ k i, 36 - i < k → i ≤ 36 → zG E zm_X7_image 1 (some (.int (nI 1))) (Q, zsu (va_up Z 175 (zpt g (Z 169) (36 * b) 36)) 174 b 1) 30 [some (.ref (zad E 165)), some (.int (nI b)), some (.int (nI i))] [] (Q, va_up Z 175 (zpt g (Z 169) (36 * b) i)) := by
  intro k
  induction k with
  | zero => intro i h; omega
  | succ k ih =>
    intro i h1 h2
    refine zi_iload2 (n := 31) dX7_image_30 rfl ?_
    refine zi_bipush (n := 33) (nI 36) dX7_image_31 rfl (by decide) ?_
    refine zi_icge (n := 36) (tgt := 59) dX7_image_33 rfl (by decide) (fun h33 => ?_) (fun h33 => ?_)
    · have e : i = 36 := by have := (nI_leI (by omega) (by omega)).mp h33; omega
      subst e
      refine zi_aload0 (n := 60) dX7_image_59 rfl ?_
      refine zg_X7_19 (n := 63) dX7_image_60 rfl zl_X7_34 ?_
      refine zi_iload1 (n := 64) dX7_image_63 rfl ?_
      refine zi_iconst (n := 65) (nI 1) dX7_image_64 rfl (by decide) ?_
      refine zi_zast1 (n := 66) dX7_image_65 rfl rfl hb ?_
      refine zi_iconst (n := 67) (nI 1) dX7_image_66 rfl (by decide) ?_
      exact zi_iret dX7_image_67 rfl (by rfl) (by rfl)
    · have e : i < 36 := by have := mt (nI_leI (by omega) (by omega)).mpr h33; omega
      refine zi_aload0 (n := 37) dX7_image_36 rfl ?_
      refine zg_X7_20 (n := 40) dX7_image_37 rfl zl_X7_38 ?_
      refine zi_bipush (n := 42) (nI 36) dX7_image_40 rfl (by decide) ?_
      refine zi_iload1 (n := 43) dX7_image_42 rfl ?_
      refine zi_imul (n := 44) dX7_image_43 rfl ?_
      refine zi_iload2 (n := 45) dX7_image_44 rfl ?_
      refine zi_iadd (n := 46) dX7_image_45 rfl ?_
      refine zi_aload0 (n := 47) dX7_image_46 rfl ?_
      refine zg_X7_5 (n := 50) dX7_image_47 rfl zl_X7_19 ?_
      refine zi_iload2 (n := 51) dX7_image_50 rfl ?_
      refine zi_oald (N := 36) (i := i) (n := 52) dX7_image_51 rfl (by decide) (fun _ => rfl) (by decide) rfl e (zfn _ _ _ _ (by decide) _) ?_
      refine zi_oast (N := 72) (i := 36 * b + i) (n := 53) dX7_image_52 rfl (by decide) (fun _ => rfl) (by decide) (by rw [pk_mul, nI_add]) (by omega) (zfqe (zpt_step g (Z 169) (36 * b) i)) ?_
      refine zi_iinc2 (n := 56) (nI (i + 1)) dX7_image_53 rfl (by decide) rfl (zi1 _) ?_
      refine zi_goto (tgt := 30) dX7_image_56 (by decide) ?_
      exact ih (i + 1) (by omega) (by omega)
set_option maxHeartbeats 4000000 in
set_option maxRecDepth 100000 in
theorem m_image_ok (h0 : Z 165 0 = nI 0) {b : Nat} (hb : b < 2) (hz : ¬ Z 169 0 ≤ 0) : zCT E 1 zm_X7_image [.ref (zad E 165), .int (nI b)] (Q, Z) (some (.int (nI 1))) (Q, zsu (va_up Z 175 (zpt (Z 175) (Z 169) (36 * b) 36)) 174 b 1) := by
  refine zCT.of (by decide +kernel) (Nat.le_of_ble_eq_true rfl) ?_
  have a1 : nI 0 ≤ nI b ∧ nI b ≤ nI 1 := zrg (by omega) (by omega) (by decide)
  refine zi_aload0 (n := 1) dX7_image_0 rfl ?_
  refine zi_iconst (n := 2) (nI 0) dX7_image_1 rfl (by decide) ?_
  refine zp_X7_0 (n := 5) dX7_image_2 rfl zl_X7_44 (zt0 h0) ?_
  refine zi_iload1 (n := 6) dX7_image_5 rfl ?_
  refine zi_i2l (n := 7) dX7_image_6 rfl ?_
  refine zi_lconst (n := 8) ((nI 0).toInt64) dX7_image_7 rfl (by decide) ?_
  refine zi_lconst (n := 9) ((nI 1).toInt64) dX7_image_8 rfl (by decide) ?_
  refine zi_S3s (mj := zm_X7_in) (n := 12) dX7_image_9 rfl zl_X7_54 zy_X7_in (by decide) (Nat.le_of_ble_eq_true rfl) (c_X7_in) ?_
  refine zi_ifne_b (n := 15) (tgt := 18) dX7_image_12 rfl (by decide) (fun h12 => ?_) (fun h12 => ?_)
  · refine zi_aload0 (n := 19) dX7_image_18 rfl ?_
    refine zi_V0s (mj := zm_X7_isThere) (n := 22) dX7_image_19 rfl zl_X7_171 zy_X7_isThere (zrc_X7 _ _) (by decide) (Nat.le_of_ble_eq_true rfl) (c_X7_isThere) ?_
    refine zi_ifne_b (n := 25) (tgt := 28) dX7_image_22 rfl (by decide) (fun h22 => ?_) (fun h22 => ?_)
    · refine zi_iconst (n := 29) (nI 0) dX7_image_28 rfl (by decide) ?_
      refine zi_istore2 (n := 30) dX7_image_29 rfl (by decide) rfl ?_
      have g := l_X7_image (E := E) (Q := Q) (Z := Z) (g := Z 175) hb 37 0 (by omega) (by omega)
      rw [zpt_0, zup_same] at g
      exact g
    · first | exact absurd hz h22 | exact absurd h22 hz
  · first | exact absurd a1 h12 | exact absurd h12 a1
set_option maxHeartbeats 4000000 in
set_option maxRecDepth 100000 in
theorem m_restore_bad (h0 : Z 165 0 = nI 0) {x : Int32} (hb : ¬ (nI 0 ≤ x ∧ x ≤ nI 1)) : zCT E 1 zm_X7_restore [.ref (zad E 165), .int x] (Q, Z) (some (.int zBAD)) (Q, Z) := by
  refine zCT.of (by decide +kernel) (Nat.le_of_ble_eq_true rfl) ?_
  refine zi_aload0 (n := 1) dX7_restore_0 rfl ?_
  refine zi_iconst (n := 2) (nI 0) dX7_restore_1 rfl (by decide) ?_
  refine zp_X7_0 (n := 5) dX7_restore_2 rfl zl_X7_44 (zt0 h0) ?_
  refine zi_iload1 (n := 6) dX7_restore_5 rfl ?_
  refine zi_i2l (n := 7) dX7_restore_6 rfl ?_
  refine zi_lconst (n := 8) ((nI 0).toInt64) dX7_restore_7 rfl (by decide) ?_
  refine zi_lconst (n := 9) ((nI 1).toInt64) dX7_restore_8 rfl (by decide) ?_
  refine zi_S3s (mj := zm_X7_in) (n := 12) dX7_restore_9 rfl zl_X7_54 zy_X7_in (by decide) (Nat.le_of_ble_eq_true rfl) (c_X7_in) ?_
  refine zi_ifne_b (n := 15) (tgt := 18) dX7_restore_12 rfl (by decide) (fun h12 => ?_) (fun h12 => ?_)
  · first | exact absurd hb h12 | exact absurd h12 hb
  · refine zi_ldc (n := 17) dX7_restore_15 rfl zl_X7_64 ?_
    exact zi_iret dX7_restore_17 rfl (by rfl) (by rfl)
set_option maxHeartbeats 4000000 in
set_option maxRecDepth 100000 in
theorem m_restore_state (h0 : Z 165 0 = nI 0) {b : Nat} (hb : b < 2) (hk : Z 174 b = 0) : zCT E 1 zm_X7_restore [.ref (zad E 165), .int (nI b)] (Q, Z) (some (.int zSTATE)) (Q, Z) := by
  refine zCT.of (by decide +kernel) (Nat.le_of_ble_eq_true rfl) ?_
  have a1 : nI 0 ≤ nI b ∧ nI b ≤ nI 1 := zrg (by omega) (by omega) (by decide)
  refine zi_aload0 (n := 1) dX7_restore_0 rfl ?_
  refine zi_iconst (n := 2) (nI 0) dX7_restore_1 rfl (by decide) ?_
  refine zp_X7_0 (n := 5) dX7_restore_2 rfl zl_X7_44 (zt0 h0) ?_
  refine zi_iload1 (n := 6) dX7_restore_5 rfl ?_
  refine zi_i2l (n := 7) dX7_restore_6 rfl ?_
  refine zi_lconst (n := 8) ((nI 0).toInt64) dX7_restore_7 rfl (by decide) ?_
  refine zi_lconst (n := 9) ((nI 1).toInt64) dX7_restore_8 rfl (by decide) ?_
  refine zi_S3s (mj := zm_X7_in) (n := 12) dX7_restore_9 rfl zl_X7_54 zy_X7_in (by decide) (Nat.le_of_ble_eq_true rfl) (c_X7_in) ?_
  refine zi_ifne_b (n := 15) (tgt := 18) dX7_restore_12 rfl (by decide) (fun h12 => ?_) (fun h12 => ?_)
  · refine zi_aload0 (n := 19) dX7_restore_18 rfl ?_
    refine zg_X7_19 (n := 22) dX7_restore_19 rfl zl_X7_34 ?_
    refine zi_iload1 (n := 23) dX7_restore_22 rfl ?_
    refine zi_zald (n := 24) dX7_restore_23 rfl rfl hb ?_
    refine zi_ifne (n := 27) (tgt := 30) dX7_restore_24 rfl (by decide) (fun h24 => ?_) (fun h24 => ?_)
    · first | exact absurd hk h24 | exact absurd h24 hk
    · refine zi_ldc (n := 29) dX7_restore_27 rfl zl_X7_174 ?_
      exact zi_iret dX7_restore_29 rfl (by rfl) (by rfl)
  · first | exact absurd a1 h12 | exact absurd h12 a1
set_option maxHeartbeats 4000000 in
set_option maxRecDepth 100000 in
theorem l_X7_restore {g : zF} {b : Nat} (hb : b < 2) : ∀ k i, 36 - i < k → i ≤ 36 → zG E zm_X7_restore 1 (some (.int (nI 1))) (Q, zsu (va_up Z 169 (zl36 (fun k => Z 175 (36 * b + k)) g 36)) 165 9 (nI 0)) 32 [some (.ref (zad E 165)), some (.int (nI b)), some (.int (nI i))] [] (Q, va_up Z 169 (zl36 (fun k => Z 175 (36 * b + k)) g i)) := by
  intro k
  induction k with
  | zero => intro i h; omega
  | succ k ih =>
    intro i h1 h2
    refine zi_iload2 (n := 33) dX7_restore_32 rfl ?_
    refine zi_bipush (n := 35) (nI 36) dX7_restore_33 rfl (by decide) ?_
    refine zi_icge (n := 38) (tgt := 61) dX7_restore_35 rfl (by decide) (fun h35 => ?_) (fun h35 => ?_)
    · have e : i = 36 := by have := (nI_leI (by omega) (by omega)).mp h35; omega
      subst e
      refine zi_aload0 (n := 62) dX7_restore_61 rfl ?_
      refine zi_iconst (n := 63) (nI 0) dX7_restore_62 rfl (by decide) ?_
      refine zp_X7_9 (n := 66) dX7_restore_63 rfl zl_X7_143 rfl ?_
      refine zi_iconst (n := 67) (nI 1) dX7_restore_66 rfl (by decide) ?_
      exact zi_iret dX7_restore_67 rfl (by rfl) (by rfl)
    · have e : i < 36 := by have := mt (nI_leI (by omega) (by omega)).mpr h35; omega
      refine zi_aload0 (n := 39) dX7_restore_38 rfl ?_
      refine zg_X7_5 (n := 42) dX7_restore_39 rfl zl_X7_19 ?_
      refine zi_iload2 (n := 43) dX7_restore_42 rfl ?_
      refine zi_aload0 (n := 44) dX7_restore_43 rfl ?_
      refine zg_X7_20 (n := 47) dX7_restore_44 rfl zl_X7_38 ?_
      refine zi_bipush (n := 49) (nI 36) dX7_restore_47 rfl (by decide) ?_
      refine zi_iload1 (n := 50) dX7_restore_49 rfl ?_
      refine zi_imul (n := 51) dX7_restore_50 rfl ?_
      refine zi_iload2 (n := 52) dX7_restore_51 rfl ?_
      refine zi_iadd (n := 53) dX7_restore_52 rfl ?_
      refine zi_oald (N := 72) (i := 36 * b + i) (n := 54) dX7_restore_53 rfl (by decide) (fun _ => rfl) (by decide) (by rw [pk_mul, nI_add]) (by omega) (zfn _ _ _ _ (by decide) _) ?_
      refine zi_oast (N := 36) (i := i) (n := 55) dX7_restore_54 rfl (by decide) (fun _ => rfl) (by decide) rfl e (zfqe (zl36_step _ _ i)) ?_
      refine zi_iinc2 (n := 58) (nI (i + 1)) dX7_restore_55 rfl (by decide) rfl (zi1 _) ?_
      refine zi_goto (tgt := 32) dX7_restore_58 (by decide) ?_
      exact ih (i + 1) (by omega) (by omega)
set_option maxHeartbeats 4000000 in
set_option maxRecDepth 100000 in
theorem m_restore_ok (h0 : Z 165 0 = nI 0) {b : Nat} (hb : b < 2) (hk : ¬ Z 174 b = 0) : zCT E 1 zm_X7_restore [.ref (zad E 165), .int (nI b)] (Q, Z) (some (.int (nI 1))) (Q, zsu (va_up Z 169 (zl36 (fun k => Z 175 (36 * b + k)) (Z 169) 36)) 165 9 (nI 0)) := by
  refine zCT.of (by decide +kernel) (Nat.le_of_ble_eq_true rfl) ?_
  have a1 : nI 0 ≤ nI b ∧ nI b ≤ nI 1 := zrg (by omega) (by omega) (by decide)
  refine zi_aload0 (n := 1) dX7_restore_0 rfl ?_
  refine zi_iconst (n := 2) (nI 0) dX7_restore_1 rfl (by decide) ?_
  refine zp_X7_0 (n := 5) dX7_restore_2 rfl zl_X7_44 (zt0 h0) ?_
  refine zi_iload1 (n := 6) dX7_restore_5 rfl ?_
  refine zi_i2l (n := 7) dX7_restore_6 rfl ?_
  refine zi_lconst (n := 8) ((nI 0).toInt64) dX7_restore_7 rfl (by decide) ?_
  refine zi_lconst (n := 9) ((nI 1).toInt64) dX7_restore_8 rfl (by decide) ?_
  refine zi_S3s (mj := zm_X7_in) (n := 12) dX7_restore_9 rfl zl_X7_54 zy_X7_in (by decide) (Nat.le_of_ble_eq_true rfl) (c_X7_in) ?_
  refine zi_ifne_b (n := 15) (tgt := 18) dX7_restore_12 rfl (by decide) (fun h12 => ?_) (fun h12 => ?_)
  · refine zi_aload0 (n := 19) dX7_restore_18 rfl ?_
    refine zg_X7_19 (n := 22) dX7_restore_19 rfl zl_X7_34 ?_
    refine zi_iload1 (n := 23) dX7_restore_22 rfl ?_
    refine zi_zald (n := 24) dX7_restore_23 rfl rfl hb ?_
    refine zi_ifne (n := 27) (tgt := 30) dX7_restore_24 rfl (by decide) (fun h24 => ?_) (fun h24 => ?_)
    · refine zi_iconst (n := 31) (nI 0) dX7_restore_30 rfl (by decide) ?_
      refine zi_istore2 (n := 32) dX7_restore_31 rfl (by decide) rfl ?_
      have g := l_X7_restore (E := E) (Q := Q) (Z := Z) (g := Z 169) hb 37 0 (by omega) (by omega)
      rw [zl36_0, zup_same] at g
      exact g
    · first | exact absurd hk h24 | exact absurd h24 hk
  · first | exact absurd a1 h12 | exact absurd h12 a1
def zTN (Z : zS) (w : zTf) : zS := va_up (va_up Z 176 w.2) 165 (upd (Z 165) 22 (nI w.1))
theorem zTN_g : ((Q, zTN Z w) : zMem).2 165 22 = nI w.1 := by
  simp [zTN, va_up_self, upd]
theorem zTN_p (x : Nat) : ((((Q, zTN Z w) : zMem).1, zsu ((Q, zTN Z w) : zMem).2 165 22 (nI x)) : zMem) = (Q, zTN Z (x, w.2)) := by
  show (Q, zsu (zTN Z w) 165 22 (nI x)) = _
  unfold zTN
  rw [zsu_focus]
  congr 2
  funext k
  unfold upd
  split <;> rfl
theorem zTN_s (i : Nat) (x : Int32) : ((((Q, zTN Z w) : zMem).1, zsu ((Q, zTN Z w) : zMem).2 176 i x) : zMem) = (Q, zTN Z (w.1, upd w.2 i x)) := by
  show (Q, zsu (zTN Z w) 176 i x) = _
  unfold zTN
  rw [zsu_other (by decide), zsu_focus]
theorem zTN_of {t : Nat} (ht : Z 165 22 = nI t) : zTN Z (t, Z 176) = Z := by
  have e : upd (Z 165) 22 (nI t) = Z 165 := by
    funext k
    unfold upd
    split
    · rename_i h; rw [h, ht]
    · rfl
  unfold zTN
  dsimp only
  rw [e, zup_same, zup_same]
theorem c_ofT {c : Nat} (hp : p < 6) (hc : c < 5) {x : Int32} (hx : Z 169 (6 + 5 * p + c) = x) : zCT E 0 zm_X7_of [.ref (zad E 169), .int (nI p), .int (nI c)] (Q, zTN Z w) (some (.int x)) (Q, zTN Z w) := by
  subst hx; exact zrq (a := 169) (c_X7_of (Or.inl rfl) hp hc)
set_option maxHeartbeats 4000000 in
set_option maxRecDepth 100000 in
theorem c_X7_began (hw : w.1 ≤ 16) {x : Int32} : zCT E 0 zm_X7_began [.ref (zad E 165), .int x] (Q, zTN Z w) none (Q, zTN Z (zpush w x)) := by
  refine zCT.of (by decide +kernel) (Nat.le_of_ble_eq_true rfl) ?_
  refine zi_aload0 (n := 1) dX7_began_0 rfl ?_
  refine zg_X7_22 (n := 4) dX7_began_1 rfl zl_X7_258 zTN_g ?_
  refine zi_bipush (n := 6) (nI 16) dX7_began_4 rfl (by decide) ?_
  refine zi_icge (n := 9) (tgt := 29) dX7_began_6 rfl (by decide) (fun h6 => ?_) (fun h6 => ?_)
  · have e6 : ¬ w.1 < 16 := by have := (nI_leI (a := 16) (by omega) (by omega)).mp h6; omega
    exact zi_vret dX7_began_29 rfl (by rfl) (by simp [zpush, e6])
  · have e6 : w.1 < 16 := by have := mt (nI_leI (a := 16) (by omega) (by omega)).mpr h6; omega
    refine zi_aload0 (n := 10) dX7_began_9 rfl ?_
    refine zg_X7_21 (n := 13) dX7_began_10 rfl zl_X7_41 ?_
    refine zi_aload0 (n := 14) dX7_began_13 rfl ?_
    refine zg_X7_22 (n := 17) dX7_began_14 rfl zl_X7_258 zTN_g ?_
    refine zi_iload1 (n := 18) dX7_began_17 rfl ?_
    refine zi_oast (N := 16) (i := w.1) (n := 19) dX7_began_18 rfl (by decide) (fun _ => rfl) (by decide) rfl e6 (zTN_s _ _) ?_
    refine zi_aload0 (n := 20) dX7_began_19 rfl ?_
    refine zi_dup (n := 21) dX7_began_20 rfl rfl ?_
    refine zg_X7_22 (n := 24) dX7_began_21 rfl zl_X7_258 zTN_g ?_
    refine zi_iconst (n := 25) (nI 1) dX7_began_24 rfl (by decide) ?_
    refine zi_iadd (n := 26) dX7_began_25 rfl ?_
    rw [nI_add]
    refine zp_X7_22 (n := 29) dX7_began_26 rfl zl_X7_258 (zTN_p _) ?_
    exact zi_vret dX7_began_29 rfl (by rfl) (by simp [zpush, e6])
set_option maxHeartbeats 4000000 in
set_option maxRecDepth 100000 in
theorem c_X7_plainSize (hw : w.1 ≤ 16) (hp : p < 6) : zCT E 1 zm_X7_plainSize [.ref (zad E 165), .int (nI p)] (Q, zTN Z w) (some (.int (Z 169 (6 + 5 * p + 3)))) (Q, zTN Z (zpush w (nI 10))) := by
  refine zCT.of (by decide +kernel) (Nat.le_of_ble_eq_true rfl) ?_
  refine zi_aload0 (n := 1) dX7_plainSize_0 rfl ?_
  refine zi_bipush (n := 3) (nI 10) dX7_plainSize_1 rfl (by decide) ?_
  refine zi_V1v (mj := zm_X7_began) (n := 6) dX7_plainSize_3 rfl zl_X7_261 zy_X7_began (zrc_X7 _ _) (by decide) (Nat.le_of_ble_eq_true rfl) (c_X7_began (by repeat (first | exact hw | refine zpush_le ?_))) ?_
  refine zi_aload0 (n := 7) dX7_plainSize_6 rfl ?_
  refine zg_X7_5 (n := 10) dX7_plainSize_7 rfl zl_X7_19 ?_
  refine zi_iload1 (n := 11) dX7_plainSize_10 rfl ?_
  refine zi_iconst (n := 12) (nI 3) dX7_plainSize_11 rfl (by decide) ?_
  refine zi_S3s (mj := zm_X7_of) (n := 15) dX7_plainSize_12 rfl zl_X7_146 zy_X7_of (by decide) (Nat.le_of_ble_eq_true rfl) (c_ofT hp (by decide) rfl) ?_
  exact zi_iret dX7_plainSize_15 rfl (by rfl) (by rfl)
set_option maxHeartbeats 4000000 in
set_option maxRecDepth 100000 in
theorem c_dbl_4 (hw : w.1 ≤ 16) (hp : p < 6) (hk : Z 169 (6 + 5 * p) = nI 4) : zCT E 2 zm_X7_doubleSize [.ref (zad E 165), .int (nI p)] (Q, zTN Z w) (some (.int (Z 169 (6 + 5 * p + 3) - nI 100))) (Q, zTN Z (zpush (zpush w (nI 13)) (nI 10))) := by
  refine zCT.of (by decide +kernel) (Nat.le_of_ble_eq_true rfl) ?_
  refine zi_aload0 (n := 1) dX7_doubleSize_0 rfl ?_
  refine zg_X7_5 (n := 4) dX7_doubleSize_1 rfl zl_X7_19 ?_
  refine zi_iload1 (n := 5) dX7_doubleSize_4 rfl ?_
  refine zi_iconst (n := 6) (nI 0) dX7_doubleSize_5 rfl (by decide) ?_
  refine zi_S3s (mj := zm_X7_of) (n := 9) dX7_doubleSize_6 rfl zl_X7_146 zy_X7_of (by decide) (Nat.le_of_ble_eq_true rfl) (c_ofT hp (by decide) hk) ?_
  refine zi_iconst (n := 10) (nI 5) dX7_doubleSize_9 rfl (by decide) ?_
  refine zi_icne (n := 13) (tgt := 17) dX7_doubleSize_10 rfl (by decide) (fun h10 => ?_) (fun h10 => ?_)
  · refine zi_iconst (n := 18) (nI 0) dX7_doubleSize_17 rfl (by decide) ?_
    refine zi_istore2 (n := 19) dX7_doubleSize_18 rfl (by decide) rfl ?_
    refine zi_iload2 (n := 20) dX7_doubleSize_19 rfl ?_
    refine zi_ifeq (n := 23) (tgt := 29) dX7_doubleSize_20 rfl (by decide) (fun h20 => ?_) (fun h20 => ?_)
    · refine zi_aload0 (n := 30) dX7_doubleSize_29 rfl ?_
      refine zi_bipush (n := 32) (nI 13) dX7_doubleSize_30 rfl (by decide) ?_
      refine zi_V1v (mj := zm_X7_began) (n := 35) dX7_doubleSize_32 rfl zl_X7_261 zy_X7_began (zrc_X7 _ _) (by decide) (Nat.le_of_ble_eq_true rfl) (c_X7_began (by repeat (first | exact hw | refine zpush_le ?_))) ?_
      refine zi_aload0 (n := 36) dX7_doubleSize_35 rfl ?_
      refine zi_iload1 (n := 37) dX7_doubleSize_36 rfl ?_
      refine zi_V1s (mj := zm_X7_plainSize) (n := 40) dX7_doubleSize_37 rfl zl_X7_264 zy_X7_plainSize (zrc_X7 _ _) (by decide) (Nat.le_of_ble_eq_true rfl) (c_X7_plainSize (by repeat (first | exact hw | refine zpush_le ?_)) hp) ?_
      refine zi_bipush (n := 42) (nI 100) dX7_doubleSize_40 rfl (by decide) ?_
      refine zi_isub (n := 43) dX7_doubleSize_42 rfl ?_
      refine zi_istore3 (n := 44) dX7_doubleSize_43 rfl (by decide) rfl ?_
      refine zi_iload2 (n := 45) dX7_doubleSize_44 rfl ?_
      refine zi_ifeq (n := 48) (tgt := 54) dX7_doubleSize_45 rfl (by decide) (fun h45 => ?_) (fun h45 => ?_)
      · refine zi_iload3 (n := 55) dX7_doubleSize_54 rfl ?_
        exact zi_iret dX7_doubleSize_55 rfl (by rfl) (by rfl)
      · first | exact absurd h45 (by decide) | exact absurd rfl h45
    · first | exact absurd h20 (by decide) | exact absurd rfl h20
  · first | exact absurd h10 (by decide) | exact absurd rfl h10
set_option maxHeartbeats 4000000 in
set_option maxRecDepth 100000 in
theorem c_dbl_5 (hw : w.1 ≤ 16) (hp : p < 6) (hk : Z 169 (6 + 5 * p) = nI 5) : zCT E 2 zm_X7_doubleSize [.ref (zad E 165), .int (nI p)] (Q, zTN Z w) (some (.int (nI 2 * (Z 169 (6 + 5 * p + 3) - nI 100)))) (Q, zTN Z (zpush (zpush (zpush w (nI 14)) (nI 13)) (nI 10))) := by
  refine zCT.of (by decide +kernel) (Nat.le_of_ble_eq_true rfl) ?_
  refine zi_aload0 (n := 1) dX7_doubleSize_0 rfl ?_
  refine zg_X7_5 (n := 4) dX7_doubleSize_1 rfl zl_X7_19 ?_
  refine zi_iload1 (n := 5) dX7_doubleSize_4 rfl ?_
  refine zi_iconst (n := 6) (nI 0) dX7_doubleSize_5 rfl (by decide) ?_
  refine zi_S3s (mj := zm_X7_of) (n := 9) dX7_doubleSize_6 rfl zl_X7_146 zy_X7_of (by decide) (Nat.le_of_ble_eq_true rfl) (c_ofT hp (by decide) hk) ?_
  refine zi_iconst (n := 10) (nI 5) dX7_doubleSize_9 rfl (by decide) ?_
  refine zi_icne (n := 13) (tgt := 17) dX7_doubleSize_10 rfl (by decide) (fun h10 => ?_) (fun h10 => ?_)
  · first | exact absurd h10 (by decide) | exact absurd rfl h10
  · refine zi_iconst (n := 14) (nI 1) dX7_doubleSize_13 rfl (by decide) ?_
    refine zi_goto (tgt := 18) dX7_doubleSize_14 (by decide) ?_
    refine zi_istore2 (n := 19) dX7_doubleSize_18 rfl (by decide) rfl ?_
    refine zi_iload2 (n := 20) dX7_doubleSize_19 rfl ?_
    refine zi_ifeq (n := 23) (tgt := 29) dX7_doubleSize_20 rfl (by decide) (fun h20 => ?_) (fun h20 => ?_)
    · first | exact absurd h20 (by decide) | exact absurd rfl h20
    · refine zi_aload0 (n := 24) dX7_doubleSize_23 rfl ?_
      refine zi_bipush (n := 26) (nI 14) dX7_doubleSize_24 rfl (by decide) ?_
      refine zi_V1v (mj := zm_X7_began) (n := 29) dX7_doubleSize_26 rfl zl_X7_261 zy_X7_began (zrc_X7 _ _) (by decide) (Nat.le_of_ble_eq_true rfl) (c_X7_began (by repeat (first | exact hw | refine zpush_le ?_))) ?_
      refine zi_aload0 (n := 30) dX7_doubleSize_29 rfl ?_
      refine zi_bipush (n := 32) (nI 13) dX7_doubleSize_30 rfl (by decide) ?_
      refine zi_V1v (mj := zm_X7_began) (n := 35) dX7_doubleSize_32 rfl zl_X7_261 zy_X7_began (zrc_X7 _ _) (by decide) (Nat.le_of_ble_eq_true rfl) (c_X7_began (by repeat (first | exact hw | refine zpush_le ?_))) ?_
      refine zi_aload0 (n := 36) dX7_doubleSize_35 rfl ?_
      refine zi_iload1 (n := 37) dX7_doubleSize_36 rfl ?_
      refine zi_V1s (mj := zm_X7_plainSize) (n := 40) dX7_doubleSize_37 rfl zl_X7_264 zy_X7_plainSize (zrc_X7 _ _) (by decide) (Nat.le_of_ble_eq_true rfl) (c_X7_plainSize (by repeat (first | exact hw | refine zpush_le ?_)) hp) ?_
      refine zi_bipush (n := 42) (nI 100) dX7_doubleSize_40 rfl (by decide) ?_
      refine zi_isub (n := 43) dX7_doubleSize_42 rfl ?_
      refine zi_istore3 (n := 44) dX7_doubleSize_43 rfl (by decide) rfl ?_
      refine zi_iload2 (n := 45) dX7_doubleSize_44 rfl ?_
      refine zi_ifeq (n := 48) (tgt := 54) dX7_doubleSize_45 rfl (by decide) (fun h45 => ?_) (fun h45 => ?_)
      · first | exact absurd h45 (by decide) | exact absurd rfl h45
      · refine zi_iconst (n := 49) (nI 2) dX7_doubleSize_48 rfl (by decide) ?_
        refine zi_iload3 (n := 50) dX7_doubleSize_49 rfl ?_
        refine zi_imul (n := 51) dX7_doubleSize_50 rfl ?_
        refine zi_goto (tgt := 55) dX7_doubleSize_51 (by decide) ?_
        exact zi_iret dX7_doubleSize_55 rfl (by rfl) (by rfl)
set_option maxHeartbeats 4000000 in
set_option maxRecDepth 100000 in
theorem c_mk_1 (hw : w.1 ≤ 16) (hp : p < 6) (hk : Z 169 (6 + 5 * p) = nI 1) : zCT E 3 zm_X7_markOf [.ref (zad E 165), .int (nI p)] (Q, zTN Z w) (some (.int (nI p + Z 169 (6 + 5 * p + 1)))) (Q, zTN Z (zpush (zpush w (nI 21)) (nI 20))) := by
  refine zCT.of (by decide +kernel) (Nat.le_of_ble_eq_true rfl) ?_
  refine zi_aload0 (n := 1) dX7_markOf_0 rfl ?_
  refine zg_X7_5 (n := 4) dX7_markOf_1 rfl zl_X7_19 ?_
  refine zi_iload1 (n := 5) dX7_markOf_4 rfl ?_
  refine zi_iconst (n := 6) (nI 0) dX7_markOf_5 rfl (by decide) ?_
  refine zi_S3s (mj := zm_X7_of) (n := 9) dX7_markOf_6 rfl zl_X7_146 zy_X7_of (by decide) (Nat.le_of_ble_eq_true rfl) (c_ofT hp (by decide) hk) ?_
  refine zi_istore2 (n := 10) dX7_markOf_9 rfl (by decide) rfl ?_
  refine zi_iload2 (n := 11) dX7_markOf_10 rfl ?_
  refine zi_iconst (n := 12) (nI 4) dX7_markOf_11 rfl (by decide) ?_
  refine zi_iclt (n := 15) (tgt := 35) dX7_markOf_12 rfl (by decide) (fun h12 => ?_) (fun h12 => ?_)
  · refine zi_iload2 (n := 36) dX7_markOf_35 rfl ?_
    refine zi_iconst (n := 37) (nI 1) dX7_markOf_36 rfl (by decide) ?_
    refine zi_iceq (n := 40) (tgt := 56) dX7_markOf_37 rfl (by decide) (fun h37 => ?_) (fun h37 => ?_)
    · refine zi_aload0 (n := 57) dX7_markOf_56 rfl ?_
      refine zi_bipush (n := 59) (nI 21) dX7_markOf_57 rfl (by decide) ?_
      refine zi_V1v (mj := zm_X7_began) (n := 62) dX7_markOf_59 rfl zl_X7_261 zy_X7_began (zrc_X7 _ _) (by decide) (Nat.le_of_ble_eq_true rfl) (c_X7_began (by repeat (first | exact hw | refine zpush_le ?_))) ?_
      refine zi_aload0 (n := 63) dX7_markOf_62 rfl ?_
      refine zi_bipush (n := 65) (nI 20) dX7_markOf_63 rfl (by decide) ?_
      refine zi_V1v (mj := zm_X7_began) (n := 68) dX7_markOf_65 rfl zl_X7_261 zy_X7_began (zrc_X7 _ _) (by decide) (Nat.le_of_ble_eq_true rfl) (c_X7_began (by repeat (first | exact hw | refine zpush_le ?_))) ?_
      refine zi_iload1 (n := 69) dX7_markOf_68 rfl ?_
      refine zi_aload0 (n := 70) dX7_markOf_69 rfl ?_
      refine zg_X7_5 (n := 73) dX7_markOf_70 rfl zl_X7_19 ?_
      refine zi_iload1 (n := 74) dX7_markOf_73 rfl ?_
      refine zi_iconst (n := 75) (nI 1) dX7_markOf_74 rfl (by decide) ?_
      refine zi_S3s (mj := zm_X7_of) (n := 78) dX7_markOf_75 rfl zl_X7_146 zy_X7_of (by decide) (Nat.le_of_ble_eq_true rfl) (c_ofT hp (by decide) rfl) ?_
      refine zi_iadd (n := 79) dX7_markOf_78 rfl ?_
      refine zi_istore3 (n := 80) dX7_markOf_79 rfl (by decide) rfl ?_
      refine zi_iload2 (n := 81) dX7_markOf_80 rfl ?_
      refine zi_iconst (n := 82) (nI 1) dX7_markOf_81 rfl (by decide) ?_
      refine zi_icne (n := 85) (tgt := 89) dX7_markOf_82 rfl (by decide) (fun h82 => ?_) (fun h82 => ?_)
      · first | exact absurd h82 (by decide) | exact absurd rfl h82
      · refine zi_iload3 (n := 86) dX7_markOf_85 rfl ?_
        refine zi_goto (tgt := 105) dX7_markOf_86 (by decide) ?_
        exact zi_iret dX7_markOf_105 rfl (by rfl) (by rfl)
    · first | exact absurd h37 (by decide) | exact absurd rfl h37
  · first | exact absurd h12 (by decide) | exact absurd rfl h12
set_option maxHeartbeats 4000000 in
set_option maxRecDepth 100000 in
theorem c_sz_1 (hw : w.1 ≤ 16) (hp : p < 6) (hk : Z 169 (6 + 5 * p) = nI 1) : zCT E 4 zm_X7_sizeOf [.ref (zad E 165), .int (nI p)] (Q, zTN Z w) (some (.int (Z 169 (6 + 5 * p + 3) + (nI p + Z 169 (6 + 5 * p + 1))))) (Q, zTN Z (zpush (zpush (zpush (zpush w (nI 11)) (nI 10)) (nI 21)) (nI 20))) := by
  refine zCT.of (by decide +kernel) (Nat.le_of_ble_eq_true rfl) ?_
  refine zi_aload0 (n := 1) dX7_sizeOf_0 rfl ?_
  refine zg_X7_5 (n := 4) dX7_sizeOf_1 rfl zl_X7_19 ?_
  refine zi_iload1 (n := 5) dX7_sizeOf_4 rfl ?_
  refine zi_iconst (n := 6) (nI 0) dX7_sizeOf_5 rfl (by decide) ?_
  refine zi_S3s (mj := zm_X7_of) (n := 9) dX7_sizeOf_6 rfl zl_X7_146 zy_X7_of (by decide) (Nat.le_of_ble_eq_true rfl) (c_ofT hp (by decide) hk) ?_
  refine zi_istore2 (n := 10) dX7_sizeOf_9 rfl (by decide) rfl ?_
  refine zi_iload2 (n := 11) dX7_sizeOf_10 rfl ?_
  refine zi_iconst (n := 12) (nI 4) dX7_sizeOf_11 rfl (by decide) ?_
  refine zi_iclt (n := 15) (tgt := 21) dX7_sizeOf_12 rfl (by decide) (fun h12 => ?_) (fun h12 => ?_)
  · refine zi_iload2 (n := 22) dX7_sizeOf_21 rfl ?_
    refine zi_iconst (n := 23) (nI 2) dX7_sizeOf_22 rfl (by decide) ?_
    refine zi_icne (n := 26) (tgt := 32) dX7_sizeOf_23 rfl (by decide) (fun h23 => ?_) (fun h23 => ?_)
    · refine zi_aload0 (n := 33) dX7_sizeOf_32 rfl ?_
      refine zi_bipush (n := 35) (nI 11) dX7_sizeOf_33 rfl (by decide) ?_
      refine zi_V1v (mj := zm_X7_began) (n := 38) dX7_sizeOf_35 rfl zl_X7_261 zy_X7_began (zrc_X7 _ _) (by decide) (Nat.le_of_ble_eq_true rfl) (c_X7_began (by repeat (first | exact hw | refine zpush_le ?_))) ?_
      refine zi_aload0 (n := 39) dX7_sizeOf_38 rfl ?_
      refine zi_iload1 (n := 40) dX7_sizeOf_39 rfl ?_
      refine zi_V1s (mj := zm_X7_plainSize) (n := 43) dX7_sizeOf_40 rfl zl_X7_264 zy_X7_plainSize (zrc_X7 _ _) (by decide) (Nat.le_of_ble_eq_true rfl) (c_X7_plainSize (by repeat (first | exact hw | refine zpush_le ?_)) hp) ?_
      refine zi_istore3 (n := 44) dX7_sizeOf_43 rfl (by decide) rfl ?_
      refine zi_iload3 (n := 45) dX7_sizeOf_44 rfl ?_
      refine zi_aload0 (n := 46) dX7_sizeOf_45 rfl ?_
      refine zi_iload1 (n := 47) dX7_sizeOf_46 rfl ?_
      refine zi_V1s (mj := zm_X7_markOf) (n := 50) dX7_sizeOf_47 rfl zl_X7_270 zy_X7_markOf (zrc_X7 _ _) (by decide) (Nat.le_of_ble_eq_true rfl) (c_mk_1 (by repeat (first | exact hw | refine zpush_le ?_)) hp hk) ?_
      refine zi_iadd (n := 51) dX7_sizeOf_50 rfl ?_
      refine zi_istore3 (n := 52) dX7_sizeOf_51 rfl (by decide) rfl ?_
      refine zi_iload2 (n := 53) dX7_sizeOf_52 rfl ?_
      refine zi_iconst (n := 54) (nI 2) dX7_sizeOf_53 rfl (by decide) ?_
      refine zi_icne (n := 57) (tgt := 62) dX7_sizeOf_54 rfl (by decide) (fun h54 => ?_) (fun h54 => ?_)
      · refine zi_iload3 (n := 63) dX7_sizeOf_62 rfl ?_
        exact zi_iret dX7_sizeOf_63 rfl (by rfl) (by rfl)
      · first | exact absurd h54 (by decide) | exact absurd rfl h54
    · first | exact absurd h23 (by decide) | exact absurd rfl h23
  · first | exact absurd h12 (by decide) | exact absurd rfl h12
set_option maxHeartbeats 4000000 in
set_option maxRecDepth 100000 in
theorem c_mk_2 (hw : w.1 ≤ 16) (hp : p < 6) (hk : Z 169 (6 + 5 * p) = nI 2) : zCT E 3 zm_X7_markOf [.ref (zad E 165), .int (nI p)] (Q, zTN Z w) (some (.int (nI 2 * (nI p + Z 169 (6 + 5 * p + 1))))) (Q, zTN Z (zpush (zpush (zpush w (nI 24)) (nI 21)) (nI 20))) := by
  refine zCT.of (by decide +kernel) (Nat.le_of_ble_eq_true rfl) ?_
  refine zi_aload0 (n := 1) dX7_markOf_0 rfl ?_
  refine zg_X7_5 (n := 4) dX7_markOf_1 rfl zl_X7_19 ?_
  refine zi_iload1 (n := 5) dX7_markOf_4 rfl ?_
  refine zi_iconst (n := 6) (nI 0) dX7_markOf_5 rfl (by decide) ?_
  refine zi_S3s (mj := zm_X7_of) (n := 9) dX7_markOf_6 rfl zl_X7_146 zy_X7_of (by decide) (Nat.le_of_ble_eq_true rfl) (c_ofT hp (by decide) hk) ?_
  refine zi_istore2 (n := 10) dX7_markOf_9 rfl (by decide) rfl ?_
  refine zi_iload2 (n := 11) dX7_markOf_10 rfl ?_
  refine zi_iconst (n := 12) (nI 4) dX7_markOf_11 rfl (by decide) ?_
  refine zi_iclt (n := 15) (tgt := 35) dX7_markOf_12 rfl (by decide) (fun h12 => ?_) (fun h12 => ?_)
  · refine zi_iload2 (n := 36) dX7_markOf_35 rfl ?_
    refine zi_iconst (n := 37) (nI 1) dX7_markOf_36 rfl (by decide) ?_
    refine zi_iceq (n := 40) (tgt := 56) dX7_markOf_37 rfl (by decide) (fun h37 => ?_) (fun h37 => ?_)
    · first | exact absurd h37 (by decide) | exact absurd rfl h37
    · refine zi_aload0 (n := 41) dX7_markOf_40 rfl ?_
      refine zi_iload2 (n := 42) dX7_markOf_41 rfl ?_
      refine zi_iconst (n := 43) (nI 3) dX7_markOf_42 rfl (by decide) ?_
      refine zi_icne (n := 46) (tgt := 51) dX7_markOf_43 rfl (by decide) (fun h43 => ?_) (fun h43 => ?_)
      · refine zi_bipush (n := 53) (nI 24) dX7_markOf_51 rfl (by decide) ?_
        refine zi_V1v (mj := zm_X7_began) (n := 56) dX7_markOf_53 rfl zl_X7_261 zy_X7_began (zrc_X7 _ _) (by decide) (Nat.le_of_ble_eq_true rfl) (c_X7_began (by repeat (first | exact hw | refine zpush_le ?_))) ?_
        refine zi_aload0 (n := 57) dX7_markOf_56 rfl ?_
        refine zi_bipush (n := 59) (nI 21) dX7_markOf_57 rfl (by decide) ?_
        refine zi_V1v (mj := zm_X7_began) (n := 62) dX7_markOf_59 rfl zl_X7_261 zy_X7_began (zrc_X7 _ _) (by decide) (Nat.le_of_ble_eq_true rfl) (c_X7_began (by repeat (first | exact hw | refine zpush_le ?_))) ?_
        refine zi_aload0 (n := 63) dX7_markOf_62 rfl ?_
        refine zi_bipush (n := 65) (nI 20) dX7_markOf_63 rfl (by decide) ?_
        refine zi_V1v (mj := zm_X7_began) (n := 68) dX7_markOf_65 rfl zl_X7_261 zy_X7_began (zrc_X7 _ _) (by decide) (Nat.le_of_ble_eq_true rfl) (c_X7_began (by repeat (first | exact hw | refine zpush_le ?_))) ?_
        refine zi_iload1 (n := 69) dX7_markOf_68 rfl ?_
        refine zi_aload0 (n := 70) dX7_markOf_69 rfl ?_
        refine zg_X7_5 (n := 73) dX7_markOf_70 rfl zl_X7_19 ?_
        refine zi_iload1 (n := 74) dX7_markOf_73 rfl ?_
        refine zi_iconst (n := 75) (nI 1) dX7_markOf_74 rfl (by decide) ?_
        refine zi_S3s (mj := zm_X7_of) (n := 78) dX7_markOf_75 rfl zl_X7_146 zy_X7_of (by decide) (Nat.le_of_ble_eq_true rfl) (c_ofT hp (by decide) rfl) ?_
        refine zi_iadd (n := 79) dX7_markOf_78 rfl ?_
        refine zi_istore3 (n := 80) dX7_markOf_79 rfl (by decide) rfl ?_
        refine zi_iload2 (n := 81) dX7_markOf_80 rfl ?_
        refine zi_iconst (n := 82) (nI 1) dX7_markOf_81 rfl (by decide) ?_
        refine zi_icne (n := 85) (tgt := 89) dX7_markOf_82 rfl (by decide) (fun h82 => ?_) (fun h82 => ?_)
        · refine zi_iload2 (n := 90) dX7_markOf_89 rfl ?_
          refine zi_iconst (n := 91) (nI 3) dX7_markOf_90 rfl (by decide) ?_
          refine zi_icne (n := 94) (tgt := 102) dX7_markOf_91 rfl (by decide) (fun h91 => ?_) (fun h91 => ?_)
          · refine zi_iconst (n := 103) (nI 2) dX7_markOf_102 rfl (by decide) ?_
            refine zi_iload3 (n := 104) dX7_markOf_103 rfl ?_
            refine zi_imul (n := 105) dX7_markOf_104 rfl ?_
            exact zi_iret dX7_markOf_105 rfl (by rfl) (by rfl)
          · first | exact absurd h91 (by decide) | exact absurd rfl h91
        · first | exact absurd h82 (by decide) | exact absurd rfl h82
      · first | exact absurd h43 (by decide) | exact absurd rfl h43
  · first | exact absurd h12 (by decide) | exact absurd rfl h12
set_option maxHeartbeats 4000000 in
set_option maxRecDepth 100000 in
theorem c_sz_2 (hw : w.1 ≤ 16) (hp : p < 6) (hk : Z 169 (6 + 5 * p) = nI 2) : zCT E 4 zm_X7_sizeOf [.ref (zad E 165), .int (nI p)] (Q, zTN Z w) (some (.int (-(Z 169 (6 + 5 * p + 3) + (nI 2 * (nI p + Z 169 (6 + 5 * p + 1))))))) (Q, zTN Z (zpush (zpush (zpush (zpush (zpush (zpush w (nI 12)) (nI 11)) (nI 10)) (nI 24)) (nI 21)) (nI 20))) := by
  refine zCT.of (by decide +kernel) (Nat.le_of_ble_eq_true rfl) ?_
  refine zi_aload0 (n := 1) dX7_sizeOf_0 rfl ?_
  refine zg_X7_5 (n := 4) dX7_sizeOf_1 rfl zl_X7_19 ?_
  refine zi_iload1 (n := 5) dX7_sizeOf_4 rfl ?_
  refine zi_iconst (n := 6) (nI 0) dX7_sizeOf_5 rfl (by decide) ?_
  refine zi_S3s (mj := zm_X7_of) (n := 9) dX7_sizeOf_6 rfl zl_X7_146 zy_X7_of (by decide) (Nat.le_of_ble_eq_true rfl) (c_ofT hp (by decide) hk) ?_
  refine zi_istore2 (n := 10) dX7_sizeOf_9 rfl (by decide) rfl ?_
  refine zi_iload2 (n := 11) dX7_sizeOf_10 rfl ?_
  refine zi_iconst (n := 12) (nI 4) dX7_sizeOf_11 rfl (by decide) ?_
  refine zi_iclt (n := 15) (tgt := 21) dX7_sizeOf_12 rfl (by decide) (fun h12 => ?_) (fun h12 => ?_)
  · refine zi_iload2 (n := 22) dX7_sizeOf_21 rfl ?_
    refine zi_iconst (n := 23) (nI 2) dX7_sizeOf_22 rfl (by decide) ?_
    refine zi_icne (n := 26) (tgt := 32) dX7_sizeOf_23 rfl (by decide) (fun h23 => ?_) (fun h23 => ?_)
    · first | exact absurd h23 (by decide) | exact absurd rfl h23
    · refine zi_aload0 (n := 27) dX7_sizeOf_26 rfl ?_
      refine zi_bipush (n := 29) (nI 12) dX7_sizeOf_27 rfl (by decide) ?_
      refine zi_V1v (mj := zm_X7_began) (n := 32) dX7_sizeOf_29 rfl zl_X7_261 zy_X7_began (zrc_X7 _ _) (by decide) (Nat.le_of_ble_eq_true rfl) (c_X7_began (by repeat (first | exact hw | refine zpush_le ?_))) ?_
      refine zi_aload0 (n := 33) dX7_sizeOf_32 rfl ?_
      refine zi_bipush (n := 35) (nI 11) dX7_sizeOf_33 rfl (by decide) ?_
      refine zi_V1v (mj := zm_X7_began) (n := 38) dX7_sizeOf_35 rfl zl_X7_261 zy_X7_began (zrc_X7 _ _) (by decide) (Nat.le_of_ble_eq_true rfl) (c_X7_began (by repeat (first | exact hw | refine zpush_le ?_))) ?_
      refine zi_aload0 (n := 39) dX7_sizeOf_38 rfl ?_
      refine zi_iload1 (n := 40) dX7_sizeOf_39 rfl ?_
      refine zi_V1s (mj := zm_X7_plainSize) (n := 43) dX7_sizeOf_40 rfl zl_X7_264 zy_X7_plainSize (zrc_X7 _ _) (by decide) (Nat.le_of_ble_eq_true rfl) (c_X7_plainSize (by repeat (first | exact hw | refine zpush_le ?_)) hp) ?_
      refine zi_istore3 (n := 44) dX7_sizeOf_43 rfl (by decide) rfl ?_
      refine zi_iload3 (n := 45) dX7_sizeOf_44 rfl ?_
      refine zi_aload0 (n := 46) dX7_sizeOf_45 rfl ?_
      refine zi_iload1 (n := 47) dX7_sizeOf_46 rfl ?_
      refine zi_V1s (mj := zm_X7_markOf) (n := 50) dX7_sizeOf_47 rfl zl_X7_270 zy_X7_markOf (zrc_X7 _ _) (by decide) (Nat.le_of_ble_eq_true rfl) (c_mk_2 (by repeat (first | exact hw | refine zpush_le ?_)) hp hk) ?_
      refine zi_iadd (n := 51) dX7_sizeOf_50 rfl ?_
      refine zi_istore3 (n := 52) dX7_sizeOf_51 rfl (by decide) rfl ?_
      refine zi_iload2 (n := 53) dX7_sizeOf_52 rfl ?_
      refine zi_iconst (n := 54) (nI 2) dX7_sizeOf_53 rfl (by decide) ?_
      refine zi_icne (n := 57) (tgt := 62) dX7_sizeOf_54 rfl (by decide) (fun h54 => ?_) (fun h54 => ?_)
      · first | exact absurd h54 (by decide) | exact absurd rfl h54
      · refine zi_iload3 (n := 58) dX7_sizeOf_57 rfl ?_
        refine zi_ineg (n := 59) dX7_sizeOf_58 rfl ?_
        refine zi_goto (tgt := 63) dX7_sizeOf_59 (by decide) ?_
        exact zi_iret dX7_sizeOf_63 rfl (by rfl) (by rfl)
  · first | exact absurd h12 (by decide) | exact absurd rfl h12
set_option maxHeartbeats 4000000 in
set_option maxRecDepth 100000 in
theorem c_mk_3 (hw : w.1 ≤ 16) (hp : p < 6) (hk : Z 169 (6 + 5 * p) = nI 3) : zCT E 3 zm_X7_markOf [.ref (zad E 165), .int (nI p)] (Q, zTN Z w) (some (.int (nI p + Z 169 (6 + 5 * p + 1) - nI 1000))) (Q, zTN Z (zpush (zpush (zpush w (nI 22)) (nI 21)) (nI 20))) := by
  refine zCT.of (by decide +kernel) (Nat.le_of_ble_eq_true rfl) ?_
  refine zi_aload0 (n := 1) dX7_markOf_0 rfl ?_
  refine zg_X7_5 (n := 4) dX7_markOf_1 rfl zl_X7_19 ?_
  refine zi_iload1 (n := 5) dX7_markOf_4 rfl ?_
  refine zi_iconst (n := 6) (nI 0) dX7_markOf_5 rfl (by decide) ?_
  refine zi_S3s (mj := zm_X7_of) (n := 9) dX7_markOf_6 rfl zl_X7_146 zy_X7_of (by decide) (Nat.le_of_ble_eq_true rfl) (c_ofT hp (by decide) hk) ?_
  refine zi_istore2 (n := 10) dX7_markOf_9 rfl (by decide) rfl ?_
  refine zi_iload2 (n := 11) dX7_markOf_10 rfl ?_
  refine zi_iconst (n := 12) (nI 4) dX7_markOf_11 rfl (by decide) ?_
  refine zi_iclt (n := 15) (tgt := 35) dX7_markOf_12 rfl (by decide) (fun h12 => ?_) (fun h12 => ?_)
  · refine zi_iload2 (n := 36) dX7_markOf_35 rfl ?_
    refine zi_iconst (n := 37) (nI 1) dX7_markOf_36 rfl (by decide) ?_
    refine zi_iceq (n := 40) (tgt := 56) dX7_markOf_37 rfl (by decide) (fun h37 => ?_) (fun h37 => ?_)
    · first | exact absurd h37 (by decide) | exact absurd rfl h37
    · refine zi_aload0 (n := 41) dX7_markOf_40 rfl ?_
      refine zi_iload2 (n := 42) dX7_markOf_41 rfl ?_
      refine zi_iconst (n := 43) (nI 3) dX7_markOf_42 rfl (by decide) ?_
      refine zi_icne (n := 46) (tgt := 51) dX7_markOf_43 rfl (by decide) (fun h43 => ?_) (fun h43 => ?_)
      · first | exact absurd h43 (by decide) | exact absurd rfl h43
      · refine zi_bipush (n := 48) (nI 22) dX7_markOf_46 rfl (by decide) ?_
        refine zi_goto (tgt := 53) dX7_markOf_48 (by decide) ?_
        refine zi_V1v (mj := zm_X7_began) (n := 56) dX7_markOf_53 rfl zl_X7_261 zy_X7_began (zrc_X7 _ _) (by decide) (Nat.le_of_ble_eq_true rfl) (c_X7_began (by repeat (first | exact hw | refine zpush_le ?_))) ?_
        refine zi_aload0 (n := 57) dX7_markOf_56 rfl ?_
        refine zi_bipush (n := 59) (nI 21) dX7_markOf_57 rfl (by decide) ?_
        refine zi_V1v (mj := zm_X7_began) (n := 62) dX7_markOf_59 rfl zl_X7_261 zy_X7_began (zrc_X7 _ _) (by decide) (Nat.le_of_ble_eq_true rfl) (c_X7_began (by repeat (first | exact hw | refine zpush_le ?_))) ?_
        refine zi_aload0 (n := 63) dX7_markOf_62 rfl ?_
        refine zi_bipush (n := 65) (nI 20) dX7_markOf_63 rfl (by decide) ?_
        refine zi_V1v (mj := zm_X7_began) (n := 68) dX7_markOf_65 rfl zl_X7_261 zy_X7_began (zrc_X7 _ _) (by decide) (Nat.le_of_ble_eq_true rfl) (c_X7_began (by repeat (first | exact hw | refine zpush_le ?_))) ?_
        refine zi_iload1 (n := 69) dX7_markOf_68 rfl ?_
        refine zi_aload0 (n := 70) dX7_markOf_69 rfl ?_
        refine zg_X7_5 (n := 73) dX7_markOf_70 rfl zl_X7_19 ?_
        refine zi_iload1 (n := 74) dX7_markOf_73 rfl ?_
        refine zi_iconst (n := 75) (nI 1) dX7_markOf_74 rfl (by decide) ?_
        refine zi_S3s (mj := zm_X7_of) (n := 78) dX7_markOf_75 rfl zl_X7_146 zy_X7_of (by decide) (Nat.le_of_ble_eq_true rfl) (c_ofT hp (by decide) rfl) ?_
        refine zi_iadd (n := 79) dX7_markOf_78 rfl ?_
        refine zi_istore3 (n := 80) dX7_markOf_79 rfl (by decide) rfl ?_
        refine zi_iload2 (n := 81) dX7_markOf_80 rfl ?_
        refine zi_iconst (n := 82) (nI 1) dX7_markOf_81 rfl (by decide) ?_
        refine zi_icne (n := 85) (tgt := 89) dX7_markOf_82 rfl (by decide) (fun h82 => ?_) (fun h82 => ?_)
        · refine zi_iload2 (n := 90) dX7_markOf_89 rfl ?_
          refine zi_iconst (n := 91) (nI 3) dX7_markOf_90 rfl (by decide) ?_
          refine zi_icne (n := 94) (tgt := 102) dX7_markOf_91 rfl (by decide) (fun h91 => ?_) (fun h91 => ?_)
          · first | exact absurd h91 (by decide) | exact absurd rfl h91
          · refine zi_iload3 (n := 95) dX7_markOf_94 rfl ?_
            refine zi_sipush (n := 98) (nI 1000) dX7_markOf_95 rfl (by decide) ?_
            refine zi_isub (n := 99) dX7_markOf_98 rfl ?_
            refine zi_goto (tgt := 105) dX7_markOf_99 (by decide) ?_
            exact zi_iret dX7_markOf_105 rfl (by rfl) (by rfl)
        · first | exact absurd h82 (by decide) | exact absurd rfl h82
  · first | exact absurd h12 (by decide) | exact absurd rfl h12
set_option maxHeartbeats 4000000 in
set_option maxRecDepth 100000 in
theorem c_sz_3 (hw : w.1 ≤ 16) (hp : p < 6) (hk : Z 169 (6 + 5 * p) = nI 3) : zCT E 4 zm_X7_sizeOf [.ref (zad E 165), .int (nI p)] (Q, zTN Z w) (some (.int (Z 169 (6 + 5 * p + 3) + (nI p + Z 169 (6 + 5 * p + 1) - nI 1000)))) (Q, zTN Z (zpush (zpush (zpush (zpush (zpush w (nI 11)) (nI 10)) (nI 22)) (nI 21)) (nI 20))) := by
  refine zCT.of (by decide +kernel) (Nat.le_of_ble_eq_true rfl) ?_
  refine zi_aload0 (n := 1) dX7_sizeOf_0 rfl ?_
  refine zg_X7_5 (n := 4) dX7_sizeOf_1 rfl zl_X7_19 ?_
  refine zi_iload1 (n := 5) dX7_sizeOf_4 rfl ?_
  refine zi_iconst (n := 6) (nI 0) dX7_sizeOf_5 rfl (by decide) ?_
  refine zi_S3s (mj := zm_X7_of) (n := 9) dX7_sizeOf_6 rfl zl_X7_146 zy_X7_of (by decide) (Nat.le_of_ble_eq_true rfl) (c_ofT hp (by decide) hk) ?_
  refine zi_istore2 (n := 10) dX7_sizeOf_9 rfl (by decide) rfl ?_
  refine zi_iload2 (n := 11) dX7_sizeOf_10 rfl ?_
  refine zi_iconst (n := 12) (nI 4) dX7_sizeOf_11 rfl (by decide) ?_
  refine zi_iclt (n := 15) (tgt := 21) dX7_sizeOf_12 rfl (by decide) (fun h12 => ?_) (fun h12 => ?_)
  · refine zi_iload2 (n := 22) dX7_sizeOf_21 rfl ?_
    refine zi_iconst (n := 23) (nI 2) dX7_sizeOf_22 rfl (by decide) ?_
    refine zi_icne (n := 26) (tgt := 32) dX7_sizeOf_23 rfl (by decide) (fun h23 => ?_) (fun h23 => ?_)
    · refine zi_aload0 (n := 33) dX7_sizeOf_32 rfl ?_
      refine zi_bipush (n := 35) (nI 11) dX7_sizeOf_33 rfl (by decide) ?_
      refine zi_V1v (mj := zm_X7_began) (n := 38) dX7_sizeOf_35 rfl zl_X7_261 zy_X7_began (zrc_X7 _ _) (by decide) (Nat.le_of_ble_eq_true rfl) (c_X7_began (by repeat (first | exact hw | refine zpush_le ?_))) ?_
      refine zi_aload0 (n := 39) dX7_sizeOf_38 rfl ?_
      refine zi_iload1 (n := 40) dX7_sizeOf_39 rfl ?_
      refine zi_V1s (mj := zm_X7_plainSize) (n := 43) dX7_sizeOf_40 rfl zl_X7_264 zy_X7_plainSize (zrc_X7 _ _) (by decide) (Nat.le_of_ble_eq_true rfl) (c_X7_plainSize (by repeat (first | exact hw | refine zpush_le ?_)) hp) ?_
      refine zi_istore3 (n := 44) dX7_sizeOf_43 rfl (by decide) rfl ?_
      refine zi_iload3 (n := 45) dX7_sizeOf_44 rfl ?_
      refine zi_aload0 (n := 46) dX7_sizeOf_45 rfl ?_
      refine zi_iload1 (n := 47) dX7_sizeOf_46 rfl ?_
      refine zi_V1s (mj := zm_X7_markOf) (n := 50) dX7_sizeOf_47 rfl zl_X7_270 zy_X7_markOf (zrc_X7 _ _) (by decide) (Nat.le_of_ble_eq_true rfl) (c_mk_3 (by repeat (first | exact hw | refine zpush_le ?_)) hp hk) ?_
      refine zi_iadd (n := 51) dX7_sizeOf_50 rfl ?_
      refine zi_istore3 (n := 52) dX7_sizeOf_51 rfl (by decide) rfl ?_
      refine zi_iload2 (n := 53) dX7_sizeOf_52 rfl ?_
      refine zi_iconst (n := 54) (nI 2) dX7_sizeOf_53 rfl (by decide) ?_
      refine zi_icne (n := 57) (tgt := 62) dX7_sizeOf_54 rfl (by decide) (fun h54 => ?_) (fun h54 => ?_)
      · refine zi_iload3 (n := 63) dX7_sizeOf_62 rfl ?_
        exact zi_iret dX7_sizeOf_63 rfl (by rfl) (by rfl)
      · first | exact absurd h54 (by decide) | exact absurd rfl h54
    · first | exact absurd h23 (by decide) | exact absurd rfl h23
  · first | exact absurd h12 (by decide) | exact absurd rfl h12
set_option maxHeartbeats 4000000 in
set_option maxRecDepth 100000 in
theorem c_mk_4 (hw : w.1 ≤ 16) (hp : p < 6) (hk : Z 169 (6 + 5 * p) = nI 4) : zCT E 3 zm_X7_markOf [.ref (zad E 165), .int (nI p)] (Q, zTN Z w) (some (.int (nI p - (Z 169 (6 + 5 * p + 3) - nI 100)))) (Q, zTN Z (zpush (zpush (zpush (zpush w (nI 23)) (nI 20)) (nI 13)) (nI 10))) := by
  refine zCT.of (by decide +kernel) (Nat.le_of_ble_eq_true rfl) ?_
  refine zi_aload0 (n := 1) dX7_markOf_0 rfl ?_
  refine zg_X7_5 (n := 4) dX7_markOf_1 rfl zl_X7_19 ?_
  refine zi_iload1 (n := 5) dX7_markOf_4 rfl ?_
  refine zi_iconst (n := 6) (nI 0) dX7_markOf_5 rfl (by decide) ?_
  refine zi_S3s (mj := zm_X7_of) (n := 9) dX7_markOf_6 rfl zl_X7_146 zy_X7_of (by decide) (Nat.le_of_ble_eq_true rfl) (c_ofT hp (by decide) hk) ?_
  refine zi_istore2 (n := 10) dX7_markOf_9 rfl (by decide) rfl ?_
  refine zi_iload2 (n := 11) dX7_markOf_10 rfl ?_
  refine zi_iconst (n := 12) (nI 4) dX7_markOf_11 rfl (by decide) ?_
  refine zi_iclt (n := 15) (tgt := 35) dX7_markOf_12 rfl (by decide) (fun h12 => ?_) (fun h12 => ?_)
  · first | exact absurd h12 (by decide) | exact absurd rfl h12
  · refine zi_aload0 (n := 16) dX7_markOf_15 rfl ?_
    refine zi_bipush (n := 18) (nI 23) dX7_markOf_16 rfl (by decide) ?_
    refine zi_V1v (mj := zm_X7_began) (n := 21) dX7_markOf_18 rfl zl_X7_261 zy_X7_began (zrc_X7 _ _) (by decide) (Nat.le_of_ble_eq_true rfl) (c_X7_began (by repeat (first | exact hw | refine zpush_le ?_))) ?_
    refine zi_aload0 (n := 22) dX7_markOf_21 rfl ?_
    refine zi_bipush (n := 24) (nI 20) dX7_markOf_22 rfl (by decide) ?_
    refine zi_V1v (mj := zm_X7_began) (n := 27) dX7_markOf_24 rfl zl_X7_261 zy_X7_began (zrc_X7 _ _) (by decide) (Nat.le_of_ble_eq_true rfl) (c_X7_began (by repeat (first | exact hw | refine zpush_le ?_))) ?_
    refine zi_iload1 (n := 28) dX7_markOf_27 rfl ?_
    refine zi_aload0 (n := 29) dX7_markOf_28 rfl ?_
    refine zi_iload1 (n := 30) dX7_markOf_29 rfl ?_
    refine zi_V1s (mj := zm_X7_doubleSize) (n := 33) dX7_markOf_30 rfl zl_X7_267 zy_X7_doubleSize (zrc_X7 _ _) (by decide) (Nat.le_of_ble_eq_true rfl) (c_dbl_4 (by repeat (first | exact hw | refine zpush_le ?_)) hp hk) ?_
    refine zi_isub (n := 34) dX7_markOf_33 rfl ?_
    exact zi_iret dX7_markOf_34 rfl (by rfl) (by rfl)
set_option maxHeartbeats 4000000 in
set_option maxRecDepth 100000 in
theorem c_sz_4 (hw : w.1 ≤ 16) (hp : p < 6) (hk : Z 169 (6 + 5 * p) = nI 4) : zCT E 4 zm_X7_sizeOf [.ref (zad E 165), .int (nI p)] (Q, zTN Z w) (some (.int (Z 169 (6 + 5 * p + 3) - nI 100))) (Q, zTN Z (zpush (zpush w (nI 13)) (nI 10))) := by
  refine zCT.of (by decide +kernel) (Nat.le_of_ble_eq_true rfl) ?_
  refine zi_aload0 (n := 1) dX7_sizeOf_0 rfl ?_
  refine zg_X7_5 (n := 4) dX7_sizeOf_1 rfl zl_X7_19 ?_
  refine zi_iload1 (n := 5) dX7_sizeOf_4 rfl ?_
  refine zi_iconst (n := 6) (nI 0) dX7_sizeOf_5 rfl (by decide) ?_
  refine zi_S3s (mj := zm_X7_of) (n := 9) dX7_sizeOf_6 rfl zl_X7_146 zy_X7_of (by decide) (Nat.le_of_ble_eq_true rfl) (c_ofT hp (by decide) hk) ?_
  refine zi_istore2 (n := 10) dX7_sizeOf_9 rfl (by decide) rfl ?_
  refine zi_iload2 (n := 11) dX7_sizeOf_10 rfl ?_
  refine zi_iconst (n := 12) (nI 4) dX7_sizeOf_11 rfl (by decide) ?_
  refine zi_iclt (n := 15) (tgt := 21) dX7_sizeOf_12 rfl (by decide) (fun h12 => ?_) (fun h12 => ?_)
  · first | exact absurd h12 (by decide) | exact absurd rfl h12
  · refine zi_aload0 (n := 16) dX7_sizeOf_15 rfl ?_
    refine zi_iload1 (n := 17) dX7_sizeOf_16 rfl ?_
    refine zi_V1s (mj := zm_X7_doubleSize) (n := 20) dX7_sizeOf_17 rfl zl_X7_267 zy_X7_doubleSize (zrc_X7 _ _) (by decide) (Nat.le_of_ble_eq_true rfl) (c_dbl_4 (by repeat (first | exact hw | refine zpush_le ?_)) hp hk) ?_
    exact zi_iret dX7_sizeOf_20 rfl (by rfl) (by rfl)
set_option maxHeartbeats 4000000 in
set_option maxRecDepth 100000 in
theorem c_mk_5 (hw : w.1 ≤ 16) (hp : p < 6) (hk : Z 169 (6 + 5 * p) = nI 5) : zCT E 3 zm_X7_markOf [.ref (zad E 165), .int (nI p)] (Q, zTN Z w) (some (.int (nI p - (nI 2 * (Z 169 (6 + 5 * p + 3) - nI 100))))) (Q, zTN Z (zpush (zpush (zpush (zpush (zpush w (nI 23)) (nI 20)) (nI 14)) (nI 13)) (nI 10))) := by
  refine zCT.of (by decide +kernel) (Nat.le_of_ble_eq_true rfl) ?_
  refine zi_aload0 (n := 1) dX7_markOf_0 rfl ?_
  refine zg_X7_5 (n := 4) dX7_markOf_1 rfl zl_X7_19 ?_
  refine zi_iload1 (n := 5) dX7_markOf_4 rfl ?_
  refine zi_iconst (n := 6) (nI 0) dX7_markOf_5 rfl (by decide) ?_
  refine zi_S3s (mj := zm_X7_of) (n := 9) dX7_markOf_6 rfl zl_X7_146 zy_X7_of (by decide) (Nat.le_of_ble_eq_true rfl) (c_ofT hp (by decide) hk) ?_
  refine zi_istore2 (n := 10) dX7_markOf_9 rfl (by decide) rfl ?_
  refine zi_iload2 (n := 11) dX7_markOf_10 rfl ?_
  refine zi_iconst (n := 12) (nI 4) dX7_markOf_11 rfl (by decide) ?_
  refine zi_iclt (n := 15) (tgt := 35) dX7_markOf_12 rfl (by decide) (fun h12 => ?_) (fun h12 => ?_)
  · first | exact absurd h12 (by decide) | exact absurd rfl h12
  · refine zi_aload0 (n := 16) dX7_markOf_15 rfl ?_
    refine zi_bipush (n := 18) (nI 23) dX7_markOf_16 rfl (by decide) ?_
    refine zi_V1v (mj := zm_X7_began) (n := 21) dX7_markOf_18 rfl zl_X7_261 zy_X7_began (zrc_X7 _ _) (by decide) (Nat.le_of_ble_eq_true rfl) (c_X7_began (by repeat (first | exact hw | refine zpush_le ?_))) ?_
    refine zi_aload0 (n := 22) dX7_markOf_21 rfl ?_
    refine zi_bipush (n := 24) (nI 20) dX7_markOf_22 rfl (by decide) ?_
    refine zi_V1v (mj := zm_X7_began) (n := 27) dX7_markOf_24 rfl zl_X7_261 zy_X7_began (zrc_X7 _ _) (by decide) (Nat.le_of_ble_eq_true rfl) (c_X7_began (by repeat (first | exact hw | refine zpush_le ?_))) ?_
    refine zi_iload1 (n := 28) dX7_markOf_27 rfl ?_
    refine zi_aload0 (n := 29) dX7_markOf_28 rfl ?_
    refine zi_iload1 (n := 30) dX7_markOf_29 rfl ?_
    refine zi_V1s (mj := zm_X7_doubleSize) (n := 33) dX7_markOf_30 rfl zl_X7_267 zy_X7_doubleSize (zrc_X7 _ _) (by decide) (Nat.le_of_ble_eq_true rfl) (c_dbl_5 (by repeat (first | exact hw | refine zpush_le ?_)) hp hk) ?_
    refine zi_isub (n := 34) dX7_markOf_33 rfl ?_
    exact zi_iret dX7_markOf_34 rfl (by rfl) (by rfl)
set_option maxHeartbeats 4000000 in
set_option maxRecDepth 100000 in
theorem c_sz_5 (hw : w.1 ≤ 16) (hp : p < 6) (hk : Z 169 (6 + 5 * p) = nI 5) : zCT E 4 zm_X7_sizeOf [.ref (zad E 165), .int (nI p)] (Q, zTN Z w) (some (.int (nI 2 * (Z 169 (6 + 5 * p + 3) - nI 100)))) (Q, zTN Z (zpush (zpush (zpush w (nI 14)) (nI 13)) (nI 10))) := by
  refine zCT.of (by decide +kernel) (Nat.le_of_ble_eq_true rfl) ?_
  refine zi_aload0 (n := 1) dX7_sizeOf_0 rfl ?_
  refine zg_X7_5 (n := 4) dX7_sizeOf_1 rfl zl_X7_19 ?_
  refine zi_iload1 (n := 5) dX7_sizeOf_4 rfl ?_
  refine zi_iconst (n := 6) (nI 0) dX7_sizeOf_5 rfl (by decide) ?_
  refine zi_S3s (mj := zm_X7_of) (n := 9) dX7_sizeOf_6 rfl zl_X7_146 zy_X7_of (by decide) (Nat.le_of_ble_eq_true rfl) (c_ofT hp (by decide) hk) ?_
  refine zi_istore2 (n := 10) dX7_sizeOf_9 rfl (by decide) rfl ?_
  refine zi_iload2 (n := 11) dX7_sizeOf_10 rfl ?_
  refine zi_iconst (n := 12) (nI 4) dX7_sizeOf_11 rfl (by decide) ?_
  refine zi_iclt (n := 15) (tgt := 21) dX7_sizeOf_12 rfl (by decide) (fun h12 => ?_) (fun h12 => ?_)
  · first | exact absurd h12 (by decide) | exact absurd rfl h12
  · refine zi_aload0 (n := 16) dX7_sizeOf_15 rfl ?_
    refine zi_iload1 (n := 17) dX7_sizeOf_16 rfl ?_
    refine zi_V1s (mj := zm_X7_doubleSize) (n := 20) dX7_sizeOf_17 rfl zl_X7_267 zy_X7_doubleSize (zrc_X7 _ _) (by decide) (Nat.le_of_ble_eq_true rfl) (c_dbl_5 (by repeat (first | exact hw | refine zpush_le ?_)) hp hk) ?_
    exact zi_iret dX7_sizeOf_20 rfl (by rfl) (by rfl)
set_option maxHeartbeats 4000000 in
set_option maxRecDepth 100000 in
theorem m_ask_bad (h0 : Z 165 0 = nI 0) {x y : Int32} (hb : ¬ ((nI 0 ≤ x ∧ x ≤ Z 169 0 - nI 1) ∧ (nI 0 ≤ y ∧ y ≤ nI 1))) : zCT E 5 zm_X7_ask [.ref (zad E 165), .int x, .int y] (Q, Z) (some (.int zBAD)) (Q, Z) := by
  refine zCT.of (by decide +kernel) (Nat.le_of_ble_eq_true rfl) ?_
  refine zi_aload0 (n := 1) dX7_ask_0 rfl ?_
  refine zi_iconst (n := 2) (nI 0) dX7_ask_1 rfl (by decide) ?_
  refine zp_X7_0 (n := 5) dX7_ask_2 rfl zl_X7_44 (zt0 h0) ?_
  refine zi_aload0 (n := 6) dX7_ask_5 rfl ?_
  refine zi_iload1 (n := 7) dX7_ask_6 rfl ?_
  refine zi_V1s (mj := zm_X7_isPaper) (n := 10) dX7_ask_7 rfl zl_X7_180 zy_X7_isPaper (zrc_X7 _ _) (by decide) (Nat.le_of_ble_eq_true rfl) (c_X7_isPaper) ?_
  refine zi_ifeq_b (n := 13) (tgt := 23) dX7_ask_10 rfl (by decide) (fun h10 => ?_) (fun h10 => ?_)
  · refine zi_ldc (n := 25) dX7_ask_23 rfl zl_X7_64 ?_
    exact zi_iret dX7_ask_25 rfl (by rfl) (by rfl)
  · refine zi_iload2 (n := 14) dX7_ask_13 rfl ?_
    refine zi_i2l (n := 15) dX7_ask_14 rfl ?_
    refine zi_lconst (n := 16) ((nI 0).toInt64) dX7_ask_15 rfl (by decide) ?_
    refine zi_lconst (n := 17) ((nI 1).toInt64) dX7_ask_16 rfl (by decide) ?_
    refine zi_S3s (mj := zm_X7_in) (n := 20) dX7_ask_17 rfl zl_X7_54 zy_X7_in (by decide) (Nat.le_of_ble_eq_true rfl) (c_X7_in) ?_
    refine zi_ifne_b (n := 23) (tgt := 26) dX7_ask_20 rfl (by decide) (fun h20 => ?_) (fun h20 => ?_)
    · exact absurd ⟨h10, h20⟩ hb
    · refine zi_ldc (n := 25) dX7_ask_23 rfl zl_X7_64 ?_
      exact zi_iret dX7_ask_25 rfl (by rfl) (by rfl)
set_option maxHeartbeats 4000000 in
set_option maxRecDepth 100000 in
theorem m_ask_10 (h0 : Z 165 0 = nI 0) (hn : Z 169 0 = nI n) (h6 : n ≤ 6) {p : Nat} (hp : p < n) (hk : Z 169 (6 + 5 * p) = nI 1) {t : Nat} (ht : Z 165 22 = nI t) : zCT E 5 zm_X7_ask [.ref (zad E 165), .int (nI p), .int (nI 0)] (Q, Z) (some (.int (Z 169 (6 + 5 * p + 3) + (nI p + Z 169 (6 + 5 * p + 1))))) (Q, zTN Z (zpush (zpush (zpush (zpush (0, Z 176) (nI 11)) (nI 10)) (nI 21)) (nI 20))) := by
  refine zCT.of (by decide +kernel) (Nat.le_of_ble_eq_true rfl) ?_
  have a1 := zisP hn h6 hp
  have a3 : nI 0 ≤ nI 0 ∧ nI 0 ≤ nI 1 := by decide
  have hw : ((0, Z 176) : zTf).1 ≤ 16 := Nat.zero_le 16
  have eM : ((Q, zsu Z 165 22 (nI 0)) : zMem) = (Q, zTN Z (0, Z 176)) := by
    have := zTN_p (Q := Q) (Z := Z) (w := (t, Z 176)) 0
    rw [zTN_of ht] at this
    exact this
  refine zi_aload0 (n := 1) dX7_ask_0 rfl ?_
  refine zi_iconst (n := 2) (nI 0) dX7_ask_1 rfl (by decide) ?_
  refine zp_X7_0 (n := 5) dX7_ask_2 rfl zl_X7_44 (zt0 h0) ?_
  refine zi_aload0 (n := 6) dX7_ask_5 rfl ?_
  refine zi_iload1 (n := 7) dX7_ask_6 rfl ?_
  refine zi_V1s (mj := zm_X7_isPaper) (n := 10) dX7_ask_7 rfl zl_X7_180 zy_X7_isPaper (zrc_X7 _ _) (by decide) (Nat.le_of_ble_eq_true rfl) (c_X7_isPaper) ?_
  refine zi_ifeq_b (n := 13) (tgt := 23) dX7_ask_10 rfl (by decide) (fun h10 => ?_) (fun h10 => ?_)
  · first | exact absurd a1 h10 | exact absurd h10 a1
  · refine zi_iload2 (n := 14) dX7_ask_13 rfl ?_
    refine zi_i2l (n := 15) dX7_ask_14 rfl ?_
    refine zi_lconst (n := 16) ((nI 0).toInt64) dX7_ask_15 rfl (by decide) ?_
    refine zi_lconst (n := 17) ((nI 1).toInt64) dX7_ask_16 rfl (by decide) ?_
    refine zi_S3s (mj := zm_X7_in) (n := 20) dX7_ask_17 rfl zl_X7_54 zy_X7_in (by decide) (Nat.le_of_ble_eq_true rfl) (c_X7_in) ?_
    refine zi_ifne_b (n := 23) (tgt := 26) dX7_ask_20 rfl (by decide) (fun h20 => ?_) (fun h20 => ?_)
    · refine zi_aload0 (n := 27) dX7_ask_26 rfl ?_
      refine zi_iconst (n := 28) (nI 0) dX7_ask_27 rfl (by decide) ?_
      refine zp_X7_22 (n := 31) dX7_ask_28 rfl zl_X7_258 eM ?_
      refine zi_iload2 (n := 32) dX7_ask_31 rfl ?_
      refine zi_ifne (n := 35) (tgt := 43) dX7_ask_32 rfl (by decide) (fun h32 => ?_) (fun h32 => ?_)
      · exact absurd rfl h32
      · refine zi_aload0 (n := 36) dX7_ask_35 rfl ?_
        refine zi_iload1 (n := 37) dX7_ask_36 rfl ?_
        refine zi_V1s (mj := zm_X7_sizeOf) (n := 40) dX7_ask_37 rfl zl_X7_273 zy_X7_sizeOf (zrc_X7 _ _) (by decide) (Nat.le_of_ble_eq_true rfl) (c_sz_1 hw (by omega) hk) ?_
        refine zi_goto (tgt := 48) dX7_ask_40 (by decide) ?_
        exact zi_iret dX7_ask_48 rfl (by rfl) (by rfl)
    · first | exact absurd a3 h20 | exact absurd h20 a3
set_option maxHeartbeats 4000000 in
set_option maxRecDepth 100000 in
theorem m_ask_11 (h0 : Z 165 0 = nI 0) (hn : Z 169 0 = nI n) (h6 : n ≤ 6) {p : Nat} (hp : p < n) (hk : Z 169 (6 + 5 * p) = nI 1) {t : Nat} (ht : Z 165 22 = nI t) : zCT E 5 zm_X7_ask [.ref (zad E 165), .int (nI p), .int (nI 1)] (Q, Z) (some (.int (nI p + Z 169 (6 + 5 * p + 1)))) (Q, zTN Z (zpush (zpush (0, Z 176) (nI 21)) (nI 20))) := by
  refine zCT.of (by decide +kernel) (Nat.le_of_ble_eq_true rfl) ?_
  have a1 := zisP hn h6 hp
  have a3 : nI 0 ≤ nI 1 ∧ nI 1 ≤ nI 1 := by decide
  have hw : ((0, Z 176) : zTf).1 ≤ 16 := Nat.zero_le 16
  have eM : ((Q, zsu Z 165 22 (nI 0)) : zMem) = (Q, zTN Z (0, Z 176)) := by
    have := zTN_p (Q := Q) (Z := Z) (w := (t, Z 176)) 0
    rw [zTN_of ht] at this
    exact this
  refine zi_aload0 (n := 1) dX7_ask_0 rfl ?_
  refine zi_iconst (n := 2) (nI 0) dX7_ask_1 rfl (by decide) ?_
  refine zp_X7_0 (n := 5) dX7_ask_2 rfl zl_X7_44 (zt0 h0) ?_
  refine zi_aload0 (n := 6) dX7_ask_5 rfl ?_
  refine zi_iload1 (n := 7) dX7_ask_6 rfl ?_
  refine zi_V1s (mj := zm_X7_isPaper) (n := 10) dX7_ask_7 rfl zl_X7_180 zy_X7_isPaper (zrc_X7 _ _) (by decide) (Nat.le_of_ble_eq_true rfl) (c_X7_isPaper) ?_
  refine zi_ifeq_b (n := 13) (tgt := 23) dX7_ask_10 rfl (by decide) (fun h10 => ?_) (fun h10 => ?_)
  · first | exact absurd a1 h10 | exact absurd h10 a1
  · refine zi_iload2 (n := 14) dX7_ask_13 rfl ?_
    refine zi_i2l (n := 15) dX7_ask_14 rfl ?_
    refine zi_lconst (n := 16) ((nI 0).toInt64) dX7_ask_15 rfl (by decide) ?_
    refine zi_lconst (n := 17) ((nI 1).toInt64) dX7_ask_16 rfl (by decide) ?_
    refine zi_S3s (mj := zm_X7_in) (n := 20) dX7_ask_17 rfl zl_X7_54 zy_X7_in (by decide) (Nat.le_of_ble_eq_true rfl) (c_X7_in) ?_
    refine zi_ifne_b (n := 23) (tgt := 26) dX7_ask_20 rfl (by decide) (fun h20 => ?_) (fun h20 => ?_)
    · refine zi_aload0 (n := 27) dX7_ask_26 rfl ?_
      refine zi_iconst (n := 28) (nI 0) dX7_ask_27 rfl (by decide) ?_
      refine zp_X7_22 (n := 31) dX7_ask_28 rfl zl_X7_258 eM ?_
      refine zi_iload2 (n := 32) dX7_ask_31 rfl ?_
      refine zi_ifne (n := 35) (tgt := 43) dX7_ask_32 rfl (by decide) (fun h32 => ?_) (fun h32 => ?_)
      · refine zi_aload0 (n := 44) dX7_ask_43 rfl ?_
        refine zi_iload1 (n := 45) dX7_ask_44 rfl ?_
        refine zi_V1s (mj := zm_X7_markOf) (n := 48) dX7_ask_45 rfl zl_X7_270 zy_X7_markOf (zrc_X7 _ _) (by decide) (Nat.le_of_ble_eq_true rfl) (c_mk_1 hw (by omega) hk) ?_
        exact zi_iret dX7_ask_48 rfl (by rfl) (by rfl)
      · exact absurd h32 (by decide)
    · first | exact absurd a3 h20 | exact absurd h20 a3
set_option maxHeartbeats 4000000 in
set_option maxRecDepth 100000 in
theorem m_ask_20 (h0 : Z 165 0 = nI 0) (hn : Z 169 0 = nI n) (h6 : n ≤ 6) {p : Nat} (hp : p < n) (hk : Z 169 (6 + 5 * p) = nI 2) {t : Nat} (ht : Z 165 22 = nI t) : zCT E 5 zm_X7_ask [.ref (zad E 165), .int (nI p), .int (nI 0)] (Q, Z) (some (.int (-(Z 169 (6 + 5 * p + 3) + (nI 2 * (nI p + Z 169 (6 + 5 * p + 1))))))) (Q, zTN Z (zpush (zpush (zpush (zpush (zpush (zpush (0, Z 176) (nI 12)) (nI 11)) (nI 10)) (nI 24)) (nI 21)) (nI 20))) := by
  refine zCT.of (by decide +kernel) (Nat.le_of_ble_eq_true rfl) ?_
  have a1 := zisP hn h6 hp
  have a3 : nI 0 ≤ nI 0 ∧ nI 0 ≤ nI 1 := by decide
  have hw : ((0, Z 176) : zTf).1 ≤ 16 := Nat.zero_le 16
  have eM : ((Q, zsu Z 165 22 (nI 0)) : zMem) = (Q, zTN Z (0, Z 176)) := by
    have := zTN_p (Q := Q) (Z := Z) (w := (t, Z 176)) 0
    rw [zTN_of ht] at this
    exact this
  refine zi_aload0 (n := 1) dX7_ask_0 rfl ?_
  refine zi_iconst (n := 2) (nI 0) dX7_ask_1 rfl (by decide) ?_
  refine zp_X7_0 (n := 5) dX7_ask_2 rfl zl_X7_44 (zt0 h0) ?_
  refine zi_aload0 (n := 6) dX7_ask_5 rfl ?_
  refine zi_iload1 (n := 7) dX7_ask_6 rfl ?_
  refine zi_V1s (mj := zm_X7_isPaper) (n := 10) dX7_ask_7 rfl zl_X7_180 zy_X7_isPaper (zrc_X7 _ _) (by decide) (Nat.le_of_ble_eq_true rfl) (c_X7_isPaper) ?_
  refine zi_ifeq_b (n := 13) (tgt := 23) dX7_ask_10 rfl (by decide) (fun h10 => ?_) (fun h10 => ?_)
  · first | exact absurd a1 h10 | exact absurd h10 a1
  · refine zi_iload2 (n := 14) dX7_ask_13 rfl ?_
    refine zi_i2l (n := 15) dX7_ask_14 rfl ?_
    refine zi_lconst (n := 16) ((nI 0).toInt64) dX7_ask_15 rfl (by decide) ?_
    refine zi_lconst (n := 17) ((nI 1).toInt64) dX7_ask_16 rfl (by decide) ?_
    refine zi_S3s (mj := zm_X7_in) (n := 20) dX7_ask_17 rfl zl_X7_54 zy_X7_in (by decide) (Nat.le_of_ble_eq_true rfl) (c_X7_in) ?_
    refine zi_ifne_b (n := 23) (tgt := 26) dX7_ask_20 rfl (by decide) (fun h20 => ?_) (fun h20 => ?_)
    · refine zi_aload0 (n := 27) dX7_ask_26 rfl ?_
      refine zi_iconst (n := 28) (nI 0) dX7_ask_27 rfl (by decide) ?_
      refine zp_X7_22 (n := 31) dX7_ask_28 rfl zl_X7_258 eM ?_
      refine zi_iload2 (n := 32) dX7_ask_31 rfl ?_
      refine zi_ifne (n := 35) (tgt := 43) dX7_ask_32 rfl (by decide) (fun h32 => ?_) (fun h32 => ?_)
      · exact absurd rfl h32
      · refine zi_aload0 (n := 36) dX7_ask_35 rfl ?_
        refine zi_iload1 (n := 37) dX7_ask_36 rfl ?_
        refine zi_V1s (mj := zm_X7_sizeOf) (n := 40) dX7_ask_37 rfl zl_X7_273 zy_X7_sizeOf (zrc_X7 _ _) (by decide) (Nat.le_of_ble_eq_true rfl) (c_sz_2 hw (by omega) hk) ?_
        refine zi_goto (tgt := 48) dX7_ask_40 (by decide) ?_
        exact zi_iret dX7_ask_48 rfl (by rfl) (by rfl)
    · first | exact absurd a3 h20 | exact absurd h20 a3
set_option maxHeartbeats 4000000 in
set_option maxRecDepth 100000 in
theorem m_ask_21 (h0 : Z 165 0 = nI 0) (hn : Z 169 0 = nI n) (h6 : n ≤ 6) {p : Nat} (hp : p < n) (hk : Z 169 (6 + 5 * p) = nI 2) {t : Nat} (ht : Z 165 22 = nI t) : zCT E 5 zm_X7_ask [.ref (zad E 165), .int (nI p), .int (nI 1)] (Q, Z) (some (.int (nI 2 * (nI p + Z 169 (6 + 5 * p + 1))))) (Q, zTN Z (zpush (zpush (zpush (0, Z 176) (nI 24)) (nI 21)) (nI 20))) := by
  refine zCT.of (by decide +kernel) (Nat.le_of_ble_eq_true rfl) ?_
  have a1 := zisP hn h6 hp
  have a3 : nI 0 ≤ nI 1 ∧ nI 1 ≤ nI 1 := by decide
  have hw : ((0, Z 176) : zTf).1 ≤ 16 := Nat.zero_le 16
  have eM : ((Q, zsu Z 165 22 (nI 0)) : zMem) = (Q, zTN Z (0, Z 176)) := by
    have := zTN_p (Q := Q) (Z := Z) (w := (t, Z 176)) 0
    rw [zTN_of ht] at this
    exact this
  refine zi_aload0 (n := 1) dX7_ask_0 rfl ?_
  refine zi_iconst (n := 2) (nI 0) dX7_ask_1 rfl (by decide) ?_
  refine zp_X7_0 (n := 5) dX7_ask_2 rfl zl_X7_44 (zt0 h0) ?_
  refine zi_aload0 (n := 6) dX7_ask_5 rfl ?_
  refine zi_iload1 (n := 7) dX7_ask_6 rfl ?_
  refine zi_V1s (mj := zm_X7_isPaper) (n := 10) dX7_ask_7 rfl zl_X7_180 zy_X7_isPaper (zrc_X7 _ _) (by decide) (Nat.le_of_ble_eq_true rfl) (c_X7_isPaper) ?_
  refine zi_ifeq_b (n := 13) (tgt := 23) dX7_ask_10 rfl (by decide) (fun h10 => ?_) (fun h10 => ?_)
  · first | exact absurd a1 h10 | exact absurd h10 a1
  · refine zi_iload2 (n := 14) dX7_ask_13 rfl ?_
    refine zi_i2l (n := 15) dX7_ask_14 rfl ?_
    refine zi_lconst (n := 16) ((nI 0).toInt64) dX7_ask_15 rfl (by decide) ?_
    refine zi_lconst (n := 17) ((nI 1).toInt64) dX7_ask_16 rfl (by decide) ?_
    refine zi_S3s (mj := zm_X7_in) (n := 20) dX7_ask_17 rfl zl_X7_54 zy_X7_in (by decide) (Nat.le_of_ble_eq_true rfl) (c_X7_in) ?_
    refine zi_ifne_b (n := 23) (tgt := 26) dX7_ask_20 rfl (by decide) (fun h20 => ?_) (fun h20 => ?_)
    · refine zi_aload0 (n := 27) dX7_ask_26 rfl ?_
      refine zi_iconst (n := 28) (nI 0) dX7_ask_27 rfl (by decide) ?_
      refine zp_X7_22 (n := 31) dX7_ask_28 rfl zl_X7_258 eM ?_
      refine zi_iload2 (n := 32) dX7_ask_31 rfl ?_
      refine zi_ifne (n := 35) (tgt := 43) dX7_ask_32 rfl (by decide) (fun h32 => ?_) (fun h32 => ?_)
      · refine zi_aload0 (n := 44) dX7_ask_43 rfl ?_
        refine zi_iload1 (n := 45) dX7_ask_44 rfl ?_
        refine zi_V1s (mj := zm_X7_markOf) (n := 48) dX7_ask_45 rfl zl_X7_270 zy_X7_markOf (zrc_X7 _ _) (by decide) (Nat.le_of_ble_eq_true rfl) (c_mk_2 hw (by omega) hk) ?_
        exact zi_iret dX7_ask_48 rfl (by rfl) (by rfl)
      · exact absurd h32 (by decide)
    · first | exact absurd a3 h20 | exact absurd h20 a3
set_option maxHeartbeats 4000000 in
set_option maxRecDepth 100000 in
theorem m_ask_30 (h0 : Z 165 0 = nI 0) (hn : Z 169 0 = nI n) (h6 : n ≤ 6) {p : Nat} (hp : p < n) (hk : Z 169 (6 + 5 * p) = nI 3) {t : Nat} (ht : Z 165 22 = nI t) : zCT E 5 zm_X7_ask [.ref (zad E 165), .int (nI p), .int (nI 0)] (Q, Z) (some (.int (Z 169 (6 + 5 * p + 3) + (nI p + Z 169 (6 + 5 * p + 1) - nI 1000)))) (Q, zTN Z (zpush (zpush (zpush (zpush (zpush (0, Z 176) (nI 11)) (nI 10)) (nI 22)) (nI 21)) (nI 20))) := by
  refine zCT.of (by decide +kernel) (Nat.le_of_ble_eq_true rfl) ?_
  have a1 := zisP hn h6 hp
  have a3 : nI 0 ≤ nI 0 ∧ nI 0 ≤ nI 1 := by decide
  have hw : ((0, Z 176) : zTf).1 ≤ 16 := Nat.zero_le 16
  have eM : ((Q, zsu Z 165 22 (nI 0)) : zMem) = (Q, zTN Z (0, Z 176)) := by
    have := zTN_p (Q := Q) (Z := Z) (w := (t, Z 176)) 0
    rw [zTN_of ht] at this
    exact this
  refine zi_aload0 (n := 1) dX7_ask_0 rfl ?_
  refine zi_iconst (n := 2) (nI 0) dX7_ask_1 rfl (by decide) ?_
  refine zp_X7_0 (n := 5) dX7_ask_2 rfl zl_X7_44 (zt0 h0) ?_
  refine zi_aload0 (n := 6) dX7_ask_5 rfl ?_
  refine zi_iload1 (n := 7) dX7_ask_6 rfl ?_
  refine zi_V1s (mj := zm_X7_isPaper) (n := 10) dX7_ask_7 rfl zl_X7_180 zy_X7_isPaper (zrc_X7 _ _) (by decide) (Nat.le_of_ble_eq_true rfl) (c_X7_isPaper) ?_
  refine zi_ifeq_b (n := 13) (tgt := 23) dX7_ask_10 rfl (by decide) (fun h10 => ?_) (fun h10 => ?_)
  · first | exact absurd a1 h10 | exact absurd h10 a1
  · refine zi_iload2 (n := 14) dX7_ask_13 rfl ?_
    refine zi_i2l (n := 15) dX7_ask_14 rfl ?_
    refine zi_lconst (n := 16) ((nI 0).toInt64) dX7_ask_15 rfl (by decide) ?_
    refine zi_lconst (n := 17) ((nI 1).toInt64) dX7_ask_16 rfl (by decide) ?_
    refine zi_S3s (mj := zm_X7_in) (n := 20) dX7_ask_17 rfl zl_X7_54 zy_X7_in (by decide) (Nat.le_of_ble_eq_true rfl) (c_X7_in) ?_
    refine zi_ifne_b (n := 23) (tgt := 26) dX7_ask_20 rfl (by decide) (fun h20 => ?_) (fun h20 => ?_)
    · refine zi_aload0 (n := 27) dX7_ask_26 rfl ?_
      refine zi_iconst (n := 28) (nI 0) dX7_ask_27 rfl (by decide) ?_
      refine zp_X7_22 (n := 31) dX7_ask_28 rfl zl_X7_258 eM ?_
      refine zi_iload2 (n := 32) dX7_ask_31 rfl ?_
      refine zi_ifne (n := 35) (tgt := 43) dX7_ask_32 rfl (by decide) (fun h32 => ?_) (fun h32 => ?_)
      · exact absurd rfl h32
      · refine zi_aload0 (n := 36) dX7_ask_35 rfl ?_
        refine zi_iload1 (n := 37) dX7_ask_36 rfl ?_
        refine zi_V1s (mj := zm_X7_sizeOf) (n := 40) dX7_ask_37 rfl zl_X7_273 zy_X7_sizeOf (zrc_X7 _ _) (by decide) (Nat.le_of_ble_eq_true rfl) (c_sz_3 hw (by omega) hk) ?_
        refine zi_goto (tgt := 48) dX7_ask_40 (by decide) ?_
        exact zi_iret dX7_ask_48 rfl (by rfl) (by rfl)
    · first | exact absurd a3 h20 | exact absurd h20 a3
set_option maxHeartbeats 4000000 in
set_option maxRecDepth 100000 in
theorem m_ask_31 (h0 : Z 165 0 = nI 0) (hn : Z 169 0 = nI n) (h6 : n ≤ 6) {p : Nat} (hp : p < n) (hk : Z 169 (6 + 5 * p) = nI 3) {t : Nat} (ht : Z 165 22 = nI t) : zCT E 5 zm_X7_ask [.ref (zad E 165), .int (nI p), .int (nI 1)] (Q, Z) (some (.int (nI p + Z 169 (6 + 5 * p + 1) - nI 1000))) (Q, zTN Z (zpush (zpush (zpush (0, Z 176) (nI 22)) (nI 21)) (nI 20))) := by
  refine zCT.of (by decide +kernel) (Nat.le_of_ble_eq_true rfl) ?_
  have a1 := zisP hn h6 hp
  have a3 : nI 0 ≤ nI 1 ∧ nI 1 ≤ nI 1 := by decide
  have hw : ((0, Z 176) : zTf).1 ≤ 16 := Nat.zero_le 16
  have eM : ((Q, zsu Z 165 22 (nI 0)) : zMem) = (Q, zTN Z (0, Z 176)) := by
    have := zTN_p (Q := Q) (Z := Z) (w := (t, Z 176)) 0
    rw [zTN_of ht] at this
    exact this
  refine zi_aload0 (n := 1) dX7_ask_0 rfl ?_
  refine zi_iconst (n := 2) (nI 0) dX7_ask_1 rfl (by decide) ?_
  refine zp_X7_0 (n := 5) dX7_ask_2 rfl zl_X7_44 (zt0 h0) ?_
  refine zi_aload0 (n := 6) dX7_ask_5 rfl ?_
  refine zi_iload1 (n := 7) dX7_ask_6 rfl ?_
  refine zi_V1s (mj := zm_X7_isPaper) (n := 10) dX7_ask_7 rfl zl_X7_180 zy_X7_isPaper (zrc_X7 _ _) (by decide) (Nat.le_of_ble_eq_true rfl) (c_X7_isPaper) ?_
  refine zi_ifeq_b (n := 13) (tgt := 23) dX7_ask_10 rfl (by decide) (fun h10 => ?_) (fun h10 => ?_)
  · first | exact absurd a1 h10 | exact absurd h10 a1
  · refine zi_iload2 (n := 14) dX7_ask_13 rfl ?_
    refine zi_i2l (n := 15) dX7_ask_14 rfl ?_
    refine zi_lconst (n := 16) ((nI 0).toInt64) dX7_ask_15 rfl (by decide) ?_
    refine zi_lconst (n := 17) ((nI 1).toInt64) dX7_ask_16 rfl (by decide) ?_
    refine zi_S3s (mj := zm_X7_in) (n := 20) dX7_ask_17 rfl zl_X7_54 zy_X7_in (by decide) (Nat.le_of_ble_eq_true rfl) (c_X7_in) ?_
    refine zi_ifne_b (n := 23) (tgt := 26) dX7_ask_20 rfl (by decide) (fun h20 => ?_) (fun h20 => ?_)
    · refine zi_aload0 (n := 27) dX7_ask_26 rfl ?_
      refine zi_iconst (n := 28) (nI 0) dX7_ask_27 rfl (by decide) ?_
      refine zp_X7_22 (n := 31) dX7_ask_28 rfl zl_X7_258 eM ?_
      refine zi_iload2 (n := 32) dX7_ask_31 rfl ?_
      refine zi_ifne (n := 35) (tgt := 43) dX7_ask_32 rfl (by decide) (fun h32 => ?_) (fun h32 => ?_)
      · refine zi_aload0 (n := 44) dX7_ask_43 rfl ?_
        refine zi_iload1 (n := 45) dX7_ask_44 rfl ?_
        refine zi_V1s (mj := zm_X7_markOf) (n := 48) dX7_ask_45 rfl zl_X7_270 zy_X7_markOf (zrc_X7 _ _) (by decide) (Nat.le_of_ble_eq_true rfl) (c_mk_3 hw (by omega) hk) ?_
        exact zi_iret dX7_ask_48 rfl (by rfl) (by rfl)
      · exact absurd h32 (by decide)
    · first | exact absurd a3 h20 | exact absurd h20 a3
set_option maxHeartbeats 4000000 in
set_option maxRecDepth 100000 in
theorem m_ask_40 (h0 : Z 165 0 = nI 0) (hn : Z 169 0 = nI n) (h6 : n ≤ 6) {p : Nat} (hp : p < n) (hk : Z 169 (6 + 5 * p) = nI 4) {t : Nat} (ht : Z 165 22 = nI t) : zCT E 5 zm_X7_ask [.ref (zad E 165), .int (nI p), .int (nI 0)] (Q, Z) (some (.int (Z 169 (6 + 5 * p + 3) - nI 100))) (Q, zTN Z (zpush (zpush (0, Z 176) (nI 13)) (nI 10))) := by
  refine zCT.of (by decide +kernel) (Nat.le_of_ble_eq_true rfl) ?_
  have a1 := zisP hn h6 hp
  have a3 : nI 0 ≤ nI 0 ∧ nI 0 ≤ nI 1 := by decide
  have hw : ((0, Z 176) : zTf).1 ≤ 16 := Nat.zero_le 16
  have eM : ((Q, zsu Z 165 22 (nI 0)) : zMem) = (Q, zTN Z (0, Z 176)) := by
    have := zTN_p (Q := Q) (Z := Z) (w := (t, Z 176)) 0
    rw [zTN_of ht] at this
    exact this
  refine zi_aload0 (n := 1) dX7_ask_0 rfl ?_
  refine zi_iconst (n := 2) (nI 0) dX7_ask_1 rfl (by decide) ?_
  refine zp_X7_0 (n := 5) dX7_ask_2 rfl zl_X7_44 (zt0 h0) ?_
  refine zi_aload0 (n := 6) dX7_ask_5 rfl ?_
  refine zi_iload1 (n := 7) dX7_ask_6 rfl ?_
  refine zi_V1s (mj := zm_X7_isPaper) (n := 10) dX7_ask_7 rfl zl_X7_180 zy_X7_isPaper (zrc_X7 _ _) (by decide) (Nat.le_of_ble_eq_true rfl) (c_X7_isPaper) ?_
  refine zi_ifeq_b (n := 13) (tgt := 23) dX7_ask_10 rfl (by decide) (fun h10 => ?_) (fun h10 => ?_)
  · first | exact absurd a1 h10 | exact absurd h10 a1
  · refine zi_iload2 (n := 14) dX7_ask_13 rfl ?_
    refine zi_i2l (n := 15) dX7_ask_14 rfl ?_
    refine zi_lconst (n := 16) ((nI 0).toInt64) dX7_ask_15 rfl (by decide) ?_
    refine zi_lconst (n := 17) ((nI 1).toInt64) dX7_ask_16 rfl (by decide) ?_
    refine zi_S3s (mj := zm_X7_in) (n := 20) dX7_ask_17 rfl zl_X7_54 zy_X7_in (by decide) (Nat.le_of_ble_eq_true rfl) (c_X7_in) ?_
    refine zi_ifne_b (n := 23) (tgt := 26) dX7_ask_20 rfl (by decide) (fun h20 => ?_) (fun h20 => ?_)
    · refine zi_aload0 (n := 27) dX7_ask_26 rfl ?_
      refine zi_iconst (n := 28) (nI 0) dX7_ask_27 rfl (by decide) ?_
      refine zp_X7_22 (n := 31) dX7_ask_28 rfl zl_X7_258 eM ?_
      refine zi_iload2 (n := 32) dX7_ask_31 rfl ?_
      refine zi_ifne (n := 35) (tgt := 43) dX7_ask_32 rfl (by decide) (fun h32 => ?_) (fun h32 => ?_)
      · exact absurd rfl h32
      · refine zi_aload0 (n := 36) dX7_ask_35 rfl ?_
        refine zi_iload1 (n := 37) dX7_ask_36 rfl ?_
        refine zi_V1s (mj := zm_X7_sizeOf) (n := 40) dX7_ask_37 rfl zl_X7_273 zy_X7_sizeOf (zrc_X7 _ _) (by decide) (Nat.le_of_ble_eq_true rfl) (c_sz_4 hw (by omega) hk) ?_
        refine zi_goto (tgt := 48) dX7_ask_40 (by decide) ?_
        exact zi_iret dX7_ask_48 rfl (by rfl) (by rfl)
    · first | exact absurd a3 h20 | exact absurd h20 a3
set_option maxHeartbeats 4000000 in
set_option maxRecDepth 100000 in
theorem m_ask_41 (h0 : Z 165 0 = nI 0) (hn : Z 169 0 = nI n) (h6 : n ≤ 6) {p : Nat} (hp : p < n) (hk : Z 169 (6 + 5 * p) = nI 4) {t : Nat} (ht : Z 165 22 = nI t) : zCT E 5 zm_X7_ask [.ref (zad E 165), .int (nI p), .int (nI 1)] (Q, Z) (some (.int (nI p - (Z 169 (6 + 5 * p + 3) - nI 100)))) (Q, zTN Z (zpush (zpush (zpush (zpush (0, Z 176) (nI 23)) (nI 20)) (nI 13)) (nI 10))) := by
  refine zCT.of (by decide +kernel) (Nat.le_of_ble_eq_true rfl) ?_
  have a1 := zisP hn h6 hp
  have a3 : nI 0 ≤ nI 1 ∧ nI 1 ≤ nI 1 := by decide
  have hw : ((0, Z 176) : zTf).1 ≤ 16 := Nat.zero_le 16
  have eM : ((Q, zsu Z 165 22 (nI 0)) : zMem) = (Q, zTN Z (0, Z 176)) := by
    have := zTN_p (Q := Q) (Z := Z) (w := (t, Z 176)) 0
    rw [zTN_of ht] at this
    exact this
  refine zi_aload0 (n := 1) dX7_ask_0 rfl ?_
  refine zi_iconst (n := 2) (nI 0) dX7_ask_1 rfl (by decide) ?_
  refine zp_X7_0 (n := 5) dX7_ask_2 rfl zl_X7_44 (zt0 h0) ?_
  refine zi_aload0 (n := 6) dX7_ask_5 rfl ?_
  refine zi_iload1 (n := 7) dX7_ask_6 rfl ?_
  refine zi_V1s (mj := zm_X7_isPaper) (n := 10) dX7_ask_7 rfl zl_X7_180 zy_X7_isPaper (zrc_X7 _ _) (by decide) (Nat.le_of_ble_eq_true rfl) (c_X7_isPaper) ?_
  refine zi_ifeq_b (n := 13) (tgt := 23) dX7_ask_10 rfl (by decide) (fun h10 => ?_) (fun h10 => ?_)
  · first | exact absurd a1 h10 | exact absurd h10 a1
  · refine zi_iload2 (n := 14) dX7_ask_13 rfl ?_
    refine zi_i2l (n := 15) dX7_ask_14 rfl ?_
    refine zi_lconst (n := 16) ((nI 0).toInt64) dX7_ask_15 rfl (by decide) ?_
    refine zi_lconst (n := 17) ((nI 1).toInt64) dX7_ask_16 rfl (by decide) ?_
    refine zi_S3s (mj := zm_X7_in) (n := 20) dX7_ask_17 rfl zl_X7_54 zy_X7_in (by decide) (Nat.le_of_ble_eq_true rfl) (c_X7_in) ?_
    refine zi_ifne_b (n := 23) (tgt := 26) dX7_ask_20 rfl (by decide) (fun h20 => ?_) (fun h20 => ?_)
    · refine zi_aload0 (n := 27) dX7_ask_26 rfl ?_
      refine zi_iconst (n := 28) (nI 0) dX7_ask_27 rfl (by decide) ?_
      refine zp_X7_22 (n := 31) dX7_ask_28 rfl zl_X7_258 eM ?_
      refine zi_iload2 (n := 32) dX7_ask_31 rfl ?_
      refine zi_ifne (n := 35) (tgt := 43) dX7_ask_32 rfl (by decide) (fun h32 => ?_) (fun h32 => ?_)
      · refine zi_aload0 (n := 44) dX7_ask_43 rfl ?_
        refine zi_iload1 (n := 45) dX7_ask_44 rfl ?_
        refine zi_V1s (mj := zm_X7_markOf) (n := 48) dX7_ask_45 rfl zl_X7_270 zy_X7_markOf (zrc_X7 _ _) (by decide) (Nat.le_of_ble_eq_true rfl) (c_mk_4 hw (by omega) hk) ?_
        exact zi_iret dX7_ask_48 rfl (by rfl) (by rfl)
      · exact absurd h32 (by decide)
    · first | exact absurd a3 h20 | exact absurd h20 a3
set_option maxHeartbeats 4000000 in
set_option maxRecDepth 100000 in
theorem m_ask_50 (h0 : Z 165 0 = nI 0) (hn : Z 169 0 = nI n) (h6 : n ≤ 6) {p : Nat} (hp : p < n) (hk : Z 169 (6 + 5 * p) = nI 5) {t : Nat} (ht : Z 165 22 = nI t) : zCT E 5 zm_X7_ask [.ref (zad E 165), .int (nI p), .int (nI 0)] (Q, Z) (some (.int (nI 2 * (Z 169 (6 + 5 * p + 3) - nI 100)))) (Q, zTN Z (zpush (zpush (zpush (0, Z 176) (nI 14)) (nI 13)) (nI 10))) := by
  refine zCT.of (by decide +kernel) (Nat.le_of_ble_eq_true rfl) ?_
  have a1 := zisP hn h6 hp
  have a3 : nI 0 ≤ nI 0 ∧ nI 0 ≤ nI 1 := by decide
  have hw : ((0, Z 176) : zTf).1 ≤ 16 := Nat.zero_le 16
  have eM : ((Q, zsu Z 165 22 (nI 0)) : zMem) = (Q, zTN Z (0, Z 176)) := by
    have := zTN_p (Q := Q) (Z := Z) (w := (t, Z 176)) 0
    rw [zTN_of ht] at this
    exact this
  refine zi_aload0 (n := 1) dX7_ask_0 rfl ?_
  refine zi_iconst (n := 2) (nI 0) dX7_ask_1 rfl (by decide) ?_
  refine zp_X7_0 (n := 5) dX7_ask_2 rfl zl_X7_44 (zt0 h0) ?_
  refine zi_aload0 (n := 6) dX7_ask_5 rfl ?_
  refine zi_iload1 (n := 7) dX7_ask_6 rfl ?_
  refine zi_V1s (mj := zm_X7_isPaper) (n := 10) dX7_ask_7 rfl zl_X7_180 zy_X7_isPaper (zrc_X7 _ _) (by decide) (Nat.le_of_ble_eq_true rfl) (c_X7_isPaper) ?_
  refine zi_ifeq_b (n := 13) (tgt := 23) dX7_ask_10 rfl (by decide) (fun h10 => ?_) (fun h10 => ?_)
  · first | exact absurd a1 h10 | exact absurd h10 a1
  · refine zi_iload2 (n := 14) dX7_ask_13 rfl ?_
    refine zi_i2l (n := 15) dX7_ask_14 rfl ?_
    refine zi_lconst (n := 16) ((nI 0).toInt64) dX7_ask_15 rfl (by decide) ?_
    refine zi_lconst (n := 17) ((nI 1).toInt64) dX7_ask_16 rfl (by decide) ?_
    refine zi_S3s (mj := zm_X7_in) (n := 20) dX7_ask_17 rfl zl_X7_54 zy_X7_in (by decide) (Nat.le_of_ble_eq_true rfl) (c_X7_in) ?_
    refine zi_ifne_b (n := 23) (tgt := 26) dX7_ask_20 rfl (by decide) (fun h20 => ?_) (fun h20 => ?_)
    · refine zi_aload0 (n := 27) dX7_ask_26 rfl ?_
      refine zi_iconst (n := 28) (nI 0) dX7_ask_27 rfl (by decide) ?_
      refine zp_X7_22 (n := 31) dX7_ask_28 rfl zl_X7_258 eM ?_
      refine zi_iload2 (n := 32) dX7_ask_31 rfl ?_
      refine zi_ifne (n := 35) (tgt := 43) dX7_ask_32 rfl (by decide) (fun h32 => ?_) (fun h32 => ?_)
      · exact absurd rfl h32
      · refine zi_aload0 (n := 36) dX7_ask_35 rfl ?_
        refine zi_iload1 (n := 37) dX7_ask_36 rfl ?_
        refine zi_V1s (mj := zm_X7_sizeOf) (n := 40) dX7_ask_37 rfl zl_X7_273 zy_X7_sizeOf (zrc_X7 _ _) (by decide) (Nat.le_of_ble_eq_true rfl) (c_sz_5 hw (by omega) hk) ?_
        refine zi_goto (tgt := 48) dX7_ask_40 (by decide) ?_
        exact zi_iret dX7_ask_48 rfl (by rfl) (by rfl)
    · first | exact absurd a3 h20 | exact absurd h20 a3
set_option maxHeartbeats 4000000 in
set_option maxRecDepth 100000 in
theorem m_ask_51 (h0 : Z 165 0 = nI 0) (hn : Z 169 0 = nI n) (h6 : n ≤ 6) {p : Nat} (hp : p < n) (hk : Z 169 (6 + 5 * p) = nI 5) {t : Nat} (ht : Z 165 22 = nI t) : zCT E 5 zm_X7_ask [.ref (zad E 165), .int (nI p), .int (nI 1)] (Q, Z) (some (.int (nI p - (nI 2 * (Z 169 (6 + 5 * p + 3) - nI 100))))) (Q, zTN Z (zpush (zpush (zpush (zpush (zpush (0, Z 176) (nI 23)) (nI 20)) (nI 14)) (nI 13)) (nI 10))) := by
  refine zCT.of (by decide +kernel) (Nat.le_of_ble_eq_true rfl) ?_
  have a1 := zisP hn h6 hp
  have a3 : nI 0 ≤ nI 1 ∧ nI 1 ≤ nI 1 := by decide
  have hw : ((0, Z 176) : zTf).1 ≤ 16 := Nat.zero_le 16
  have eM : ((Q, zsu Z 165 22 (nI 0)) : zMem) = (Q, zTN Z (0, Z 176)) := by
    have := zTN_p (Q := Q) (Z := Z) (w := (t, Z 176)) 0
    rw [zTN_of ht] at this
    exact this
  refine zi_aload0 (n := 1) dX7_ask_0 rfl ?_
  refine zi_iconst (n := 2) (nI 0) dX7_ask_1 rfl (by decide) ?_
  refine zp_X7_0 (n := 5) dX7_ask_2 rfl zl_X7_44 (zt0 h0) ?_
  refine zi_aload0 (n := 6) dX7_ask_5 rfl ?_
  refine zi_iload1 (n := 7) dX7_ask_6 rfl ?_
  refine zi_V1s (mj := zm_X7_isPaper) (n := 10) dX7_ask_7 rfl zl_X7_180 zy_X7_isPaper (zrc_X7 _ _) (by decide) (Nat.le_of_ble_eq_true rfl) (c_X7_isPaper) ?_
  refine zi_ifeq_b (n := 13) (tgt := 23) dX7_ask_10 rfl (by decide) (fun h10 => ?_) (fun h10 => ?_)
  · first | exact absurd a1 h10 | exact absurd h10 a1
  · refine zi_iload2 (n := 14) dX7_ask_13 rfl ?_
    refine zi_i2l (n := 15) dX7_ask_14 rfl ?_
    refine zi_lconst (n := 16) ((nI 0).toInt64) dX7_ask_15 rfl (by decide) ?_
    refine zi_lconst (n := 17) ((nI 1).toInt64) dX7_ask_16 rfl (by decide) ?_
    refine zi_S3s (mj := zm_X7_in) (n := 20) dX7_ask_17 rfl zl_X7_54 zy_X7_in (by decide) (Nat.le_of_ble_eq_true rfl) (c_X7_in) ?_
    refine zi_ifne_b (n := 23) (tgt := 26) dX7_ask_20 rfl (by decide) (fun h20 => ?_) (fun h20 => ?_)
    · refine zi_aload0 (n := 27) dX7_ask_26 rfl ?_
      refine zi_iconst (n := 28) (nI 0) dX7_ask_27 rfl (by decide) ?_
      refine zp_X7_22 (n := 31) dX7_ask_28 rfl zl_X7_258 eM ?_
      refine zi_iload2 (n := 32) dX7_ask_31 rfl ?_
      refine zi_ifne (n := 35) (tgt := 43) dX7_ask_32 rfl (by decide) (fun h32 => ?_) (fun h32 => ?_)
      · refine zi_aload0 (n := 44) dX7_ask_43 rfl ?_
        refine zi_iload1 (n := 45) dX7_ask_44 rfl ?_
        refine zi_V1s (mj := zm_X7_markOf) (n := 48) dX7_ask_45 rfl zl_X7_270 zy_X7_markOf (zrc_X7 _ _) (by decide) (Nat.le_of_ble_eq_true rfl) (c_mk_5 hw (by omega) hk) ?_
        exact zi_iret dX7_ask_48 rfl (by rfl) (by rfl)
      · exact absurd h32 (by decide)
    · first | exact absurd a3 h20 | exact absurd h20 a3
set_option maxHeartbeats 4000000 in
set_option maxRecDepth 100000 in
theorem m_trace_none (h0 : Z 165 0 = nI 0) {x : Int32} (hb : ¬ (nI 0 ≤ x ∧ x ≤ Z 165 22 - nI 1)) : zCT E 1 zm_X7_trace [.ref (zad E 165), .int x] (Q, Z) (some (.int (-1000000))) (Q, Z) := by
  refine zCT.of (by decide +kernel) (Nat.le_of_ble_eq_true rfl) ?_
  refine zi_aload0 (n := 1) dX7_trace_0 rfl ?_
  refine zi_iconst (n := 2) (nI 0) dX7_trace_1 rfl (by decide) ?_
  refine zp_X7_0 (n := 5) dX7_trace_2 rfl zl_X7_44 (zt0 h0) ?_
  refine zi_iload1 (n := 6) dX7_trace_5 rfl ?_
  refine zi_i2l (n := 7) dX7_trace_6 rfl ?_
  refine zi_lconst (n := 8) ((nI 0).toInt64) dX7_trace_7 rfl (by decide) ?_
  refine zi_aload0 (n := 9) dX7_trace_8 rfl ?_
  refine zg_X7_22 (n := 12) dX7_trace_9 rfl zl_X7_258 rfl ?_
  refine zi_iconst (n := 13) (nI 1) dX7_trace_12 rfl (by decide) ?_
  refine zi_isub (n := 14) dX7_trace_13 rfl ?_
  refine zi_i2l (n := 15) dX7_trace_14 rfl ?_
  refine zi_S3s (mj := zm_X7_in) (n := 18) dX7_trace_15 rfl zl_X7_54 zy_X7_in (by decide) (Nat.le_of_ble_eq_true rfl) (c_X7_in) ?_
  refine zi_ifeq_b (n := 21) (tgt := 30) dX7_trace_18 rfl (by decide) (fun h18 => ?_) (fun h18 => ?_)
  · refine zi_ldc (n := 32) dX7_trace_30 rfl zl_X7_87 ?_
    exact zi_iret dX7_trace_32 rfl (by rfl) (by rfl)
  · first | exact absurd hb h18 | exact absurd h18 hb
set_option maxHeartbeats 4000000 in
set_option maxRecDepth 100000 in
theorem m_trace_ok (h0 : Z 165 0 = nI 0) {i t : Nat} (ht : Z 165 22 = nI t) (hi : i < t) (h16 : t ≤ 16) : zCT E 1 zm_X7_trace [.ref (zad E 165), .int (nI i)] (Q, Z) (some (.int (Z 176 i))) (Q, Z) := by
  refine zCT.of (by decide +kernel) (Nat.le_of_ble_eq_true rfl) ?_
  have hb : nI 0 ≤ nI i ∧ nI i ≤ nI t - nI 1 := by rw [pk_sub (by omega)]; exact zrg (by omega) (by omega) (by omega)
  refine zi_aload0 (n := 1) dX7_trace_0 rfl ?_
  refine zi_iconst (n := 2) (nI 0) dX7_trace_1 rfl (by decide) ?_
  refine zp_X7_0 (n := 5) dX7_trace_2 rfl zl_X7_44 (zt0 h0) ?_
  refine zi_iload1 (n := 6) dX7_trace_5 rfl ?_
  refine zi_i2l (n := 7) dX7_trace_6 rfl ?_
  refine zi_lconst (n := 8) ((nI 0).toInt64) dX7_trace_7 rfl (by decide) ?_
  refine zi_aload0 (n := 9) dX7_trace_8 rfl ?_
  refine zg_X7_22 (n := 12) dX7_trace_9 rfl zl_X7_258 ht ?_
  refine zi_iconst (n := 13) (nI 1) dX7_trace_12 rfl (by decide) ?_
  refine zi_isub (n := 14) dX7_trace_13 rfl ?_
  refine zi_i2l (n := 15) dX7_trace_14 rfl ?_
  refine zi_S3s (mj := zm_X7_in) (n := 18) dX7_trace_15 rfl zl_X7_54 zy_X7_in (by decide) (Nat.le_of_ble_eq_true rfl) (c_X7_in) ?_
  refine zi_ifeq_b (n := 21) (tgt := 30) dX7_trace_18 rfl (by decide) (fun h18 => ?_) (fun h18 => ?_)
  · first | exact absurd hb h18 | exact absurd h18 hb
  · refine zi_aload0 (n := 22) dX7_trace_21 rfl ?_
    refine zg_X7_21 (n := 25) dX7_trace_22 rfl zl_X7_41 ?_
    refine zi_iload1 (n := 26) dX7_trace_25 rfl ?_
    refine zi_oald (N := 16) (n := 27) dX7_trace_26 rfl (by decide) (fun _ => rfl) (by decide) rfl (by omega) rfl ?_
    refine zi_goto (tgt := 32) dX7_trace_27 (by decide) ?_
    exact zi_iret dX7_trace_32 rfl (by rfl) (by rfl)
set_option maxHeartbeats 4000000 in
set_option maxRecDepth 100000 in
theorem m_count_what (h0 : Z 165 0 = nI 0) {y : Int32} (hy : y.toInt < 0 ∨ 7 < y.toInt) : zCT E 2 zm_X7_count [.ref (zad E 165), .int y] (Q, Z) (some (.int zBAD)) (Q, Z) := by
  refine zCT.of (by decide +kernel) (Nat.le_of_ble_eq_true rfl) ?_
  refine zi_aload0 (n := 1) dX7_count_0 rfl ?_
  refine zi_iconst (n := 2) (nI 0) dX7_count_1 rfl (by decide) ?_
  refine zp_X7_0 (n := 5) dX7_count_2 rfl zl_X7_44 (zt0 h0) ?_
  refine zi_iconst (n := 6) (nI 0) dX7_count_5 rfl (by decide) ?_
  refine zi_istore2 (n := 7) dX7_count_6 rfl (by decide) rfl ?_
  refine zi_iload1 (n := 8) dX7_count_7 rfl ?_
  refine zi_tableOut (tgt := 139) dX7_count_8 hy (by decide) ?_
  refine zi_ldc (n := 141) dX7_count_139 rfl zl_X7_64 ?_
  exact zi_iret dX7_count_141 rfl (by rfl) (by rfl)
def zcL (g : zF) : Nat → Int32
  | 0 => nI 0
  | r + 1 => zcL g r + (if g r < 0 then nI 0 else nI 1)
set_option maxHeartbeats 4000000 in
set_option maxRecDepth 100000 in
theorem l_X7_count {y : Int32} : ∀ k r, 8 - r < k → r ≤ 8 → zG E zm_X7_count 2 (some (.int (zcL (Z 166) 8))) (Q, Z) 58 [some (.ref (zad E 165)), some (.int y), some (.int (zcL (Z 166) r)), some (.int (nI r))] [] (Q, Z) := by
  intro k
  induction k with
  | zero => intro r h; omega
  | succ k ih =>
    intro r h1 h2
    refine zi_iload3 (n := 59) dX7_count_58 rfl ?_
    refine zi_bipush (n := 61) (nI 8) dX7_count_59 rfl (by decide) ?_
    refine zi_icge (n := 64) (tgt := 87) dX7_count_61 rfl (by decide) (fun h61 => ?_) (fun h61 => ?_)
    · have e : r = 8 := by have := (nI_leI (by omega) (by omega)).mp h61; omega
      subst e
      refine zi_iload2 (n := 88) dX7_count_87 rfl ?_
      exact zi_iret dX7_count_88 rfl (by rfl) (by rfl)
    · have e : r < 8 := by have := mt (nI_leI (by omega) (by omega)).mpr h61; omega
      refine zi_iload2 (n := 65) dX7_count_64 rfl ?_
      refine zi_aload0 (n := 66) dX7_count_65 rfl ?_
      refine zg_X7_2 (n := 69) dX7_count_66 rfl zl_X7_7 ?_
      refine zi_iload3 (n := 70) dX7_count_69 rfl ?_
      refine zi_oald (N := 8) (n := 71) dX7_count_70 rfl (by decide) (fun _ => rfl) (by decide) rfl (by omega) rfl ?_
      refine zi_iflt (n := 74) (tgt := 78) dX7_count_71 rfl (by decide) (fun h71 => ?_) (fun h71 => ?_)
      · have e2 : zcL (Z 166) (r + 1) = zcL (Z 166) r + nI 0 := by rw [zcL, if_pos h71]
        refine zi_iconst (n := 79) (nI 0) dX7_count_78 rfl (by decide) ?_
        refine zi_iadd (n := 80) dX7_count_79 rfl ?_
        refine zi_istore2 (n := 81) dX7_count_80 rfl (by decide) rfl ?_
        refine zi_iinc3 (n := 84) (nI (r + 1)) dX7_count_81 rfl (by decide) rfl (zi1 _) ?_
        refine zi_goto (tgt := 58) dX7_count_84 (by decide) ?_
        have g := ih (r + 1) (by omega) (by omega)
        rw [e2] at g
        exact g
      · have e2 : zcL (Z 166) (r + 1) = zcL (Z 166) r + nI 1 := by rw [zcL, if_neg h71]
        refine zi_iconst (n := 75) (nI 1) dX7_count_74 rfl (by decide) ?_
        refine zi_goto (tgt := 79) dX7_count_75 (by decide) ?_
        refine zi_iadd (n := 80) dX7_count_79 rfl ?_
        refine zi_istore2 (n := 81) dX7_count_80 rfl (by decide) rfl ?_
        refine zi_iinc3 (n := 84) (nI (r + 1)) dX7_count_81 rfl (by decide) rfl (zi1 _) ?_
        refine zi_goto (tgt := 58) dX7_count_84 (by decide) ?_
        have g := ih (r + 1) (by omega) (by omega)
        rw [e2] at g
        exact g
set_option maxHeartbeats 4000000 in
set_option maxRecDepth 100000 in
theorem m_count_0 (h0 : Z 165 0 = nI 0)  : zCT E 2 zm_X7_count [.ref (zad E 165), .int (nI 0)] (Q, Z) (some (.int (zcL (Z 166) 8))) (Q, Z) := by
  refine zCT.of (by decide +kernel) (Nat.le_of_ble_eq_true rfl) ?_
  refine zi_aload0 (n := 1) dX7_count_0 rfl ?_
  refine zi_iconst (n := 2) (nI 0) dX7_count_1 rfl (by decide) ?_
  refine zp_X7_0 (n := 5) dX7_count_2 rfl zl_X7_44 (zt0 h0) ?_
  refine zi_iconst (n := 6) (nI 0) dX7_count_5 rfl (by decide) ?_
  refine zi_istore2 (n := 7) dX7_count_6 rfl (by decide) rfl ?_
  refine zi_iload1 (n := 8) dX7_count_7 rfl ?_
  refine zi_tableIn (tgt := 56) dX7_count_8 (by decide) (by decide) rfl (by decide) ?_
  refine zi_iconst (n := 57) (nI 0) dX7_count_56 rfl (by decide) ?_
  refine zi_istore3 (n := 58) dX7_count_57 rfl (by decide) rfl ?_
  exact l_X7_count 9 0 (by omega) (by omega)
set_option maxHeartbeats 4000000 in
set_option maxRecDepth 100000 in
theorem m_count_1 (h0 : Z 165 0 = nI 0)  : zCT E 2 zm_X7_count [.ref (zad E 165), .int (nI 1)] (Q, Z) (some (.int (Z 169 0))) (Q, Z) := by
  refine zCT.of (by decide +kernel) (Nat.le_of_ble_eq_true rfl) ?_
  refine zi_aload0 (n := 1) dX7_count_0 rfl ?_
  refine zi_iconst (n := 2) (nI 0) dX7_count_1 rfl (by decide) ?_
  refine zp_X7_0 (n := 5) dX7_count_2 rfl zl_X7_44 (zt0 h0) ?_
  refine zi_iconst (n := 6) (nI 0) dX7_count_5 rfl (by decide) ?_
  refine zi_istore2 (n := 7) dX7_count_6 rfl (by decide) rfl ?_
  refine zi_iload1 (n := 8) dX7_count_7 rfl ?_
  refine zi_tableIn (tgt := 89) dX7_count_8 (by decide) (by decide) rfl (by decide) ?_
  refine zi_aload0 (n := 90) dX7_count_89 rfl ?_
  refine zg_X7_5 (n := 93) dX7_count_90 rfl zl_X7_19 ?_
  refine zi_iconst (n := 94) (nI 0) dX7_count_93 rfl (by decide) ?_
  refine zi_oald (N := 36) (n := 95) dX7_count_94 rfl (by decide) (fun _ => rfl) (by decide) rfl (by omega) rfl ?_
  exact zi_iret dX7_count_95 rfl (by rfl) (by rfl)
set_option maxHeartbeats 4000000 in
set_option maxRecDepth 100000 in
theorem m_count_2 (h0 : Z 165 0 = nI 0)  : zCT E 2 zm_X7_count [.ref (zad E 165), .int (nI 2)] (Q, Z) (some (.int (Z 169 4))) (Q, Z) := by
  refine zCT.of (by decide +kernel) (Nat.le_of_ble_eq_true rfl) ?_
  refine zi_aload0 (n := 1) dX7_count_0 rfl ?_
  refine zi_iconst (n := 2) (nI 0) dX7_count_1 rfl (by decide) ?_
  refine zp_X7_0 (n := 5) dX7_count_2 rfl zl_X7_44 (zt0 h0) ?_
  refine zi_iconst (n := 6) (nI 0) dX7_count_5 rfl (by decide) ?_
  refine zi_istore2 (n := 7) dX7_count_6 rfl (by decide) rfl ?_
  refine zi_iload1 (n := 8) dX7_count_7 rfl ?_
  refine zi_tableIn (tgt := 96) dX7_count_8 (by decide) (by decide) rfl (by decide) ?_
  refine zi_aload0 (n := 97) dX7_count_96 rfl ?_
  refine zg_X7_5 (n := 100) dX7_count_97 rfl zl_X7_19 ?_
  refine zi_iconst (n := 101) (nI 4) dX7_count_100 rfl (by decide) ?_
  refine zi_oald (N := 36) (n := 102) dX7_count_101 rfl (by decide) (fun _ => rfl) (by decide) rfl (by omega) rfl ?_
  exact zi_iret dX7_count_102 rfl (by rfl) (by rfl)
set_option maxHeartbeats 4000000 in
set_option maxRecDepth 100000 in
theorem m_count_3 (h0 : Z 165 0 = nI 0)  : zCT E 2 zm_X7_count [.ref (zad E 165), .int (nI 3)] (Q, Z) (some (.int (Z 169 5))) (Q, Z) := by
  refine zCT.of (by decide +kernel) (Nat.le_of_ble_eq_true rfl) ?_
  refine zi_aload0 (n := 1) dX7_count_0 rfl ?_
  refine zi_iconst (n := 2) (nI 0) dX7_count_1 rfl (by decide) ?_
  refine zp_X7_0 (n := 5) dX7_count_2 rfl zl_X7_44 (zt0 h0) ?_
  refine zi_iconst (n := 6) (nI 0) dX7_count_5 rfl (by decide) ?_
  refine zi_istore2 (n := 7) dX7_count_6 rfl (by decide) rfl ?_
  refine zi_iload1 (n := 8) dX7_count_7 rfl ?_
  refine zi_tableIn (tgt := 103) dX7_count_8 (by decide) (by decide) rfl (by decide) ?_
  refine zi_aload0 (n := 104) dX7_count_103 rfl ?_
  refine zg_X7_5 (n := 107) dX7_count_104 rfl zl_X7_19 ?_
  refine zi_iconst (n := 108) (nI 5) dX7_count_107 rfl (by decide) ?_
  refine zi_oald (N := 36) (n := 109) dX7_count_108 rfl (by decide) (fun _ => rfl) (by decide) rfl (by omega) rfl ?_
  exact zi_iret dX7_count_109 rfl (by rfl) (by rfl)
set_option maxHeartbeats 4000000 in
set_option maxRecDepth 100000 in
theorem m_count_4 (h0 : Z 165 0 = nI 0) (hn : Z 169 0 = nI n) (h6 : n ≤ 6) : zCT E 2 zm_X7_count [.ref (zad E 165), .int (nI 4)] (Q, Z) (some (.int (zsum (lgM (Z 169)) n))) (Q, Z) := by
  refine zCT.of (by decide +kernel) (Nat.le_of_ble_eq_true rfl) ?_
  refine zi_aload0 (n := 1) dX7_count_0 rfl ?_
  refine zi_iconst (n := 2) (nI 0) dX7_count_1 rfl (by decide) ?_
  refine zp_X7_0 (n := 5) dX7_count_2 rfl zl_X7_44 (zt0 h0) ?_
  refine zi_iconst (n := 6) (nI 0) dX7_count_5 rfl (by decide) ?_
  refine zi_istore2 (n := 7) dX7_count_6 rfl (by decide) rfl ?_
  refine zi_iload1 (n := 8) dX7_count_7 rfl ?_
  refine zi_tableIn (tgt := 110) dX7_count_8 (by decide) (by decide) rfl (by decide) ?_
  refine zi_aload0 (n := 111) dX7_count_110 rfl ?_
  refine zg_X7_5 (n := 114) dX7_count_111 rfl zl_X7_19 ?_
  refine zi_S1s (mj := zm_X7_lettersOf) (n := 117) dX7_count_114 rfl zl_X7_200 zy_X7_lettersOf (by decide) (Nat.le_of_ble_eq_true rfl) (zrq (a := 169) (c_X7_lettersOf (Or.inl rfl) hn h6)) ?_
  exact zi_iret dX7_count_117 rfl (by rfl) (by rfl)
set_option maxHeartbeats 4000000 in
set_option maxRecDepth 100000 in
theorem m_count_5 (h0 : Z 165 0 = nI 0) (hn : Z 169 0 = nI n) (h6 : n ≤ 6) : zCT E 2 zm_X7_count [.ref (zad E 165), .int (nI 5)] (Q, Z) (some (.int (zbiM (zbM (fun p => decide (Z 169 (6 + 5 * p + 3) = 0)) n) 6))) (Q, Z) := by
  refine zCT.of (by decide +kernel) (Nat.le_of_ble_eq_true rfl) ?_
  refine zi_aload0 (n := 1) dX7_count_0 rfl ?_
  refine zi_iconst (n := 2) (nI 0) dX7_count_1 rfl (by decide) ?_
  refine zp_X7_0 (n := 5) dX7_count_2 rfl zl_X7_44 (zt0 h0) ?_
  refine zi_iconst (n := 6) (nI 0) dX7_count_5 rfl (by decide) ?_
  refine zi_istore2 (n := 7) dX7_count_6 rfl (by decide) rfl ?_
  refine zi_iload1 (n := 8) dX7_count_7 rfl ?_
  refine zi_tableIn (tgt := 118) dX7_count_8 (by decide) (by decide) rfl (by decide) ?_
  refine zi_aload0 (n := 119) dX7_count_118 rfl ?_
  refine zg_X7_5 (n := 122) dX7_count_119 rfl zl_X7_19 ?_
  refine zi_S1s (mj := zm_X7_nameless) (n := 125) dX7_count_122 rfl zl_X7_185 zy_X7_nameless (by decide) (Nat.le_of_ble_eq_true rfl) (zrq (a := 169) (c_X7_nameless (Or.inl rfl) hn h6)) ?_
  refine zi_S1s (mj := zm_X7_bits) (n := 128) dX7_count_125 rfl zl_X7_205 zy_X7_bits (by decide) (Nat.le_of_ble_eq_true rfl) (c_X7_bits) ?_
  exact zi_iret dX7_count_128 rfl (by rfl) (by rfl)
set_option maxHeartbeats 4000000 in
set_option maxRecDepth 100000 in
theorem m_count_6 (h0 : Z 165 0 = nI 0)  : zCT E 2 zm_X7_count [.ref (zad E 165), .int (nI 6)] (Q, Z) (some (.int (Z 165 9))) (Q, Z) := by
  refine zCT.of (by decide +kernel) (Nat.le_of_ble_eq_true rfl) ?_
  refine zi_aload0 (n := 1) dX7_count_0 rfl ?_
  refine zi_iconst (n := 2) (nI 0) dX7_count_1 rfl (by decide) ?_
  refine zp_X7_0 (n := 5) dX7_count_2 rfl zl_X7_44 (zt0 h0) ?_
  refine zi_iconst (n := 6) (nI 0) dX7_count_5 rfl (by decide) ?_
  refine zi_istore2 (n := 7) dX7_count_6 rfl (by decide) rfl ?_
  refine zi_iload1 (n := 8) dX7_count_7 rfl ?_
  refine zi_tableIn (tgt := 129) dX7_count_8 (by decide) (by decide) rfl (by decide) ?_
  refine zi_aload0 (n := 130) dX7_count_129 rfl ?_
  refine zg_X7_9 (n := 133) dX7_count_130 rfl zl_X7_143 rfl ?_
  exact zi_iret dX7_count_133 rfl (by rfl) (by rfl)
set_option maxHeartbeats 4000000 in
set_option maxRecDepth 100000 in
theorem m_count_7 (h0 : Z 165 0 = nI 0)  : zCT E 2 zm_X7_count [.ref (zad E 165), .int (nI 7)] (Q, Z) (some (.int (Z 165 11))) (Q, Z) := by
  refine zCT.of (by decide +kernel) (Nat.le_of_ble_eq_true rfl) ?_
  refine zi_aload0 (n := 1) dX7_count_0 rfl ?_
  refine zi_iconst (n := 2) (nI 0) dX7_count_1 rfl (by decide) ?_
  refine zp_X7_0 (n := 5) dX7_count_2 rfl zl_X7_44 (zt0 h0) ?_
  refine zi_iconst (n := 6) (nI 0) dX7_count_5 rfl (by decide) ?_
  refine zi_istore2 (n := 7) dX7_count_6 rfl (by decide) rfl ?_
  refine zi_iload1 (n := 8) dX7_count_7 rfl ?_
  refine zi_tableIn (tgt := 134) dX7_count_8 (by decide) (by decide) rfl (by decide) ?_
  refine zi_aload0 (n := 135) dX7_count_134 rfl ?_
  refine zg_X7_11 (n := 138) dX7_count_135 rfl zl_X7_71 rfl ?_
  exact zi_iret dX7_count_138 rfl (by rfl) (by rfl)
end ZM4
