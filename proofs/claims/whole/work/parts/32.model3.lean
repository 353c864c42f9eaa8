section ZM3
variable {E : zE} {Q : Nat → Nat → Nat → Int32} {Z : zS} {M M1 : zMem} {r n p d : Nat} {f : zF} {mi : zM} {av : List Value} {rv : Option Value}
theorem zt0 (h : Z 165 0 = nI 0) : ((Q, zsu Z 165 0 (nI 0)) : zMem) = (Q, Z) := by
  unfold zsu
  rw [← h, show upd (Z 165) 0 (Z 165 0) = Z 165 from funext fun k => by unfold upd; split <;> simp_all, zup_same]
theorem zsu_self (f : zS) (a i : Nat) (x : Int32) : zsu f a i x a i = x := by rw [zsu_at, if_pos ⟨rfl, rfl⟩]
theorem zrq {a : Nat} (h : zCT E d mi av (Q, va_up Z a (Z a)) rv (Q, va_up Z a (Z a))) : zCT E d mi av (Q, Z) rv (Q, Z) := by rwa [zup_same] at h
/-- a piece of a row is laid anew -/
def zpt (w s : Nat → Int32) (b i : Nat) : Nat → Int32 := fun k => if b ≤ k ∧ k < b + i then s (k - b) else w k
theorem zpt_0 (w s : Nat → Int32) (b : Nat) : zpt w s b 0 = w := by
  funext k; unfold zpt; rw [if_neg (by omega)]
theorem zpt_step (w s : Nat → Int32) (b i : Nat) : upd (zpt w s b i) (b + i) (s i) = zpt w s b (i + 1) := by
  funext k
  unfold upd zpt
  by_cases h1 : k = b + i
  · rw [if_pos h1, if_pos (by omega), h1, Nat.add_sub_cancel_left]
  · rw [if_neg h1]
    by_cases h2 : b ≤ k ∧ k < b + i
    · rw [if_pos h2, if_pos (by omega)]
    · rw [if_neg h2, if_neg (by omega)]
def zsh36 (w : Nat → Int32) (i : Nat) : Nat → Int32 := fun k => if k < i then w (k + 36) else w k
theorem zsh36_0 (w : Nat → Int32) : zsh36 w 0 = w := by
  funext k; unfold zsh36; rw [if_neg (by omega)]
theorem zsh36_step (w : Nat → Int32) (i : Nat) : upd (zsh36 w i) i (zsh36 w i (i + 36)) = zsh36 w (i + 1) := by
  funext k
  unfold upd zsh36
  by_cases h1 : k = i
  · rw [if_pos h1, if_neg (by omega), if_pos (by omega), h1]
  · rw [if_neg h1]
    by_cases h2 : k < i
    · rw [if_pos h2, if_pos (by omega)]
    · rw [if_neg h2, if_neg (by omega)]
theorem zfqe {a i : Nat} {f g : zF} {x : Int32} (h : upd f i x = g) : ((((Q, va_up Z a f) : zMem).1, zsu ((Q, va_up Z a f) : zMem).2 a i x) : zMem) = (Q, va_up Z a g) := by rw [zfq, h]
set_option maxHeartbeats 4000000 in
set_option maxRecDepth 100000 in
theorem m_row_bad (h0 : Z 165 0 = nI 0) {x l m : Int32} (hb : ¬ ((nI 0 ≤ x ∧ x ≤ nI 7) ∧ (nI 0 ≤ l ∧ l ≤ nI 2) ∧ m ≤ nI 40)) : zCT E 2 zm_X7_row [.ref (zad E 165), .int x, .int l, .int m] (Q, Z) (some (.int zBAD)) (Q, Z) := by
  refine zCT.of (by decide +kernel) (Nat.le_of_ble_eq_true rfl) ?_
  refine zi_aload0 (n := 1) dX7_row_0 rfl ?_
  refine zi_iconst (n := 2) (nI 0) dX7_row_1 rfl (by decide) ?_
  refine zp_X7_0 (n := 5) dX7_row_2 rfl zl_X7_44 (zt0 h0) ?_
  refine zi_iload1 (n := 6) dX7_row_5 rfl ?_
  refine zi_S1s (mj := zm_X7_isRow) (n := 9) dX7_row_6 rfl zl_X7_58 zy_X7_isRow (by decide) (Nat.le_of_ble_eq_true rfl) (c_X7_isRow) ?_
  refine zi_ifeq_b (n := 12) (tgt := 30) dX7_row_9 rfl (by decide) (fun h9 => ?_) (fun h9 => ?_)
  · refine zi_ldc (n := 32) dX7_row_30 rfl zl_X7_64 ?_
    exact zi_iret dX7_row_32 rfl (by rfl) (by rfl)
  · refine zi_iload2 (n := 13) dX7_row_12 rfl ?_
    refine zi_i2l (n := 14) dX7_row_13 rfl ?_
    refine zi_lconst (n := 15) ((nI 0).toInt64) dX7_row_14 rfl (by decide) ?_
    refine zi_ldc2 (n := 18) dX7_row_15 rfl zl_X7_62 ?_
    rw [show (2 : Int64) = (nI 2).toInt64 by decide]
    refine zi_S3s (mj := zm_X7_in) (n := 21) dX7_row_18 rfl zl_X7_54 zy_X7_in (by decide) (Nat.le_of_ble_eq_true rfl) (c_X7_in) ?_
    refine zi_ifeq_b (n := 24) (tgt := 30) dX7_row_21 rfl (by decide) (fun h21 => ?_) (fun h21 => ?_)
    · refine zi_ldc (n := 32) dX7_row_30 rfl zl_X7_64 ?_
      exact zi_iret dX7_row_32 rfl (by rfl) (by rfl)
    · refine zi_iload3 (n := 25) dX7_row_24 rfl ?_
      refine zi_bipush (n := 27) (nI 40) dX7_row_25 rfl (by decide) ?_
      refine zi_icle (n := 30) (tgt := 33) dX7_row_27 rfl (by decide) (fun h27 => ?_) (fun h27 => ?_)
      · exact absurd ⟨h9, h21, h27⟩ hb
      · refine zi_ldc (n := 32) dX7_row_30 rfl zl_X7_64 ?_
        exact zi_iret dX7_row_32 rfl (by rfl) (by rfl)
set_option maxHeartbeats 4000000 in
set_option maxRecDepth 100000 in
theorem m_row_size (h0 : Z 165 0 = nI 0) {r : Nat} {l m : Int32} (hr : r < 8) (hl : nI 0 ≤ l ∧ l ≤ nI 2) (hm : m < 0) (hm4 : m ≤ nI 40) : zCT E 2 zm_X7_row [.ref (zad E 165), .int (nI r), .int l, .int m] (Q, Z) (some (.int (-1000010 - nI 4))) (Q, zsu (zsu Z 165 1 (nI 0)) 165 1 (nI 4)) := by
  refine zCT.of (by decide +kernel) (Nat.le_of_ble_eq_true rfl) ?_
  have a1 : nI 0 ≤ nI r ∧ nI r ≤ nI 7 := zrg (by omega) (by omega) (by decide)
  have a2 : ¬ (0 : Int32) ≤ m := Int32.not_le.mpr hm
  refine zi_aload0 (n := 1) dX7_row_0 rfl ?_
  refine zi_iconst (n := 2) (nI 0) dX7_row_1 rfl (by decide) ?_
  refine zp_X7_0 (n := 5) dX7_row_2 rfl zl_X7_44 (zt0 h0) ?_
  refine zi_iload1 (n := 6) dX7_row_5 rfl ?_
  refine zi_S1s (mj := zm_X7_isRow) (n := 9) dX7_row_6 rfl zl_X7_58 zy_X7_isRow (by decide) (Nat.le_of_ble_eq_true rfl) (c_X7_isRow) ?_
  refine zi_ifeq_b (n := 12) (tgt := 30) dX7_row_9 rfl (by decide) (fun h9 => ?_) (fun h9 => ?_)
  · first | exact absurd a1 h9 | exact absurd h9 a1
  · refine zi_iload2 (n := 13) dX7_row_12 rfl ?_
    refine zi_i2l (n := 14) dX7_row_13 rfl ?_
    refine zi_lconst (n := 15) ((nI 0).toInt64) dX7_row_14 rfl (by decide) ?_
    refine zi_ldc2 (n := 18) dX7_row_15 rfl zl_X7_62 ?_
    rw [show (2 : Int64) = (nI 2).toInt64 by decide]
    refine zi_S3s (mj := zm_X7_in) (n := 21) dX7_row_18 rfl zl_X7_54 zy_X7_in (by decide) (Nat.le_of_ble_eq_true rfl) (c_X7_in) ?_
    refine zi_ifeq_b (n := 24) (tgt := 30) dX7_row_21 rfl (by decide) (fun h21 => ?_) (fun h21 => ?_)
    · first | exact absurd hl h21 | exact absurd h21 hl
    · refine zi_iload3 (n := 25) dX7_row_24 rfl ?_
      refine zi_bipush (n := 27) (nI 40) dX7_row_25 rfl (by decide) ?_
      refine zi_icle (n := 30) (tgt := 33) dX7_row_27 rfl (by decide) (fun h27 => ?_) (fun h27 => ?_)
      · refine zi_aload0 (n := 34) dX7_row_33 rfl ?_
        refine zi_iconst (n := 35) (nI 0) dX7_row_34 rfl (by decide) ?_
        refine zp_X7_1 (n := 38) dX7_row_35 rfl zl_X7_48 rfl ?_
        refine zi_iload3 (n := 39) dX7_row_38 rfl ?_
        refine zi_ifge (n := 42) (tgt := 48) dX7_row_39 rfl (by decide) (fun h39 => ?_) (fun h39 => ?_)
        · first | exact absurd a2 h39 | exact absurd h39 a2
        · refine zi_aload0 (n := 43) dX7_row_42 rfl ?_
          refine zi_iconst (n := 44) (nI 4) dX7_row_43 rfl (by decide) ?_
          refine zi_V1s (mj := zm_X7_finding) (n := 47) dX7_row_44 rfl zl_X7_65 zy_X7_finding (zrc_X7 _ _) (by decide) (Nat.le_of_ble_eq_true rfl) (c_X7_finding) ?_
          exact zi_iret dX7_row_47 rfl (by rfl) (by rfl)
      · first | exact absurd hm4 h27 | exact absurd h27 hm4
set_option maxHeartbeats 4000000 in
set_option maxRecDepth 100000 in
theorem l_X7_row {l m : Int32} (hr : r < 8) : ∀ k i, 40 - i < k → i ≤ 40 → zG E zm_X7_row 2 (some (.int m)) (Q, va_up Z 168 (zpt f (fun _ => nI 0) (40 * r) 40)) 65 [some (.ref (zad E 165)), some (.int (nI r)), some (.int l), some (.int m), some (.int (nI i))] [] (Q, va_up Z 168 (zpt f (fun _ => nI 0) (40 * r) i)) := by
  intro k
  induction k with
  | zero => intro i h; omega
  | succ k ih =>
    intro i h1 h2
    refine zi_iload4 (n := 67) dX7_row_65 rfl ?_
    refine zi_bipush (n := 69) (nI 40) dX7_row_67 rfl (by decide) ?_
    refine zi_icge (n := 72) (tgt := 91) dX7_row_69 rfl (by decide) (fun h69 => ?_) (fun h69 => ?_)
    · have e : i = 40 := by have := (nI_leI (by omega) (by omega)).mp h69; omega
      subst e
      refine zi_iload3 (n := 92) dX7_row_91 rfl ?_
      exact zi_iret dX7_row_92 rfl (by rfl) (by rfl)
    · have e : i < 40 := by have := mt (nI_leI (by omega) (by omega)).mpr h69; omega
      refine zi_aload0 (n := 73) dX7_row_72 rfl ?_
      refine zg_X7_4 (n := 76) dX7_row_73 rfl zl_X7_16 ?_
      refine zi_bipush (n := 78) (nI 40) dX7_row_76 rfl (by decide) ?_
      refine zi_iload1 (n := 79) dX7_row_78 rfl ?_
      refine zi_imul (n := 80) dX7_row_79 rfl ?_
      refine zi_iload4 (n := 82) dX7_row_80 rfl ?_
      refine zi_iadd (n := 83) dX7_row_82 rfl ?_
      refine zi_iconst (n := 84) (nI 0) dX7_row_83 rfl (by decide) ?_
      refine zi_oast (N := 320) (i := 40 * r + i) (n := 85) dX7_row_84 rfl (by decide) (fun _ => rfl) (by decide) (by rw [pk_mul, nI_add]) (by omega) (zfqe (zpt_step f (fun _ => nI 0) (40 * r) i)) ?_
      refine zi_iinc4 (n := 88) (nI (i + 1)) dX7_row_85 rfl (by decide) rfl (zi1 _) ?_
      refine zi_goto (tgt := 65) dX7_row_88 (by decide) ?_
      exact ih (i + 1) (by omega) (by omega)
set_option maxHeartbeats 4000000 in
set_option maxRecDepth 100000 in
theorem m_row_ok (h0 : Z 165 0 = nI 0) {r : Nat} {l m : Int32} (hr : r < 8) (hl : nI 0 ≤ l ∧ l ≤ nI 2) (hm : 0 ≤ m) (hm4 : m ≤ nI 40) : zCT E 2 zm_X7_row [.ref (zad E 165), .int (nI r), .int l, .int m] (Q, Z) (some (.int m)) (Q, va_up (zsu (zsu (zsu Z 165 1 (nI 0)) 166 r l) 167 r m) 168 (zpt (Z 168) (fun _ => nI 0) (40 * r) 40)) := by
  refine zCT.of (by decide +kernel) (Nat.le_of_ble_eq_true rfl) ?_
  have a1 : nI 0 ≤ nI r ∧ nI r ≤ nI 7 := zrg (by omega) (by omega) (by decide)
  refine zi_aload0 (n := 1) dX7_row_0 rfl ?_
  refine zi_iconst (n := 2) (nI 0) dX7_row_1 rfl (by decide) ?_
  refine zp_X7_0 (n := 5) dX7_row_2 rfl zl_X7_44 (zt0 h0) ?_
  refine zi_iload1 (n := 6) dX7_row_5 rfl ?_
  refine zi_S1s (mj := zm_X7_isRow) (n := 9) dX7_row_6 rfl zl_X7_58 zy_X7_isRow (by decide) (Nat.le_of_ble_eq_true rfl) (c_X7_isRow) ?_
  refine zi_ifeq_b (n := 12) (tgt := 30) dX7_row_9 rfl (by decide) (fun h9 => ?_) (fun h9 => ?_)
  · first | exact absurd a1 h9 | exact absurd h9 a1
  · refine zi_iload2 (n := 13) dX7_row_12 rfl ?_
    refine zi_i2l (n := 14) dX7_row_13 rfl ?_
    refine zi_lconst (n := 15) ((nI 0).toInt64) dX7_row_14 rfl (by decide) ?_
    refine zi_ldc2 (n := 18) dX7_row_15 rfl zl_X7_62 ?_
    rw [show (2 : Int64) = (nI 2).toInt64 by decide]
    refine zi_S3s (mj := zm_X7_in) (n := 21) dX7_row_18 rfl zl_X7_54 zy_X7_in (by decide) (Nat.le_of_ble_eq_true rfl) (c_X7_in) ?_
    refine zi_ifeq_b (n := 24) (tgt := 30) dX7_row_21 rfl (by decide) (fun h21 => ?_) (fun h21 => ?_)
    · first | exact absurd hl h21 | exact absurd h21 hl
    · refine zi_iload3 (n := 25) dX7_row_24 rfl ?_
      refine zi_bipush (n := 27) (nI 40) dX7_row_25 rfl (by decide) ?_
      refine zi_icle (n := 30) (tgt := 33) dX7_row_27 rfl (by decide) (fun h27 => ?_) (fun h27 => ?_)
      · refine zi_aload0 (n := 34) dX7_row_33 rfl ?_
        refine zi_iconst (n := 35) (nI 0) dX7_row_34 rfl (by decide) ?_
        refine zp_X7_1 (n := 38) dX7_row_35 rfl zl_X7_48 rfl ?_
        refine zi_iload3 (n := 39) dX7_row_38 rfl ?_
        refine zi_ifge (n := 42) (tgt := 48) dX7_row_39 rfl (by decide) (fun h39 => ?_) (fun h39 => ?_)
        · refine zi_aload0 (n := 49) dX7_row_48 rfl ?_
          refine zg_X7_2 (n := 52) dX7_row_49 rfl zl_X7_7 ?_
          refine zi_iload1 (n := 53) dX7_row_52 rfl ?_
          refine zi_iload2 (n := 54) dX7_row_53 rfl ?_
          refine zi_oast (N := 8) (n := 55) dX7_row_54 rfl (by decide) (fun _ => rfl) (by decide) rfl (by omega) rfl ?_
          refine zi_aload0 (n := 56) dX7_row_55 rfl ?_
          refine zg_X7_3 (n := 59) dX7_row_56 rfl zl_X7_13 ?_
          refine zi_iload1 (n := 60) dX7_row_59 rfl ?_
          refine zi_iload3 (n := 61) dX7_row_60 rfl ?_
          refine zi_oast (N := 8) (n := 62) dX7_row_61 rfl (by decide) (fun _ => rfl) (by decide) rfl (by omega) rfl ?_
          refine zi_iconst (n := 63) (nI 0) dX7_row_62 rfl (by decide) ?_
          refine zi_istore4 (n := 65) dX7_row_63 rfl (by decide) rfl ?_
          have g := l_X7_row (E := E) (Q := Q) (Z := zsu (zsu (zsu Z 165 1 (nI 0)) 166 r l) 167 r m) (f := Z 168) (l := l) (m := m) hr 41 0 (by omega) (by omega)
          rw [zpt_0] at g
          exact zG_eqM (congrArg (Prod.mk Q) (zup_at (f := zsu (zsu (zsu Z 165 1 (nI 0)) 166 r l) 167 r m) (a := 168) (v := Z 168) rfl).symm) g
        · first | exact absurd hm h39 | exact absurd h39 hm
      · first | exact absurd hm4 h27 | exact absurd h27 hm4
set_option maxHeartbeats 4000000 in
set_option maxRecDepth 100000 in
theorem m_set_bad (h0 : Z 165 0 = nI 0) {x i v : Int32} (hb : ¬ (nI 0 ≤ x ∧ x ≤ nI 7)) : zCT E 2 zm_X7_set [.ref (zad E 165), .int x, .int i, .int v] (Q, Z) (some (.int zBAD)) (Q, Z) := by
  refine zCT.of (by decide +kernel) (Nat.le_of_ble_eq_true rfl) ?_
  refine zi_aload0 (n := 1) dX7_set_0 rfl ?_
  refine zi_iconst (n := 2) (nI 0) dX7_set_1 rfl (by decide) ?_
  refine zp_X7_0 (n := 5) dX7_set_2 rfl zl_X7_44 (zt0 h0) ?_
  refine zi_iload1 (n := 6) dX7_set_5 rfl ?_
  refine zi_S1s (mj := zm_X7_isRow) (n := 9) dX7_set_6 rfl zl_X7_58 zy_X7_isRow (by decide) (Nat.le_of_ble_eq_true rfl) (c_X7_isRow) ?_
  refine zi_ifne_b (n := 12) (tgt := 15) dX7_set_9 rfl (by decide) (fun h9 => ?_) (fun h9 => ?_)
  · first | exact absurd hb h9 | exact absurd h9 hb
  · refine zi_ldc (n := 14) dX7_set_12 rfl zl_X7_64 ?_
    exact zi_iret dX7_set_14 rfl (by rfl) (by rfl)
set_option maxHeartbeats 4000000 in
set_option maxRecDepth 100000 in
theorem m_set_null (h0 : Z 165 0 = nI 0) {r : Nat} {i v : Int32} (hr : r < 8) (hz : ¬ 0 ≤ Z 166 r) : zCT E 2 zm_X7_set [.ref (zad E 165), .int (nI r), .int i, .int v] (Q, Z) (some (.int (-1000010 - nI 1))) (Q, zsu (zsu Z 165 1 (nI 0)) 165 1 (nI 1)) := by
  refine zCT.of (by decide +kernel) (Nat.le_of_ble_eq_true rfl) ?_
  have a1 : nI 0 ≤ nI r ∧ nI r ≤ nI 7 := zrg (by omega) (by omega) (by decide)
  refine zi_aload0 (n := 1) dX7_set_0 rfl ?_
  refine zi_iconst (n := 2) (nI 0) dX7_set_1 rfl (by decide) ?_
  refine zp_X7_0 (n := 5) dX7_set_2 rfl zl_X7_44 (zt0 h0) ?_
  refine zi_iload1 (n := 6) dX7_set_5 rfl ?_
  refine zi_S1s (mj := zm_X7_isRow) (n := 9) dX7_set_6 rfl zl_X7_58 zy_X7_isRow (by decide) (Nat.le_of_ble_eq_true rfl) (c_X7_isRow) ?_
  refine zi_ifne_b (n := 12) (tgt := 15) dX7_set_9 rfl (by decide) (fun h9 => ?_) (fun h9 => ?_)
  · refine zi_aload0 (n := 16) dX7_set_15 rfl ?_
    refine zi_iconst (n := 17) (nI 0) dX7_set_16 rfl (by decide) ?_
    refine zp_X7_1 (n := 20) dX7_set_17 rfl zl_X7_48 rfl ?_
    refine zi_aload0 (n := 21) dX7_set_20 rfl ?_
    refine zg_X7_2 (n := 24) dX7_set_21 rfl zl_X7_7 ?_
    refine zi_iload1 (n := 25) dX7_set_24 rfl ?_
    refine zi_oald (N := 8) (n := 26) dX7_set_25 rfl (by decide) (fun _ => rfl) (by decide) rfl (by omega) rfl ?_
    refine zi_ifge (n := 29) (tgt := 35) dX7_set_26 rfl (by decide) (fun h26 => ?_) (fun h26 => ?_)
    · first | exact absurd hz h26 | exact absurd h26 hz
    · refine zi_aload0 (n := 30) dX7_set_29 rfl ?_
      refine zi_iconst (n := 31) (nI 1) dX7_set_30 rfl (by decide) ?_
      refine zi_V1s (mj := zm_X7_finding) (n := 34) dX7_set_31 rfl zl_X7_65 zy_X7_finding (zrc_X7 _ _) (by decide) (Nat.le_of_ble_eq_true rfl) (c_X7_finding) ?_
      exact zi_iret dX7_set_34 rfl (by rfl) (by rfl)
  · first | exact absurd a1 h9 | exact absurd h9 a1
set_option maxHeartbeats 4000000 in
set_option maxRecDepth 100000 in
theorem m_set_place (h0 : Z 165 0 = nI 0) {r : Nat} {i v : Int32} (hr : r < 8) (hz : 0 ≤ Z 166 r) (hi : ¬ (nI 0 ≤ i ∧ i ≤ Z 167 r - nI 1)) : zCT E 2 zm_X7_set [.ref (zad E 165), .int (nI r), .int i, .int v] (Q, Z) (some (.int (-1000010 - nI 2))) (Q, zsu (zsu Z 165 1 (nI 0)) 165 1 (nI 2)) := by
  refine zCT.of (by decide +kernel) (Nat.le_of_ble_eq_true rfl) ?_
  have a1 : nI 0 ≤ nI r ∧ nI r ≤ nI 7 := zrg (by omega) (by omega) (by decide)
  refine zi_aload0 (n := 1) dX7_set_0 rfl ?_
  refine zi_iconst (n := 2) (nI 0) dX7_set_1 rfl (by decide) ?_
  refine zp_X7_0 (n := 5) dX7_set_2 rfl zl_X7_44 (zt0 h0) ?_
  refine zi_iload1 (n := 6) dX7_set_5 rfl ?_
  refine zi_S1s (mj := zm_X7_isRow) (n := 9) dX7_set_6 rfl zl_X7_58 zy_X7_isRow (by decide) (Nat.le_of_ble_eq_true rfl) (c_X7_isRow) ?_
  refine zi_ifne_b (n := 12) (tgt := 15) dX7_set_9 rfl (by decide) (fun h9 => ?_) (fun h9 => ?_)
  · refine zi_aload0 (n := 16) dX7_set_15 rfl ?_
    refine zi_iconst (n := 17) (nI 0) dX7_set_16 rfl (by decide) ?_
    refine zp_X7_1 (n := 20) dX7_set_17 rfl zl_X7_48 rfl ?_
    refine zi_aload0 (n := 21) dX7_set_20 rfl ?_
    refine zg_X7_2 (n := 24) dX7_set_21 rfl zl_X7_7 ?_
    refine zi_iload1 (n := 25) dX7_set_24 rfl ?_
    refine zi_oald (N := 8) (n := 26) dX7_set_25 rfl (by decide) (fun _ => rfl) (by decide) rfl (by omega) rfl ?_
    refine zi_ifge (n := 29) (tgt := 35) dX7_set_26 rfl (by decide) (fun h26 => ?_) (fun h26 => ?_)
    · refine zi_iload2 (n := 36) dX7_set_35 rfl ?_
      refine zi_i2l (n := 37) dX7_set_36 rfl ?_
      refine zi_lconst (n := 38) ((nI 0).toInt64) dX7_set_37 rfl (by decide) ?_
      refine zi_aload0 (n := 39) dX7_set_38 rfl ?_
      refine zg_X7_3 (n := 42) dX7_set_39 rfl zl_X7_13 ?_
      refine zi_iload1 (n := 43) dX7_set_42 rfl ?_
      refine zi_oald (N := 8) (n := 44) dX7_set_43 rfl (by decide) (fun _ => rfl) (by decide) rfl (by omega) rfl ?_
      refine zi_iconst (n := 45) (nI 1) dX7_set_44 rfl (by decide) ?_
      refine zi_isub (n := 46) dX7_set_45 rfl ?_
      refine zi_i2l (n := 47) dX7_set_46 rfl ?_
      refine zi_S3s (mj := zm_X7_in) (n := 50) dX7_set_47 rfl zl_X7_54 zy_X7_in (by decide) (Nat.le_of_ble_eq_true rfl) (c_X7_in) ?_
      refine zi_ifne_b (n := 53) (tgt := 59) dX7_set_50 rfl (by decide) (fun h50 => ?_) (fun h50 => ?_)
      · first | exact absurd hi h50 | exact absurd h50 hi
      · refine zi_aload0 (n := 54) dX7_set_53 rfl ?_
        refine zi_iconst (n := 55) (nI 2) dX7_set_54 rfl (by decide) ?_
        refine zi_V1s (mj := zm_X7_finding) (n := 58) dX7_set_55 rfl zl_X7_65 zy_X7_finding (zrc_X7 _ _) (by decide) (Nat.le_of_ble_eq_true rfl) (c_X7_finding) ?_
        exact zi_iret dX7_set_58 rfl (by rfl) (by rfl)
    · first | exact absurd hz h26 | exact absurd h26 hz
  · first | exact absurd a1 h9 | exact absurd h9 a1
set_option maxHeartbeats 4000000 in
set_option maxRecDepth 100000 in
theorem m_set_ok (h0 : Z 165 0 = nI 0) {r i : Nat} {v : Int32} (hr : r < 8) (hi4 : i < 40) (hz : 0 ≤ Z 166 r) (hi : (nI 0 ≤ nI i ∧ nI i ≤ Z 167 r - nI 1)) : zCT E 2 zm_X7_set [.ref (zad E 165), .int (nI r), .int (nI i), .int v] (Q, Z) (some (.int (zputV (Z 166 r) v))) (Q, zsu (zsu Z 165 1 (nI 0)) 168 (40 * r + i) (zputV (Z 166 r) v)) := by
  refine zCT.of (by decide +kernel) (Nat.le_of_ble_eq_true rfl) ?_
  have a1 : nI 0 ≤ nI r ∧ nI r ≤ nI 7 := zrg (by omega) (by omega) (by decide)
  have ei : nI 40 * nI r + nI i = nI (40 * r + i) := by rw [pk_mul, nI_add]
  refine zi_aload0 (n := 1) dX7_set_0 rfl ?_
  refine zi_iconst (n := 2) (nI 0) dX7_set_1 rfl (by decide) ?_
  refine zp_X7_0 (n := 5) dX7_set_2 rfl zl_X7_44 (zt0 h0) ?_
  refine zi_iload1 (n := 6) dX7_set_5 rfl ?_
  refine zi_S1s (mj := zm_X7_isRow) (n := 9) dX7_set_6 rfl zl_X7_58 zy_X7_isRow (by decide) (Nat.le_of_ble_eq_true rfl) (c_X7_isRow) ?_
  refine zi_ifne_b (n := 12) (tgt := 15) dX7_set_9 rfl (by decide) (fun h9 => ?_) (fun h9 => ?_)
  · refine zi_aload0 (n := 16) dX7_set_15 rfl ?_
    refine zi_iconst (n := 17) (nI 0) dX7_set_16 rfl (by decide) ?_
    refine zp_X7_1 (n := 20) dX7_set_17 rfl zl_X7_48 rfl ?_
    refine zi_aload0 (n := 21) dX7_set_20 rfl ?_
    refine zg_X7_2 (n := 24) dX7_set_21 rfl zl_X7_7 ?_
    refine zi_iload1 (n := 25) dX7_set_24 rfl ?_
    refine zi_oald (N := 8) (n := 26) dX7_set_25 rfl (by decide) (fun _ => rfl) (by decide) rfl (by omega) rfl ?_
    refine zi_ifge (n := 29) (tgt := 35) dX7_set_26 rfl (by decide) (fun h26 => ?_) (fun h26 => ?_)
    · refine zi_iload2 (n := 36) dX7_set_35 rfl ?_
      refine zi_i2l (n := 37) dX7_set_36 rfl ?_
      refine zi_lconst (n := 38) ((nI 0).toInt64) dX7_set_37 rfl (by decide) ?_
      refine zi_aload0 (n := 39) dX7_set_38 rfl ?_
      refine zg_X7_3 (n := 42) dX7_set_39 rfl zl_X7_13 ?_
      refine zi_iload1 (n := 43) dX7_set_42 rfl ?_
      refine zi_oald (N := 8) (n := 44) dX7_set_43 rfl (by decide) (fun _ => rfl) (by decide) rfl (by omega) rfl ?_
      refine zi_iconst (n := 45) (nI 1) dX7_set_44 rfl (by decide) ?_
      refine zi_isub (n := 46) dX7_set_45 rfl ?_
      refine zi_i2l (n := 47) dX7_set_46 rfl ?_
      refine zi_S3s (mj := zm_X7_in) (n := 50) dX7_set_47 rfl zl_X7_54 zy_X7_in (by decide) (Nat.le_of_ble_eq_true rfl) (c_X7_in) ?_
      refine zi_ifne_b (n := 53) (tgt := 59) dX7_set_50 rfl (by decide) (fun h50 => ?_) (fun h50 => ?_)
      · refine zi_aload0 (n := 60) dX7_set_59 rfl ?_
        refine zg_X7_4 (n := 63) dX7_set_60 rfl zl_X7_16 ?_
        refine zi_bipush (n := 65) (nI 40) dX7_set_63 rfl (by decide) ?_
        refine zi_iload1 (n := 66) dX7_set_65 rfl ?_
        refine zi_imul (n := 67) dX7_set_66 rfl ?_
        refine zi_iload2 (n := 68) dX7_set_67 rfl ?_
        refine zi_iadd (n := 69) dX7_set_68 rfl ?_
        refine zi_aload0 (n := 70) dX7_set_69 rfl ?_
        refine zg_X7_2 (n := 73) dX7_set_70 rfl zl_X7_7 ?_
        refine zi_iload1 (n := 74) dX7_set_73 rfl ?_
        refine zi_oald (N := 8) (n := 75) dX7_set_74 rfl (by decide) (fun _ => rfl) (by decide) rfl (by omega) rfl ?_
        refine zi_ifne (n := 78) (tgt := 83) dX7_set_75 rfl (by decide) (fun h75 => ?_) (fun h75 => ?_)
        · have h75 : ¬ Z 166 r = 0 := h75
          refine zi_aload0 (n := 84) dX7_set_83 rfl ?_
          refine zg_X7_2 (n := 87) dX7_set_84 rfl zl_X7_7 ?_
          refine zi_iload1 (n := 88) dX7_set_87 rfl ?_
          refine zi_oald (N := 8) (n := 89) dX7_set_88 rfl (by decide) (fun _ => rfl) (by decide) rfl (by omega) rfl ?_
          refine zi_iconst (n := 90) (nI 1) dX7_set_89 rfl (by decide) ?_
          refine zi_icne (n := 93) (tgt := 98) dX7_set_90 rfl (by decide) (fun h90 => ?_) (fun h90 => ?_)
          · have h90 : ¬ Z 166 r = nI 1 := h90
            refine zi_iload3 (n := 99) dX7_set_98 rfl ?_
            refine zi_oast (N := 320) (i := 40 * r + i) (n := 100) dX7_set_99 rfl (by decide) (fun _ => rfl) (by decide) ei (by omega) rfl ?_
            refine zi_aload0 (n := 101) dX7_set_100 rfl ?_
            refine zg_X7_4 (n := 104) dX7_set_101 rfl zl_X7_16 ?_
            refine zi_bipush (n := 106) (nI 40) dX7_set_104 rfl (by decide) ?_
            refine zi_iload1 (n := 107) dX7_set_106 rfl ?_
            refine zi_imul (n := 108) dX7_set_107 rfl ?_
            refine zi_iload2 (n := 109) dX7_set_108 rfl ?_
            refine zi_iadd (n := 110) dX7_set_109 rfl ?_
            refine zi_oald (N := 320) (i := 40 * r + i) (n := 111) dX7_set_110 rfl (by decide) (fun _ => rfl) (by decide) ei (by omega) (zsu_self (zsu Z 165 1 (nI 0)) 168 (40 * r + i) _) ?_
            exact zi_iret dX7_set_111 rfl (by simp [zputV, h9, h26, h50, h75, h90, show ¬ nI 1 = 0 by decide]) (by simp [zputV, h9, h26, h50, h75, h90, show ¬ nI 1 = 0 by decide])
          · have h90 : Z 166 r = nI 1 := h90
            refine zi_iload3 (n := 94) dX7_set_93 rfl ?_
            refine zi_i2s (n := 95) dX7_set_94 rfl ?_
            refine zi_goto (tgt := 99) dX7_set_95 (by decide) ?_
            refine zi_oast (N := 320) (i := 40 * r + i) (n := 100) dX7_set_99 rfl (by decide) (fun _ => rfl) (by decide) ei (by omega) rfl ?_
            refine zi_aload0 (n := 101) dX7_set_100 rfl ?_
            refine zg_X7_4 (n := 104) dX7_set_101 rfl zl_X7_16 ?_
            refine zi_bipush (n := 106) (nI 40) dX7_set_104 rfl (by decide) ?_
            refine zi_iload1 (n := 107) dX7_set_106 rfl ?_
            refine zi_imul (n := 108) dX7_set_107 rfl ?_
            refine zi_iload2 (n := 109) dX7_set_108 rfl ?_
            refine zi_iadd (n := 110) dX7_set_109 rfl ?_
            refine zi_oald (N := 320) (i := 40 * r + i) (n := 111) dX7_set_110 rfl (by decide) (fun _ => rfl) (by decide) ei (by omega) (zsu_self (zsu Z 165 1 (nI 0)) 168 (40 * r + i) _) ?_
            exact zi_iret dX7_set_111 rfl (by simp [zputV, h9, h26, h50, h75, h90, show ¬ nI 1 = 0 by decide]) (by simp [zputV, h9, h26, h50, h75, h90, show ¬ nI 1 = 0 by decide])
        · have h75 : Z 166 r = 0 := h75
          refine zi_iload3 (n := 79) dX7_set_78 rfl ?_
          refine zi_i2b (n := 80) dX7_set_79 rfl ?_
          refine zi_goto (tgt := 99) dX7_set_80 (by decide) ?_
          refine zi_oast (N := 320) (i := 40 * r + i) (n := 100) dX7_set_99 rfl (by decide) (fun _ => rfl) (by decide) ei (by omega) rfl ?_
          refine zi_aload0 (n := 101) dX7_set_100 rfl ?_
          refine zg_X7_4 (n := 104) dX7_set_101 rfl zl_X7_16 ?_
          refine zi_bipush (n := 106) (nI 40) dX7_set_104 rfl (by decide) ?_
          refine zi_iload1 (n := 107) dX7_set_106 rfl ?_
          refine zi_imul (n := 108) dX7_set_107 rfl ?_
          refine zi_iload2 (n := 109) dX7_set_108 rfl ?_
          refine zi_iadd (n := 110) dX7_set_109 rfl ?_
          refine zi_oald (N := 320) (i := 40 * r + i) (n := 111) dX7_set_110 rfl (by decide) (fun _ => rfl) (by decide) ei (by omega) (zsu_self (zsu Z 165 1 (nI 0)) 168 (40 * r + i) _) ?_
          exact zi_iret dX7_set_111 rfl (by simp [zputV, h9, h26, h50, h75, show ¬ nI 1 = 0 by decide]) (by simp [zputV, h9, h26, h50, h75, show ¬ nI 1 = 0 by decide])
      · first | exact absurd hi h50 | exact absurd h50 hi
    · first | exact absurd hz h26 | exact absurd h26 hz
  · first | exact absurd a1 h9 | exact absurd h9 a1
set_option maxHeartbeats 4000000 in
set_option maxRecDepth 100000 in
theorem m_drop_bad (h0 : Z 165 0 = nI 0) {x : Int32} (hb : ¬ (nI 0 ≤ x ∧ x ≤ nI 7)) : zCT E 2 zm_X7_drop [.ref (zad E 165), .int x] (Q, Z) (some (.int zBAD)) (Q, Z) := by
  refine zCT.of (by decide +kernel) (Nat.le_of_ble_eq_true rfl) ?_
  refine zi_aload0 (n := 1) dX7_drop_0 rfl ?_
  refine zi_iconst (n := 2) (nI 0) dX7_drop_1 rfl (by decide) ?_
  refine zp_X7_0 (n := 5) dX7_drop_2 rfl zl_X7_44 (zt0 h0) ?_
  refine zi_iload1 (n := 6) dX7_drop_5 rfl ?_
  refine zi_S1s (mj := zm_X7_isRow) (n := 9) dX7_drop_6 rfl zl_X7_58 zy_X7_isRow (by decide) (Nat.le_of_ble_eq_true rfl) (c_X7_isRow) ?_
  refine zi_ifne_b (n := 12) (tgt := 15) dX7_drop_9 rfl (by decide) (fun h9 => ?_) (fun h9 => ?_)
  · first | exact absurd hb h9 | exact absurd h9 hb
  · refine zi_ldc (n := 14) dX7_drop_12 rfl zl_X7_64 ?_
    exact zi_iret dX7_drop_14 rfl (by rfl) (by rfl)
set_option maxHeartbeats 4000000 in
set_option maxRecDepth 100000 in
theorem m_drop_null (h0 : Z 165 0 = nI 0) {r : Nat} (hr : r < 8) (hz : ¬ 0 ≤ Z 166 r) : zCT E 2 zm_X7_drop [.ref (zad E 165), .int (nI r)] (Q, Z) (some (.int (-1000010 - nI 1))) (Q, zsu (zsu Z 165 1 (nI 0)) 165 1 (nI 1)) := by
  refine zCT.of (by decide +kernel) (Nat.le_of_ble_eq_true rfl) ?_
  have a1 : nI 0 ≤ nI r ∧ nI r ≤ nI 7 := zrg (by omega) (by omega) (by decide)
  refine zi_aload0 (n := 1) dX7_drop_0 rfl ?_
  refine zi_iconst (n := 2) (nI 0) dX7_drop_1 rfl (by decide) ?_
  refine zp_X7_0 (n := 5) dX7_drop_2 rfl zl_X7_44 (zt0 h0) ?_
  refine zi_iload1 (n := 6) dX7_drop_5 rfl ?_
  refine zi_S1s (mj := zm_X7_isRow) (n := 9) dX7_drop_6 rfl zl_X7_58 zy_X7_isRow (by decide) (Nat.le_of_ble_eq_true rfl) (c_X7_isRow) ?_
  refine zi_ifne_b (n := 12) (tgt := 15) dX7_drop_9 rfl (by decide) (fun h9 => ?_) (fun h9 => ?_)
  · refine zi_aload0 (n := 16) dX7_drop_15 rfl ?_
    refine zi_iconst (n := 17) (nI 0) dX7_drop_16 rfl (by decide) ?_
    refine zp_X7_1 (n := 20) dX7_drop_17 rfl zl_X7_48 rfl ?_
    refine zi_aload0 (n := 21) dX7_drop_20 rfl ?_
    refine zg_X7_2 (n := 24) dX7_drop_21 rfl zl_X7_7 ?_
    refine zi_iload1 (n := 25) dX7_drop_24 rfl ?_
    refine zi_oald (N := 8) (n := 26) dX7_drop_25 rfl (by decide) (fun _ => rfl) (by decide) rfl (by omega) rfl ?_
    refine zi_ifge (n := 29) (tgt := 35) dX7_drop_26 rfl (by decide) (fun h26 => ?_) (fun h26 => ?_)
    · first | exact absurd hz h26 | exact absurd h26 hz
    · refine zi_aload0 (n := 30) dX7_drop_29 rfl ?_
      refine zi_iconst (n := 31) (nI 1) dX7_drop_30 rfl (by decide) ?_
      refine zi_V1s (mj := zm_X7_finding) (n := 34) dX7_drop_31 rfl zl_X7_65 zy_X7_finding (zrc_X7 _ _) (by decide) (Nat.le_of_ble_eq_true rfl) (c_X7_finding) ?_
      exact zi_iret dX7_drop_34 rfl (by rfl) (by rfl)
  · first | exact absurd a1 h9 | exact absurd h9 a1
set_option maxHeartbeats 4000000 in
set_option maxRecDepth 100000 in
theorem m_drop_ok (h0 : Z 165 0 = nI 0) {r : Nat} (hr : r < 8) (hz : 0 ≤ Z 166 r) : zCT E 2 zm_X7_drop [.ref (zad E 165), .int (nI r)] (Q, Z) (some (.int (Z 167 r))) (Q, zsu (zsu Z 165 1 (nI 0)) 166 r (-1)) := by
  refine zCT.of (by decide +kernel) (Nat.le_of_ble_eq_true rfl) ?_
  have a1 : nI 0 ≤ nI r ∧ nI r ≤ nI 7 := zrg (by omega) (by omega) (by decide)
  refine zi_aload0 (n := 1) dX7_drop_0 rfl ?_
  refine zi_iconst (n := 2) (nI 0) dX7_drop_1 rfl (by decide) ?_
  refine zp_X7_0 (n := 5) dX7_drop_2 rfl zl_X7_44 (zt0 h0) ?_
  refine zi_iload1 (n := 6) dX7_drop_5 rfl ?_
  refine zi_S1s (mj := zm_X7_isRow) (n := 9) dX7_drop_6 rfl zl_X7_58 zy_X7_isRow (by decide) (Nat.le_of_ble_eq_true rfl) (c_X7_isRow) ?_
  refine zi_ifne_b (n := 12) (tgt := 15) dX7_drop_9 rfl (by decide) (fun h9 => ?_) (fun h9 => ?_)
  · refine zi_aload0 (n := 16) dX7_drop_15 rfl ?_
    refine zi_iconst (n := 17) (nI 0) dX7_drop_16 rfl (by decide) ?_
    refine zp_X7_1 (n := 20) dX7_drop_17 rfl zl_X7_48 rfl ?_
    refine zi_aload0 (n := 21) dX7_drop_20 rfl ?_
    refine zg_X7_2 (n := 24) dX7_drop_21 rfl zl_X7_7 ?_
    refine zi_iload1 (n := 25) dX7_drop_24 rfl ?_
    refine zi_oald (N := 8) (n := 26) dX7_drop_25 rfl (by decide) (fun _ => rfl) (by decide) rfl (by omega) rfl ?_
    refine zi_ifge (n := 29) (tgt := 35) dX7_drop_26 rfl (by decide) (fun h26 => ?_) (fun h26 => ?_)
    · refine zi_aload0 (n := 36) dX7_drop_35 rfl ?_
      refine zg_X7_2 (n := 39) dX7_drop_36 rfl zl_X7_7 ?_
      refine zi_iload1 (n := 40) dX7_drop_39 rfl ?_
      refine zi_iconst (n := 41) (-1) dX7_drop_40 rfl (by decide) ?_
      refine zi_oast (N := 8) (n := 42) dX7_drop_41 rfl (by decide) (fun _ => rfl) (by decide) rfl (by omega) rfl ?_
      refine zi_aload0 (n := 43) dX7_drop_42 rfl ?_
      refine zg_X7_3 (n := 46) dX7_drop_43 rfl zl_X7_13 ?_
      refine zi_iload1 (n := 47) dX7_drop_46 rfl ?_
      refine zi_oald (N := 8) (n := 48) dX7_drop_47 rfl (by decide) (fun _ => rfl) (by decide) rfl (by omega) rfl ?_
      exact zi_iret dX7_drop_48 rfl (by rfl) (by rfl)
    · first | exact absurd hz h26 | exact absurd h26 hz
  · first | exact absurd a1 h9 | exact absurd h9 a1
set_option maxHeartbeats 4000000 in
set_option maxRecDepth 100000 in
theorem m_status (h0 : Z 165 0 = nI 0)  : zCT E 0 zm_X7_status [.ref (zad E 165)] (Q, Z) (some (.int (Z 165 1))) (Q, Z) := by
  refine zCT.of (by decide +kernel) (Nat.le_of_ble_eq_true rfl) ?_
  refine zi_aload0 (n := 1) dX7_status_0 rfl ?_
  refine zi_iconst (n := 2) (nI 0) dX7_status_1 rfl (by decide) ?_
  refine zp_X7_0 (n := 5) dX7_status_2 rfl zl_X7_44 (zt0 h0) ?_
  refine zi_aload0 (n := 6) dX7_status_5 rfl ?_
  refine zg_X7_1 (n := 9) dX7_status_6 rfl zl_X7_48 rfl ?_
  exact zi_iret dX7_status_9 rfl (by rfl) (by rfl)
set_option maxHeartbeats 4000000 in
set_option maxRecDepth 100000 in
theorem m_fault (h0 : Z 165 0 = nI 0)  : zCT E 0 zm_X7_fault [.ref (zad E 165)] (Q, Z) (some (.int (Z 165 18))) (Q, Z) := by
  refine zCT.of (by decide +kernel) (Nat.le_of_ble_eq_true rfl) ?_
  refine zi_aload0 (n := 1) dX7_fault_0 rfl ?_
  refine zi_iconst (n := 2) (nI 0) dX7_fault_1 rfl (by decide) ?_
  refine zp_X7_0 (n := 5) dX7_fault_2 rfl zl_X7_44 (zt0 h0) ?_
  refine zi_aload0 (n := 6) dX7_fault_5 rfl ?_
  refine zg_X7_18 (n := 9) dX7_fault_6 rfl zl_X7_113 rfl ?_
  exact zi_iret dX7_fault_9 rfl (by rfl) (by rfl)
set_option maxHeartbeats 4000000 in
set_option maxRecDepth 100000 in
theorem m_feed_bad (h0 : Z 165 0 = nI 0) {x : Int32} (hb : ¬ (nI 0 ≤ x ∧ x ≤ nI 255)) : zCT E 1 zm_X7_feed [.ref (zad E 165), .int x] (Q, Z) (some (.int zBAD)) (Q, Z) := by
  refine zCT.of (by decide +kernel) (Nat.le_of_ble_eq_true rfl) ?_
  refine zi_aload0 (n := 1) dX7_feed_0 rfl ?_
  refine zi_iconst (n := 2) (nI 0) dX7_feed_1 rfl (by decide) ?_
  refine zp_X7_0 (n := 5) dX7_feed_2 rfl zl_X7_44 (zt0 h0) ?_
  refine zi_iload1 (n := 6) dX7_feed_5 rfl ?_
  refine zi_i2l (n := 7) dX7_feed_6 rfl ?_
  refine zi_lconst (n := 8) ((nI 0).toInt64) dX7_feed_7 rfl (by decide) ?_
  refine zi_ldc2 (n := 11) dX7_feed_8 rfl zl_X7_69 ?_
  rw [show (255 : Int64) = (nI 255).toInt64 by decide]
  refine zi_S3s (mj := zm_X7_in) (n := 14) dX7_feed_11 rfl zl_X7_54 zy_X7_in (by decide) (Nat.le_of_ble_eq_true rfl) (c_X7_in) ?_
  refine zi_ifne_b (n := 17) (tgt := 20) dX7_feed_14 rfl (by decide) (fun h14 => ?_) (fun h14 => ?_)
  · first | exact absurd hb h14 | exact absurd h14 hb
  · refine zi_ldc (n := 19) dX7_feed_17 rfl zl_X7_64 ?_
    exact zi_iret dX7_feed_19 rfl (by rfl) (by rfl)
set_option maxHeartbeats 4000000 in
set_option maxRecDepth 100000 in
theorem m_feed_full (h0 : Z 165 0 = nI 0) {x : Int32} (hx : nI 0 ≤ x ∧ x ≤ nI 255) (hL : Z 165 11 = nI 90) : zCT E 1 zm_X7_feed [.ref (zad E 165), .int x] (Q, Z) (some (.int zFULL)) (Q, Z) := by
  refine zCT.of (by decide +kernel) (Nat.le_of_ble_eq_true rfl) ?_
  refine zi_aload0 (n := 1) dX7_feed_0 rfl ?_
  refine zi_iconst (n := 2) (nI 0) dX7_feed_1 rfl (by decide) ?_
  refine zp_X7_0 (n := 5) dX7_feed_2 rfl zl_X7_44 (zt0 h0) ?_
  refine zi_iload1 (n := 6) dX7_feed_5 rfl ?_
  refine zi_i2l (n := 7) dX7_feed_6 rfl ?_
  refine zi_lconst (n := 8) ((nI 0).toInt64) dX7_feed_7 rfl (by decide) ?_
  refine zi_ldc2 (n := 11) dX7_feed_8 rfl zl_X7_69 ?_
  rw [show (255 : Int64) = (nI 255).toInt64 by decide]
  refine zi_S3s (mj := zm_X7_in) (n := 14) dX7_feed_11 rfl zl_X7_54 zy_X7_in (by decide) (Nat.le_of_ble_eq_true rfl) (c_X7_in) ?_
  refine zi_ifne_b (n := 17) (tgt := 20) dX7_feed_14 rfl (by decide) (fun h14 => ?_) (fun h14 => ?_)
  · refine zi_aload0 (n := 21) dX7_feed_20 rfl ?_
    refine zg_X7_11 (n := 24) dX7_feed_21 rfl zl_X7_71 rfl ?_
    refine zi_bipush (n := 26) (nI 90) dX7_feed_24 rfl (by decide) ?_
    refine zi_icne (n := 29) (tgt := 32) dX7_feed_26 rfl (by decide) (fun h26 => ?_) (fun h26 => ?_)
    · first | exact absurd hL h26 | exact absurd h26 hL
    · refine zi_ldc (n := 31) dX7_feed_29 rfl zl_X7_74 ?_
      exact zi_iret dX7_feed_31 rfl (by rfl) (by rfl)
  · first | exact absurd hx h14 | exact absurd h14 hx
set_option maxHeartbeats 4000000 in
set_option maxRecDepth 100000 in
theorem m_feed_ok (h0 : Z 165 0 = nI 0) {x : Int32} {L : Nat} (hx : nI 0 ≤ x ∧ x ≤ nI 255) (hT : Z 165 11 = nI L) (hL : L < 90) : zCT E 1 zm_X7_feed [.ref (zad E 165), .int x] (Q, Z) (some (.int (nI (L + 1)))) (Q, zsu (zsu Z 173 L x) 165 11 (nI (L + 1))) := by
  refine zCT.of (by decide +kernel) (Nat.le_of_ble_eq_true rfl) ?_
  have a2 : ¬ nI L = nI 90 := fun z => absurd ((nI_eq (by omega) (by decide)).mp z) (by omega)
  have a3 : nI L + nI 1 = nI (L + 1) := nI_add L 1
  refine zi_aload0 (n := 1) dX7_feed_0 rfl ?_
  refine zi_iconst (n := 2) (nI 0) dX7_feed_1 rfl (by decide) ?_
  refine zp_X7_0 (n := 5) dX7_feed_2 rfl zl_X7_44 (zt0 h0) ?_
  refine zi_iload1 (n := 6) dX7_feed_5 rfl ?_
  refine zi_i2l (n := 7) dX7_feed_6 rfl ?_
  refine zi_lconst (n := 8) ((nI 0).toInt64) dX7_feed_7 rfl (by decide) ?_
  refine zi_ldc2 (n := 11) dX7_feed_8 rfl zl_X7_69 ?_
  rw [show (255 : Int64) = (nI 255).toInt64 by decide]
  refine zi_S3s (mj := zm_X7_in) (n := 14) dX7_feed_11 rfl zl_X7_54 zy_X7_in (by decide) (Nat.le_of_ble_eq_true rfl) (c_X7_in) ?_
  refine zi_ifne_b (n := 17) (tgt := 20) dX7_feed_14 rfl (by decide) (fun h14 => ?_) (fun h14 => ?_)
  · refine zi_aload0 (n := 21) dX7_feed_20 rfl ?_
    refine zg_X7_11 (n := 24) dX7_feed_21 rfl zl_X7_71 hT ?_
    refine zi_bipush (n := 26) (nI 90) dX7_feed_24 rfl (by decide) ?_
    refine zi_icne (n := 29) (tgt := 32) dX7_feed_26 rfl (by decide) (fun h26 => ?_) (fun h26 => ?_)
    · refine zi_aload0 (n := 33) dX7_feed_32 rfl ?_
      refine zg_X7_10 (n := 36) dX7_feed_33 rfl zl_X7_31 ?_
      refine zi_aload0 (n := 37) dX7_feed_36 rfl ?_
      refine zg_X7_11 (n := 40) dX7_feed_37 rfl zl_X7_71 hT ?_
      refine zi_iload1 (n := 41) dX7_feed_40 rfl ?_
      refine zi_oast (N := 90) (n := 42) dX7_feed_41 rfl (by decide) (fun _ => rfl) (by decide) rfl (by omega) rfl ?_
      refine zi_aload0 (n := 43) dX7_feed_42 rfl ?_
      refine zi_dup (n := 44) dX7_feed_43 rfl rfl ?_
      refine zg_X7_11 (n := 47) dX7_feed_44 rfl zl_X7_71 hT ?_
      refine zi_iconst (n := 48) (nI 1) dX7_feed_47 rfl (by decide) ?_
      refine zi_iadd (n := 49) dX7_feed_48 rfl ?_
      rw [a3]
      refine zp_X7_11 (n := 52) dX7_feed_49 rfl zl_X7_71 rfl ?_
      refine zi_aload0 (n := 53) dX7_feed_52 rfl ?_
      refine zg_X7_11 (n := 56) dX7_feed_53 rfl zl_X7_71 rfl ?_
      exact zi_iret dX7_feed_56 rfl (by rfl) (by rfl)
    · first | exact absurd a2 h26 | exact absurd h26 a2
  · first | exact absurd hx h14 | exact absurd h14 hx
set_option maxHeartbeats 4000000 in
set_option maxRecDepth 100000 in
theorem l2_X7_keep {w : zF} {a : Nat} (ha : Z 165 9 = nI a) (h24 : a < 24) : ∀ k i, 36 - i < k → i ≤ 36 → zG E zm_X7_keep 0 none (Q, zsu (va_up Z 172 (zpt w (Z 169) (36 * a) 36)) 165 9 (nI (a + 1))) 51 [some (.ref (zad E 165)), some (.int (nI i))] [] (Q, va_up Z 172 (zpt w (Z 169) (36 * a) i)) := by
  intro k
  induction k with
  | zero => intro i h; omega
  | succ k ih =>
    intro i h1 h2
    refine zi_iload1 (n := 52) dX7_keep_51 rfl ?_
    refine zi_bipush (n := 54) (nI 36) dX7_keep_52 rfl (by decide) ?_
    refine zi_icge (n := 57) (tgt := 83) dX7_keep_54 rfl (by decide) (fun h54 => ?_) (fun h54 => ?_)
    · have e : i = 36 := by have := (nI_leI (by omega) (by omega)).mp h54; omega
      subst e
      refine zi_aload0 (n := 84) dX7_keep_83 rfl ?_
      refine zi_dup (n := 85) dX7_keep_84 rfl rfl ?_
      refine zg_X7_9 (n := 88) dX7_keep_85 rfl zl_X7_143 ((zfn _ _ _ _ (by decide) _).trans ha) ?_
      refine zi_iconst (n := 89) (nI 1) dX7_keep_88 rfl (by decide) ?_
      refine zi_iadd (n := 90) dX7_keep_89 rfl ?_
      rw [nI_add]
      refine zp_X7_9 (n := 93) dX7_keep_90 rfl zl_X7_143 rfl ?_
      exact zi_vret dX7_keep_93 rfl (by rfl) (by rfl)
    · have e : i < 36 := by have := mt (nI_leI (by omega) (by omega)).mpr h54; omega
      refine zi_aload0 (n := 58) dX7_keep_57 rfl ?_
      refine zg_X7_8 (n := 61) dX7_keep_58 rfl zl_X7_28 ?_
      refine zi_bipush (n := 63) (nI 36) dX7_keep_61 rfl (by decide) ?_
      refine zi_aload0 (n := 64) dX7_keep_63 rfl ?_
      refine zg_X7_9 (n := 67) dX7_keep_64 rfl zl_X7_143 ((zfn _ _ _ _ (by decide) _).trans ha) ?_
      refine zi_imul (n := 68) dX7_keep_67 rfl ?_
      refine zi_iload1 (n := 69) dX7_keep_68 rfl ?_
      refine zi_iadd (n := 70) dX7_keep_69 rfl ?_
      refine zi_aload0 (n := 71) dX7_keep_70 rfl ?_
      refine zg_X7_5 (n := 74) dX7_keep_71 rfl zl_X7_19 ?_
      refine zi_iload1 (n := 75) dX7_keep_74 rfl ?_
      refine zi_oald (N := 36) (i := i) (n := 76) dX7_keep_75 rfl (by decide) (fun _ => rfl) (by decide) rfl e (zfn _ _ _ _ (by decide) _) ?_
      refine zi_oast (N := 864) (i := 36 * a + i) (n := 77) dX7_keep_76 rfl (by decide) (fun _ => rfl) (by decide) (by rw [pk_mul, nI_add]) (by omega) (zfqe (zpt_step w (Z 169) (36 * a) i)) ?_
      refine zi_iinc1 (n := 80) (nI (i + 1)) dX7_keep_77 rfl (by decide) rfl (zi1 _) ?_
      refine zi_goto (tgt := 51) dX7_keep_80 (by decide) ?_
      exact ih (i + 1) (by omega) (by omega)
set_option maxHeartbeats 4000000 in
set_option maxRecDepth 100000 in
theorem l1_X7_keep {w : zF} (ha : Z 165 9 = nI 24) {M1 : zMem} (fin : zG E zm_X7_keep 0 none M1 39 [some (.ref (zad E 165)), some (.int (nI 828))] [] (Q, va_up Z 172 (zsh36 w 828))) : ∀ k i, 828 - i < k → i ≤ 828 → zG E zm_X7_keep 0 none M1 11 [some (.ref (zad E 165)), some (.int (nI i))] [] (Q, va_up Z 172 (zsh36 w i)) := by
  intro k
  induction k with
  | zero => intro i h; omega
  | succ k ih =>
    intro i h1 h2
    refine zi_iload1 (n := 12) dX7_keep_11 rfl ?_
    refine zi_sipush (n := 15) (nI 828) dX7_keep_12 rfl (by decide) ?_
    refine zi_icge (n := 18) (tgt := 39) dX7_keep_15 rfl (by decide) (fun h15 => ?_) (fun h15 => ?_)
    · have e : i = 828 := by have := (nI_leI (by omega) (by omega)).mp h15; omega
      subst e
      exact fin
    · have e : i < 828 := by have := mt (nI_leI (by omega) (by omega)).mpr h15; omega
      refine zi_aload0 (n := 19) dX7_keep_18 rfl ?_
      refine zg_X7_8 (n := 22) dX7_keep_19 rfl zl_X7_28 ?_
      refine zi_iload1 (n := 23) dX7_keep_22 rfl ?_
      refine zi_aload0 (n := 24) dX7_keep_23 rfl ?_
      refine zg_X7_8 (n := 27) dX7_keep_24 rfl zl_X7_28 ?_
      refine zi_iload1 (n := 28) dX7_keep_27 rfl ?_
      refine zi_bipush (n := 30) (nI 36) dX7_keep_28 rfl (by decide) ?_
      refine zi_iadd (n := 31) dX7_keep_30 rfl ?_
      refine zi_oald (N := 864) (i := i + 36) (n := 32) dX7_keep_31 rfl (by decide) (fun _ => rfl) (by decide) (by rw [nI_add]) (by omega) (zfz _ _ _ _ _) ?_
      refine zi_oast (N := 864) (i := i) (n := 33) dX7_keep_32 rfl (by decide) (fun _ => rfl) (by decide) rfl (by omega) (zfqe (zsh36_step w i)) ?_
      refine zi_iinc1 (n := 36) (nI (i + 1)) dX7_keep_33 rfl (by decide) rfl (zi1 _) ?_
      refine zi_goto (tgt := 11) dX7_keep_36 (by decide) ?_
      exact ih (i + 1) (by omega) (by omega)
set_option maxHeartbeats 4000000 in
set_option maxRecDepth 100000 in
theorem c_keep_lt {a : Nat} (ha : Z 165 9 = nI a) (h24 : a < 24) : zCT E 0 zm_X7_keep [.ref (zad E 165)] (Q, Z) none (Q, zsu (va_up Z 172 (zpt (Z 172) (Z 169) (36 * a) 36)) 165 9 (nI (a + 1))) := by
  refine zCT.of (by decide +kernel) (Nat.le_of_ble_eq_true rfl) ?_
  have a2 : ¬ nI a = nI 24 := fun z => absurd ((nI_eq (by omega) (by decide)).mp z) (by omega)
  refine zi_aload0 (n := 1) dX7_keep_0 rfl ?_
  refine zg_X7_9 (n := 4) dX7_keep_1 rfl zl_X7_143 ha ?_
  refine zi_bipush (n := 6) (nI 24) dX7_keep_4 rfl (by decide) ?_
  refine zi_icne (n := 9) (tgt := 49) dX7_keep_6 rfl (by decide) (fun h6 => ?_) (fun h6 => ?_)
  · refine zi_iconst (n := 50) (nI 0) dX7_keep_49 rfl (by decide) ?_
    refine zi_istore1 (n := 51) dX7_keep_50 rfl (by decide) rfl ?_
    have g := l2_X7_keep (E := E) (Q := Q) (Z := Z) (w := Z 172) ha h24 37 0 (by omega) (by omega)
    rw [zpt_0, zup_same] at g
    exact g
  · first | exact absurd a2 h6 | exact absurd h6 a2
set_option maxHeartbeats 4000000 in
set_option maxRecDepth 100000 in
theorem c_keep_24 (ha : Z 165 9 = nI 24) : zCT E 0 zm_X7_keep [.ref (zad E 165)] (Q, Z) none (Q, zsu (va_up (zsu Z 165 9 (nI 23)) 172 (zpt (zsh36 (Z 172) 828) (Z 169) (36 * 23) 36)) 165 9 (nI 24)) := by
  refine zCT.of (by decide +kernel) (Nat.le_of_ble_eq_true rfl) ?_
  refine zi_aload0 (n := 1) dX7_keep_0 rfl ?_
  refine zg_X7_9 (n := 4) dX7_keep_1 rfl zl_X7_143 ha ?_
  refine zi_bipush (n := 6) (nI 24) dX7_keep_4 rfl (by decide) ?_
  refine zi_icne (n := 9) (tgt := 49) dX7_keep_6 rfl (by decide) (fun h6 => ?_) (fun h6 => ?_)
  · exact absurd rfl h6
  · refine zi_iconst (n := 10) (nI 0) dX7_keep_9 rfl (by decide) ?_
    refine zi_istore1 (n := 11) dX7_keep_10 rfl (by decide) rfl ?_
    refine zG_eqM (M2 := (Q, va_up Z 172 (zsh36 (Z 172) 0))) (by rw [zsh36_0, zup_same]) ?_
    refine l1_X7_keep ha ?_ 829 0 (by omega) (by omega)
    refine zi_aload0 (n := 40) dX7_keep_39 rfl ?_
    refine zi_dup (n := 41) dX7_keep_40 rfl rfl ?_
    refine zg_X7_9 (n := 44) dX7_keep_41 rfl zl_X7_143 ((zfn _ _ _ _ (by decide) _).trans ha) ?_
    refine zi_iconst (n := 45) (nI 1) dX7_keep_44 rfl (by decide) ?_
    refine zi_isub (n := 46) dX7_keep_45 rfl ?_
    rw [show nI 24 - nI 1 = nI 23 by decide]
    refine zp_X7_9 (n := 49) dX7_keep_46 rfl zl_X7_143 rfl ?_
    refine zi_iconst (n := 50) (nI 0) dX7_keep_49 rfl (by decide) ?_
    refine zi_istore1 (n := 51) dX7_keep_50 rfl (by decide) rfl ?_
    have g := l2_X7_keep (E := E) (Q := Q) (Z := zsu Z 165 9 (nI 23)) (w := zsh36 (Z 172) 828) (a := 23) ((zsu_at _ _ _ _ _ _).trans (if_pos ⟨rfl, rfl⟩)) (by decide) 37 0 (by omega) (by omega)
    rw [zpt_0, zsu_ne _ _ (show 169 ≠ 165 by decide)] at g
    refine zG_eqM ?_ g
    dsimp only
    rw [zsu_other (by decide)]
def zkW (w s : zF) (a : Nat) : zF := if a = 24 then zpt (zsh36 w 828) s (36 * 23) 36 else zpt w s (36 * a) 36
def zkN (a : Nat) : Nat := if a = 24 then 24 else a + 1
def zkM (Z : zS) (a : Nat) : zS := zsu (va_up Z 172 (zkW (Z 172) (Z 169) a)) 165 9 (nI (zkN a))
theorem c_X7_keep {a : Nat} (ha : Z 165 9 = nI a) (h24 : a ≤ 24) : zCT E 0 zm_X7_keep [.ref (zad E 165)] (Q, Z) none (Q, zkM Z a) := by
  unfold zkM zkW zkN
  by_cases h : a = 24
  · subst h
    rw [if_pos rfl, if_pos rfl]
    have g := c_keep_24 (E := E) (Q := Q) ha
    rwa [show zsu (va_up (zsu Z 165 9 (nI 23)) 172 (zpt (zsh36 (Z 172) 828) (Z 169) (36 * 23) 36)) 165 9 (nI 24) = zsu (va_up Z 172 (zpt (zsh36 (Z 172) 828) (Z 169) (36 * 23) 36)) 165 9 (nI 24) from by
      funext b k
      simp only [zsu_at, va_up]
      split
      · rfl
      · split
        · rfl
        · rename_i h1 h2; rw [zsu_at, if_neg h1]] at g
  · rw [if_neg h, if_neg h]
    exact c_keep_lt ha (by omega)
theorem zkM_169 {a : Nat} : zkM Z a 169 = Z 169 := by
  unfold zkM
  rw [zsu_ne _ _ (by decide), va_up_ne _ _ (by decide)]
set_option maxHeartbeats 4000000 in
set_option maxRecDepth 100000 in
theorem m_undo_none (h0 : Z 165 0 = nI 0) (hk : Z 165 9 = 0) : zCT E 0 zm_X7_undo [.ref (zad E 165)] (Q, Z) (some (.int zSTATE)) (Q, Z) := by
  refine zCT.of (by decide +kernel) (Nat.le_of_ble_eq_true rfl) ?_
  refine zi_aload0 (n := 1) dX7_undo_0 rfl ?_
  refine zi_iconst (n := 2) (nI 0) dX7_undo_1 rfl (by decide) ?_
  refine zp_X7_0 (n := 5) dX7_undo_2 rfl zl_X7_44 (zt0 h0) ?_
  refine zi_aload0 (n := 6) dX7_undo_5 rfl ?_
  refine zg_X7_9 (n := 9) dX7_undo_6 rfl zl_X7_143 rfl ?_
  refine zi_ifne (n := 12) (tgt := 15) dX7_undo_9 rfl (by decide) (fun h9 => ?_) (fun h9 => ?_)
  · first | exact absurd hk h9 | exact absurd h9 hk
  · refine zi_ldc (n := 14) dX7_undo_12 rfl zl_X7_174 ?_
    exact zi_iret dX7_undo_14 rfl (by rfl) (by rfl)
set_option maxHeartbeats 4000000 in
set_option maxRecDepth 100000 in
theorem l_X7_undo {a : Nat} {g : zF} (ha : Z 165 9 = nI a) (h24 : a < 24) : ∀ k i, 36 - i < k → i ≤ 36 → zG E zm_X7_undo 0 (some (.int (nI a))) (Q, va_up Z 169 (zl36 (fun k => Z 172 (36 * a + k)) g 36)) 27 [some (.ref (zad E 165)), some (.int (nI i))] [] (Q, va_up Z 169 (zl36 (fun k => Z 172 (36 * a + k)) g i)) := by
  intro k
  induction k with
  | zero => intro i h; omega
  | succ k ih =>
    intro i h1 h2
    refine zi_iload1 (n := 28) dX7_undo_27 rfl ?_
    refine zi_bipush (n := 30) (nI 36) dX7_undo_28 rfl (by decide) ?_
    refine zi_icge (n := 33) (tgt := 59) dX7_undo_30 rfl (by decide) (fun h30 => ?_) (fun h30 => ?_)
    · have e : i = 36 := by have := (nI_leI (by omega) (by omega)).mp h30; omega
      subst e
      refine zi_aload0 (n := 60) dX7_undo_59 rfl ?_
      refine zg_X7_9 (n := 63) dX7_undo_60 rfl zl_X7_143 ((zfn _ _ _ _ (by decide) _).trans ha) ?_
      exact zi_iret dX7_undo_63 rfl (by rfl) (by rfl)
    · have e : i < 36 := by have := mt (nI_leI (by omega) (by omega)).mpr h30; omega
      refine zi_aload0 (n := 34) dX7_undo_33 rfl ?_
      refine zg_X7_5 (n := 37) dX7_undo_34 rfl zl_X7_19 ?_
      refine zi_iload1 (n := 38) dX7_undo_37 rfl ?_
      refine zi_aload0 (n := 39) dX7_undo_38 rfl ?_
      refine zg_X7_8 (n := 42) dX7_undo_39 rfl zl_X7_28 ?_
      refine zi_bipush (n := 44) (nI 36) dX7_undo_42 rfl (by decide) ?_
      refine zi_aload0 (n := 45) dX7_undo_44 rfl ?_
      refine zg_X7_9 (n := 48) dX7_undo_45 rfl zl_X7_143 ((zfn _ _ _ _ (by decide) _).trans ha) ?_
      refine zi_imul (n := 49) dX7_undo_48 rfl ?_
      refine zi_iload1 (n := 50) dX7_undo_49 rfl ?_
      refine zi_iadd (n := 51) dX7_undo_50 rfl ?_
      refine zi_oald (N := 864) (i := 36 * a + i) (n := 52) dX7_undo_51 rfl (by decide) (fun _ => rfl) (by decide) (by rw [pk_mul, nI_add]) (by omega) (zfn _ _ _ _ (by decide) _) ?_
      refine zi_oast (N := 36) (i := i) (n := 53) dX7_undo_52 rfl (by decide) (fun _ => rfl) (by decide) rfl e (zfqe (zl36_step _ _ i)) ?_
      refine zi_iinc1 (n := 56) (nI (i + 1)) dX7_undo_53 rfl (by decide) rfl (zi1 _) ?_
      refine zi_goto (tgt := 27) dX7_undo_56 (by decide) ?_
      exact ih (i + 1) (by omega) (by omega)
set_option maxHeartbeats 4000000 in
set_option maxRecDepth 100000 in
theorem m_undo_ok (h0 : Z 165 0 = nI 0) {a : Nat} (ha : Z 165 9 = nI (a + 1)) (h24 : a < 24) : zCT E 0 zm_X7_undo [.ref (zad E 165)] (Q, Z) (some (.int (nI a))) (Q, va_up (zsu Z 165 9 (nI a)) 169 (zl36 (fun k => Z 172 (36 * a + k)) (Z 169) 36)) := by
  refine zCT.of (by decide +kernel) (Nat.le_of_ble_eq_true rfl) ?_
  have a2 : ¬ nI (a + 1) = 0 := nI_ne0 (by omega) (by omega)
  refine zi_aload0 (n := 1) dX7_undo_0 rfl ?_
  refine zi_iconst (n := 2) (nI 0) dX7_undo_1 rfl (by decide) ?_
  refine zp_X7_0 (n := 5) dX7_undo_2 rfl zl_X7_44 (zt0 h0) ?_
  refine zi_aload0 (n := 6) dX7_undo_5 rfl ?_
  refine zg_X7_9 (n := 9) dX7_undo_6 rfl zl_X7_143 ha ?_
  refine zi_ifne (n := 12) (tgt := 15) dX7_undo_9 rfl (by decide) (fun h9 => ?_) (fun h9 => ?_)
  · refine zi_aload0 (n := 16) dX7_undo_15 rfl ?_
    refine zi_dup (n := 17) dX7_undo_16 rfl rfl ?_
    refine zg_X7_9 (n := 20) dX7_undo_17 rfl zl_X7_143 ha ?_
    refine zi_iconst (n := 21) (nI 1) dX7_undo_20 rfl (by decide) ?_
    refine zi_isub (n := 22) dX7_undo_21 rfl ?_
    rw [pk_sub (by omega), Nat.add_sub_cancel]
    refine zp_X7_9 (n := 25) dX7_undo_22 rfl zl_X7_143 rfl ?_
    refine zi_iconst (n := 26) (nI 0) dX7_undo_25 rfl (by decide) ?_
    refine zi_istore1 (n := 27) dX7_undo_26 rfl (by decide) rfl ?_
    have g := l_X7_undo (E := E) (Q := Q) (Z := zsu Z 165 9 (nI a)) (a := a) (g := Z 169) ((zsu_at _ _ _ _ _ _).trans (if_pos ⟨rfl, rfl⟩)) h24 37 0 (by omega) (by omega)
    rw [zl36_0] at g
    exact zG_eqM (congrArg (Prod.mk Q) (zup_at (f := zsu Z 165 9 (nI a)) (a := 169) (v := Z 169) rfl).symm) g
  · first | exact absurd a2 h9 | exact absurd h9 a2
end ZM3
