section ZN7
variable {E : zE} {Q : Nat → Nat → Nat → Int32} {Z : zS} {n : Nat}
/-- a reading's end: the tape is empty -/
def zT0 (w : zP) : Nat → Int32 := zTr 0 w.2.1 w.2.2.1 w.2.2.2.1 w.2.2.2.2
set_option maxHeartbeats 4000000 in
set_option maxRecDepth 100000 in
theorem x_square_bad {L a : Nat} {nu f fa : Int32} (hT : Z 158 = zTr L a nu f fa) (h90 : L ≤ 90) (hr : ¬ (zrd (Z 159) L (zsu (Q 0) 0 0 (nI 0), 0, nu, f, fa)).1 = true) : zCT E 4 zm_X6_square [.ref (zad E 145)] (Q, Z) (some (.int (-1000100 - (zrd (Z 159) L (zsu (Q 0) 0 0 (nI 0), 0, nu, f, fa)).2.2.2.2.2))) (va_up Q 0 (zrd (Z 159) L (zsu (Q 0) 0 0 (nI 0), 0, nu, f, fa)).2.1, zsu (va_up Z 158 (zT0 (zrd (Z 159) L (zsu (Q 0) 0 0 (nI 0), 0, nu, f, fa)).2)) 145 8 (zrd (Z 159) L (zsu (Q 0) 0 0 (nI 0), 0, nu, f, fa)).2.2.2.2.1) := by
  refine zCT.of (by decide +kernel) (Nat.le_of_ble_eq_true rfl) ?_
  refine zG_eqM (zPm_of hT) ?_
  obtain ⟨w, hw⟩ : ∃ w, (zrd (Z 159) L (zsu (Q 0) 0 0 (nI 0), 0, nu, f, fa)) = w := ⟨_, rfl⟩
  have hrd := c_X5_read (E := E) (Q := Q) (Z := Z) (u := (Q 0, a, nu, f, fa)) h90
  dsimp only at hrd
  rw [hw] at hr hrd ⊢
  refine zi_aload0 (n := 1) dX6_square_0 rfl ?_
  refine zg_X6_1 (n := 4) dX6_square_1 rfl zl_X6_19 ?_
  refine zi_V0s (mj := zm_X5_read) (n := 7) dX6_square_4 rfl zl_X6_108 zy_X5_read (zrc_X5 _ _) (by decide) (Nat.le_of_ble_eq_true rfl) hrd ?_
  refine zi_istore1 (n := 8) dX6_square_7 rfl (by decide) rfl ?_
  refine zi_aload0 (n := 9) dX6_square_8 rfl ?_
  refine zg_X6_1 (n := 12) dX6_square_9 rfl zl_X6_19 ?_
  refine zi_V0v (mj := zm_X5_clear) (n := 15) dX6_square_12 rfl zl_X6_111 zy_X5_clear (zrc_X5 _ _) (by decide) (Nat.le_of_ble_eq_true rfl) (c_X5_clear) ?_
  refine zi_iload1 (n := 16) dX6_square_15 rfl ?_
  refine zi_ifne_b (n := 19) (tgt := 41) dX6_square_16 rfl (by decide) (fun h16 => ?_) (fun h16 => ?_)
  · exact absurd h16 hr
  · refine zi_aload0 (n := 20) dX6_square_19 rfl ?_
    refine zi_aload0 (n := 21) dX6_square_20 rfl ?_
    refine zg_X6_1 (n := 24) dX6_square_21 rfl zl_X6_19 ?_
    refine zgN_X5_5 (n := 27) dX6_square_24 rfl zl_X6_114 (zPm_g5 _ _ _ _) ?_
    refine zp_X6_8 (n := 30) dX6_square_27 rfl zl_X6_117 rfl ?_
    refine zi_ldc (n := 32) dX6_square_30 rfl zl_X6_120 ?_
    refine zi_aload0 (n := 33) dX6_square_32 rfl ?_
    refine zg_X6_1 (n := 36) dX6_square_33 rfl zl_X6_19 ?_
    refine zgN_X5_6 (n := 39) dX6_square_36 rfl zl_X6_121 (Eq.trans (congrFun (zsu_ne (a := 145) (i := 8) (b := 158) (zPm Q Z 0 w.2).2 w.2.2.2.2.1 (by decide)) 6) (zPm_g6 _ _ _ _)) ?_
    refine zi_isub (n := 40) dX6_square_39 rfl ?_
    exact zi_iret dX6_square_40 rfl (by rfl) (by rfl)
set_option maxHeartbeats 4000000 in
set_option maxRecDepth 100000 in
theorem x_square_ok {L a : Nat} {nu f fa : Int32} (hT : Z 158 = zTr L a nu f fa) (h90 : L ≤ 90) (hr : (zrd (Z 159) L (zsu (Q 0) 0 0 (nI 0), 0, nu, f, fa)).1 = true) : zCT E 4 zm_X6_square [.ref (zad E 145)] (Q, Z) (some (.int ((zrd (Z 159) L (zsu (Q 0) 0 0 (nI 0), 0, nu, f, fa)).2.1 0 0))) (va_up (va_up Q 0 (zrd (Z 159) L (zsu (Q 0) 0 0 (nI 0), 0, nu, f, fa)).2.1) 1 (takeC (Q 1) (zrd (Z 159) L (zsu (Q 0) 0 0 (nI 0), 0, nu, f, fa)).2.1), va_up (va_up Z 158 (zT0 (zrd (Z 159) L (zsu (Q 0) 0 0 (nI 0), 0, nu, f, fa)).2)) 160 (upd (upd (Z 160) 1 (nI 0)) 2 (nI 0))) := by
  refine zCT.of (by decide +kernel) (Nat.le_of_ble_eq_true rfl) ?_
  refine zG_eqM (zPm_of hT) ?_
  obtain ⟨w, hw⟩ : ∃ w, (zrd (Z 159) L (zsu (Q 0) 0 0 (nI 0), 0, nu, f, fa)) = w := ⟨_, rfl⟩
  have hrd := c_X5_read (E := E) (Q := Q) (Z := Z) (u := (Q 0, a, nu, f, fa)) h90
  dsimp only at hrd
  rw [hw] at hr hrd ⊢
  refine zi_aload0 (n := 1) dX6_square_0 rfl ?_
  refine zg_X6_1 (n := 4) dX6_square_1 rfl zl_X6_19 ?_
  refine zi_V0s (mj := zm_X5_read) (n := 7) dX6_square_4 rfl zl_X6_108 zy_X5_read (zrc_X5 _ _) (by decide) (Nat.le_of_ble_eq_true rfl) hrd ?_
  refine zi_istore1 (n := 8) dX6_square_7 rfl (by decide) rfl ?_
  refine zi_aload0 (n := 9) dX6_square_8 rfl ?_
  refine zg_X6_1 (n := 12) dX6_square_9 rfl zl_X6_19 ?_
  refine zi_V0v (mj := zm_X5_clear) (n := 15) dX6_square_12 rfl zl_X6_111 zy_X5_clear (zrc_X5 _ _) (by decide) (Nat.le_of_ble_eq_true rfl) (c_X5_clear) ?_
  refine zi_iload1 (n := 16) dX6_square_15 rfl ?_
  refine zi_ifne_b (n := 19) (tgt := 41) dX6_square_16 rfl (by decide) (fun h16 => ?_) (fun h16 => ?_)
  · change zG _ _ _ _ _ 41 _ _ (va_up Q 0 w.2.1, va_up Z 158 (zT0 w.2))
    refine zG_eqM (M2 := (va_up (va_up Q 0 w.2.1) 1 (Q 1), va_up Z 158 (zT0 w.2))) (by rw [zup_at (va_up_ne _ _ (by decide))]) ?_
    refine zi_aload0 (n := 42) dX6_square_41 rfl ?_
    refine zg_X6_2 (n := 45) dX6_square_42 rfl zl_X6_26 ?_
    refine zi_aload0 (n := 46) dX6_square_45 rfl ?_
    refine zg_X6_1 (n := 49) dX6_square_46 rfl zl_X6_19 ?_
    refine zgN_X5_2 (n := 52) dX6_square_49 rfl zl_X6_124 ?_
    refine zi_V1v (mj := zm_X4_take) (n := 55) dX6_square_52 rfl zl_X6_127 zy_X4_take (zrc_sq _ _ (by omega)) (by decide) (Nat.le_of_ble_eq_true rfl) (c_X4_take (Q := va_up Q 0 w.2.1) (S := Q 1) (j := 1) (by decide) (i := 0) (by decide) (by decide)) ?_
    rw [va_up_self]
    refine zG_eqM (M2 := (va_up (va_up Q 0 w.2.1) 1 (takeC (Q 1) w.2.1), va_up (va_up Z 158 (zT0 w.2)) 160 (Z 160))) (by rw [zup_at (va_up_ne _ _ (by decide))]) ?_
    refine zi_aload0 (n := 56) dX6_square_55 rfl ?_
    refine zg_X6_3 (n := 59) dX6_square_56 rfl zl_X6_33 ?_
    refine zi_V0v (mj := zm_X0_clear) (n := 62) dX6_square_59 rfl zl_X6_130 zy_X0_clear (zrc_X0 _ _) (by decide) (Nat.le_of_ble_eq_true rfl) (c_X0_clear) ?_
    refine zi_aload0 (n := 63) dX6_square_62 rfl ?_
    refine zg_X6_2 (n := 66) dX6_square_63 rfl zl_X6_26 ?_
    refine zgN_X4_0 (n := 69) dX6_square_66 rfl zl_X6_131 (by decide) ((zfs _ _ _ _ _ _).trans (takeC_0 (by decide))) ?_
    exact zi_iret dX6_square_69 rfl (by rfl) (by rfl)
  · exact absurd hr h16
set_option maxHeartbeats 4000000 in
set_option maxRecDepth 100000 in
theorem x_undo_none (hk : Z 160 2 = 0) : zCT E 4 zm_X6_undo [.ref (zad E 145)] (Q, Z) (some (.int zSTATE)) (Q, Z) := by
  refine zCT.of (by decide +kernel) (Nat.le_of_ble_eq_true rfl) ?_
  refine zi_aload0 (n := 1) dX6_undo_0 rfl ?_
  refine zg_X6_3 (n := 4) dX6_undo_1 rfl zl_X6_33 ?_
  refine zgN_X0_2 (n := 7) dX6_undo_4 rfl zl_X6_134 rfl ?_
  refine zi_ifne (n := 10) (tgt := 13) dX6_undo_7 rfl (by decide) (fun h7 => ?_) (fun h7 => ?_)
  · first | exact absurd hk h7 | exact absurd h7 hk
  · refine zi_ldc (n := 12) dX6_undo_10 rfl zl_X6_137 ?_
    exact zi_iret dX6_undo_12 rfl (by rfl) (by rfl)
set_option maxHeartbeats 4000000 in
set_option maxRecDepth 100000 in
theorem x_undo_ok {t : Nat} {x : Int32} (hk : ¬ Z 160 2 = 0) (hx : Z 160 1 = x) (ht : (if x ≤ 0 then nI 23 else x - nI 1) = nI t) (h24 : t < 24) : zCT E 4 zm_X6_undo [.ref (zad E 145)] (Q, Z) (some (.int (Z 160 2 - nI 1))) (va_up Q 1 (takeC (Q 1) (Q (5 + t))), va_up Z 160 (zbackT (Z 160) t)) := by
  refine zCT.of (by decide +kernel) (Nat.le_of_ble_eq_true rfl) ?_
  refine zi_aload0 (n := 1) dX6_undo_0 rfl ?_
  refine zg_X6_3 (n := 4) dX6_undo_1 rfl zl_X6_33 ?_
  refine zgN_X0_2 (n := 7) dX6_undo_4 rfl zl_X6_134 rfl ?_
  refine zi_ifne (n := 10) (tgt := 13) dX6_undo_7 rfl (by decide) (fun h7 => ?_) (fun h7 => ?_)
  · refine zi_aload0 (n := 14) dX6_undo_13 rfl ?_
    refine zg_X6_3 (n := 17) dX6_undo_14 rfl zl_X6_33 ?_
    refine zi_aload0 (n := 18) dX6_undo_17 rfl ?_
    refine zg_X6_2 (n := 21) dX6_undo_18 rfl zl_X6_26 ?_
    refine zi_V1v (mj := zm_X0_takeBack) (n := 24) dX6_undo_21 rfl zl_X6_138 zy_X0_takeBack (zrc_X0 _ _) (by decide) (Nat.le_of_ble_eq_true rfl) (zrz (a := 160) (c_X0_takeBack hx ht h24 (by decide))) ?_
    refine zi_aload0 (n := 25) dX6_undo_24 rfl ?_
    refine zg_X6_3 (n := 28) dX6_undo_25 rfl zl_X6_33 ?_
    refine zgN_X0_2 (n := 31) dX6_undo_28 rfl zl_X6_134 ((zfz _ _ _ _ _).trans (by simp [zbackT, upd] : _ = Z 160 2 - nI 1)) ?_
    exact zi_iret dX6_undo_31 rfl (by rfl) (by rfl)
  · first | exact absurd hk h7 | exact absurd h7 hk
def zk1 (Q : Nat → Nat → Nat → Int32) (t : Nat) : Nat → Nat → Nat → Int32 := va_up Q (5 + t) (takeC (Q (5 + t)) (Q 1))
theorem zk1_1 (Q : Nat → Nat → Nat → Int32) (t : Nat) {i : Nat} (h : i < 5) : zk1 Q t i = Q i := va_up_ne _ _ (by omega)
def znx (t : Nat) : Nat := if t + 1 < 24 then t + 1 else 0
theorem znx_lt (t : Nat) : znx t < 24 := by unfold znx; split <;> omega
theorem zkeepT_1 {T : Nat → Int32} {t : Nat} : zkeepT T t 1 = nI (znx t) := by
  unfold zkeepT znx upd
  simp
  split <;> rfl
def znL (n : Nat) : Nat → (Nat → Nat → Nat → Int32) → (Nat → Int32) → Nat → (Nat → Nat → Nat → Int32) × (Nat → Int32)
  | 0, Q, T, _ => (Q, T)
  | f + 1, Q, T, t => znL n f (va_up (zk1 Q t) 1 (noonC (Q 1) n)) (zkeepT T t) (znx t)
set_option maxHeartbeats 4000000 in
set_option maxRecDepth 100000 in
theorem x_noons_state {x : Int32} (h0 : Q 1 0 0 = 0) : zCT E 4 zm_X6_noons [.ref (zad E 145), .int x] (Q, Z) (some (.int zSTATE)) (Q, Z) := by
  refine zCT.of (by decide +kernel) (Nat.le_of_ble_eq_true rfl) ?_
  refine zi_aload0 (n := 1) dX6_noons_0 rfl ?_
  refine zg_X6_2 (n := 4) dX6_noons_1 rfl zl_X6_26 ?_
  refine zgN_X4_0 (n := 7) dX6_noons_4 rfl zl_X6_131 (by omega) rfl ?_
  refine zi_ifne (n := 10) (tgt := 13) dX6_noons_7 rfl (by decide) (fun h7 => ?_) (fun h7 => ?_)
  · first | exact absurd h0 h7 | exact absurd h7 h0
  · refine zi_ldc (n := 12) dX6_noons_10 rfl zl_X6_137 ?_
    exact zi_iret dX6_noons_12 rfl (by rfl) (by rfl)
set_option maxHeartbeats 4000000 in
set_option maxRecDepth 100000 in
theorem x_noons_bad {x : Int32} (h0 : ¬ Q 1 0 0 = 0) (hb : ¬ (nI 1 ≤ x ∧ x ≤ nI 24)) : zCT E 4 zm_X6_noons [.ref (zad E 145), .int x] (Q, Z) (some (.int zBAD)) (Q, Z) := by
  refine zCT.of (by decide +kernel) (Nat.le_of_ble_eq_true rfl) ?_
  refine zi_aload0 (n := 1) dX6_noons_0 rfl ?_
  refine zg_X6_2 (n := 4) dX6_noons_1 rfl zl_X6_26 ?_
  refine zgN_X4_0 (n := 7) dX6_noons_4 rfl zl_X6_131 (by omega) rfl ?_
  refine zi_ifne (n := 10) (tgt := 13) dX6_noons_7 rfl (by decide) (fun h7 => ?_) (fun h7 => ?_)
  · refine zi_iload1 (n := 14) dX6_noons_13 rfl ?_
    refine zi_iconst (n := 15) (nI 1) dX6_noons_14 rfl (by decide) ?_
    refine zi_bipush (n := 17) (nI 24) dX6_noons_15 rfl (by decide) ?_
    refine zi_S3s (mj := zm_X6_within) (n := 20) dX6_noons_17 rfl zl_X6_63 zy_X6_within (by decide) (Nat.le_of_ble_eq_true rfl) (c_X6_within) ?_
    refine zi_ifne_b (n := 23) (tgt := 26) dX6_noons_20 rfl (by decide) (fun h20 => ?_) (fun h20 => ?_)
    · first | exact absurd hb h20 | exact absurd h20 hb
    · refine zi_ldc (n := 25) dX6_noons_23 rfl zl_X6_67 ?_
      exact zi_iret dX6_noons_25 rfl (by rfl) (by rfl)
  · first | exact absurd h0 h7 | exact absurd h7 h0
set_option maxHeartbeats 4000000 in
set_option maxRecDepth 100000 in
theorem x_noons_full {x : Int32} (h0 : ¬ Q 1 0 0 = 0) (hx : nI 1 ≤ x ∧ x ≤ nI 24) (hf : ¬ Q 1 0 4 + x ≤ nI 999) : zCT E 4 zm_X6_noons [.ref (zad E 145), .int x] (Q, Z) (some (.int zFULL)) (Q, Z) := by
  refine zCT.of (by decide +kernel) (Nat.le_of_ble_eq_true rfl) ?_
  refine zi_aload0 (n := 1) dX6_noons_0 rfl ?_
  refine zg_X6_2 (n := 4) dX6_noons_1 rfl zl_X6_26 ?_
  refine zgN_X4_0 (n := 7) dX6_noons_4 rfl zl_X6_131 (by omega) rfl ?_
  refine zi_ifne (n := 10) (tgt := 13) dX6_noons_7 rfl (by decide) (fun h7 => ?_) (fun h7 => ?_)
  · refine zi_iload1 (n := 14) dX6_noons_13 rfl ?_
    refine zi_iconst (n := 15) (nI 1) dX6_noons_14 rfl (by decide) ?_
    refine zi_bipush (n := 17) (nI 24) dX6_noons_15 rfl (by decide) ?_
    refine zi_S3s (mj := zm_X6_within) (n := 20) dX6_noons_17 rfl zl_X6_63 zy_X6_within (by decide) (Nat.le_of_ble_eq_true rfl) (c_X6_within) ?_
    refine zi_ifne_b (n := 23) (tgt := 26) dX6_noons_20 rfl (by decide) (fun h20 => ?_) (fun h20 => ?_)
    · refine zi_aload0 (n := 27) dX6_noons_26 rfl ?_
      refine zg_X6_2 (n := 30) dX6_noons_27 rfl zl_X6_26 ?_
      refine zgN_X4_4 (n := 33) dX6_noons_30 rfl zl_X6_141 (by omega) rfl ?_
      refine zi_iload1 (n := 34) dX6_noons_33 rfl ?_
      refine zi_iadd (n := 35) dX6_noons_34 rfl ?_
      refine zi_sipush (n := 38) (nI 999) dX6_noons_35 rfl (by decide) ?_
      refine zi_icle (n := 41) (tgt := 44) dX6_noons_38 rfl (by decide) (fun h38 => ?_) (fun h38 => ?_)
      · first | exact absurd hf h38 | exact absurd h38 hf
      · refine zi_ldc (n := 43) dX6_noons_41 rfl zl_X6_104 ?_
        exact zi_iret dX6_noons_43 rfl (by rfl) (by rfl)
    · first | exact absurd hx h20 | exact absurd h20 hx
  · first | exact absurd h0 h7 | exact absurd h7 h0
set_option maxHeartbeats 4000000 in
set_option maxRecDepth 100000 in
theorem l_X6_noons (h6 : n ≤ 6) {m : Nat} (hm : m < 2 ^ 30) {e0 : Int32} {R : (Nat → Nat → Nat → Int32) × (Nat → Int32)} : ∀ f i (Q : Nat → Nat → Nat → Int32) (T : Nat → Int32) (t : Nat), i + f = m → Q 1 0 0 = nI n → T 1 = nI t → t < 24 → znL n f Q T t = R → zG E zm_X6_noons 4 (some (.int (R.1 1 0 5 - e0))) (R.1, va_up Z 160 R.2) 54 [some (.ref (zad E 145)), some (.int (nI m)), some (.int e0), some (.int (nI i))] [] (Q, va_up Z 160 T) := by
  intro f
  induction f with
  | zero =>
    intro i Q T t hi hn ht h24 hr
    refine zi_iload3 (n := 55) dX6_noons_54 rfl ?_
    refine zi_iload1 (n := 56) dX6_noons_55 rfl ?_
    refine zi_icge (n := 59) (tgt := 83) dX6_noons_56 rfl (by decide) (fun h56 => ?_) (fun h56 => ?_)
    · refine zi_aload0 (n := 84) dX6_noons_83 rfl ?_
      refine zg_X6_2 (n := 87) dX6_noons_84 rfl zl_X6_26 ?_
      refine zgN_X4_5 (n := 90) dX6_noons_87 rfl zl_X6_144 (by omega) rfl ?_
      refine zi_iload2 (n := 91) dX6_noons_90 rfl ?_
      refine zi_isub (n := 92) dX6_noons_91 rfl ?_
      exact zi_iret dX6_noons_92 rfl (by rw [← hr]; rfl) (by rw [← hr]; rfl)
    · exact absurd (nI_le (by omega) (by omega)) h56
  | succ f ih =>
    intro i Q T t hi hn ht h24 hr
    refine zi_iload3 (n := 55) dX6_noons_54 rfl ?_
    refine zi_iload1 (n := 56) dX6_noons_55 rfl ?_
    refine zi_icge (n := 59) (tgt := 83) dX6_noons_56 rfl (by decide) (fun h56 => ?_) (fun h56 => ?_)
    · exact absurd ((nI_leI (by omega) (by omega)).mp h56) (by omega)
    · refine zi_aload0 (n := 60) dX6_noons_59 rfl ?_
      refine zg_X6_3 (n := 63) dX6_noons_60 rfl zl_X6_33 ?_
      refine zi_aload0 (n := 64) dX6_noons_63 rfl ?_
      refine zg_X6_2 (n := 67) dX6_noons_64 rfl zl_X6_26 ?_
      refine zi_V1v (mj := zm_X0_keep) (n := 70) dX6_noons_67 rfl zl_X6_147 zy_X0_keep (zrc_X0 _ _) (by decide) (Nat.le_of_ble_eq_true rfl) (c_X0_keep ht h24 (by decide)) ?_
      change zG _ _ _ _ _ _ _ _ (zk1 Q t, va_up Z 160 (zkeepT T t))
      refine zi_aload0 (n := 71) dX6_noons_70 rfl ?_
      refine zg_X6_2 (n := 74) dX6_noons_71 rfl zl_X6_26 ?_
      refine zi_V0v (mj := zm_X4_passNoon) (n := 77) dX6_noons_74 rfl zl_X6_150 zy_X4_passNoon (zrc_sq _ _ (by omega)) (by decide) (Nat.le_of_ble_eq_true rfl) (zra (j := 1) (c_X4_passNoon (Q := zk1 Q t) (S := zk1 Q t 1) (j := 1) (by decide) (by rw [zk1_1 Q t (by decide)]; exact hn) h6)) ?_
      rw [zk1_1 Q t (by decide)]
      refine zi_iinc3 (n := 80) (nI (i + 1)) dX6_noons_77 rfl (by decide) rfl (zi1 _) ?_
      refine zi_goto (tgt := 54) dX6_noons_80 (by decide) ?_
      exact ih (i + 1) _ _ _ (by omega) (by rw [va_up_self, noonC_0]; exact hn) zkeepT_1 (znx_lt t) hr
set_option maxHeartbeats 4000000 in
set_option maxRecDepth 100000 in
theorem x_noons_ok (hn : Q 1 0 0 = nI n) (h6 : n ≤ 6) {t : Nat} (ht : Z 160 1 = nI t) (h24 : t < 24) {m : Nat} (h0 : ¬ Q 1 0 0 = 0) (h1 : 1 ≤ m) (hm : m ≤ 24) (hf : Q 1 0 4 + nI m ≤ nI 999) : zCT E 4 zm_X6_noons [.ref (zad E 145), .int (nI m)] (Q, Z) (some (.int ((znL n m Q (Z 160) t).1 1 0 5 - Q 1 0 5))) ((znL n m Q (Z 160) t).1, va_up Z 160 (znL n m Q (Z 160) t).2) := by
  refine zCT.of (by decide +kernel) (Nat.le_of_ble_eq_true rfl) ?_
  have a1 := zrg h1 hm (b := 24) (by decide)
  refine zi_aload0 (n := 1) dX6_noons_0 rfl ?_
  refine zg_X6_2 (n := 4) dX6_noons_1 rfl zl_X6_26 ?_
  refine zgN_X4_0 (n := 7) dX6_noons_4 rfl zl_X6_131 (by omega) rfl ?_
  refine zi_ifne (n := 10) (tgt := 13) dX6_noons_7 rfl (by decide) (fun h7 => ?_) (fun h7 => ?_)
  · refine zi_iload1 (n := 14) dX6_noons_13 rfl ?_
    refine zi_iconst (n := 15) (nI 1) dX6_noons_14 rfl (by decide) ?_
    refine zi_bipush (n := 17) (nI 24) dX6_noons_15 rfl (by decide) ?_
    refine zi_S3s (mj := zm_X6_within) (n := 20) dX6_noons_17 rfl zl_X6_63 zy_X6_within (by decide) (Nat.le_of_ble_eq_true rfl) (c_X6_within) ?_
    refine zi_ifne_b (n := 23) (tgt := 26) dX6_noons_20 rfl (by decide) (fun h20 => ?_) (fun h20 => ?_)
    · refine zi_aload0 (n := 27) dX6_noons_26 rfl ?_
      refine zg_X6_2 (n := 30) dX6_noons_27 rfl zl_X6_26 ?_
      refine zgN_X4_4 (n := 33) dX6_noons_30 rfl zl_X6_141 (by omega) rfl ?_
      refine zi_iload1 (n := 34) dX6_noons_33 rfl ?_
      refine zi_iadd (n := 35) dX6_noons_34 rfl ?_
      refine zi_sipush (n := 38) (nI 999) dX6_noons_35 rfl (by decide) ?_
      refine zi_icle (n := 41) (tgt := 44) dX6_noons_38 rfl (by decide) (fun h38 => ?_) (fun h38 => ?_)
      · refine zi_aload0 (n := 45) dX6_noons_44 rfl ?_
        refine zg_X6_2 (n := 48) dX6_noons_45 rfl zl_X6_26 ?_
        refine zgN_X4_5 (n := 51) dX6_noons_48 rfl zl_X6_144 (by omega) rfl ?_
        refine zi_istore2 (n := 52) dX6_noons_51 rfl (by decide) rfl ?_
        refine zi_iconst (n := 53) (nI 0) dX6_noons_52 rfl (by decide) ?_
        refine zi_istore3 (n := 54) dX6_noons_53 rfl (by decide) rfl ?_
        refine zG_eqM (M2 := (Q, va_up Z 160 (Z 160))) (by rw [zup_same]) ?_
        exact l_X6_noons h6 (by omega) m 0 Q (Z 160) t (by omega) hn ht h24 rfl
      · first | exact absurd hf h38 | exact absurd h38 hf
    · first | exact absurd a1 h20 | exact absurd h20 a1
  · first | exact absurd h0 h7 | exact absurd h7 h0
set_option maxHeartbeats 4000000 in
set_option maxRecDepth 100000 in
theorem x_move_bad {x y : Int32} (hb : ¬ ((¬ x < 0 ∧ ¬ Q 1 0 0 ≤ x) ∧ (nI 0 ≤ y ∧ y ≤ nI 9))) : zCT E 4 zm_X6_move [.ref (zad E 145), .int x, .int y] (Q, Z) (some (.int zBAD)) (Q, Z) := by
  refine zCT.of (by decide +kernel) (Nat.le_of_ble_eq_true rfl) ?_
  refine zi_aload0 (n := 1) dX6_move_0 rfl ?_
  refine zg_X6_2 (n := 4) dX6_move_1 rfl zl_X6_26 ?_
  refine zi_iload1 (n := 5) dX6_move_4 rfl ?_
  refine zi_V1s (mj := zm_X4_has) (n := 8) dX6_move_5 rfl zl_X6_153 zy_X4_has (zrc_sq _ _ (by omega)) (by decide) (Nat.le_of_ble_eq_true rfl) (zrr (j := 1) (c_X4_has (S := Q 1) (j := 1) (by decide))) ?_
  refine zi_ifeq_b (n := 11) (tgt := 18) dX6_move_8 rfl (by decide) (fun h8 => ?_) (fun h8 => ?_)
  · refine zi_ldc (n := 20) dX6_move_18 rfl zl_X6_67 ?_
    exact zi_iret dX6_move_20 rfl (by rfl) (by rfl)
  · refine zi_iload2 (n := 12) dX6_move_11 rfl ?_
    refine zi_S1s (mj := zm_X6_isPlace) (n := 15) dX6_move_12 rfl zl_X6_156 zy_X6_isPlace (by decide) (Nat.le_of_ble_eq_true rfl) (c_X6_isPlace) ?_
    refine zi_ifne_b (n := 18) (tgt := 21) dX6_move_15 rfl (by decide) (fun h15 => ?_) (fun h15 => ?_)
    · exact absurd ⟨h8, h15⟩ hb
    · refine zi_ldc (n := 20) dX6_move_18 rfl zl_X6_67 ?_
      exact zi_iret dX6_move_20 rfl (by rfl) (by rfl)
set_option maxHeartbeats 4000000 in
set_option maxRecDepth 100000 in
theorem x_move_there (hn : Q 1 0 0 = nI n) (h6 : n ≤ 6) {p : Nat} (hp : p < n) {y : Int32} (hy : (nI 0 ≤ y ∧ y ≤ nI 9)) (he : Q 1 2 p = y) : zCT E 4 zm_X6_move [.ref (zad E 145), .int (nI p), .int y] (Q, Z) (some (.int zSTATE)) (Q, Z) := by
  refine zCT.of (by decide +kernel) (Nat.le_of_ble_eq_true rfl) ?_
  have a1 := zhas hn h6 hp
  refine zi_aload0 (n := 1) dX6_move_0 rfl ?_
  refine zg_X6_2 (n := 4) dX6_move_1 rfl zl_X6_26 ?_
  refine zi_iload1 (n := 5) dX6_move_4 rfl ?_
  refine zi_V1s (mj := zm_X4_has) (n := 8) dX6_move_5 rfl zl_X6_153 zy_X4_has (zrc_sq _ _ (by omega)) (by decide) (Nat.le_of_ble_eq_true rfl) (zrr (j := 1) (c_X4_has (S := Q 1) (j := 1) (by decide))) ?_
  refine zi_ifeq_b (n := 11) (tgt := 18) dX6_move_8 rfl (by decide) (fun h8 => ?_) (fun h8 => ?_)
  · first | exact absurd a1 h8 | exact absurd h8 a1
  · refine zi_iload2 (n := 12) dX6_move_11 rfl ?_
    refine zi_S1s (mj := zm_X6_isPlace) (n := 15) dX6_move_12 rfl zl_X6_156 zy_X6_isPlace (by decide) (Nat.le_of_ble_eq_true rfl) (c_X6_isPlace) ?_
    refine zi_ifne_b (n := 18) (tgt := 21) dX6_move_15 rfl (by decide) (fun h15 => ?_) (fun h15 => ?_)
    · refine zi_aload0 (n := 22) dX6_move_21 rfl ?_
      refine zg_X6_2 (n := 25) dX6_move_22 rfl zl_X6_26 ?_
      refine zgN_X4_10 (n := 28) dX6_move_25 rfl zl_X6_159 (by omega) ?_
      refine zi_iload1 (n := 29) dX6_move_28 rfl ?_
      refine zi_qald (n := 30) dX6_move_29 rfl (by omega) (by decide) rfl (by omega) rfl ?_
      refine zi_istore3 (n := 31) dX6_move_30 rfl (by decide) rfl ?_
      refine zi_iload3 (n := 32) dX6_move_31 rfl ?_
      refine zi_iload2 (n := 33) dX6_move_32 rfl ?_
      refine zi_icne (n := 36) (tgt := 39) dX6_move_33 rfl (by decide) (fun h33 => ?_) (fun h33 => ?_)
      · first | exact absurd he h33 | exact absurd h33 he
      · refine zi_ldc (n := 38) dX6_move_36 rfl zl_X6_137 ?_
        exact zi_iret dX6_move_38 rfl (by rfl) (by rfl)
    · first | exact absurd hy h15 | exact absurd h15 hy
set_option maxHeartbeats 4000000 in
set_option maxRecDepth 100000 in
theorem x_move_ok (hn : Q 1 0 0 = nI n) (h6 : n ≤ 6) {t : Nat} (ht : Z 160 1 = nI t) (h24 : t < 24) {p : Nat} (hp : p < n) {y : Int32} (hy : (nI 0 ≤ y ∧ y ≤ nI 9)) (he : ¬ Q 1 2 p = y) : zCT E 4 zm_X6_move [.ref (zad E 145), .int (nI p), .int y] (Q, Z) (some (.int (Q 1 2 p))) (va_up (zk1 Q t) 1 (zsu (Q 1) 2 p y), va_up Z 160 (zkeepT (Z 160) t)) := by
  refine zCT.of (by decide +kernel) (Nat.le_of_ble_eq_true rfl) ?_
  have a1 := zhas hn h6 hp
  refine zi_aload0 (n := 1) dX6_move_0 rfl ?_
  refine zg_X6_2 (n := 4) dX6_move_1 rfl zl_X6_26 ?_
  refine zi_iload1 (n := 5) dX6_move_4 rfl ?_
  refine zi_V1s (mj := zm_X4_has) (n := 8) dX6_move_5 rfl zl_X6_153 zy_X4_has (zrc_sq _ _ (by omega)) (by decide) (Nat.le_of_ble_eq_true rfl) (zrr (j := 1) (c_X4_has (S := Q 1) (j := 1) (by decide))) ?_
  refine zi_ifeq_b (n := 11) (tgt := 18) dX6_move_8 rfl (by decide) (fun h8 => ?_) (fun h8 => ?_)
  · first | exact absurd a1 h8 | exact absurd h8 a1
  · refine zi_iload2 (n := 12) dX6_move_11 rfl ?_
    refine zi_S1s (mj := zm_X6_isPlace) (n := 15) dX6_move_12 rfl zl_X6_156 zy_X6_isPlace (by decide) (Nat.le_of_ble_eq_true rfl) (c_X6_isPlace) ?_
    refine zi_ifne_b (n := 18) (tgt := 21) dX6_move_15 rfl (by decide) (fun h15 => ?_) (fun h15 => ?_)
    · refine zi_aload0 (n := 22) dX6_move_21 rfl ?_
      refine zg_X6_2 (n := 25) dX6_move_22 rfl zl_X6_26 ?_
      refine zgN_X4_10 (n := 28) dX6_move_25 rfl zl_X6_159 (by omega) ?_
      refine zi_iload1 (n := 29) dX6_move_28 rfl ?_
      refine zi_qald (n := 30) dX6_move_29 rfl (by omega) (by decide) rfl (by omega) rfl ?_
      refine zi_istore3 (n := 31) dX6_move_30 rfl (by decide) rfl ?_
      refine zi_iload3 (n := 32) dX6_move_31 rfl ?_
      refine zi_iload2 (n := 33) dX6_move_32 rfl ?_
      refine zi_icne (n := 36) (tgt := 39) dX6_move_33 rfl (by decide) (fun h33 => ?_) (fun h33 => ?_)
      · refine zi_aload0 (n := 40) dX6_move_39 rfl ?_
        refine zg_X6_3 (n := 43) dX6_move_40 rfl zl_X6_33 ?_
        refine zi_aload0 (n := 44) dX6_move_43 rfl ?_
        refine zg_X6_2 (n := 47) dX6_move_44 rfl zl_X6_26 ?_
        refine zi_V1v (mj := zm_X0_keep) (n := 50) dX6_move_47 rfl zl_X6_147 zy_X0_keep (zrc_X0 _ _) (by decide) (Nat.le_of_ble_eq_true rfl) (zrz (a := 160) (c_X0_keep ht h24 (by decide))) ?_
        change zG _ _ _ _ _ _ _ _ (zk1 Q t, va_up Z 160 (zkeepT (Z 160) t))
        refine zi_aload0 (n := 51) dX6_move_50 rfl ?_
        refine zg_X6_2 (n := 54) dX6_move_51 rfl zl_X6_26 ?_
        refine zgN_X4_10 (n := 57) dX6_move_54 rfl zl_X6_159 (by omega) ?_
        refine zi_iload1 (n := 58) dX6_move_57 rfl ?_
        refine zi_iload2 (n := 59) dX6_move_58 rfl ?_
        refine zi_qast (n := 60) dX6_move_59 rfl (by omega) (by decide) rfl (by omega) rfl ?_
        refine zi_iload3 (n := 61) dX6_move_60 rfl ?_
        exact zi_iret dX6_move_61 rfl (by rfl) (by dsimp only; rw [zk1_1 Q t (by decide)])
      · first | exact absurd he h33 | exact absurd h33 he
    · first | exact absurd hy h15 | exact absurd h15 hy
set_option maxHeartbeats 4000000 in
set_option maxRecDepth 100000 in
theorem x_write_bad {x y : Int32} (hb : ¬ ((¬ x < 0 ∧ ¬ Q 1 0 0 ≤ x) ∧ (nI 1 ≤ y ∧ y ≤ nI 9))) : zCT E 4 zm_X6_write [.ref (zad E 145), .int x, .int y] (Q, Z) (some (.int zBAD)) (Q, Z) := by
  refine zCT.of (by decide +kernel) (Nat.le_of_ble_eq_true rfl) ?_
  refine zi_aload0 (n := 1) dX6_write_0 rfl ?_
  refine zg_X6_2 (n := 4) dX6_write_1 rfl zl_X6_26 ?_
  refine zi_iload1 (n := 5) dX6_write_4 rfl ?_
  refine zi_V1s (mj := zm_X4_has) (n := 8) dX6_write_5 rfl zl_X6_153 zy_X4_has (zrc_sq _ _ (by omega)) (by decide) (Nat.le_of_ble_eq_true rfl) (zrr (j := 1) (c_X4_has (S := Q 1) (j := 1) (by decide))) ?_
  refine zi_ifeq_b (n := 11) (tgt := 21) dX6_write_8 rfl (by decide) (fun h8 => ?_) (fun h8 => ?_)
  · refine zi_ldc (n := 23) dX6_write_21 rfl zl_X6_67 ?_
    exact zi_iret dX6_write_23 rfl (by rfl) (by rfl)
  · refine zi_iload2 (n := 12) dX6_write_11 rfl ?_
    refine zi_iconst (n := 13) (nI 1) dX6_write_12 rfl (by decide) ?_
    refine zi_bipush (n := 15) (nI 9) dX6_write_13 rfl (by decide) ?_
    refine zi_S3s (mj := zm_X6_within) (n := 18) dX6_write_15 rfl zl_X6_63 zy_X6_within (by decide) (Nat.le_of_ble_eq_true rfl) (c_X6_within) ?_
    refine zi_ifne_b (n := 21) (tgt := 24) dX6_write_18 rfl (by decide) (fun h18 => ?_) (fun h18 => ?_)
    · exact absurd ⟨h8, h18⟩ hb
    · refine zi_ldc (n := 23) dX6_write_21 rfl zl_X6_67 ?_
      exact zi_iret dX6_write_23 rfl (by rfl) (by rfl)
set_option maxHeartbeats 4000000 in
set_option maxRecDepth 100000 in
theorem x_write_ok (hn : Q 1 0 0 = nI n) (h6 : n ≤ 6) {t : Nat} (ht : Z 160 1 = nI t) (h24 : t < 24) {p : Nat} (hp : p < n) {y : Int32} (hy : nI 1 ≤ y ∧ y ≤ nI 9) : zCT E 4 zm_X6_write [.ref (zad E 145), .int (nI p), .int y] (Q, Z) (some (.int (Q 1 4 p))) (va_up (zk1 Q t) 1 (zsu (Q 1) 4 p y), va_up Z 160 (zkeepT (Z 160) t)) := by
  refine zCT.of (by decide +kernel) (Nat.le_of_ble_eq_true rfl) ?_
  have a1 := zhas hn h6 hp
  refine zi_aload0 (n := 1) dX6_write_0 rfl ?_
  refine zg_X6_2 (n := 4) dX6_write_1 rfl zl_X6_26 ?_
  refine zi_iload1 (n := 5) dX6_write_4 rfl ?_
  refine zi_V1s (mj := zm_X4_has) (n := 8) dX6_write_5 rfl zl_X6_153 zy_X4_has (zrc_sq _ _ (by omega)) (by decide) (Nat.le_of_ble_eq_true rfl) (zrr (j := 1) (c_X4_has (S := Q 1) (j := 1) (by decide))) ?_
  refine zi_ifeq_b (n := 11) (tgt := 21) dX6_write_8 rfl (by decide) (fun h8 => ?_) (fun h8 => ?_)
  · first | exact absurd a1 h8 | exact absurd h8 a1
  · refine zi_iload2 (n := 12) dX6_write_11 rfl ?_
    refine zi_iconst (n := 13) (nI 1) dX6_write_12 rfl (by decide) ?_
    refine zi_bipush (n := 15) (nI 9) dX6_write_13 rfl (by decide) ?_
    refine zi_S3s (mj := zm_X6_within) (n := 18) dX6_write_15 rfl zl_X6_63 zy_X6_within (by decide) (Nat.le_of_ble_eq_true rfl) (c_X6_within) ?_
    refine zi_ifne_b (n := 21) (tgt := 24) dX6_write_18 rfl (by decide) (fun h18 => ?_) (fun h18 => ?_)
    · refine zi_aload0 (n := 25) dX6_write_24 rfl ?_
      refine zg_X6_2 (n := 28) dX6_write_25 rfl zl_X6_26 ?_
      refine zgN_X4_12 (n := 31) dX6_write_28 rfl zl_X6_163 (by omega) ?_
      refine zi_iload1 (n := 32) dX6_write_31 rfl ?_
      refine zi_qald (n := 33) dX6_write_32 rfl (by omega) (by decide) rfl (by omega) rfl ?_
      refine zi_istore3 (n := 34) dX6_write_33 rfl (by decide) rfl ?_
      refine zi_aload0 (n := 35) dX6_write_34 rfl ?_
      refine zg_X6_3 (n := 38) dX6_write_35 rfl zl_X6_33 ?_
      refine zi_aload0 (n := 39) dX6_write_38 rfl ?_
      refine zg_X6_2 (n := 42) dX6_write_39 rfl zl_X6_26 ?_
      refine zi_V1v (mj := zm_X0_keep) (n := 45) dX6_write_42 rfl zl_X6_147 zy_X0_keep (zrc_X0 _ _) (by decide) (Nat.le_of_ble_eq_true rfl) (zrz (a := 160) (c_X0_keep ht h24 (by decide))) ?_
      change zG _ _ _ _ _ _ _ _ (zk1 Q t, va_up Z 160 (zkeepT (Z 160) t))
      refine zi_aload0 (n := 46) dX6_write_45 rfl ?_
      refine zg_X6_2 (n := 49) dX6_write_46 rfl zl_X6_26 ?_
      refine zgN_X4_12 (n := 52) dX6_write_49 rfl zl_X6_163 (by omega) ?_
      refine zi_iload1 (n := 53) dX6_write_52 rfl ?_
      refine zi_iload2 (n := 54) dX6_write_53 rfl ?_
      refine zi_qast (n := 55) dX6_write_54 rfl (by omega) (by decide) rfl (by omega) rfl ?_
      refine zi_iload3 (n := 56) dX6_write_55 rfl ?_
      exact zi_iret dX6_write_56 rfl (by rfl) (by dsimp only; rw [zk1_1 Q t (by decide)])
    · first | exact absurd hy h18 | exact absurd h18 hy
set_option maxHeartbeats 4000000 in
set_option maxRecDepth 100000 in
theorem x_hide_bad {x : Int32} (hb : ¬ (¬ x < 0 ∧ ¬ Q 1 0 0 ≤ x)) : zCT E 4 zm_X6_hide [.ref (zad E 145), .int x] (Q, Z) (some (.int zBAD)) (Q, Z) := by
  refine zCT.of (by decide +kernel) (Nat.le_of_ble_eq_true rfl) ?_
  refine zi_aload0 (n := 1) dX6_hide_0 rfl ?_
  refine zg_X6_2 (n := 4) dX6_hide_1 rfl zl_X6_26 ?_
  refine zi_iload1 (n := 5) dX6_hide_4 rfl ?_
  refine zi_V1s (mj := zm_X4_has) (n := 8) dX6_hide_5 rfl zl_X6_153 zy_X4_has (zrc_sq _ _ (by omega)) (by decide) (Nat.le_of_ble_eq_true rfl) (zrr (j := 1) (c_X4_has (S := Q 1) (j := 1) (by decide))) ?_
  refine zi_ifne_b (n := 11) (tgt := 14) dX6_hide_8 rfl (by decide) (fun h8 => ?_) (fun h8 => ?_)
  · first | exact absurd hb h8 | exact absurd h8 hb
  · refine zi_ldc (n := 13) dX6_hide_11 rfl zl_X6_67 ?_
    exact zi_iret dX6_hide_13 rfl (by rfl) (by rfl)
set_option maxHeartbeats 4000000 in
set_option maxRecDepth 100000 in
theorem x_hide_ok (hn : Q 1 0 0 = nI n) (h6 : n ≤ 6) {t : Nat} (ht : Z 160 1 = nI t) (h24 : t < 24) {p : Nat} (hp : p < n) : zCT E 4 zm_X6_hide [.ref (zad E 145), .int (nI p)] (Q, Z) (some (.int (if hidC (zsu (Q 1) 0 6 (Q 1 0 6 ^^^ (nI 1 <<< (nI p &&& 31)))) p = 0 then nI 0 else nI 1))) (va_up (zk1 Q t) 1 (zsu (Q 1) 0 6 (Q 1 0 6 ^^^ (nI 1 <<< (nI p &&& 31)))), va_up Z 160 (zkeepT (Z 160) t)) := by
  refine zCT.of (by decide +kernel) (Nat.le_of_ble_eq_true rfl) ?_
  have a1 := zhas hn h6 hp
  refine zi_aload0 (n := 1) dX6_hide_0 rfl ?_
  refine zg_X6_2 (n := 4) dX6_hide_1 rfl zl_X6_26 ?_
  refine zi_iload1 (n := 5) dX6_hide_4 rfl ?_
  refine zi_V1s (mj := zm_X4_has) (n := 8) dX6_hide_5 rfl zl_X6_153 zy_X4_has (zrc_sq _ _ (by omega)) (by decide) (Nat.le_of_ble_eq_true rfl) (zrr (j := 1) (c_X4_has (S := Q 1) (j := 1) (by decide))) ?_
  refine zi_ifne_b (n := 11) (tgt := 14) dX6_hide_8 rfl (by decide) (fun h8 => ?_) (fun h8 => ?_)
  · refine zi_aload0 (n := 15) dX6_hide_14 rfl ?_
    refine zg_X6_3 (n := 18) dX6_hide_15 rfl zl_X6_33 ?_
    refine zi_aload0 (n := 19) dX6_hide_18 rfl ?_
    refine zg_X6_2 (n := 22) dX6_hide_19 rfl zl_X6_26 ?_
    refine zi_V1v (mj := zm_X0_keep) (n := 25) dX6_hide_22 rfl zl_X6_147 zy_X0_keep (zrc_X0 _ _) (by decide) (Nat.le_of_ble_eq_true rfl) (zrz (a := 160) (c_X0_keep ht h24 (by decide))) ?_
    change zG _ _ _ _ _ _ _ _ (zk1 Q t, va_up Z 160 (zkeepT (Z 160) t))
    refine zi_aload0 (n := 26) dX6_hide_25 rfl ?_
    refine zg_X6_2 (n := 29) dX6_hide_26 rfl zl_X6_26 ?_
    refine zi_dup (n := 30) dX6_hide_29 rfl rfl ?_
    refine zgN_X4_6 (n := 33) dX6_hide_30 rfl zl_X6_166 (by decide) (show zk1 Q t 1 0 6 = Q 1 0 6 by rw [zk1_1 Q t (by decide)]) ?_
    refine zi_iconst (n := 34) (nI 1) dX6_hide_33 rfl (by decide) ?_
    refine zi_iload1 (n := 35) dX6_hide_34 rfl ?_
    refine zi_ishl (n := 36) dX6_hide_35 rfl ?_
    refine zi_ixor (n := 37) dX6_hide_36 rfl ?_
    refine zpN_X4_6 (n := 40) dX6_hide_37 rfl zl_X6_166 (by omega) rfl ?_
    dsimp only
    rw [zk1_1 Q t (by decide)]
    refine zi_aload0 (n := 41) dX6_hide_40 rfl ?_
    refine zg_X6_2 (n := 44) dX6_hide_41 rfl zl_X6_26 ?_
    refine zi_iload1 (n := 45) dX6_hide_44 rfl ?_
    refine zi_V1s (mj := zm_X4_isHidden) (n := 48) dX6_hide_45 rfl zl_X6_169 zy_X4_isHidden (zrc_sq _ _ (by omega)) (by decide) (Nat.le_of_ble_eq_true rfl) (c_X4_isHidden (Q := zk1 Q t) (S := (zsu (Q 1) 0 6 (Q 1 0 6 ^^^ (nI 1 <<< (nI p &&& 31))))) (j := 1) (by decide)) ?_
    refine zi_ifeq_b (n := 51) (tgt := 55) dX6_hide_48 rfl (by decide) (fun h48 => ?_) (fun h48 => ?_)
    · refine zi_iconst (n := 56) (nI 0) dX6_hide_55 rfl (by decide) ?_
      exact zi_iret dX6_hide_56 rfl (by simp [h8, h48]) (by rfl)
    · refine zi_iconst (n := 52) (nI 1) dX6_hide_51 rfl (by decide) ?_
      refine zi_goto (tgt := 56) dX6_hide_52 (by decide) ?_
      exact zi_iret dX6_hide_56 rfl (by simp [h8, h48]) (by rfl)
  · first | exact absurd a1 h8 | exact absurd h8 a1
set_option maxHeartbeats 4000000 in
set_option maxRecDepth 100000 in
theorem x_clock_state {x : Int32} (h0 : Q 1 0 0 = 0) : zCT E 4 zm_X6_clock [.ref (zad E 145), .int x] (Q, Z) (some (.int zSTATE)) (Q, Z) := by
  refine zCT.of (by decide +kernel) (Nat.le_of_ble_eq_true rfl) ?_
  refine zi_aload0 (n := 1) dX6_clock_0 rfl ?_
  refine zg_X6_2 (n := 4) dX6_clock_1 rfl zl_X6_26 ?_
  refine zgN_X4_0 (n := 7) dX6_clock_4 rfl zl_X6_131 (by omega) rfl ?_
  refine zi_ifne (n := 10) (tgt := 13) dX6_clock_7 rfl (by decide) (fun h7 => ?_) (fun h7 => ?_)
  · first | exact absurd h0 h7 | exact absurd h7 h0
  · refine zi_ldc (n := 12) dX6_clock_10 rfl zl_X6_137 ?_
    exact zi_iret dX6_clock_12 rfl (by rfl) (by rfl)
set_option maxHeartbeats 4000000 in
set_option maxRecDepth 100000 in
theorem x_clock_bad {y : Int32} (h0 : ¬ Q 1 0 0 = 0) (hb : ¬ (nI 0 ≤ y ∧ y ≤ nI 9)) : zCT E 4 zm_X6_clock [.ref (zad E 145), .int y] (Q, Z) (some (.int zBAD)) (Q, Z) := by
  refine zCT.of (by decide +kernel) (Nat.le_of_ble_eq_true rfl) ?_
  refine zi_aload0 (n := 1) dX6_clock_0 rfl ?_
  refine zg_X6_2 (n := 4) dX6_clock_1 rfl zl_X6_26 ?_
  refine zgN_X4_0 (n := 7) dX6_clock_4 rfl zl_X6_131 (by omega) rfl ?_
  refine zi_ifne (n := 10) (tgt := 13) dX6_clock_7 rfl (by decide) (fun h7 => ?_) (fun h7 => ?_)
  · refine zi_iload1 (n := 14) dX6_clock_13 rfl ?_
    refine zi_S1s (mj := zm_X6_isPlace) (n := 17) dX6_clock_14 rfl zl_X6_156 zy_X6_isPlace (by decide) (Nat.le_of_ble_eq_true rfl) (c_X6_isPlace) ?_
    refine zi_ifne_b (n := 20) (tgt := 23) dX6_clock_17 rfl (by decide) (fun h17 => ?_) (fun h17 => ?_)
    · first | exact absurd hb h17 | exact absurd h17 hb
    · refine zi_ldc (n := 22) dX6_clock_20 rfl zl_X6_67 ?_
      exact zi_iret dX6_clock_22 rfl (by rfl) (by rfl)
  · first | exact absurd h0 h7 | exact absurd h7 h0
set_option maxHeartbeats 4000000 in
set_option maxRecDepth 100000 in
theorem x_clock_there {y : Int32} (h0 : ¬ Q 1 0 0 = 0) (hy : (nI 0 ≤ y ∧ y ≤ nI 9)) (he : Q 1 0 1 = y) : zCT E 4 zm_X6_clock [.ref (zad E 145), .int y] (Q, Z) (some (.int zSTATE)) (Q, Z) := by
  refine zCT.of (by decide +kernel) (Nat.le_of_ble_eq_true rfl) ?_
  refine zi_aload0 (n := 1) dX6_clock_0 rfl ?_
  refine zg_X6_2 (n := 4) dX6_clock_1 rfl zl_X6_26 ?_
  refine zgN_X4_0 (n := 7) dX6_clock_4 rfl zl_X6_131 (by omega) rfl ?_
  refine zi_ifne (n := 10) (tgt := 13) dX6_clock_7 rfl (by decide) (fun h7 => ?_) (fun h7 => ?_)
  · refine zi_iload1 (n := 14) dX6_clock_13 rfl ?_
    refine zi_S1s (mj := zm_X6_isPlace) (n := 17) dX6_clock_14 rfl zl_X6_156 zy_X6_isPlace (by decide) (Nat.le_of_ble_eq_true rfl) (c_X6_isPlace) ?_
    refine zi_ifne_b (n := 20) (tgt := 23) dX6_clock_17 rfl (by decide) (fun h17 => ?_) (fun h17 => ?_)
    · refine zi_aload0 (n := 24) dX6_clock_23 rfl ?_
      refine zg_X6_2 (n := 27) dX6_clock_24 rfl zl_X6_26 ?_
      refine zgN_X4_1 (n := 30) dX6_clock_27 rfl zl_X6_172 (by omega) rfl ?_
      refine zi_istore2 (n := 31) dX6_clock_30 rfl (by decide) rfl ?_
      refine zi_iload2 (n := 32) dX6_clock_31 rfl ?_
      refine zi_iload1 (n := 33) dX6_clock_32 rfl ?_
      refine zi_icne (n := 36) (tgt := 39) dX6_clock_33 rfl (by decide) (fun h33 => ?_) (fun h33 => ?_)
      · first | exact absurd he h33 | exact absurd h33 he
      · refine zi_ldc (n := 38) dX6_clock_36 rfl zl_X6_137 ?_
        exact zi_iret dX6_clock_38 rfl (by rfl) (by rfl)
    · first | exact absurd hy h17 | exact absurd h17 hy
  · first | exact absurd h0 h7 | exact absurd h7 h0
set_option maxHeartbeats 4000000 in
set_option maxRecDepth 100000 in
theorem x_clock_ok {t : Nat} (ht : Z 160 1 = nI t) (h24 : t < 24) {y : Int32} (h0 : ¬ Q 1 0 0 = 0) (hy : (nI 0 ≤ y ∧ y ≤ nI 9)) (he : ¬ Q 1 0 1 = y) : zCT E 4 zm_X6_clock [.ref (zad E 145), .int y] (Q, Z) (some (.int (Q 1 0 1))) (va_up (zk1 Q t) 1 (zsu (Q 1) 0 1 y), va_up Z 160 (zkeepT (Z 160) t)) := by
  refine zCT.of (by decide +kernel) (Nat.le_of_ble_eq_true rfl) ?_
  refine zi_aload0 (n := 1) dX6_clock_0 rfl ?_
  refine zg_X6_2 (n := 4) dX6_clock_1 rfl zl_X6_26 ?_
  refine zgN_X4_0 (n := 7) dX6_clock_4 rfl zl_X6_131 (by omega) rfl ?_
  refine zi_ifne (n := 10) (tgt := 13) dX6_clock_7 rfl (by decide) (fun h7 => ?_) (fun h7 => ?_)
  · refine zi_iload1 (n := 14) dX6_clock_13 rfl ?_
    refine zi_S1s (mj := zm_X6_isPlace) (n := 17) dX6_clock_14 rfl zl_X6_156 zy_X6_isPlace (by decide) (Nat.le_of_ble_eq_true rfl) (c_X6_isPlace) ?_
    refine zi_ifne_b (n := 20) (tgt := 23) dX6_clock_17 rfl (by decide) (fun h17 => ?_) (fun h17 => ?_)
    · refine zi_aload0 (n := 24) dX6_clock_23 rfl ?_
      refine zg_X6_2 (n := 27) dX6_clock_24 rfl zl_X6_26 ?_
      refine zgN_X4_1 (n := 30) dX6_clock_27 rfl zl_X6_172 (by omega) rfl ?_
      refine zi_istore2 (n := 31) dX6_clock_30 rfl (by decide) rfl ?_
      refine zi_iload2 (n := 32) dX6_clock_31 rfl ?_
      refine zi_iload1 (n := 33) dX6_clock_32 rfl ?_
      refine zi_icne (n := 36) (tgt := 39) dX6_clock_33 rfl (by decide) (fun h33 => ?_) (fun h33 => ?_)
      · refine zi_aload0 (n := 40) dX6_clock_39 rfl ?_
        refine zg_X6_3 (n := 43) dX6_clock_40 rfl zl_X6_33 ?_
        refine zi_aload0 (n := 44) dX6_clock_43 rfl ?_
        refine zg_X6_2 (n := 47) dX6_clock_44 rfl zl_X6_26 ?_
        refine zi_V1v (mj := zm_X0_keep) (n := 50) dX6_clock_47 rfl zl_X6_147 zy_X0_keep (zrc_X0 _ _) (by decide) (Nat.le_of_ble_eq_true rfl) (zrz (a := 160) (c_X0_keep ht h24 (by decide))) ?_
        change zG _ _ _ _ _ _ _ _ (zk1 Q t, va_up Z 160 (zkeepT (Z 160) t))
        refine zi_aload0 (n := 51) dX6_clock_50 rfl ?_
        refine zg_X6_2 (n := 54) dX6_clock_51 rfl zl_X6_26 ?_
        refine zi_iload1 (n := 55) dX6_clock_54 rfl ?_
        refine zpN_X4_1 (n := 58) dX6_clock_55 rfl zl_X6_172 (by omega) rfl ?_
        refine zi_iload2 (n := 59) dX6_clock_58 rfl ?_
        exact zi_iret dX6_clock_59 rfl (by rfl) (by dsimp only; rw [zk1_1 Q t (by decide)])
      · first | exact absurd he h33 | exact absurd h33 he
    · first | exact absurd hy h17 | exact absurd h17 hy
  · first | exact absurd h0 h7 | exact absurd h7 h0
set_option maxHeartbeats 4000000 in
set_option maxRecDepth 100000 in
theorem x_paper_bad {x y : Int32} (hb : ¬ (¬ x < 0 ∧ ¬ Q 1 0 0 ≤ x)) : zCT E 2 zm_X6_paper [.ref (zad E 145), .int x, .int y] (Q, Z) (some (.int zBAD)) (Q, Z) := by
  refine zCT.of (by decide +kernel) (Nat.le_of_ble_eq_true rfl) ?_
  refine zi_aload0 (n := 1) dX6_paper_0 rfl ?_
  refine zg_X6_2 (n := 4) dX6_paper_1 rfl zl_X6_26 ?_
  refine zi_iload1 (n := 5) dX6_paper_4 rfl ?_
  refine zi_V1s (mj := zm_X4_has) (n := 8) dX6_paper_5 rfl zl_X6_153 zy_X4_has (zrc_sq _ _ (by omega)) (by decide) (Nat.le_of_ble_eq_true rfl) (zrr (j := 1) (c_X4_has (S := Q 1) (j := 1) (by decide))) ?_
  refine zi_ifne_b (n := 11) (tgt := 14) dX6_paper_8 rfl (by decide) (fun h8 => ?_) (fun h8 => ?_)
  · first | exact absurd hb h8 | exact absurd h8 hb
  · refine zi_ldc (n := 13) dX6_paper_11 rfl zl_X6_67 ?_
    exact zi_iret dX6_paper_13 rfl (by rfl) (by rfl)
set_option maxHeartbeats 4000000 in
set_option maxRecDepth 100000 in
theorem x_paper_what (hn : Q 1 0 0 = nI n) (h6 : n ≤ 6) {p : Nat} (hp : p < n) {y : Int32} (hy : y.toInt < 0 ∨ 4 < y.toInt) : zCT E 2 zm_X6_paper [.ref (zad E 145), .int (nI p), .int y] (Q, Z) (some (.int zBAD)) (Q, Z) := by
  refine zCT.of (by decide +kernel) (Nat.le_of_ble_eq_true rfl) ?_
  have a1 := zhas hn h6 hp
  refine zi_aload0 (n := 1) dX6_paper_0 rfl ?_
  refine zg_X6_2 (n := 4) dX6_paper_1 rfl zl_X6_26 ?_
  refine zi_iload1 (n := 5) dX6_paper_4 rfl ?_
  refine zi_V1s (mj := zm_X4_has) (n := 8) dX6_paper_5 rfl zl_X6_153 zy_X4_has (zrc_sq _ _ (by omega)) (by decide) (Nat.le_of_ble_eq_true rfl) (zrr (j := 1) (c_X4_has (S := Q 1) (j := 1) (by decide))) ?_
  refine zi_ifne_b (n := 11) (tgt := 14) dX6_paper_8 rfl (by decide) (fun h8 => ?_) (fun h8 => ?_)
  · refine zi_iload2 (n := 15) dX6_paper_14 rfl ?_
    refine zi_tableOut (tgt := 104) dX6_paper_15 hy (by decide) ?_
    refine zi_ldc (n := 106) dX6_paper_104 rfl zl_X6_67 ?_
    exact zi_iret dX6_paper_106 rfl (by rfl) (by rfl)
  · first | exact absurd a1 h8 | exact absurd h8 a1
set_option maxHeartbeats 4000000 in
set_option maxRecDepth 100000 in
theorem x_paper_0 (hn : Q 1 0 0 = nI n) (h6 : n ≤ 6) {p : Nat} (hp : p < n) : zCT E 2 zm_X6_paper [.ref (zad E 145), .int (nI p), .int (nI 0)] (Q, Z) (some (.int (Q 1 2 p))) (Q, Z) := by
  refine zCT.of (by decide +kernel) (Nat.le_of_ble_eq_true rfl) ?_
  have a1 := zhas hn h6 hp
  refine zi_aload0 (n := 1) dX6_paper_0 rfl ?_
  refine zg_X6_2 (n := 4) dX6_paper_1 rfl zl_X6_26 ?_
  refine zi_iload1 (n := 5) dX6_paper_4 rfl ?_
  refine zi_V1s (mj := zm_X4_has) (n := 8) dX6_paper_5 rfl zl_X6_153 zy_X4_has (zrc_sq _ _ (by omega)) (by decide) (Nat.le_of_ble_eq_true rfl) (zrr (j := 1) (c_X4_has (S := Q 1) (j := 1) (by decide))) ?_
  refine zi_ifne_b (n := 11) (tgt := 14) dX6_paper_8 rfl (by decide) (fun h8 => ?_) (fun h8 => ?_)
  · refine zi_iload2 (n := 15) dX6_paper_14 rfl ?_
    refine zi_tableIn (tgt := 48) dX6_paper_15 (by decide) (by decide) rfl (by decide) ?_
    refine zi_aload0 (n := 49) dX6_paper_48 rfl ?_
    refine zg_X6_2 (n := 52) dX6_paper_49 rfl zl_X6_26 ?_
    refine zgN_X4_10 (n := 55) dX6_paper_52 rfl zl_X6_159 (by omega) ?_
    refine zi_iload1 (n := 56) dX6_paper_55 rfl ?_
    refine zi_qald (n := 57) dX6_paper_56 rfl (by omega) (by decide) rfl (by omega) rfl ?_
    exact zi_iret dX6_paper_57 rfl (by rfl) (by rfl)
  · first | exact absurd a1 h8 | exact absurd h8 a1
set_option maxHeartbeats 4000000 in
set_option maxRecDepth 100000 in
theorem x_paper_1 (hn : Q 1 0 0 = nI n) (h6 : n ≤ 6) {p : Nat} (hp : p < n) : zCT E 2 zm_X6_paper [.ref (zad E 145), .int (nI p), .int (nI 1)] (Q, Z) (some (.int (Q 1 3 p))) (Q, Z) := by
  refine zCT.of (by decide +kernel) (Nat.le_of_ble_eq_true rfl) ?_
  have a1 := zhas hn h6 hp
  refine zi_aload0 (n := 1) dX6_paper_0 rfl ?_
  refine zg_X6_2 (n := 4) dX6_paper_1 rfl zl_X6_26 ?_
  refine zi_iload1 (n := 5) dX6_paper_4 rfl ?_
  refine zi_V1s (mj := zm_X4_has) (n := 8) dX6_paper_5 rfl zl_X6_153 zy_X4_has (zrc_sq _ _ (by omega)) (by decide) (Nat.le_of_ble_eq_true rfl) (zrr (j := 1) (c_X4_has (S := Q 1) (j := 1) (by decide))) ?_
  refine zi_ifne_b (n := 11) (tgt := 14) dX6_paper_8 rfl (by decide) (fun h8 => ?_) (fun h8 => ?_)
  · refine zi_iload2 (n := 15) dX6_paper_14 rfl ?_
    refine zi_tableIn (tgt := 58) dX6_paper_15 (by decide) (by decide) rfl (by decide) ?_
    refine zi_aload0 (n := 59) dX6_paper_58 rfl ?_
    refine zg_X6_2 (n := 62) dX6_paper_59 rfl zl_X6_26 ?_
    refine zgN_X4_11 (n := 65) dX6_paper_62 rfl zl_X6_175 (by omega) ?_
    refine zi_iload1 (n := 66) dX6_paper_65 rfl ?_
    refine zi_qald (n := 67) dX6_paper_66 rfl (by omega) (by decide) rfl (by omega) rfl ?_
    exact zi_iret dX6_paper_67 rfl (by rfl) (by rfl)
  · first | exact absurd a1 h8 | exact absurd h8 a1
set_option maxHeartbeats 4000000 in
set_option maxRecDepth 100000 in
theorem x_paper_2 (hn : Q 1 0 0 = nI n) (h6 : n ≤ 6) {p : Nat} (hp : p < n) : zCT E 2 zm_X6_paper [.ref (zad E 145), .int (nI p), .int (nI 2)] (Q, Z) (some (.int (Q 1 4 p))) (Q, Z) := by
  refine zCT.of (by decide +kernel) (Nat.le_of_ble_eq_true rfl) ?_
  have a1 := zhas hn h6 hp
  refine zi_aload0 (n := 1) dX6_paper_0 rfl ?_
  refine zg_X6_2 (n := 4) dX6_paper_1 rfl zl_X6_26 ?_
  refine zi_iload1 (n := 5) dX6_paper_4 rfl ?_
  refine zi_V1s (mj := zm_X4_has) (n := 8) dX6_paper_5 rfl zl_X6_153 zy_X4_has (zrc_sq _ _ (by omega)) (by decide) (Nat.le_of_ble_eq_true rfl) (zrr (j := 1) (c_X4_has (S := Q 1) (j := 1) (by decide))) ?_
  refine zi_ifne_b (n := 11) (tgt := 14) dX6_paper_8 rfl (by decide) (fun h8 => ?_) (fun h8 => ?_)
  · refine zi_iload2 (n := 15) dX6_paper_14 rfl ?_
    refine zi_tableIn (tgt := 68) dX6_paper_15 (by decide) (by decide) rfl (by decide) ?_
    refine zi_aload0 (n := 69) dX6_paper_68 rfl ?_
    refine zg_X6_2 (n := 72) dX6_paper_69 rfl zl_X6_26 ?_
    refine zgN_X4_12 (n := 75) dX6_paper_72 rfl zl_X6_163 (by omega) ?_
    refine zi_iload1 (n := 76) dX6_paper_75 rfl ?_
    refine zi_qald (n := 77) dX6_paper_76 rfl (by omega) (by decide) rfl (by omega) rfl ?_
    exact zi_iret dX6_paper_77 rfl (by rfl) (by rfl)
  · first | exact absurd a1 h8 | exact absurd h8 a1
set_option maxHeartbeats 4000000 in
set_option maxRecDepth 100000 in
theorem x_paper_3 (hn : Q 1 0 0 = nI n) (h6 : n ≤ 6) {p : Nat} (hp : p < n) : zCT E 2 zm_X6_paper [.ref (zad E 145), .int (nI p), .int (nI 3)] (Q, Z) (some (.int (nearC (Q 1) p))) (Q, Z) := by
  refine zCT.of (by decide +kernel) (Nat.le_of_ble_eq_true rfl) ?_
  have a1 := zhas hn h6 hp
  refine zi_aload0 (n := 1) dX6_paper_0 rfl ?_
  refine zg_X6_2 (n := 4) dX6_paper_1 rfl zl_X6_26 ?_
  refine zi_iload1 (n := 5) dX6_paper_4 rfl ?_
  refine zi_V1s (mj := zm_X4_has) (n := 8) dX6_paper_5 rfl zl_X6_153 zy_X4_has (zrc_sq _ _ (by omega)) (by decide) (Nat.le_of_ble_eq_true rfl) (zrr (j := 1) (c_X4_has (S := Q 1) (j := 1) (by decide))) ?_
  refine zi_ifne_b (n := 11) (tgt := 14) dX6_paper_8 rfl (by decide) (fun h8 => ?_) (fun h8 => ?_)
  · refine zi_iload2 (n := 15) dX6_paper_14 rfl ?_
    refine zi_tableIn (tgt := 78) dX6_paper_15 (by decide) (by decide) rfl (by decide) ?_
    refine zi_aload0 (n := 79) dX6_paper_78 rfl ?_
    refine zg_X6_2 (n := 82) dX6_paper_79 rfl zl_X6_26 ?_
    refine zi_iload1 (n := 83) dX6_paper_82 rfl ?_
    refine zi_V1s (mj := zm_X4_nearOf) (n := 86) dX6_paper_83 rfl zl_X6_178 zy_X4_nearOf (zrc_sq _ _ (by omega)) (by decide) (Nat.le_of_ble_eq_true rfl) (zrr (j := 1) (c_X4_nearOf (S := Q 1) (j := 1) (by decide) (by omega))) ?_
    exact zi_iret dX6_paper_86 rfl (by rfl) (by rfl)
  · first | exact absurd a1 h8 | exact absurd h8 a1
set_option maxHeartbeats 4000000 in
set_option maxRecDepth 100000 in
theorem x_paper_4 (hn : Q 1 0 0 = nI n) (h6 : n ≤ 6) {p : Nat} (hp : p < n) : zCT E 2 zm_X6_paper [.ref (zad E 145), .int (nI p), .int (nI 4)] (Q, Z) (some (.int (if hidC (Q 1) p = 0 then nI 0 else nI 1))) (Q, Z) := by
  refine zCT.of (by decide +kernel) (Nat.le_of_ble_eq_true rfl) ?_
  have a1 := zhas hn h6 hp
  refine zi_aload0 (n := 1) dX6_paper_0 rfl ?_
  refine zg_X6_2 (n := 4) dX6_paper_1 rfl zl_X6_26 ?_
  refine zi_iload1 (n := 5) dX6_paper_4 rfl ?_
  refine zi_V1s (mj := zm_X4_has) (n := 8) dX6_paper_5 rfl zl_X6_153 zy_X4_has (zrc_sq _ _ (by omega)) (by decide) (Nat.le_of_ble_eq_true rfl) (zrr (j := 1) (c_X4_has (S := Q 1) (j := 1) (by decide))) ?_
  refine zi_ifne_b (n := 11) (tgt := 14) dX6_paper_8 rfl (by decide) (fun h8 => ?_) (fun h8 => ?_)
  · refine zi_iload2 (n := 15) dX6_paper_14 rfl ?_
    refine zi_tableIn (tgt := 87) dX6_paper_15 (by decide) (by decide) rfl (by decide) ?_
    refine zi_aload0 (n := 88) dX6_paper_87 rfl ?_
    refine zg_X6_2 (n := 91) dX6_paper_88 rfl zl_X6_26 ?_
    refine zi_iload1 (n := 92) dX6_paper_91 rfl ?_
    refine zi_V1s (mj := zm_X4_isHidden) (n := 95) dX6_paper_92 rfl zl_X6_169 zy_X4_isHidden (zrc_sq _ _ (by omega)) (by decide) (Nat.le_of_ble_eq_true rfl) (zrr (j := 1) (c_X4_isHidden (S := Q 1) (j := 1) (by decide))) ?_
    refine zi_ifeq_b (n := 98) (tgt := 102) dX6_paper_95 rfl (by decide) (fun h95 => ?_) (fun h95 => ?_)
    · refine zi_iconst (n := 103) (nI 0) dX6_paper_102 rfl (by decide) ?_
      exact zi_iret dX6_paper_103 rfl (by simp [h8, h95]) (by rfl)
    · refine zi_iconst (n := 99) (nI 1) dX6_paper_98 rfl (by decide) ?_
      refine zi_goto (tgt := 103) dX6_paper_99 (by decide) ?_
      exact zi_iret dX6_paper_103 rfl (by simp [h8, h95]) (by rfl)
  · first | exact absurd a1 h8 | exact absurd h8 a1
set_option maxHeartbeats 4000000 in
set_option maxRecDepth 100000 in
theorem x_stand_state {x : Int32} (h0 : Q 1 0 0 = 0) : zCT E 3 zm_X6_stand [.ref (zad E 145), .int x] (Q, Z) (some (.int zSTATE)) (Q, Z) := by
  refine zCT.of (by decide +kernel) (Nat.le_of_ble_eq_true rfl) ?_
  refine zi_aload0 (n := 1) dX6_stand_0 rfl ?_
  refine zg_X6_2 (n := 4) dX6_stand_1 rfl zl_X6_26 ?_
  refine zgN_X4_0 (n := 7) dX6_stand_4 rfl zl_X6_131 (by omega) rfl ?_
  refine zi_ifne (n := 10) (tgt := 13) dX6_stand_7 rfl (by decide) (fun h7 => ?_) (fun h7 => ?_)
  · first | exact absurd h0 h7 | exact absurd h7 h0
  · refine zi_ldc (n := 12) dX6_stand_10 rfl zl_X6_137 ?_
    exact zi_iret dX6_stand_12 rfl (by rfl) (by rfl)
set_option maxHeartbeats 4000000 in
set_option maxRecDepth 100000 in
theorem x_stand_what {y : Int32} (h0 : ¬ Q 1 0 0 = 0) (hy : y.toInt < 0 ∨ 6 < y.toInt) : zCT E 3 zm_X6_stand [.ref (zad E 145), .int y] (Q, Z) (some (.int zBAD)) (Q, Z) := by
  refine zCT.of (by decide +kernel) (Nat.le_of_ble_eq_true rfl) ?_
  refine zi_aload0 (n := 1) dX6_stand_0 rfl ?_
  refine zg_X6_2 (n := 4) dX6_stand_1 rfl zl_X6_26 ?_
  refine zgN_X4_0 (n := 7) dX6_stand_4 rfl zl_X6_131 (by omega) rfl ?_
  refine zi_ifne (n := 10) (tgt := 13) dX6_stand_7 rfl (by decide) (fun h7 => ?_) (fun h7 => ?_)
  · refine zi_iload1 (n := 14) dX6_stand_13 rfl ?_
    refine zi_tableOut (tgt := 112) dX6_stand_14 hy (by decide) ?_
    refine zi_ldc (n := 114) dX6_stand_112 rfl zl_X6_67 ?_
    exact zi_iret dX6_stand_114 rfl (by rfl) (by rfl)
  · first | exact absurd h0 h7 | exact absurd h7 h0
set_option maxHeartbeats 4000000 in
set_option maxRecDepth 100000 in
theorem x_stand_0 (hn : Q 1 0 0 = nI n) (h6 : n ≤ 6) (h0 : ¬ Q 1 0 0 = 0) : zCT E 3 zm_X6_stand [.ref (zad E 145), .int (nI 0)] (Q, Z) (some (.int (Q 1 0 0))) (Q, Z) := by
  refine zCT.of (by decide +kernel) (Nat.le_of_ble_eq_true rfl) ?_
  refine zi_aload0 (n := 1) dX6_stand_0 rfl ?_
  refine zg_X6_2 (n := 4) dX6_stand_1 rfl zl_X6_26 ?_
  refine zgN_X4_0 (n := 7) dX6_stand_4 rfl zl_X6_131 (by omega) rfl ?_
  refine zi_ifne (n := 10) (tgt := 13) dX6_stand_7 rfl (by decide) (fun h7 => ?_) (fun h7 => ?_)
  · refine zi_iload1 (n := 14) dX6_stand_13 rfl ?_
    refine zi_tableIn (tgt := 56) dX6_stand_14 (by decide) (by decide) rfl (by decide) ?_
    refine zi_aload0 (n := 57) dX6_stand_56 rfl ?_
    refine zg_X6_2 (n := 60) dX6_stand_57 rfl zl_X6_26 ?_
    refine zgN_X4_0 (n := 63) dX6_stand_60 rfl zl_X6_131 (by omega) rfl ?_
    exact zi_iret dX6_stand_63 rfl (by rfl) (by rfl)
  · first | exact absurd h0 h7 | exact absurd h7 h0
set_option maxHeartbeats 4000000 in
set_option maxRecDepth 100000 in
theorem x_stand_1 (hn : Q 1 0 0 = nI n) (h6 : n ≤ 6) (h0 : ¬ Q 1 0 0 = 0) : zCT E 3 zm_X6_stand [.ref (zad E 145), .int (nI 1)] (Q, Z) (some (.int (Q 1 0 1))) (Q, Z) := by
  refine zCT.of (by decide +kernel) (Nat.le_of_ble_eq_true rfl) ?_
  refine zi_aload0 (n := 1) dX6_stand_0 rfl ?_
  refine zg_X6_2 (n := 4) dX6_stand_1 rfl zl_X6_26 ?_
  refine zgN_X4_0 (n := 7) dX6_stand_4 rfl zl_X6_131 (by omega) rfl ?_
  refine zi_ifne (n := 10) (tgt := 13) dX6_stand_7 rfl (by decide) (fun h7 => ?_) (fun h7 => ?_)
  · refine zi_iload1 (n := 14) dX6_stand_13 rfl ?_
    refine zi_tableIn (tgt := 64) dX6_stand_14 (by decide) (by decide) rfl (by decide) ?_
    refine zi_aload0 (n := 65) dX6_stand_64 rfl ?_
    refine zg_X6_2 (n := 68) dX6_stand_65 rfl zl_X6_26 ?_
    refine zgN_X4_1 (n := 71) dX6_stand_68 rfl zl_X6_172 (by omega) rfl ?_
    exact zi_iret dX6_stand_71 rfl (by rfl) (by rfl)
  · first | exact absurd h0 h7 | exact absurd h7 h0
set_option maxHeartbeats 4000000 in
set_option maxRecDepth 100000 in
theorem x_stand_2 (hn : Q 1 0 0 = nI n) (h6 : n ≤ 6) (h0 : ¬ Q 1 0 0 = 0) : zCT E 3 zm_X6_stand [.ref (zad E 145), .int (nI 2)] (Q, Z) (some (.int (Q 1 0 2))) (Q, Z) := by
  refine zCT.of (by decide +kernel) (Nat.le_of_ble_eq_true rfl) ?_
  refine zi_aload0 (n := 1) dX6_stand_0 rfl ?_
  refine zg_X6_2 (n := 4) dX6_stand_1 rfl zl_X6_26 ?_
  refine zgN_X4_0 (n := 7) dX6_stand_4 rfl zl_X6_131 (by omega) rfl ?_
  refine zi_ifne (n := 10) (tgt := 13) dX6_stand_7 rfl (by decide) (fun h7 => ?_) (fun h7 => ?_)
  · refine zi_iload1 (n := 14) dX6_stand_13 rfl ?_
    refine zi_tableIn (tgt := 72) dX6_stand_14 (by decide) (by decide) rfl (by decide) ?_
    refine zi_aload0 (n := 73) dX6_stand_72 rfl ?_
    refine zg_X6_2 (n := 76) dX6_stand_73 rfl zl_X6_26 ?_
    refine zgN_X4_2 (n := 79) dX6_stand_76 rfl zl_X6_181 (by omega) rfl ?_
    exact zi_iret dX6_stand_79 rfl (by rfl) (by rfl)
  · first | exact absurd h0 h7 | exact absurd h7 h0
set_option maxHeartbeats 4000000 in
set_option maxRecDepth 100000 in
theorem x_stand_3 (hn : Q 1 0 0 = nI n) (h6 : n ≤ 6) (h0 : ¬ Q 1 0 0 = 0) : zCT E 3 zm_X6_stand [.ref (zad E 145), .int (nI 3)] (Q, Z) (some (.int (Q 1 0 3))) (Q, Z) := by
  refine zCT.of (by decide +kernel) (Nat.le_of_ble_eq_true rfl) ?_
  refine zi_aload0 (n := 1) dX6_stand_0 rfl ?_
  refine zg_X6_2 (n := 4) dX6_stand_1 rfl zl_X6_26 ?_
  refine zgN_X4_0 (n := 7) dX6_stand_4 rfl zl_X6_131 (by omega) rfl ?_
  refine zi_ifne (n := 10) (tgt := 13) dX6_stand_7 rfl (by decide) (fun h7 => ?_) (fun h7 => ?_)
  · refine zi_iload1 (n := 14) dX6_stand_13 rfl ?_
    refine zi_tableIn (tgt := 80) dX6_stand_14 (by decide) (by decide) rfl (by decide) ?_
    refine zi_aload0 (n := 81) dX6_stand_80 rfl ?_
    refine zg_X6_2 (n := 84) dX6_stand_81 rfl zl_X6_26 ?_
    refine zgN_X4_3 (n := 87) dX6_stand_84 rfl zl_X6_184 (by omega) rfl ?_
    exact zi_iret dX6_stand_87 rfl (by rfl) (by rfl)
  · first | exact absurd h0 h7 | exact absurd h7 h0
set_option maxHeartbeats 4000000 in
set_option maxRecDepth 100000 in
theorem x_stand_4 (hn : Q 1 0 0 = nI n) (h6 : n ≤ 6) (h0 : ¬ Q 1 0 0 = 0) : zCT E 3 zm_X6_stand [.ref (zad E 145), .int (nI 4)] (Q, Z) (some (.int (zNml (Q 1) n))) (Q, Z) := by
  refine zCT.of (by decide +kernel) (Nat.le_of_ble_eq_true rfl) ?_
  refine zi_aload0 (n := 1) dX6_stand_0 rfl ?_
  refine zg_X6_2 (n := 4) dX6_stand_1 rfl zl_X6_26 ?_
  refine zgN_X4_0 (n := 7) dX6_stand_4 rfl zl_X6_131 (by omega) rfl ?_
  refine zi_ifne (n := 10) (tgt := 13) dX6_stand_7 rfl (by decide) (fun h7 => ?_) (fun h7 => ?_)
  · refine zi_iload1 (n := 14) dX6_stand_13 rfl ?_
    refine zi_tableIn (tgt := 88) dX6_stand_14 (by decide) (by decide) rfl (by decide) ?_
    refine zi_aload0 (n := 89) dX6_stand_88 rfl ?_
    refine zg_X6_2 (n := 92) dX6_stand_89 rfl zl_X6_26 ?_
    refine zi_V0s (mj := zm_X4_namelessBits) (n := 95) dX6_stand_92 rfl zl_X6_187 zy_X4_namelessBits (zrc_sq _ _ (by omega)) (by decide) (Nat.le_of_ble_eq_true rfl) (zrr (j := 1) (c_X4_namelessBits (S := Q 1) (j := 1) (by decide) hn h6)) ?_
    exact zi_iret dX6_stand_95 rfl (by rfl) (by rfl)
  · first | exact absurd h0 h7 | exact absurd h7 h0
set_option maxHeartbeats 4000000 in
set_option maxRecDepth 100000 in
theorem x_stand_5 (hn : Q 1 0 0 = nI n) (h6 : n ≤ 6) (h0 : ¬ Q 1 0 0 = 0) : zCT E 3 zm_X6_stand [.ref (zad E 145), .int (nI 5)] (Q, Z) (some (.int (Q 1 0 6))) (Q, Z) := by
  refine zCT.of (by decide +kernel) (Nat.le_of_ble_eq_true rfl) ?_
  refine zi_aload0 (n := 1) dX6_stand_0 rfl ?_
  refine zg_X6_2 (n := 4) dX6_stand_1 rfl zl_X6_26 ?_
  refine zgN_X4_0 (n := 7) dX6_stand_4 rfl zl_X6_131 (by omega) rfl ?_
  refine zi_ifne (n := 10) (tgt := 13) dX6_stand_7 rfl (by decide) (fun h7 => ?_) (fun h7 => ?_)
  · refine zi_iload1 (n := 14) dX6_stand_13 rfl ?_
    refine zi_tableIn (tgt := 96) dX6_stand_14 (by decide) (by decide) rfl (by decide) ?_
    refine zi_aload0 (n := 97) dX6_stand_96 rfl ?_
    refine zg_X6_2 (n := 100) dX6_stand_97 rfl zl_X6_26 ?_
    refine zgN_X4_6 (n := 103) dX6_stand_100 rfl zl_X6_166 (by omega) rfl ?_
    exact zi_iret dX6_stand_103 rfl (by rfl) (by rfl)
  · first | exact absurd h0 h7 | exact absurd h7 h0
set_option maxHeartbeats 4000000 in
set_option maxRecDepth 100000 in
theorem x_stand_6 (hn : Q 1 0 0 = nI n) (h6 : n ≤ 6) (h0 : ¬ Q 1 0 0 = 0) : zCT E 3 zm_X6_stand [.ref (zad E 145), .int (nI 6)] (Q, Z) (some (.int (encO (nextC (Q 1) n)))) (Q, Z) := by
  refine zCT.of (by decide +kernel) (Nat.le_of_ble_eq_true rfl) ?_
  refine zi_aload0 (n := 1) dX6_stand_0 rfl ?_
  refine zg_X6_2 (n := 4) dX6_stand_1 rfl zl_X6_26 ?_
  refine zgN_X4_0 (n := 7) dX6_stand_4 rfl zl_X6_131 (by omega) rfl ?_
  refine zi_ifne (n := 10) (tgt := 13) dX6_stand_7 rfl (by decide) (fun h7 => ?_) (fun h7 => ?_)
  · refine zi_iload1 (n := 14) dX6_stand_13 rfl ?_
    refine zi_tableIn (tgt := 104) dX6_stand_14 (by decide) (by decide) rfl (by decide) ?_
    refine zi_aload0 (n := 105) dX6_stand_104 rfl ?_
    refine zg_X6_2 (n := 108) dX6_stand_105 rfl zl_X6_26 ?_
    refine zi_V0s (mj := zm_X4_nextBitten) (n := 111) dX6_stand_108 rfl zl_X6_191 zy_X4_nextBitten (zrc_sq _ _ (by omega)) (by decide) (Nat.le_of_ble_eq_true rfl) (zrr (j := 1) (c_X4_nextBitten (S := Q 1) (j := 1) (by decide) hn h6)) ?_
    exact zi_iret dX6_stand_111 rfl (by rfl) (by rfl)
  · first | exact absurd h0 h7 | exact absurd h7 h0
end ZN7
