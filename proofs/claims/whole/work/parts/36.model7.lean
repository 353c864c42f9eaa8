section ZM7
variable {E : zE} {Q : Nat → Nat → Nat → Int32} {Z : zS} {M M1 : zMem} {n p d : Nat} {f : zF}
def zstp (f : zF) (p : Nat) (x : Int32) : Bool × zF := if nI 0 ≤ f (6 + 5 * p + 1) + x ∧ f (6 + 5 * p + 1) + x ≤ nI 9 then (true, upd f (6 + 5 * p + 1) (f (6 + 5 * p + 1) + x)) else (false, f)
theorem zKd.stp {f : zF} {x : Int32} (h : zKd f n) : zKd (zstp f p x).2 n := by
  unfold zstp
  split
  · exact h.at (by decide) (by decide)
  · exact h
def zaS (g : zF) (n : Nat) (a b c d : Int32) (f : zF) : Bool × zF :=
  let s1 := zstp (zly g f) 0 a
  let s2 := zstp s1.2 (n - 1) b
  let s3 := zstp s2.2 0 c
  let s4 := zstp s3.2 (n - 1) d
  (((s1.1 && s2.1) && s3.1) && s4.1, s4.2)
def zaT (g : zF) (n m : Nat) (a b c d : Int32) (f : zF) : Int32 × zF :=
  if (zaS g n a b c d f).1 then (noonsM (zaS g n a b c d f).2 n m (6 + 5 * 0 + 3) - noonsM (zaS g n a b c d f).2 n m (6 + 5 * (n - 1) + 3), noonsM (zaS g n a b c d f).2 n m) else (-1000000, (zaS g n a b c d f).2)
theorem zaS_kd {g f : zF} {a b c d : Int32} (h : zKd g n) : zKd (zaS g n a b c d f).2 n := h.lay.stp.stp.stp.stp
set_option maxHeartbeats 4000000 in
set_option maxRecDepth 100000 in
theorem c_X7_step (hp : p < 6) {x : Int32} : zCT E 1 zm_X7_step [.ref (zad E 165), .int (nI p), .int x] (Q, va_up Z 171 f) (some (.int (zb ((zstp f p x).1 = true)))) (Q, va_up Z 171 (zstp f p x).2) := by
  refine zCT.of (by decide +kernel) (Nat.le_of_ble_eq_true rfl) ?_
  refine zi_aload0 (n := 1) dX7_step_0 rfl ?_
  refine zg_X7_7 (n := 4) dX7_step_1 rfl zl_X7_25 ?_
  refine zi_iload1 (n := 5) dX7_step_4 rfl ?_
  refine zi_iconst (n := 6) (nI 1) dX7_step_5 rfl (by decide) ?_
  refine zi_S3s (mj := zm_X7_of) (n := 9) dX7_step_6 rfl zl_X7_146 zy_X7_of (by decide) (Nat.le_of_ble_eq_true rfl) (c_X7_of (Or.inr rfl) (by omega) (by decide)) ?_
  refine zi_iload2 (n := 10) dX7_step_9 rfl ?_
  refine zi_iadd (n := 11) dX7_step_10 rfl ?_
  refine zi_istore3 (n := 12) dX7_step_11 rfl (by decide) rfl ?_
  refine zi_iload3 (n := 13) dX7_step_12 rfl ?_
  refine zi_i2l (n := 14) dX7_step_13 rfl ?_
  refine zi_lconst (n := 15) ((nI 0).toInt64) dX7_step_14 rfl (by decide) ?_
  refine zi_ldc2 (n := 18) dX7_step_15 rfl zl_X7_183 ?_
  rw [show (9 : Int64) = (nI 9).toInt64 by decide]
  refine zi_S3s (mj := zm_X7_in) (n := 21) dX7_step_18 rfl zl_X7_54 zy_X7_in (by decide) (Nat.le_of_ble_eq_true rfl) (c_X7_in) ?_
  refine zi_ifne_b (n := 24) (tgt := 26) dX7_step_21 rfl (by decide) (fun h21 => ?_) (fun h21 => ?_)
  · rw [show zstp f p x = _ from if_pos h21]
    refine zi_aload0 (n := 27) dX7_step_26 rfl ?_
    refine zg_X7_7 (n := 30) dX7_step_27 rfl zl_X7_25 ?_
    refine zi_iload1 (n := 31) dX7_step_30 rfl ?_
    refine zi_iconst (n := 32) (nI 1) dX7_step_31 rfl (by decide) ?_
    refine zi_iload3 (n := 33) dX7_step_32 rfl ?_
    refine zi_S4v (mj := zm_X7_be) (n := 36) dX7_step_33 rfl zl_X7_154 zy_X7_be (by decide) (Nat.le_of_ble_eq_true rfl) (c_X7_be (Or.inr rfl) (by omega) (by decide)) ?_
    refine zi_iconst (n := 37) (nI 1) dX7_step_36 rfl (by decide) ?_
    exact zi_zretT dX7_step_37 rfl (by rfl) rfl (by rfl)
  · rw [show zstp f p x = _ from if_neg h21]
    refine zi_iconst (n := 25) (nI 0) dX7_step_24 rfl (by decide) ?_
    exact zi_zretF dX7_step_25 rfl (by exact Bool.false_ne_true) rfl (by rfl)
set_option maxHeartbeats 4000000 in
set_option maxRecDepth 100000 in
theorem c_X7_afterTurns (hk : zKd (Z 169) n) (h1 : 0 < n) {m : Nat} (hm : m < 2 ^ 30) {a b c d : Int32} : zCT E 5 zm_X7_afterTurns [.ref (zad E 165), .int a, .int b, .int c, .int d, .int (nI m)] (Q, va_up Z 171 f) (some (.int (zaT (Z 169) n m a b c d f).1)) (Q, va_up Z 171 (zaT (Z 169) n m a b c d f).2) := by
  refine zCT.of (by decide +kernel) (Nat.le_of_ble_eq_true rfl) ?_
  have hn := hk.1
  have h6 := hk.2.1
  refine zi_aload0 (n := 1) dX7_afterTurns_0 rfl ?_
  refine zg_X7_5 (n := 4) dX7_afterTurns_1 rfl zl_X7_19 ?_
  refine zi_iconst (n := 5) (nI 0) dX7_afterTurns_4 rfl (by decide) ?_
  refine zi_oald (N := 36) (i := 0) (n := 6) dX7_afterTurns_5 rfl (by decide) (fun _ => rfl) (by decide) rfl (by decide) ((zfn _ _ _ _ (by decide) _).trans hn) ?_
  refine zi_iconst (n := 7) (nI 1) dX7_afterTurns_6 rfl (by decide) ?_
  refine zi_isub (n := 8) dX7_afterTurns_7 rfl ?_
  rw [pk_sub (by omega)]
  refine zi_istore6 (n := 10) dX7_afterTurns_8 rfl (by decide) rfl ?_
  refine zi_aload0 (n := 11) dX7_afterTurns_10 rfl ?_
  refine zi_V0v (mj := zm_X7_layThen) (n := 14) dX7_afterTurns_11 rfl zl_X7_193 zy_X7_layThen (zrc_X7 _ _) (by decide) (Nat.le_of_ble_eq_true rfl) c_lay ?_
  refine zi_aload0 (n := 15) dX7_afterTurns_14 rfl ?_
  refine zi_iconst (n := 16) (nI 0) dX7_afterTurns_15 rfl (by decide) ?_
  refine zi_iload1 (n := 17) dX7_afterTurns_16 rfl ?_
  refine zi_V2s (mj := zm_X7_step) (n := 20) dX7_afterTurns_17 rfl zl_X7_216 zy_X7_step (zrc_X7 _ _) (by decide) (Nat.le_of_ble_eq_true rfl) (c_X7_step (by omega)) ?_
  refine zi_istore7 (n := 22) dX7_afterTurns_20 rfl (by decide) rfl ?_
  refine zi_aload0 (n := 23) dX7_afterTurns_22 rfl ?_
  refine zi_iload6 (n := 25) dX7_afterTurns_23 rfl ?_
  refine zi_iload2 (n := 26) dX7_afterTurns_25 rfl ?_
  refine zi_V2s (mj := zm_X7_step) (n := 29) dX7_afterTurns_26 rfl zl_X7_216 zy_X7_step (zrc_X7 _ _) (by decide) (Nat.le_of_ble_eq_true rfl) (c_X7_step (by omega)) ?_
  refine zi_ifeq_b (n := 32) (tgt := 41) dX7_afterTurns_29 rfl (by decide) (fun h29 => ?_) (fun h29 => ?_)
  · refine zi_iconst (n := 42) (nI 0) dX7_afterTurns_41 rfl (by decide) ?_
    refine zi_istore7 (n := 44) dX7_afterTurns_42 rfl (by decide) rfl ?_
    refine zi_aload0 (n := 45) dX7_afterTurns_44 rfl ?_
    refine zi_iconst (n := 46) (nI 0) dX7_afterTurns_45 rfl (by decide) ?_
    refine zi_iload3 (n := 47) dX7_afterTurns_46 rfl ?_
    refine zi_V2s (mj := zm_X7_step) (n := 50) dX7_afterTurns_47 rfl zl_X7_216 zy_X7_step (zrc_X7 _ _) (by decide) (Nat.le_of_ble_eq_true rfl) (c_X7_step (by omega)) ?_
    refine zi_ifeq_b (n := 53) (tgt := 62) dX7_afterTurns_50 rfl (by decide) (fun h50 => ?_) (fun h50 => ?_)
    · refine zi_iconst (n := 63) (nI 0) dX7_afterTurns_62 rfl (by decide) ?_
      refine zi_istore7 (n := 65) dX7_afterTurns_63 rfl (by decide) rfl ?_
      refine zi_aload0 (n := 66) dX7_afterTurns_65 rfl ?_
      refine zi_iload6 (n := 68) dX7_afterTurns_66 rfl ?_
      refine zi_iload4 (n := 70) dX7_afterTurns_68 rfl ?_
      refine zi_V2s (mj := zm_X7_step) (n := 73) dX7_afterTurns_70 rfl zl_X7_216 zy_X7_step (zrc_X7 _ _) (by decide) (Nat.le_of_ble_eq_true rfl) (c_X7_step (by omega)) ?_
      refine zi_ifeq_b (n := 76) (tgt := 85) dX7_afterTurns_73 rfl (by decide) (fun h73 => ?_) (fun h73 => ?_)
      · refine zi_iconst (n := 86) (nI 0) dX7_afterTurns_85 rfl (by decide) ?_
        refine zi_istore7 (n := 88) dX7_afterTurns_86 rfl (by decide) rfl ?_
        refine zi_iload7 (n := 90) dX7_afterTurns_88 rfl ?_
        refine zi_ifne (n := 93) (tgt := 96) dX7_afterTurns_90 rfl (by decide) (fun h90 => ?_) (fun h90 => ?_)
        · first | exact absurd h90 (by decide) | exact absurd rfl h90
        · have ev : (zaS (Z 169) n a b c d f).1 = false := by simp [zaS, h29, h50, h73, h90]
          have ez : zaT (Z 169) n m a b c d f = (-1000000, (zaS (Z 169) n a b c d f).2) := by unfold zaT; rw [ev]; rfl
          rw [ez]
          refine zi_ldc (n := 95) dX7_afterTurns_93 rfl zl_X7_87 ?_
          exact zi_iret dX7_afterTurns_95 rfl (by rfl) (by rfl)
      · refine zi_iload7 (n := 78) dX7_afterTurns_76 rfl ?_
        refine zi_ifeq (n := 81) (tgt := 85) dX7_afterTurns_78 rfl (by decide) (fun h78 => ?_) (fun h78 => ?_)
        · refine zi_iconst (n := 86) (nI 0) dX7_afterTurns_85 rfl (by decide) ?_
          refine zi_istore7 (n := 88) dX7_afterTurns_86 rfl (by decide) rfl ?_
          refine zi_iload7 (n := 90) dX7_afterTurns_88 rfl ?_
          refine zi_ifne (n := 93) (tgt := 96) dX7_afterTurns_90 rfl (by decide) (fun h90 => ?_) (fun h90 => ?_)
          · first | exact absurd h90 (by decide) | exact absurd rfl h90
          · have ev : (zaS (Z 169) n a b c d f).1 = false := by simp [zaS, h29, h50, h73, h78, h90]
            have ez : zaT (Z 169) n m a b c d f = (-1000000, (zaS (Z 169) n a b c d f).2) := by unfold zaT; rw [ev]; rfl
            rw [ez]
            refine zi_ldc (n := 95) dX7_afterTurns_93 rfl zl_X7_87 ?_
            exact zi_iret dX7_afterTurns_95 rfl (by rfl) (by rfl)
        · first | exact absurd h78 (by decide) | exact absurd rfl h78
    · refine zi_iload7 (n := 55) dX7_afterTurns_53 rfl ?_
      refine zi_ifeq (n := 58) (tgt := 62) dX7_afterTurns_55 rfl (by decide) (fun h55 => ?_) (fun h55 => ?_)
      · refine zi_iconst (n := 63) (nI 0) dX7_afterTurns_62 rfl (by decide) ?_
        refine zi_istore7 (n := 65) dX7_afterTurns_63 rfl (by decide) rfl ?_
        refine zi_aload0 (n := 66) dX7_afterTurns_65 rfl ?_
        refine zi_iload6 (n := 68) dX7_afterTurns_66 rfl ?_
        refine zi_iload4 (n := 70) dX7_afterTurns_68 rfl ?_
        refine zi_V2s (mj := zm_X7_step) (n := 73) dX7_afterTurns_70 rfl zl_X7_216 zy_X7_step (zrc_X7 _ _) (by decide) (Nat.le_of_ble_eq_true rfl) (c_X7_step (by omega)) ?_
        refine zi_ifeq_b (n := 76) (tgt := 85) dX7_afterTurns_73 rfl (by decide) (fun h73 => ?_) (fun h73 => ?_)
        · refine zi_iconst (n := 86) (nI 0) dX7_afterTurns_85 rfl (by decide) ?_
          refine zi_istore7 (n := 88) dX7_afterTurns_86 rfl (by decide) rfl ?_
          refine zi_iload7 (n := 90) dX7_afterTurns_88 rfl ?_
          refine zi_ifne (n := 93) (tgt := 96) dX7_afterTurns_90 rfl (by decide) (fun h90 => ?_) (fun h90 => ?_)
          · first | exact absurd h90 (by decide) | exact absurd rfl h90
          · have ev : (zaS (Z 169) n a b c d f).1 = false := by simp [zaS, h29, h50, h55, h73, h90]
            have ez : zaT (Z 169) n m a b c d f = (-1000000, (zaS (Z 169) n a b c d f).2) := by unfold zaT; rw [ev]; rfl
            rw [ez]
            refine zi_ldc (n := 95) dX7_afterTurns_93 rfl zl_X7_87 ?_
            exact zi_iret dX7_afterTurns_95 rfl (by rfl) (by rfl)
        · refine zi_iload7 (n := 78) dX7_afterTurns_76 rfl ?_
          refine zi_ifeq (n := 81) (tgt := 85) dX7_afterTurns_78 rfl (by decide) (fun h78 => ?_) (fun h78 => ?_)
          · refine zi_iconst (n := 86) (nI 0) dX7_afterTurns_85 rfl (by decide) ?_
            refine zi_istore7 (n := 88) dX7_afterTurns_86 rfl (by decide) rfl ?_
            refine zi_iload7 (n := 90) dX7_afterTurns_88 rfl ?_
            refine zi_ifne (n := 93) (tgt := 96) dX7_afterTurns_90 rfl (by decide) (fun h90 => ?_) (fun h90 => ?_)
            · first | exact absurd h90 (by decide) | exact absurd rfl h90
            · have ev : (zaS (Z 169) n a b c d f).1 = false := by simp [zaS, h29, h50, h55, h73, h78, h90]
              have ez : zaT (Z 169) n m a b c d f = (-1000000, (zaS (Z 169) n a b c d f).2) := by unfold zaT; rw [ev]; rfl
              rw [ez]
              refine zi_ldc (n := 95) dX7_afterTurns_93 rfl zl_X7_87 ?_
              exact zi_iret dX7_afterTurns_95 rfl (by rfl) (by rfl)
          · first | exact absurd h78 (by decide) | exact absurd rfl h78
      · first | exact absurd h55 (by decide) | exact absurd rfl h55
  · refine zi_iload7 (n := 34) dX7_afterTurns_32 rfl ?_
    refine zi_ifeq_b (n := 37) (tgt := 41) dX7_afterTurns_34 rfl (by decide) (fun h34 => ?_) (fun h34 => ?_)
    · refine zi_iconst (n := 42) (nI 0) dX7_afterTurns_41 rfl (by decide) ?_
      refine zi_istore7 (n := 44) dX7_afterTurns_42 rfl (by decide) rfl ?_
      refine zi_aload0 (n := 45) dX7_afterTurns_44 rfl ?_
      refine zi_iconst (n := 46) (nI 0) dX7_afterTurns_45 rfl (by decide) ?_
      refine zi_iload3 (n := 47) dX7_afterTurns_46 rfl ?_
      refine zi_V2s (mj := zm_X7_step) (n := 50) dX7_afterTurns_47 rfl zl_X7_216 zy_X7_step (zrc_X7 _ _) (by decide) (Nat.le_of_ble_eq_true rfl) (c_X7_step (by omega)) ?_
      refine zi_ifeq_b (n := 53) (tgt := 62) dX7_afterTurns_50 rfl (by decide) (fun h50 => ?_) (fun h50 => ?_)
      · refine zi_iconst (n := 63) (nI 0) dX7_afterTurns_62 rfl (by decide) ?_
        refine zi_istore7 (n := 65) dX7_afterTurns_63 rfl (by decide) rfl ?_
        refine zi_aload0 (n := 66) dX7_afterTurns_65 rfl ?_
        refine zi_iload6 (n := 68) dX7_afterTurns_66 rfl ?_
        refine zi_iload4 (n := 70) dX7_afterTurns_68 rfl ?_
        refine zi_V2s (mj := zm_X7_step) (n := 73) dX7_afterTurns_70 rfl zl_X7_216 zy_X7_step (zrc_X7 _ _) (by decide) (Nat.le_of_ble_eq_true rfl) (c_X7_step (by omega)) ?_
        refine zi_ifeq_b (n := 76) (tgt := 85) dX7_afterTurns_73 rfl (by decide) (fun h73 => ?_) (fun h73 => ?_)
        · refine zi_iconst (n := 86) (nI 0) dX7_afterTurns_85 rfl (by decide) ?_
          refine zi_istore7 (n := 88) dX7_afterTurns_86 rfl (by decide) rfl ?_
          refine zi_iload7 (n := 90) dX7_afterTurns_88 rfl ?_
          refine zi_ifne (n := 93) (tgt := 96) dX7_afterTurns_90 rfl (by decide) (fun h90 => ?_) (fun h90 => ?_)
          · first | exact absurd h90 (by decide) | exact absurd rfl h90
          · have ev : (zaS (Z 169) n a b c d f).1 = false := by simp [zaS, h29, h34, h50, h73, h90]
            have ez : zaT (Z 169) n m a b c d f = (-1000000, (zaS (Z 169) n a b c d f).2) := by unfold zaT; rw [ev]; rfl
            rw [ez]
            refine zi_ldc (n := 95) dX7_afterTurns_93 rfl zl_X7_87 ?_
            exact zi_iret dX7_afterTurns_95 rfl (by rfl) (by rfl)
        · refine zi_iload7 (n := 78) dX7_afterTurns_76 rfl ?_
          refine zi_ifeq (n := 81) (tgt := 85) dX7_afterTurns_78 rfl (by decide) (fun h78 => ?_) (fun h78 => ?_)
          · refine zi_iconst (n := 86) (nI 0) dX7_afterTurns_85 rfl (by decide) ?_
            refine zi_istore7 (n := 88) dX7_afterTurns_86 rfl (by decide) rfl ?_
            refine zi_iload7 (n := 90) dX7_afterTurns_88 rfl ?_
            refine zi_ifne (n := 93) (tgt := 96) dX7_afterTurns_90 rfl (by decide) (fun h90 => ?_) (fun h90 => ?_)
            · first | exact absurd h90 (by decide) | exact absurd rfl h90
            · have ev : (zaS (Z 169) n a b c d f).1 = false := by simp [zaS, h29, h34, h50, h73, h78, h90]
              have ez : zaT (Z 169) n m a b c d f = (-1000000, (zaS (Z 169) n a b c d f).2) := by unfold zaT; rw [ev]; rfl
              rw [ez]
              refine zi_ldc (n := 95) dX7_afterTurns_93 rfl zl_X7_87 ?_
              exact zi_iret dX7_afterTurns_95 rfl (by rfl) (by rfl)
          · first | exact absurd h78 (by decide) | exact absurd rfl h78
      · refine zi_iload7 (n := 55) dX7_afterTurns_53 rfl ?_
        refine zi_ifeq (n := 58) (tgt := 62) dX7_afterTurns_55 rfl (by decide) (fun h55 => ?_) (fun h55 => ?_)
        · refine zi_iconst (n := 63) (nI 0) dX7_afterTurns_62 rfl (by decide) ?_
          refine zi_istore7 (n := 65) dX7_afterTurns_63 rfl (by decide) rfl ?_
          refine zi_aload0 (n := 66) dX7_afterTurns_65 rfl ?_
          refine zi_iload6 (n := 68) dX7_afterTurns_66 rfl ?_
          refine zi_iload4 (n := 70) dX7_afterTurns_68 rfl ?_
          refine zi_V2s (mj := zm_X7_step) (n := 73) dX7_afterTurns_70 rfl zl_X7_216 zy_X7_step (zrc_X7 _ _) (by decide) (Nat.le_of_ble_eq_true rfl) (c_X7_step (by omega)) ?_
          refine zi_ifeq_b (n := 76) (tgt := 85) dX7_afterTurns_73 rfl (by decide) (fun h73 => ?_) (fun h73 => ?_)
          · refine zi_iconst (n := 86) (nI 0) dX7_afterTurns_85 rfl (by decide) ?_
            refine zi_istore7 (n := 88) dX7_afterTurns_86 rfl (by decide) rfl ?_
            refine zi_iload7 (n := 90) dX7_afterTurns_88 rfl ?_
            refine zi_ifne (n := 93) (tgt := 96) dX7_afterTurns_90 rfl (by decide) (fun h90 => ?_) (fun h90 => ?_)
            · first | exact absurd h90 (by decide) | exact absurd rfl h90
            · have ev : (zaS (Z 169) n a b c d f).1 = false := by simp [zaS, h29, h34, h50, h55, h73, h90]
              have ez : zaT (Z 169) n m a b c d f = (-1000000, (zaS (Z 169) n a b c d f).2) := by unfold zaT; rw [ev]; rfl
              rw [ez]
              refine zi_ldc (n := 95) dX7_afterTurns_93 rfl zl_X7_87 ?_
              exact zi_iret dX7_afterTurns_95 rfl (by rfl) (by rfl)
          · refine zi_iload7 (n := 78) dX7_afterTurns_76 rfl ?_
            refine zi_ifeq (n := 81) (tgt := 85) dX7_afterTurns_78 rfl (by decide) (fun h78 => ?_) (fun h78 => ?_)
            · refine zi_iconst (n := 86) (nI 0) dX7_afterTurns_85 rfl (by decide) ?_
              refine zi_istore7 (n := 88) dX7_afterTurns_86 rfl (by decide) rfl ?_
              refine zi_iload7 (n := 90) dX7_afterTurns_88 rfl ?_
              refine zi_ifne (n := 93) (tgt := 96) dX7_afterTurns_90 rfl (by decide) (fun h90 => ?_) (fun h90 => ?_)
              · first | exact absurd h90 (by decide) | exact absurd rfl h90
              · have ev : (zaS (Z 169) n a b c d f).1 = false := by simp [zaS, h29, h34, h50, h55, h73, h78, h90]
                have ez : zaT (Z 169) n m a b c d f = (-1000000, (zaS (Z 169) n a b c d f).2) := by unfold zaT; rw [ev]; rfl
                rw [ez]
                refine zi_ldc (n := 95) dX7_afterTurns_93 rfl zl_X7_87 ?_
                exact zi_iret dX7_afterTurns_95 rfl (by rfl) (by rfl)
            · first | exact absurd h78 (by decide) | exact absurd rfl h78
        · first | exact absurd h55 (by decide) | exact absurd rfl h55
    · refine zi_iconst (n := 38) (nI 1) dX7_afterTurns_37 rfl (by decide) ?_
      refine zi_goto (tgt := 42) dX7_afterTurns_38 (by decide) ?_
      refine zi_istore7 (n := 44) dX7_afterTurns_42 rfl (by decide) rfl ?_
      refine zi_aload0 (n := 45) dX7_afterTurns_44 rfl ?_
      refine zi_iconst (n := 46) (nI 0) dX7_afterTurns_45 rfl (by decide) ?_
      refine zi_iload3 (n := 47) dX7_afterTurns_46 rfl ?_
      refine zi_V2s (mj := zm_X7_step) (n := 50) dX7_afterTurns_47 rfl zl_X7_216 zy_X7_step (zrc_X7 _ _) (by decide) (Nat.le_of_ble_eq_true rfl) (c_X7_step (by omega)) ?_
      refine zi_ifeq_b (n := 53) (tgt := 62) dX7_afterTurns_50 rfl (by decide) (fun h50 => ?_) (fun h50 => ?_)
      · refine zi_iconst (n := 63) (nI 0) dX7_afterTurns_62 rfl (by decide) ?_
        refine zi_istore7 (n := 65) dX7_afterTurns_63 rfl (by decide) rfl ?_
        refine zi_aload0 (n := 66) dX7_afterTurns_65 rfl ?_
        refine zi_iload6 (n := 68) dX7_afterTurns_66 rfl ?_
        refine zi_iload4 (n := 70) dX7_afterTurns_68 rfl ?_
        refine zi_V2s (mj := zm_X7_step) (n := 73) dX7_afterTurns_70 rfl zl_X7_216 zy_X7_step (zrc_X7 _ _) (by decide) (Nat.le_of_ble_eq_true rfl) (c_X7_step (by omega)) ?_
        refine zi_ifeq_b (n := 76) (tgt := 85) dX7_afterTurns_73 rfl (by decide) (fun h73 => ?_) (fun h73 => ?_)
        · refine zi_iconst (n := 86) (nI 0) dX7_afterTurns_85 rfl (by decide) ?_
          refine zi_istore7 (n := 88) dX7_afterTurns_86 rfl (by decide) rfl ?_
          refine zi_iload7 (n := 90) dX7_afterTurns_88 rfl ?_
          refine zi_ifne (n := 93) (tgt := 96) dX7_afterTurns_90 rfl (by decide) (fun h90 => ?_) (fun h90 => ?_)
          · first | exact absurd h90 (by decide) | exact absurd rfl h90
          · have ev : (zaS (Z 169) n a b c d f).1 = false := by simp [zaS, h29, h34, h50, h73, h90]
            have ez : zaT (Z 169) n m a b c d f = (-1000000, (zaS (Z 169) n a b c d f).2) := by unfold zaT; rw [ev]; rfl
            rw [ez]
            refine zi_ldc (n := 95) dX7_afterTurns_93 rfl zl_X7_87 ?_
            exact zi_iret dX7_afterTurns_95 rfl (by rfl) (by rfl)
        · refine zi_iload7 (n := 78) dX7_afterTurns_76 rfl ?_
          refine zi_ifeq (n := 81) (tgt := 85) dX7_afterTurns_78 rfl (by decide) (fun h78 => ?_) (fun h78 => ?_)
          · refine zi_iconst (n := 86) (nI 0) dX7_afterTurns_85 rfl (by decide) ?_
            refine zi_istore7 (n := 88) dX7_afterTurns_86 rfl (by decide) rfl ?_
            refine zi_iload7 (n := 90) dX7_afterTurns_88 rfl ?_
            refine zi_ifne (n := 93) (tgt := 96) dX7_afterTurns_90 rfl (by decide) (fun h90 => ?_) (fun h90 => ?_)
            · first | exact absurd h90 (by decide) | exact absurd rfl h90
            · have ev : (zaS (Z 169) n a b c d f).1 = false := by simp [zaS, h29, h34, h50, h73, h78, h90]
              have ez : zaT (Z 169) n m a b c d f = (-1000000, (zaS (Z 169) n a b c d f).2) := by unfold zaT; rw [ev]; rfl
              rw [ez]
              refine zi_ldc (n := 95) dX7_afterTurns_93 rfl zl_X7_87 ?_
              exact zi_iret dX7_afterTurns_95 rfl (by rfl) (by rfl)
          · first | exact absurd h78 (by decide) | exact absurd rfl h78
      · refine zi_iload7 (n := 55) dX7_afterTurns_53 rfl ?_
        refine zi_ifeq (n := 58) (tgt := 62) dX7_afterTurns_55 rfl (by decide) (fun h55 => ?_) (fun h55 => ?_)
        · first | exact absurd h55 (by decide) | exact absurd rfl h55
        · refine zi_iconst (n := 59) (nI 1) dX7_afterTurns_58 rfl (by decide) ?_
          refine zi_goto (tgt := 63) dX7_afterTurns_59 (by decide) ?_
          refine zi_istore7 (n := 65) dX7_afterTurns_63 rfl (by decide) rfl ?_
          refine zi_aload0 (n := 66) dX7_afterTurns_65 rfl ?_
          refine zi_iload6 (n := 68) dX7_afterTurns_66 rfl ?_
          refine zi_iload4 (n := 70) dX7_afterTurns_68 rfl ?_
          refine zi_V2s (mj := zm_X7_step) (n := 73) dX7_afterTurns_70 rfl zl_X7_216 zy_X7_step (zrc_X7 _ _) (by decide) (Nat.le_of_ble_eq_true rfl) (c_X7_step (by omega)) ?_
          refine zi_ifeq_b (n := 76) (tgt := 85) dX7_afterTurns_73 rfl (by decide) (fun h73 => ?_) (fun h73 => ?_)
          · refine zi_iconst (n := 86) (nI 0) dX7_afterTurns_85 rfl (by decide) ?_
            refine zi_istore7 (n := 88) dX7_afterTurns_86 rfl (by decide) rfl ?_
            refine zi_iload7 (n := 90) dX7_afterTurns_88 rfl ?_
            refine zi_ifne (n := 93) (tgt := 96) dX7_afterTurns_90 rfl (by decide) (fun h90 => ?_) (fun h90 => ?_)
            · first | exact absurd h90 (by decide) | exact absurd rfl h90
            · have ev : (zaS (Z 169) n a b c d f).1 = false := by simp [zaS, h29, h34, h50, h55, h73, h90]
              have ez : zaT (Z 169) n m a b c d f = (-1000000, (zaS (Z 169) n a b c d f).2) := by unfold zaT; rw [ev]; rfl
              rw [ez]
              refine zi_ldc (n := 95) dX7_afterTurns_93 rfl zl_X7_87 ?_
              exact zi_iret dX7_afterTurns_95 rfl (by rfl) (by rfl)
          · refine zi_iload7 (n := 78) dX7_afterTurns_76 rfl ?_
            refine zi_ifeq (n := 81) (tgt := 85) dX7_afterTurns_78 rfl (by decide) (fun h78 => ?_) (fun h78 => ?_)
            · first | exact absurd h78 (by decide) | exact absurd rfl h78
            · refine zi_iconst (n := 82) (nI 1) dX7_afterTurns_81 rfl (by decide) ?_
              refine zi_goto (tgt := 86) dX7_afterTurns_82 (by decide) ?_
              refine zi_istore7 (n := 88) dX7_afterTurns_86 rfl (by decide) rfl ?_
              refine zi_iload7 (n := 90) dX7_afterTurns_88 rfl ?_
              refine zi_ifne (n := 93) (tgt := 96) dX7_afterTurns_90 rfl (by decide) (fun h90 => ?_) (fun h90 => ?_)
              · have ev : (zaS (Z 169) n a b c d f).1 = true := by simp [zaS, h29, h34, h50, h55, h73, h78, h90]
                have ez : zaT (Z 169) n m a b c d f = (noonsM (zaS (Z 169) n a b c d f).2 n m (6 + 5 * 0 + 3) - noonsM (zaS (Z 169) n a b c d f).2 n m (6 + 5 * (n - 1) + 3), noonsM (zaS (Z 169) n a b c d f).2 n m) := by unfold zaT; rw [ev]; rfl
                rw [ez]
                change zG _ _ _ _ _ _ _ _ (Q, va_up Z 171 (zaS (Z 169) n a b c d f).2)
                refine zi_aload0 (n := 97) dX7_afterTurns_96 rfl ?_
                refine zg_X7_7 (n := 100) dX7_afterTurns_97 rfl zl_X7_25 ?_
                refine zi_iload5 (n := 102) dX7_afterTurns_100 rfl ?_
                refine zi_S2v (mj := zm_X7_noonsOf) (n := 105) dX7_afterTurns_102 rfl zl_X7_196 zy_X7_noonsOf (by decide) (Nat.le_of_ble_eq_true rfl) (c_X7_noonsOf (Or.inr rfl) (zaS_kd (a := a) (b := b) (c := c) (d := d) (f := f) hk) hm) ?_
                refine zi_aload0 (n := 106) dX7_afterTurns_105 rfl ?_
                refine zg_X7_7 (n := 109) dX7_afterTurns_106 rfl zl_X7_25 ?_
                refine zi_iconst (n := 110) (nI 0) dX7_afterTurns_109 rfl (by decide) ?_
                refine zi_iconst (n := 111) (nI 3) dX7_afterTurns_110 rfl (by decide) ?_
                refine zi_S3s (mj := zm_X7_of) (n := 114) dX7_afterTurns_111 rfl zl_X7_146 zy_X7_of (by decide) (Nat.le_of_ble_eq_true rfl) (c_X7_of (Or.inr rfl) (by omega) (by decide)) ?_
                refine zi_aload0 (n := 115) dX7_afterTurns_114 rfl ?_
                refine zg_X7_7 (n := 118) dX7_afterTurns_115 rfl zl_X7_25 ?_
                refine zi_iload6 (n := 120) dX7_afterTurns_118 rfl ?_
                refine zi_iconst (n := 121) (nI 3) dX7_afterTurns_120 rfl (by decide) ?_
                refine zi_S3s (mj := zm_X7_of) (n := 124) dX7_afterTurns_121 rfl zl_X7_146 zy_X7_of (by decide) (Nat.le_of_ble_eq_true rfl) (c_X7_of (Or.inr rfl) (by omega) (by decide)) ?_
                refine zi_isub (n := 125) dX7_afterTurns_124 rfl ?_
                exact zi_iret dX7_afterTurns_125 rfl (by rfl) (by rfl)
              · first | exact absurd h90 (by decide) | exact absurd rfl h90
def zminN (x y : Int32) : Int32 := if ¬ y = -1000000 ∧ (x = -1000000 ∨ y < x) then y else x
def zmaxN (x y : Int32) : Int32 := if x < y then y else x
def zfoT (op : Int32 → Int32 → Int32) (v : Int32 → zF → Int32 × zF) : Nat → Int32 → Int32 × zF → Int32 × zF
  | 0, _, b => b
  | k + 1, x, b => zfoT op v k (x + Int32.ofInt 1) (op b.1 (v x b.2).1, (v x b.2).2)
def zrH (hi : Int32) (k : Nat) (x : Int32) : Prop := (hi = nI 0 ∧ ((k = 1 ∧ x = nI 0) ∨ (k = 0 ∧ x = nI 1))) ∨ (hi = nI 1 ∧ ((k = 3 ∧ x = -1) ∨ (k = 2 ∧ x = nI 0) ∨ (k = 1 ∧ x = nI 1) ∨ (k = 0 ∧ x = nI 2)))
theorem zrH_end {hi x : Int32} (h : zrH hi 0 x) : hi < x := by
  rcases h with ⟨rfl, ⟨h, _⟩ | ⟨_, rfl⟩⟩ | ⟨rfl, ⟨h, _⟩ | ⟨h, _⟩ | ⟨h, _⟩ | ⟨_, rfl⟩⟩
  · cases h
  · decide
  · cases h
  · cases h
  · cases h
  · decide
theorem zrH_go {hi x : Int32} {k : Nat} (h : zrH hi (k + 1) x) : ¬ hi < x ∧ zrH hi k (x + Int32.ofInt 1) := by
  rcases h with ⟨rfl, ⟨h, rfl⟩ | ⟨h, _⟩⟩ | ⟨rfl, ⟨h, rfl⟩ | ⟨h, rfl⟩ | ⟨h, rfl⟩ | ⟨h, _⟩⟩
  · obtain rfl : k = 0 := by omega
    exact ⟨by decide, Or.inl ⟨rfl, Or.inr ⟨rfl, by decide⟩⟩⟩
  · omega
  · obtain rfl : k = 2 := by omega
    exact ⟨by decide, Or.inr ⟨rfl, Or.inr (Or.inl ⟨rfl, by decide⟩)⟩⟩
  · obtain rfl : k = 1 := by omega
    exact ⟨by decide, Or.inr ⟨rfl, Or.inr (Or.inr (Or.inl ⟨rfl, by decide⟩))⟩⟩
  · obtain rfl : k = 0 := by omega
    exact ⟨by decide, Or.inr ⟨rfl, Or.inr (Or.inr (Or.inr ⟨rfl, by decide⟩))⟩⟩
  · omega
/-- how often, from where, at turn t of c -/
def zkx (c t : Nat) : Nat := if t < c then 3 else 1
def zkf (c t : Nat) : Int32 := if t < c then -1 else nI 0
def zkh (c t : Nat) : Int32 := if t < c then nI 1 else nI 0
theorem zkr (c t : Nat) : zrH (zkh c t) (zkx c t) (zkf c t) := by
  unfold zkh zkx zkf
  split
  · exact Or.inr ⟨rfl, Or.inl ⟨rfl, rfl⟩⟩
  · exact Or.inl ⟨rfl, Or.inl ⟨rfl, rfl⟩⟩
def zF4 (g : zF) (n m t : Nat) (a b c : Int32) (f : zF) : Int32 × zF := zfoT zminN (fun d f => zaT g n m a b c d f) (zkx t 3) (zkf t 3) (-1000000, f)
def zF3 (g : zF) (n m t : Nat) (a b : Int32) (f : zF) : Int32 × zF := zfoT zmaxN (fun c f => zF4 g n m t a b c f) (zkx t 2) (zkf t 2) (-1000000, f)
def zF2 (g : zF) (n m t : Nat) (a : Int32) (f : zF) : Int32 × zF := zfoT zminN (fun b f => zF3 g n m t a b f) (zkx t 1) (zkf t 1) (-1000000, f)
def zF1 (g : zF) (n m t : Nat) (f : zF) : Int32 × zF := zfoT zmaxN (fun a f => zF2 g n m t a f) (zkx t 0) (zkf t 0) (-1000000, f)
section
variable {rv : Option Value} {m t : Nat}
set_option maxHeartbeats 4000000 in
set_option maxRecDepth 100000 in
theorem m_turns_state (h0 : Z 165 0 = nI 0) {x y : Int32} (hz : Z 169 0 ≤ 0) : zCT E 6 zm_X7_byTurns [.ref (zad E 165), .int x, .int y] (Q, Z) (some (.int zSTATE)) (Q, Z) := by
  refine zCT.of (by decide +kernel) (Nat.le_of_ble_eq_true rfl) ?_
  refine zi_aload0 (n := 1) dX7_byTurns_0 rfl ?_
  refine zi_iconst (n := 2) (nI 0) dX7_byTurns_1 rfl (by decide) ?_
  refine zp_X7_0 (n := 5) dX7_byTurns_2 rfl zl_X7_44 (zt0 h0) ?_
  refine zi_aload0 (n := 6) dX7_byTurns_5 rfl ?_
  refine zi_V0s (mj := zm_X7_isThere) (n := 9) dX7_byTurns_6 rfl zl_X7_171 zy_X7_isThere (zrc_X7 _ _) (by decide) (Nat.le_of_ble_eq_true rfl) (c_X7_isThere) ?_
  refine zi_ifne_b (n := 12) (tgt := 15) dX7_byTurns_9 rfl (by decide) (fun h9 => ?_) (fun h9 => ?_)
  · first | exact absurd (fun q => q hz : ¬ ¬ Z 169 0 ≤ 0) h9 | exact absurd h9 (fun q => q hz : ¬ ¬ Z 169 0 ≤ 0)
  · refine zi_ldc (n := 14) dX7_byTurns_12 rfl zl_X7_174 ?_
    exact zi_iret dX7_byTurns_14 rfl (by rfl) (by rfl)
set_option maxHeartbeats 4000000 in
set_option maxRecDepth 100000 in
theorem m_turns_bad (h0 : Z 165 0 = nI 0) {x y : Int32} (hz : ¬ Z 169 0 ≤ 0) (hb : ¬ ((nI 0 ≤ x ∧ x ≤ nI 4) ∧ (nI 1 ≤ y ∧ y ≤ nI 20))) : zCT E 6 zm_X7_byTurns [.ref (zad E 165), .int x, .int y] (Q, Z) (some (.int zBAD)) (Q, Z) := by
  refine zCT.of (by decide +kernel) (Nat.le_of_ble_eq_true rfl) ?_
  refine zi_aload0 (n := 1) dX7_byTurns_0 rfl ?_
  refine zi_iconst (n := 2) (nI 0) dX7_byTurns_1 rfl (by decide) ?_
  refine zp_X7_0 (n := 5) dX7_byTurns_2 rfl zl_X7_44 (zt0 h0) ?_
  refine zi_aload0 (n := 6) dX7_byTurns_5 rfl ?_
  refine zi_V0s (mj := zm_X7_isThere) (n := 9) dX7_byTurns_6 rfl zl_X7_171 zy_X7_isThere (zrc_X7 _ _) (by decide) (Nat.le_of_ble_eq_true rfl) (c_X7_isThere) ?_
  refine zi_ifne_b (n := 12) (tgt := 15) dX7_byTurns_9 rfl (by decide) (fun h9 => ?_) (fun h9 => ?_)
  · refine zi_iload1 (n := 16) dX7_byTurns_15 rfl ?_
    refine zi_i2l (n := 17) dX7_byTurns_16 rfl ?_
    refine zi_lconst (n := 18) ((nI 0).toInt64) dX7_byTurns_17 rfl (by decide) ?_
    refine zi_ldc2 (n := 21) dX7_byTurns_18 rfl zl_X7_219 ?_
    rw [show (4 : Int64) = (nI 4).toInt64 by decide]
    refine zi_S3s (mj := zm_X7_in) (n := 24) dX7_byTurns_21 rfl zl_X7_54 zy_X7_in (by decide) (Nat.le_of_ble_eq_true rfl) (c_X7_in) ?_
    refine zi_ifeq_b (n := 27) (tgt := 39) dX7_byTurns_24 rfl (by decide) (fun h24 => ?_) (fun h24 => ?_)
    · refine zi_ldc (n := 41) dX7_byTurns_39 rfl zl_X7_64 ?_
      exact zi_iret dX7_byTurns_41 rfl (by rfl) (by rfl)
    · refine zi_iload2 (n := 28) dX7_byTurns_27 rfl ?_
      refine zi_i2l (n := 29) dX7_byTurns_28 rfl ?_
      refine zi_lconst (n := 30) ((nI 1).toInt64) dX7_byTurns_29 rfl (by decide) ?_
      refine zi_ldc2 (n := 33) dX7_byTurns_30 rfl zl_X7_221 ?_
      rw [show (20 : Int64) = (nI 20).toInt64 by decide]
      refine zi_S3s (mj := zm_X7_in) (n := 36) dX7_byTurns_33 rfl zl_X7_54 zy_X7_in (by decide) (Nat.le_of_ble_eq_true rfl) (c_X7_in) ?_
      refine zi_ifne_b (n := 39) (tgt := 42) dX7_byTurns_36 rfl (by decide) (fun h36 => ?_) (fun h36 => ?_)
      · exact absurd ⟨h24, h36⟩ hb
      · refine zi_ldc (n := 41) dX7_byTurns_39 rfl zl_X7_64 ?_
        exact zi_iret dX7_byTurns_41 rfl (by rfl) (by rfl)
  · first | exact absurd hz h9 | exact absurd h9 hz
set_option maxHeartbeats 4000000 in
set_option maxRecDepth 100000 in
theorem ld_X7 (hk : zKd (Z 169) n) (h1 : 0 < n) (hm : m < 2 ^ 30) (ht : t ≤ 4) {a b c o1 o2 o3 : Int32} {r : Int32 × zF} (fin : ∀ (x10 x11 : Option Value), zG E zm_X7_byTurns 6 rv M1 214 [some (.ref (zad E 165)), some (.int (nI t)), some (.int (nI m)), some (.int o1), some (.int a), some (.int o2), some (.int b), some (.int o3), some (.int c), some (.int r.1), x10, x11] [] (Q, va_up Z 171 r.2)) : ∀ k (x w : Int32) (f : zF) (x11 : Option Value), zrH (zkh t 3) k x → zfoT zminN (fun d f => zaT (Z 169) n m a b c d f) k x (w, f) = r → zG E zm_X7_byTurns 6 rv M1 148 [some (.ref (zad E 165)), some (.int (nI t)), some (.int (nI m)), some (.int o1), some (.int a), some (.int o2), some (.int b), some (.int o3), some (.int c), some (.int w), some (.int x), x11] [] (Q, va_up Z 171 f) := by
  intro k
  induction k with
  | zero =>
    intro x w f x11 hz hr
    refine zi_iload10 (n := 150) dX7_byTurns_148 rfl ?_
    refine zi_iload1 (n := 151) dX7_byTurns_150 rfl ?_
    refine zi_iconst (n := 152) (nI 3) dX7_byTurns_151 rfl (by decide) ?_
    refine zi_icle (n := 155) (tgt := 159) dX7_byTurns_152 rfl (by decide) (fun h152 => ?_) (fun h152 => ?_)
    · have q152 : ¬ 3 < t := by have := (nI_leI (b := 3) (by omega) (by omega)).mp h152; omega
      have hhd : zkh t 3 = nI 0 := if_neg q152
      have hfd : zkf t 3 = nI 0 := if_neg q152
      refine zi_iconst (n := 160) (nI 0) dX7_byTurns_159 rfl (by decide) ?_
      refine zi_icgt (n := 163) (tgt := 214) dX7_byTurns_160 rfl (by decide) (fun h160 => ?_) (fun h160 => ?_)
      · rw [← hhd] at h160
        subst hr
        exact fin _ _
      · rw [← hhd] at h160
        exact absurd (zrH_end hz) h160
    · have q152 : 3 < t := by have := mt (nI_leI (b := 3) (by omega) (by omega)).mpr h152; omega
      have hhd : zkh t 3 = nI 1 := if_pos q152
      have hfd : zkf t 3 = -1 := if_pos q152
      refine zi_iconst (n := 156) (nI 1) dX7_byTurns_155 rfl (by decide) ?_
      refine zi_goto (tgt := 160) dX7_byTurns_156 (by decide) ?_
      refine zi_icgt (n := 163) (tgt := 214) dX7_byTurns_160 rfl (by decide) (fun h160 => ?_) (fun h160 => ?_)
      · rw [← hhd] at h160
        subst hr
        exact fin _ _
      · rw [← hhd] at h160
        exact absurd (zrH_end hz) h160
  | succ k ih =>
    intro x w f x11 hz hr
    refine zi_iload10 (n := 150) dX7_byTurns_148 rfl ?_
    refine zi_iload1 (n := 151) dX7_byTurns_150 rfl ?_
    refine zi_iconst (n := 152) (nI 3) dX7_byTurns_151 rfl (by decide) ?_
    refine zi_icle (n := 155) (tgt := 159) dX7_byTurns_152 rfl (by decide) (fun h152 => ?_) (fun h152 => ?_)
    · have q152 : ¬ 3 < t := by have := (nI_leI (b := 3) (by omega) (by omega)).mp h152; omega
      have hhd : zkh t 3 = nI 0 := if_neg q152
      have hfd : zkf t 3 = nI 0 := if_neg q152
      refine zi_iconst (n := 160) (nI 0) dX7_byTurns_159 rfl (by decide) ?_
      refine zi_icgt (n := 163) (tgt := 214) dX7_byTurns_160 rfl (by decide) (fun h160 => ?_) (fun h160 => ?_)
      · rw [← hhd] at h160
        exact absurd h160 (zrH_go hz).1
      · refine zi_aload0 (n := 164) dX7_byTurns_163 rfl ?_
        refine zi_iload4 (n := 166) dX7_byTurns_164 rfl ?_
        refine zi_iload6 (n := 168) dX7_byTurns_166 rfl ?_
        refine zi_iload8 (n := 170) dX7_byTurns_168 rfl ?_
        refine zi_iload10 (n := 172) dX7_byTurns_170 rfl ?_
        refine zi_iload2 (n := 173) dX7_byTurns_172 rfl ?_
        refine zi_V5s (mj := zm_X7_afterTurns) (n := 176) dX7_byTurns_173 rfl zl_X7_223 zy_X7_afterTurns (zrc_X7 _ _) (by decide) (Nat.le_of_ble_eq_true rfl) (c_X7_afterTurns hk h1 hm) ?_
        refine zi_istore11 (n := 178) dX7_byTurns_176 rfl (by decide) rfl ?_
        refine zi_iload11 (n := 180) dX7_byTurns_178 rfl ?_
        refine zi_ldc (n := 182) dX7_byTurns_180 rfl zl_X7_87 ?_
        refine zi_iceq (n := 185) (tgt := 204) dX7_byTurns_182 rfl (by decide) (fun h182 => ?_) (fun h182 => ?_)
        · have em : zminN w (zaT (Z 169) n m a b c x f).1 = w := if_neg (fun z => z.1 h182)
          refine zi_iload9 (n := 206) dX7_byTurns_204 rfl ?_
          refine zi_istore9 (n := 208) dX7_byTurns_206 rfl (by decide) rfl ?_
          refine zi_iinc10 (n := 211) _ dX7_byTurns_208 rfl (by decide) rfl rfl ?_
          refine zi_goto (tgt := 148) dX7_byTurns_211 (by decide) ?_
          exact ih _ _ _ _ (zrH_go hz).2 (by rw [← hr, zfoT, em])
        · refine zi_iload9 (n := 187) dX7_byTurns_185 rfl ?_
          refine zi_ldc (n := 189) dX7_byTurns_187 rfl zl_X7_87 ?_
          refine zi_iceq (n := 192) (tgt := 199) dX7_byTurns_189 rfl (by decide) (fun h189 => ?_) (fun h189 => ?_)
          · have em : zminN w (zaT (Z 169) n m a b c x f).1 = (zaT (Z 169) n m a b c x f).1 := if_pos ⟨h182, Or.inl h189⟩
            refine zi_iload11 (n := 201) dX7_byTurns_199 rfl ?_
            refine zi_goto (tgt := 206) dX7_byTurns_201 (by decide) ?_
            refine zi_istore9 (n := 208) dX7_byTurns_206 rfl (by decide) rfl ?_
            refine zi_iinc10 (n := 211) _ dX7_byTurns_208 rfl (by decide) rfl rfl ?_
            refine zi_goto (tgt := 148) dX7_byTurns_211 (by decide) ?_
            exact ih _ _ _ _ (zrH_go hz).2 (by rw [← hr, zfoT, em])
          · refine zi_iload11 (n := 194) dX7_byTurns_192 rfl ?_
            refine zi_iload9 (n := 196) dX7_byTurns_194 rfl ?_
            refine zi_icge (n := 199) (tgt := 204) dX7_byTurns_196 rfl (by decide) (fun h196 => ?_) (fun h196 => ?_)
            · have em : zminN w (zaT (Z 169) n m a b c x f).1 = w := if_neg (fun z => z.2.elim h189 (fun q => absurd q (Int32.not_lt.mpr h196)))
              refine zi_iload9 (n := 206) dX7_byTurns_204 rfl ?_
              refine zi_istore9 (n := 208) dX7_byTurns_206 rfl (by decide) rfl ?_
              refine zi_iinc10 (n := 211) _ dX7_byTurns_208 rfl (by decide) rfl rfl ?_
              refine zi_goto (tgt := 148) dX7_byTurns_211 (by decide) ?_
              exact ih _ _ _ _ (zrH_go hz).2 (by rw [← hr, zfoT, em])
            · have em : zminN w (zaT (Z 169) n m a b c x f).1 = (zaT (Z 169) n m a b c x f).1 := if_pos ⟨h182, Or.inr (Int32.not_le.mp h196)⟩
              refine zi_iload11 (n := 201) dX7_byTurns_199 rfl ?_
              refine zi_goto (tgt := 206) dX7_byTurns_201 (by decide) ?_
              refine zi_istore9 (n := 208) dX7_byTurns_206 rfl (by decide) rfl ?_
              refine zi_iinc10 (n := 211) _ dX7_byTurns_208 rfl (by decide) rfl rfl ?_
              refine zi_goto (tgt := 148) dX7_byTurns_211 (by decide) ?_
              exact ih _ _ _ _ (zrH_go hz).2 (by rw [← hr, zfoT, em])
    · have q152 : 3 < t := by have := mt (nI_leI (b := 3) (by omega) (by omega)).mpr h152; omega
      have hhd : zkh t 3 = nI 1 := if_pos q152
      have hfd : zkf t 3 = -1 := if_pos q152
      refine zi_iconst (n := 156) (nI 1) dX7_byTurns_155 rfl (by decide) ?_
      refine zi_goto (tgt := 160) dX7_byTurns_156 (by decide) ?_
      refine zi_icgt (n := 163) (tgt := 214) dX7_byTurns_160 rfl (by decide) (fun h160 => ?_) (fun h160 => ?_)
      · rw [← hhd] at h160
        exact absurd h160 (zrH_go hz).1
      · refine zi_aload0 (n := 164) dX7_byTurns_163 rfl ?_
        refine zi_iload4 (n := 166) dX7_byTurns_164 rfl ?_
        refine zi_iload6 (n := 168) dX7_byTurns_166 rfl ?_
        refine zi_iload8 (n := 170) dX7_byTurns_168 rfl ?_
        refine zi_iload10 (n := 172) dX7_byTurns_170 rfl ?_
        refine zi_iload2 (n := 173) dX7_byTurns_172 rfl ?_
        refine zi_V5s (mj := zm_X7_afterTurns) (n := 176) dX7_byTurns_173 rfl zl_X7_223 zy_X7_afterTurns (zrc_X7 _ _) (by decide) (Nat.le_of_ble_eq_true rfl) (c_X7_afterTurns hk h1 hm) ?_
        refine zi_istore11 (n := 178) dX7_byTurns_176 rfl (by decide) rfl ?_
        refine zi_iload11 (n := 180) dX7_byTurns_178 rfl ?_
        refine zi_ldc (n := 182) dX7_byTurns_180 rfl zl_X7_87 ?_
        refine zi_iceq (n := 185) (tgt := 204) dX7_byTurns_182 rfl (by decide) (fun h182 => ?_) (fun h182 => ?_)
        · have em : zminN w (zaT (Z 169) n m a b c x f).1 = w := if_neg (fun z => z.1 h182)
          refine zi_iload9 (n := 206) dX7_byTurns_204 rfl ?_
          refine zi_istore9 (n := 208) dX7_byTurns_206 rfl (by decide) rfl ?_
          refine zi_iinc10 (n := 211) _ dX7_byTurns_208 rfl (by decide) rfl rfl ?_
          refine zi_goto (tgt := 148) dX7_byTurns_211 (by decide) ?_
          exact ih _ _ _ _ (zrH_go hz).2 (by rw [← hr, zfoT, em])
        · refine zi_iload9 (n := 187) dX7_byTurns_185 rfl ?_
          refine zi_ldc (n := 189) dX7_byTurns_187 rfl zl_X7_87 ?_
          refine zi_iceq (n := 192) (tgt := 199) dX7_byTurns_189 rfl (by decide) (fun h189 => ?_) (fun h189 => ?_)
          · have em : zminN w (zaT (Z 169) n m a b c x f).1 = (zaT (Z 169) n m a b c x f).1 := if_pos ⟨h182, Or.inl h189⟩
            refine zi_iload11 (n := 201) dX7_byTurns_199 rfl ?_
            refine zi_goto (tgt := 206) dX7_byTurns_201 (by decide) ?_
            refine zi_istore9 (n := 208) dX7_byTurns_206 rfl (by decide) rfl ?_
            refine zi_iinc10 (n := 211) _ dX7_byTurns_208 rfl (by decide) rfl rfl ?_
            refine zi_goto (tgt := 148) dX7_byTurns_211 (by decide) ?_
            exact ih _ _ _ _ (zrH_go hz).2 (by rw [← hr, zfoT, em])
          · refine zi_iload11 (n := 194) dX7_byTurns_192 rfl ?_
            refine zi_iload9 (n := 196) dX7_byTurns_194 rfl ?_
            refine zi_icge (n := 199) (tgt := 204) dX7_byTurns_196 rfl (by decide) (fun h196 => ?_) (fun h196 => ?_)
            · have em : zminN w (zaT (Z 169) n m a b c x f).1 = w := if_neg (fun z => z.2.elim h189 (fun q => absurd q (Int32.not_lt.mpr h196)))
              refine zi_iload9 (n := 206) dX7_byTurns_204 rfl ?_
              refine zi_istore9 (n := 208) dX7_byTurns_206 rfl (by decide) rfl ?_
              refine zi_iinc10 (n := 211) _ dX7_byTurns_208 rfl (by decide) rfl rfl ?_
              refine zi_goto (tgt := 148) dX7_byTurns_211 (by decide) ?_
              exact ih _ _ _ _ (zrH_go hz).2 (by rw [← hr, zfoT, em])
            · have em : zminN w (zaT (Z 169) n m a b c x f).1 = (zaT (Z 169) n m a b c x f).1 := if_pos ⟨h182, Or.inr (Int32.not_le.mp h196)⟩
              refine zi_iload11 (n := 201) dX7_byTurns_199 rfl ?_
              refine zi_goto (tgt := 206) dX7_byTurns_201 (by decide) ?_
              refine zi_istore9 (n := 208) dX7_byTurns_206 rfl (by decide) rfl ?_
              refine zi_iinc10 (n := 211) _ dX7_byTurns_208 rfl (by decide) rfl rfl ?_
              refine zi_goto (tgt := 148) dX7_byTurns_211 (by decide) ?_
              exact ih _ _ _ _ (zrH_go hz).2 (by rw [← hr, zfoT, em])
set_option maxHeartbeats 4000000 in
set_option maxRecDepth 100000 in
theorem lc_X7 (hk : zKd (Z 169) n) (h1 : 0 < n) (hm : m < 2 ^ 30) (ht : t ≤ 4) {a b o1 o2 : Int32} {r : Int32 × zF} (fin : ∀ (x8 x9 x10 x11 : Option Value), zG E zm_X7_byTurns 6 rv M1 236 [some (.ref (zad E 165)), some (.int (nI t)), some (.int (nI m)), some (.int o1), some (.int a), some (.int o2), some (.int b), some (.int r.1), x8, x9, x10, x11] [] (Q, va_up Z 171 r.2)) : ∀ k (x w : Int32) (f : zF) (x9 x10 x11 : Option Value), zrH (zkh t 2) k x → zfoT zmaxN (fun c f => zF4 (Z 169) n m t a b c f) k x (w, f) = r → zG E zm_X7_byTurns 6 rv M1 117 [some (.ref (zad E 165)), some (.int (nI t)), some (.int (nI m)), some (.int o1), some (.int a), some (.int o2), some (.int b), some (.int w), some (.int x), x9, x10, x11] [] (Q, va_up Z 171 f) := by
  intro k
  induction k with
  | zero =>
    intro x w f x9 x10 x11 hz hr
    refine zi_iload8 (n := 119) dX7_byTurns_117 rfl ?_
    refine zi_iload1 (n := 120) dX7_byTurns_119 rfl ?_
    refine zi_iconst (n := 121) (nI 2) dX7_byTurns_120 rfl (by decide) ?_
    refine zi_icle (n := 124) (tgt := 128) dX7_byTurns_121 rfl (by decide) (fun h121 => ?_) (fun h121 => ?_)
    · have q121 : ¬ 2 < t := by have := (nI_leI (b := 2) (by omega) (by omega)).mp h121; omega
      have hhc : zkh t 2 = nI 0 := if_neg q121
      have hfc : zkf t 2 = nI 0 := if_neg q121
      refine zi_iconst (n := 129) (nI 0) dX7_byTurns_128 rfl (by decide) ?_
      refine zi_icgt (n := 132) (tgt := 236) dX7_byTurns_129 rfl (by decide) (fun h129 => ?_) (fun h129 => ?_)
      · rw [← hhc] at h129
        subst hr
        exact fin _ _ _ _
      · rw [← hhc] at h129
        exact absurd (zrH_end hz) h129
    · have q121 : 2 < t := by have := mt (nI_leI (b := 2) (by omega) (by omega)).mpr h121; omega
      have hhc : zkh t 2 = nI 1 := if_pos q121
      have hfc : zkf t 2 = -1 := if_pos q121
      refine zi_iconst (n := 125) (nI 1) dX7_byTurns_124 rfl (by decide) ?_
      refine zi_goto (tgt := 129) dX7_byTurns_125 (by decide) ?_
      refine zi_icgt (n := 132) (tgt := 236) dX7_byTurns_129 rfl (by decide) (fun h129 => ?_) (fun h129 => ?_)
      · rw [← hhc] at h129
        subst hr
        exact fin _ _ _ _
      · rw [← hhc] at h129
        exact absurd (zrH_end hz) h129
  | succ k ih =>
    intro x w f x9 x10 x11 hz hr
    refine zi_iload8 (n := 119) dX7_byTurns_117 rfl ?_
    refine zi_iload1 (n := 120) dX7_byTurns_119 rfl ?_
    refine zi_iconst (n := 121) (nI 2) dX7_byTurns_120 rfl (by decide) ?_
    refine zi_icle (n := 124) (tgt := 128) dX7_byTurns_121 rfl (by decide) (fun h121 => ?_) (fun h121 => ?_)
    · have q121 : ¬ 2 < t := by have := (nI_leI (b := 2) (by omega) (by omega)).mp h121; omega
      have hhc : zkh t 2 = nI 0 := if_neg q121
      have hfc : zkf t 2 = nI 0 := if_neg q121
      refine zi_iconst (n := 129) (nI 0) dX7_byTurns_128 rfl (by decide) ?_
      refine zi_icgt (n := 132) (tgt := 236) dX7_byTurns_129 rfl (by decide) (fun h129 => ?_) (fun h129 => ?_)
      · rw [← hhc] at h129
        exact absurd h129 (zrH_go hz).1
      · refine zi_ldc (n := 134) dX7_byTurns_132 rfl zl_X7_87 ?_
        refine zi_istore9 (n := 136) dX7_byTurns_134 rfl (by decide) rfl ?_
        refine zi_iload1 (n := 137) dX7_byTurns_136 rfl ?_
        refine zi_iconst (n := 138) (nI 3) dX7_byTurns_137 rfl (by decide) ?_
        refine zi_icle (n := 141) (tgt := 145) dX7_byTurns_138 rfl (by decide) (fun h138 => ?_) (fun h138 => ?_)
        · have q138 : ¬ 3 < t := by have := (nI_leI (b := 3) (by omega) (by omega)).mp h138; omega
          have hhd : zkh t 3 = nI 0 := if_neg q138
          have hfd : zkf t 3 = nI 0 := if_neg q138
          refine zi_iconst (n := 146) (nI 0) dX7_byTurns_145 rfl (by decide) ?_
          refine zi_istore10 (n := 148) dX7_byTurns_146 rfl (by decide) rfl ?_
          refine ld_X7 hk h1 hm ht (r := zF4 (Z 169) n m t a b x f) (fun x10 x11 => ?_) (zkx t 3) _ (-1000000) f _ (hfd ▸ zkr t 3) (by rw [← hfd]; rfl)
          refine zi_iload9 (n := 216) dX7_byTurns_214 rfl ?_
          refine zi_iload7 (n := 218) dX7_byTurns_216 rfl ?_
          refine zi_icle (n := 221) (tgt := 226) dX7_byTurns_218 rfl (by decide) (fun h218 => ?_) (fun h218 => ?_)
          · have e218 : zmaxN w (zF4 (Z 169) n m t a b x f).1 = w := if_neg (Int32.not_lt.mpr h218)
            refine zi_iload7 (n := 228) dX7_byTurns_226 rfl ?_
            refine zi_istore7 (n := 230) dX7_byTurns_228 rfl (by decide) rfl ?_
            refine zi_iinc8 (n := 233) _ dX7_byTurns_230 rfl (by decide) rfl rfl ?_
            refine zi_goto (tgt := 117) dX7_byTurns_233 (by decide) ?_
            exact ih _ _ _ _ _ _ (zrH_go hz).2 (by rw [← hr, zfoT, e218])
          · have e218 : zmaxN w (zF4 (Z 169) n m t a b x f).1 = (zF4 (Z 169) n m t a b x f).1 := if_pos (Int32.not_le.mp h218)
            refine zi_iload9 (n := 223) dX7_byTurns_221 rfl ?_
            refine zi_goto (tgt := 228) dX7_byTurns_223 (by decide) ?_
            refine zi_istore7 (n := 230) dX7_byTurns_228 rfl (by decide) rfl ?_
            refine zi_iinc8 (n := 233) _ dX7_byTurns_230 rfl (by decide) rfl rfl ?_
            refine zi_goto (tgt := 117) dX7_byTurns_233 (by decide) ?_
            exact ih _ _ _ _ _ _ (zrH_go hz).2 (by rw [← hr, zfoT, e218])
        · have q138 : 3 < t := by have := mt (nI_leI (b := 3) (by omega) (by omega)).mpr h138; omega
          have hhd : zkh t 3 = nI 1 := if_pos q138
          have hfd : zkf t 3 = -1 := if_pos q138
          refine zi_iconst (n := 142) (-1) dX7_byTurns_141 rfl (by decide) ?_
          refine zi_goto (tgt := 146) dX7_byTurns_142 (by decide) ?_
          refine zi_istore10 (n := 148) dX7_byTurns_146 rfl (by decide) rfl ?_
          refine ld_X7 hk h1 hm ht (r := zF4 (Z 169) n m t a b x f) (fun x10 x11 => ?_) (zkx t 3) _ (-1000000) f _ (hfd ▸ zkr t 3) (by rw [← hfd]; rfl)
          refine zi_iload9 (n := 216) dX7_byTurns_214 rfl ?_
          refine zi_iload7 (n := 218) dX7_byTurns_216 rfl ?_
          refine zi_icle (n := 221) (tgt := 226) dX7_byTurns_218 rfl (by decide) (fun h218 => ?_) (fun h218 => ?_)
          · have e218 : zmaxN w (zF4 (Z 169) n m t a b x f).1 = w := if_neg (Int32.not_lt.mpr h218)
            refine zi_iload7 (n := 228) dX7_byTurns_226 rfl ?_
            refine zi_istore7 (n := 230) dX7_byTurns_228 rfl (by decide) rfl ?_
            refine zi_iinc8 (n := 233) _ dX7_byTurns_230 rfl (by decide) rfl rfl ?_
            refine zi_goto (tgt := 117) dX7_byTurns_233 (by decide) ?_
            exact ih _ _ _ _ _ _ (zrH_go hz).2 (by rw [← hr, zfoT, e218])
          · have e218 : zmaxN w (zF4 (Z 169) n m t a b x f).1 = (zF4 (Z 169) n m t a b x f).1 := if_pos (Int32.not_le.mp h218)
            refine zi_iload9 (n := 223) dX7_byTurns_221 rfl ?_
            refine zi_goto (tgt := 228) dX7_byTurns_223 (by decide) ?_
            refine zi_istore7 (n := 230) dX7_byTurns_228 rfl (by decide) rfl ?_
            refine zi_iinc8 (n := 233) _ dX7_byTurns_230 rfl (by decide) rfl rfl ?_
            refine zi_goto (tgt := 117) dX7_byTurns_233 (by decide) ?_
            exact ih _ _ _ _ _ _ (zrH_go hz).2 (by rw [← hr, zfoT, e218])
    · have q121 : 2 < t := by have := mt (nI_leI (b := 2) (by omega) (by omega)).mpr h121; omega
      have hhc : zkh t 2 = nI 1 := if_pos q121
      have hfc : zkf t 2 = -1 := if_pos q121
      refine zi_iconst (n := 125) (nI 1) dX7_byTurns_124 rfl (by decide) ?_
      refine zi_goto (tgt := 129) dX7_byTurns_125 (by decide) ?_
      refine zi_icgt (n := 132) (tgt := 236) dX7_byTurns_129 rfl (by decide) (fun h129 => ?_) (fun h129 => ?_)
      · rw [← hhc] at h129
        exact absurd h129 (zrH_go hz).1
      · refine zi_ldc (n := 134) dX7_byTurns_132 rfl zl_X7_87 ?_
        refine zi_istore9 (n := 136) dX7_byTurns_134 rfl (by decide) rfl ?_
        refine zi_iload1 (n := 137) dX7_byTurns_136 rfl ?_
        refine zi_iconst (n := 138) (nI 3) dX7_byTurns_137 rfl (by decide) ?_
        refine zi_icle (n := 141) (tgt := 145) dX7_byTurns_138 rfl (by decide) (fun h138 => ?_) (fun h138 => ?_)
        · have q138 : ¬ 3 < t := by have := (nI_leI (b := 3) (by omega) (by omega)).mp h138; omega
          have hhd : zkh t 3 = nI 0 := if_neg q138
          have hfd : zkf t 3 = nI 0 := if_neg q138
          refine zi_iconst (n := 146) (nI 0) dX7_byTurns_145 rfl (by decide) ?_
          refine zi_istore10 (n := 148) dX7_byTurns_146 rfl (by decide) rfl ?_
          refine ld_X7 hk h1 hm ht (r := zF4 (Z 169) n m t a b x f) (fun x10 x11 => ?_) (zkx t 3) _ (-1000000) f _ (hfd ▸ zkr t 3) (by rw [← hfd]; rfl)
          refine zi_iload9 (n := 216) dX7_byTurns_214 rfl ?_
          refine zi_iload7 (n := 218) dX7_byTurns_216 rfl ?_
          refine zi_icle (n := 221) (tgt := 226) dX7_byTurns_218 rfl (by decide) (fun h218 => ?_) (fun h218 => ?_)
          · have e218 : zmaxN w (zF4 (Z 169) n m t a b x f).1 = w := if_neg (Int32.not_lt.mpr h218)
            refine zi_iload7 (n := 228) dX7_byTurns_226 rfl ?_
            refine zi_istore7 (n := 230) dX7_byTurns_228 rfl (by decide) rfl ?_
            refine zi_iinc8 (n := 233) _ dX7_byTurns_230 rfl (by decide) rfl rfl ?_
            refine zi_goto (tgt := 117) dX7_byTurns_233 (by decide) ?_
            exact ih _ _ _ _ _ _ (zrH_go hz).2 (by rw [← hr, zfoT, e218])
          · have e218 : zmaxN w (zF4 (Z 169) n m t a b x f).1 = (zF4 (Z 169) n m t a b x f).1 := if_pos (Int32.not_le.mp h218)
            refine zi_iload9 (n := 223) dX7_byTurns_221 rfl ?_
            refine zi_goto (tgt := 228) dX7_byTurns_223 (by decide) ?_
            refine zi_istore7 (n := 230) dX7_byTurns_228 rfl (by decide) rfl ?_
            refine zi_iinc8 (n := 233) _ dX7_byTurns_230 rfl (by decide) rfl rfl ?_
            refine zi_goto (tgt := 117) dX7_byTurns_233 (by decide) ?_
            exact ih _ _ _ _ _ _ (zrH_go hz).2 (by rw [← hr, zfoT, e218])
        · have q138 : 3 < t := by have := mt (nI_leI (b := 3) (by omega) (by omega)).mpr h138; omega
          have hhd : zkh t 3 = nI 1 := if_pos q138
          have hfd : zkf t 3 = -1 := if_pos q138
          refine zi_iconst (n := 142) (-1) dX7_byTurns_141 rfl (by decide) ?_
          refine zi_goto (tgt := 146) dX7_byTurns_142 (by decide) ?_
          refine zi_istore10 (n := 148) dX7_byTurns_146 rfl (by decide) rfl ?_
          refine ld_X7 hk h1 hm ht (r := zF4 (Z 169) n m t a b x f) (fun x10 x11 => ?_) (zkx t 3) _ (-1000000) f _ (hfd ▸ zkr t 3) (by rw [← hfd]; rfl)
          refine zi_iload9 (n := 216) dX7_byTurns_214 rfl ?_
          refine zi_iload7 (n := 218) dX7_byTurns_216 rfl ?_
          refine zi_icle (n := 221) (tgt := 226) dX7_byTurns_218 rfl (by decide) (fun h218 => ?_) (fun h218 => ?_)
          · have e218 : zmaxN w (zF4 (Z 169) n m t a b x f).1 = w := if_neg (Int32.not_lt.mpr h218)
            refine zi_iload7 (n := 228) dX7_byTurns_226 rfl ?_
            refine zi_istore7 (n := 230) dX7_byTurns_228 rfl (by decide) rfl ?_
            refine zi_iinc8 (n := 233) _ dX7_byTurns_230 rfl (by decide) rfl rfl ?_
            refine zi_goto (tgt := 117) dX7_byTurns_233 (by decide) ?_
            exact ih _ _ _ _ _ _ (zrH_go hz).2 (by rw [← hr, zfoT, e218])
          · have e218 : zmaxN w (zF4 (Z 169) n m t a b x f).1 = (zF4 (Z 169) n m t a b x f).1 := if_pos (Int32.not_le.mp h218)
            refine zi_iload9 (n := 223) dX7_byTurns_221 rfl ?_
            refine zi_goto (tgt := 228) dX7_byTurns_223 (by decide) ?_
            refine zi_istore7 (n := 230) dX7_byTurns_228 rfl (by decide) rfl ?_
            refine zi_iinc8 (n := 233) _ dX7_byTurns_230 rfl (by decide) rfl rfl ?_
            refine zi_goto (tgt := 117) dX7_byTurns_233 (by decide) ?_
            exact ih _ _ _ _ _ _ (zrH_go hz).2 (by rw [← hr, zfoT, e218])
set_option maxHeartbeats 4000000 in
set_option maxRecDepth 100000 in
theorem lb_X7 (hk : zKd (Z 169) n) (h1 : 0 < n) (hm : m < 2 ^ 30) (ht : t ≤ 4) {a o1 : Int32} {r : Int32 × zF} (fin : ∀ (x6 x7 x8 x9 x10 x11 : Option Value), zG E zm_X7_byTurns 6 rv M1 272 [some (.ref (zad E 165)), some (.int (nI t)), some (.int (nI m)), some (.int o1), some (.int a), some (.int r.1), x6, x7, x8, x9, x10, x11] [] (Q, va_up Z 171 r.2)) : ∀ k (x w : Int32) (f : zF) (x7 x8 x9 x10 x11 : Option Value), zrH (zkh t 1) k x → zfoT zminN (fun b f => zF3 (Z 169) n m t a b f) k x (w, f) = r → zG E zm_X7_byTurns 6 rv M1 86 [some (.ref (zad E 165)), some (.int (nI t)), some (.int (nI m)), some (.int o1), some (.int a), some (.int w), some (.int x), x7, x8, x9, x10, x11] [] (Q, va_up Z 171 f) := by
  intro k
  induction k with
  | zero =>
    intro x w f x7 x8 x9 x10 x11 hz hr
    refine zi_iload6 (n := 88) dX7_byTurns_86 rfl ?_
    refine zi_iload1 (n := 89) dX7_byTurns_88 rfl ?_
    refine zi_iconst (n := 90) (nI 1) dX7_byTurns_89 rfl (by decide) ?_
    refine zi_icle (n := 93) (tgt := 97) dX7_byTurns_90 rfl (by decide) (fun h90 => ?_) (fun h90 => ?_)
    · have q90 : ¬ 1 < t := by have := (nI_leI (b := 1) (by omega) (by omega)).mp h90; omega
      have hhb : zkh t 1 = nI 0 := if_neg q90
      have hfb : zkf t 1 = nI 0 := if_neg q90
      refine zi_iconst (n := 98) (nI 0) dX7_byTurns_97 rfl (by decide) ?_
      refine zi_icgt (n := 101) (tgt := 272) dX7_byTurns_98 rfl (by decide) (fun h98 => ?_) (fun h98 => ?_)
      · rw [← hhb] at h98
        subst hr
        exact fin _ _ _ _ _ _
      · rw [← hhb] at h98
        exact absurd (zrH_end hz) h98
    · have q90 : 1 < t := by have := mt (nI_leI (b := 1) (by omega) (by omega)).mpr h90; omega
      have hhb : zkh t 1 = nI 1 := if_pos q90
      have hfb : zkf t 1 = -1 := if_pos q90
      refine zi_iconst (n := 94) (nI 1) dX7_byTurns_93 rfl (by decide) ?_
      refine zi_goto (tgt := 98) dX7_byTurns_94 (by decide) ?_
      refine zi_icgt (n := 101) (tgt := 272) dX7_byTurns_98 rfl (by decide) (fun h98 => ?_) (fun h98 => ?_)
      · rw [← hhb] at h98
        subst hr
        exact fin _ _ _ _ _ _
      · rw [← hhb] at h98
        exact absurd (zrH_end hz) h98
  | succ k ih =>
    intro x w f x7 x8 x9 x10 x11 hz hr
    refine zi_iload6 (n := 88) dX7_byTurns_86 rfl ?_
    refine zi_iload1 (n := 89) dX7_byTurns_88 rfl ?_
    refine zi_iconst (n := 90) (nI 1) dX7_byTurns_89 rfl (by decide) ?_
    refine zi_icle (n := 93) (tgt := 97) dX7_byTurns_90 rfl (by decide) (fun h90 => ?_) (fun h90 => ?_)
    · have q90 : ¬ 1 < t := by have := (nI_leI (b := 1) (by omega) (by omega)).mp h90; omega
      have hhb : zkh t 1 = nI 0 := if_neg q90
      have hfb : zkf t 1 = nI 0 := if_neg q90
      refine zi_iconst (n := 98) (nI 0) dX7_byTurns_97 rfl (by decide) ?_
      refine zi_icgt (n := 101) (tgt := 272) dX7_byTurns_98 rfl (by decide) (fun h98 => ?_) (fun h98 => ?_)
      · rw [← hhb] at h98
        exact absurd h98 (zrH_go hz).1
      · refine zi_ldc (n := 103) dX7_byTurns_101 rfl zl_X7_87 ?_
        refine zi_istore7 (n := 105) dX7_byTurns_103 rfl (by decide) rfl ?_
        refine zi_iload1 (n := 106) dX7_byTurns_105 rfl ?_
        refine zi_iconst (n := 107) (nI 2) dX7_byTurns_106 rfl (by decide) ?_
        refine zi_icle (n := 110) (tgt := 114) dX7_byTurns_107 rfl (by decide) (fun h107 => ?_) (fun h107 => ?_)
        · have q107 : ¬ 2 < t := by have := (nI_leI (b := 2) (by omega) (by omega)).mp h107; omega
          have hhc : zkh t 2 = nI 0 := if_neg q107
          have hfc : zkf t 2 = nI 0 := if_neg q107
          refine zi_iconst (n := 115) (nI 0) dX7_byTurns_114 rfl (by decide) ?_
          refine zi_istore8 (n := 117) dX7_byTurns_115 rfl (by decide) rfl ?_
          refine lc_X7 hk h1 hm ht (r := zF3 (Z 169) n m t a x f) (fun x8 x9 x10 x11 => ?_) (zkx t 2) _ (-1000000) f _ _ _ (hfc ▸ zkr t 2) (by rw [← hfc]; rfl)
          refine zi_iload7 (n := 238) dX7_byTurns_236 rfl ?_
          refine zi_ldc (n := 240) dX7_byTurns_238 rfl zl_X7_87 ?_
          refine zi_iceq (n := 243) (tgt := 262) dX7_byTurns_240 rfl (by decide) (fun h240 => ?_) (fun h240 => ?_)
          · have em : zminN w (zF3 (Z 169) n m t a x f).1 = w := if_neg (fun z => z.1 h240)
            refine zi_iload5 (n := 264) dX7_byTurns_262 rfl ?_
            refine zi_istore5 (n := 266) dX7_byTurns_264 rfl (by decide) rfl ?_
            refine zi_iinc6 (n := 269) _ dX7_byTurns_266 rfl (by decide) rfl rfl ?_
            refine zi_goto (tgt := 86) dX7_byTurns_269 (by decide) ?_
            exact ih _ _ _ _ _ _ _ _ (zrH_go hz).2 (by rw [← hr, zfoT, em])
          · refine zi_iload5 (n := 245) dX7_byTurns_243 rfl ?_
            refine zi_ldc (n := 247) dX7_byTurns_245 rfl zl_X7_87 ?_
            refine zi_iceq (n := 250) (tgt := 257) dX7_byTurns_247 rfl (by decide) (fun h247 => ?_) (fun h247 => ?_)
            · have em : zminN w (zF3 (Z 169) n m t a x f).1 = (zF3 (Z 169) n m t a x f).1 := if_pos ⟨h240, Or.inl h247⟩
              refine zi_iload7 (n := 259) dX7_byTurns_257 rfl ?_
              refine zi_goto (tgt := 264) dX7_byTurns_259 (by decide) ?_
              refine zi_istore5 (n := 266) dX7_byTurns_264 rfl (by decide) rfl ?_
              refine zi_iinc6 (n := 269) _ dX7_byTurns_266 rfl (by decide) rfl rfl ?_
              refine zi_goto (tgt := 86) dX7_byTurns_269 (by decide) ?_
              exact ih _ _ _ _ _ _ _ _ (zrH_go hz).2 (by rw [← hr, zfoT, em])
            · refine zi_iload7 (n := 252) dX7_byTurns_250 rfl ?_
              refine zi_iload5 (n := 254) dX7_byTurns_252 rfl ?_
              refine zi_icge (n := 257) (tgt := 262) dX7_byTurns_254 rfl (by decide) (fun h254 => ?_) (fun h254 => ?_)
              · have em : zminN w (zF3 (Z 169) n m t a x f).1 = w := if_neg (fun z => z.2.elim h247 (fun q => absurd q (Int32.not_lt.mpr h254)))
                refine zi_iload5 (n := 264) dX7_byTurns_262 rfl ?_
                refine zi_istore5 (n := 266) dX7_byTurns_264 rfl (by decide) rfl ?_
                refine zi_iinc6 (n := 269) _ dX7_byTurns_266 rfl (by decide) rfl rfl ?_
                refine zi_goto (tgt := 86) dX7_byTurns_269 (by decide) ?_
                exact ih _ _ _ _ _ _ _ _ (zrH_go hz).2 (by rw [← hr, zfoT, em])
              · have em : zminN w (zF3 (Z 169) n m t a x f).1 = (zF3 (Z 169) n m t a x f).1 := if_pos ⟨h240, Or.inr (Int32.not_le.mp h254)⟩
                refine zi_iload7 (n := 259) dX7_byTurns_257 rfl ?_
                refine zi_goto (tgt := 264) dX7_byTurns_259 (by decide) ?_
                refine zi_istore5 (n := 266) dX7_byTurns_264 rfl (by decide) rfl ?_
                refine zi_iinc6 (n := 269) _ dX7_byTurns_266 rfl (by decide) rfl rfl ?_
                refine zi_goto (tgt := 86) dX7_byTurns_269 (by decide) ?_
                exact ih _ _ _ _ _ _ _ _ (zrH_go hz).2 (by rw [← hr, zfoT, em])
        · have q107 : 2 < t := by have := mt (nI_leI (b := 2) (by omega) (by omega)).mpr h107; omega
          have hhc : zkh t 2 = nI 1 := if_pos q107
          have hfc : zkf t 2 = -1 := if_pos q107
          refine zi_iconst (n := 111) (-1) dX7_byTurns_110 rfl (by decide) ?_
          refine zi_goto (tgt := 115) dX7_byTurns_111 (by decide) ?_
          refine zi_istore8 (n := 117) dX7_byTurns_115 rfl (by decide) rfl ?_
          refine lc_X7 hk h1 hm ht (r := zF3 (Z 169) n m t a x f) (fun x8 x9 x10 x11 => ?_) (zkx t 2) _ (-1000000) f _ _ _ (hfc ▸ zkr t 2) (by rw [← hfc]; rfl)
          refine zi_iload7 (n := 238) dX7_byTurns_236 rfl ?_
          refine zi_ldc (n := 240) dX7_byTurns_238 rfl zl_X7_87 ?_
          refine zi_iceq (n := 243) (tgt := 262) dX7_byTurns_240 rfl (by decide) (fun h240 => ?_) (fun h240 => ?_)
          · have em : zminN w (zF3 (Z 169) n m t a x f).1 = w := if_neg (fun z => z.1 h240)
            refine zi_iload5 (n := 264) dX7_byTurns_262 rfl ?_
            refine zi_istore5 (n := 266) dX7_byTurns_264 rfl (by decide) rfl ?_
            refine zi_iinc6 (n := 269) _ dX7_byTurns_266 rfl (by decide) rfl rfl ?_
            refine zi_goto (tgt := 86) dX7_byTurns_269 (by decide) ?_
            exact ih _ _ _ _ _ _ _ _ (zrH_go hz).2 (by rw [← hr, zfoT, em])
          · refine zi_iload5 (n := 245) dX7_byTurns_243 rfl ?_
            refine zi_ldc (n := 247) dX7_byTurns_245 rfl zl_X7_87 ?_
            refine zi_iceq (n := 250) (tgt := 257) dX7_byTurns_247 rfl (by decide) (fun h247 => ?_) (fun h247 => ?_)
            · have em : zminN w (zF3 (Z 169) n m t a x f).1 = (zF3 (Z 169) n m t a x f).1 := if_pos ⟨h240, Or.inl h247⟩
              refine zi_iload7 (n := 259) dX7_byTurns_257 rfl ?_
              refine zi_goto (tgt := 264) dX7_byTurns_259 (by decide) ?_
              refine zi_istore5 (n := 266) dX7_byTurns_264 rfl (by decide) rfl ?_
              refine zi_iinc6 (n := 269) _ dX7_byTurns_266 rfl (by decide) rfl rfl ?_
              refine zi_goto (tgt := 86) dX7_byTurns_269 (by decide) ?_
              exact ih _ _ _ _ _ _ _ _ (zrH_go hz).2 (by rw [← hr, zfoT, em])
            · refine zi_iload7 (n := 252) dX7_byTurns_250 rfl ?_
              refine zi_iload5 (n := 254) dX7_byTurns_252 rfl ?_
              refine zi_icge (n := 257) (tgt := 262) dX7_byTurns_254 rfl (by decide) (fun h254 => ?_) (fun h254 => ?_)
              · have em : zminN w (zF3 (Z 169) n m t a x f).1 = w := if_neg (fun z => z.2.elim h247 (fun q => absurd q (Int32.not_lt.mpr h254)))
                refine zi_iload5 (n := 264) dX7_byTurns_262 rfl ?_
                refine zi_istore5 (n := 266) dX7_byTurns_264 rfl (by decide) rfl ?_
                refine zi_iinc6 (n := 269) _ dX7_byTurns_266 rfl (by decide) rfl rfl ?_
                refine zi_goto (tgt := 86) dX7_byTurns_269 (by decide) ?_
                exact ih _ _ _ _ _ _ _ _ (zrH_go hz).2 (by rw [← hr, zfoT, em])
              · have em : zminN w (zF3 (Z 169) n m t a x f).1 = (zF3 (Z 169) n m t a x f).1 := if_pos ⟨h240, Or.inr (Int32.not_le.mp h254)⟩
                refine zi_iload7 (n := 259) dX7_byTurns_257 rfl ?_
                refine zi_goto (tgt := 264) dX7_byTurns_259 (by decide) ?_
                refine zi_istore5 (n := 266) dX7_byTurns_264 rfl (by decide) rfl ?_
                refine zi_iinc6 (n := 269) _ dX7_byTurns_266 rfl (by decide) rfl rfl ?_
                refine zi_goto (tgt := 86) dX7_byTurns_269 (by decide) ?_
                exact ih _ _ _ _ _ _ _ _ (zrH_go hz).2 (by rw [← hr, zfoT, em])
    · have q90 : 1 < t := by have := mt (nI_leI (b := 1) (by omega) (by omega)).mpr h90; omega
      have hhb : zkh t 1 = nI 1 := if_pos q90
      have hfb : zkf t 1 = -1 := if_pos q90
      refine zi_iconst (n := 94) (nI 1) dX7_byTurns_93 rfl (by decide) ?_
      refine zi_goto (tgt := 98) dX7_byTurns_94 (by decide) ?_
      refine zi_icgt (n := 101) (tgt := 272) dX7_byTurns_98 rfl (by decide) (fun h98 => ?_) (fun h98 => ?_)
      · rw [← hhb] at h98
        exact absurd h98 (zrH_go hz).1
      · refine zi_ldc (n := 103) dX7_byTurns_101 rfl zl_X7_87 ?_
        refine zi_istore7 (n := 105) dX7_byTurns_103 rfl (by decide) rfl ?_
        refine zi_iload1 (n := 106) dX7_byTurns_105 rfl ?_
        refine zi_iconst (n := 107) (nI 2) dX7_byTurns_106 rfl (by decide) ?_
        refine zi_icle (n := 110) (tgt := 114) dX7_byTurns_107 rfl (by decide) (fun h107 => ?_) (fun h107 => ?_)
        · have q107 : ¬ 2 < t := by have := (nI_leI (b := 2) (by omega) (by omega)).mp h107; omega
          have hhc : zkh t 2 = nI 0 := if_neg q107
          have hfc : zkf t 2 = nI 0 := if_neg q107
          refine zi_iconst (n := 115) (nI 0) dX7_byTurns_114 rfl (by decide) ?_
          refine zi_istore8 (n := 117) dX7_byTurns_115 rfl (by decide) rfl ?_
          refine lc_X7 hk h1 hm ht (r := zF3 (Z 169) n m t a x f) (fun x8 x9 x10 x11 => ?_) (zkx t 2) _ (-1000000) f _ _ _ (hfc ▸ zkr t 2) (by rw [← hfc]; rfl)
          refine zi_iload7 (n := 238) dX7_byTurns_236 rfl ?_
          refine zi_ldc (n := 240) dX7_byTurns_238 rfl zl_X7_87 ?_
          refine zi_iceq (n := 243) (tgt := 262) dX7_byTurns_240 rfl (by decide) (fun h240 => ?_) (fun h240 => ?_)
          · have em : zminN w (zF3 (Z 169) n m t a x f).1 = w := if_neg (fun z => z.1 h240)
            refine zi_iload5 (n := 264) dX7_byTurns_262 rfl ?_
            refine zi_istore5 (n := 266) dX7_byTurns_264 rfl (by decide) rfl ?_
            refine zi_iinc6 (n := 269) _ dX7_byTurns_266 rfl (by decide) rfl rfl ?_
            refine zi_goto (tgt := 86) dX7_byTurns_269 (by decide) ?_
            exact ih _ _ _ _ _ _ _ _ (zrH_go hz).2 (by rw [← hr, zfoT, em])
          · refine zi_iload5 (n := 245) dX7_byTurns_243 rfl ?_
            refine zi_ldc (n := 247) dX7_byTurns_245 rfl zl_X7_87 ?_
            refine zi_iceq (n := 250) (tgt := 257) dX7_byTurns_247 rfl (by decide) (fun h247 => ?_) (fun h247 => ?_)
            · have em : zminN w (zF3 (Z 169) n m t a x f).1 = (zF3 (Z 169) n m t a x f).1 := if_pos ⟨h240, Or.inl h247⟩
              refine zi_iload7 (n := 259) dX7_byTurns_257 rfl ?_
              refine zi_goto (tgt := 264) dX7_byTurns_259 (by decide) ?_
              refine zi_istore5 (n := 266) dX7_byTurns_264 rfl (by decide) rfl ?_
              refine zi_iinc6 (n := 269) _ dX7_byTurns_266 rfl (by decide) rfl rfl ?_
              refine zi_goto (tgt := 86) dX7_byTurns_269 (by decide) ?_
              exact ih _ _ _ _ _ _ _ _ (zrH_go hz).2 (by rw [← hr, zfoT, em])
            · refine zi_iload7 (n := 252) dX7_byTurns_250 rfl ?_
              refine zi_iload5 (n := 254) dX7_byTurns_252 rfl ?_
              refine zi_icge (n := 257) (tgt := 262) dX7_byTurns_254 rfl (by decide) (fun h254 => ?_) (fun h254 => ?_)
              · have em : zminN w (zF3 (Z 169) n m t a x f).1 = w := if_neg (fun z => z.2.elim h247 (fun q => absurd q (Int32.not_lt.mpr h254)))
                refine zi_iload5 (n := 264) dX7_byTurns_262 rfl ?_
                refine zi_istore5 (n := 266) dX7_byTurns_264 rfl (by decide) rfl ?_
                refine zi_iinc6 (n := 269) _ dX7_byTurns_266 rfl (by decide) rfl rfl ?_
                refine zi_goto (tgt := 86) dX7_byTurns_269 (by decide) ?_
                exact ih _ _ _ _ _ _ _ _ (zrH_go hz).2 (by rw [← hr, zfoT, em])
              · have em : zminN w (zF3 (Z 169) n m t a x f).1 = (zF3 (Z 169) n m t a x f).1 := if_pos ⟨h240, Or.inr (Int32.not_le.mp h254)⟩
                refine zi_iload7 (n := 259) dX7_byTurns_257 rfl ?_
                refine zi_goto (tgt := 264) dX7_byTurns_259 (by decide) ?_
                refine zi_istore5 (n := 266) dX7_byTurns_264 rfl (by decide) rfl ?_
                refine zi_iinc6 (n := 269) _ dX7_byTurns_266 rfl (by decide) rfl rfl ?_
                refine zi_goto (tgt := 86) dX7_byTurns_269 (by decide) ?_
                exact ih _ _ _ _ _ _ _ _ (zrH_go hz).2 (by rw [← hr, zfoT, em])
        · have q107 : 2 < t := by have := mt (nI_leI (b := 2) (by omega) (by omega)).mpr h107; omega
          have hhc : zkh t 2 = nI 1 := if_pos q107
          have hfc : zkf t 2 = -1 := if_pos q107
          refine zi_iconst (n := 111) (-1) dX7_byTurns_110 rfl (by decide) ?_
          refine zi_goto (tgt := 115) dX7_byTurns_111 (by decide) ?_
          refine zi_istore8 (n := 117) dX7_byTurns_115 rfl (by decide) rfl ?_
          refine lc_X7 hk h1 hm ht (r := zF3 (Z 169) n m t a x f) (fun x8 x9 x10 x11 => ?_) (zkx t 2) _ (-1000000) f _ _ _ (hfc ▸ zkr t 2) (by rw [← hfc]; rfl)
          refine zi_iload7 (n := 238) dX7_byTurns_236 rfl ?_
          refine zi_ldc (n := 240) dX7_byTurns_238 rfl zl_X7_87 ?_
          refine zi_iceq (n := 243) (tgt := 262) dX7_byTurns_240 rfl (by decide) (fun h240 => ?_) (fun h240 => ?_)
          · have em : zminN w (zF3 (Z 169) n m t a x f).1 = w := if_neg (fun z => z.1 h240)
            refine zi_iload5 (n := 264) dX7_byTurns_262 rfl ?_
            refine zi_istore5 (n := 266) dX7_byTurns_264 rfl (by decide) rfl ?_
            refine zi_iinc6 (n := 269) _ dX7_byTurns_266 rfl (by decide) rfl rfl ?_
            refine zi_goto (tgt := 86) dX7_byTurns_269 (by decide) ?_
            exact ih _ _ _ _ _ _ _ _ (zrH_go hz).2 (by rw [← hr, zfoT, em])
          · refine zi_iload5 (n := 245) dX7_byTurns_243 rfl ?_
            refine zi_ldc (n := 247) dX7_byTurns_245 rfl zl_X7_87 ?_
            refine zi_iceq (n := 250) (tgt := 257) dX7_byTurns_247 rfl (by decide) (fun h247 => ?_) (fun h247 => ?_)
            · have em : zminN w (zF3 (Z 169) n m t a x f).1 = (zF3 (Z 169) n m t a x f).1 := if_pos ⟨h240, Or.inl h247⟩
              refine zi_iload7 (n := 259) dX7_byTurns_257 rfl ?_
              refine zi_goto (tgt := 264) dX7_byTurns_259 (by decide) ?_
              refine zi_istore5 (n := 266) dX7_byTurns_264 rfl (by decide) rfl ?_
              refine zi_iinc6 (n := 269) _ dX7_byTurns_266 rfl (by decide) rfl rfl ?_
              refine zi_goto (tgt := 86) dX7_byTurns_269 (by decide) ?_
              exact ih _ _ _ _ _ _ _ _ (zrH_go hz).2 (by rw [← hr, zfoT, em])
            · refine zi_iload7 (n := 252) dX7_byTurns_250 rfl ?_
              refine zi_iload5 (n := 254) dX7_byTurns_252 rfl ?_
              refine zi_icge (n := 257) (tgt := 262) dX7_byTurns_254 rfl (by decide) (fun h254 => ?_) (fun h254 => ?_)
              · have em : zminN w (zF3 (Z 169) n m t a x f).1 = w := if_neg (fun z => z.2.elim h247 (fun q => absurd q (Int32.not_lt.mpr h254)))
                refine zi_iload5 (n := 264) dX7_byTurns_262 rfl ?_
                refine zi_istore5 (n := 266) dX7_byTurns_264 rfl (by decide) rfl ?_
                refine zi_iinc6 (n := 269) _ dX7_byTurns_266 rfl (by decide) rfl rfl ?_
                refine zi_goto (tgt := 86) dX7_byTurns_269 (by decide) ?_
                exact ih _ _ _ _ _ _ _ _ (zrH_go hz).2 (by rw [← hr, zfoT, em])
              · have em : zminN w (zF3 (Z 169) n m t a x f).1 = (zF3 (Z 169) n m t a x f).1 := if_pos ⟨h240, Or.inr (Int32.not_le.mp h254)⟩
                refine zi_iload7 (n := 259) dX7_byTurns_257 rfl ?_
                refine zi_goto (tgt := 264) dX7_byTurns_259 (by decide) ?_
                refine zi_istore5 (n := 266) dX7_byTurns_264 rfl (by decide) rfl ?_
                refine zi_iinc6 (n := 269) _ dX7_byTurns_266 rfl (by decide) rfl rfl ?_
                refine zi_goto (tgt := 86) dX7_byTurns_269 (by decide) ?_
                exact ih _ _ _ _ _ _ _ _ (zrH_go hz).2 (by rw [← hr, zfoT, em])
set_option maxHeartbeats 4000000 in
set_option maxRecDepth 100000 in
theorem la_X7 (hk : zKd (Z 169) n) (h1 : 0 < n) (hm : m < 2 ^ 30) (ht : t ≤ 4) {r : Int32 × zF} : ∀ k (x w : Int32) (f : zF) (x5 x6 x7 x8 x9 x10 x11 : Option Value), zrH (zkh t 0) k x → zfoT zmaxN (fun a f => zF2 (Z 169) n m t a f) k x (w, f) = r → zG E zm_X7_byTurns 6 (some (.int r.1)) (Q, va_up Z 171 r.2) 56 [some (.ref (zad E 165)), some (.int (nI t)), some (.int (nI m)), some (.int w), some (.int x), x5, x6, x7, x8, x9, x10, x11] [] (Q, va_up Z 171 f) := by
  intro k
  induction k with
  | zero =>
    intro x w f x5 x6 x7 x8 x9 x10 x11 hz hr
    refine zi_iload4 (n := 58) dX7_byTurns_56 rfl ?_
    refine zi_iload1 (n := 59) dX7_byTurns_58 rfl ?_
    refine zi_ifle (n := 62) (tgt := 66) dX7_byTurns_59 rfl (by decide) (fun h59 => ?_) (fun h59 => ?_)
    · have q59 : ¬ 0 < t := by have := (nI_leI (b := 0) (by omega) (by omega)).mp h59; omega
      have hha : zkh t 0 = nI 0 := if_neg q59
      have hfa : zkf t 0 = nI 0 := if_neg q59
      refine zi_iconst (n := 67) (nI 0) dX7_byTurns_66 rfl (by decide) ?_
      refine zi_icgt (n := 70) (tgt := 291) dX7_byTurns_67 rfl (by decide) (fun h67 => ?_) (fun h67 => ?_)
      · rw [← hha] at h67
        subst hr
        refine zi_iload3 (n := 292) dX7_byTurns_291 rfl ?_
        exact zi_iret dX7_byTurns_292 rfl (by rfl) (by rfl)
      · rw [← hha] at h67
        exact absurd (zrH_end hz) h67
    · have q59 : 0 < t := by have := mt (nI_leI (b := 0) (by omega) (by omega)).mpr h59; omega
      have hha : zkh t 0 = nI 1 := if_pos q59
      have hfa : zkf t 0 = -1 := if_pos q59
      refine zi_iconst (n := 63) (nI 1) dX7_byTurns_62 rfl (by decide) ?_
      refine zi_goto (tgt := 67) dX7_byTurns_63 (by decide) ?_
      refine zi_icgt (n := 70) (tgt := 291) dX7_byTurns_67 rfl (by decide) (fun h67 => ?_) (fun h67 => ?_)
      · rw [← hha] at h67
        subst hr
        refine zi_iload3 (n := 292) dX7_byTurns_291 rfl ?_
        exact zi_iret dX7_byTurns_292 rfl (by rfl) (by rfl)
      · rw [← hha] at h67
        exact absurd (zrH_end hz) h67
  | succ k ih =>
    intro x w f x5 x6 x7 x8 x9 x10 x11 hz hr
    refine zi_iload4 (n := 58) dX7_byTurns_56 rfl ?_
    refine zi_iload1 (n := 59) dX7_byTurns_58 rfl ?_
    refine zi_ifle (n := 62) (tgt := 66) dX7_byTurns_59 rfl (by decide) (fun h59 => ?_) (fun h59 => ?_)
    · have q59 : ¬ 0 < t := by have := (nI_leI (b := 0) (by omega) (by omega)).mp h59; omega
      have hha : zkh t 0 = nI 0 := if_neg q59
      have hfa : zkf t 0 = nI 0 := if_neg q59
      refine zi_iconst (n := 67) (nI 0) dX7_byTurns_66 rfl (by decide) ?_
      refine zi_icgt (n := 70) (tgt := 291) dX7_byTurns_67 rfl (by decide) (fun h67 => ?_) (fun h67 => ?_)
      · rw [← hha] at h67
        exact absurd h67 (zrH_go hz).1
      · refine zi_ldc (n := 72) dX7_byTurns_70 rfl zl_X7_87 ?_
        refine zi_istore5 (n := 74) dX7_byTurns_72 rfl (by decide) rfl ?_
        refine zi_iload1 (n := 75) dX7_byTurns_74 rfl ?_
        refine zi_iconst (n := 76) (nI 1) dX7_byTurns_75 rfl (by decide) ?_
        refine zi_icle (n := 79) (tgt := 83) dX7_byTurns_76 rfl (by decide) (fun h76 => ?_) (fun h76 => ?_)
        · have q76 : ¬ 1 < t := by have := (nI_leI (b := 1) (by omega) (by omega)).mp h76; omega
          have hhb : zkh t 1 = nI 0 := if_neg q76
          have hfb : zkf t 1 = nI 0 := if_neg q76
          refine zi_iconst (n := 84) (nI 0) dX7_byTurns_83 rfl (by decide) ?_
          refine zi_istore6 (n := 86) dX7_byTurns_84 rfl (by decide) rfl ?_
          refine lb_X7 hk h1 hm ht (r := zF2 (Z 169) n m t x f) (fun x6 x7 x8 x9 x10 x11 => ?_) (zkx t 1) _ (-1000000) f _ _ _ _ _ (hfb ▸ zkr t 1) (by rw [← hfb]; rfl)
          refine zi_iload5 (n := 274) dX7_byTurns_272 rfl ?_
          refine zi_iload3 (n := 275) dX7_byTurns_274 rfl ?_
          refine zi_icle (n := 278) (tgt := 283) dX7_byTurns_275 rfl (by decide) (fun h275 => ?_) (fun h275 => ?_)
          · have e275 : zmaxN w (zF2 (Z 169) n m t x f).1 = w := if_neg (Int32.not_lt.mpr h275)
            refine zi_iload3 (n := 284) dX7_byTurns_283 rfl ?_
            refine zi_istore3 (n := 285) dX7_byTurns_284 rfl (by decide) rfl ?_
            refine zi_iinc4 (n := 288) _ dX7_byTurns_285 rfl (by decide) rfl rfl ?_
            refine zi_goto (tgt := 56) dX7_byTurns_288 (by decide) ?_
            exact ih _ _ _ _ _ _ _ _ _ _ (zrH_go hz).2 (by rw [← hr, zfoT, e275])
          · have e275 : zmaxN w (zF2 (Z 169) n m t x f).1 = (zF2 (Z 169) n m t x f).1 := if_pos (Int32.not_le.mp h275)
            refine zi_iload5 (n := 280) dX7_byTurns_278 rfl ?_
            refine zi_goto (tgt := 284) dX7_byTurns_280 (by decide) ?_
            refine zi_istore3 (n := 285) dX7_byTurns_284 rfl (by decide) rfl ?_
            refine zi_iinc4 (n := 288) _ dX7_byTurns_285 rfl (by decide) rfl rfl ?_
            refine zi_goto (tgt := 56) dX7_byTurns_288 (by decide) ?_
            exact ih _ _ _ _ _ _ _ _ _ _ (zrH_go hz).2 (by rw [← hr, zfoT, e275])
        · have q76 : 1 < t := by have := mt (nI_leI (b := 1) (by omega) (by omega)).mpr h76; omega
          have hhb : zkh t 1 = nI 1 := if_pos q76
          have hfb : zkf t 1 = -1 := if_pos q76
          refine zi_iconst (n := 80) (-1) dX7_byTurns_79 rfl (by decide) ?_
          refine zi_goto (tgt := 84) dX7_byTurns_80 (by decide) ?_
          refine zi_istore6 (n := 86) dX7_byTurns_84 rfl (by decide) rfl ?_
          refine lb_X7 hk h1 hm ht (r := zF2 (Z 169) n m t x f) (fun x6 x7 x8 x9 x10 x11 => ?_) (zkx t 1) _ (-1000000) f _ _ _ _ _ (hfb ▸ zkr t 1) (by rw [← hfb]; rfl)
          refine zi_iload5 (n := 274) dX7_byTurns_272 rfl ?_
          refine zi_iload3 (n := 275) dX7_byTurns_274 rfl ?_
          refine zi_icle (n := 278) (tgt := 283) dX7_byTurns_275 rfl (by decide) (fun h275 => ?_) (fun h275 => ?_)
          · have e275 : zmaxN w (zF2 (Z 169) n m t x f).1 = w := if_neg (Int32.not_lt.mpr h275)
            refine zi_iload3 (n := 284) dX7_byTurns_283 rfl ?_
            refine zi_istore3 (n := 285) dX7_byTurns_284 rfl (by decide) rfl ?_
            refine zi_iinc4 (n := 288) _ dX7_byTurns_285 rfl (by decide) rfl rfl ?_
            refine zi_goto (tgt := 56) dX7_byTurns_288 (by decide) ?_
            exact ih _ _ _ _ _ _ _ _ _ _ (zrH_go hz).2 (by rw [← hr, zfoT, e275])
          · have e275 : zmaxN w (zF2 (Z 169) n m t x f).1 = (zF2 (Z 169) n m t x f).1 := if_pos (Int32.not_le.mp h275)
            refine zi_iload5 (n := 280) dX7_byTurns_278 rfl ?_
            refine zi_goto (tgt := 284) dX7_byTurns_280 (by decide) ?_
            refine zi_istore3 (n := 285) dX7_byTurns_284 rfl (by decide) rfl ?_
            refine zi_iinc4 (n := 288) _ dX7_byTurns_285 rfl (by decide) rfl rfl ?_
            refine zi_goto (tgt := 56) dX7_byTurns_288 (by decide) ?_
            exact ih _ _ _ _ _ _ _ _ _ _ (zrH_go hz).2 (by rw [← hr, zfoT, e275])
    · have q59 : 0 < t := by have := mt (nI_leI (b := 0) (by omega) (by omega)).mpr h59; omega
      have hha : zkh t 0 = nI 1 := if_pos q59
      have hfa : zkf t 0 = -1 := if_pos q59
      refine zi_iconst (n := 63) (nI 1) dX7_byTurns_62 rfl (by decide) ?_
      refine zi_goto (tgt := 67) dX7_byTurns_63 (by decide) ?_
      refine zi_icgt (n := 70) (tgt := 291) dX7_byTurns_67 rfl (by decide) (fun h67 => ?_) (fun h67 => ?_)
      · rw [← hha] at h67
        exact absurd h67 (zrH_go hz).1
      · refine zi_ldc (n := 72) dX7_byTurns_70 rfl zl_X7_87 ?_
        refine zi_istore5 (n := 74) dX7_byTurns_72 rfl (by decide) rfl ?_
        refine zi_iload1 (n := 75) dX7_byTurns_74 rfl ?_
        refine zi_iconst (n := 76) (nI 1) dX7_byTurns_75 rfl (by decide) ?_
        refine zi_icle (n := 79) (tgt := 83) dX7_byTurns_76 rfl (by decide) (fun h76 => ?_) (fun h76 => ?_)
        · have q76 : ¬ 1 < t := by have := (nI_leI (b := 1) (by omega) (by omega)).mp h76; omega
          have hhb : zkh t 1 = nI 0 := if_neg q76
          have hfb : zkf t 1 = nI 0 := if_neg q76
          refine zi_iconst (n := 84) (nI 0) dX7_byTurns_83 rfl (by decide) ?_
          refine zi_istore6 (n := 86) dX7_byTurns_84 rfl (by decide) rfl ?_
          refine lb_X7 hk h1 hm ht (r := zF2 (Z 169) n m t x f) (fun x6 x7 x8 x9 x10 x11 => ?_) (zkx t 1) _ (-1000000) f _ _ _ _ _ (hfb ▸ zkr t 1) (by rw [← hfb]; rfl)
          refine zi_iload5 (n := 274) dX7_byTurns_272 rfl ?_
          refine zi_iload3 (n := 275) dX7_byTurns_274 rfl ?_
          refine zi_icle (n := 278) (tgt := 283) dX7_byTurns_275 rfl (by decide) (fun h275 => ?_) (fun h275 => ?_)
          · have e275 : zmaxN w (zF2 (Z 169) n m t x f).1 = w := if_neg (Int32.not_lt.mpr h275)
            refine zi_iload3 (n := 284) dX7_byTurns_283 rfl ?_
            refine zi_istore3 (n := 285) dX7_byTurns_284 rfl (by decide) rfl ?_
            refine zi_iinc4 (n := 288) _ dX7_byTurns_285 rfl (by decide) rfl rfl ?_
            refine zi_goto (tgt := 56) dX7_byTurns_288 (by decide) ?_
            exact ih _ _ _ _ _ _ _ _ _ _ (zrH_go hz).2 (by rw [← hr, zfoT, e275])
          · have e275 : zmaxN w (zF2 (Z 169) n m t x f).1 = (zF2 (Z 169) n m t x f).1 := if_pos (Int32.not_le.mp h275)
            refine zi_iload5 (n := 280) dX7_byTurns_278 rfl ?_
            refine zi_goto (tgt := 284) dX7_byTurns_280 (by decide) ?_
            refine zi_istore3 (n := 285) dX7_byTurns_284 rfl (by decide) rfl ?_
            refine zi_iinc4 (n := 288) _ dX7_byTurns_285 rfl (by decide) rfl rfl ?_
            refine zi_goto (tgt := 56) dX7_byTurns_288 (by decide) ?_
            exact ih _ _ _ _ _ _ _ _ _ _ (zrH_go hz).2 (by rw [← hr, zfoT, e275])
        · have q76 : 1 < t := by have := mt (nI_leI (b := 1) (by omega) (by omega)).mpr h76; omega
          have hhb : zkh t 1 = nI 1 := if_pos q76
          have hfb : zkf t 1 = -1 := if_pos q76
          refine zi_iconst (n := 80) (-1) dX7_byTurns_79 rfl (by decide) ?_
          refine zi_goto (tgt := 84) dX7_byTurns_80 (by decide) ?_
          refine zi_istore6 (n := 86) dX7_byTurns_84 rfl (by decide) rfl ?_
          refine lb_X7 hk h1 hm ht (r := zF2 (Z 169) n m t x f) (fun x6 x7 x8 x9 x10 x11 => ?_) (zkx t 1) _ (-1000000) f _ _ _ _ _ (hfb ▸ zkr t 1) (by rw [← hfb]; rfl)
          refine zi_iload5 (n := 274) dX7_byTurns_272 rfl ?_
          refine zi_iload3 (n := 275) dX7_byTurns_274 rfl ?_
          refine zi_icle (n := 278) (tgt := 283) dX7_byTurns_275 rfl (by decide) (fun h275 => ?_) (fun h275 => ?_)
          · have e275 : zmaxN w (zF2 (Z 169) n m t x f).1 = w := if_neg (Int32.not_lt.mpr h275)
            refine zi_iload3 (n := 284) dX7_byTurns_283 rfl ?_
            refine zi_istore3 (n := 285) dX7_byTurns_284 rfl (by decide) rfl ?_
            refine zi_iinc4 (n := 288) _ dX7_byTurns_285 rfl (by decide) rfl rfl ?_
            refine zi_goto (tgt := 56) dX7_byTurns_288 (by decide) ?_
            exact ih _ _ _ _ _ _ _ _ _ _ (zrH_go hz).2 (by rw [← hr, zfoT, e275])
          · have e275 : zmaxN w (zF2 (Z 169) n m t x f).1 = (zF2 (Z 169) n m t x f).1 := if_pos (Int32.not_le.mp h275)
            refine zi_iload5 (n := 280) dX7_byTurns_278 rfl ?_
            refine zi_goto (tgt := 284) dX7_byTurns_280 (by decide) ?_
            refine zi_istore3 (n := 285) dX7_byTurns_284 rfl (by decide) rfl ?_
            refine zi_iinc4 (n := 288) _ dX7_byTurns_285 rfl (by decide) rfl rfl ?_
            refine zi_goto (tgt := 56) dX7_byTurns_288 (by decide) ?_
            exact ih _ _ _ _ _ _ _ _ _ _ (zrH_go hz).2 (by rw [← hr, zfoT, e275])
set_option maxHeartbeats 4000000 in
set_option maxRecDepth 100000 in
theorem m_turns_ok (h0 : Z 165 0 = nI 0) (hk : zKd (Z 169) n) (hz : ¬ Z 169 0 ≤ 0) (h1 : 0 < n) {t : Nat} (ht : t ≤ 4) {m : Nat} (hm1 : 1 ≤ m) (hm2 : m ≤ 20) : zCT E 6 zm_X7_byTurns [.ref (zad E 165), .int (nI t), .int (nI m)] (Q, Z) (some (.int (zF1 (Z 169) n m t (Z 171)).1)) (Q, va_up Z 171 (zF1 (Z 169) n m t (Z 171)).2) := by
  refine zCT.of (by decide +kernel) (Nat.le_of_ble_eq_true rfl) ?_
  have a2 := zrg hm1 hm2 (by decide)
  have a3 : nI 0 ≤ nI t ∧ nI t ≤ nI 4 := zrg (by omega) ht (by decide)
  refine zi_aload0 (n := 1) dX7_byTurns_0 rfl ?_
  refine zi_iconst (n := 2) (nI 0) dX7_byTurns_1 rfl (by decide) ?_
  refine zp_X7_0 (n := 5) dX7_byTurns_2 rfl zl_X7_44 (zt0 h0) ?_
  refine zi_aload0 (n := 6) dX7_byTurns_5 rfl ?_
  refine zi_V0s (mj := zm_X7_isThere) (n := 9) dX7_byTurns_6 rfl zl_X7_171 zy_X7_isThere (zrc_X7 _ _) (by decide) (Nat.le_of_ble_eq_true rfl) (c_X7_isThere) ?_
  refine zi_ifne_b (n := 12) (tgt := 15) dX7_byTurns_9 rfl (by decide) (fun h9 => ?_) (fun h9 => ?_)
  · refine zi_iload1 (n := 16) dX7_byTurns_15 rfl ?_
    refine zi_i2l (n := 17) dX7_byTurns_16 rfl ?_
    refine zi_lconst (n := 18) ((nI 0).toInt64) dX7_byTurns_17 rfl (by decide) ?_
    refine zi_ldc2 (n := 21) dX7_byTurns_18 rfl zl_X7_219 ?_
    rw [show (4 : Int64) = (nI 4).toInt64 by decide]
    refine zi_S3s (mj := zm_X7_in) (n := 24) dX7_byTurns_21 rfl zl_X7_54 zy_X7_in (by decide) (Nat.le_of_ble_eq_true rfl) (c_X7_in) ?_
    refine zi_ifeq_b (n := 27) (tgt := 39) dX7_byTurns_24 rfl (by decide) (fun h24 => ?_) (fun h24 => ?_)
    · first | exact absurd a3 h24 | exact absurd h24 a3
    · refine zi_iload2 (n := 28) dX7_byTurns_27 rfl ?_
      refine zi_i2l (n := 29) dX7_byTurns_28 rfl ?_
      refine zi_lconst (n := 30) ((nI 1).toInt64) dX7_byTurns_29 rfl (by decide) ?_
      refine zi_ldc2 (n := 33) dX7_byTurns_30 rfl zl_X7_221 ?_
      rw [show (20 : Int64) = (nI 20).toInt64 by decide]
      refine zi_S3s (mj := zm_X7_in) (n := 36) dX7_byTurns_33 rfl zl_X7_54 zy_X7_in (by decide) (Nat.le_of_ble_eq_true rfl) (c_X7_in) ?_
      refine zi_ifne_b (n := 39) (tgt := 42) dX7_byTurns_36 rfl (by decide) (fun h36 => ?_) (fun h36 => ?_)
      · refine zi_ldc (n := 44) dX7_byTurns_42 rfl zl_X7_87 ?_
        refine zi_istore3 (n := 45) dX7_byTurns_44 rfl (by decide) rfl ?_
        refine zi_iload1 (n := 46) dX7_byTurns_45 rfl ?_
        refine zi_ifle (n := 49) (tgt := 53) dX7_byTurns_46 rfl (by decide) (fun h46 => ?_) (fun h46 => ?_)
        · have q46 : ¬ 0 < t := by have := (nI_leI (b := 0) (by omega) (by omega)).mp h46; omega
          have hha : zkh t 0 = nI 0 := if_neg q46
          have hfa : zkf t 0 = nI 0 := if_neg q46
          refine zi_iconst (n := 54) (nI 0) dX7_byTurns_53 rfl (by decide) ?_
          refine zi_istore4 (n := 56) dX7_byTurns_54 rfl (by decide) rfl ?_
          refine zG_eqM (M2 := (Q, va_up Z 171 (Z 171))) (by rw [zup_same]) ?_
          exact la_X7 hk h1 (by omega) ht (zkx t 0) _ (-1000000) (Z 171) none none none none none none none (hfa ▸ zkr t 0) (by rw [← hfa]; rfl)
        · have q46 : 0 < t := by have := mt (nI_leI (b := 0) (by omega) (by omega)).mpr h46; omega
          have hha : zkh t 0 = nI 1 := if_pos q46
          have hfa : zkf t 0 = -1 := if_pos q46
          refine zi_iconst (n := 50) (-1) dX7_byTurns_49 rfl (by decide) ?_
          refine zi_goto (tgt := 54) dX7_byTurns_50 (by decide) ?_
          refine zi_istore4 (n := 56) dX7_byTurns_54 rfl (by decide) rfl ?_
          refine zG_eqM (M2 := (Q, va_up Z 171 (Z 171))) (by rw [zup_same]) ?_
          exact la_X7 hk h1 (by omega) ht (zkx t 0) _ (-1000000) (Z 171) none none none none none none none (hfa ▸ zkr t 0) (by rw [← hfa]; rfl)
      · first | exact absurd a2 h36 | exact absurd h36 a2
  · first | exact absurd hz h9 | exact absurd h9 hz
end
end ZM7
