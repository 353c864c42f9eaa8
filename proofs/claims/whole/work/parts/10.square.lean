section ZX4
variable {E : zE} {Q : Nat → Nat → Nat → Int32} {Z : Nat → Nat → Int32} {j : Nat} {S : zS} {n : Nat}
set_option maxHeartbeats 4000000 in
set_option maxRecDepth 100000 in
theorem c_X4_has (hj : j < 29) {x : Int32} : zCT E 0 zm_X4_has [.ref (zad E (zsq j)), .int x] (va_up Q j S, Z) (some (.int (zb (¬ x < 0 ∧ ¬ S 0 0 ≤ x)))) (va_up Q j S, Z) := by
  refine zCT.of (by decide +kernel) (Nat.le_of_ble_eq_true rfl) ?_
  refine zi_iload1 (n := 1) dX4_has_0 rfl ?_
  refine zi_iflt (n := 4) (tgt := 16) dX4_has_1 rfl (by decide) (fun h1 => ?_) (fun h1 => ?_)
  · refine zi_iconst (n := 17) (nI 0) dX4_has_16 rfl (by decide) ?_
    exact zi_zretF dX4_has_17 rfl (by simp [h1]) rfl (by rfl)
  · refine zi_iload1 (n := 5) dX4_has_4 rfl ?_
    refine zi_aload0 (n := 6) dX4_has_5 rfl ?_
    refine zg_X4_0 (n := 9) dX4_has_6 rfl zl_X4_29 (by omega) (zfs _ _ _ _ _ _) ?_
    refine zi_icge (n := 12) (tgt := 16) dX4_has_9 rfl (by decide) (fun h9 => ?_) (fun h9 => ?_)
    · refine zi_iconst (n := 17) (nI 0) dX4_has_16 rfl (by decide) ?_
      exact zi_zretF dX4_has_17 rfl (by simp [h1, h9]) rfl (by rfl)
    · refine zi_iconst (n := 13) (nI 1) dX4_has_12 rfl (by decide) ?_
      refine zi_goto (tgt := 17) dX4_has_13 (by decide) ?_
      exact zi_zretT dX4_has_17 rfl (by simp [h1, h9]) rfl (by rfl)
set_option maxHeartbeats 4000000 in
set_option maxRecDepth 100000 in
theorem c_X4_isHidden (hj : j < 29) {p : Nat} : zCT E 0 zm_X4_isHidden [.ref (zad E (zsq j)), .int (nI p)] (va_up Q j S, Z) (some (.int (zb (¬ hidC S p = 0)))) (va_up Q j S, Z) := by
  refine zCT.of (by decide +kernel) (Nat.le_of_ble_eq_true rfl) ?_
  refine zi_aload0 (n := 1) dX4_isHidden_0 rfl ?_
  refine zg_X4_6 (n := 4) dX4_isHidden_1 rfl zl_X4_47 (by omega) (zfs _ _ _ _ _ _) ?_
  refine zi_iload1 (n := 5) dX4_isHidden_4 rfl ?_
  refine zi_ishr (n := 6) dX4_isHidden_5 rfl ?_
  refine zi_iconst (n := 7) (nI 1) dX4_isHidden_6 rfl (by decide) ?_
  refine zi_iand (n := 8) dX4_isHidden_7 rfl ?_
  refine zi_ifeq (n := 11) (tgt := 15) dX4_isHidden_8 rfl (by decide) (fun h8 => ?_) (fun h8 => ?_)
  · refine zi_iconst (n := 16) (nI 0) dX4_isHidden_15 rfl (by decide) ?_
    exact zi_zretF dX4_isHidden_16 rfl (by simp [hidC, h8]) rfl (by rfl)
  · refine zi_iconst (n := 12) (nI 1) dX4_isHidden_11 rfl (by decide) ?_
    refine zi_goto (tgt := 16) dX4_isHidden_12 (by decide) ?_
    exact zi_zretT dX4_isHidden_16 rfl (by simp [hidC, h8]) rfl (by rfl)
set_option maxHeartbeats 4000000 in
set_option maxRecDepth 100000 in
theorem c_X4_allBits (hj : j < 29) : zCT E 0 zm_X4_allBits [.ref (zad E (zsq j))] (va_up Q j S, Z) (some (.int (allC S))) (va_up Q j S, Z) := by
  refine zCT.of (by decide +kernel) (Nat.le_of_ble_eq_true rfl) ?_
  refine zi_iconst (n := 1) (nI 1) dX4_allBits_0 rfl (by decide) ?_
  refine zi_aload0 (n := 2) dX4_allBits_1 rfl ?_
  refine zg_X4_0 (n := 5) dX4_allBits_2 rfl zl_X4_29 (by omega) (zfs _ _ _ _ _ _) ?_
  refine zi_ishl (n := 6) dX4_allBits_5 rfl ?_
  refine zi_iconst (n := 7) (nI 1) dX4_allBits_6 rfl (by decide) ?_
  refine zi_isub (n := 8) dX4_allBits_7 rfl ?_
  exact zi_iret dX4_allBits_8 rfl (by rfl) (by rfl)
set_option maxHeartbeats 4000000 in
set_option maxRecDepth 100000 in
theorem c_X4_nearOf (hj : j < 29) {p : Nat} (hp : p < 6) : zCT E 1 zm_X4_nearOf [.ref (zad E (zsq j)), .int (nI p)] (va_up Q j S, Z) (some (.int (nearC S p))) (va_up Q j S, Z) := by
  refine zCT.of (by decide +kernel) (Nat.le_of_ble_eq_true rfl) ?_
  refine zi_aload0 (n := 1) dX4_nearOf_0 rfl ?_
  refine zg_X4_10 (n := 4) dX4_nearOf_1 rfl zl_X4_20 (by omega) ?_
  refine zi_iload1 (n := 5) dX4_nearOf_4 rfl ?_
  refine zi_qald (n := 6) dX4_nearOf_5 rfl (by omega) (by decide) rfl (by omega) (zfs _ _ _ _ _ _) ?_
  refine zi_aload0 (n := 7) dX4_nearOf_6 rfl ?_
  refine zg_X4_1 (n := 10) dX4_nearOf_7 rfl zl_X4_32 (by omega) (zfs _ _ _ _ _ _) ?_
  refine zi_isub (n := 11) dX4_nearOf_10 rfl ?_
  refine zi_S1s (mj := zm_J9_abs_0f7a4) (n := 14) dX4_nearOf_11 rfl zl_X4_56 zy_J9_abs_0f7a4 (by decide) (Nat.le_of_ble_eq_true rfl) (c_J9_abs_0f7a4) ?_
  refine zi_aload0 (n := 15) dX4_nearOf_14 rfl ?_
  refine zg_X4_11 (n := 18) dX4_nearOf_15 rfl zl_X4_23 (by omega) ?_
  refine zi_iload1 (n := 19) dX4_nearOf_18 rfl ?_
  refine zi_qald (n := 20) dX4_nearOf_19 rfl (by omega) (by decide) rfl (by omega) (zfs _ _ _ _ _ _) ?_
  refine zi_iadd (n := 21) dX4_nearOf_20 rfl ?_
  exact zi_iret dX4_nearOf_21 rfl (by rfl) (by rfl)
set_option maxHeartbeats 4000000 in
set_option maxRecDepth 100000 in
theorem l_X4_allLetters (hj : j < 29) (hn : S 0 0 = nI n) (h6 : n ≤ 6) : ∀ k p, n - p < k → p ≤ n → zG E zm_X4_allLetters 0 (some (.int (zsum (S 4) n))) (va_up Q j S, Z) 4 [some (.ref (zad E (zsq j))), some (.int (zsum (S 4) p)), some (.int (nI p))] [] (va_up Q j S, Z) := by
  intro k
  induction k with
  | zero => intro p h; omega
  | succ k ih =>
    intro p h1 h2
    refine zi_iload2 (n := 5) dX4_allLetters_4 rfl ?_
    refine zi_aload0 (n := 6) dX4_allLetters_5 rfl ?_
    refine zg_X4_0 (n := 9) dX4_allLetters_6 rfl zl_X4_29 (by omega) ((zfs _ _ _ _ _ _).trans hn) ?_
    refine zi_icge (n := 12) (tgt := 27) dX4_allLetters_9 rfl (by decide) (fun h9 => ?_) (fun h9 => ?_)
    · have e : p = n := by have := (nI_leI (by omega) (by omega)).mp h9; omega
      subst e
      refine zi_iload1 (n := 28) dX4_allLetters_27 rfl ?_
      exact zi_iret dX4_allLetters_28 rfl (by rfl) (by rfl)
    · have e : p < n := by have := mt (nI_leI (by omega) (by omega)).mpr h9; omega
      refine zi_iload1 (n := 13) dX4_allLetters_12 rfl ?_
      refine zi_aload0 (n := 14) dX4_allLetters_13 rfl ?_
      refine zg_X4_12 (n := 17) dX4_allLetters_14 rfl zl_X4_26 (by omega) ?_
      refine zi_iload2 (n := 18) dX4_allLetters_17 rfl ?_
      refine zi_qald (n := 19) dX4_allLetters_18 rfl (by omega) (by decide) rfl (by omega) (zfs _ _ _ _ _ _) ?_
      refine zi_iadd (n := 20) dX4_allLetters_19 rfl ?_
      refine zi_istore1 (n := 21) dX4_allLetters_20 rfl (by decide) rfl ?_
      refine zi_iinc2 (n := 24) (nI (p + 1)) dX4_allLetters_21 rfl (by decide) rfl (zi1 _) ?_
      refine zi_goto (tgt := 4) dX4_allLetters_24 (by decide) ?_
      exact ih (p + 1) (by omega) (by omega)
set_option maxHeartbeats 4000000 in
set_option maxRecDepth 100000 in
theorem c_X4_allLetters (hj : j < 29) (hn : S 0 0 = nI n) (h6 : n ≤ 6) : zCT E 0 zm_X4_allLetters [.ref (zad E (zsq j))] (va_up Q j S, Z) (some (.int (zsum (S 4) n))) (va_up Q j S, Z) := by
  refine zCT.of (by decide +kernel) (Nat.le_of_ble_eq_true rfl) ?_
  refine zi_iconst (n := 1) (nI 0) dX4_allLetters_0 rfl (by decide) ?_
  refine zi_istore1 (n := 2) dX4_allLetters_1 rfl (by decide) rfl ?_
  refine zi_iconst (n := 3) (nI 0) dX4_allLetters_2 rfl (by decide) ?_
  refine zi_istore2 (n := 4) dX4_allLetters_3 rfl (by decide) rfl ?_
  exact l_X4_allLetters hj hn h6 (n + 1) 0 (by omega) (by omega)
set_option maxHeartbeats 4000000 in
set_option maxRecDepth 100000 in
theorem l_X4_namelessBits (hj : j < 29) (hn : S 0 0 = nI n) (h6 : n ≤ 6) : ∀ k p, n - p < k → p ≤ n → zG E zm_X4_namelessBits 0 (some (.int (zbits (fun p => decide (S 4 p = 0)) n))) (va_up Q j S, Z) 4 [some (.ref (zad E (zsq j))), some (.int (zbits (fun p => decide (S 4 p = 0)) p)), some (.int (nI p))] [] (va_up Q j S, Z) := by
  intro k
  induction k with
  | zero => intro p h; omega
  | succ k ih =>
    intro p h1 h2
    refine zi_iload2 (n := 5) dX4_namelessBits_4 rfl ?_
    refine zi_aload0 (n := 6) dX4_namelessBits_5 rfl ?_
    refine zg_X4_0 (n := 9) dX4_namelessBits_6 rfl zl_X4_29 (by omega) ((zfs _ _ _ _ _ _).trans hn) ?_
    refine zi_icge (n := 12) (tgt := 33) dX4_namelessBits_9 rfl (by decide) (fun h9 => ?_) (fun h9 => ?_)
    · have e : p = n := by have := (nI_leI (by omega) (by omega)).mp h9; omega
      subst e
      refine zi_iload1 (n := 34) dX4_namelessBits_33 rfl ?_
      exact zi_iret dX4_namelessBits_34 rfl (by rfl) (by rfl)
    · have e : p < n := by have := mt (nI_leI (by omega) (by omega)).mpr h9; omega
      refine zi_aload0 (n := 13) dX4_namelessBits_12 rfl ?_
      refine zg_X4_12 (n := 16) dX4_namelessBits_13 rfl zl_X4_26 (by omega) ?_
      refine zi_iload2 (n := 17) dX4_namelessBits_16 rfl ?_
      refine zi_qald (n := 18) dX4_namelessBits_17 rfl (by omega) (by decide) rfl (by omega) (zfs _ _ _ _ _ _) ?_
      refine zi_ifne (n := 21) (tgt := 27) dX4_namelessBits_18 rfl (by decide) (fun h18 => ?_) (fun h18 => ?_)
      · refine zi_iinc2 (n := 30) (nI (p + 1)) dX4_namelessBits_27 rfl (by decide) rfl (zi1 _) ?_
        refine zi_goto (tgt := 4) dX4_namelessBits_30 (by decide) ?_
        have f := ih (p + 1) (by omega) (by omega)
        simp only [zbits, h18, decide_true, decide_false, if_true, if_false, Bool.false_eq_true] at f
        exact f
      · refine zi_iload1 (n := 22) dX4_namelessBits_21 rfl ?_
        refine zi_iconst (n := 23) (nI 1) dX4_namelessBits_22 rfl (by decide) ?_
        refine zi_iload2 (n := 24) dX4_namelessBits_23 rfl ?_
        refine zi_ishl (n := 25) dX4_namelessBits_24 rfl ?_
        refine zi_ior (n := 26) dX4_namelessBits_25 rfl ?_
        refine zi_istore1 (n := 27) dX4_namelessBits_26 rfl (by decide) rfl ?_
        refine zi_iinc2 (n := 30) (nI (p + 1)) dX4_namelessBits_27 rfl (by decide) rfl (zi1 _) ?_
        refine zi_goto (tgt := 4) dX4_namelessBits_30 (by decide) ?_
        have f := ih (p + 1) (by omega) (by omega)
        simp only [zbits, h18, decide_true, decide_false, if_true, if_false, Bool.false_eq_true] at f
        exact f
set_option maxHeartbeats 4000000 in
set_option maxRecDepth 100000 in
theorem c_X4_namelessBits (hj : j < 29) (hn : S 0 0 = nI n) (h6 : n ≤ 6) : zCT E 0 zm_X4_namelessBits [.ref (zad E (zsq j))] (va_up Q j S, Z) (some (.int (zbits (fun p => decide (S 4 p = 0)) n))) (va_up Q j S, Z) := by
  refine zCT.of (by decide +kernel) (Nat.le_of_ble_eq_true rfl) ?_
  refine zi_iconst (n := 1) (nI 0) dX4_namelessBits_0 rfl (by decide) ?_
  refine zi_istore1 (n := 2) dX4_namelessBits_1 rfl (by decide) rfl ?_
  refine zi_iconst (n := 3) (nI 0) dX4_namelessBits_2 rfl (by decide) ?_
  refine zi_istore2 (n := 4) dX4_namelessBits_3 rfl (by decide) rfl ?_
  exact l_X4_namelessBits hj hn h6 (n + 1) 0 (by omega) (by omega)
def bnC (S : zS) : Option Nat → Int32
  | none => nI 0
  | some k => nearC S k
set_option maxHeartbeats 4000000 in
set_option maxRecDepth 100000 in
theorem l_X4_nextBitten (hj : j < 29) (hn : S 0 0 = nI n) (h6 : n ≤ 6) : ∀ k p (b : Option Nat) (x4 : Option Value), n - p < k → p ≤ n → zNx (elC S) (nearC S) (S 4) p = b → zG E zm_X4_nextBitten 2 (some (.int (encO (zNx (elC S) (nearC S) (S 4) n)))) (va_up Q j S, Z) 17 [some (.ref (zad E (zsq j))), some (.int (encO b)), some (.int (bnC S b)), some (.int (nI p)), x4] [] (va_up Q j S, Z) := by
  intro k
  induction k with
  | zero => intro p b x4 h; omega
  | succ k ih =>
    intro p b x4 h1 h2 hb
    refine zi_iload3 (n := 18) dX4_nextBitten_17 rfl ?_
    refine zi_aload0 (n := 19) dX4_nextBitten_18 rfl ?_
    refine zg_X4_0 (n := 22) dX4_nextBitten_19 rfl zl_X4_29 (by omega) ((zfs _ _ _ _ _ _).trans hn) ?_
    refine zi_icge (n := 25) (tgt := 94) dX4_nextBitten_22 rfl (by decide) (fun h22 => ?_) (fun h22 => ?_)
    · have e : p = n := by have := (nI_leI (by omega) (by omega)).mp h22; omega
      subst e
      subst hb
      refine zi_iload1 (n := 95) dX4_nextBitten_94 rfl ?_
      exact zi_iret dX4_nextBitten_95 rfl (by rfl) (by rfl)
    · have e : p < n := by have := mt (nI_leI (by omega) (by omega)).mpr h22; omega
      have fin : ∀ (b2 : Option Nat) (x5 : Option Value), zNx (elC S) (nearC S) (S 4) (p + 1) = b2 → zG E zm_X4_nextBitten 2 (some (.int (encO (zNx (elC S) (nearC S) (S 4) n)))) (va_up Q j S, Z) 88 [some (.ref (zad E (zsq j))), some (.int (encO b2)), some (.int (bnC S b2)), some (.int (nI p)), x5] [] (va_up Q j S, Z) := by
        intro b2 x5 hb2
        refine zi_iinc3 (n := 91) (nI (p + 1)) dX4_nextBitten_88 rfl (by decide) rfl (zi1 _) ?_
        refine zi_goto (tgt := 17) dX4_nextBitten_91 (by decide) ?_
        exact ih (p + 1) b2 x5 (by omega) (by omega) hb2
      refine zi_aload0 (n := 26) dX4_nextBitten_25 rfl ?_
      refine zg_X4_12 (n := 29) dX4_nextBitten_26 rfl zl_X4_26 (by omega) ?_
      refine zi_iload3 (n := 30) dX4_nextBitten_29 rfl ?_
      refine zi_qald (n := 31) dX4_nextBitten_30 rfl (by omega) (by decide) rfl (by omega) (zfs _ _ _ _ _ _) ?_
      refine zi_ifeq (n := 34) (tgt := 88) dX4_nextBitten_31 rfl (by decide) (fun h31 => ?_) (fun h31 => ?_)
      · first | exact fin b _ (by rw [zNx, hb]; cases b <;> simp [elC, h22, h31]) | exact fin (some i) _ (by rw [zNx, hb]; simp [elC, h22, h31])
      · refine zi_aload0 (n := 35) dX4_nextBitten_34 rfl ?_
        refine zi_iload3 (n := 36) dX4_nextBitten_35 rfl ?_
        refine zi_V1s (mj := zm_X4_isHidden) (n := 39) dX4_nextBitten_36 rfl zl_X4_62 zy_X4_isHidden (zrc_sq _ _ (by omega)) (by decide) (Nat.le_of_ble_eq_true rfl) (c_X4_isHidden hj) ?_
        refine zi_ifeq_b (n := 42) (tgt := 45) dX4_nextBitten_39 rfl (by decide) (fun h39 => ?_) (fun h39 => ?_)
        · refine zi_aload0 (n := 46) dX4_nextBitten_45 rfl ?_
          refine zi_iload3 (n := 47) dX4_nextBitten_46 rfl ?_
          refine zi_V1s (mj := zm_X4_nearOf) (n := 50) dX4_nextBitten_47 rfl zl_X4_66 zy_X4_nearOf (zrc_sq _ _ (by omega)) (by decide) (Nat.le_of_ble_eq_true rfl) (c_X4_nearOf hj (by omega)) ?_
          refine zi_istore4 (n := 52) dX4_nextBitten_50 rfl (by decide) rfl ?_
          rcases b with _ | i
          · refine zi_iload1 (n := 53) dX4_nextBitten_52 rfl ?_
            refine zi_iflt (n := 56) (tgt := 83) dX4_nextBitten_53 rfl (by decide) (fun h53 => ?_) (fun h53 => absurd (by decide) h53)
            refine zi_iload3 (n := 84) dX4_nextBitten_83 rfl ?_
            refine zi_istore1 (n := 85) dX4_nextBitten_84 rfl (by decide) rfl ?_
            refine zi_iload4 (n := 87) dX4_nextBitten_85 rfl ?_
            refine zi_istore2 (n := 88) dX4_nextBitten_87 rfl (by decide) rfl ?_
            exact fin (some p) _ (by rw [zNx, hb]; simp [elC, h22, h31, h39])
          have hi := zNx_lt hb
          refine zi_iload1 (n := 53) dX4_nextBitten_52 rfl ?_
          refine zi_iflt (n := 56) (tgt := 83) dX4_nextBitten_53 rfl (by decide) (fun h53 => absurd h53 (nI_pos (by omega))) (fun h53 => ?_)
          change zG _ _ _ _ _ 56 [_, some (.int (nI i)), some (.int (nearC S i)), _, _] [] _
          refine zi_iload4 (n := 58) dX4_nextBitten_56 rfl ?_
          refine zi_iload2 (n := 59) dX4_nextBitten_58 rfl ?_
          refine zi_iclt (n := 62) (tgt := 83) dX4_nextBitten_59 rfl (by decide) (fun h59 => ?_) (fun h59 => ?_)
          · refine zi_iload3 (n := 84) dX4_nextBitten_83 rfl ?_
            refine zi_istore1 (n := 85) dX4_nextBitten_84 rfl (by decide) rfl ?_
            refine zi_iload4 (n := 87) dX4_nextBitten_85 rfl ?_
            refine zi_istore2 (n := 88) dX4_nextBitten_87 rfl (by decide) rfl ?_
            exact fin (some p) _ (by rw [zNx, hb]; simp [elC, h22, h31, h39, h59])
          · refine zi_iload4 (n := 64) dX4_nextBitten_62 rfl ?_
            refine zi_iload2 (n := 65) dX4_nextBitten_64 rfl ?_
            refine zi_icne (n := 68) (tgt := 88) dX4_nextBitten_65 rfl (by decide) (fun h65 => ?_) (fun h65 => ?_)
            · first | exact fin b _ (by rw [zNx, hb]; cases b <;> simp [elC, h22, h31, h39, h59, h65]) | exact fin (some i) _ (by rw [zNx, hb]; simp [elC, h22, h31, h39, h59, h65])
            · refine zi_aload0 (n := 69) dX4_nextBitten_68 rfl ?_
              refine zg_X4_12 (n := 72) dX4_nextBitten_69 rfl zl_X4_26 (by omega) ?_
              refine zi_iload3 (n := 73) dX4_nextBitten_72 rfl ?_
              refine zi_qald (n := 74) dX4_nextBitten_73 rfl (by omega) (by decide) rfl (by omega) (zfs _ _ _ _ _ _) ?_
              refine zi_aload0 (n := 75) dX4_nextBitten_74 rfl ?_
              refine zg_X4_12 (n := 78) dX4_nextBitten_75 rfl zl_X4_26 (by omega) ?_
              refine zi_iload1 (n := 79) dX4_nextBitten_78 rfl ?_
              refine zi_qald (n := 80) dX4_nextBitten_79 rfl (by omega) (by decide) rfl (by omega) (zfs _ _ _ _ _ _) ?_
              refine zi_icle (n := 83) (tgt := 88) dX4_nextBitten_80 rfl (by decide) (fun h80 => ?_) (fun h80 => ?_)
              · have h80 := Int32.not_lt.mpr h80
                first | exact fin b _ (by rw [zNx, hb]; cases b <;> simp [elC, h22, h31, h39, h59, h65, h80]) | exact fin (some i) _ (by rw [zNx, hb]; simp [elC, h22, h31, h39, h59, h65, h80])
              · have h80 := Int32.not_le.mp h80
                refine zi_iload3 (n := 84) dX4_nextBitten_83 rfl ?_
                refine zi_istore1 (n := 85) dX4_nextBitten_84 rfl (by decide) rfl ?_
                refine zi_iload4 (n := 87) dX4_nextBitten_85 rfl ?_
                refine zi_istore2 (n := 88) dX4_nextBitten_87 rfl (by decide) rfl ?_
                exact fin (some p) _ (by rw [zNx, hb]; simp [elC, h22, h31, h39, h59, h65, h80])
        · refine zi_goto (tgt := 88) dX4_nextBitten_42 (by decide) ?_
          first | exact fin b _ (by rw [zNx, hb]; cases b <;> simp [elC, h22, h31, h39]) | exact fin (some i) _ (by rw [zNx, hb]; simp [elC, h22, h31, h39])
set_option maxHeartbeats 4000000 in
set_option maxRecDepth 100000 in
theorem c_X4_nextBitten (hj : j < 29) (hn : S 0 0 = nI n) (h6 : n ≤ 6) : zCT E 2 zm_X4_nextBitten [.ref (zad E (zsq j))] (va_up Q j S, Z) (some (.int (encO (nextC S n)))) (va_up Q j S, Z) := by
  refine zCT.of (by decide +kernel) (Nat.le_of_ble_eq_true rfl) ?_
  refine zi_aload0 (n := 1) dX4_nextBitten_0 rfl ?_
  refine zg_X4_3 (n := 4) dX4_nextBitten_1 rfl zl_X4_38 (by omega) (zfs _ _ _ _ _ _) ?_
  refine zi_ifle (n := 7) (tgt := 10) dX4_nextBitten_4 rfl (by decide) (fun h4 => ?_) (fun h4 => ?_)
  · refine zi_ldc (n := 12) dX4_nextBitten_10 rfl zl_X4_9 ?_
    refine zi_istore1 (n := 13) dX4_nextBitten_12 rfl (by decide) rfl ?_
    refine zi_iconst (n := 14) (nI 0) dX4_nextBitten_13 rfl (by decide) ?_
    refine zi_istore2 (n := 15) dX4_nextBitten_14 rfl (by decide) rfl ?_
    refine zi_iconst (n := 16) (nI 0) dX4_nextBitten_15 rfl (by decide) ?_
    refine zi_istore3 (n := 17) dX4_nextBitten_16 rfl (by decide) rfl ?_
    rw [show nextC S n = zNx (elC S) (nearC S) (S 4) n from if_pos h4]
    exact l_X4_nextBitten hj hn h6 (n + 1) 0 none none (by omega) (by omega) rfl
  · refine zi_ldc (n := 9) dX4_nextBitten_7 rfl zl_X4_9 ?_
    exact zi_iret dX4_nextBitten_9 rfl (by simp [nextC, h4, encO]) (by rfl)
set_option maxHeartbeats 4000000 in
set_option maxRecDepth 100000 in
theorem c_X4_isSpatOut (hj : j < 29) {p : Nat} (hp : p < 6) : zCT E 0 zm_X4_isSpatOut [.ref (zad E (zsq j)), .int (nI p)] (va_up Q j S, Z) (some (.int (zb (spatC S p = true)))) (va_up Q j S, Z) := by
  refine zCT.of (by decide +kernel) (Nat.le_of_ble_eq_true rfl) ?_
  refine zi_aload0 (n := 1) dX4_isSpatOut_0 rfl ?_
  refine zg_X4_9 (n := 4) dX4_isSpatOut_1 rfl zl_X4_16 (by omega) ?_
  refine zi_iload1 (n := 5) dX4_isSpatOut_4 rfl ?_
  refine zi_qald (n := 6) dX4_isSpatOut_5 rfl (by omega) (by decide) rfl (by omega) (zfs _ _ _ _ _ _) ?_
  refine zi_iconst (n := 7) (nI 2) dX4_isSpatOut_6 rfl (by decide) ?_
  refine zi_icne (n := 10) (tgt := 25) dX4_isSpatOut_7 rfl (by decide) (fun h7 => ?_) (fun h7 => ?_)
  · refine zi_iconst (n := 26) (nI 0) dX4_isSpatOut_25 rfl (by decide) ?_
    exact zi_zretF dX4_isSpatOut_26 rfl (by simp [spatC, h7]) rfl (by rfl)
  · refine zi_aload0 (n := 11) dX4_isSpatOut_10 rfl ?_
    refine zg_X4_12 (n := 14) dX4_isSpatOut_11 rfl zl_X4_26 (by omega) ?_
    refine zi_iload1 (n := 15) dX4_isSpatOut_14 rfl ?_
    refine zi_qald (n := 16) dX4_isSpatOut_15 rfl (by omega) (by decide) rfl (by omega) (zfs _ _ _ _ _ _) ?_
    refine zi_iconst (n := 17) (nI 2) dX4_isSpatOut_16 rfl (by decide) ?_
    refine zi_irem (n := 18) dX4_isSpatOut_17 rfl (by decide) ?_
    refine zi_ifeq (n := 21) (tgt := 25) dX4_isSpatOut_18 rfl (by decide) (fun h18 => ?_) (fun h18 => ?_)
    · refine zi_iconst (n := 26) (nI 0) dX4_isSpatOut_25 rfl (by decide) ?_
      exact zi_zretF dX4_isSpatOut_26 rfl (by simp [spatC, h7, h18]) rfl (by rfl)
    · refine zi_iconst (n := 22) (nI 1) dX4_isSpatOut_21 rfl (by decide) ?_
      refine zi_goto (tgt := 26) dX4_isSpatOut_22 (by decide) ?_
      exact zi_zretT dX4_isSpatOut_26 rfl (by simp [spatC, h7, h18]) rfl (by rfl)
set_option maxHeartbeats 4000000 in
set_option maxRecDepth 100000 in
theorem c_X4_biteOf (hj : j < 29) {p : Nat} (hp : p < 6) : zCT E 0 zm_X4_biteOf [.ref (zad E (zsq j)), .int (nI p)] (va_up Q j S, Z) (some (.int (biteOfC S p))) (va_up Q j S, Z) := by
  refine zCT.of (by decide +kernel) (Nat.le_of_ble_eq_true rfl) ?_
  refine zi_aload0 (n := 1) dX4_biteOf_0 rfl ?_
  refine zg_X4_9 (n := 4) dX4_biteOf_1 rfl zl_X4_16 (by omega) ?_
  refine zi_iload1 (n := 5) dX4_biteOf_4 rfl ?_
  refine zi_qald (n := 6) dX4_biteOf_5 rfl (by omega) (by decide) rfl (by omega) (zfs _ _ _ _ _ _) ?_
  by_cases h4 : S 1 p = nI 4
  · refine zi_lookup (tgt := 32) dX4_biteOf_6 (by decide) (by rw [h4]) (by decide) ?_
    refine zi_aload0 (n := 33) dX4_biteOf_32 rfl ?_
    refine zg_X4_12 (n := 36) dX4_biteOf_33 rfl zl_X4_26 (by omega) ?_
    refine zi_iload1 (n := 37) dX4_biteOf_36 rfl ?_
    refine zi_qald (n := 38) dX4_biteOf_37 rfl (by omega) (by decide) rfl (by omega) (zfs _ _ _ _ _ _) ?_
    refine zi_iconst (n := 39) (nI 1) dX4_biteOf_38 rfl (by decide) ?_
    refine zi_iadd (n := 40) dX4_biteOf_39 rfl ?_
    refine zi_iconst (n := 41) (nI 2) dX4_biteOf_40 rfl (by decide) ?_
    refine zi_idiv (n := 42) dX4_biteOf_41 rfl (by decide) ?_
    exact zi_iret dX4_biteOf_42 rfl (by simp [biteOfC, h4]) (by rfl)
  by_cases h5 : S 1 p = nI 5
  · refine zi_lookup (tgt := 43) dX4_biteOf_6 (by decide) (by rw [h5]) (by decide) ?_
    refine zi_iconst (n := 44) (nI 1) dX4_biteOf_43 rfl (by decide) ?_
    exact zi_iret dX4_biteOf_44 rfl (by rw [biteOfC, if_neg h4, if_pos h5]) (by rfl)
  refine zi_lookup (tgt := 45) (off := 39) dX4_biteOf_6 (by decide) ((lv_osw h4 (by decide)).trans ((lv_osw h5 (by decide)).trans rfl)) (by decide) ?_
  refine zi_aload0 (n := 46) dX4_biteOf_45 rfl ?_
  refine zg_X4_12 (n := 49) dX4_biteOf_46 rfl zl_X4_26 (by omega) ?_
  refine zi_iload1 (n := 50) dX4_biteOf_49 rfl ?_
  refine zi_qald (n := 51) dX4_biteOf_50 rfl (by omega) (by decide) rfl (by omega) (zfs _ _ _ _ _ _) ?_
  exact zi_iret dX4_biteOf_51 rfl (by simp [biteOfC, h4, h5]) (by rfl)
end ZX4
