section ZX4
variable {E : zE} {Q : Nat → Nat → Nat → Int32} {Z : Nat → Nat → Int32} {j : Nat} {S : zS} {n : Nat}
set_option maxHeartbeats 4000000 in
set_option maxRecDepth 100000 in
theorem c_X4_has (hj : j < 29) {x : Int32} : zCT E 0 zm_X4_has [.ref (zad E (zsq j)), .int x] (va_up Q j S, Z) (some (.int (zb (¬ x < 0 ∧ ¬ S 0 0 ≤ x)))) (va_up Q j S, Z) := by
  refine zCT.of (by decide +kernel) (Nat.le_of_ble_eq_true rfl) ?_
  refine zi_iload1 (n := 1) dX4_has_0 rfl ?_
  refine zi_iflt (n := 4) (tgt := 16) dX4_has_1 rfl (by decide) (fun h1 => ?_) (fun h1 => ?_)
  · refine zi_iconst (n := 17) (nI 0) dX4_has_16 rfl (by decide) ?_
    exact zi_zret dX4_has_17 rfl (by simp_all [zb]; try decide) rfl (by rfl)
  · refine zi_iload1 (n := 5) dX4_has_4 rfl ?_
    refine zi_aload0 (n := 6) dX4_has_5 rfl ?_
    refine zg_X4_0 (n := 9) dX4_has_6 rfl zl_X4_29 (by omega) (zfs _ _ _ _ _ _) ?_
    refine zi_icge (n := 12) (tgt := 16) dX4_has_9 rfl (by decide) (fun h9 => ?_) (fun h9 => ?_)
    · refine zi_iconst (n := 17) (nI 0) dX4_has_16 rfl (by decide) ?_
      exact zi_zret dX4_has_17 rfl (by simp_all [zb]; try decide) rfl (by rfl)
    · refine zi_iconst (n := 13) (nI 1) dX4_has_12 rfl (by decide) ?_
      refine zi_goto (tgt := 17) dX4_has_13 (by decide) ?_
      exact zi_zret dX4_has_17 rfl (by simp_all [zb]; try decide) rfl (by rfl)
set_option maxHeartbeats 4000000 in
set_option maxRecDepth 100000 in
theorem c_X4_isHidden (hj : j < 29) {p : Nat} : zCT E 0 zm_X4_isHidden [.ref (zad E (zsq j)), .int (nI p)] (va_up Q j S, Z) (some (.int (zb (¬ hidC S p = 0)))) (va_up Q j S, Z) := by
  refine zCT.of (by decide +kernel) (Nat.le_of_ble_eq_true rfl) ?_
  refine zi_aload0 (n := 1) dX4_isHidden_0 rfl ?_
  refine zg_X4_6 (n := 4) dX4_isHidden_1 rfl zl_X4_47 (by omega) (zfs _ _ _ _ _ _) ?_
  refine zi_iload1 (n := 5) dX4_isHidden_4 rfl ?_
  refine zi_ishr (n := 6) dX4_isHidden_5 rfl ?_
  refine zi_iconst (n := 7) (nI 1) dX4_isHidden_6 rfl (by decide) ?_
  refine zi_iand (n := 8) dX4_isHidden_7 rfl ?_
  refine zi_ifeq (n := 11) (tgt := 15) dX4_isHidden_8 rfl (by decide) (fun h8 => ?_) (fun h8 => ?_)
  · refine zi_iconst (n := 16) (nI 0) dX4_isHidden_15 rfl (by decide) ?_
    exact zi_zret dX4_isHidden_16 rfl (by simp_all [zb, hidC]; try decide) rfl (by rfl)
  · refine zi_iconst (n := 12) (nI 1) dX4_isHidden_11 rfl (by decide) ?_
    refine zi_goto (tgt := 16) dX4_isHidden_12 (by decide) ?_
    exact zi_zret dX4_isHidden_16 rfl (by simp_all [zb, hidC]; try decide) rfl (by rfl)
set_option maxHeartbeats 4000000 in
set_option maxRecDepth 100000 in
theorem c_X4_allBits (hj : j < 29) : zCT E 0 zm_X4_allBits [.ref (zad E (zsq j))] (va_up Q j S, Z) (some (.int (allC S))) (va_up Q j S, Z) := by
  refine zCT.of (by decide +kernel) (Nat.le_of_ble_eq_true rfl) ?_
  refine zi_iconst (n := 1) (nI 1) dX4_allBits_0 rfl (by decide) ?_
  refine zi_aload0 (n := 2) dX4_allBits_1 rfl ?_
  refine zg_X4_0 (n := 5) dX4_allBits_2 rfl zl_X4_29 (by omega) (zfs _ _ _ _ _ _) ?_
  refine zi_ishl (n := 6) dX4_allBits_5 rfl ?_
  refine zi_iconst (n := 7) (nI 1) dX4_allBits_6 rfl (by decide) ?_
  refine zi_isub (n := 8) dX4_allBits_7 rfl ?_
  exact zi_iret dX4_allBits_8 rfl (by rfl) (by rfl)
set_option maxHeartbeats 4000000 in
set_option maxRecDepth 100000 in
theorem c_X4_nearOf (hj : j < 29) {p : Nat} (hp : p < 6) : zCT E 1 zm_X4_nearOf [.ref (zad E (zsq j)), .int (nI p)] (va_up Q j S, Z) (some (.int (nearC S p))) (va_up Q j S, Z) := by
  refine zCT.of (by decide +kernel) (Nat.le_of_ble_eq_true rfl) ?_
  refine zi_aload0 (n := 1) dX4_nearOf_0 rfl ?_
  refine zg_X4_10 (n := 4) dX4_nearOf_1 rfl zl_X4_20 (by omega) ?_
  refine zi_iload1 (n := 5) dX4_nearOf_4 rfl ?_
  refine zi_qald (n := 6) dX4_nearOf_5 rfl (by omega) (by decide) rfl (by omega) (zfs _ _ _ _ _ _) ?_
  refine zi_aload0 (n := 7) dX4_nearOf_6 rfl ?_
  refine zg_X4_1 (n := 10) dX4_nearOf_7 rfl zl_X4_32 (by omega) (zfs _ _ _ _ _ _) ?_
  refine zi_isub (n := 11) dX4_nearOf_10 rfl ?_
  refine zi_S1s (mj := zm_J9_abs_0f7a4) (n := 14) dX4_nearOf_11 rfl zl_X4_56 zy_J9_abs_0f7a4 (by decide) (by decide) (c_J9_abs_0f7a4) ?_
  refine zi_aload0 (n := 15) dX4_nearOf_14 rfl ?_
  refine zg_X4_11 (n := 18) dX4_nearOf_15 rfl zl_X4_23 (by omega) ?_
  refine zi_iload1 (n := 19) dX4_nearOf_18 rfl ?_
  refine zi_qald (n := 20) dX4_nearOf_19 rfl (by omega) (by decide) rfl (by omega) (zfs _ _ _ _ _ _) ?_
  refine zi_iadd (n := 21) dX4_nearOf_20 rfl ?_
  exact zi_iret dX4_nearOf_21 rfl (by rfl) (by rfl)
end ZX4
