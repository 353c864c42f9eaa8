section ZF6
variable {E : zE} {Q : Nat → Nat → Nat → Int32} {Z : zS} {S : zS} {n : Nat} {M : zMem}
def zsup (S : zS) (p w : Nat) (v : Int32) : zS := if w = 0 then zsu S 1 p v else if w = 1 then zsu S 2 p v else if w = 2 then zsu S 4 p v else zsu S 0 1 v
theorem zsup_0 {S : zS} {p w : Nat} {v : Int32} : zsup S p w v 0 0 = S 0 0 := by
  unfold zsup
  split
  · simp [zsu_at]
  · split
    · simp [zsu_at]
    · split <;> simp [zsu_at]
def zbt (S : zS) : Int32 := if S 0 7 = -1000000 then nI 99 else S 0 7
def zctL (n : Nat) (it : Nat → Int32) : Nat → Nat → zS → Bool × zS
  | 0, _, S => (true, S)
  | f + 1, k, S => if it k = zbt (noonC S n) then zctL n it f (k + 1) (noonC S n) else (false, noonC S n)
set_option maxHeartbeats 4000000 in
set_option maxRecDepth 100000 in
theorem c_sup_0 {p : Nat} (hp : p < 6) {v : Int32} : zCT E 0 zm_X2_suppose [.ref (zad E 162), .int (nI p), .int (nI 0), .int v] (va_up Q 4 S, Z) none (va_up Q 4 (zsup S p 0 v), Z) := by
  refine zCT.of (by decide +kernel) (Nat.le_of_ble_eq_true rfl) ?_
  refine zi_iload2 (n := 1) dX2_suppose_0 rfl ?_
  refine zi_tableIn (tgt := 28) dX2_suppose_1 (by decide) (by decide) rfl (by decide) ?_
  refine zi_aload0 (n := 29) dX2_suppose_28 rfl ?_
  refine zg_X2_1 (n := 32) dX2_suppose_29 rfl zl_X2_12 ?_
  refine zgN_X4_9 (n := 35) dX2_suppose_32 rfl zl_X2_75 (by omega) ?_
  refine zi_iload1 (n := 36) dX2_suppose_35 rfl ?_
  refine zi_iload3 (n := 37) dX2_suppose_36 rfl ?_
  refine zi_qast (n := 38) dX2_suppose_37 rfl (by omega) (by decide) rfl (by omega) (zfp _ _ _ _ _ _ _) ?_
  refine zi_goto (tgt := 75) dX2_suppose_38 (by decide) ?_
  exact zi_vret dX2_suppose_75 rfl (by rfl) (by rfl)
set_option maxHeartbeats 4000000 in
set_option maxRecDepth 100000 in
theorem c_sup_1 {p : Nat} (hp : p < 6) {v : Int32} : zCT E 0 zm_X2_suppose [.ref (zad E 162), .int (nI p), .int (nI 1), .int v] (va_up Q 4 S, Z) none (va_up Q 4 (zsup S p 1 v), Z) := by
  refine zCT.of (by decide +kernel) (Nat.le_of_ble_eq_true rfl) ?_
  refine zi_iload2 (n := 1) dX2_suppose_0 rfl ?_
  refine zi_tableIn (tgt := 41) dX2_suppose_1 (by decide) (by decide) rfl (by decide) ?_
  refine zi_aload0 (n := 42) dX2_suppose_41 rfl ?_
  refine zg_X2_1 (n := 45) dX2_suppose_42 rfl zl_X2_12 ?_
  refine zgN_X4_10 (n := 48) dX2_suppose_45 rfl zl_X2_45 (by omega) ?_
  refine zi_iload1 (n := 49) dX2_suppose_48 rfl ?_
  refine zi_iload3 (n := 50) dX2_suppose_49 rfl ?_
  refine zi_qast (n := 51) dX2_suppose_50 rfl (by omega) (by decide) rfl (by omega) (zfp _ _ _ _ _ _ _) ?_
  refine zi_goto (tgt := 75) dX2_suppose_51 (by decide) ?_
  exact zi_vret dX2_suppose_75 rfl (by rfl) (by rfl)
set_option maxHeartbeats 4000000 in
set_option maxRecDepth 100000 in
theorem c_sup_2 {p : Nat} (hp : p < 6) {v : Int32} : zCT E 0 zm_X2_suppose [.ref (zad E 162), .int (nI p), .int (nI 2), .int v] (va_up Q 4 S, Z) none (va_up Q 4 (zsup S p 2 v), Z) := by
  refine zCT.of (by decide +kernel) (Nat.le_of_ble_eq_true rfl) ?_
  refine zi_iload2 (n := 1) dX2_suppose_0 rfl ?_
  refine zi_tableIn (tgt := 54) dX2_suppose_1 (by decide) (by decide) rfl (by decide) ?_
  refine zi_aload0 (n := 55) dX2_suppose_54 rfl ?_
  refine zg_X2_1 (n := 58) dX2_suppose_55 rfl zl_X2_12 ?_
  refine zgN_X4_12 (n := 61) dX2_suppose_58 rfl zl_X2_49 (by omega) ?_
  refine zi_iload1 (n := 62) dX2_suppose_61 rfl ?_
  refine zi_iload3 (n := 63) dX2_suppose_62 rfl ?_
  refine zi_qast (n := 64) dX2_suppose_63 rfl (by omega) (by decide) rfl (by omega) (zfp _ _ _ _ _ _ _) ?_
  refine zi_goto (tgt := 75) dX2_suppose_64 (by decide) ?_
  exact zi_vret dX2_suppose_75 rfl (by rfl) (by rfl)
set_option maxHeartbeats 4000000 in
set_option maxRecDepth 100000 in
theorem c_sup_3 {p : Nat} (hp : p < 6) {v : Int32} : zCT E 0 zm_X2_suppose [.ref (zad E 162), .int (nI p), .int (nI 3), .int v] (va_up Q 4 S, Z) none (va_up Q 4 (zsup S p 3 v), Z) := by
  refine zCT.of (by decide +kernel) (Nat.le_of_ble_eq_true rfl) ?_
  refine zi_iload2 (n := 1) dX2_suppose_0 rfl ?_
  refine zi_tableOut (tgt := 67) dX2_suppose_1 (by decide) (by decide) ?_
  refine zi_aload0 (n := 68) dX2_suppose_67 rfl ?_
  refine zg_X2_1 (n := 71) dX2_suppose_68 rfl zl_X2_12 ?_
  refine zi_iload3 (n := 72) dX2_suppose_71 rfl ?_
  refine zpN_X4_1 (n := 75) dX2_suppose_72 rfl zl_X2_114 (by omega) (zfp _ _ _ _ _ _ _) ?_
  exact zi_vret dX2_suppose_75 rfl (by rfl) (by rfl)
theorem c_X2_suppose {p w : Nat} (hp : p < 6) (hw : w < 4) {v : Int32} : zCT E 0 zm_X2_suppose [.ref (zad E 162), .int (nI p), .int (nI w), .int v] (va_up Q 4 S, Z) none (va_up Q 4 (zsup S p w v), Z) := by
  rcases (show w = 0 ∨ w = 1 ∨ w = 2 ∨ w = 3 by omega) with rfl | rfl | rfl | rfl
  · exact c_sup_0 hp
  · exact c_sup_1 hp
  · exact c_sup_2 hp
  · exact c_sup_3 hp
set_option maxHeartbeats 4000000 in
set_option maxRecDepth 100000 in
theorem l_X2_comesAsTold (h6 : n ≤ 6) {r i m : Nat} (hr8 : r < 8) (him : i + m ≤ 40) {R : Bool × zS} : ∀ f k (S : zS) (x6 : Option Value), k + f = m → S 0 0 = nI n → zctL n (fun k => Z (148 + r) (i + k)) f k S = R → zG E zm_X2_comesAsTold 4 (some (.int (zb (R.1 = true)))) (va_up Q 4 R.2, Z) 3 [some (.ref (zad E 162)), some (.ref (zad E 146)), some (.int (nI r)), some (.int (nI i)), some (.int (nI m)), some (.int (nI k)), x6] [] (va_up Q 4 S, Z) := by
  intro f
  induction f with
  | zero =>
    intro k S x6 hi hn hr
    refine zi_iload5 (n := 5) dX2_comesAsTold_3 rfl ?_
    refine zi_iload4 (n := 7) dX2_comesAsTold_5 rfl ?_
    refine zi_icge (n := 10) (tgt := 65) dX2_comesAsTold_7 rfl (by decide) (fun h7 => ?_) (fun h7 => ?_)
    · refine zi_iconst (n := 66) (nI 1) dX2_comesAsTold_65 rfl (by decide) ?_
      exact zi_zretT dX2_comesAsTold_66 rfl (by rw [← hr]; rfl) rfl (by rw [← hr]; rfl)
    · exact absurd (nI_le (by omega) (by omega)) h7
  | succ f ih =>
    intro k S x6 hi hn hr
    refine zi_iload5 (n := 5) dX2_comesAsTold_3 rfl ?_
    refine zi_iload4 (n := 7) dX2_comesAsTold_5 rfl ?_
    refine zi_icge (n := 10) (tgt := 65) dX2_comesAsTold_7 rfl (by decide) (fun h7 => ?_) (fun h7 => ?_)
    · exact absurd ((nI_leI (by omega) (by omega)).mp h7) (by omega)
    · refine zi_aload0 (n := 11) dX2_comesAsTold_10 rfl ?_
      refine zg_X2_1 (n := 14) dX2_comesAsTold_11 rfl zl_X2_12 ?_
      refine zi_V0v (mj := zm_X4_passNoon) (n := 17) dX2_comesAsTold_14 rfl zl_X2_29 zy_X4_passNoon (zrc_sq _ _ (by omega)) (by decide) (Nat.le_of_ble_eq_true rfl) (c_X4_passNoon (by decide) hn h6) ?_
      refine zi_aload0 (n := 18) dX2_comesAsTold_17 rfl ?_
      refine zg_X2_1 (n := 21) dX2_comesAsTold_18 rfl zl_X2_12 ?_
      refine zgN_X4_7 (n := 24) dX2_comesAsTold_21 rfl zl_X2_32 (by omega) (zfs _ _ _ _ _ _) ?_
      refine zi_ldc (n := 26) dX2_comesAsTold_24 rfl zl_X2_36 ?_
      refine zi_icne (n := 29) (tgt := 34) dX2_comesAsTold_26 rfl (by decide) (fun h26 => ?_) (fun h26 => ?_)
      · have e41 : zbt (noonC S n) = noonC S n 0 7 := if_neg h26
        refine zi_aload0 (n := 35) dX2_comesAsTold_34 rfl ?_
        refine zg_X2_1 (n := 38) dX2_comesAsTold_35 rfl zl_X2_12 ?_
        refine zgN_X4_7 (n := 41) dX2_comesAsTold_38 rfl zl_X2_32 (by omega) (zfs _ _ _ _ _ _) ?_
        refine zi_istore6 (n := 43) dX2_comesAsTold_41 rfl (by decide) rfl ?_
        refine zi_aload1 (n := 44) dX2_comesAsTold_43 rfl ?_
        refine zi_iload2 (n := 45) dX2_comesAsTold_44 rfl ?_
        refine zi_iload3 (n := 46) dX2_comesAsTold_45 rfl ?_
        refine zi_iload5 (n := 48) dX2_comesAsTold_46 rfl ?_
        refine zi_iadd (n := 49) dX2_comesAsTold_48 rfl ?_
        rw [nI_add]
        refine zi_V2s (mj := zm_X3_itemAt) (n := 52) dX2_comesAsTold_49 rfl zl_X2_117 zy_X3_itemAt (zrc_X3 _ _) (by decide) (Nat.le_of_ble_eq_true rfl) (c_X3_itemAt hr8 (by omega)) ?_
        refine zi_iload6 (n := 54) dX2_comesAsTold_52 rfl ?_
        refine zi_iceq (n := 57) (tgt := 59) dX2_comesAsTold_54 rfl (by decide) (fun h54 => ?_) (fun h54 => ?_)
        · refine zi_iinc5 (n := 62) (nI (k + 1)) dX2_comesAsTold_59 rfl (by decide) rfl (zi1 _) ?_
          refine zi_goto (tgt := 3) dX2_comesAsTold_62 (by decide) ?_
          exact ih (k + 1) _ _ (by omega) (noonC_0.trans hn) (by rw [← hr, zctL, if_pos (by rw [e41]; exact h54)])
        · refine zi_iconst (n := 58) (nI 0) dX2_comesAsTold_57 rfl (by decide) ?_
          exact zi_zretF dX2_comesAsTold_58 rfl (by rw [← hr, zctL, if_neg (by rw [e41]; exact h54)]; simp) rfl (by rw [← hr, zctL, if_neg (by rw [e41]; exact h54)])
      · have e41 : zbt (noonC S n) = nI 99 := if_pos h26
        refine zi_bipush (n := 31) (nI 99) dX2_comesAsTold_29 rfl (by decide) ?_
        refine zi_goto (tgt := 41) dX2_comesAsTold_31 (by decide) ?_
        refine zi_istore6 (n := 43) dX2_comesAsTold_41 rfl (by decide) rfl ?_
        refine zi_aload1 (n := 44) dX2_comesAsTold_43 rfl ?_
        refine zi_iload2 (n := 45) dX2_comesAsTold_44 rfl ?_
        refine zi_iload3 (n := 46) dX2_comesAsTold_45 rfl ?_
        refine zi_iload5 (n := 48) dX2_comesAsTold_46 rfl ?_
        refine zi_iadd (n := 49) dX2_comesAsTold_48 rfl ?_
        rw [nI_add]
        refine zi_V2s (mj := zm_X3_itemAt) (n := 52) dX2_comesAsTold_49 rfl zl_X2_117 zy_X3_itemAt (zrc_X3 _ _) (by decide) (Nat.le_of_ble_eq_true rfl) (c_X3_itemAt hr8 (by omega)) ?_
        refine zi_iload6 (n := 54) dX2_comesAsTold_52 rfl ?_
        refine zi_iceq (n := 57) (tgt := 59) dX2_comesAsTold_54 rfl (by decide) (fun h54 => ?_) (fun h54 => ?_)
        · refine zi_iinc5 (n := 62) (nI (k + 1)) dX2_comesAsTold_59 rfl (by decide) rfl (zi1 _) ?_
          refine zi_goto (tgt := 3) dX2_comesAsTold_62 (by decide) ?_
          exact ih (k + 1) _ _ (by omega) (noonC_0.trans hn) (by rw [← hr, zctL, if_pos (by rw [e41]; exact h54)])
        · refine zi_iconst (n := 58) (nI 0) dX2_comesAsTold_57 rfl (by decide) ?_
          exact zi_zretF dX2_comesAsTold_58 rfl (by rw [← hr, zctL, if_neg (by rw [e41]; exact h54)]; simp) rfl (by rw [← hr, zctL, if_neg (by rw [e41]; exact h54)])
set_option maxHeartbeats 4000000 in
set_option maxRecDepth 100000 in
theorem c_X2_comesAsTold (hn : S 0 0 = nI n) (h6 : n ≤ 6) {r i m : Nat} (hr8 : r < 8) (him : i + m ≤ 40) : zCT E 4 zm_X2_comesAsTold [.ref (zad E 162), .ref (zad E 146), .int (nI r), .int (nI i), .int (nI m)] (va_up Q 4 S, Z) (some (.int (zb ((zctL n (fun k => Z (148 + r) (i + k)) m 0 S).1 = true)))) (va_up Q 4 (zctL n (fun k => Z (148 + r) (i + k)) m 0 S).2, Z) := by
  refine zCT.of (by decide +kernel) (Nat.le_of_ble_eq_true rfl) ?_
  refine zi_iconst (n := 1) (nI 0) dX2_comesAsTold_0 rfl (by decide) ?_
  refine zi_istore5 (n := 3) dX2_comesAsTold_1 rfl (by decide) rfl ?_
  exact l_X2_comesAsTold h6 hr8 him m 0 _ _ (by omega) hn rfl
def zfit (S F : zS) (n p w : Nat) (it : Nat → Int32) (m v : Nat) : Bool × zS := zctL n it m 0 (zsup (takeC S F) p w (nI v))
def zfiL (F : zS) (n p w : Nat) (it : Nat → Int32) (m : Nat) : Nat → Nat → Int32 → zS → Int32 × zS
  | 0, _, b, S => (b, S)
  | f + 1, v, b, S => if (zfit S F n p w it m v).1 then zfiL F n p w it m f (v + 1) (b ||| (nI 1 <<< (nI v &&& 31))) (zfit S F n p w it m v).2 else zfiL F n p w it m f (v + 1) b (zfit S F n p w it m v).2
set_option maxHeartbeats 4000000 in
set_option maxRecDepth 100000 in
theorem l_X2_fitting (hn : Q 1 0 0 = nI n) (h6 : n ≤ 6) {p w r i m t : Nat} (hp : p < 6) (hw : w < 4) (hr8 : r < 8) (him : i + m ≤ 40) (ht : t < 20) {y7 : Int32} {R : Int32 × zS} : ∀ f v (bb : Int32) (S : zS), v + f = t + 1 → zfiL (Q 1) n p w (fun k => Z (148 + r) (i + k)) m f v bb S = R → zG E zm_X2_fitting 5 (some (.int R.1)) (va_up Q 4 R.2, Z) 35 [some (.ref (zad E 162)), some (.int (nI p)), some (.int (nI w)), some (.ref (zad E 146)), some (.int (nI r)), some (.int (nI i)), some (.int (nI m)), some (.int y7), some (.int (nI t)), some (.int bb), some (.int (nI v))] [] (va_up Q 4 S, Z) := by
  intro f
  induction f with
  | zero =>
    intro v bb S hi hr
    refine zi_iload10 (n := 37) dX2_fitting_35 rfl ?_
    refine zi_iload8 (n := 39) dX2_fitting_37 rfl ?_
    refine zi_icgt (n := 42) (tgt := 90) dX2_fitting_39 rfl (by decide) (fun h39 => ?_) (fun h39 => ?_)
    · refine zi_iload9 (n := 92) dX2_fitting_90 rfl ?_
      exact zi_iret dX2_fitting_92 rfl (by rw [← hr]; rfl) (by rw [← hr]; rfl)
    · exact absurd (nI_lt (by omega) (by omega)) h39
  | succ f ih =>
    intro v bb S hi hr
    refine zi_iload10 (n := 37) dX2_fitting_35 rfl ?_
    refine zi_iload8 (n := 39) dX2_fitting_37 rfl ?_
    refine zi_icgt (n := 42) (tgt := 90) dX2_fitting_39 rfl (by decide) (fun h39 => ?_) (fun h39 => ?_)
    · exact absurd ((nI_ltI (by omega) (by omega)).mp h39) (by omega)
    · refine zi_aload0 (n := 43) dX2_fitting_42 rfl ?_
      refine zg_X2_1 (n := 46) dX2_fitting_43 rfl zl_X2_12 ?_
      refine zi_aload0 (n := 47) dX2_fitting_46 rfl ?_
      refine zg_X2_0 (n := 50) dX2_fitting_47 rfl zl_X2_18 ?_
      refine zi_V1v (mj := zm_X4_take) (n := 53) dX2_fitting_50 rfl zl_X2_21 zy_X4_take (zrc_sq _ _ (by omega)) (by decide) (Nat.le_of_ble_eq_true rfl) (c_X4_take (by decide) (by decide) (by decide)) ?_
      refine zi_aload0 (n := 54) dX2_fitting_53 rfl ?_
      refine zi_iload1 (n := 55) dX2_fitting_54 rfl ?_
      refine zi_iload2 (n := 56) dX2_fitting_55 rfl ?_
      refine zi_iload10 (n := 58) dX2_fitting_56 rfl ?_
      refine zi_V3v (mj := zm_X2_suppose) (n := 61) dX2_fitting_58 rfl zl_X2_106 zy_X2_suppose (zrc_X2 _ _) (by decide) (Nat.le_of_ble_eq_true rfl) (c_X2_suppose hp hw) ?_
      refine zi_aload0 (n := 62) dX2_fitting_61 rfl ?_
      refine zi_aload3 (n := 63) dX2_fitting_62 rfl ?_
      refine zi_iload4 (n := 65) dX2_fitting_63 rfl ?_
      refine zi_iload5 (n := 67) dX2_fitting_65 rfl ?_
      refine zi_iload6 (n := 69) dX2_fitting_67 rfl ?_
      refine zi_V4s (mj := zm_X2_comesAsTold) (n := 72) dX2_fitting_69 rfl zl_X2_110 zy_X2_comesAsTold (zrc_X2 _ _) (by decide) (Nat.le_of_ble_eq_true rfl) (c_X2_comesAsTold (zsup_0.trans ((takeC_0 (by decide)).trans hn)) h6 hr8 him) ?_
      change zG _ _ _ _ _ 72 _ [.int (zb ((zfit S (Q 1) n p w (fun k => Z (148 + r) (i + k)) m v).1 = true))] (va_up Q 4 (zfit S (Q 1) n p w (fun k => Z (148 + r) (i + k)) m v).2, Z)
      refine zi_ifeq_b (n := 75) (tgt := 84) dX2_fitting_72 rfl (by decide) (fun h72 => ?_) (fun h72 => ?_)
      · refine zi_iinc10 (n := 87) (nI (v + 1)) dX2_fitting_84 rfl (by decide) rfl (zi1 _) ?_
        refine zi_goto (tgt := 35) dX2_fitting_87 (by decide) ?_
        exact ih (v + 1) _ _ (by omega) (by rw [← hr, zfiL]; simp only [h72, if_true, if_false, Bool.false_eq_true])
      · refine zi_iload9 (n := 77) dX2_fitting_75 rfl ?_
        refine zi_iconst (n := 78) (nI 1) dX2_fitting_77 rfl (by decide) ?_
        refine zi_iload10 (n := 80) dX2_fitting_78 rfl ?_
        refine zi_ishl (n := 81) dX2_fitting_80 rfl ?_
        refine zi_ior (n := 82) dX2_fitting_81 rfl ?_
        refine zi_istore9 (n := 84) dX2_fitting_82 rfl (by decide) rfl ?_
        refine zi_iinc10 (n := 87) (nI (v + 1)) dX2_fitting_84 rfl (by decide) rfl (zi1 _) ?_
        refine zi_goto (tgt := 35) dX2_fitting_87 (by decide) ?_
        exact ih (v + 1) _ _ (by omega) (by rw [← hr, zfiL]; simp only [h72, if_true, if_false, Bool.false_eq_true])
set_option maxHeartbeats 4000000 in
set_option maxRecDepth 100000 in
theorem c_fit_0 (hn : Q 1 0 0 = nI n) (hn6 : n ≤ 6) {p r i m : Nat} (hp : p < 6) (hr8 : r < 8) (him : i + m ≤ 40) : zCT E 5 zm_X2_fitting [.ref (zad E 162), .int (nI p), .int (nI 0), .ref (zad E 146), .int (nI r), .int (nI i), .int (nI m)] (va_up Q 4 S, Z) (some (.int (zfiL (Q 1) n p 0 (fun k => Z (148 + r) (i + k)) m 5 1 (nI 0) S).1)) (va_up Q 4 (zfiL (Q 1) n p 0 (fun k => Z (148 + r) (i + k)) m 5 1 (nI 0) S).2, Z) := by
  refine zCT.of (by decide +kernel) (Nat.le_of_ble_eq_true rfl) ?_
  refine zi_iload2 (n := 1) dX2_fitting_0 rfl ?_
  refine zi_ifeq (n := 4) (tgt := 9) dX2_fitting_1 rfl (by decide) (fun h1 => ?_) (fun h1 => ?_)
  · refine zi_iconst (n := 10) (nI 1) dX2_fitting_9 rfl (by decide) ?_
    refine zi_goto (tgt := 14) dX2_fitting_10 (by decide) ?_
    refine zi_istore7 (n := 16) dX2_fitting_14 rfl (by decide) rfl ?_
    refine zi_iload2 (n := 17) dX2_fitting_16 rfl ?_
    refine zi_ifne (n := 20) (tgt := 24) dX2_fitting_17 rfl (by decide) (fun h17 => ?_) (fun h17 => ?_)
    · exact absurd rfl h17
    · refine zi_iconst (n := 21) (nI 5) dX2_fitting_20 rfl (by decide) ?_
      refine zi_goto (tgt := 26) dX2_fitting_21 (by decide) ?_
      refine zi_istore8 (n := 28) dX2_fitting_26 rfl (by decide) rfl ?_
      refine zi_iconst (n := 29) (nI 0) dX2_fitting_28 rfl (by decide) ?_
      refine zi_istore9 (n := 31) dX2_fitting_29 rfl (by decide) rfl ?_
      refine zi_iload7 (n := 33) dX2_fitting_31 rfl ?_
      refine zi_istore10 (n := 35) dX2_fitting_33 rfl (by decide) rfl ?_
      exact l_X2_fitting hn hn6 hp (by decide) hr8 him (by decide) 5 1 _ _ rfl rfl
  · exact absurd rfl h1
set_option maxHeartbeats 4000000 in
set_option maxRecDepth 100000 in
theorem c_fit_1 (hn : Q 1 0 0 = nI n) (hn6 : n ≤ 6) {p r i m : Nat} (hp : p < 6) (hr8 : r < 8) (him : i + m ≤ 40) : zCT E 5 zm_X2_fitting [.ref (zad E 162), .int (nI p), .int (nI 1), .ref (zad E 146), .int (nI r), .int (nI i), .int (nI m)] (va_up Q 4 S, Z) (some (.int (zfiL (Q 1) n p 1 (fun k => Z (148 + r) (i + k)) m 10 0 (nI 0) S).1)) (va_up Q 4 (zfiL (Q 1) n p 1 (fun k => Z (148 + r) (i + k)) m 10 0 (nI 0) S).2, Z) := by
  refine zCT.of (by decide +kernel) (Nat.le_of_ble_eq_true rfl) ?_
  refine zi_iload2 (n := 1) dX2_fitting_0 rfl ?_
  refine zi_ifeq (n := 4) (tgt := 9) dX2_fitting_1 rfl (by decide) (fun h1 => ?_) (fun h1 => ?_)
  · exact absurd h1 (by decide)
  · refine zi_iload2 (n := 5) dX2_fitting_4 rfl ?_
    refine zi_iconst (n := 6) (nI 2) dX2_fitting_5 rfl (by decide) ?_
    refine zi_icne (n := 9) (tgt := 13) dX2_fitting_6 rfl (by decide) (fun h6 => ?_) (fun h6 => ?_)
    · refine zi_iconst (n := 14) (nI 0) dX2_fitting_13 rfl (by decide) ?_
      refine zi_istore7 (n := 16) dX2_fitting_14 rfl (by decide) rfl ?_
      refine zi_iload2 (n := 17) dX2_fitting_16 rfl ?_
      refine zi_ifne (n := 20) (tgt := 24) dX2_fitting_17 rfl (by decide) (fun h17 => ?_) (fun h17 => ?_)
      · refine zi_bipush (n := 26) (nI 9) dX2_fitting_24 rfl (by decide) ?_
        refine zi_istore8 (n := 28) dX2_fitting_26 rfl (by decide) rfl ?_
        refine zi_iconst (n := 29) (nI 0) dX2_fitting_28 rfl (by decide) ?_
        refine zi_istore9 (n := 31) dX2_fitting_29 rfl (by decide) rfl ?_
        refine zi_iload7 (n := 33) dX2_fitting_31 rfl ?_
        refine zi_istore10 (n := 35) dX2_fitting_33 rfl (by decide) rfl ?_
        exact l_X2_fitting hn hn6 hp (by decide) hr8 him (by decide) 10 0 _ _ rfl rfl
      · exact absurd h17 (by decide)
    · exact absurd h6 (by decide)
set_option maxHeartbeats 4000000 in
set_option maxRecDepth 100000 in
theorem c_fit_2 (hn : Q 1 0 0 = nI n) (hn6 : n ≤ 6) {p r i m : Nat} (hp : p < 6) (hr8 : r < 8) (him : i + m ≤ 40) : zCT E 5 zm_X2_fitting [.ref (zad E 162), .int (nI p), .int (nI 2), .ref (zad E 146), .int (nI r), .int (nI i), .int (nI m)] (va_up Q 4 S, Z) (some (.int (zfiL (Q 1) n p 2 (fun k => Z (148 + r) (i + k)) m 9 1 (nI 0) S).1)) (va_up Q 4 (zfiL (Q 1) n p 2 (fun k => Z (148 + r) (i + k)) m 9 1 (nI 0) S).2, Z) := by
  refine zCT.of (by decide +kernel) (Nat.le_of_ble_eq_true rfl) ?_
  refine zi_iload2 (n := 1) dX2_fitting_0 rfl ?_
  refine zi_ifeq (n := 4) (tgt := 9) dX2_fitting_1 rfl (by decide) (fun h1 => ?_) (fun h1 => ?_)
  · exact absurd h1 (by decide)
  · refine zi_iload2 (n := 5) dX2_fitting_4 rfl ?_
    refine zi_iconst (n := 6) (nI 2) dX2_fitting_5 rfl (by decide) ?_
    refine zi_icne (n := 9) (tgt := 13) dX2_fitting_6 rfl (by decide) (fun h6 => ?_) (fun h6 => ?_)
    · exact absurd rfl h6
    · refine zi_iconst (n := 10) (nI 1) dX2_fitting_9 rfl (by decide) ?_
      refine zi_goto (tgt := 14) dX2_fitting_10 (by decide) ?_
      refine zi_istore7 (n := 16) dX2_fitting_14 rfl (by decide) rfl ?_
      refine zi_iload2 (n := 17) dX2_fitting_16 rfl ?_
      refine zi_ifne (n := 20) (tgt := 24) dX2_fitting_17 rfl (by decide) (fun h17 => ?_) (fun h17 => ?_)
      · refine zi_bipush (n := 26) (nI 9) dX2_fitting_24 rfl (by decide) ?_
        refine zi_istore8 (n := 28) dX2_fitting_26 rfl (by decide) rfl ?_
        refine zi_iconst (n := 29) (nI 0) dX2_fitting_28 rfl (by decide) ?_
        refine zi_istore9 (n := 31) dX2_fitting_29 rfl (by decide) rfl ?_
        refine zi_iload7 (n := 33) dX2_fitting_31 rfl ?_
        refine zi_istore10 (n := 35) dX2_fitting_33 rfl (by decide) rfl ?_
        exact l_X2_fitting hn hn6 hp (by decide) hr8 him (by decide) 9 1 _ _ rfl rfl
      · exact absurd h17 (by decide)
set_option maxHeartbeats 4000000 in
set_option maxRecDepth 100000 in
theorem c_fit_3 (hn : Q 1 0 0 = nI n) (hn6 : n ≤ 6) {p r i m : Nat} (hp : p < 6) (hr8 : r < 8) (him : i + m ≤ 40) : zCT E 5 zm_X2_fitting [.ref (zad E 162), .int (nI p), .int (nI 3), .ref (zad E 146), .int (nI r), .int (nI i), .int (nI m)] (va_up Q 4 S, Z) (some (.int (zfiL (Q 1) n p 3 (fun k => Z (148 + r) (i + k)) m 10 0 (nI 0) S).1)) (va_up Q 4 (zfiL (Q 1) n p 3 (fun k => Z (148 + r) (i + k)) m 10 0 (nI 0) S).2, Z) := by
  refine zCT.of (by decide +kernel) (Nat.le_of_ble_eq_true rfl) ?_
  refine zi_iload2 (n := 1) dX2_fitting_0 rfl ?_
  refine zi_ifeq (n := 4) (tgt := 9) dX2_fitting_1 rfl (by decide) (fun h1 => ?_) (fun h1 => ?_)
  · exact absurd h1 (by decide)
  · refine zi_iload2 (n := 5) dX2_fitting_4 rfl ?_
    refine zi_iconst (n := 6) (nI 2) dX2_fitting_5 rfl (by decide) ?_
    refine zi_icne (n := 9) (tgt := 13) dX2_fitting_6 rfl (by decide) (fun h6 => ?_) (fun h6 => ?_)
    · refine zi_iconst (n := 14) (nI 0) dX2_fitting_13 rfl (by decide) ?_
      refine zi_istore7 (n := 16) dX2_fitting_14 rfl (by decide) rfl ?_
      refine zi_iload2 (n := 17) dX2_fitting_16 rfl ?_
      refine zi_ifne (n := 20) (tgt := 24) dX2_fitting_17 rfl (by decide) (fun h17 => ?_) (fun h17 => ?_)
      · refine zi_bipush (n := 26) (nI 9) dX2_fitting_24 rfl (by decide) ?_
        refine zi_istore8 (n := 28) dX2_fitting_26 rfl (by decide) rfl ?_
        refine zi_iconst (n := 29) (nI 0) dX2_fitting_28 rfl (by decide) ?_
        refine zi_istore9 (n := 31) dX2_fitting_29 rfl (by decide) rfl ?_
        refine zi_iload7 (n := 33) dX2_fitting_31 rfl ?_
        refine zi_istore10 (n := 35) dX2_fitting_33 rfl (by decide) rfl ?_
        exact l_X2_fitting hn hn6 hp (by decide) hr8 him (by decide) 10 0 _ _ rfl rfl
      · exact absurd h17 (by decide)
    · exact absurd h6 (by decide)
def zgn (S F : zS) (n m : Nat) (x y : Int32) : zS := noonsC (zsu (zsu (takeC S F) 2 0 x) 2 (n - 1) y) n m
theorem zgn_n {S F : zS} {n : Nat} {x y : Int32} (hn : F 0 0 = nI n) : zsu (zsu (takeC S F) 2 0 x) 2 (n - 1) y 0 0 = nI n := by simp [zsu_at, takeC_0, hn]
def zgv (S F : zS) (n m : Nat) (x y : Int32) : Int32 := zgn S F n m x y 4 0 - zgn S F n m x y 4 (n - 1)
set_option maxHeartbeats 4000000 in
set_option maxRecDepth 100000 in
theorem c_X2_gain (hn : Q 1 0 0 = nI n) (h6 : n ≤ 6) (h1 : 0 < n) {m : Nat} (hm : m < 2 ^ 30) {x y : Int32} : zCT E 5 zm_X2_gain [.ref (zad E 162), .int (nI m), .int x, .int y] (va_up Q 4 S, Z) (some (.int (zgv S (Q 1) n m x y))) (va_up Q 4 (zgn S (Q 1) n m x y), Z) := by
  refine zCT.of (by decide +kernel) (Nat.le_of_ble_eq_true rfl) ?_
  refine zi_aload0 (n := 1) dX2_gain_0 rfl ?_
  refine zg_X2_1 (n := 4) dX2_gain_1 rfl zl_X2_12 ?_
  refine zi_aload0 (n := 5) dX2_gain_4 rfl ?_
  refine zg_X2_0 (n := 8) dX2_gain_5 rfl zl_X2_18 ?_
  refine zi_V1v (mj := zm_X4_take) (n := 11) dX2_gain_8 rfl zl_X2_21 zy_X4_take (zrc_sq _ _ (by omega)) (by decide) (Nat.le_of_ble_eq_true rfl) (c_X4_take (by decide) (by decide) (by decide)) ?_
  refine zi_aload0 (n := 12) dX2_gain_11 rfl ?_
  refine zg_X2_1 (n := 15) dX2_gain_12 rfl zl_X2_12 ?_
  refine zgN_X4_0 (n := 18) dX2_gain_15 rfl zl_X2_68 (by omega) ((zfs _ _ _ _ _ _).trans ((takeC_0 (by decide)).trans hn)) ?_
  refine zi_iconst (n := 19) (nI 1) dX2_gain_18 rfl (by decide) ?_
  refine zi_isub (n := 20) dX2_gain_19 rfl ?_
  rw [pk_sub (by omega)]
  refine zi_istore4 (n := 22) dX2_gain_20 rfl (by decide) rfl ?_
  refine zi_aload0 (n := 23) dX2_gain_22 rfl ?_
  refine zg_X2_1 (n := 26) dX2_gain_23 rfl zl_X2_12 ?_
  refine zi_iload4 (n := 28) dX2_gain_26 rfl ?_
  refine zi_V1s (mj := zm_X4_has) (n := 31) dX2_gain_28 rfl zl_X2_103 zy_X4_has (zrc_sq _ _ (by omega)) (by decide) (Nat.le_of_ble_eq_true rfl) (c_X4_has (by decide)) ?_
  refine zi_ifne_b (n := 34) (tgt := 36) dX2_gain_31 rfl (by decide) (fun h31 => ?_) (fun h31 => ?_)
  · refine zi_aload0 (n := 37) dX2_gain_36 rfl ?_
    refine zg_X2_1 (n := 40) dX2_gain_37 rfl zl_X2_12 ?_
    refine zgN_X4_10 (n := 43) dX2_gain_40 rfl zl_X2_45 (by omega) ?_
    refine zi_iconst (n := 44) (nI 0) dX2_gain_43 rfl (by decide) ?_
    refine zi_iload2 (n := 45) dX2_gain_44 rfl ?_
    refine zi_qast (n := 46) dX2_gain_45 rfl (by omega) (by decide) rfl (by omega) (zfp _ _ _ _ _ _ _) ?_
    refine zi_aload0 (n := 47) dX2_gain_46 rfl ?_
    refine zg_X2_1 (n := 50) dX2_gain_47 rfl zl_X2_12 ?_
    refine zgN_X4_10 (n := 53) dX2_gain_50 rfl zl_X2_45 (by omega) ?_
    refine zi_iload4 (n := 55) dX2_gain_53 rfl ?_
    refine zi_iload3 (n := 56) dX2_gain_55 rfl ?_
    refine zi_qast (n := 57) dX2_gain_56 rfl (by omega) (by decide) rfl (by omega) (zfp _ _ _ _ _ _ _) ?_
    refine zi_aload0 (n := 58) dX2_gain_57 rfl ?_
    refine zg_X2_1 (n := 61) dX2_gain_58 rfl zl_X2_12 ?_
    refine zi_iload1 (n := 62) dX2_gain_61 rfl ?_
    refine zi_V1v (mj := zm_X4_passNoons) (n := 65) dX2_gain_62 rfl zl_X2_25 zy_X4_passNoons (zrc_sq _ _ (by omega)) (by decide) (Nat.le_of_ble_eq_true rfl) (c_X4_passNoons (by decide) (zgn_n hn) h6 hm) ?_
    refine zi_aload0 (n := 66) dX2_gain_65 rfl ?_
    refine zg_X2_1 (n := 69) dX2_gain_66 rfl zl_X2_12 ?_
    refine zgN_X4_12 (n := 72) dX2_gain_69 rfl zl_X2_49 (by omega) ?_
    refine zi_iconst (n := 73) (nI 0) dX2_gain_72 rfl (by decide) ?_
    refine zi_qald (n := 74) dX2_gain_73 rfl (by omega) (by decide) rfl (by omega) (zfs _ _ _ _ _ _) ?_
    refine zi_aload0 (n := 75) dX2_gain_74 rfl ?_
    refine zg_X2_1 (n := 78) dX2_gain_75 rfl zl_X2_12 ?_
    refine zgN_X4_12 (n := 81) dX2_gain_78 rfl zl_X2_49 (by omega) ?_
    refine zi_iload4 (n := 83) dX2_gain_81 rfl ?_
    refine zi_qald (n := 84) dX2_gain_83 rfl (by omega) (by decide) rfl (by omega) (zfs _ _ _ _ _ _) ?_
    refine zi_isub (n := 85) dX2_gain_84 rfl ?_
    exact zi_iret dX2_gain_85 rfl (by rfl) (by rfl)
  · exact absurd ⟨nI_pos (by omega), by rw [((takeC_0 (by decide)).trans hn)]; exact nI_ge (by omega) (by omega)⟩ h31
abbrev zpl (x : Int32) : Prop := nI 0 ≤ x ∧ x ≤ nI 9
/-- one more step of who is at turn -/
def zst (deb : Bool) (v : Int32 → Int32 → zS → Int32 × zS) (x y : Int32) (i : Nat) (b : Int32 × zS) : Int32 × zS :=
  if deb then (if zpl (x + (nI i - nI 1)) ∧ zpl y then (zmax b.1 (v (x + (nI i - nI 1)) y b.2).1, (v (x + (nI i - nI 1)) y b.2).2) else b)
  else (if zpl x ∧ zpl (y + (nI i - nI 1)) then (zmin b.1 (v x (y + (nI i - nI 1)) b.2).1, (v x (y + (nI i - nI 1)) b.2).2) else b)
def zlp (deb : Bool) (v : Int32 → Int32 → zS → Int32 × zS) (x y : Int32) : Nat → Nat → Int32 × zS → Int32 × zS
  | 0, _, b => b
  | f + 1, i, b => zlp deb v x y f (i + 1) (zst deb v x y i b)
def zbo (F : zS) (n m : Nat) : Nat → Nat → Int32 → Int32 → zS → Int32 × zS
  | 0, _, x, y, S => (zgv S F n m x y, zgn S F n m x y)
  | k + 1, t, x, y, S => zlp (decide (t % 2 = 0)) (fun x2 y2 S2 => zbo F n m k (t + 1) x2 y2 S2) x y 3 0 (if t % 2 = 0 then (-9) else nI 9, S)
theorem zi3 {i : Nat} (h : i ≤ 3) : (nI 1 < nI i - nI 1 ↔ i = 3) ∧ nI i - nI 1 + Int32.ofInt 1 = nI (i + 1) - nI 1 := by
  rcases (show i = 0 ∨ i = 1 ∨ i = 2 ∨ i = 3 by omega) with rfl | rfl | rfl | rfl <;> decide
set_option maxHeartbeats 4000000 in
set_option maxRecDepth 100000 in
theorem l_bestOf_1 {dd t c m : Nat} {x y : Int32} {v : Int32 → Int32 → zS → Int32 × zS} {R : Int32 × zS} (hdd : 6 ≤ dd) (hv : ∀ (x2 y2 : Int32) (S : zS), zCT E dd zm_X2_bestOf [.ref (zad E 162), .int (nI (t + 1)), .int (nI c), .int (nI m), .int x2, .int y2] (va_up Q 4 S, Z) (some (.int (v x2 y2 S).1)) (va_up Q 4 (v x2 y2 S).2, Z)) : ∀ f i (bb : Int32) (S : zS) (x9 x10 x11 : Option Value), i + f = 3 → zlp true v x y f i (bb, S) = R → zG E zm_X2_bestOf (dd + 1) (some (.int R.1)) (va_up Q 4 R.2, Z) 50 [some (.ref (zad E 162)), some (.int (nI t)), some (.int (nI c)), some (.int (nI m)), some (.int x), some (.int y), some (.int (nI 1)), some (.int bb), some (.int (nI i - nI 1)), x9, x10, x11] [] (va_up Q 4 S, Z) := by
  intro f
  induction f with
  | zero =>
    intro i bb S x9 x10 x11 hi hr
    refine zi_iload8 (n := 52) dX2_bestOf_50 rfl ?_
    refine zi_iconst (n := 53) (nI 1) dX2_bestOf_52 rfl (by decide) ?_
    refine zi_icgt (n := 56) (tgt := 151) dX2_bestOf_53 rfl (by decide) (fun h53 => ?_) (fun h53 => ?_)
    · refine zi_iload7 (n := 153) dX2_bestOf_151 rfl ?_
      exact zi_iret dX2_bestOf_153 rfl (by rw [← hr]; rfl) (by rw [← hr]; rfl)
    · exact absurd ((zi3 (by omega)).1.mpr (by omega)) h53
  | succ f ih =>
    intro i bb S x9 x10 x11 hi hr
    refine zi_iload8 (n := 52) dX2_bestOf_50 rfl ?_
    refine zi_iconst (n := 53) (nI 1) dX2_bestOf_52 rfl (by decide) ?_
    refine zi_icgt (n := 56) (tgt := 151) dX2_bestOf_53 rfl (by decide) (fun h53 => ?_) (fun h53 => ?_)
    · exact absurd ((zi3 (by omega)).1.mp h53) (by omega)
    · refine zi_iload6 (n := 58) dX2_bestOf_56 rfl ?_
      refine zi_ifeq (n := 61) (tgt := 69) dX2_bestOf_58 rfl (by decide) (fun h58 => ?_) (fun h58 => ?_)
      · exact absurd h58 (by decide)
      · refine zi_iload4 (n := 63) dX2_bestOf_61 rfl ?_
        refine zi_iload8 (n := 65) dX2_bestOf_63 rfl ?_
        refine zi_iadd (n := 66) dX2_bestOf_65 rfl ?_
        refine zi_goto (tgt := 71) dX2_bestOf_66 (by decide) ?_
        refine zi_istore9 (n := 73) dX2_bestOf_71 rfl (by decide) rfl ?_
        refine zi_iload6 (n := 75) dX2_bestOf_73 rfl ?_
        refine zi_ifeq (n := 78) (tgt := 83) dX2_bestOf_75 rfl (by decide) (fun h75 => ?_) (fun h75 => ?_)
        · exact absurd h75 (by decide)
        · refine zi_iload5 (n := 80) dX2_bestOf_78 rfl ?_
          refine zi_goto (tgt := 88) dX2_bestOf_80 (by decide) ?_
          refine zi_istore10 (n := 90) dX2_bestOf_88 rfl (by decide) rfl ?_
          refine zi_iload9 (n := 92) dX2_bestOf_90 rfl ?_
          refine zi_SN1s (mj := zm_X6_isPlace) (n := 95) dX2_bestOf_92 rfl zl_X2_87 zy_X6_isPlace (by omega) (Nat.le_of_ble_eq_true rfl) (c_X6_isPlace) ?_
          refine zi_ifeq_b (n := 98) (tgt := 145) dX2_bestOf_95 rfl (by decide) (fun h95 => ?_) (fun h95 => ?_)
          · refine zi_iinc8 (n := 148) (nI (i + 1) - nI 1) dX2_bestOf_145 rfl (by decide) rfl (zi3 (by omega)).2 ?_
            refine zi_goto (tgt := 50) dX2_bestOf_148 (by decide) ?_
            exact ih (i + 1) _ _ _ _ _ (by omega) (by rw [← hr, zlp]; congr 1; simp only [zst, Bool.false_eq_true, if_true, if_false]; first | (rw [if_pos ⟨h95, h103⟩]; done) | (rw [if_neg (fun zz => h95 zz.1)]; done) | (rw [if_neg (fun zz => h103 zz.2)]; done))
          · refine zi_iload10 (n := 100) dX2_bestOf_98 rfl ?_
            refine zi_SN1s (mj := zm_X6_isPlace) (n := 103) dX2_bestOf_100 rfl zl_X2_87 zy_X6_isPlace (by omega) (Nat.le_of_ble_eq_true rfl) (c_X6_isPlace) ?_
            refine zi_ifeq_b (n := 106) (tgt := 145) dX2_bestOf_103 rfl (by decide) (fun h103 => ?_) (fun h103 => ?_)
            · refine zi_iinc8 (n := 148) (nI (i + 1) - nI 1) dX2_bestOf_145 rfl (by decide) rfl (zi3 (by omega)).2 ?_
              refine zi_goto (tgt := 50) dX2_bestOf_148 (by decide) ?_
              exact ih (i + 1) _ _ _ _ _ (by omega) (by rw [← hr, zlp]; congr 1; simp only [zst, Bool.false_eq_true, if_true, if_false]; first | (rw [if_pos ⟨h95, h103⟩]; done) | (rw [if_neg (fun zz => h95 zz.1)]; done) | (rw [if_neg (fun zz => h103 zz.2)]; done))
            · refine zi_aload0 (n := 107) dX2_bestOf_106 rfl ?_
              refine zi_iload1 (n := 108) dX2_bestOf_107 rfl ?_
              refine zi_iconst (n := 109) (nI 1) dX2_bestOf_108 rfl (by decide) ?_
              refine zi_iadd (n := 110) dX2_bestOf_109 rfl ?_
              rw [nI_add]
              refine zi_iload2 (n := 111) dX2_bestOf_110 rfl ?_
              refine zi_iload3 (n := 112) dX2_bestOf_111 rfl ?_
              refine zi_iload9 (n := 114) dX2_bestOf_112 rfl ?_
              refine zi_iload10 (n := 116) dX2_bestOf_114 rfl ?_
              refine zi_S6s (mj := zm_X2_bestOf) (n := 119) dX2_bestOf_116 rfl zl_X2_90 zy_X2_bestOf (by omega) (Nat.le_of_ble_eq_true rfl) (hv _ _ _) ?_
              refine zi_istore11 (n := 121) dX2_bestOf_119 rfl (by decide) rfl ?_
              refine zi_iload6 (n := 123) dX2_bestOf_121 rfl ?_
              refine zi_ifeq (n := 126) (tgt := 136) dX2_bestOf_123 rfl (by decide) (fun h123 => ?_) (fun h123 => ?_)
              · exact absurd h123 (by decide)
              · refine zi_iload7 (n := 128) dX2_bestOf_126 rfl ?_
                refine zi_iload11 (n := 130) dX2_bestOf_128 rfl ?_
                refine zi_S2s (mj := zm_J9_max_7cf53) (n := 133) dX2_bestOf_130 rfl zl_X2_94 zy_J9_max_7cf53 (by omega) (Nat.le_of_ble_eq_true rfl) (c_J9_max_7cf53) ?_
                refine zi_goto (tgt := 143) dX2_bestOf_133 (by decide) ?_
                refine zi_istore7 (n := 145) dX2_bestOf_143 rfl (by decide) rfl ?_
                refine zi_iinc8 (n := 148) (nI (i + 1) - nI 1) dX2_bestOf_145 rfl (by decide) rfl (zi3 (by omega)).2 ?_
                refine zi_goto (tgt := 50) dX2_bestOf_148 (by decide) ?_
                exact ih (i + 1) _ _ _ _ _ (by omega) (by rw [← hr, zlp]; congr 1; simp only [zst, Bool.false_eq_true, if_true, if_false]; first | (rw [if_pos ⟨h95, h103⟩]; done) | (rw [if_neg (fun zz => h95 zz.1)]; done) | (rw [if_neg (fun zz => h103 zz.2)]; done))
set_option maxHeartbeats 4000000 in
set_option maxRecDepth 100000 in
theorem l_bestOf_0 {dd t c m : Nat} {x y : Int32} {v : Int32 → Int32 → zS → Int32 × zS} {R : Int32 × zS} (hdd : 6 ≤ dd) (hv : ∀ (x2 y2 : Int32) (S : zS), zCT E dd zm_X2_bestOf [.ref (zad E 162), .int (nI (t + 1)), .int (nI c), .int (nI m), .int x2, .int y2] (va_up Q 4 S, Z) (some (.int (v x2 y2 S).1)) (va_up Q 4 (v x2 y2 S).2, Z)) : ∀ f i (bb : Int32) (S : zS) (x9 x10 x11 : Option Value), i + f = 3 → zlp false v x y f i (bb, S) = R → zG E zm_X2_bestOf (dd + 1) (some (.int R.1)) (va_up Q 4 R.2, Z) 50 [some (.ref (zad E 162)), some (.int (nI t)), some (.int (nI c)), some (.int (nI m)), some (.int x), some (.int y), some (.int (nI 0)), some (.int bb), some (.int (nI i - nI 1)), x9, x10, x11] [] (va_up Q 4 S, Z) := by
  intro f
  induction f with
  | zero =>
    intro i bb S x9 x10 x11 hi hr
    refine zi_iload8 (n := 52) dX2_bestOf_50 rfl ?_
    refine zi_iconst (n := 53) (nI 1) dX2_bestOf_52 rfl (by decide) ?_
    refine zi_icgt (n := 56) (tgt := 151) dX2_bestOf_53 rfl (by decide) (fun h53 => ?_) (fun h53 => ?_)
    · refine zi_iload7 (n := 153) dX2_bestOf_151 rfl ?_
      exact zi_iret dX2_bestOf_153 rfl (by rw [← hr]; rfl) (by rw [← hr]; rfl)
    · exact absurd ((zi3 (by omega)).1.mpr (by omega)) h53
  | succ f ih =>
    intro i bb S x9 x10 x11 hi hr
    refine zi_iload8 (n := 52) dX2_bestOf_50 rfl ?_
    refine zi_iconst (n := 53) (nI 1) dX2_bestOf_52 rfl (by decide) ?_
    refine zi_icgt (n := 56) (tgt := 151) dX2_bestOf_53 rfl (by decide) (fun h53 => ?_) (fun h53 => ?_)
    · exact absurd ((zi3 (by omega)).1.mp h53) (by omega)
    · refine zi_iload6 (n := 58) dX2_bestOf_56 rfl ?_
      refine zi_ifeq (n := 61) (tgt := 69) dX2_bestOf_58 rfl (by decide) (fun h58 => ?_) (fun h58 => ?_)
      · refine zi_iload4 (n := 71) dX2_bestOf_69 rfl ?_
        refine zi_istore9 (n := 73) dX2_bestOf_71 rfl (by decide) rfl ?_
        refine zi_iload6 (n := 75) dX2_bestOf_73 rfl ?_
        refine zi_ifeq (n := 78) (tgt := 83) dX2_bestOf_75 rfl (by decide) (fun h75 => ?_) (fun h75 => ?_)
        · refine zi_iload5 (n := 85) dX2_bestOf_83 rfl ?_
          refine zi_iload8 (n := 87) dX2_bestOf_85 rfl ?_
          refine zi_iadd (n := 88) dX2_bestOf_87 rfl ?_
          refine zi_istore10 (n := 90) dX2_bestOf_88 rfl (by decide) rfl ?_
          refine zi_iload9 (n := 92) dX2_bestOf_90 rfl ?_
          refine zi_SN1s (mj := zm_X6_isPlace) (n := 95) dX2_bestOf_92 rfl zl_X2_87 zy_X6_isPlace (by omega) (Nat.le_of_ble_eq_true rfl) (c_X6_isPlace) ?_
          refine zi_ifeq_b (n := 98) (tgt := 145) dX2_bestOf_95 rfl (by decide) (fun h95 => ?_) (fun h95 => ?_)
          · refine zi_iinc8 (n := 148) (nI (i + 1) - nI 1) dX2_bestOf_145 rfl (by decide) rfl (zi3 (by omega)).2 ?_
            refine zi_goto (tgt := 50) dX2_bestOf_148 (by decide) ?_
            exact ih (i + 1) _ _ _ _ _ (by omega) (by rw [← hr, zlp]; congr 1; simp only [zst, Bool.false_eq_true, if_true, if_false]; first | (rw [if_pos ⟨h95, h103⟩]; done) | (rw [if_neg (fun zz => h95 zz.1)]; done) | (rw [if_neg (fun zz => h103 zz.2)]; done))
          · refine zi_iload10 (n := 100) dX2_bestOf_98 rfl ?_
            refine zi_SN1s (mj := zm_X6_isPlace) (n := 103) dX2_bestOf_100 rfl zl_X2_87 zy_X6_isPlace (by omega) (Nat.le_of_ble_eq_true rfl) (c_X6_isPlace) ?_
            refine zi_ifeq_b (n := 106) (tgt := 145) dX2_bestOf_103 rfl (by decide) (fun h103 => ?_) (fun h103 => ?_)
            · refine zi_iinc8 (n := 148) (nI (i + 1) - nI 1) dX2_bestOf_145 rfl (by decide) rfl (zi3 (by omega)).2 ?_
              refine zi_goto (tgt := 50) dX2_bestOf_148 (by decide) ?_
              exact ih (i + 1) _ _ _ _ _ (by omega) (by rw [← hr, zlp]; congr 1; simp only [zst, Bool.false_eq_true, if_true, if_false]; first | (rw [if_pos ⟨h95, h103⟩]; done) | (rw [if_neg (fun zz => h95 zz.1)]; done) | (rw [if_neg (fun zz => h103 zz.2)]; done))
            · refine zi_aload0 (n := 107) dX2_bestOf_106 rfl ?_
              refine zi_iload1 (n := 108) dX2_bestOf_107 rfl ?_
              refine zi_iconst (n := 109) (nI 1) dX2_bestOf_108 rfl (by decide) ?_
              refine zi_iadd (n := 110) dX2_bestOf_109 rfl ?_
              rw [nI_add]
              refine zi_iload2 (n := 111) dX2_bestOf_110 rfl ?_
              refine zi_iload3 (n := 112) dX2_bestOf_111 rfl ?_
              refine zi_iload9 (n := 114) dX2_bestOf_112 rfl ?_
              refine zi_iload10 (n := 116) dX2_bestOf_114 rfl ?_
              refine zi_S6s (mj := zm_X2_bestOf) (n := 119) dX2_bestOf_116 rfl zl_X2_90 zy_X2_bestOf (by omega) (Nat.le_of_ble_eq_true rfl) (hv _ _ _) ?_
              refine zi_istore11 (n := 121) dX2_bestOf_119 rfl (by decide) rfl ?_
              refine zi_iload6 (n := 123) dX2_bestOf_121 rfl ?_
              refine zi_ifeq (n := 126) (tgt := 136) dX2_bestOf_123 rfl (by decide) (fun h123 => ?_) (fun h123 => ?_)
              · refine zi_iload7 (n := 138) dX2_bestOf_136 rfl ?_
                refine zi_iload11 (n := 140) dX2_bestOf_138 rfl ?_
                refine zi_S2s (mj := zm_J9_min_7cf53) (n := 143) dX2_bestOf_140 rfl zl_X2_100 zy_J9_min_7cf53 (by omega) (Nat.le_of_ble_eq_true rfl) (c_J9_min_7cf53) ?_
                refine zi_istore7 (n := 145) dX2_bestOf_143 rfl (by decide) rfl ?_
                refine zi_iinc8 (n := 148) (nI (i + 1) - nI 1) dX2_bestOf_145 rfl (by decide) rfl (zi3 (by omega)).2 ?_
                refine zi_goto (tgt := 50) dX2_bestOf_148 (by decide) ?_
                exact ih (i + 1) _ _ _ _ _ (by omega) (by rw [← hr, zlp]; congr 1; simp only [zst, Bool.false_eq_true, if_true, if_false]; first | (rw [if_pos ⟨h95, h103⟩]; done) | (rw [if_neg (fun zz => h95 zz.1)]; done) | (rw [if_neg (fun zz => h103 zz.2)]; done))
              · exact absurd rfl h123
        · exact absurd rfl h75
      · exact absurd rfl h58
set_option maxHeartbeats 4000000 in
set_option maxRecDepth 100000 in
theorem c_X2_bestOf (hn : Q 1 0 0 = nI n) (h6 : n ≤ 6) (h1 : 0 < n) {m c : Nat} (hm : m < 2 ^ 30) (hc : c ≤ 4) : ∀ k t (x y : Int32) (S : zS), t + k = c → zCT E (6 + k) zm_X2_bestOf [.ref (zad E 162), .int (nI t), .int (nI c), .int (nI m), .int x, .int y] (va_up Q 4 S, Z) (some (.int (zbo (Q 1) n m k t x y S).1)) (va_up Q 4 (zbo (Q 1) n m k t x y S).2, Z) := by
  intro k
  induction k with
  | zero =>
    intro t x y S hk
    refine zCT.of (by decide +kernel) (Nat.le_of_ble_eq_true rfl) ?_
    refine zi_iload1 (n := 1) dX2_bestOf_0 rfl ?_
    refine zi_iload2 (n := 2) dX2_bestOf_1 rfl ?_
    refine zi_icge (n := 5) (tgt := 10) dX2_bestOf_2 rfl (by decide) (fun h2 => ?_) (fun h2 => ?_)
    · refine zi_aload0 (n := 11) dX2_bestOf_10 rfl ?_
      refine zi_iload3 (n := 12) dX2_bestOf_11 rfl ?_
      refine zi_iload4 (n := 14) dX2_bestOf_12 rfl ?_
      refine zi_iload5 (n := 16) dX2_bestOf_14 rfl ?_
      refine zi_V3s (mj := zm_X2_gain) (n := 19) dX2_bestOf_16 rfl zl_X2_84 zy_X2_gain (zrc_X2 _ _) (by omega) (Nat.le_of_ble_eq_true rfl) (c_X2_gain hn h6 h1 hm) ?_
      exact zi_iret dX2_bestOf_19 rfl (by rfl) (by rfl)
    · exact absurd (nI_le (by omega) (by omega)) h2
  | succ k ih =>
    intro t x y S hk
    refine zCT.of (by decide +kernel) (Nat.le_of_ble_eq_true rfl) ?_
    have hpr := pk_rem (a := t) (d := 2) (by omega) (by decide) (by decide)
    refine zi_iload1 (n := 1) dX2_bestOf_0 rfl ?_
    refine zi_iload2 (n := 2) dX2_bestOf_1 rfl ?_
    refine zi_icge (n := 5) (tgt := 10) dX2_bestOf_2 rfl (by decide) (fun h2 => ?_) (fun h2 => ?_)
    · exact absurd ((nI_leI (by omega) (by omega)).mp h2) (by omega)
    · refine zi_iload1 (n := 6) dX2_bestOf_5 rfl ?_
      refine zi_iconst (n := 7) (nI 4) dX2_bestOf_6 rfl (by decide) ?_
      refine zi_iclt (n := 10) (tgt := 20) dX2_bestOf_7 rfl (by decide) (fun h7 => ?_) (fun h7 => ?_)
      · refine zi_iload1 (n := 21) dX2_bestOf_20 rfl ?_
        refine zi_iconst (n := 22) (nI 2) dX2_bestOf_21 rfl (by decide) ?_
        refine zi_irem (n := 23) dX2_bestOf_22 rfl (by decide) ?_
        rw [hpr]
        refine zi_ifne (n := 26) (tgt := 30) dX2_bestOf_23 rfl (by decide) (fun h23 => ?_) (fun h23 => ?_)
        · have e23 : ¬ t % 2 = 0 := fun zz => h23 (by rw [zz]; rfl)
          refine zi_iconst (n := 31) (nI 0) dX2_bestOf_30 rfl (by decide) ?_
          refine zi_istore6 (n := 33) dX2_bestOf_31 rfl (by decide) rfl ?_
          refine zi_iload6 (n := 35) dX2_bestOf_33 rfl ?_
          refine zi_ifeq (n := 38) (tgt := 43) dX2_bestOf_35 rfl (by decide) (fun h35 => ?_) (fun h35 => ?_)
          · refine zi_bipush (n := 45) (nI 9) dX2_bestOf_43 rfl (by decide) ?_
            refine zi_istore7 (n := 47) dX2_bestOf_45 rfl (by decide) rfl ?_
            refine zi_iconst (n := 48) (-1) dX2_bestOf_47 rfl (by decide) ?_
            refine zi_istore8 (n := 50) dX2_bestOf_48 rfl (by decide) rfl ?_
            exact l_bestOf_0 (by omega) (fun x2 y2 S2 => ih (t + 1) x2 y2 S2 (by omega)) 3 0 _ _ _ _ _ rfl (by rw [zbo, if_neg e23, decide_eq_false e23])
          · exact absurd rfl h35
        · have e23 : t % 2 = 0 := by have := (nI_eq (a := t % 2) (b := 0) (by omega) (by omega)).mp h23; omega
          refine zi_iconst (n := 27) (nI 1) dX2_bestOf_26 rfl (by decide) ?_
          refine zi_goto (tgt := 31) dX2_bestOf_27 (by decide) ?_
          refine zi_istore6 (n := 33) dX2_bestOf_31 rfl (by decide) rfl ?_
          refine zi_iload6 (n := 35) dX2_bestOf_33 rfl ?_
          refine zi_ifeq (n := 38) (tgt := 43) dX2_bestOf_35 rfl (by decide) (fun h35 => ?_) (fun h35 => ?_)
          · exact absurd h35 (by decide)
          · refine zi_bipush (n := 40) (-9) dX2_bestOf_38 rfl (by decide) ?_
            refine zi_goto (tgt := 45) dX2_bestOf_40 (by decide) ?_
            refine zi_istore7 (n := 47) dX2_bestOf_45 rfl (by decide) rfl ?_
            refine zi_iconst (n := 48) (-1) dX2_bestOf_47 rfl (by decide) ?_
            refine zi_istore8 (n := 50) dX2_bestOf_48 rfl (by decide) rfl ?_
            exact l_bestOf_1 (by omega) (fun x2 y2 S2 => ih (t + 1) x2 y2 S2 (by omega)) 3 0 _ _ _ _ _ rfl (by rw [zbo, if_pos e23, decide_eq_true e23])
      · exact absurd (nI_lt (b := 4) (by omega) (by omega)) h7
end ZF6
