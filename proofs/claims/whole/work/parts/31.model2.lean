section ZM2
variable {E : zE} {Q : Nat → Nat → Nat → Int32} {Z : zS} {M : zMem} {r n p : Nat} {f : zF}
set_option maxHeartbeats 4000000 in
set_option maxRecDepth 100000 in
theorem l_X7_lenderOf (hr : zRw r) (hn : f 0 = nI n) (hn6 : n ≤ 6) {w : Nat} (hp : p < n) : ∀ (k : Nat) (x3 : Option Value), k < n → zlend (lgM f) n p k = w → zG E zm_X7_lenderOf 1 (some (.int (nI w))) (Q, va_up Z r f) 2 [some (.ref (zad E r)), some (.int (nI p)), some (.int (nI (n - k))), x3] [] (Q, va_up Z r f) := by
  intro k
  induction k with
  | zero =>
    intro x3 hk hw
    refine zi_iload2 (n := 3) dX7_lenderOf_2 rfl ?_
    refine zi_aload0 (n := 4) dX7_lenderOf_3 rfl ?_
    refine zi_iconst (n := 5) (nI 0) dX7_lenderOf_4 rfl (by decide) ?_
    refine zi_oald (N := 36) (n := 6) dX7_lenderOf_5 rfl (zRwB hr) (zRwE hr) (by decide) rfl (by decide) ((zfz _ _ _ _ _).trans hn) ?_
    refine zi_icge (n := 9) (tgt := 34) dX7_lenderOf_6 rfl (by decide) (fun h6 => ?_) (fun h6 => ?_)
    · refine zi_iload1 (n := 35) dX7_lenderOf_34 rfl ?_
      exact zi_iret dX7_lenderOf_35 rfl (by rw [← hw]; rfl) (by rfl)
    · exact absurd ((nI_leI (by omega) (by omega)).mpr (by omega)) h6
  | succ k ih =>
    intro x3 hk hw
    have hs : n - (k + 1) + 1 = n - k := by omega
    have hm : (p + (n - (k + 1))) % n < n := Nat.mod_lt _ (by omega)
    refine zi_iload2 (n := 3) dX7_lenderOf_2 rfl ?_
    refine zi_aload0 (n := 4) dX7_lenderOf_3 rfl ?_
    refine zi_iconst (n := 5) (nI 0) dX7_lenderOf_4 rfl (by decide) ?_
    refine zi_oald (N := 36) (n := 6) dX7_lenderOf_5 rfl (zRwB hr) (zRwE hr) (by decide) rfl (by decide) ((zfz _ _ _ _ _).trans hn) ?_
    refine zi_icge (n := 9) (tgt := 34) dX7_lenderOf_6 rfl (by decide) (fun h6 => ?_) (fun h6 => ?_)
    · exact absurd ((nI_leI (by omega) (by omega)).mp h6) (by omega)
    · refine zi_iload1 (n := 10) dX7_lenderOf_9 rfl ?_
      refine zi_iload2 (n := 11) dX7_lenderOf_10 rfl ?_
      refine zi_iadd (n := 12) dX7_lenderOf_11 rfl ?_
      rw [nI_add]
      refine zi_aload0 (n := 13) dX7_lenderOf_12 rfl ?_
      refine zi_iconst (n := 14) (nI 0) dX7_lenderOf_13 rfl (by decide) ?_
      refine zi_oald (N := 36) (n := 15) dX7_lenderOf_14 rfl (zRwB hr) (zRwE hr) (by decide) rfl (by decide) ((zfz _ _ _ _ _).trans hn) ?_
      refine zi_irem (n := 16) dX7_lenderOf_15 rfl (nI_ne0 (by omega) (by omega)) ?_
      rw [pk_rem (by omega) (by omega) (by omega)]
      refine zi_istore3 (n := 17) dX7_lenderOf_16 rfl (by decide) rfl ?_
      refine zi_aload0 (n := 18) dX7_lenderOf_17 rfl ?_
      refine zi_iload3 (n := 19) dX7_lenderOf_18 rfl ?_
      refine zi_iconst (n := 20) (nI 3) dX7_lenderOf_19 rfl (by decide) ?_
      refine zi_S3s (mj := zm_X7_of) (n := 23) dX7_lenderOf_20 rfl zl_X7_146 zy_X7_of (by decide) (Nat.le_of_ble_eq_true rfl) (c_X7_of hr (by omega) (by decide)) ?_
      refine zi_ifle (n := 26) (tgt := 28) dX7_lenderOf_23 rfl (by decide) (fun h23 => ?_) (fun h23 => ?_)
      · refine zi_iinc2 (n := 31) (nI (n - k)) dX7_lenderOf_28 rfl (by decide) rfl (by rw [zi1, hs]) ?_
        refine zi_goto (tgt := 2) dX7_lenderOf_31 (by decide) ?_
        exact ih _ (by omega) (by rw [← hw, zlend, if_neg (Int32.not_lt.mpr h23)])
      · refine zi_iload3 (n := 27) dX7_lenderOf_26 rfl ?_
        exact zi_iret dX7_lenderOf_27 rfl (by rw [← hw, zlend, if_pos (Int32.not_le.mp h23)]) (by rfl)
set_option maxHeartbeats 4000000 in
set_option maxRecDepth 100000 in
theorem c_X7_lenderOf (hr : zRw r) (hn : f 0 = nI n) (h6 : n ≤ 6) (hp : p < n) : zCT E 1 zm_X7_lenderOf [.ref (zad E r), .int (nI p)] (Q, va_up Z r f) (some (.int (nI (zlend (lgM f) n p (n - 1))))) (Q, va_up Z r f) := by
  refine zCT.of (by decide +kernel) (Nat.le_of_ble_eq_true rfl) ?_
  refine zi_iconst (n := 1) (nI 1) dX7_lenderOf_0 rfl (by decide) ?_
  refine zi_istore2 (n := 2) dX7_lenderOf_1 rfl (by decide) rfl ?_
  have g := l_X7_lenderOf (E := E) (Q := Q) (Z := Z) hr hn h6 hp (n - 1) none (by omega) rfl
  rw [show n - (n - 1) = 1 by omega] at g
  exact g
set_option maxHeartbeats 4000000 in
set_option maxRecDepth 100000 in
theorem c_bite_1 (hr : zRw r) (hn : f 0 = nI n) (h6 : n ≤ 6) (hp : p < n) (hk : f (6 + 5 * p) = nI 1) : zCT E 2 zm_X7_bite [.ref (zad E r), .int (nI p)] (Q, va_up Z r f) (some (.int (lostM f n p))) (Q, va_up Z r (biteM f n p)) := by
  refine zCT.of (by decide +kernel) (Nat.le_of_ble_eq_true rfl) ?_
  have d1 : ∀ a b : Nat, a < 6 → b < 6 → a ≠ b → ¬ nI a = nI b := by
    intro a b ha hb hab zz
    exact hab ((nI_eq (by omega) (by omega)).mp zz)
  have w0 : whoM f n p = p := if_neg (by rw [hk]; exact d1 1 3 (by decide) (by decide) (by decide))
  have q1 : ¬ nI 1 = nI 1 ∨ 1 = 1 := Or.inr rfl
  refine zi_iload1 (n := 1) dX7_bite_0 rfl ?_
  refine zi_istore2 (n := 2) dX7_bite_1 rfl (by decide) rfl ?_
  refine zi_aload0 (n := 3) dX7_bite_2 rfl ?_
  refine zi_iload1 (n := 4) dX7_bite_3 rfl ?_
  refine zi_iconst (n := 5) (nI 3) dX7_bite_4 rfl (by decide) ?_
  refine zi_S3s (mj := zm_X7_of) (n := 8) dX7_bite_5 rfl zl_X7_146 zy_X7_of (by decide) (Nat.le_of_ble_eq_true rfl) (c_X7_of hr (by omega) (by decide)) ?_
  refine zi_istore3 (n := 9) dX7_bite_8 rfl (by decide) rfl ?_
  refine zi_iload3 (n := 10) dX7_bite_9 rfl ?_
  refine zi_istore4 (n := 12) dX7_bite_10 rfl (by decide) rfl ?_
  refine zi_aload0 (n := 13) dX7_bite_12 rfl ?_
  refine zi_iload1 (n := 14) dX7_bite_13 rfl ?_
  refine zi_iconst (n := 15) (nI 0) dX7_bite_14 rfl (by decide) ?_
  refine zi_S3s (mj := zm_X7_of) (n := 18) dX7_bite_15 rfl zl_X7_146 zy_X7_of (by decide) (Nat.le_of_ble_eq_true rfl) (c_X7_of hr (by omega) (by decide)) ?_
  rw [show 6 + 5 * p + 0 = 6 + 5 * p from rfl, hk]
  refine zi_tableIn (tgt := 48) dX7_bite_18 (by decide) (by decide) rfl (by decide) ?_
  refine zi_goto (tgt := 138) dX7_bite_48 (by decide) ?_
  refine zi_aload0 (n := 139) dX7_bite_138 rfl ?_
  refine zi_iload2 (n := 140) dX7_bite_139 rfl ?_
  refine zi_iconst (n := 141) (nI 3) dX7_bite_140 rfl (by decide) ?_
  refine zi_aload0 (n := 142) dX7_bite_141 rfl ?_
  refine zi_iload2 (n := 143) dX7_bite_142 rfl ?_
  refine zi_iconst (n := 144) (nI 3) dX7_bite_143 rfl (by decide) ?_
  refine zi_S3s (mj := zm_X7_of) (n := 147) dX7_bite_144 rfl zl_X7_146 zy_X7_of (by decide) (Nat.le_of_ble_eq_true rfl) (c_X7_of hr (by omega) (by decide)) ?_
  refine zi_iload4 (n := 149) dX7_bite_147 rfl ?_
  refine zi_isub (n := 150) dX7_bite_149 rfl ?_
  refine zi_S4v (mj := zm_X7_be) (n := 153) dX7_bite_150 rfl zl_X7_154 zy_X7_be (by decide) (Nat.le_of_ble_eq_true rfl) (c_X7_be hr (by omega) (by decide)) ?_
  refine zi_iload4 (n := 155) dX7_bite_153 rfl ?_
  exact zi_iret dX7_bite_155 rfl (by simp only [lostM, w0, hk, d1 1 2 (by decide) (by decide) (by decide), if_true, if_false, Bool.false_eq_true]) (by simp only [biteM, bite1M, bite2M, lostM, w0, hk, d1 1 2 (by decide) (by decide) (by decide), false_and, true_and, if_true, if_false, Bool.false_eq_true])
set_option maxHeartbeats 4000000 in
set_option maxRecDepth 100000 in
theorem c_bite_2 (hr : zRw r) (hn : f 0 = nI n) (h6 : n ≤ 6) (hp : p < n) (hk : f (6 + 5 * p) = nI 2) : zCT E 2 zm_X7_bite [.ref (zad E r), .int (nI p)] (Q, va_up Z r f) (some (.int (lostM f n p))) (Q, va_up Z r (biteM f n p)) := by
  refine zCT.of (by decide +kernel) (Nat.le_of_ble_eq_true rfl) ?_
  have d1 : ∀ a b : Nat, a < 6 → b < 6 → a ≠ b → ¬ nI a = nI b := by
    intro a b ha hb hab zz
    exact hab ((nI_eq (by omega) (by omega)).mp zz)
  have w0 : whoM f n p = p := if_neg (by rw [hk]; exact d1 2 3 (by decide) (by decide) (by decide))
  have q1 : ¬ nI 2 = nI 1 ∨ 2 = 1 := Or.inl (d1 2 1 (by decide) (by decide) (by decide))
  refine zi_iload1 (n := 1) dX7_bite_0 rfl ?_
  refine zi_istore2 (n := 2) dX7_bite_1 rfl (by decide) rfl ?_
  refine zi_aload0 (n := 3) dX7_bite_2 rfl ?_
  refine zi_iload1 (n := 4) dX7_bite_3 rfl ?_
  refine zi_iconst (n := 5) (nI 3) dX7_bite_4 rfl (by decide) ?_
  refine zi_S3s (mj := zm_X7_of) (n := 8) dX7_bite_5 rfl zl_X7_146 zy_X7_of (by decide) (Nat.le_of_ble_eq_true rfl) (c_X7_of hr (by omega) (by decide)) ?_
  refine zi_istore3 (n := 9) dX7_bite_8 rfl (by decide) rfl ?_
  refine zi_iload3 (n := 10) dX7_bite_9 rfl ?_
  refine zi_istore4 (n := 12) dX7_bite_10 rfl (by decide) rfl ?_
  refine zi_aload0 (n := 13) dX7_bite_12 rfl ?_
  refine zi_iload1 (n := 14) dX7_bite_13 rfl ?_
  refine zi_iconst (n := 15) (nI 0) dX7_bite_14 rfl (by decide) ?_
  refine zi_S3s (mj := zm_X7_of) (n := 18) dX7_bite_15 rfl zl_X7_146 zy_X7_of (by decide) (Nat.le_of_ble_eq_true rfl) (c_X7_of hr (by omega) (by decide)) ?_
  rw [show 6 + 5 * p + 0 = 6 + 5 * p from rfl, hk]
  refine zi_tableIn (tgt := 51) dX7_bite_18 (by decide) (by decide) rfl (by decide) ?_
  refine zi_iload3 (n := 52) dX7_bite_51 rfl ?_
  refine zi_iconst (n := 53) (nI 2) dX7_bite_52 rfl (by decide) ?_
  refine zi_irem (n := 54) dX7_bite_53 rfl (by decide) ?_
  refine zi_iconst (n := 55) (nI 1) dX7_bite_54 rfl (by decide) ?_
  refine zi_icne (n := 58) (tgt := 138) dX7_bite_55 rfl (by decide) (fun h55 => ?_) (fun h55 => ?_)
  · have e55 : oddM f p = false := decide_eq_false h55
    refine zi_aload0 (n := 139) dX7_bite_138 rfl ?_
    refine zi_iload2 (n := 140) dX7_bite_139 rfl ?_
    refine zi_iconst (n := 141) (nI 3) dX7_bite_140 rfl (by decide) ?_
    refine zi_aload0 (n := 142) dX7_bite_141 rfl ?_
    refine zi_iload2 (n := 143) dX7_bite_142 rfl ?_
    refine zi_iconst (n := 144) (nI 3) dX7_bite_143 rfl (by decide) ?_
    refine zi_S3s (mj := zm_X7_of) (n := 147) dX7_bite_144 rfl zl_X7_146 zy_X7_of (by decide) (Nat.le_of_ble_eq_true rfl) (c_X7_of hr (by omega) (by decide)) ?_
    refine zi_iload4 (n := 149) dX7_bite_147 rfl ?_
    refine zi_isub (n := 150) dX7_bite_149 rfl ?_
    refine zi_S4v (mj := zm_X7_be) (n := 153) dX7_bite_150 rfl zl_X7_154 zy_X7_be (by decide) (Nat.le_of_ble_eq_true rfl) (c_X7_be hr (by omega) (by decide)) ?_
    refine zi_iload4 (n := 155) dX7_bite_153 rfl ?_
    exact zi_iret dX7_bite_155 rfl (by simp only [lostM, w0, hk, d1 2 1 (by decide) (by decide) (by decide), if_true, if_false, Bool.false_eq_true, e55]) (by first | (simp only [biteM, bite1M, bite2M, lostM, w0, hk, d1 2 1 (by decide) (by decide) (by decide), false_and, true_and, if_true, if_false, Bool.false_eq_true, e55, h72]; done) | (simp only [biteM, bite1M, bite2M, lostM, w0, hk, d1 2 1 (by decide) (by decide) (by decide), false_and, true_and, if_true, if_false, Bool.false_eq_true, e55]; done))
  · have e55 : oddM f p = true := decide_eq_true h55
    refine zi_iconst (n := 59) (nI 0) dX7_bite_58 rfl (by decide) ?_
    refine zi_istore4 (n := 61) dX7_bite_59 rfl (by decide) rfl ?_
    refine zi_aload0 (n := 62) dX7_bite_61 rfl ?_
    refine zi_iload1 (n := 63) dX7_bite_62 rfl ?_
    refine zi_iconst (n := 64) (nI 1) dX7_bite_63 rfl (by decide) ?_
    refine zi_aload0 (n := 65) dX7_bite_64 rfl ?_
    refine zi_iload1 (n := 66) dX7_bite_65 rfl ?_
    refine zi_iconst (n := 67) (nI 1) dX7_bite_66 rfl (by decide) ?_
    refine zi_S3s (mj := zm_X7_of) (n := 70) dX7_bite_67 rfl zl_X7_146 zy_X7_of (by decide) (Nat.le_of_ble_eq_true rfl) (c_X7_of hr (by omega) (by decide)) ?_
    refine zi_bipush (n := 72) (nI 9) dX7_bite_70 rfl (by decide) ?_
    refine zi_icge (n := 75) (tgt := 86) dX7_bite_72 rfl (by decide) (fun h72 => ?_) (fun h72 => ?_)
    · have h72 := Int32.not_lt.mpr h72
      refine zi_bipush (n := 88) (nI 9) dX7_bite_86 rfl (by decide) ?_
      refine zi_S4v (mj := zm_X7_be) (n := 91) dX7_bite_88 rfl zl_X7_154 zy_X7_be (by decide) (Nat.le_of_ble_eq_true rfl) (c_X7_be hr (by omega) (by decide)) ?_
      refine zi_goto (tgt := 138) dX7_bite_91 (by decide) ?_
      refine zi_aload0 (n := 139) dX7_bite_138 rfl ?_
      refine zi_iload2 (n := 140) dX7_bite_139 rfl ?_
      refine zi_iconst (n := 141) (nI 3) dX7_bite_140 rfl (by decide) ?_
      refine zi_aload0 (n := 142) dX7_bite_141 rfl ?_
      refine zi_iload2 (n := 143) dX7_bite_142 rfl ?_
      refine zi_iconst (n := 144) (nI 3) dX7_bite_143 rfl (by decide) ?_
      refine zi_S3s (mj := zm_X7_of) (n := 147) dX7_bite_144 rfl zl_X7_146 zy_X7_of (by decide) (Nat.le_of_ble_eq_true rfl) (c_X7_of hr (by omega) (by decide)) ?_
      refine zi_iload4 (n := 149) dX7_bite_147 rfl ?_
      refine zi_isub (n := 150) dX7_bite_149 rfl ?_
      refine zi_S4v (mj := zm_X7_be) (n := 153) dX7_bite_150 rfl zl_X7_154 zy_X7_be (by decide) (Nat.le_of_ble_eq_true rfl) (c_X7_be hr (by omega) (by decide)) ?_
      refine zi_iload4 (n := 155) dX7_bite_153 rfl ?_
      exact zi_iret dX7_bite_155 rfl (by simp only [lostM, w0, hk, d1 2 1 (by decide) (by decide) (by decide), if_true, if_false, Bool.false_eq_true, e55]) (by first | (simp only [biteM, bite1M, bite2M, lostM, w0, hk, d1 2 1 (by decide) (by decide) (by decide), false_and, true_and, if_true, if_false, Bool.false_eq_true, e55, h72]; done) | (simp only [biteM, bite1M, bite2M, lostM, w0, hk, d1 2 1 (by decide) (by decide) (by decide), false_and, true_and, if_true, if_false, Bool.false_eq_true, e55]; done))
    · have h72 := Int32.not_le.mp h72
      refine zi_aload0 (n := 76) dX7_bite_75 rfl ?_
      refine zi_iload1 (n := 77) dX7_bite_76 rfl ?_
      refine zi_iconst (n := 78) (nI 1) dX7_bite_77 rfl (by decide) ?_
      refine zi_S3s (mj := zm_X7_of) (n := 81) dX7_bite_78 rfl zl_X7_146 zy_X7_of (by decide) (Nat.le_of_ble_eq_true rfl) (c_X7_of hr (by omega) (by decide)) ?_
      refine zi_iconst (n := 82) (nI 1) dX7_bite_81 rfl (by decide) ?_
      refine zi_iadd (n := 83) dX7_bite_82 rfl ?_
      refine zi_goto (tgt := 88) dX7_bite_83 (by decide) ?_
      refine zi_S4v (mj := zm_X7_be) (n := 91) dX7_bite_88 rfl zl_X7_154 zy_X7_be (by decide) (Nat.le_of_ble_eq_true rfl) (c_X7_be hr (by omega) (by decide)) ?_
      refine zi_goto (tgt := 138) dX7_bite_91 (by decide) ?_
      refine zi_aload0 (n := 139) dX7_bite_138 rfl ?_
      refine zi_iload2 (n := 140) dX7_bite_139 rfl ?_
      refine zi_iconst (n := 141) (nI 3) dX7_bite_140 rfl (by decide) ?_
      refine zi_aload0 (n := 142) dX7_bite_141 rfl ?_
      refine zi_iload2 (n := 143) dX7_bite_142 rfl ?_
      refine zi_iconst (n := 144) (nI 3) dX7_bite_143 rfl (by decide) ?_
      refine zi_S3s (mj := zm_X7_of) (n := 147) dX7_bite_144 rfl zl_X7_146 zy_X7_of (by decide) (Nat.le_of_ble_eq_true rfl) (c_X7_of hr (by omega) (by decide)) ?_
      refine zi_iload4 (n := 149) dX7_bite_147 rfl ?_
      refine zi_isub (n := 150) dX7_bite_149 rfl ?_
      refine zi_S4v (mj := zm_X7_be) (n := 153) dX7_bite_150 rfl zl_X7_154 zy_X7_be (by decide) (Nat.le_of_ble_eq_true rfl) (c_X7_be hr (by omega) (by decide)) ?_
      refine zi_iload4 (n := 155) dX7_bite_153 rfl ?_
      exact zi_iret dX7_bite_155 rfl (by simp only [lostM, w0, hk, d1 2 1 (by decide) (by decide) (by decide), if_true, if_false, Bool.false_eq_true, e55]) (by first | (simp only [biteM, bite1M, bite2M, lostM, w0, hk, d1 2 1 (by decide) (by decide) (by decide), false_and, true_and, if_true, if_false, Bool.false_eq_true, e55, h72]; done) | (simp only [biteM, bite1M, bite2M, lostM, w0, hk, d1 2 1 (by decide) (by decide) (by decide), false_and, true_and, if_true, if_false, Bool.false_eq_true, e55]; done))
set_option maxHeartbeats 4000000 in
set_option maxRecDepth 100000 in
theorem c_bite_3 (hr : zRw r) (hn : f 0 = nI n) (h6 : n ≤ 6) (hp : p < n) (hk : f (6 + 5 * p) = nI 3) : zCT E 2 zm_X7_bite [.ref (zad E r), .int (nI p)] (Q, va_up Z r f) (some (.int (lostM f n p))) (Q, va_up Z r (biteM f n p)) := by
  refine zCT.of (by decide +kernel) (Nat.le_of_ble_eq_true rfl) ?_
  have d1 : ∀ a b : Nat, a < 6 → b < 6 → a ≠ b → ¬ nI a = nI b := by
    intro a b ha hb hab zz
    exact hab ((nI_eq (by omega) (by omega)).mp zz)
  have w0 : whoM f n p = zlend (lgM f) n p (n - 1) := if_pos hk
  have q1 : ¬ nI 3 = nI 1 ∨ 3 = 1 := Or.inl (d1 3 1 (by decide) (by decide) (by decide))
  have hz := zlend_lt (lg := lgM f) hp (n - 1)
  refine zi_iload1 (n := 1) dX7_bite_0 rfl ?_
  refine zi_istore2 (n := 2) dX7_bite_1 rfl (by decide) rfl ?_
  refine zi_aload0 (n := 3) dX7_bite_2 rfl ?_
  refine zi_iload1 (n := 4) dX7_bite_3 rfl ?_
  refine zi_iconst (n := 5) (nI 3) dX7_bite_4 rfl (by decide) ?_
  refine zi_S3s (mj := zm_X7_of) (n := 8) dX7_bite_5 rfl zl_X7_146 zy_X7_of (by decide) (Nat.le_of_ble_eq_true rfl) (c_X7_of hr (by omega) (by decide)) ?_
  refine zi_istore3 (n := 9) dX7_bite_8 rfl (by decide) rfl ?_
  refine zi_iload3 (n := 10) dX7_bite_9 rfl ?_
  refine zi_istore4 (n := 12) dX7_bite_10 rfl (by decide) rfl ?_
  refine zi_aload0 (n := 13) dX7_bite_12 rfl ?_
  refine zi_iload1 (n := 14) dX7_bite_13 rfl ?_
  refine zi_iconst (n := 15) (nI 0) dX7_bite_14 rfl (by decide) ?_
  refine zi_S3s (mj := zm_X7_of) (n := 18) dX7_bite_15 rfl zl_X7_146 zy_X7_of (by decide) (Nat.le_of_ble_eq_true rfl) (c_X7_of hr (by omega) (by decide)) ?_
  rw [show 6 + 5 * p + 0 = 6 + 5 * p from rfl, hk]
  refine zi_tableIn (tgt := 94) dX7_bite_18 (by decide) (by decide) rfl (by decide) ?_
  refine zi_aload0 (n := 95) dX7_bite_94 rfl ?_
  refine zi_iload1 (n := 96) dX7_bite_95 rfl ?_
  refine zi_S2s (mj := zm_X7_lenderOf) (n := 99) dX7_bite_96 rfl zl_X7_158 zy_X7_lenderOf (by decide) (Nat.le_of_ble_eq_true rfl) (c_X7_lenderOf hr hn h6 hp) ?_
  refine zi_istore2 (n := 100) dX7_bite_99 rfl (by decide) rfl ?_
  refine zi_aload0 (n := 101) dX7_bite_100 rfl ?_
  refine zi_iload2 (n := 102) dX7_bite_101 rfl ?_
  refine zi_iconst (n := 103) (nI 3) dX7_bite_102 rfl (by decide) ?_
  refine zi_S3s (mj := zm_X7_of) (n := 106) dX7_bite_103 rfl zl_X7_146 zy_X7_of (by decide) (Nat.le_of_ble_eq_true rfl) (c_X7_of hr (by omega) (by decide)) ?_
  refine zi_iload3 (n := 107) dX7_bite_106 rfl ?_
  refine zi_icge (n := 110) (tgt := 119) dX7_bite_107 rfl (by decide) (fun h107 => ?_) (fun h107 => ?_)
  · have h107 := Int32.not_lt.mpr h107
    refine zi_iload3 (n := 120) dX7_bite_119 rfl ?_
    refine zi_istore4 (n := 122) dX7_bite_120 rfl (by decide) rfl ?_
    refine zi_goto (tgt := 138) dX7_bite_122 (by decide) ?_
    refine zi_aload0 (n := 139) dX7_bite_138 rfl ?_
    refine zi_iload2 (n := 140) dX7_bite_139 rfl ?_
    refine zi_iconst (n := 141) (nI 3) dX7_bite_140 rfl (by decide) ?_
    refine zi_aload0 (n := 142) dX7_bite_141 rfl ?_
    refine zi_iload2 (n := 143) dX7_bite_142 rfl ?_
    refine zi_iconst (n := 144) (nI 3) dX7_bite_143 rfl (by decide) ?_
    refine zi_S3s (mj := zm_X7_of) (n := 147) dX7_bite_144 rfl zl_X7_146 zy_X7_of (by decide) (Nat.le_of_ble_eq_true rfl) (c_X7_of hr (by omega) (by decide)) ?_
    refine zi_iload4 (n := 149) dX7_bite_147 rfl ?_
    refine zi_isub (n := 150) dX7_bite_149 rfl ?_
    refine zi_S4v (mj := zm_X7_be) (n := 153) dX7_bite_150 rfl zl_X7_154 zy_X7_be (by decide) (Nat.le_of_ble_eq_true rfl) (c_X7_be hr (by omega) (by decide)) ?_
    refine zi_iload4 (n := 155) dX7_bite_153 rfl ?_
    exact zi_iret dX7_bite_155 rfl (by simp only [lostM, w0, hk, d1 3 1 (by decide) (by decide) (by decide), d1 3 2 (by decide) (by decide) (by decide), if_true, if_false, Bool.false_eq_true, h107]) (by simp only [biteM, bite1M, bite2M, lostM, w0, hk, d1 3 1 (by decide) (by decide) (by decide), d1 3 2 (by decide) (by decide) (by decide), false_and, true_and, if_true, if_false, Bool.false_eq_true, h107])
  · have h107 := Int32.not_le.mp h107
    refine zi_aload0 (n := 111) dX7_bite_110 rfl ?_
    refine zi_iload2 (n := 112) dX7_bite_111 rfl ?_
    refine zi_iconst (n := 113) (nI 3) dX7_bite_112 rfl (by decide) ?_
    refine zi_S3s (mj := zm_X7_of) (n := 116) dX7_bite_113 rfl zl_X7_146 zy_X7_of (by decide) (Nat.le_of_ble_eq_true rfl) (c_X7_of hr (by omega) (by decide)) ?_
    refine zi_goto (tgt := 120) dX7_bite_116 (by decide) ?_
    refine zi_istore4 (n := 122) dX7_bite_120 rfl (by decide) rfl ?_
    refine zi_goto (tgt := 138) dX7_bite_122 (by decide) ?_
    refine zi_aload0 (n := 139) dX7_bite_138 rfl ?_
    refine zi_iload2 (n := 140) dX7_bite_139 rfl ?_
    refine zi_iconst (n := 141) (nI 3) dX7_bite_140 rfl (by decide) ?_
    refine zi_aload0 (n := 142) dX7_bite_141 rfl ?_
    refine zi_iload2 (n := 143) dX7_bite_142 rfl ?_
    refine zi_iconst (n := 144) (nI 3) dX7_bite_143 rfl (by decide) ?_
    refine zi_S3s (mj := zm_X7_of) (n := 147) dX7_bite_144 rfl zl_X7_146 zy_X7_of (by decide) (Nat.le_of_ble_eq_true rfl) (c_X7_of hr (by omega) (by decide)) ?_
    refine zi_iload4 (n := 149) dX7_bite_147 rfl ?_
    refine zi_isub (n := 150) dX7_bite_149 rfl ?_
    refine zi_S4v (mj := zm_X7_be) (n := 153) dX7_bite_150 rfl zl_X7_154 zy_X7_be (by decide) (Nat.le_of_ble_eq_true rfl) (c_X7_be hr (by omega) (by decide)) ?_
    refine zi_iload4 (n := 155) dX7_bite_153 rfl ?_
    exact zi_iret dX7_bite_155 rfl (by simp only [lostM, w0, hk, d1 3 1 (by decide) (by decide) (by decide), d1 3 2 (by decide) (by decide) (by decide), if_true, if_false, Bool.false_eq_true, h107]) (by simp only [biteM, bite1M, bite2M, lostM, w0, hk, d1 3 1 (by decide) (by decide) (by decide), d1 3 2 (by decide) (by decide) (by decide), false_and, true_and, if_true, if_false, Bool.false_eq_true, h107])
set_option maxHeartbeats 4000000 in
set_option maxRecDepth 100000 in
theorem c_bite_4 (hr : zRw r) (hn : f 0 = nI n) (h6 : n ≤ 6) (hp : p < n) (hk : f (6 + 5 * p) = nI 4) : zCT E 2 zm_X7_bite [.ref (zad E r), .int (nI p)] (Q, va_up Z r f) (some (.int (lostM f n p))) (Q, va_up Z r (biteM f n p)) := by
  refine zCT.of (by decide +kernel) (Nat.le_of_ble_eq_true rfl) ?_
  have d1 : ∀ a b : Nat, a < 6 → b < 6 → a ≠ b → ¬ nI a = nI b := by
    intro a b ha hb hab zz
    exact hab ((nI_eq (by omega) (by omega)).mp zz)
  have w0 : whoM f n p = p := if_neg (by rw [hk]; exact d1 4 3 (by decide) (by decide) (by decide))
  have q1 : ¬ nI 4 = nI 1 ∨ 4 = 1 := Or.inl (d1 4 1 (by decide) (by decide) (by decide))
  refine zi_iload1 (n := 1) dX7_bite_0 rfl ?_
  refine zi_istore2 (n := 2) dX7_bite_1 rfl (by decide) rfl ?_
  refine zi_aload0 (n := 3) dX7_bite_2 rfl ?_
  refine zi_iload1 (n := 4) dX7_bite_3 rfl ?_
  refine zi_iconst (n := 5) (nI 3) dX7_bite_4 rfl (by decide) ?_
  refine zi_S3s (mj := zm_X7_of) (n := 8) dX7_bite_5 rfl zl_X7_146 zy_X7_of (by decide) (Nat.le_of_ble_eq_true rfl) (c_X7_of hr (by omega) (by decide)) ?_
  refine zi_istore3 (n := 9) dX7_bite_8 rfl (by decide) rfl ?_
  refine zi_iload3 (n := 10) dX7_bite_9 rfl ?_
  refine zi_istore4 (n := 12) dX7_bite_10 rfl (by decide) rfl ?_
  refine zi_aload0 (n := 13) dX7_bite_12 rfl ?_
  refine zi_iload1 (n := 14) dX7_bite_13 rfl ?_
  refine zi_iconst (n := 15) (nI 0) dX7_bite_14 rfl (by decide) ?_
  refine zi_S3s (mj := zm_X7_of) (n := 18) dX7_bite_15 rfl zl_X7_146 zy_X7_of (by decide) (Nat.le_of_ble_eq_true rfl) (c_X7_of hr (by omega) (by decide)) ?_
  rw [show 6 + 5 * p + 0 = 6 + 5 * p from rfl, hk]
  refine zi_tableIn (tgt := 125) dX7_bite_18 (by decide) (by decide) rfl (by decide) ?_
  refine zi_iload3 (n := 126) dX7_bite_125 rfl ?_
  refine zi_iconst (n := 127) (nI 1) dX7_bite_126 rfl (by decide) ?_
  refine zi_iadd (n := 128) dX7_bite_127 rfl ?_
  refine zi_iconst (n := 129) (nI 2) dX7_bite_128 rfl (by decide) ?_
  refine zi_idiv (n := 130) dX7_bite_129 rfl (by decide) ?_
  refine zi_istore4 (n := 132) dX7_bite_130 rfl (by decide) rfl ?_
  refine zi_goto (tgt := 138) dX7_bite_132 (by decide) ?_
  refine zi_aload0 (n := 139) dX7_bite_138 rfl ?_
  refine zi_iload2 (n := 140) dX7_bite_139 rfl ?_
  refine zi_iconst (n := 141) (nI 3) dX7_bite_140 rfl (by decide) ?_
  refine zi_aload0 (n := 142) dX7_bite_141 rfl ?_
  refine zi_iload2 (n := 143) dX7_bite_142 rfl ?_
  refine zi_iconst (n := 144) (nI 3) dX7_bite_143 rfl (by decide) ?_
  refine zi_S3s (mj := zm_X7_of) (n := 147) dX7_bite_144 rfl zl_X7_146 zy_X7_of (by decide) (Nat.le_of_ble_eq_true rfl) (c_X7_of hr (by omega) (by decide)) ?_
  refine zi_iload4 (n := 149) dX7_bite_147 rfl ?_
  refine zi_isub (n := 150) dX7_bite_149 rfl ?_
  refine zi_S4v (mj := zm_X7_be) (n := 153) dX7_bite_150 rfl zl_X7_154 zy_X7_be (by decide) (Nat.le_of_ble_eq_true rfl) (c_X7_be hr (by omega) (by decide)) ?_
  refine zi_iload4 (n := 155) dX7_bite_153 rfl ?_
  exact zi_iret dX7_bite_155 rfl (by simp only [lostM, w0, hk, d1 4 1 (by decide) (by decide) (by decide), d1 4 2 (by decide) (by decide) (by decide), d1 4 3 (by decide) (by decide) (by decide), if_true, if_false, Bool.false_eq_true]) (by simp only [biteM, bite1M, bite2M, lostM, w0, hk, d1 4 1 (by decide) (by decide) (by decide), d1 4 2 (by decide) (by decide) (by decide), d1 4 3 (by decide) (by decide) (by decide), false_and, true_and, if_true, if_false, Bool.false_eq_true])
set_option maxHeartbeats 4000000 in
set_option maxRecDepth 100000 in
theorem c_bite_5 (hr : zRw r) (hn : f 0 = nI n) (h6 : n ≤ 6) (hp : p < n) (hk : f (6 + 5 * p) = nI 5) : zCT E 2 zm_X7_bite [.ref (zad E r), .int (nI p)] (Q, va_up Z r f) (some (.int (lostM f n p))) (Q, va_up Z r (biteM f n p)) := by
  refine zCT.of (by decide +kernel) (Nat.le_of_ble_eq_true rfl) ?_
  have d1 : ∀ a b : Nat, a < 6 → b < 6 → a ≠ b → ¬ nI a = nI b := by
    intro a b ha hb hab zz
    exact hab ((nI_eq (by omega) (by omega)).mp zz)
  have w0 : whoM f n p = p := if_neg (by rw [hk]; exact d1 5 3 (by decide) (by decide) (by decide))
  have q1 : ¬ nI 5 = nI 1 ∨ 5 = 1 := Or.inl (d1 5 1 (by decide) (by decide) (by decide))
  refine zi_iload1 (n := 1) dX7_bite_0 rfl ?_
  refine zi_istore2 (n := 2) dX7_bite_1 rfl (by decide) rfl ?_
  refine zi_aload0 (n := 3) dX7_bite_2 rfl ?_
  refine zi_iload1 (n := 4) dX7_bite_3 rfl ?_
  refine zi_iconst (n := 5) (nI 3) dX7_bite_4 rfl (by decide) ?_
  refine zi_S3s (mj := zm_X7_of) (n := 8) dX7_bite_5 rfl zl_X7_146 zy_X7_of (by decide) (Nat.le_of_ble_eq_true rfl) (c_X7_of hr (by omega) (by decide)) ?_
  refine zi_istore3 (n := 9) dX7_bite_8 rfl (by decide) rfl ?_
  refine zi_iload3 (n := 10) dX7_bite_9 rfl ?_
  refine zi_istore4 (n := 12) dX7_bite_10 rfl (by decide) rfl ?_
  refine zi_aload0 (n := 13) dX7_bite_12 rfl ?_
  refine zi_iload1 (n := 14) dX7_bite_13 rfl ?_
  refine zi_iconst (n := 15) (nI 0) dX7_bite_14 rfl (by decide) ?_
  refine zi_S3s (mj := zm_X7_of) (n := 18) dX7_bite_15 rfl zl_X7_146 zy_X7_of (by decide) (Nat.le_of_ble_eq_true rfl) (c_X7_of hr (by omega) (by decide)) ?_
  rw [show 6 + 5 * p + 0 = 6 + 5 * p from rfl, hk]
  refine zi_tableOut (tgt := 135) dX7_bite_18 (by decide) (by decide) ?_
  refine zi_iconst (n := 136) (nI 1) dX7_bite_135 rfl (by decide) ?_
  refine zi_istore4 (n := 138) dX7_bite_136 rfl (by decide) rfl ?_
  refine zi_aload0 (n := 139) dX7_bite_138 rfl ?_
  refine zi_iload2 (n := 140) dX7_bite_139 rfl ?_
  refine zi_iconst (n := 141) (nI 3) dX7_bite_140 rfl (by decide) ?_
  refine zi_aload0 (n := 142) dX7_bite_141 rfl ?_
  refine zi_iload2 (n := 143) dX7_bite_142 rfl ?_
  refine zi_iconst (n := 144) (nI 3) dX7_bite_143 rfl (by decide) ?_
  refine zi_S3s (mj := zm_X7_of) (n := 147) dX7_bite_144 rfl zl_X7_146 zy_X7_of (by decide) (Nat.le_of_ble_eq_true rfl) (c_X7_of hr (by omega) (by decide)) ?_
  refine zi_iload4 (n := 149) dX7_bite_147 rfl ?_
  refine zi_isub (n := 150) dX7_bite_149 rfl ?_
  refine zi_S4v (mj := zm_X7_be) (n := 153) dX7_bite_150 rfl zl_X7_154 zy_X7_be (by decide) (Nat.le_of_ble_eq_true rfl) (c_X7_be hr (by omega) (by decide)) ?_
  refine zi_iload4 (n := 155) dX7_bite_153 rfl ?_
  exact zi_iret dX7_bite_155 rfl (by simp only [lostM, w0, hk, d1 5 1 (by decide) (by decide) (by decide), d1 5 2 (by decide) (by decide) (by decide), d1 5 3 (by decide) (by decide) (by decide), d1 5 4 (by decide) (by decide) (by decide), if_true, if_false, Bool.false_eq_true]) (by simp only [biteM, bite1M, bite2M, lostM, w0, hk, d1 5 1 (by decide) (by decide) (by decide), d1 5 2 (by decide) (by decide) (by decide), d1 5 3 (by decide) (by decide) (by decide), d1 5 4 (by decide) (by decide) (by decide), false_and, true_and, if_true, if_false, Bool.false_eq_true])
theorem c_X7_bite (hr : zRw r) (hf : zKd f n) (hp : p < n) : zCT E 2 zm_X7_bite [.ref (zad E r), .int (nI p)] (Q, va_up Z r f) (some (.int (lostM f n p))) (Q, va_up Z r (biteM f n p)) := by
  obtain ⟨hn, h6, hk⟩ := hf
  obtain ⟨k, h1, h2, h3⟩ := hk p hp
  rcases (show k = 1 ∨ k = 2 ∨ k = 3 ∨ k = 4 ∨ k = 5 by omega) with rfl | rfl | rfl | rfl | rfl
  · exact c_bite_1 hr hn h6 hp h3
  · exact c_bite_2 hr hn h6 hp h3
  · exact c_bite_3 hr hn h6 hp h3
  · exact c_bite_4 hr hn h6 hp h3
  · exact c_bite_5 hr hn h6 hp h3
set_option maxHeartbeats 4000000 in
set_option maxRecDepth 100000 in
theorem t_X7_noonOf (hr : zRw r) {x : Int32} {x2 : Option Value} : zG E zm_X7_noonOf 3 (some (.int x)) (Q, va_up Z r (n4M (n3M (n2M x f)))) 50 [some (.ref (zad E r)), some (.int x), x2] [] (Q, va_up Z r f) := by

  refine zi_aload0 (n := 51) dX7_noonOf_50 rfl ?_
  refine zi_iconst (n := 52) (nI 5) dX7_noonOf_51 rfl (by decide) ?_
  refine zi_dup2 (n := 53) dX7_noonOf_52 rfl rfl rfl ?_
  refine zi_oald (N := 36) (n := 54) dX7_noonOf_53 rfl (zRwB hr) (zRwE hr) (by decide) rfl (by omega) (zfz _ _ _ _ _) ?_
  refine zi_iload1 (n := 55) dX7_noonOf_54 rfl ?_
  refine zi_iadd (n := 56) dX7_noonOf_55 rfl ?_
  refine zi_oast (N := 36) (n := 57) dX7_noonOf_56 rfl (zRwB hr) (zRwE hr) (by decide) rfl (by omega) (zfq _ _ _ _ _ _) ?_
  refine zi_aload0 (n := 58) dX7_noonOf_57 rfl ?_
  refine zi_iconst (n := 59) (nI 1) dX7_noonOf_58 rfl (by decide) ?_
  refine zi_aload0 (n := 60) dX7_noonOf_59 rfl ?_
  refine zi_iconst (n := 61) (nI 1) dX7_noonOf_60 rfl (by decide) ?_
  refine zi_oald (N := 36) (n := 62) dX7_noonOf_61 rfl (zRwB hr) (zRwE hr) (by decide) rfl (by omega) (zfz _ _ _ _ _) ?_
  refine zi_aload0 (n := 63) dX7_noonOf_62 rfl ?_
  refine zi_iconst (n := 64) (nI 2) dX7_noonOf_63 rfl (by decide) ?_
  refine zi_oald (N := 36) (n := 65) dX7_noonOf_64 rfl (zRwB hr) (zRwE hr) (by decide) rfl (by omega) (zfz _ _ _ _ _) ?_
  refine zi_iadd (n := 66) dX7_noonOf_65 rfl ?_
  refine zi_bipush (n := 68) (nI 9) dX7_noonOf_66 rfl (by decide) ?_
  refine zi_iadd (n := 69) dX7_noonOf_68 rfl ?_
  refine zi_bipush (n := 71) (nI 10) dX7_noonOf_69 rfl (by decide) ?_
  refine zi_irem (n := 72) dX7_noonOf_71 rfl (by decide) ?_
  refine zi_oast (N := 36) (n := 73) dX7_noonOf_72 rfl (zRwB hr) (zRwE hr) (by decide) rfl (by omega) (zfq _ _ _ _ _ _) ?_
  refine zi_aload0 (n := 74) dX7_noonOf_73 rfl ?_
  refine zi_iconst (n := 75) (nI 4) dX7_noonOf_74 rfl (by decide) ?_
  refine zi_dup2 (n := 76) dX7_noonOf_75 rfl rfl rfl ?_
  refine zi_oald (N := 36) (n := 77) dX7_noonOf_76 rfl (zRwB hr) (zRwE hr) (by decide) rfl (by omega) (zfz _ _ _ _ _) ?_
  refine zi_iconst (n := 78) (nI 1) dX7_noonOf_77 rfl (by decide) ?_
  refine zi_iadd (n := 79) dX7_noonOf_78 rfl ?_
  refine zi_oast (N := 36) (n := 80) dX7_noonOf_79 rfl (zRwB hr) (zRwE hr) (by decide) rfl (by omega) (zfq _ _ _ _ _ _) ?_
  refine zi_iload1 (n := 81) dX7_noonOf_80 rfl ?_
  exact zi_iret dX7_noonOf_81 rfl (by rfl) (by rfl)
set_option maxHeartbeats 4000000 in
set_option maxRecDepth 100000 in
theorem c_X7_noonOf (hr : zRw r) (hf : zKd f n) : zCT E 3 zm_X7_noonOf [.ref (zad E r)] (Q, va_up Z r f) (some (.int (n1M f n).1)) (Q, va_up Z r (noonM f n)) := by
  refine zCT.of (by decide +kernel) (Nat.le_of_ble_eq_true rfl) ?_
  unfold noonM
  refine zi_iconst (n := 1) (nI 0) dX7_noonOf_0 rfl (by decide) ?_
  refine zi_istore1 (n := 2) dX7_noonOf_1 rfl (by decide) rfl ?_
  refine zi_aload0 (n := 3) dX7_noonOf_2 rfl ?_
  refine zi_iconst (n := 4) (nI 3) dX7_noonOf_3 rfl (by decide) ?_
  refine zi_oald (N := 36) (n := 5) dX7_noonOf_4 rfl (zRwB hr) (zRwE hr) (by decide) rfl (by omega) (zfz _ _ _ _ _) ?_
  refine zi_ifle (n := 8) (tgt := 18) dX7_noonOf_5 rfl (by decide) (fun h5 => ?_) (fun h5 => ?_)
  · have e1 : n1M f n = (match nextM f n with
      | none => (nI 0, f)
      | some p => (lostM f n p, upd (biteM f n p) 3 (if lostM f n p ≤ nI 5 then nI 0 else lostM f n p - nI 5))) := if_pos h5
    refine zi_aload0 (n := 19) dX7_noonOf_18 rfl ?_
    refine zi_S1s (mj := zm_X7_nextOf) (n := 22) dX7_noonOf_19 rfl zl_X7_161 zy_X7_nextOf (by decide) (Nat.le_of_ble_eq_true rfl) (c_X7_nextOf hr hf.1 hf.2.1) ?_
    refine zi_istore2 (n := 23) dX7_noonOf_22 rfl (by decide) rfl ?_
    rcases hbo : nextM f n with _ | p
    · rw [e1, hbo]
      refine zi_iload2 (n := 24) dX7_noonOf_23 rfl ?_
      refine zi_ldc (n := 26) dX7_noonOf_24 rfl zl_X7_87 ?_
      refine zi_iceq (n := 29) (tgt := 50) dX7_noonOf_26 rfl (by decide) (fun h26 => ?_) (fun h26 => absurd rfl h26)
      exact t_X7_noonOf hr
    have hp := nextM_lt hbo
    have hp6 := hf.2.1
    have nne : ¬ encO (some p) = -1000000 := fun zz => absurd (show nI p < 0 by rw [show nI p = -1000000 from zz]; decide) (nI_pos (by omega))
    rw [e1, hbo]
    refine zi_iload2 (n := 24) dX7_noonOf_23 rfl ?_
    refine zi_ldc (n := 26) dX7_noonOf_24 rfl zl_X7_87 ?_
    refine zi_iceq (n := 29) (tgt := 50) dX7_noonOf_26 rfl (by decide) (fun h26 => ?_) (fun h26 => ?_)
    · first | exact absurd nne h26 | exact absurd h26 nne
    · refine zi_aload0 (n := 30) dX7_noonOf_29 rfl ?_
      refine zi_iload2 (n := 31) dX7_noonOf_30 rfl ?_
      refine zi_S2s (mj := zm_X7_bite) (n := 34) dX7_noonOf_31 rfl zl_X7_165 zy_X7_bite (by decide) (Nat.le_of_ble_eq_true rfl) (c_X7_bite hr hf hp) ?_
      refine zi_istore1 (n := 35) dX7_noonOf_34 rfl (by decide) rfl ?_
      refine zi_aload0 (n := 36) dX7_noonOf_35 rfl ?_
      refine zi_iconst (n := 37) (nI 3) dX7_noonOf_36 rfl (by decide) ?_
      refine zi_iload1 (n := 38) dX7_noonOf_37 rfl ?_
      refine zi_iconst (n := 39) (nI 5) dX7_noonOf_38 rfl (by decide) ?_
      refine zi_icle (n := 42) (tgt := 48) dX7_noonOf_39 rfl (by decide) (fun h39 => ?_) (fun h39 => ?_)
      · dsimp only
        rw [if_pos h39]
        refine zi_iconst (n := 49) (nI 0) dX7_noonOf_48 rfl (by decide) ?_
        refine zi_oast (N := 36) (n := 50) dX7_noonOf_49 rfl (zRwB hr) (zRwE hr) (by decide) rfl (by omega) (zfq _ _ _ _ _ _) ?_
        exact t_X7_noonOf hr
      · dsimp only
        rw [if_neg h39]
        refine zi_iload1 (n := 43) dX7_noonOf_42 rfl ?_
        refine zi_iconst (n := 44) (nI 5) dX7_noonOf_43 rfl (by decide) ?_
        refine zi_isub (n := 45) dX7_noonOf_44 rfl ?_
        refine zi_goto (tgt := 49) dX7_noonOf_45 (by decide) ?_
        refine zi_oast (N := 36) (n := 50) dX7_noonOf_49 rfl (zRwB hr) (zRwE hr) (by decide) rfl (by omega) (zfq _ _ _ _ _ _) ?_
        exact t_X7_noonOf hr
  · have e1 : n1M f n = (nI 0, upd f 3 (f 3 - nI 1)) := if_neg h5
    rw [e1]
    refine zi_aload0 (n := 9) dX7_noonOf_8 rfl ?_
    refine zi_iconst (n := 10) (nI 3) dX7_noonOf_9 rfl (by decide) ?_
    refine zi_dup2 (n := 11) dX7_noonOf_10 rfl rfl rfl ?_
    refine zi_oald (N := 36) (n := 12) dX7_noonOf_11 rfl (zRwB hr) (zRwE hr) (by decide) rfl (by omega) (zfz _ _ _ _ _) ?_
    refine zi_iconst (n := 13) (nI 1) dX7_noonOf_12 rfl (by decide) ?_
    refine zi_isub (n := 14) dX7_noonOf_13 rfl ?_
    refine zi_oast (N := 36) (n := 15) dX7_noonOf_14 rfl (zRwB hr) (zRwE hr) (by decide) rfl (by omega) (zfq _ _ _ _ _ _) ?_
    refine zi_goto (tgt := 50) dX7_noonOf_15 (by decide) ?_
    exact t_X7_noonOf hr
set_option maxHeartbeats 4000000 in
set_option maxRecDepth 100000 in
theorem l_X7_noonsOf (hr : zRw r) (hf : zKd f n) {m : Nat} (hm : m < 2 ^ 30) : ∀ k i (x3 : Option Value), m - i < k → i ≤ m → zG E zm_X7_noonsOf 4 none (Q, va_up Z r (noonsM f n m)) 2 [some (.ref (zad E r)), some (.int (nI m)), some (.int (nI i)), x3] [] (Q, va_up Z r (noonsM f n i)) := by
  intro k
  induction k with
  | zero => intro i x3 h; omega
  | succ k ih =>
    intro i x3 h1 h2
    refine zi_iload2 (n := 3) dX7_noonsOf_2 rfl ?_
    refine zi_iload1 (n := 4) dX7_noonsOf_3 rfl ?_
    refine zi_icge (n := 7) (tgt := 18) dX7_noonsOf_4 rfl (by decide) (fun h4 => ?_) (fun h4 => ?_)
    · have e : i = m := by have := (nI_leI (by omega) (by omega)).mp h4; omega
      subst e
      exact zi_vret dX7_noonsOf_18 rfl (by rfl) (by rfl)
    · have e : i < m := by have := mt (nI_leI (by omega) (by omega)).mpr h4; omega
      refine zi_aload0 (n := 8) dX7_noonsOf_7 rfl ?_
      refine zi_S1s (mj := zm_X7_noonOf) (n := 11) dX7_noonsOf_8 rfl zl_X7_168 zy_X7_noonOf (by decide) (Nat.le_of_ble_eq_true rfl) (c_X7_noonOf hr (hf.noons i)) ?_
      refine zi_istore3 (n := 12) dX7_noonsOf_11 rfl (by decide) rfl ?_
      refine zi_iinc2 (n := 15) (nI (i + 1)) dX7_noonsOf_12 rfl (by decide) rfl (zi1 _) ?_
      refine zi_goto (tgt := 2) dX7_noonsOf_15 (by decide) ?_
      exact ih (i + 1) _ (by omega) (by omega)
set_option maxHeartbeats 4000000 in
set_option maxRecDepth 100000 in
theorem c_X7_noonsOf (hr : zRw r) (hf : zKd f n) {m : Nat} (hm : m < 2 ^ 30) : zCT E 4 zm_X7_noonsOf [.ref (zad E r), .int (nI m)] (Q, va_up Z r f) none (Q, va_up Z r (noonsM f n m)) := by
  refine zCT.of (by decide +kernel) (Nat.le_of_ble_eq_true rfl) ?_
  refine zi_iconst (n := 1) (nI 0) dX7_noonsOf_0 rfl (by decide) ?_
  refine zi_istore2 (n := 2) dX7_noonsOf_1 rfl (by decide) rfl ?_
  exact l_X7_noonsOf hr hf hm (m + 1) 0 none (by omega) (by omega)
set_option maxHeartbeats 4000000 in
set_option maxRecDepth 100000 in
theorem l_X7_lettersOf (hr : zRw r) (hn : f 0 = nI n) (h6 : n ≤ 6) : ∀ k p, n - p < k → p ≤ n → zG E zm_X7_lettersOf 1 (some (.int (zsum (lgM f) n))) (Q, va_up Z r f) 4 [some (.ref (zad E r)), some (.int (zsum (lgM f) p)), some (.int (nI p))] [] (Q, va_up Z r f) := by
  intro k
  induction k with
  | zero => intro p h; omega
  | succ k ih =>
    intro p h1 h2
    refine zi_iload2 (n := 5) dX7_lettersOf_4 rfl ?_
    refine zi_aload0 (n := 6) dX7_lettersOf_5 rfl ?_
    refine zi_iconst (n := 7) (nI 0) dX7_lettersOf_6 rfl (by decide) ?_
    refine zi_oald (N := 36) (n := 8) dX7_lettersOf_7 rfl (zRwB hr) (zRwE hr) (by decide) rfl (by decide) ((zfz _ _ _ _ _).trans hn) ?_
    refine zi_icge (n := 11) (tgt := 26) dX7_lettersOf_8 rfl (by decide) (fun h8 => ?_) (fun h8 => ?_)
    · have e : p = n := by have := (nI_leI (by omega) (by omega)).mp h8; omega
      subst e
      refine zi_iload1 (n := 27) dX7_lettersOf_26 rfl ?_
      exact zi_iret dX7_lettersOf_27 rfl (by rfl) (by rfl)
    · have e : p < n := by have := mt (nI_leI (by omega) (by omega)).mpr h8; omega
      refine zi_iload1 (n := 12) dX7_lettersOf_11 rfl ?_
      refine zi_aload0 (n := 13) dX7_lettersOf_12 rfl ?_
      refine zi_iload2 (n := 14) dX7_lettersOf_13 rfl ?_
      refine zi_iconst (n := 15) (nI 3) dX7_lettersOf_14 rfl (by decide) ?_
      refine zi_S3s (mj := zm_X7_of) (n := 18) dX7_lettersOf_15 rfl zl_X7_146 zy_X7_of (by decide) (Nat.le_of_ble_eq_true rfl) (c_X7_of hr (by omega) (by decide)) ?_
      refine zi_iadd (n := 19) dX7_lettersOf_18 rfl ?_
      refine zi_istore1 (n := 20) dX7_lettersOf_19 rfl (by decide) rfl ?_
      refine zi_iinc2 (n := 23) (nI (p + 1)) dX7_lettersOf_20 rfl (by decide) rfl (zi1 _) ?_
      refine zi_goto (tgt := 4) dX7_lettersOf_23 (by decide) ?_
      exact ih (p + 1) (by omega) (by omega)
set_option maxHeartbeats 4000000 in
set_option maxRecDepth 100000 in
theorem c_X7_lettersOf (hr : zRw r) (hn : f 0 = nI n) (h6 : n ≤ 6) : zCT E 1 zm_X7_lettersOf [.ref (zad E r)] (Q, va_up Z r f) (some (.int (zsum (lgM f) n))) (Q, va_up Z r f) := by
  refine zCT.of (by decide +kernel) (Nat.le_of_ble_eq_true rfl) ?_
  refine zi_iconst (n := 1) (nI 0) dX7_lettersOf_0 rfl (by decide) ?_
  refine zi_istore1 (n := 2) dX7_lettersOf_1 rfl (by decide) rfl ?_
  refine zi_iconst (n := 3) (nI 0) dX7_lettersOf_2 rfl (by decide) ?_
  refine zi_istore2 (n := 4) dX7_lettersOf_3 rfl (by decide) rfl ?_
  exact l_X7_lettersOf hr hn h6 (n + 1) 0 (by omega) (by omega)
def zbM (c : Nat → Bool) : Nat → Int32
  | 0 => nI 0
  | n + 1 => zbM c n ||| (if c n then nI 1 <<< (nI n &&& 31) else nI 0)
set_option maxHeartbeats 4000000 in
set_option maxRecDepth 100000 in
theorem l_X7_nameless (hr : zRw r) (hn : f 0 = nI n) (h6 : n ≤ 6) : ∀ k p, n - p < k → p ≤ n → zG E zm_X7_nameless 1 (some (.int (zbM (fun p => decide (f (6 + 5 * p + 3) = 0)) n))) (Q, va_up Z r f) 4 [some (.ref (zad E r)), some (.int (zbM (fun p => decide (f (6 + 5 * p + 3) = 0)) p)), some (.int (nI p))] [] (Q, va_up Z r f) := by
  intro k
  induction k with
  | zero => intro p h; omega
  | succ k ih =>
    intro p h1 h2
    refine zi_iload2 (n := 5) dX7_nameless_4 rfl ?_
    refine zi_aload0 (n := 6) dX7_nameless_5 rfl ?_
    refine zi_iconst (n := 7) (nI 0) dX7_nameless_6 rfl (by decide) ?_
    refine zi_oald (N := 36) (n := 8) dX7_nameless_7 rfl (zRwB hr) (zRwE hr) (by decide) rfl (by decide) ((zfz _ _ _ _ _).trans hn) ?_
    refine zi_icge (n := 11) (tgt := 36) dX7_nameless_8 rfl (by decide) (fun h8 => ?_) (fun h8 => ?_)
    · have e : p = n := by have := (nI_leI (by omega) (by omega)).mp h8; omega
      subst e
      refine zi_iload1 (n := 37) dX7_nameless_36 rfl ?_
      exact zi_iret dX7_nameless_37 rfl (by rfl) (by rfl)
    · have e : p < n := by have := mt (nI_leI (by omega) (by omega)).mpr h8; omega
      refine zi_iload1 (n := 12) dX7_nameless_11 rfl ?_
      refine zi_aload0 (n := 13) dX7_nameless_12 rfl ?_
      refine zi_iload2 (n := 14) dX7_nameless_13 rfl ?_
      refine zi_iconst (n := 15) (nI 3) dX7_nameless_14 rfl (by decide) ?_
      refine zi_S3s (mj := zm_X7_of) (n := 18) dX7_nameless_15 rfl zl_X7_146 zy_X7_of (by decide) (Nat.le_of_ble_eq_true rfl) (c_X7_of hr (by omega) (by decide)) ?_
      refine zi_ifne (n := 21) (tgt := 27) dX7_nameless_18 rfl (by decide) (fun h18 => ?_) (fun h18 => ?_)
      · refine zi_iconst (n := 28) (nI 0) dX7_nameless_27 rfl (by decide) ?_
        refine zi_ior (n := 29) dX7_nameless_28 rfl ?_
        refine zi_istore1 (n := 30) dX7_nameless_29 rfl (by decide) rfl ?_
        refine zi_iinc2 (n := 33) (nI (p + 1)) dX7_nameless_30 rfl (by decide) rfl (zi1 _) ?_
        refine zi_goto (tgt := 4) dX7_nameless_33 (by decide) ?_
        have g := ih (p + 1) (by omega) (by omega)
        simp only [zbM, h18, decide_true, decide_false, if_true, if_false, Bool.false_eq_true] at g
        exact g
      · refine zi_iconst (n := 22) (nI 1) dX7_nameless_21 rfl (by decide) ?_
        refine zi_iload2 (n := 23) dX7_nameless_22 rfl ?_
        refine zi_ishl (n := 24) dX7_nameless_23 rfl ?_
        refine zi_goto (tgt := 28) dX7_nameless_24 (by decide) ?_
        refine zi_ior (n := 29) dX7_nameless_28 rfl ?_
        refine zi_istore1 (n := 30) dX7_nameless_29 rfl (by decide) rfl ?_
        refine zi_iinc2 (n := 33) (nI (p + 1)) dX7_nameless_30 rfl (by decide) rfl (zi1 _) ?_
        refine zi_goto (tgt := 4) dX7_nameless_33 (by decide) ?_
        have g := ih (p + 1) (by omega) (by omega)
        simp only [zbM, h18, decide_true, decide_false, if_true, if_false, Bool.false_eq_true] at g
        exact g
set_option maxHeartbeats 4000000 in
set_option maxRecDepth 100000 in
theorem c_X7_nameless (hr : zRw r) (hn : f 0 = nI n) (h6 : n ≤ 6) : zCT E 1 zm_X7_nameless [.ref (zad E r)] (Q, va_up Z r f) (some (.int (zbM (fun p => decide (f (6 + 5 * p + 3) = 0)) n))) (Q, va_up Z r f) := by
  refine zCT.of (by decide +kernel) (Nat.le_of_ble_eq_true rfl) ?_
  refine zi_iconst (n := 1) (nI 0) dX7_nameless_0 rfl (by decide) ?_
  refine zi_istore1 (n := 2) dX7_nameless_1 rfl (by decide) rfl ?_
  refine zi_iconst (n := 3) (nI 0) dX7_nameless_2 rfl (by decide) ?_
  refine zi_istore2 (n := 4) dX7_nameless_3 rfl (by decide) rfl ?_
  exact l_X7_nameless hr hn h6 (n + 1) 0 (by omega) (by omega)
set_option maxHeartbeats 4000000 in
set_option maxRecDepth 100000 in
theorem l_X7_hiddenOf (hr : zRw r) (hn : f 0 = nI n) (h6 : n ≤ 6) : ∀ k p, n - p < k → p ≤ n → zG E zm_X7_hiddenOf 1 (some (.int (zbM (fun p => decide (f (6 + 5 * p + 4) = nI 1)) n))) (Q, va_up Z r f) 4 [some (.ref (zad E r)), some (.int (zbM (fun p => decide (f (6 + 5 * p + 4) = nI 1)) p)), some (.int (nI p))] [] (Q, va_up Z r f) := by
  intro k
  induction k with
  | zero => intro p h; omega
  | succ k ih =>
    intro p h1 h2
    refine zi_iload2 (n := 5) dX7_hiddenOf_4 rfl ?_
    refine zi_aload0 (n := 6) dX7_hiddenOf_5 rfl ?_
    refine zi_iconst (n := 7) (nI 0) dX7_hiddenOf_6 rfl (by decide) ?_
    refine zi_oald (N := 36) (n := 8) dX7_hiddenOf_7 rfl (zRwB hr) (zRwE hr) (by decide) rfl (by decide) ((zfz _ _ _ _ _).trans hn) ?_
    refine zi_icge (n := 11) (tgt := 37) dX7_hiddenOf_8 rfl (by decide) (fun h8 => ?_) (fun h8 => ?_)
    · have e : p = n := by have := (nI_leI (by omega) (by omega)).mp h8; omega
      subst e
      refine zi_iload1 (n := 38) dX7_hiddenOf_37 rfl ?_
      exact zi_iret dX7_hiddenOf_38 rfl (by rfl) (by rfl)
    · have e : p < n := by have := mt (nI_leI (by omega) (by omega)).mpr h8; omega
      refine zi_iload1 (n := 12) dX7_hiddenOf_11 rfl ?_
      refine zi_aload0 (n := 13) dX7_hiddenOf_12 rfl ?_
      refine zi_iload2 (n := 14) dX7_hiddenOf_13 rfl ?_
      refine zi_iconst (n := 15) (nI 4) dX7_hiddenOf_14 rfl (by decide) ?_
      refine zi_S3s (mj := zm_X7_of) (n := 18) dX7_hiddenOf_15 rfl zl_X7_146 zy_X7_of (by decide) (Nat.le_of_ble_eq_true rfl) (c_X7_of hr (by omega) (by decide)) ?_
      refine zi_iconst (n := 19) (nI 1) dX7_hiddenOf_18 rfl (by decide) ?_
      refine zi_icne (n := 22) (tgt := 28) dX7_hiddenOf_19 rfl (by decide) (fun h19 => ?_) (fun h19 => ?_)
      · refine zi_iconst (n := 29) (nI 0) dX7_hiddenOf_28 rfl (by decide) ?_
        refine zi_ior (n := 30) dX7_hiddenOf_29 rfl ?_
        refine zi_istore1 (n := 31) dX7_hiddenOf_30 rfl (by decide) rfl ?_
        refine zi_iinc2 (n := 34) (nI (p + 1)) dX7_hiddenOf_31 rfl (by decide) rfl (zi1 _) ?_
        refine zi_goto (tgt := 4) dX7_hiddenOf_34 (by decide) ?_
        have g := ih (p + 1) (by omega) (by omega)
        simp only [zbM, h19, decide_true, decide_false, if_true, if_false, Bool.false_eq_true] at g
        exact g
      · refine zi_iconst (n := 23) (nI 1) dX7_hiddenOf_22 rfl (by decide) ?_
        refine zi_iload2 (n := 24) dX7_hiddenOf_23 rfl ?_
        refine zi_ishl (n := 25) dX7_hiddenOf_24 rfl ?_
        refine zi_goto (tgt := 29) dX7_hiddenOf_25 (by decide) ?_
        refine zi_ior (n := 30) dX7_hiddenOf_29 rfl ?_
        refine zi_istore1 (n := 31) dX7_hiddenOf_30 rfl (by decide) rfl ?_
        refine zi_iinc2 (n := 34) (nI (p + 1)) dX7_hiddenOf_31 rfl (by decide) rfl (zi1 _) ?_
        refine zi_goto (tgt := 4) dX7_hiddenOf_34 (by decide) ?_
        have g := ih (p + 1) (by omega) (by omega)
        simp only [zbM, h19, decide_true, decide_false, if_true, if_false, Bool.false_eq_true] at g
        exact g
set_option maxHeartbeats 4000000 in
set_option maxRecDepth 100000 in
theorem c_X7_hiddenOf (hr : zRw r) (hn : f 0 = nI n) (h6 : n ≤ 6) : zCT E 1 zm_X7_hiddenOf [.ref (zad E r)] (Q, va_up Z r f) (some (.int (zbM (fun p => decide (f (6 + 5 * p + 4) = nI 1)) n))) (Q, va_up Z r f) := by
  refine zCT.of (by decide +kernel) (Nat.le_of_ble_eq_true rfl) ?_
  refine zi_iconst (n := 1) (nI 0) dX7_hiddenOf_0 rfl (by decide) ?_
  refine zi_istore1 (n := 2) dX7_hiddenOf_1 rfl (by decide) rfl ?_
  refine zi_iconst (n := 3) (nI 0) dX7_hiddenOf_2 rfl (by decide) ?_
  refine zi_istore2 (n := 4) dX7_hiddenOf_3 rfl (by decide) rfl ?_
  exact l_X7_hiddenOf hr hn h6 (n + 1) 0 (by omega) (by omega)
def zbiM (s : Int32) : Nat → Int32
  | 0 => nI 0
  | k + 1 => zbiM s k + ((s >>> (nI k &&& 31)) &&& nI 1)
set_option maxHeartbeats 4000000 in
set_option maxRecDepth 100000 in
theorem l_X7_bits {s : Int32} : ∀ k i, 6 - i < k → i ≤ 6 → zG E zm_X7_bits 0 (some (.int (zbiM s 6))) M 4 [some (.int s), some (.int (zbiM s i)), some (.int (nI i))] [] M := by
  intro k
  induction k with
  | zero => intro i h; omega
  | succ k ih =>
    intro i h1 h2
    refine zi_iload2 (n := 5) dX7_bits_4 rfl ?_
    refine zi_bipush (n := 7) (nI 6) dX7_bits_5 rfl (by decide) ?_
    refine zi_icge (n := 10) (tgt := 24) dX7_bits_7 rfl (by decide) (fun h7 => ?_) (fun h7 => ?_)
    · have e : i = 6 := by have := (nI_leI (by omega) (by omega)).mp h7; omega
      subst e
      refine zi_iload1 (n := 25) dX7_bits_24 rfl ?_
      exact zi_iret dX7_bits_25 rfl (by rfl) (by rfl)
    · have e : i < 6 := by have := mt (nI_leI (by omega) (by omega)).mpr h7; omega
      refine zi_iload1 (n := 11) dX7_bits_10 rfl ?_
      refine zi_iload0 (n := 12) dX7_bits_11 rfl ?_
      refine zi_iload2 (n := 13) dX7_bits_12 rfl ?_
      refine zi_ishr (n := 14) dX7_bits_13 rfl ?_
      refine zi_iconst (n := 15) (nI 1) dX7_bits_14 rfl (by decide) ?_
      refine zi_iand (n := 16) dX7_bits_15 rfl ?_
      refine zi_iadd (n := 17) dX7_bits_16 rfl ?_
      refine zi_istore1 (n := 18) dX7_bits_17 rfl (by decide) rfl ?_
      refine zi_iinc2 (n := 21) (nI (i + 1)) dX7_bits_18 rfl (by decide) rfl (zi1 _) ?_
      refine zi_goto (tgt := 4) dX7_bits_21 (by decide) ?_
      exact ih (i + 1) (by omega) (by omega)
set_option maxHeartbeats 4000000 in
set_option maxRecDepth 100000 in
theorem c_X7_bits {s : Int32} : zCT E 0 zm_X7_bits [.int s] M (some (.int (zbiM s 6))) M := by
  refine zCT.of (by decide +kernel) (Nat.le_of_ble_eq_true rfl) ?_
  refine zi_iconst (n := 1) (nI 0) dX7_bits_0 rfl (by decide) ?_
  refine zi_istore1 (n := 2) dX7_bits_1 rfl (by decide) rfl ?_
  refine zi_iconst (n := 3) (nI 0) dX7_bits_2 rfl (by decide) ?_
  refine zi_istore2 (n := 4) dX7_bits_3 rfl (by decide) rfl ?_
  exact l_X7_bits 7 0 (by omega) (by omega)
set_option maxHeartbeats 4000000 in
set_option maxRecDepth 100000 in
theorem c_X7_has {s : Int32} : zCT E 0 zm_X7_has [.int s, .int (nI p)] M (some (.int (zb ((s >>> (nI p &&& 31)) &&& nI 1 = nI 1)))) M := by
  refine zCT.of (by decide +kernel) (Nat.le_of_ble_eq_true rfl) ?_
  refine zi_iload0 (n := 1) dX7_has_0 rfl ?_
  refine zi_iload1 (n := 2) dX7_has_1 rfl ?_
  refine zi_ishr (n := 3) dX7_has_2 rfl ?_
  refine zi_iconst (n := 4) (nI 1) dX7_has_3 rfl (by decide) ?_
  refine zi_iand (n := 5) dX7_has_4 rfl ?_
  refine zi_iconst (n := 6) (nI 1) dX7_has_5 rfl (by decide) ?_
  refine zi_icne (n := 9) (tgt := 13) dX7_has_6 rfl (by decide) (fun h6 => ?_) (fun h6 => ?_)
  · refine zi_iconst (n := 14) (nI 0) dX7_has_13 rfl (by decide) ?_
    exact zi_zretF dX7_has_14 rfl (by simp [h6]) rfl (by rfl)
  · refine zi_iconst (n := 10) (nI 1) dX7_has_9 rfl (by decide) ?_
    refine zi_goto (tgt := 14) dX7_has_10 (by decide) ?_
    exact zi_zretT dX7_has_14 rfl (by simp [h6]) rfl (by rfl)
set_option maxHeartbeats 4000000 in
set_option maxRecDepth 100000 in
theorem c_X7_isThere : zCT E 0 zm_X7_isThere [.ref (zad E 165)] (Q, Z) (some (.int (zb (¬ Z 169 0 ≤ 0)))) (Q, Z) := by
  refine zCT.of (by decide +kernel) (Nat.le_of_ble_eq_true rfl) ?_
  refine zi_aload0 (n := 1) dX7_isThere_0 rfl ?_
  refine zg_X7_5 (n := 4) dX7_isThere_1 rfl zl_X7_19 ?_
  refine zi_iconst (n := 5) (nI 0) dX7_isThere_4 rfl (by decide) ?_
  refine zi_oald (N := 36) (n := 6) dX7_isThere_5 rfl (by decide) (fun _ => rfl) (by decide) rfl (by omega) rfl ?_
  refine zi_ifle (n := 9) (tgt := 13) dX7_isThere_6 rfl (by decide) (fun h6 => ?_) (fun h6 => ?_)
  · refine zi_iconst (n := 14) (nI 0) dX7_isThere_13 rfl (by decide) ?_
    exact zi_zretF dX7_isThere_14 rfl (by simp [h6]) rfl (by rfl)
  · refine zi_iconst (n := 10) (nI 1) dX7_isThere_9 rfl (by decide) ?_
    refine zi_goto (tgt := 14) dX7_isThere_10 (by decide) ?_
    exact zi_zretT dX7_isThere_14 rfl (by simp [h6]) rfl (by rfl)
set_option maxHeartbeats 4000000 in
set_option maxRecDepth 100000 in
theorem c_X7_isPaper {x : Int32} : zCT E 1 zm_X7_isPaper [.ref (zad E 165), .int x] (Q, Z) (some (.int (zb (nI 0 ≤ x ∧ x ≤ Z 169 0 - nI 1)))) (Q, Z) := by
  refine zCT.of (by decide +kernel) (Nat.le_of_ble_eq_true rfl) ?_
  refine zi_iload1 (n := 1) dX7_isPaper_0 rfl ?_
  refine zi_i2l (n := 2) dX7_isPaper_1 rfl ?_
  refine zi_lconst (n := 3) ((nI 0).toInt64) dX7_isPaper_2 rfl (by decide) ?_
  refine zi_aload0 (n := 4) dX7_isPaper_3 rfl ?_
  refine zg_X7_5 (n := 7) dX7_isPaper_4 rfl zl_X7_19 ?_
  refine zi_iconst (n := 8) (nI 0) dX7_isPaper_7 rfl (by decide) ?_
  refine zi_oald (N := 36) (n := 9) dX7_isPaper_8 rfl (by decide) (fun _ => rfl) (by decide) rfl (by omega) rfl ?_
  refine zi_iconst (n := 10) (nI 1) dX7_isPaper_9 rfl (by decide) ?_
  refine zi_isub (n := 11) dX7_isPaper_10 rfl ?_
  refine zi_i2l (n := 12) dX7_isPaper_11 rfl ?_
  refine zi_S3s (mj := zm_X7_in) (n := 15) dX7_isPaper_12 rfl zl_X7_54 zy_X7_in (by decide) (Nat.le_of_ble_eq_true rfl) (c_X7_in) ?_
  exact zi_zret dX7_isPaper_15 rfl rfl (by rfl) (by rfl)
def zl36 (g h : zF) (i : Nat) : zF := fun k => if k < i then g k else h k
theorem zl36_step (g h : zF) (i : Nat) : upd (zl36 g h i) i (g i) = zl36 g h (i + 1) := by
  funext k
  unfold upd zl36
  by_cases h1 : k = i
  · rw [if_pos h1, if_pos (by omega), h1]
  · rw [if_neg h1]
    by_cases h2 : k < i
    · rw [if_pos h2, if_pos (by omega)]
    · rw [if_neg h2, if_neg (by omega)]
theorem zl36_0 (g h : zF) : zl36 g h 0 = h := by
  funext k
  unfold zl36
  rw [if_neg (by omega)]
set_option maxHeartbeats 4000000 in
set_option maxRecDepth 100000 in
theorem l_X7_layThen : ∀ k i, 36 - i < k → i ≤ 36 → zG E zm_X7_layThen 0 none (Q, va_up Z 171 (zl36 (Z 169) (Z 171) 36)) 2 [some (.ref (zad E 165)), some (.int (nI i))] [] (Q, va_up Z 171 (zl36 (Z 169) (Z 171) i)) := by
  intro k
  induction k with
  | zero => intro i h; omega
  | succ k ih =>
    intro i h1 h2
    refine zi_iload1 (n := 3) dX7_layThen_2 rfl ?_
    refine zi_bipush (n := 5) (nI 36) dX7_layThen_3 rfl (by decide) ?_
    refine zi_icge (n := 8) (tgt := 26) dX7_layThen_5 rfl (by decide) (fun h5 => ?_) (fun h5 => ?_)
    · have e : i = 36 := by have := (nI_leI (by omega) (by omega)).mp h5; omega
      subst e
      exact zi_vret dX7_layThen_26 rfl (by rfl) (by rfl)
    · have e : i < 36 := by have := mt (nI_leI (by omega) (by omega)).mpr h5; omega
      refine zi_aload0 (n := 9) dX7_layThen_8 rfl ?_
      refine zg_X7_7 (n := 12) dX7_layThen_9 rfl zl_X7_25 ?_
      refine zi_iload1 (n := 13) dX7_layThen_12 rfl ?_
      refine zi_aload0 (n := 14) dX7_layThen_13 rfl ?_
      refine zg_X7_5 (n := 17) dX7_layThen_14 rfl zl_X7_19 ?_
      refine zi_iload1 (n := 18) dX7_layThen_17 rfl ?_
      refine zi_oald (N := 36) (n := 19) dX7_layThen_18 rfl (by decide) (fun _ => rfl) (by decide) rfl e (zfn _ _ _ _ (by decide) _) ?_
      refine zi_oast (N := 36) (n := 20) dX7_layThen_19 rfl (by decide) (fun _ => rfl) (by decide) rfl e ((zfq _ _ _ _ _ _).trans (by rw [zl36_step])) ?_
      refine zi_iinc1 (n := 23) (nI (i + 1)) dX7_layThen_20 rfl (by decide) rfl (zi1 _) ?_
      refine zi_goto (tgt := 2) dX7_layThen_23 (by decide) ?_
      exact ih (i + 1) (by omega) (by omega)
set_option maxHeartbeats 4000000 in
set_option maxRecDepth 100000 in
theorem c_X7_layThen : zCT E 0 zm_X7_layThen [.ref (zad E 165)] (Q, Z) none (Q, va_up Z 171 (zl36 (Z 169) (Z 171) 36)) := by
  refine zCT.of (by decide +kernel) (Nat.le_of_ble_eq_true rfl) ?_
  refine zi_iconst (n := 1) (nI 0) dX7_layThen_0 rfl (by decide) ?_
  refine zi_istore1 (n := 2) dX7_layThen_1 rfl (by decide) rfl ?_
  have g := l_X7_layThen (E := E) (Q := Q) (Z := Z) 37 0 (by omega) (by omega)
  rw [zl36_0, zup_same] at g
  exact g
end ZM2
