section ZM9
variable {E : zE} {Q : Nat → Nat → Nat → Int32} {Z : zS} {M M1 : zMem} {n p d : Nat} {f : zF}
def zwyM (g : zF) (s c : Int32) : Nat → Int64
  | 0 => (nI 1).toInt64
  | i + 1 => if g (6 + 5 * i + 4) = 0 then zwyM g s c i * (if zhas7 s i then c.toInt64 else (nI 10).toInt64 - c.toInt64) else zwyM g s c i
def zrwM (g f : zF) (s : Int32) : Nat → zF
  | 0 => f
  | i + 1 => if g (6 + 5 * i + 4) = 0 then upd (zrwM g f s i) (6 + 5 * i + 4) ((s >>> (nI i &&& 31)) &&& nI 1) else zrwM g f s i
theorem zrwM_kd {g f : zF} {s : Int32} (h : zKd f n) : ∀ i, zKd (zrwM g f s i) n
  | 0 => h
  | i + 1 => by
    unfold zrwM
    split
    · exact (zrwM_kd h i).at (by decide) (by decide)
    · exact zrwM_kd h i
def zrT (g f : zF) (n m s : Nat) : zF := noonsM (zrwM g (zly g f) (nI s) n) n m
def zhdn (g : zF) (n : Nat) : Int32 := zbM (fun p => decide (g (6 + 5 * p + 4) = nI 1)) n
def zrnM (g : zF) (n o m : Nat) (c : Int32) : Nat → Nat → Int64 → Int64 → zF → Int64 × Int64 × zF
  | 0, _, a, b, f => (a, b, f)
  | k + 1, s, a, b, f => if nI s &&& zhdn g n = 0 then zrnM g n o m c k (s + 1) (a + (if zrT g f n m s (6 + 5 * o + 3) ≤ 0 then (nI 0).toInt64 else zwyM g (nI s) c n)) (b + zwyM g (nI s) c n) (zrT g f n m s) else zrnM g n o m c k (s + 1) a b f
theorem c_hid9t (hk : zKd (Z 169) n) : zCT E 1 zm_X7_hiddenOf [.ref (zad E 169)] (Q, va_up Z 171 f) (some (.int (zhdn (Z 169) n))) (Q, va_up Z 171 f) := zrq (a := 169) (c_X7_hiddenOf (Or.inl rfl) hk.1 hk.2.1)
section
variable {rv : Option Value} {o m w s : Nat} {c : Int32} {a b : Int64}
set_option maxHeartbeats 4000000 in
set_option maxRecDepth 100000 in
theorem m_rain_bad (h0 : Z 165 0 = nI 0) {x y c w : Int32} (hb : ¬ ((nI 0 ≤ x ∧ x ≤ Z 169 0 - nI 1) ∧ (nI 0 ≤ y ∧ y ≤ nI 60) ∧ (nI 0 ≤ c ∧ c ≤ nI 10) ∧ (nI 0 ≤ w ∧ w ≤ nI 1))) : zCT E 5 zm_X7_rain [.ref (zad E 165), .int x, .int y, .int c, .int w] (Q, Z) (some (.long (-1000001))) (Q, Z) := by
  refine zCT.of (by decide +kernel) (Nat.le_of_ble_eq_true rfl) ?_
  refine zi_aload0 (n := 1) dX7_rain_0 rfl ?_
  refine zi_iconst (n := 2) (nI 0) dX7_rain_1 rfl (by decide) ?_
  refine zp_X7_0 (n := 5) dX7_rain_2 rfl zl_X7_44 (zt0 h0) ?_
  refine zi_aload0 (n := 6) dX7_rain_5 rfl ?_
  refine zi_iload1 (n := 7) dX7_rain_6 rfl ?_
  refine zi_V1s (mj := zm_X7_isPaper) (n := 10) dX7_rain_7 rfl zl_X7_180 zy_X7_isPaper (zrc_X7 _ _) (by decide) (Nat.le_of_ble_eq_true rfl) (c_X7_isPaper) ?_
  refine zi_ifeq_b (n := 13) (tgt := 48) dX7_rain_10 rfl (by decide) (fun h10 => ?_) (fun h10 => ?_)
  · refine zi_ldc2 (n := 51) dX7_rain_48 rfl zl_X7_243 ?_
    exact zi_lret dX7_rain_51 rfl (by rfl) (by rfl)
  · refine zi_iload2 (n := 14) dX7_rain_13 rfl ?_
    refine zi_i2l (n := 15) dX7_rain_14 rfl ?_
    refine zi_lconst (n := 16) ((nI 0).toInt64) dX7_rain_15 rfl (by decide) ?_
    refine zi_ldc2 (n := 19) dX7_rain_16 rfl zl_X7_191 ?_
    rw [show (60 : Int64) = (nI 60).toInt64 by decide]
    refine zi_S3s (mj := zm_X7_in) (n := 22) dX7_rain_19 rfl zl_X7_54 zy_X7_in (by decide) (Nat.le_of_ble_eq_true rfl) (c_X7_in) ?_
    refine zi_ifeq_b (n := 25) (tgt := 48) dX7_rain_22 rfl (by decide) (fun h22 => ?_) (fun h22 => ?_)
    · refine zi_ldc2 (n := 51) dX7_rain_48 rfl zl_X7_243 ?_
      exact zi_lret dX7_rain_51 rfl (by rfl) (by rfl)
    · refine zi_iload3 (n := 26) dX7_rain_25 rfl ?_
      refine zi_i2l (n := 27) dX7_rain_26 rfl ?_
      refine zi_lconst (n := 28) ((nI 0).toInt64) dX7_rain_27 rfl (by decide) ?_
      refine zi_ldc2 (n := 31) dX7_rain_28 rfl zl_X7_241 ?_
      rw [show (10 : Int64) = (nI 10).toInt64 by decide]
      refine zi_S3s (mj := zm_X7_in) (n := 34) dX7_rain_31 rfl zl_X7_54 zy_X7_in (by decide) (Nat.le_of_ble_eq_true rfl) (c_X7_in) ?_
      refine zi_ifeq_b (n := 37) (tgt := 48) dX7_rain_34 rfl (by decide) (fun h34 => ?_) (fun h34 => ?_)
      · refine zi_ldc2 (n := 51) dX7_rain_48 rfl zl_X7_243 ?_
        exact zi_lret dX7_rain_51 rfl (by rfl) (by rfl)
      · refine zi_iload4 (n := 39) dX7_rain_37 rfl ?_
        refine zi_i2l (n := 40) dX7_rain_39 rfl ?_
        refine zi_lconst (n := 41) ((nI 0).toInt64) dX7_rain_40 rfl (by decide) ?_
        refine zi_lconst (n := 42) ((nI 1).toInt64) dX7_rain_41 rfl (by decide) ?_
        refine zi_S3s (mj := zm_X7_in) (n := 45) dX7_rain_42 rfl zl_X7_54 zy_X7_in (by decide) (Nat.le_of_ble_eq_true rfl) (c_X7_in) ?_
        refine zi_ifne_b (n := 48) (tgt := 52) dX7_rain_45 rfl (by decide) (fun h45 => ?_) (fun h45 => ?_)
        · exact absurd ⟨h10, h22, h34, h45⟩ hb
        · refine zi_ldc2 (n := 51) dX7_rain_48 rfl zl_X7_243 ?_
          exact zi_lret dX7_rain_51 rfl (by rfl) (by rfl)
set_option maxHeartbeats 4000000 in
set_option maxRecDepth 100000 in
theorem li_X7_rain (hk : zKd (Z 169) n) (fin : ∀ (x12 x13 x14 : Option Value), zG E zm_X7_rain 5 rv M1 170 [some (.ref (zad E 165)), some (.int (nI o)), some (.int (nI m)), some (.int c), some (.int (nI w)), some (.long a), none, some (.long b), none, some (.int (nI s)), some (.long (zwyM (Z 169) (nI s) c n)), none, x12, x13, x14] [] (Q, va_up Z 171 (zrwM (Z 169) f (nI s) n))) : ∀ k p (x13 x14 : Option Value), n - p < k → p ≤ n → zG E zm_X7_rain 5 rv M1 97 [some (.ref (zad E 165)), some (.int (nI o)), some (.int (nI m)), some (.int c), some (.int (nI w)), some (.long a), none, some (.long b), none, some (.int (nI s)), some (.long (zwyM (Z 169) (nI s) c p)), none, some (.int (nI p)), x13, x14] [] (Q, va_up Z 171 (zrwM (Z 169) f (nI s) p)) := by
  have hn := hk.1
  have h6 := hk.2.1
  intro k
  induction k with
  | zero => intro p x13 x14 h; omega
  | succ k ih =>
    intro p x13 x14 h1 h2
    refine zi_iload12 (n := 99) dX7_rain_97 rfl ?_
    refine zi_aload0 (n := 100) dX7_rain_99 rfl ?_
    refine zg_X7_5 (n := 103) dX7_rain_100 rfl zl_X7_19 ?_
    refine zi_iconst (n := 104) (nI 0) dX7_rain_103 rfl (by decide) ?_
    refine zi_oald (N := 36) (i := 0) (n := 105) dX7_rain_104 rfl (by decide) (fun _ => rfl) (by decide) rfl (by decide) ((zfn _ _ _ _ (by decide) _).trans hn) ?_
    refine zi_icge (n := 108) (tgt := 170) dX7_rain_105 rfl (by decide) (fun h105 => ?_) (fun h105 => ?_)
    · have e : p = n := by have := (nI_leI (by omega) (by omega)).mp h105; omega
      subst e
      exact fin _ _ _
    · have e : p < n := by have := mt (nI_leI (by omega) (by omega)).mpr h105; omega
      refine zi_aload0 (n := 109) dX7_rain_108 rfl ?_
      refine zg_X7_5 (n := 112) dX7_rain_109 rfl zl_X7_19 ?_
      refine zi_iload12 (n := 114) dX7_rain_112 rfl ?_
      refine zi_iconst (n := 115) (nI 4) dX7_rain_114 rfl (by decide) ?_
      refine zi_S3s (mj := zm_X7_of) (n := 118) dX7_rain_115 rfl zl_X7_146 zy_X7_of (by decide) (Nat.le_of_ble_eq_true rfl) (c_of9t (by omega) (by decide) rfl) ?_
      refine zi_ifne (n := 121) (tgt := 164) dX7_rain_118 rfl (by decide) (fun h118 => ?_) (fun h118 => ?_)
      · refine zi_iinc12 (n := 167) (nI (p + 1)) dX7_rain_164 rfl (by decide) rfl (zi1 _) ?_
        refine zi_goto (tgt := 97) dX7_rain_167 (by decide) ?_
        have g := ih (p + 1) x13 x14 (by omega) (by omega)
        rw [zwyM, zrwM] at g
        first
          | (rw [if_neg h118, if_neg h118] at g; exact g)
          | (rw [if_pos h118, if_pos h118, if_pos (show zhas7 (nI s) p = true from decide_eq_true h130)] at g; exact g)
          | (rw [if_pos h118, if_pos h118, if_neg (show ¬ zhas7 (nI s) p = true from fun z => h130 (of_decide_eq_true z))] at g; exact g)
      · refine zi_lload10 (n := 123) dX7_rain_121 rfl ?_
        refine zi_iload9 (n := 125) dX7_rain_123 rfl ?_
        refine zi_iload12 (n := 127) dX7_rain_125 rfl ?_
        refine zi_S2s (mj := zm_X7_has) (n := 130) dX7_rain_127 rfl zl_X7_208 zy_X7_has (by decide) (Nat.le_of_ble_eq_true rfl) (c_X7_has) ?_
        refine zi_ifeq_b (n := 133) (tgt := 138) dX7_rain_130 rfl (by decide) (fun h130 => ?_) (fun h130 => ?_)
        · refine zi_ldc2 (n := 141) dX7_rain_138 rfl zl_X7_241 ?_
          rw [show (10 : Int64) = (nI 10).toInt64 by decide]
          refine zi_iload3 (n := 142) dX7_rain_141 rfl ?_
          refine zi_i2l (n := 143) dX7_rain_142 rfl ?_
          refine zi_lsub (n := 144) dX7_rain_143 rfl ?_
          refine zi_lmul (n := 145) dX7_rain_144 rfl ?_
          refine zi_lstore10 (n := 147) dX7_rain_145 rfl (by decide) rfl ?_
          refine zi_aload0 (n := 148) dX7_rain_147 rfl ?_
          refine zg_X7_7 (n := 151) dX7_rain_148 rfl zl_X7_25 ?_
          refine zi_iload12 (n := 153) dX7_rain_151 rfl ?_
          refine zi_iconst (n := 154) (nI 4) dX7_rain_153 rfl (by decide) ?_
          refine zi_iload9 (n := 156) dX7_rain_154 rfl ?_
          refine zi_iload12 (n := 158) dX7_rain_156 rfl ?_
          refine zi_ishr (n := 159) dX7_rain_158 rfl ?_
          refine zi_iconst (n := 160) (nI 1) dX7_rain_159 rfl (by decide) ?_
          refine zi_iand (n := 161) dX7_rain_160 rfl ?_
          refine zi_S4v (mj := zm_X7_be) (n := 164) dX7_rain_161 rfl zl_X7_154 zy_X7_be (by decide) (Nat.le_of_ble_eq_true rfl) (c_X7_be (Or.inr rfl) (by omega) (by decide)) ?_
          refine zi_iinc12 (n := 167) (nI (p + 1)) dX7_rain_164 rfl (by decide) rfl (zi1 _) ?_
          refine zi_goto (tgt := 97) dX7_rain_167 (by decide) ?_
          have g := ih (p + 1) x13 x14 (by omega) (by omega)
          rw [zwyM, zrwM] at g
          first
            | (rw [if_neg h118, if_neg h118] at g; exact g)
            | (rw [if_pos h118, if_pos h118, if_pos (show zhas7 (nI s) p = true from decide_eq_true h130)] at g; exact g)
            | (rw [if_pos h118, if_pos h118, if_neg (show ¬ zhas7 (nI s) p = true from fun z => h130 (of_decide_eq_true z))] at g; exact g)
        · refine zi_iload3 (n := 134) dX7_rain_133 rfl ?_
          refine zi_i2l (n := 135) dX7_rain_134 rfl ?_
          refine zi_goto (tgt := 144) dX7_rain_135 (by decide) ?_
          refine zi_lmul (n := 145) dX7_rain_144 rfl ?_
          refine zi_lstore10 (n := 147) dX7_rain_145 rfl (by decide) rfl ?_
          refine zi_aload0 (n := 148) dX7_rain_147 rfl ?_
          refine zg_X7_7 (n := 151) dX7_rain_148 rfl zl_X7_25 ?_
          refine zi_iload12 (n := 153) dX7_rain_151 rfl ?_
          refine zi_iconst (n := 154) (nI 4) dX7_rain_153 rfl (by decide) ?_
          refine zi_iload9 (n := 156) dX7_rain_154 rfl ?_
          refine zi_iload12 (n := 158) dX7_rain_156 rfl ?_
          refine zi_ishr (n := 159) dX7_rain_158 rfl ?_
          refine zi_iconst (n := 160) (nI 1) dX7_rain_159 rfl (by decide) ?_
          refine zi_iand (n := 161) dX7_rain_160 rfl ?_
          refine zi_S4v (mj := zm_X7_be) (n := 164) dX7_rain_161 rfl zl_X7_154 zy_X7_be (by decide) (Nat.le_of_ble_eq_true rfl) (c_X7_be (Or.inr rfl) (by omega) (by decide)) ?_
          refine zi_iinc12 (n := 167) (nI (p + 1)) dX7_rain_164 rfl (by decide) rfl (zi1 _) ?_
          refine zi_goto (tgt := 97) dX7_rain_167 (by decide) ?_
          have g := ih (p + 1) x13 x14 (by omega) (by omega)
          rw [zwyM, zrwM] at g
          first
            | (rw [if_neg h118, if_neg h118] at g; exact g)
            | (rw [if_pos h118, if_pos h118, if_pos (show zhas7 (nI s) p = true from decide_eq_true h130)] at g; exact g)
            | (rw [if_pos h118, if_pos h118, if_neg (show ¬ zhas7 (nI s) p = true from fun z => h130 (of_decide_eq_true z))] at g; exact g)
set_option maxHeartbeats 4000000 in
set_option maxRecDepth 100000 in
theorem lg0_X7_rain {x1 x2 x3 : Option Value} : ∀ Y X (x13 x14 : Option Value), X < 2 ^ 31 → Y < 2 ^ 31 → 0 < Nat.gcd X Y → zG E zm_X7_rain 5 (some (.long (a / lN (Nat.gcd X Y)))) M 222 [some (.ref (zad E 165)), x1, x2, x3, some (.int (nI 0)), some (.long a), none, some (.long b), none, some (.long (lN X)), none, some (.long (lN Y)), none, x13, x14] [] M := by
  intro Y
  induction Y using Nat.strongRecOn with
  | _ Y ih =>
    intro X x13 x14 hX hY hg
    refine zi_lload11 (n := 224) dX7_rain_222 rfl ?_
    refine zi_lconst (n := 225) ((nI 0).toInt64) dX7_rain_224 rfl (by decide) ?_
    refine zi_lcmp (n := 226) dX7_rain_225 rfl ?_
    refine zi_ifeq_l (n := 229) (tgt := 247) dX7_rain_226 rfl (by decide) (fun h226 => ?_) (fun h226 => ?_)
    · have e0 : Y = 0 := by have := (lN_eq (a := Y) (b := 0) (by omega) (by omega)).mp h226; omega
      subst e0
      rw [Nat.gcd_zero_right] at hg ⊢
      refine zi_iload4 (n := 249) dX7_rain_247 rfl ?_
      refine zi_ifne (n := 252) (tgt := 257) dX7_rain_249 rfl (by decide) (fun h249 => ?_) (fun h249 => ?_)
      · first | exact absurd h249 (by decide) | exact absurd rfl h249
      · refine zi_lload5 (n := 254) dX7_rain_252 rfl ?_
        refine zi_goto (tgt := 259) dX7_rain_254 (by decide) ?_
        refine zi_lload9 (n := 261) dX7_rain_259 rfl ?_
        refine zi_ldiv (n := 262) dX7_rain_261 rfl (by rw [show (0 : Int64) = lN 0 from rfl, lN_eq (by omega) (by omega)]; omega) ?_
        exact zi_lret dX7_rain_262 rfl (by rfl) (by rfl)
    · have e0 : 0 < Y := by
        rcases Nat.eq_zero_or_pos Y with e | e
        · subst e; exact absurd rfl h226
        · exact e
      refine zi_lload9 (n := 231) dX7_rain_229 rfl ?_
      refine zi_lload11 (n := 233) dX7_rain_231 rfl ?_
      refine zi_lrem (n := 234) dX7_rain_233 rfl (by rw [show (0 : Int64) = lN 0 from rfl, lN_eq (by omega) (by omega)]; omega) ?_
      rw [pk_lRem (by omega) e0 (by omega)]
      refine zi_lstore13 (n := 236) dX7_rain_234 rfl (by decide) rfl ?_
      refine zi_lload11 (n := 238) dX7_rain_236 rfl ?_
      refine zi_lstore9 (n := 240) dX7_rain_238 rfl (by decide) rfl ?_
      refine zi_lload13 (n := 242) dX7_rain_240 rfl ?_
      refine zi_lstore11 (n := 244) dX7_rain_242 rfl (by decide) rfl ?_
      refine zi_goto (tgt := 222) dX7_rain_244 (by decide) ?_
      have eg : Nat.gcd Y (X % Y) = Nat.gcd X Y := by rw [Nat.gcd_comm X Y, Nat.gcd_rec Y X, Nat.gcd_comm]
      have hlt := Nat.mod_lt X e0
      have g := ih (X % Y) hlt Y (some (.long (lN (X % Y)))) none hY (by omega) (by rw [eg]; exact hg)
      rw [eg] at g
      exact g
set_option maxHeartbeats 4000000 in
set_option maxRecDepth 100000 in
theorem lg1_X7_rain {x1 x2 x3 : Option Value} : ∀ Y X (x13 x14 : Option Value), X < 2 ^ 31 → Y < 2 ^ 31 → 0 < Nat.gcd X Y → zG E zm_X7_rain 5 (some (.long (b / lN (Nat.gcd X Y)))) M 222 [some (.ref (zad E 165)), x1, x2, x3, some (.int (nI 1)), some (.long a), none, some (.long b), none, some (.long (lN X)), none, some (.long (lN Y)), none, x13, x14] [] M := by
  intro Y
  induction Y using Nat.strongRecOn with
  | _ Y ih =>
    intro X x13 x14 hX hY hg
    refine zi_lload11 (n := 224) dX7_rain_222 rfl ?_
    refine zi_lconst (n := 225) ((nI 0).toInt64) dX7_rain_224 rfl (by decide) ?_
    refine zi_lcmp (n := 226) dX7_rain_225 rfl ?_
    refine zi_ifeq_l (n := 229) (tgt := 247) dX7_rain_226 rfl (by decide) (fun h226 => ?_) (fun h226 => ?_)
    · have e0 : Y = 0 := by have := (lN_eq (a := Y) (b := 0) (by omega) (by omega)).mp h226; omega
      subst e0
      rw [Nat.gcd_zero_right] at hg ⊢
      refine zi_iload4 (n := 249) dX7_rain_247 rfl ?_
      refine zi_ifne (n := 252) (tgt := 257) dX7_rain_249 rfl (by decide) (fun h249 => ?_) (fun h249 => ?_)
      · refine zi_lload7 (n := 259) dX7_rain_257 rfl ?_
        refine zi_lload9 (n := 261) dX7_rain_259 rfl ?_
        refine zi_ldiv (n := 262) dX7_rain_261 rfl (by rw [show (0 : Int64) = lN 0 from rfl, lN_eq (by omega) (by omega)]; omega) ?_
        exact zi_lret dX7_rain_262 rfl (by rfl) (by rfl)
      · first | exact absurd h249 (by decide) | exact absurd rfl h249
    · have e0 : 0 < Y := by
        rcases Nat.eq_zero_or_pos Y with e | e
        · subst e; exact absurd rfl h226
        · exact e
      refine zi_lload9 (n := 231) dX7_rain_229 rfl ?_
      refine zi_lload11 (n := 233) dX7_rain_231 rfl ?_
      refine zi_lrem (n := 234) dX7_rain_233 rfl (by rw [show (0 : Int64) = lN 0 from rfl, lN_eq (by omega) (by omega)]; omega) ?_
      rw [pk_lRem (by omega) e0 (by omega)]
      refine zi_lstore13 (n := 236) dX7_rain_234 rfl (by decide) rfl ?_
      refine zi_lload11 (n := 238) dX7_rain_236 rfl ?_
      refine zi_lstore9 (n := 240) dX7_rain_238 rfl (by decide) rfl ?_
      refine zi_lload13 (n := 242) dX7_rain_240 rfl ?_
      refine zi_lstore11 (n := 244) dX7_rain_242 rfl (by decide) rfl ?_
      refine zi_goto (tgt := 222) dX7_rain_244 (by decide) ?_
      have eg : Nat.gcd Y (X % Y) = Nat.gcd X Y := by rw [Nat.gcd_comm X Y, Nat.gcd_rec Y X, Nat.gcd_comm]
      have hlt := Nat.mod_lt X e0
      have g := ih (X % Y) hlt Y (some (.long (lN (X % Y)))) none hY (by omega) (by rw [eg]; exact hg)
      rw [eg] at g
      exact g
set_option maxHeartbeats 4000000 in
set_option maxRecDepth 100000 in
theorem l0_X7_rain (hk : zKd (Z 169) n) (ho : o < n) (hm : m < 2 ^ 30) {r : Int64 × Int64 × zF} {X Y : Nat} (hX : r.1 = lN X) (hY : r.2.1 = lN Y) (hX2 : X < 2 ^ 31) (hY2 : Y < 2 ^ 31) (hg : 0 < Nat.gcd X Y) : ∀ k s (a b : Int64) (f : zF) (x10 x11 x12 x13 x14 : Option Value), s + k = 2 ^ n → zrnM (Z 169) n o m c k s a b f = r → zG E zm_X7_rain 5 (some (.long (r.1 / lN (Nat.gcd X Y)))) (Q, va_up Z 171 r.2.2) 61 [some (.ref (zad E 165)), some (.int (nI o)), some (.int (nI m)), some (.int c), some (.int (nI 0)), some (.long a), none, some (.long b), none, some (.int (nI s)), x10, x11, x12, x13, x14] [] (Q, va_up Z 171 f) := by
  have hn := hk.1
  have h6 := hk.2.1
  have hp2 := p2n h6
  intro k
  induction k with
  | zero =>
    intro s a b f x10 x11 x12 x13 x14 hi hr
    subst hr
    change a = lN X at hX
    change b = lN Y at hY
    refine zi_iload9 (n := 63) dX7_rain_61 rfl ?_
    refine zi_iconst (n := 64) (nI 1) dX7_rain_63 rfl (by decide) ?_
    refine zi_aload0 (n := 65) dX7_rain_64 rfl ?_
    refine zg_X7_5 (n := 68) dX7_rain_65 rfl zl_X7_19 ?_
    refine zi_iconst (n := 69) (nI 0) dX7_rain_68 rfl (by decide) ?_
    refine zi_oald (N := 36) (i := 0) (n := 70) dX7_rain_69 rfl (by decide) (fun _ => rfl) (by decide) rfl (by decide) ((zfn _ _ _ _ (by decide) _).trans hn) ?_
    refine zi_ishl (n := 71) dX7_rain_70 rfl ?_
    rw [z1n h6]
    refine zi_icge (n := 74) (tgt := 214) dX7_rain_71 rfl (by decide) (fun h71 => ?_) (fun h71 => ?_)
    · refine zi_lload5 (n := 216) dX7_rain_214 rfl ?_
      refine zi_lstore9 (n := 218) dX7_rain_216 rfl (by decide) rfl ?_
      refine zi_lload7 (n := 220) dX7_rain_218 rfl ?_
      refine zi_lstore11 (n := 222) dX7_rain_220 rfl (by decide) rfl ?_
      have g := lg0_X7_rain (E := E) (M := (Q, va_up Z 171 f)) (a := a) (b := b) (x1 := some (.int (nI o))) (x2 := some (.int (nI m))) (x3 := some (.int c)) Y X x13 x14 hX2 hY2 hg
      subst hX hY
      exact g
    · exact absurd (nI_le (by omega) (by omega)) h71
  | succ k ih =>
    intro s a b f x10 x11 x12 x13 x14 hi hr
    refine zi_iload9 (n := 63) dX7_rain_61 rfl ?_
    refine zi_iconst (n := 64) (nI 1) dX7_rain_63 rfl (by decide) ?_
    refine zi_aload0 (n := 65) dX7_rain_64 rfl ?_
    refine zg_X7_5 (n := 68) dX7_rain_65 rfl zl_X7_19 ?_
    refine zi_iconst (n := 69) (nI 0) dX7_rain_68 rfl (by decide) ?_
    refine zi_oald (N := 36) (i := 0) (n := 70) dX7_rain_69 rfl (by decide) (fun _ => rfl) (by decide) rfl (by decide) ((zfn _ _ _ _ (by decide) _).trans hn) ?_
    refine zi_ishl (n := 71) dX7_rain_70 rfl ?_
    rw [z1n h6]
    refine zi_icge (n := 74) (tgt := 214) dX7_rain_71 rfl (by decide) (fun h71 => ?_) (fun h71 => ?_)
    · exact absurd ((nI_leI (by omega) (by omega)).mp h71) (by omega)
    · refine zi_iload9 (n := 76) dX7_rain_74 rfl ?_
      refine zi_aload0 (n := 77) dX7_rain_76 rfl ?_
      refine zg_X7_5 (n := 80) dX7_rain_77 rfl zl_X7_19 ?_
      refine zi_S1s (mj := zm_X7_hiddenOf) (n := 83) dX7_rain_80 rfl zl_X7_188 zy_X7_hiddenOf (by decide) (Nat.le_of_ble_eq_true rfl) (c_hid9t hk) ?_
      refine zi_iand (n := 84) dX7_rain_83 rfl ?_
      refine zi_ifne (n := 87) (tgt := 208) dX7_rain_84 rfl (by decide) (fun h84 => ?_) (fun h84 => ?_)
      · rw [zrnM, if_neg h84] at hr
        refine zi_iinc9 (n := 211) (nI (s + 1)) dX7_rain_208 rfl (by decide) rfl (zi1 _) ?_
        refine zi_goto (tgt := 61) dX7_rain_211 (by decide) ?_
        exact ih (s + 1) _ _ _ _ _ _ _ _ (by omega) hr
      · rw [zrnM, if_pos h84] at hr
        refine zi_lconst (n := 88) ((nI 1).toInt64) dX7_rain_87 rfl (by decide) ?_
        refine zi_lstore10 (n := 90) dX7_rain_88 rfl (by decide) rfl ?_
        refine zi_aload0 (n := 91) dX7_rain_90 rfl ?_
        refine zi_V0v (mj := zm_X7_layThen) (n := 94) dX7_rain_91 rfl zl_X7_193 zy_X7_layThen (zrc_X7 _ _) (by decide) (Nat.le_of_ble_eq_true rfl) c_lay ?_
        refine zi_iconst (n := 95) (nI 0) dX7_rain_94 rfl (by decide) ?_
        refine zi_istore12 (n := 97) dX7_rain_95 rfl (by decide) rfl ?_
        refine li_X7_rain hk (fun x12 x13 x14 => ?_) (n + 1) 0 _ _ (by omega) (by omega)
        refine zi_aload0 (n := 171) dX7_rain_170 rfl ?_
        refine zg_X7_7 (n := 174) dX7_rain_171 rfl zl_X7_25 ?_
        refine zi_iload2 (n := 175) dX7_rain_174 rfl ?_
        refine zi_S2v (mj := zm_X7_noonsOf) (n := 178) dX7_rain_175 rfl zl_X7_196 zy_X7_noonsOf (by decide) (Nat.le_of_ble_eq_true rfl) (c_X7_noonsOf (Or.inr rfl) (zrwM_kd hk.lay n) hm) ?_
        change zG _ _ _ _ _ _ _ _ (Q, va_up Z 171 (zrT (Z 169) f n m s))
        refine zi_lload7 (n := 180) dX7_rain_178 rfl ?_
        refine zi_lload10 (n := 182) dX7_rain_180 rfl ?_
        refine zi_ladd (n := 183) dX7_rain_182 rfl ?_
        refine zi_lstore7 (n := 185) dX7_rain_183 rfl (by decide) rfl ?_
        refine zi_lload5 (n := 187) dX7_rain_185 rfl ?_
        refine zi_aload0 (n := 188) dX7_rain_187 rfl ?_
        refine zg_X7_7 (n := 191) dX7_rain_188 rfl zl_X7_25 ?_
        refine zi_iload1 (n := 192) dX7_rain_191 rfl ?_
        refine zi_iconst (n := 193) (nI 3) dX7_rain_192 rfl (by decide) ?_
        refine zi_S3s (mj := zm_X7_of) (n := 196) dX7_rain_193 rfl zl_X7_146 zy_X7_of (by decide) (Nat.le_of_ble_eq_true rfl) (c_X7_of (Or.inr rfl) (by omega) (by decide)) ?_
        refine zi_ifle (n := 199) (tgt := 204) dX7_rain_196 rfl (by decide) (fun h196 => ?_) (fun h196 => ?_)
        · have e1 : (if zrT (Z 169) f n m s (6 + 5 * o + 3) ≤ 0 then (nI 0).toInt64 else zwyM (Z 169) (nI s) c n) = (nI 0).toInt64 := if_pos h196
          refine zi_lconst (n := 205) ((nI 0).toInt64) dX7_rain_204 rfl (by decide) ?_
          refine zi_ladd (n := 206) dX7_rain_205 rfl ?_
          refine zi_lstore5 (n := 208) dX7_rain_206 rfl (by decide) rfl ?_
          refine zi_iinc9 (n := 211) (nI (s + 1)) dX7_rain_208 rfl (by decide) rfl (zi1 _) ?_
          refine zi_goto (tgt := 61) dX7_rain_211 (by decide) ?_
          rw [e1] at hr
          exact ih (s + 1) _ _ _ _ _ _ _ _ (by omega) hr
        · have e1 : (if zrT (Z 169) f n m s (6 + 5 * o + 3) ≤ 0 then (nI 0).toInt64 else zwyM (Z 169) (nI s) c n) = zwyM (Z 169) (nI s) c n := if_neg h196
          refine zi_lload10 (n := 201) dX7_rain_199 rfl ?_
          refine zi_goto (tgt := 205) dX7_rain_201 (by decide) ?_
          refine zi_ladd (n := 206) dX7_rain_205 rfl ?_
          refine zi_lstore5 (n := 208) dX7_rain_206 rfl (by decide) rfl ?_
          refine zi_iinc9 (n := 211) (nI (s + 1)) dX7_rain_208 rfl (by decide) rfl (zi1 _) ?_
          refine zi_goto (tgt := 61) dX7_rain_211 (by decide) ?_
          rw [e1] at hr
          exact ih (s + 1) _ _ _ _ _ _ _ _ (by omega) hr
set_option maxHeartbeats 4000000 in
set_option maxRecDepth 100000 in
theorem m_rain_0 (h0 : Z 165 0 = nI 0) (hk : zKd (Z 169) n) {p : Nat} (hp : p < n) {m : Nat} (hm1 : 0 ≤ m) (hm2 : m ≤ 60) {c : Int32} (hc : (nI 0 ≤ c ∧ c ≤ nI 10)) {X Y : Nat} (hX : (zrnM (Z 169) n p m c (2 ^ n) 0 (nI 0).toInt64 (nI 0).toInt64 (Z 171)).1 = lN X) (hY : (zrnM (Z 169) n p m c (2 ^ n) 0 (nI 0).toInt64 (nI 0).toInt64 (Z 171)).2.1 = lN Y) (hX2 : X < 2 ^ 31) (hY2 : Y < 2 ^ 31) (hg : 0 < Nat.gcd X Y) : zCT E 5 zm_X7_rain [.ref (zad E 165), .int (nI p), .int (nI m), .int c, .int (nI 0)] (Q, Z) (some (.long ((zrnM (Z 169) n p m c (2 ^ n) 0 (nI 0).toInt64 (nI 0).toInt64 (Z 171)).1 / lN (Nat.gcd X Y)))) (Q, va_up Z 171 (zrnM (Z 169) n p m c (2 ^ n) 0 (nI 0).toInt64 (nI 0).toInt64 (Z 171)).2.2) := by
  refine zCT.of (by decide +kernel) (Nat.le_of_ble_eq_true rfl) ?_
  have hn := hk.1
  have h6 := hk.2.1
  have a1 := zisP hn h6 hp
  have a2 := zrg hm1 hm2 (by decide)
  have a3 : nI 0 ≤ nI 0 ∧ nI 0 ≤ nI 1 := by decide
  refine zi_aload0 (n := 1) dX7_rain_0 rfl ?_
  refine zi_iconst (n := 2) (nI 0) dX7_rain_1 rfl (by decide) ?_
  refine zp_X7_0 (n := 5) dX7_rain_2 rfl zl_X7_44 (zt0 h0) ?_
  refine zi_aload0 (n := 6) dX7_rain_5 rfl ?_
  refine zi_iload1 (n := 7) dX7_rain_6 rfl ?_
  refine zi_V1s (mj := zm_X7_isPaper) (n := 10) dX7_rain_7 rfl zl_X7_180 zy_X7_isPaper (zrc_X7 _ _) (by decide) (Nat.le_of_ble_eq_true rfl) (c_X7_isPaper) ?_
  refine zi_ifeq_b (n := 13) (tgt := 48) dX7_rain_10 rfl (by decide) (fun h10 => ?_) (fun h10 => ?_)
  · first | exact absurd a1 h10 | exact absurd h10 a1
  · refine zi_iload2 (n := 14) dX7_rain_13 rfl ?_
    refine zi_i2l (n := 15) dX7_rain_14 rfl ?_
    refine zi_lconst (n := 16) ((nI 0).toInt64) dX7_rain_15 rfl (by decide) ?_
    refine zi_ldc2 (n := 19) dX7_rain_16 rfl zl_X7_191 ?_
    rw [show (60 : Int64) = (nI 60).toInt64 by decide]
    refine zi_S3s (mj := zm_X7_in) (n := 22) dX7_rain_19 rfl zl_X7_54 zy_X7_in (by decide) (Nat.le_of_ble_eq_true rfl) (c_X7_in) ?_
    refine zi_ifeq_b (n := 25) (tgt := 48) dX7_rain_22 rfl (by decide) (fun h22 => ?_) (fun h22 => ?_)
    · first | exact absurd a2 h22 | exact absurd h22 a2
    · refine zi_iload3 (n := 26) dX7_rain_25 rfl ?_
      refine zi_i2l (n := 27) dX7_rain_26 rfl ?_
      refine zi_lconst (n := 28) ((nI 0).toInt64) dX7_rain_27 rfl (by decide) ?_
      refine zi_ldc2 (n := 31) dX7_rain_28 rfl zl_X7_241 ?_
      rw [show (10 : Int64) = (nI 10).toInt64 by decide]
      refine zi_S3s (mj := zm_X7_in) (n := 34) dX7_rain_31 rfl zl_X7_54 zy_X7_in (by decide) (Nat.le_of_ble_eq_true rfl) (c_X7_in) ?_
      refine zi_ifeq_b (n := 37) (tgt := 48) dX7_rain_34 rfl (by decide) (fun h34 => ?_) (fun h34 => ?_)
      · first | exact absurd hc h34 | exact absurd h34 hc
      · refine zi_iload4 (n := 39) dX7_rain_37 rfl ?_
        refine zi_i2l (n := 40) dX7_rain_39 rfl ?_
        refine zi_lconst (n := 41) ((nI 0).toInt64) dX7_rain_40 rfl (by decide) ?_
        refine zi_lconst (n := 42) ((nI 1).toInt64) dX7_rain_41 rfl (by decide) ?_
        refine zi_S3s (mj := zm_X7_in) (n := 45) dX7_rain_42 rfl zl_X7_54 zy_X7_in (by decide) (Nat.le_of_ble_eq_true rfl) (c_X7_in) ?_
        refine zi_ifne_b (n := 48) (tgt := 52) dX7_rain_45 rfl (by decide) (fun h45 => ?_) (fun h45 => ?_)
        · refine zi_lconst (n := 53) ((nI 0).toInt64) dX7_rain_52 rfl (by decide) ?_
          refine zi_lstore5 (n := 55) dX7_rain_53 rfl (by decide) rfl ?_
          refine zi_lconst (n := 56) ((nI 0).toInt64) dX7_rain_55 rfl (by decide) ?_
          refine zi_lstore7 (n := 58) dX7_rain_56 rfl (by decide) rfl ?_
          refine zi_iconst (n := 59) (nI 0) dX7_rain_58 rfl (by decide) ?_
          refine zi_istore9 (n := 61) dX7_rain_59 rfl (by decide) rfl ?_
          refine zG_eqM (M2 := (Q, va_up Z 171 (Z 171))) (by rw [zup_same]) ?_
          exact l0_X7_rain hk hp (by omega) hX hY hX2 hY2 hg (2 ^ n) 0 _ _ (Z 171) none none none none none (by omega) rfl
        · first | exact absurd a3 h45 | exact absurd h45 a3
set_option maxHeartbeats 4000000 in
set_option maxRecDepth 100000 in
theorem l1_X7_rain (hk : zKd (Z 169) n) (ho : o < n) (hm : m < 2 ^ 30) {r : Int64 × Int64 × zF} {X Y : Nat} (hX : r.1 = lN X) (hY : r.2.1 = lN Y) (hX2 : X < 2 ^ 31) (hY2 : Y < 2 ^ 31) (hg : 0 < Nat.gcd X Y) : ∀ k s (a b : Int64) (f : zF) (x10 x11 x12 x13 x14 : Option Value), s + k = 2 ^ n → zrnM (Z 169) n o m c k s a b f = r → zG E zm_X7_rain 5 (some (.long (r.2.1 / lN (Nat.gcd X Y)))) (Q, va_up Z 171 r.2.2) 61 [some (.ref (zad E 165)), some (.int (nI o)), some (.int (nI m)), some (.int c), some (.int (nI 1)), some (.long a), none, some (.long b), none, some (.int (nI s)), x10, x11, x12, x13, x14] [] (Q, va_up Z 171 f) := by
  have hn := hk.1
  have h6 := hk.2.1
  have hp2 := p2n h6
  intro k
  induction k with
  | zero =>
    intro s a b f x10 x11 x12 x13 x14 hi hr
    subst hr
    change a = lN X at hX
    change b = lN Y at hY
    refine zi_iload9 (n := 63) dX7_rain_61 rfl ?_
    refine zi_iconst (n := 64) (nI 1) dX7_rain_63 rfl (by decide) ?_
    refine zi_aload0 (n := 65) dX7_rain_64 rfl ?_
    refine zg_X7_5 (n := 68) dX7_rain_65 rfl zl_X7_19 ?_
    refine zi_iconst (n := 69) (nI 0) dX7_rain_68 rfl (by decide) ?_
    refine zi_oald (N := 36) (i := 0) (n := 70) dX7_rain_69 rfl (by decide) (fun _ => rfl) (by decide) rfl (by decide) ((zfn _ _ _ _ (by decide) _).trans hn) ?_
    refine zi_ishl (n := 71) dX7_rain_70 rfl ?_
    rw [z1n h6]
    refine zi_icge (n := 74) (tgt := 214) dX7_rain_71 rfl (by decide) (fun h71 => ?_) (fun h71 => ?_)
    · refine zi_lload5 (n := 216) dX7_rain_214 rfl ?_
      refine zi_lstore9 (n := 218) dX7_rain_216 rfl (by decide) rfl ?_
      refine zi_lload7 (n := 220) dX7_rain_218 rfl ?_
      refine zi_lstore11 (n := 222) dX7_rain_220 rfl (by decide) rfl ?_
      have g := lg1_X7_rain (E := E) (M := (Q, va_up Z 171 f)) (a := a) (b := b) (x1 := some (.int (nI o))) (x2 := some (.int (nI m))) (x3 := some (.int c)) Y X x13 x14 hX2 hY2 hg
      subst hX hY
      exact g
    · exact absurd (nI_le (by omega) (by omega)) h71
  | succ k ih =>
    intro s a b f x10 x11 x12 x13 x14 hi hr
    refine zi_iload9 (n := 63) dX7_rain_61 rfl ?_
    refine zi_iconst (n := 64) (nI 1) dX7_rain_63 rfl (by decide) ?_
    refine zi_aload0 (n := 65) dX7_rain_64 rfl ?_
    refine zg_X7_5 (n := 68) dX7_rain_65 rfl zl_X7_19 ?_
    refine zi_iconst (n := 69) (nI 0) dX7_rain_68 rfl (by decide) ?_
    refine zi_oald (N := 36) (i := 0) (n := 70) dX7_rain_69 rfl (by decide) (fun _ => rfl) (by decide) rfl (by decide) ((zfn _ _ _ _ (by decide) _).trans hn) ?_
    refine zi_ishl (n := 71) dX7_rain_70 rfl ?_
    rw [z1n h6]
    refine zi_icge (n := 74) (tgt := 214) dX7_rain_71 rfl (by decide) (fun h71 => ?_) (fun h71 => ?_)
    · exact absurd ((nI_leI (by omega) (by omega)).mp h71) (by omega)
    · refine zi_iload9 (n := 76) dX7_rain_74 rfl ?_
      refine zi_aload0 (n := 77) dX7_rain_76 rfl ?_
      refine zg_X7_5 (n := 80) dX7_rain_77 rfl zl_X7_19 ?_
      refine zi_S1s (mj := zm_X7_hiddenOf) (n := 83) dX7_rain_80 rfl zl_X7_188 zy_X7_hiddenOf (by decide) (Nat.le_of_ble_eq_true rfl) (c_hid9t hk) ?_
      refine zi_iand (n := 84) dX7_rain_83 rfl ?_
      refine zi_ifne (n := 87) (tgt := 208) dX7_rain_84 rfl (by decide) (fun h84 => ?_) (fun h84 => ?_)
      · rw [zrnM, if_neg h84] at hr
        refine zi_iinc9 (n := 211) (nI (s + 1)) dX7_rain_208 rfl (by decide) rfl (zi1 _) ?_
        refine zi_goto (tgt := 61) dX7_rain_211 (by decide) ?_
        exact ih (s + 1) _ _ _ _ _ _ _ _ (by omega) hr
      · rw [zrnM, if_pos h84] at hr
        refine zi_lconst (n := 88) ((nI 1).toInt64) dX7_rain_87 rfl (by decide) ?_
        refine zi_lstore10 (n := 90) dX7_rain_88 rfl (by decide) rfl ?_
        refine zi_aload0 (n := 91) dX7_rain_90 rfl ?_
        refine zi_V0v (mj := zm_X7_layThen) (n := 94) dX7_rain_91 rfl zl_X7_193 zy_X7_layThen (zrc_X7 _ _) (by decide) (Nat.le_of_ble_eq_true rfl) c_lay ?_
        refine zi_iconst (n := 95) (nI 0) dX7_rain_94 rfl (by decide) ?_
        refine zi_istore12 (n := 97) dX7_rain_95 rfl (by decide) rfl ?_
        refine li_X7_rain hk (fun x12 x13 x14 => ?_) (n + 1) 0 _ _ (by omega) (by omega)
        refine zi_aload0 (n := 171) dX7_rain_170 rfl ?_
        refine zg_X7_7 (n := 174) dX7_rain_171 rfl zl_X7_25 ?_
        refine zi_iload2 (n := 175) dX7_rain_174 rfl ?_
        refine zi_S2v (mj := zm_X7_noonsOf) (n := 178) dX7_rain_175 rfl zl_X7_196 zy_X7_noonsOf (by decide) (Nat.le_of_ble_eq_true rfl) (c_X7_noonsOf (Or.inr rfl) (zrwM_kd hk.lay n) hm) ?_
        change zG _ _ _ _ _ _ _ _ (Q, va_up Z 171 (zrT (Z 169) f n m s))
        refine zi_lload7 (n := 180) dX7_rain_178 rfl ?_
        refine zi_lload10 (n := 182) dX7_rain_180 rfl ?_
        refine zi_ladd (n := 183) dX7_rain_182 rfl ?_
        refine zi_lstore7 (n := 185) dX7_rain_183 rfl (by decide) rfl ?_
        refine zi_lload5 (n := 187) dX7_rain_185 rfl ?_
        refine zi_aload0 (n := 188) dX7_rain_187 rfl ?_
        refine zg_X7_7 (n := 191) dX7_rain_188 rfl zl_X7_25 ?_
        refine zi_iload1 (n := 192) dX7_rain_191 rfl ?_
        refine zi_iconst (n := 193) (nI 3) dX7_rain_192 rfl (by decide) ?_
        refine zi_S3s (mj := zm_X7_of) (n := 196) dX7_rain_193 rfl zl_X7_146 zy_X7_of (by decide) (Nat.le_of_ble_eq_true rfl) (c_X7_of (Or.inr rfl) (by omega) (by decide)) ?_
        refine zi_ifle (n := 199) (tgt := 204) dX7_rain_196 rfl (by decide) (fun h196 => ?_) (fun h196 => ?_)
        · have e1 : (if zrT (Z 169) f n m s (6 + 5 * o + 3) ≤ 0 then (nI 0).toInt64 else zwyM (Z 169) (nI s) c n) = (nI 0).toInt64 := if_pos h196
          refine zi_lconst (n := 205) ((nI 0).toInt64) dX7_rain_204 rfl (by decide) ?_
          refine zi_ladd (n := 206) dX7_rain_205 rfl ?_
          refine zi_lstore5 (n := 208) dX7_rain_206 rfl (by decide) rfl ?_
          refine zi_iinc9 (n := 211) (nI (s + 1)) dX7_rain_208 rfl (by decide) rfl (zi1 _) ?_
          refine zi_goto (tgt := 61) dX7_rain_211 (by decide) ?_
          rw [e1] at hr
          exact ih (s + 1) _ _ _ _ _ _ _ _ (by omega) hr
        · have e1 : (if zrT (Z 169) f n m s (6 + 5 * o + 3) ≤ 0 then (nI 0).toInt64 else zwyM (Z 169) (nI s) c n) = zwyM (Z 169) (nI s) c n := if_neg h196
          refine zi_lload10 (n := 201) dX7_rain_199 rfl ?_
          refine zi_goto (tgt := 205) dX7_rain_201 (by decide) ?_
          refine zi_ladd (n := 206) dX7_rain_205 rfl ?_
          refine zi_lstore5 (n := 208) dX7_rain_206 rfl (by decide) rfl ?_
          refine zi_iinc9 (n := 211) (nI (s + 1)) dX7_rain_208 rfl (by decide) rfl (zi1 _) ?_
          refine zi_goto (tgt := 61) dX7_rain_211 (by decide) ?_
          rw [e1] at hr
          exact ih (s + 1) _ _ _ _ _ _ _ _ (by omega) hr
set_option maxHeartbeats 4000000 in
set_option maxRecDepth 100000 in
theorem m_rain_1 (h0 : Z 165 0 = nI 0) (hk : zKd (Z 169) n) {p : Nat} (hp : p < n) {m : Nat} (hm1 : 0 ≤ m) (hm2 : m ≤ 60) {c : Int32} (hc : (nI 0 ≤ c ∧ c ≤ nI 10)) {X Y : Nat} (hX : (zrnM (Z 169) n p m c (2 ^ n) 0 (nI 0).toInt64 (nI 0).toInt64 (Z 171)).1 = lN X) (hY : (zrnM (Z 169) n p m c (2 ^ n) 0 (nI 0).toInt64 (nI 0).toInt64 (Z 171)).2.1 = lN Y) (hX2 : X < 2 ^ 31) (hY2 : Y < 2 ^ 31) (hg : 0 < Nat.gcd X Y) : zCT E 5 zm_X7_rain [.ref (zad E 165), .int (nI p), .int (nI m), .int c, .int (nI 1)] (Q, Z) (some (.long ((zrnM (Z 169) n p m c (2 ^ n) 0 (nI 0).toInt64 (nI 0).toInt64 (Z 171)).2.1 / lN (Nat.gcd X Y)))) (Q, va_up Z 171 (zrnM (Z 169) n p m c (2 ^ n) 0 (nI 0).toInt64 (nI 0).toInt64 (Z 171)).2.2) := by
  refine zCT.of (by decide +kernel) (Nat.le_of_ble_eq_true rfl) ?_
  have hn := hk.1
  have h6 := hk.2.1
  have a1 := zisP hn h6 hp
  have a2 := zrg hm1 hm2 (by decide)
  have a3 : nI 0 ≤ nI 1 ∧ nI 1 ≤ nI 1 := by decide
  refine zi_aload0 (n := 1) dX7_rain_0 rfl ?_
  refine zi_iconst (n := 2) (nI 0) dX7_rain_1 rfl (by decide) ?_
  refine zp_X7_0 (n := 5) dX7_rain_2 rfl zl_X7_44 (zt0 h0) ?_
  refine zi_aload0 (n := 6) dX7_rain_5 rfl ?_
  refine zi_iload1 (n := 7) dX7_rain_6 rfl ?_
  refine zi_V1s (mj := zm_X7_isPaper) (n := 10) dX7_rain_7 rfl zl_X7_180 zy_X7_isPaper (zrc_X7 _ _) (by decide) (Nat.le_of_ble_eq_true rfl) (c_X7_isPaper) ?_
  refine zi_ifeq_b (n := 13) (tgt := 48) dX7_rain_10 rfl (by decide) (fun h10 => ?_) (fun h10 => ?_)
  · first | exact absurd a1 h10 | exact absurd h10 a1
  · refine zi_iload2 (n := 14) dX7_rain_13 rfl ?_
    refine zi_i2l (n := 15) dX7_rain_14 rfl ?_
    refine zi_lconst (n := 16) ((nI 0).toInt64) dX7_rain_15 rfl (by decide) ?_
    refine zi_ldc2 (n := 19) dX7_rain_16 rfl zl_X7_191 ?_
    rw [show (60 : Int64) = (nI 60).toInt64 by decide]
    refine zi_S3s (mj := zm_X7_in) (n := 22) dX7_rain_19 rfl zl_X7_54 zy_X7_in (by decide) (Nat.le_of_ble_eq_true rfl) (c_X7_in) ?_
    refine zi_ifeq_b (n := 25) (tgt := 48) dX7_rain_22 rfl (by decide) (fun h22 => ?_) (fun h22 => ?_)
    · first | exact absurd a2 h22 | exact absurd h22 a2
    · refine zi_iload3 (n := 26) dX7_rain_25 rfl ?_
      refine zi_i2l (n := 27) dX7_rain_26 rfl ?_
      refine zi_lconst (n := 28) ((nI 0).toInt64) dX7_rain_27 rfl (by decide) ?_
      refine zi_ldc2 (n := 31) dX7_rain_28 rfl zl_X7_241 ?_
      rw [show (10 : Int64) = (nI 10).toInt64 by decide]
      refine zi_S3s (mj := zm_X7_in) (n := 34) dX7_rain_31 rfl zl_X7_54 zy_X7_in (by decide) (Nat.le_of_ble_eq_true rfl) (c_X7_in) ?_
      refine zi_ifeq_b (n := 37) (tgt := 48) dX7_rain_34 rfl (by decide) (fun h34 => ?_) (fun h34 => ?_)
      · first | exact absurd hc h34 | exact absurd h34 hc
      · refine zi_iload4 (n := 39) dX7_rain_37 rfl ?_
        refine zi_i2l (n := 40) dX7_rain_39 rfl ?_
        refine zi_lconst (n := 41) ((nI 0).toInt64) dX7_rain_40 rfl (by decide) ?_
        refine zi_lconst (n := 42) ((nI 1).toInt64) dX7_rain_41 rfl (by decide) ?_
        refine zi_S3s (mj := zm_X7_in) (n := 45) dX7_rain_42 rfl zl_X7_54 zy_X7_in (by decide) (Nat.le_of_ble_eq_true rfl) (c_X7_in) ?_
        refine zi_ifne_b (n := 48) (tgt := 52) dX7_rain_45 rfl (by decide) (fun h45 => ?_) (fun h45 => ?_)
        · refine zi_lconst (n := 53) ((nI 0).toInt64) dX7_rain_52 rfl (by decide) ?_
          refine zi_lstore5 (n := 55) dX7_rain_53 rfl (by decide) rfl ?_
          refine zi_lconst (n := 56) ((nI 0).toInt64) dX7_rain_55 rfl (by decide) ?_
          refine zi_lstore7 (n := 58) dX7_rain_56 rfl (by decide) rfl ?_
          refine zi_iconst (n := 59) (nI 0) dX7_rain_58 rfl (by decide) ?_
          refine zi_istore9 (n := 61) dX7_rain_59 rfl (by decide) rfl ?_
          refine zG_eqM (M2 := (Q, va_up Z 171 (Z 171))) (by rw [zup_same]) ?_
          exact l1_X7_rain hk hp (by omega) hX hY hX2 hY2 hg (2 ^ n) 0 _ _ (Z 171) none none none none none (by omega) rfl
        · first | exact absurd a3 h45 | exact absurd h45 a3
end
end ZM9
