section ZM6
variable {E : zE} {Q : Nat → Nat → Nat → Int32} {Z : zS} {M M1 : zMem} {n p d : Nat} {f : zF}
def zB1 (b : Bool) : Int32 := if b then nI 1 else nI 0
def zhB (f : zF) (s : Int32) : Nat → zF
  | 0 => f
  | i + 1 => upd (zhB f s i) (6 + 5 * i + 4) ((s >>> (nI i &&& 31)) &&& nI 1)
theorem zhB_kd {f : zF} {s : Int32} (h : zKd f n) : ∀ i, zKd (zhB f s i) n
  | 0 => h
  | i + 1 => (zhB_kd h i).at (by decide) (by decide)
def zhas7 (s : Int32) (i : Nat) : Bool := decide ((s >>> (nI i &&& 31)) &&& nI 1 = nI 1)
def znM (g t : zF) (s : Int32) : Nat → Bool
  | 0 => true
  | i + 1 => znM g t s i && ((zhas7 s i || decide (g (6 + 5 * i) = nI 5)) || decide (t (6 + 5 * i + 3) = g (6 + 5 * i + 3)))
def zhT (g f : zF) (n m s : Nat) : zF := noonsM (zhB (zly g f) (nI s) n) n m
def zhdM (g : zF) (n m : Nat) : Nat → Nat → Int32 → zF → Int32 × zF
  | 0, _, b, f => (b, f)
  | k + 1, s, b, f => if b = -1000000 ∨ zbiM (nI s) 6 < zbiM b 6 then zhdM g n m k (s + 1) (if znM g (zhT g f n m s) (nI s) n then nI s else b) (zhT g f n m s) else zhdM g n m k (s + 1) b f
set_option maxHeartbeats 4000000 in
set_option maxRecDepth 100000 in
theorem m_hides_state (h0 : Z 165 0 = nI 0) {x y : Int32} (hz : Z 169 0 ≤ 0) : zCT E 5 zm_X7_hides [.ref (zad E 165), .int x, .int y] (Q, Z) (some (.int zSTATE)) (Q, Z) := by
  refine zCT.of (by decide +kernel) (Nat.le_of_ble_eq_true rfl) ?_
  refine zi_aload0 (n := 1) dX7_hides_0 rfl ?_
  refine zi_iconst (n := 2) (nI 0) dX7_hides_1 rfl (by decide) ?_
  refine zp_X7_0 (n := 5) dX7_hides_2 rfl zl_X7_44 (zt0 h0) ?_
  refine zi_aload0 (n := 6) dX7_hides_5 rfl ?_
  refine zi_V0s (mj := zm_X7_isThere) (n := 9) dX7_hides_6 rfl zl_X7_171 zy_X7_isThere (zrc_X7 _ _) (by decide) (Nat.le_of_ble_eq_true rfl) (c_X7_isThere) ?_
  refine zi_ifne_b (n := 12) (tgt := 15) dX7_hides_9 rfl (by decide) (fun h9 => ?_) (fun h9 => ?_)
  · first | exact absurd (fun q => q hz : ¬ ¬ Z 169 0 ≤ 0) h9 | exact absurd h9 (fun q => q hz : ¬ ¬ Z 169 0 ≤ 0)
  · refine zi_ldc (n := 14) dX7_hides_12 rfl zl_X7_174 ?_
    exact zi_iret dX7_hides_14 rfl (by rfl) (by rfl)
set_option maxHeartbeats 4000000 in
set_option maxRecDepth 100000 in
theorem m_hides_bad (h0 : Z 165 0 = nI 0) {x y : Int32} (hz : ¬ Z 169 0 ≤ 0) (hb : ¬ ((nI 1 ≤ x ∧ x ≤ nI 40) ∧ (nI 0 ≤ y ∧ y ≤ nI 1))) : zCT E 5 zm_X7_hides [.ref (zad E 165), .int x, .int y] (Q, Z) (some (.int zBAD)) (Q, Z) := by
  refine zCT.of (by decide +kernel) (Nat.le_of_ble_eq_true rfl) ?_
  refine zi_aload0 (n := 1) dX7_hides_0 rfl ?_
  refine zi_iconst (n := 2) (nI 0) dX7_hides_1 rfl (by decide) ?_
  refine zp_X7_0 (n := 5) dX7_hides_2 rfl zl_X7_44 (zt0 h0) ?_
  refine zi_aload0 (n := 6) dX7_hides_5 rfl ?_
  refine zi_V0s (mj := zm_X7_isThere) (n := 9) dX7_hides_6 rfl zl_X7_171 zy_X7_isThere (zrc_X7 _ _) (by decide) (Nat.le_of_ble_eq_true rfl) (c_X7_isThere) ?_
  refine zi_ifne_b (n := 12) (tgt := 15) dX7_hides_9 rfl (by decide) (fun h9 => ?_) (fun h9 => ?_)
  · refine zi_iload1 (n := 16) dX7_hides_15 rfl ?_
    refine zi_i2l (n := 17) dX7_hides_16 rfl ?_
    refine zi_lconst (n := 18) ((nI 1).toInt64) dX7_hides_17 rfl (by decide) ?_
    refine zi_ldc2 (n := 21) dX7_hides_18 rfl zl_X7_203 ?_
    rw [show (40 : Int64) = (nI 40).toInt64 by decide]
    refine zi_S3s (mj := zm_X7_in) (n := 24) dX7_hides_21 rfl zl_X7_54 zy_X7_in (by decide) (Nat.le_of_ble_eq_true rfl) (c_X7_in) ?_
    refine zi_ifeq_b (n := 27) (tgt := 37) dX7_hides_24 rfl (by decide) (fun h24 => ?_) (fun h24 => ?_)
    · refine zi_ldc (n := 39) dX7_hides_37 rfl zl_X7_64 ?_
      exact zi_iret dX7_hides_39 rfl (by rfl) (by rfl)
    · refine zi_iload2 (n := 28) dX7_hides_27 rfl ?_
      refine zi_i2l (n := 29) dX7_hides_28 rfl ?_
      refine zi_lconst (n := 30) ((nI 0).toInt64) dX7_hides_29 rfl (by decide) ?_
      refine zi_lconst (n := 31) ((nI 1).toInt64) dX7_hides_30 rfl (by decide) ?_
      refine zi_S3s (mj := zm_X7_in) (n := 34) dX7_hides_31 rfl zl_X7_54 zy_X7_in (by decide) (Nat.le_of_ble_eq_true rfl) (c_X7_in) ?_
      refine zi_ifne_b (n := 37) (tgt := 40) dX7_hides_34 rfl (by decide) (fun h34 => ?_) (fun h34 => ?_)
      · exact absurd ⟨h24, h34⟩ hb
      · refine zi_ldc (n := 39) dX7_hides_37 rfl zl_X7_64 ?_
        exact zi_iret dX7_hides_39 rfl (by rfl) (by rfl)
  · first | exact absurd hz h9 | exact absurd h9 hz
section
variable {rv : Option Value} {m w s : Nat} {b : Int32}
set_option maxHeartbeats 4000000 in
set_option maxRecDepth 100000 in
theorem la_X7_hides (hk : zKd (Z 169) n) (fin : ∀ (x5 x6 x7 : Option Value), zG E zm_X7_hides 5 rv M1 118 [some (.ref (zad E 165)), some (.int (nI m)), some (.int (nI w)), some (.int b), some (.int (nI s)), x5, x6, x7] [] (Q, va_up Z 171 (zhB f (nI s) n))) : ∀ k p (x6 x7 : Option Value), n - p < k → p ≤ n → zG E zm_X7_hides 5 rv M1 84 [some (.ref (zad E 165)), some (.int (nI m)), some (.int (nI w)), some (.int b), some (.int (nI s)), some (.int (nI p)), x6, x7] [] (Q, va_up Z 171 (zhB f (nI s) p)) := by
  have hn := hk.1
  have h6 := hk.2.1
  intro k
  induction k with
  | zero => intro p x6 x7 h; omega
  | succ k ih =>
    intro p x6 x7 h1 h2
    refine zi_iload5 (n := 86) dX7_hides_84 rfl ?_
    refine zi_aload0 (n := 87) dX7_hides_86 rfl ?_
    refine zg_X7_5 (n := 90) dX7_hides_87 rfl zl_X7_19 ?_
    refine zi_iconst (n := 91) (nI 0) dX7_hides_90 rfl (by decide) ?_
    refine zi_oald (N := 36) (i := 0) (n := 92) dX7_hides_91 rfl (by decide) (fun _ => rfl) (by decide) rfl (by decide) ((zfn _ _ _ _ (by decide) _).trans hn) ?_
    refine zi_icge (n := 95) (tgt := 118) dX7_hides_92 rfl (by decide) (fun h92 => ?_) (fun h92 => ?_)
    · have e : p = n := by have := (nI_leI (by omega) (by omega)).mp h92; omega
      subst e
      exact fin _ _ _
    · have e : p < n := by have := mt (nI_leI (by omega) (by omega)).mpr h92; omega
      refine zi_aload0 (n := 96) dX7_hides_95 rfl ?_
      refine zg_X7_7 (n := 99) dX7_hides_96 rfl zl_X7_25 ?_
      refine zi_iload5 (n := 101) dX7_hides_99 rfl ?_
      refine zi_iconst (n := 102) (nI 4) dX7_hides_101 rfl (by decide) ?_
      refine zi_iload4 (n := 104) dX7_hides_102 rfl ?_
      refine zi_iload5 (n := 106) dX7_hides_104 rfl ?_
      refine zi_ishr (n := 107) dX7_hides_106 rfl ?_
      refine zi_iconst (n := 108) (nI 1) dX7_hides_107 rfl (by decide) ?_
      refine zi_iand (n := 109) dX7_hides_108 rfl ?_
      refine zi_S4v (mj := zm_X7_be) (n := 112) dX7_hides_109 rfl zl_X7_154 zy_X7_be (by decide) (Nat.le_of_ble_eq_true rfl) (c_X7_be (Or.inr rfl) (by omega) (by decide)) ?_
      refine zi_iinc5 (n := 115) (nI (p + 1)) dX7_hides_112 rfl (by decide) rfl (zi1 _) ?_
      refine zi_goto (tgt := 84) dX7_hides_115 (by decide) ?_
      exact ih (p + 1) _ _ (by omega) (by omega)
set_option maxHeartbeats 4000000 in
set_option maxRecDepth 100000 in
theorem lb_X7_hides (hk : zKd (Z 169) n) (fin : ∀ (x6 x7 : Option Value), zG E zm_X7_hides 5 rv M1 220 [some (.ref (zad E 165)), some (.int (nI m)), some (.int (nI w)), some (.int b), some (.int (nI s)), some (.int (zB1 (znM (Z 169) f (nI s) n))), x6, x7] [] (Q, va_up Z 171 f)) : ∀ k p (bb : Bool) (x7 : Option Value), n - p < k → p ≤ n → znM (Z 169) f (nI s) p = bb → zG E zm_X7_hides 5 rv M1 132 [some (.ref (zad E 165)), some (.int (nI m)), some (.int (nI w)), some (.int b), some (.int (nI s)), some (.int (zB1 bb)), some (.int (nI p)), x7] [] (Q, va_up Z 171 f) := by
  have hn := hk.1
  have h6 := hk.2.1
  intro k
  induction k with
  | zero => intro p bb x7 h; omega
  | succ k ih =>
    intro p bb x7 h1 h2 hb
    rcases bb with _ | _
    · refine zi_iload6 (n := 134) dX7_hides_132 rfl ?_
      refine zi_aload0 (n := 135) dX7_hides_134 rfl ?_
      refine zg_X7_5 (n := 138) dX7_hides_135 rfl zl_X7_19 ?_
      refine zi_iconst (n := 139) (nI 0) dX7_hides_138 rfl (by decide) ?_
      refine zi_oald (N := 36) (i := 0) (n := 140) dX7_hides_139 rfl (by decide) (fun _ => rfl) (by decide) rfl (by decide) ((zfn _ _ _ _ (by decide) _).trans hn) ?_
      refine zi_icge (n := 143) (tgt := 220) dX7_hides_140 rfl (by decide) (fun h140 => ?_) (fun h140 => ?_)
      · have e : p = n := by have := (nI_leI (by omega) (by omega)).mp h140; omega
        subst e
        rw [hb] at fin
        exact fin _ _
      · have e : p < n := by have := mt (nI_leI (by omega) (by omega)).mpr h140; omega
        refine zi_iload4 (n := 145) dX7_hides_143 rfl ?_
        refine zi_iload6 (n := 147) dX7_hides_145 rfl ?_
        refine zi_S2s (mj := zm_X7_has) (n := 150) dX7_hides_147 rfl zl_X7_208 zy_X7_has (by decide) (Nat.le_of_ble_eq_true rfl) (c_X7_has) ?_
        refine zi_ifne_b (n := 153) (tgt := 167) dX7_hides_150 rfl (by decide) (fun h150 => ?_) (fun h150 => ?_)
        · refine zi_iconst (n := 168) (nI 1) dX7_hides_167 rfl (by decide) ?_
          refine zi_goto (tgt := 172) dX7_hides_168 (by decide) ?_
          refine zi_istore7 (n := 174) dX7_hides_172 rfl (by decide) rfl ?_
          refine zi_iload5 (n := 176) dX7_hides_174 rfl ?_
          refine zi_ifeq (n := 179) (tgt := 211) dX7_hides_176 rfl (by decide) (fun h176 => ?_) (fun h176 => ?_)
          · refine zi_iconst (n := 212) (nI 0) dX7_hides_211 rfl (by decide) ?_
            refine zi_istore5 (n := 214) dX7_hides_212 rfl (by decide) rfl ?_
            refine zi_iinc6 (n := 217) (nI (p + 1)) dX7_hides_214 rfl (by decide) rfl (zi1 _) ?_
            refine zi_goto (tgt := 132) dX7_hides_217 (by decide) ?_
            first | exact ih (p + 1) true _ (by omega) (by omega) (by rw [znM, hb]; simp [zhas7, h140, h150, h176]) | exact ih (p + 1) false _ (by omega) (by omega) (by rw [znM, hb]; simp [zhas7, h140, h150, h176])
          · first | exact absurd h176 (by decide) | exact absurd rfl h176
        · refine zi_aload0 (n := 154) dX7_hides_153 rfl ?_
          refine zg_X7_5 (n := 157) dX7_hides_154 rfl zl_X7_19 ?_
          refine zi_iload6 (n := 159) dX7_hides_157 rfl ?_
          refine zi_iconst (n := 160) (nI 0) dX7_hides_159 rfl (by decide) ?_
          refine zi_S3s (mj := zm_X7_of) (n := 163) dX7_hides_160 rfl zl_X7_146 zy_X7_of (by decide) (Nat.le_of_ble_eq_true rfl) (c_of9t (x := Z 169 (6 + 5 * p)) (by omega) (by decide) rfl) ?_
          refine zi_iconst (n := 164) (nI 5) dX7_hides_163 rfl (by decide) ?_
          refine zi_icne (n := 167) (tgt := 171) dX7_hides_164 rfl (by decide) (fun h164 => ?_) (fun h164 => ?_)
          · refine zi_iconst (n := 172) (nI 0) dX7_hides_171 rfl (by decide) ?_
            refine zi_istore7 (n := 174) dX7_hides_172 rfl (by decide) rfl ?_
            refine zi_iload5 (n := 176) dX7_hides_174 rfl ?_
            refine zi_ifeq (n := 179) (tgt := 211) dX7_hides_176 rfl (by decide) (fun h176 => ?_) (fun h176 => ?_)
            · refine zi_iconst (n := 212) (nI 0) dX7_hides_211 rfl (by decide) ?_
              refine zi_istore5 (n := 214) dX7_hides_212 rfl (by decide) rfl ?_
              refine zi_iinc6 (n := 217) (nI (p + 1)) dX7_hides_214 rfl (by decide) rfl (zi1 _) ?_
              refine zi_goto (tgt := 132) dX7_hides_217 (by decide) ?_
              first | exact ih (p + 1) true _ (by omega) (by omega) (by rw [znM, hb]; simp [zhas7, h140, h150, h164, h176]) | exact ih (p + 1) false _ (by omega) (by omega) (by rw [znM, hb]; simp [zhas7, h140, h150, h164, h176])
            · first | exact absurd h176 (by decide) | exact absurd rfl h176
          · refine zi_iconst (n := 168) (nI 1) dX7_hides_167 rfl (by decide) ?_
            refine zi_goto (tgt := 172) dX7_hides_168 (by decide) ?_
            refine zi_istore7 (n := 174) dX7_hides_172 rfl (by decide) rfl ?_
            refine zi_iload5 (n := 176) dX7_hides_174 rfl ?_
            refine zi_ifeq (n := 179) (tgt := 211) dX7_hides_176 rfl (by decide) (fun h176 => ?_) (fun h176 => ?_)
            · refine zi_iconst (n := 212) (nI 0) dX7_hides_211 rfl (by decide) ?_
              refine zi_istore5 (n := 214) dX7_hides_212 rfl (by decide) rfl ?_
              refine zi_iinc6 (n := 217) (nI (p + 1)) dX7_hides_214 rfl (by decide) rfl (zi1 _) ?_
              refine zi_goto (tgt := 132) dX7_hides_217 (by decide) ?_
              first | exact ih (p + 1) true _ (by omega) (by omega) (by rw [znM, hb]; simp [zhas7, h140, h150, h164, h176]) | exact ih (p + 1) false _ (by omega) (by omega) (by rw [znM, hb]; simp [zhas7, h140, h150, h164, h176])
            · first | exact absurd h176 (by decide) | exact absurd rfl h176
    · refine zi_iload6 (n := 134) dX7_hides_132 rfl ?_
      refine zi_aload0 (n := 135) dX7_hides_134 rfl ?_
      refine zg_X7_5 (n := 138) dX7_hides_135 rfl zl_X7_19 ?_
      refine zi_iconst (n := 139) (nI 0) dX7_hides_138 rfl (by decide) ?_
      refine zi_oald (N := 36) (i := 0) (n := 140) dX7_hides_139 rfl (by decide) (fun _ => rfl) (by decide) rfl (by decide) ((zfn _ _ _ _ (by decide) _).trans hn) ?_
      refine zi_icge (n := 143) (tgt := 220) dX7_hides_140 rfl (by decide) (fun h140 => ?_) (fun h140 => ?_)
      · have e : p = n := by have := (nI_leI (by omega) (by omega)).mp h140; omega
        subst e
        rw [hb] at fin
        exact fin _ _
      · have e : p < n := by have := mt (nI_leI (by omega) (by omega)).mpr h140; omega
        refine zi_iload4 (n := 145) dX7_hides_143 rfl ?_
        refine zi_iload6 (n := 147) dX7_hides_145 rfl ?_
        refine zi_S2s (mj := zm_X7_has) (n := 150) dX7_hides_147 rfl zl_X7_208 zy_X7_has (by decide) (Nat.le_of_ble_eq_true rfl) (c_X7_has) ?_
        refine zi_ifne_b (n := 153) (tgt := 167) dX7_hides_150 rfl (by decide) (fun h150 => ?_) (fun h150 => ?_)
        · refine zi_iconst (n := 168) (nI 1) dX7_hides_167 rfl (by decide) ?_
          refine zi_goto (tgt := 172) dX7_hides_168 (by decide) ?_
          refine zi_istore7 (n := 174) dX7_hides_172 rfl (by decide) rfl ?_
          refine zi_iload5 (n := 176) dX7_hides_174 rfl ?_
          refine zi_ifeq (n := 179) (tgt := 211) dX7_hides_176 rfl (by decide) (fun h176 => ?_) (fun h176 => ?_)
          · first | exact absurd h176 (by decide) | exact absurd rfl h176
          · refine zi_iload7 (n := 181) dX7_hides_179 rfl ?_
            refine zi_ifne (n := 184) (tgt := 207) dX7_hides_181 rfl (by decide) (fun h181 => ?_) (fun h181 => ?_)
            · refine zi_iconst (n := 208) (nI 1) dX7_hides_207 rfl (by decide) ?_
              refine zi_goto (tgt := 212) dX7_hides_208 (by decide) ?_
              refine zi_istore5 (n := 214) dX7_hides_212 rfl (by decide) rfl ?_
              refine zi_iinc6 (n := 217) (nI (p + 1)) dX7_hides_214 rfl (by decide) rfl (zi1 _) ?_
              refine zi_goto (tgt := 132) dX7_hides_217 (by decide) ?_
              first | exact ih (p + 1) true _ (by omega) (by omega) (by rw [znM, hb]; simp [zhas7, h140, h150, h176, h181]) | exact ih (p + 1) false _ (by omega) (by omega) (by rw [znM, hb]; simp [zhas7, h140, h150, h176, h181])
            · first | exact absurd h181 (by decide) | exact absurd rfl h181
        · refine zi_aload0 (n := 154) dX7_hides_153 rfl ?_
          refine zg_X7_5 (n := 157) dX7_hides_154 rfl zl_X7_19 ?_
          refine zi_iload6 (n := 159) dX7_hides_157 rfl ?_
          refine zi_iconst (n := 160) (nI 0) dX7_hides_159 rfl (by decide) ?_
          refine zi_S3s (mj := zm_X7_of) (n := 163) dX7_hides_160 rfl zl_X7_146 zy_X7_of (by decide) (Nat.le_of_ble_eq_true rfl) (c_of9t (x := Z 169 (6 + 5 * p)) (by omega) (by decide) rfl) ?_
          refine zi_iconst (n := 164) (nI 5) dX7_hides_163 rfl (by decide) ?_
          refine zi_icne (n := 167) (tgt := 171) dX7_hides_164 rfl (by decide) (fun h164 => ?_) (fun h164 => ?_)
          · refine zi_iconst (n := 172) (nI 0) dX7_hides_171 rfl (by decide) ?_
            refine zi_istore7 (n := 174) dX7_hides_172 rfl (by decide) rfl ?_
            refine zi_iload5 (n := 176) dX7_hides_174 rfl ?_
            refine zi_ifeq (n := 179) (tgt := 211) dX7_hides_176 rfl (by decide) (fun h176 => ?_) (fun h176 => ?_)
            · first | exact absurd h176 (by decide) | exact absurd rfl h176
            · refine zi_iload7 (n := 181) dX7_hides_179 rfl ?_
              refine zi_ifne (n := 184) (tgt := 207) dX7_hides_181 rfl (by decide) (fun h181 => ?_) (fun h181 => ?_)
              · first | exact absurd h181 (by decide) | exact absurd rfl h181
              · refine zi_aload0 (n := 185) dX7_hides_184 rfl ?_
                refine zg_X7_7 (n := 188) dX7_hides_185 rfl zl_X7_25 ?_
                refine zi_iload6 (n := 190) dX7_hides_188 rfl ?_
                refine zi_iconst (n := 191) (nI 3) dX7_hides_190 rfl (by decide) ?_
                refine zi_S3s (mj := zm_X7_of) (n := 194) dX7_hides_191 rfl zl_X7_146 zy_X7_of (by decide) (Nat.le_of_ble_eq_true rfl) (c_X7_of (Or.inr rfl) (by omega) (by decide)) ?_
                refine zi_aload0 (n := 195) dX7_hides_194 rfl ?_
                refine zg_X7_5 (n := 198) dX7_hides_195 rfl zl_X7_19 ?_
                refine zi_iload6 (n := 200) dX7_hides_198 rfl ?_
                refine zi_iconst (n := 201) (nI 3) dX7_hides_200 rfl (by decide) ?_
                refine zi_S3s (mj := zm_X7_of) (n := 204) dX7_hides_201 rfl zl_X7_146 zy_X7_of (by decide) (Nat.le_of_ble_eq_true rfl) (c_of9t (by omega) (by decide) rfl) ?_
                refine zi_icne (n := 207) (tgt := 211) dX7_hides_204 rfl (by decide) (fun h204 => ?_) (fun h204 => ?_)
                · refine zi_iconst (n := 212) (nI 0) dX7_hides_211 rfl (by decide) ?_
                  refine zi_istore5 (n := 214) dX7_hides_212 rfl (by decide) rfl ?_
                  refine zi_iinc6 (n := 217) (nI (p + 1)) dX7_hides_214 rfl (by decide) rfl (zi1 _) ?_
                  refine zi_goto (tgt := 132) dX7_hides_217 (by decide) ?_
                  first | exact ih (p + 1) true _ (by omega) (by omega) (by rw [znM, hb]; simp [zhas7, h140, h150, h164, h176, h181, h204]) | exact ih (p + 1) false _ (by omega) (by omega) (by rw [znM, hb]; simp [zhas7, h140, h150, h164, h176, h181, h204])
                · refine zi_iconst (n := 208) (nI 1) dX7_hides_207 rfl (by decide) ?_
                  refine zi_goto (tgt := 212) dX7_hides_208 (by decide) ?_
                  refine zi_istore5 (n := 214) dX7_hides_212 rfl (by decide) rfl ?_
                  refine zi_iinc6 (n := 217) (nI (p + 1)) dX7_hides_214 rfl (by decide) rfl (zi1 _) ?_
                  refine zi_goto (tgt := 132) dX7_hides_217 (by decide) ?_
                  first | exact ih (p + 1) true _ (by omega) (by omega) (by rw [znM, hb]; simp [zhas7, h140, h150, h164, h176, h181, h204]) | exact ih (p + 1) false _ (by omega) (by omega) (by rw [znM, hb]; simp [zhas7, h140, h150, h164, h176, h181, h204])
          · refine zi_iconst (n := 168) (nI 1) dX7_hides_167 rfl (by decide) ?_
            refine zi_goto (tgt := 172) dX7_hides_168 (by decide) ?_
            refine zi_istore7 (n := 174) dX7_hides_172 rfl (by decide) rfl ?_
            refine zi_iload5 (n := 176) dX7_hides_174 rfl ?_
            refine zi_ifeq (n := 179) (tgt := 211) dX7_hides_176 rfl (by decide) (fun h176 => ?_) (fun h176 => ?_)
            · first | exact absurd h176 (by decide) | exact absurd rfl h176
            · refine zi_iload7 (n := 181) dX7_hides_179 rfl ?_
              refine zi_ifne (n := 184) (tgt := 207) dX7_hides_181 rfl (by decide) (fun h181 => ?_) (fun h181 => ?_)
              · refine zi_iconst (n := 208) (nI 1) dX7_hides_207 rfl (by decide) ?_
                refine zi_goto (tgt := 212) dX7_hides_208 (by decide) ?_
                refine zi_istore5 (n := 214) dX7_hides_212 rfl (by decide) rfl ?_
                refine zi_iinc6 (n := 217) (nI (p + 1)) dX7_hides_214 rfl (by decide) rfl (zi1 _) ?_
                refine zi_goto (tgt := 132) dX7_hides_217 (by decide) ?_
                first | exact ih (p + 1) true _ (by omega) (by omega) (by rw [znM, hb]; simp [zhas7, h140, h150, h164, h176, h181]) | exact ih (p + 1) false _ (by omega) (by omega) (by rw [znM, hb]; simp [zhas7, h140, h150, h164, h176, h181])
              · first | exact absurd h181 (by decide) | exact absurd rfl h181
end
set_option maxHeartbeats 4000000 in
set_option maxRecDepth 100000 in
theorem l0_X7_hides (hk : zKd (Z 169) n) {m : Nat} (hm : m < 2 ^ 30) {r : Int32 × zF} : ∀ k s (b : Int32) (f : zF) (x5 x6 x7 : Option Value), s + k = 2 ^ n → zhdM (Z 169) n m k s b f = r → zG E zm_X7_hides 5 (some (.int (zbiM r.1 6))) (Q, va_up Z 171 r.2) 46 [some (.ref (zad E 165)), some (.int (nI m)), some (.int (nI 0)), some (.int b), some (.int (nI s)), x5, x6, x7] [] (Q, va_up Z 171 f) := by
  have hn := hk.1
  have h6 := hk.2.1
  have hp2 := p2n h6
  intro k
  induction k with
  | zero =>
    intro s b f x5 x6 x7 hi hr
    refine zi_iload4 (n := 48) dX7_hides_46 rfl ?_
    refine zi_iconst (n := 49) (nI 1) dX7_hides_48 rfl (by decide) ?_
    refine zi_aload0 (n := 50) dX7_hides_49 rfl ?_
    refine zg_X7_5 (n := 53) dX7_hides_50 rfl zl_X7_19 ?_
    refine zi_iconst (n := 54) (nI 0) dX7_hides_53 rfl (by decide) ?_
    refine zi_oald (N := 36) (i := 0) (n := 55) dX7_hides_54 rfl (by decide) (fun _ => rfl) (by decide) rfl (by decide) ((zfn _ _ _ _ (by decide) _).trans hn) ?_
    refine zi_ishl (n := 56) dX7_hides_55 rfl ?_
    rw [z1n h6]
    refine zi_icge (n := 59) (tgt := 238) dX7_hides_56 rfl (by decide) (fun h56 => ?_) (fun h56 => ?_)
    · refine zi_iload2 (n := 239) dX7_hides_238 rfl ?_
      refine zi_ifne (n := 242) (tgt := 249) dX7_hides_239 rfl (by decide) (fun h239 => ?_) (fun h239 => ?_)
      · first | exact absurd h239 (by decide) | exact absurd rfl h239
      · refine zi_iload3 (n := 243) dX7_hides_242 rfl ?_
        refine zi_S1s (mj := zm_X7_bits) (n := 246) dX7_hides_243 rfl zl_X7_205 zy_X7_bits (by decide) (Nat.le_of_ble_eq_true rfl) (c_X7_bits) ?_
        refine zi_goto (tgt := 250) dX7_hides_246 (by decide) ?_
        exact zi_iret dX7_hides_250 rfl (by rw [← hr]; rfl) (by rw [← hr]; rfl)
    · exact absurd (nI_le (by omega) (by omega)) h56
  | succ k ih =>
    intro s b f x5 x6 x7 hi hr
    refine zi_iload4 (n := 48) dX7_hides_46 rfl ?_
    refine zi_iconst (n := 49) (nI 1) dX7_hides_48 rfl (by decide) ?_
    refine zi_aload0 (n := 50) dX7_hides_49 rfl ?_
    refine zg_X7_5 (n := 53) dX7_hides_50 rfl zl_X7_19 ?_
    refine zi_iconst (n := 54) (nI 0) dX7_hides_53 rfl (by decide) ?_
    refine zi_oald (N := 36) (i := 0) (n := 55) dX7_hides_54 rfl (by decide) (fun _ => rfl) (by decide) rfl (by decide) ((zfn _ _ _ _ (by decide) _).trans hn) ?_
    refine zi_ishl (n := 56) dX7_hides_55 rfl ?_
    rw [z1n h6]
    refine zi_icge (n := 59) (tgt := 238) dX7_hides_56 rfl (by decide) (fun h56 => ?_) (fun h56 => ?_)
    · exact absurd ((nI_leI (by omega) (by omega)).mp h56) (by omega)
    · refine zi_iload3 (n := 60) dX7_hides_59 rfl ?_
      refine zi_ldc (n := 62) dX7_hides_60 rfl zl_X7_87 ?_
      refine zi_iceq (n := 65) (tgt := 77) dX7_hides_62 rfl (by decide) (fun h62 => ?_) (fun h62 => ?_)
      · have hcond : b = -1000000 ∨ zbiM (nI s) 6 < zbiM b 6 := Or.inl h62
        refine zi_aload0 (n := 78) dX7_hides_77 rfl ?_
        refine zi_V0v (mj := zm_X7_layThen) (n := 81) dX7_hides_78 rfl zl_X7_193 zy_X7_layThen (zrc_X7 _ _) (by decide) (Nat.le_of_ble_eq_true rfl) c_lay ?_
        refine zi_iconst (n := 82) (nI 0) dX7_hides_81 rfl (by decide) ?_
        refine zi_istore5 (n := 84) dX7_hides_82 rfl (by decide) rfl ?_
        rw [zhdM, if_pos hcond] at hr
        refine la_X7_hides hk (fun x5 x6 x7 => ?_) (n + 1) 0 _ _ (by omega) (by omega)
        refine zi_aload0 (n := 119) dX7_hides_118 rfl ?_
        refine zg_X7_7 (n := 122) dX7_hides_119 rfl zl_X7_25 ?_
        refine zi_iload1 (n := 123) dX7_hides_122 rfl ?_
        refine zi_S2v (mj := zm_X7_noonsOf) (n := 126) dX7_hides_123 rfl zl_X7_196 zy_X7_noonsOf (by decide) (Nat.le_of_ble_eq_true rfl) (c_X7_noonsOf (Or.inr rfl) (zhB_kd hk.lay n) (by omega)) ?_
        change zG _ _ _ _ _ _ _ _ (Q, va_up Z 171 (zhT (Z 169) f n m s))
        refine zi_iconst (n := 127) (nI 1) dX7_hides_126 rfl (by decide) ?_
        refine zi_istore5 (n := 129) dX7_hides_127 rfl (by decide) rfl ?_
        refine zi_iconst (n := 130) (nI 0) dX7_hides_129 rfl (by decide) ?_
        refine zi_istore6 (n := 132) dX7_hides_130 rfl (by decide) rfl ?_
        refine lb_X7_hides hk (fun x6 x7 => ?_) (n + 1) 0 true _ (by omega) (by omega) rfl
        refine zi_iload5 (n := 222) dX7_hides_220 rfl ?_
        refine zi_ifeq (n := 225) (tgt := 230) dX7_hides_222 rfl (by decide) (fun h222 => ?_) (fun h222 => ?_)
        · have e9 : znM (Z 169) (zhT (Z 169) f n m s) (nI s) n = false := by
            rcases hq : znM (Z 169) (zhT (Z 169) f n m s) (nI s) n with _ | _
            · rfl
            · rw [hq] at h222; exact absurd h222 (by decide)
          rw [e9] at hr
          refine zi_iload3 (n := 231) dX7_hides_230 rfl ?_
          refine zi_istore3 (n := 232) dX7_hides_231 rfl (by decide) rfl ?_
          refine zi_iinc4 (n := 235) (nI (s + 1)) dX7_hides_232 rfl (by decide) rfl (zi1 _) ?_
          refine zi_goto (tgt := 46) dX7_hides_235 (by decide) ?_
          exact ih (s + 1) _ _ _ _ _ (by omega) hr
        · have e9 : znM (Z 169) (zhT (Z 169) f n m s) (nI s) n = true := by
            rcases hq : znM (Z 169) (zhT (Z 169) f n m s) (nI s) n with _ | _
            · rw [hq] at h222; exact absurd rfl h222
            · rfl
          rw [e9] at hr
          refine zi_iload4 (n := 227) dX7_hides_225 rfl ?_
          refine zi_goto (tgt := 231) dX7_hides_227 (by decide) ?_
          refine zi_istore3 (n := 232) dX7_hides_231 rfl (by decide) rfl ?_
          refine zi_iinc4 (n := 235) (nI (s + 1)) dX7_hides_232 rfl (by decide) rfl (zi1 _) ?_
          refine zi_goto (tgt := 46) dX7_hides_235 (by decide) ?_
          exact ih (s + 1) _ _ _ _ _ (by omega) hr
      · refine zi_iload4 (n := 67) dX7_hides_65 rfl ?_
        refine zi_S1s (mj := zm_X7_bits) (n := 70) dX7_hides_67 rfl zl_X7_205 zy_X7_bits (by decide) (Nat.le_of_ble_eq_true rfl) (c_X7_bits) ?_
        refine zi_iload3 (n := 71) dX7_hides_70 rfl ?_
        refine zi_S1s (mj := zm_X7_bits) (n := 74) dX7_hides_71 rfl zl_X7_205 zy_X7_bits (by decide) (Nat.le_of_ble_eq_true rfl) (c_X7_bits) ?_
        refine zi_icge (n := 77) (tgt := 232) dX7_hides_74 rfl (by decide) (fun h74 => ?_) (fun h74 => ?_)
        · rw [zhdM, if_neg (fun q => q.elim h62 (fun z => absurd z (Int32.not_lt.mpr h74)))] at hr
          refine zi_iinc4 (n := 235) (nI (s + 1)) dX7_hides_232 rfl (by decide) rfl (zi1 _) ?_
          refine zi_goto (tgt := 46) dX7_hides_235 (by decide) ?_
          exact ih (s + 1) _ _ _ _ _ (by omega) hr
        · have hcond : b = -1000000 ∨ zbiM (nI s) 6 < zbiM b 6 := Or.inr (Int32.not_le.mp h74)
          refine zi_aload0 (n := 78) dX7_hides_77 rfl ?_
          refine zi_V0v (mj := zm_X7_layThen) (n := 81) dX7_hides_78 rfl zl_X7_193 zy_X7_layThen (zrc_X7 _ _) (by decide) (Nat.le_of_ble_eq_true rfl) c_lay ?_
          refine zi_iconst (n := 82) (nI 0) dX7_hides_81 rfl (by decide) ?_
          refine zi_istore5 (n := 84) dX7_hides_82 rfl (by decide) rfl ?_
          rw [zhdM, if_pos hcond] at hr
          refine la_X7_hides hk (fun x5 x6 x7 => ?_) (n + 1) 0 _ _ (by omega) (by omega)
          refine zi_aload0 (n := 119) dX7_hides_118 rfl ?_
          refine zg_X7_7 (n := 122) dX7_hides_119 rfl zl_X7_25 ?_
          refine zi_iload1 (n := 123) dX7_hides_122 rfl ?_
          refine zi_S2v (mj := zm_X7_noonsOf) (n := 126) dX7_hides_123 rfl zl_X7_196 zy_X7_noonsOf (by decide) (Nat.le_of_ble_eq_true rfl) (c_X7_noonsOf (Or.inr rfl) (zhB_kd hk.lay n) (by omega)) ?_
          change zG _ _ _ _ _ _ _ _ (Q, va_up Z 171 (zhT (Z 169) f n m s))
          refine zi_iconst (n := 127) (nI 1) dX7_hides_126 rfl (by decide) ?_
          refine zi_istore5 (n := 129) dX7_hides_127 rfl (by decide) rfl ?_
          refine zi_iconst (n := 130) (nI 0) dX7_hides_129 rfl (by decide) ?_
          refine zi_istore6 (n := 132) dX7_hides_130 rfl (by decide) rfl ?_
          refine lb_X7_hides hk (fun x6 x7 => ?_) (n + 1) 0 true _ (by omega) (by omega) rfl
          refine zi_iload5 (n := 222) dX7_hides_220 rfl ?_
          refine zi_ifeq (n := 225) (tgt := 230) dX7_hides_222 rfl (by decide) (fun h222 => ?_) (fun h222 => ?_)
          · have e9 : znM (Z 169) (zhT (Z 169) f n m s) (nI s) n = false := by
              rcases hq : znM (Z 169) (zhT (Z 169) f n m s) (nI s) n with _ | _
              · rfl
              · rw [hq] at h222; exact absurd h222 (by decide)
            rw [e9] at hr
            refine zi_iload3 (n := 231) dX7_hides_230 rfl ?_
            refine zi_istore3 (n := 232) dX7_hides_231 rfl (by decide) rfl ?_
            refine zi_iinc4 (n := 235) (nI (s + 1)) dX7_hides_232 rfl (by decide) rfl (zi1 _) ?_
            refine zi_goto (tgt := 46) dX7_hides_235 (by decide) ?_
            exact ih (s + 1) _ _ _ _ _ (by omega) hr
          · have e9 : znM (Z 169) (zhT (Z 169) f n m s) (nI s) n = true := by
              rcases hq : znM (Z 169) (zhT (Z 169) f n m s) (nI s) n with _ | _
              · rw [hq] at h222; exact absurd rfl h222
              · rfl
            rw [e9] at hr
            refine zi_iload4 (n := 227) dX7_hides_225 rfl ?_
            refine zi_goto (tgt := 231) dX7_hides_227 (by decide) ?_
            refine zi_istore3 (n := 232) dX7_hides_231 rfl (by decide) rfl ?_
            refine zi_iinc4 (n := 235) (nI (s + 1)) dX7_hides_232 rfl (by decide) rfl (zi1 _) ?_
            refine zi_goto (tgt := 46) dX7_hides_235 (by decide) ?_
            exact ih (s + 1) _ _ _ _ _ (by omega) hr
set_option maxHeartbeats 4000000 in
set_option maxRecDepth 100000 in
theorem m_hides_0 (h0 : Z 165 0 = nI 0) (hk : zKd (Z 169) n) (hz : ¬ Z 169 0 ≤ 0) {m : Nat} (hm1 : 1 ≤ m) (hm2 : m ≤ 40) : zCT E 5 zm_X7_hides [.ref (zad E 165), .int (nI m), .int (nI 0)] (Q, Z) (some (.int (zbiM (zhdM (Z 169) n m (2 ^ n) 0 (-1000000) (Z 171)).1 6))) (Q, va_up Z 171 (zhdM (Z 169) n m (2 ^ n) 0 (-1000000) (Z 171)).2) := by
  refine zCT.of (by decide +kernel) (Nat.le_of_ble_eq_true rfl) ?_
  have a2 := zrg hm1 hm2 (by decide)
  have a3 : nI 0 ≤ nI 0 ∧ nI 0 ≤ nI 1 := by decide
  refine zi_aload0 (n := 1) dX7_hides_0 rfl ?_
  refine zi_iconst (n := 2) (nI 0) dX7_hides_1 rfl (by decide) ?_
  refine zp_X7_0 (n := 5) dX7_hides_2 rfl zl_X7_44 (zt0 h0) ?_
  refine zi_aload0 (n := 6) dX7_hides_5 rfl ?_
  refine zi_V0s (mj := zm_X7_isThere) (n := 9) dX7_hides_6 rfl zl_X7_171 zy_X7_isThere (zrc_X7 _ _) (by decide) (Nat.le_of_ble_eq_true rfl) (c_X7_isThere) ?_
  refine zi_ifne_b (n := 12) (tgt := 15) dX7_hides_9 rfl (by decide) (fun h9 => ?_) (fun h9 => ?_)
  · refine zi_iload1 (n := 16) dX7_hides_15 rfl ?_
    refine zi_i2l (n := 17) dX7_hides_16 rfl ?_
    refine zi_lconst (n := 18) ((nI 1).toInt64) dX7_hides_17 rfl (by decide) ?_
    refine zi_ldc2 (n := 21) dX7_hides_18 rfl zl_X7_203 ?_
    rw [show (40 : Int64) = (nI 40).toInt64 by decide]
    refine zi_S3s (mj := zm_X7_in) (n := 24) dX7_hides_21 rfl zl_X7_54 zy_X7_in (by decide) (Nat.le_of_ble_eq_true rfl) (c_X7_in) ?_
    refine zi_ifeq_b (n := 27) (tgt := 37) dX7_hides_24 rfl (by decide) (fun h24 => ?_) (fun h24 => ?_)
    · first | exact absurd a2 h24 | exact absurd h24 a2
    · refine zi_iload2 (n := 28) dX7_hides_27 rfl ?_
      refine zi_i2l (n := 29) dX7_hides_28 rfl ?_
      refine zi_lconst (n := 30) ((nI 0).toInt64) dX7_hides_29 rfl (by decide) ?_
      refine zi_lconst (n := 31) ((nI 1).toInt64) dX7_hides_30 rfl (by decide) ?_
      refine zi_S3s (mj := zm_X7_in) (n := 34) dX7_hides_31 rfl zl_X7_54 zy_X7_in (by decide) (Nat.le_of_ble_eq_true rfl) (c_X7_in) ?_
      refine zi_ifne_b (n := 37) (tgt := 40) dX7_hides_34 rfl (by decide) (fun h34 => ?_) (fun h34 => ?_)
      · refine zi_ldc (n := 42) dX7_hides_40 rfl zl_X7_87 ?_
        refine zi_istore3 (n := 43) dX7_hides_42 rfl (by decide) rfl ?_
        refine zi_iconst (n := 44) (nI 0) dX7_hides_43 rfl (by decide) ?_
        refine zi_istore4 (n := 46) dX7_hides_44 rfl (by decide) rfl ?_
        refine zG_eqM (M2 := (Q, va_up Z 171 (Z 171))) (by rw [zup_same]) ?_
        exact l0_X7_hides hk (by omega) (2 ^ n) 0 _ (Z 171) none none none (by omega) rfl
      · first | exact absurd a3 h34 | exact absurd h34 a3
  · first | exact absurd hz h9 | exact absurd h9 hz
set_option maxHeartbeats 4000000 in
set_option maxRecDepth 100000 in
theorem l1_X7_hides (hk : zKd (Z 169) n) {m : Nat} (hm : m < 2 ^ 30) {r : Int32 × zF} : ∀ k s (b : Int32) (f : zF) (x5 x6 x7 : Option Value), s + k = 2 ^ n → zhdM (Z 169) n m k s b f = r → zG E zm_X7_hides 5 (some (.int r.1)) (Q, va_up Z 171 r.2) 46 [some (.ref (zad E 165)), some (.int (nI m)), some (.int (nI 1)), some (.int b), some (.int (nI s)), x5, x6, x7] [] (Q, va_up Z 171 f) := by
  have hn := hk.1
  have h6 := hk.2.1
  have hp2 := p2n h6
  intro k
  induction k with
  | zero =>
    intro s b f x5 x6 x7 hi hr
    refine zi_iload4 (n := 48) dX7_hides_46 rfl ?_
    refine zi_iconst (n := 49) (nI 1) dX7_hides_48 rfl (by decide) ?_
    refine zi_aload0 (n := 50) dX7_hides_49 rfl ?_
    refine zg_X7_5 (n := 53) dX7_hides_50 rfl zl_X7_19 ?_
    refine zi_iconst (n := 54) (nI 0) dX7_hides_53 rfl (by decide) ?_
    refine zi_oald (N := 36) (i := 0) (n := 55) dX7_hides_54 rfl (by decide) (fun _ => rfl) (by decide) rfl (by decide) ((zfn _ _ _ _ (by decide) _).trans hn) ?_
    refine zi_ishl (n := 56) dX7_hides_55 rfl ?_
    rw [z1n h6]
    refine zi_icge (n := 59) (tgt := 238) dX7_hides_56 rfl (by decide) (fun h56 => ?_) (fun h56 => ?_)
    · refine zi_iload2 (n := 239) dX7_hides_238 rfl ?_
      refine zi_ifne (n := 242) (tgt := 249) dX7_hides_239 rfl (by decide) (fun h239 => ?_) (fun h239 => ?_)
      · refine zi_iload3 (n := 250) dX7_hides_249 rfl ?_
        exact zi_iret dX7_hides_250 rfl (by rw [← hr]; rfl) (by rw [← hr]; rfl)
      · first | exact absurd h239 (by decide) | exact absurd rfl h239
    · exact absurd (nI_le (by omega) (by omega)) h56
  | succ k ih =>
    intro s b f x5 x6 x7 hi hr
    refine zi_iload4 (n := 48) dX7_hides_46 rfl ?_
    refine zi_iconst (n := 49) (nI 1) dX7_hides_48 rfl (by decide) ?_
    refine zi_aload0 (n := 50) dX7_hides_49 rfl ?_
    refine zg_X7_5 (n := 53) dX7_hides_50 rfl zl_X7_19 ?_
    refine zi_iconst (n := 54) (nI 0) dX7_hides_53 rfl (by decide) ?_
    refine zi_oald (N := 36) (i := 0) (n := 55) dX7_hides_54 rfl (by decide) (fun _ => rfl) (by decide) rfl (by decide) ((zfn _ _ _ _ (by decide) _).trans hn) ?_
    refine zi_ishl (n := 56) dX7_hides_55 rfl ?_
    rw [z1n h6]
    refine zi_icge (n := 59) (tgt := 238) dX7_hides_56 rfl (by decide) (fun h56 => ?_) (fun h56 => ?_)
    · exact absurd ((nI_leI (by omega) (by omega)).mp h56) (by omega)
    · refine zi_iload3 (n := 60) dX7_hides_59 rfl ?_
      refine zi_ldc (n := 62) dX7_hides_60 rfl zl_X7_87 ?_
      refine zi_iceq (n := 65) (tgt := 77) dX7_hides_62 rfl (by decide) (fun h62 => ?_) (fun h62 => ?_)
      · have hcond : b = -1000000 ∨ zbiM (nI s) 6 < zbiM b 6 := Or.inl h62
        refine zi_aload0 (n := 78) dX7_hides_77 rfl ?_
        refine zi_V0v (mj := zm_X7_layThen) (n := 81) dX7_hides_78 rfl zl_X7_193 zy_X7_layThen (zrc_X7 _ _) (by decide) (Nat.le_of_ble_eq_true rfl) c_lay ?_
        refine zi_iconst (n := 82) (nI 0) dX7_hides_81 rfl (by decide) ?_
        refine zi_istore5 (n := 84) dX7_hides_82 rfl (by decide) rfl ?_
        rw [zhdM, if_pos hcond] at hr
        refine la_X7_hides hk (fun x5 x6 x7 => ?_) (n + 1) 0 _ _ (by omega) (by omega)
        refine zi_aload0 (n := 119) dX7_hides_118 rfl ?_
        refine zg_X7_7 (n := 122) dX7_hides_119 rfl zl_X7_25 ?_
        refine zi_iload1 (n := 123) dX7_hides_122 rfl ?_
        refine zi_S2v (mj := zm_X7_noonsOf) (n := 126) dX7_hides_123 rfl zl_X7_196 zy_X7_noonsOf (by decide) (Nat.le_of_ble_eq_true rfl) (c_X7_noonsOf (Or.inr rfl) (zhB_kd hk.lay n) (by omega)) ?_
        change zG _ _ _ _ _ _ _ _ (Q, va_up Z 171 (zhT (Z 169) f n m s))
        refine zi_iconst (n := 127) (nI 1) dX7_hides_126 rfl (by decide) ?_
        refine zi_istore5 (n := 129) dX7_hides_127 rfl (by decide) rfl ?_
        refine zi_iconst (n := 130) (nI 0) dX7_hides_129 rfl (by decide) ?_
        refine zi_istore6 (n := 132) dX7_hides_130 rfl (by decide) rfl ?_
        refine lb_X7_hides hk (fun x6 x7 => ?_) (n + 1) 0 true _ (by omega) (by omega) rfl
        refine zi_iload5 (n := 222) dX7_hides_220 rfl ?_
        refine zi_ifeq (n := 225) (tgt := 230) dX7_hides_222 rfl (by decide) (fun h222 => ?_) (fun h222 => ?_)
        · have e9 : znM (Z 169) (zhT (Z 169) f n m s) (nI s) n = false := by
            rcases hq : znM (Z 169) (zhT (Z 169) f n m s) (nI s) n with _ | _
            · rfl
            · rw [hq] at h222; exact absurd h222 (by decide)
          rw [e9] at hr
          refine zi_iload3 (n := 231) dX7_hides_230 rfl ?_
          refine zi_istore3 (n := 232) dX7_hides_231 rfl (by decide) rfl ?_
          refine zi_iinc4 (n := 235) (nI (s + 1)) dX7_hides_232 rfl (by decide) rfl (zi1 _) ?_
          refine zi_goto (tgt := 46) dX7_hides_235 (by decide) ?_
          exact ih (s + 1) _ _ _ _ _ (by omega) hr
        · have e9 : znM (Z 169) (zhT (Z 169) f n m s) (nI s) n = true := by
            rcases hq : znM (Z 169) (zhT (Z 169) f n m s) (nI s) n with _ | _
            · rw [hq] at h222; exact absurd rfl h222
            · rfl
          rw [e9] at hr
          refine zi_iload4 (n := 227) dX7_hides_225 rfl ?_
          refine zi_goto (tgt := 231) dX7_hides_227 (by decide) ?_
          refine zi_istore3 (n := 232) dX7_hides_231 rfl (by decide) rfl ?_
          refine zi_iinc4 (n := 235) (nI (s + 1)) dX7_hides_232 rfl (by decide) rfl (zi1 _) ?_
          refine zi_goto (tgt := 46) dX7_hides_235 (by decide) ?_
          exact ih (s + 1) _ _ _ _ _ (by omega) hr
      · refine zi_iload4 (n := 67) dX7_hides_65 rfl ?_
        refine zi_S1s (mj := zm_X7_bits) (n := 70) dX7_hides_67 rfl zl_X7_205 zy_X7_bits (by decide) (Nat.le_of_ble_eq_true rfl) (c_X7_bits) ?_
        refine zi_iload3 (n := 71) dX7_hides_70 rfl ?_
        refine zi_S1s (mj := zm_X7_bits) (n := 74) dX7_hides_71 rfl zl_X7_205 zy_X7_bits (by decide) (Nat.le_of_ble_eq_true rfl) (c_X7_bits) ?_
        refine zi_icge (n := 77) (tgt := 232) dX7_hides_74 rfl (by decide) (fun h74 => ?_) (fun h74 => ?_)
        · rw [zhdM, if_neg (fun q => q.elim h62 (fun z => absurd z (Int32.not_lt.mpr h74)))] at hr
          refine zi_iinc4 (n := 235) (nI (s + 1)) dX7_hides_232 rfl (by decide) rfl (zi1 _) ?_
          refine zi_goto (tgt := 46) dX7_hides_235 (by decide) ?_
          exact ih (s + 1) _ _ _ _ _ (by omega) hr
        · have hcond : b = -1000000 ∨ zbiM (nI s) 6 < zbiM b 6 := Or.inr (Int32.not_le.mp h74)
          refine zi_aload0 (n := 78) dX7_hides_77 rfl ?_
          refine zi_V0v (mj := zm_X7_layThen) (n := 81) dX7_hides_78 rfl zl_X7_193 zy_X7_layThen (zrc_X7 _ _) (by decide) (Nat.le_of_ble_eq_true rfl) c_lay ?_
          refine zi_iconst (n := 82) (nI 0) dX7_hides_81 rfl (by decide) ?_
          refine zi_istore5 (n := 84) dX7_hides_82 rfl (by decide) rfl ?_
          rw [zhdM, if_pos hcond] at hr
          refine la_X7_hides hk (fun x5 x6 x7 => ?_) (n + 1) 0 _ _ (by omega) (by omega)
          refine zi_aload0 (n := 119) dX7_hides_118 rfl ?_
          refine zg_X7_7 (n := 122) dX7_hides_119 rfl zl_X7_25 ?_
          refine zi_iload1 (n := 123) dX7_hides_122 rfl ?_
          refine zi_S2v (mj := zm_X7_noonsOf) (n := 126) dX7_hides_123 rfl zl_X7_196 zy_X7_noonsOf (by decide) (Nat.le_of_ble_eq_true rfl) (c_X7_noonsOf (Or.inr rfl) (zhB_kd hk.lay n) (by omega)) ?_
          change zG _ _ _ _ _ _ _ _ (Q, va_up Z 171 (zhT (Z 169) f n m s))
          refine zi_iconst (n := 127) (nI 1) dX7_hides_126 rfl (by decide) ?_
          refine zi_istore5 (n := 129) dX7_hides_127 rfl (by decide) rfl ?_
          refine zi_iconst (n := 130) (nI 0) dX7_hides_129 rfl (by decide) ?_
          refine zi_istore6 (n := 132) dX7_hides_130 rfl (by decide) rfl ?_
          refine lb_X7_hides hk (fun x6 x7 => ?_) (n + 1) 0 true _ (by omega) (by omega) rfl
          refine zi_iload5 (n := 222) dX7_hides_220 rfl ?_
          refine zi_ifeq (n := 225) (tgt := 230) dX7_hides_222 rfl (by decide) (fun h222 => ?_) (fun h222 => ?_)
          · have e9 : znM (Z 169) (zhT (Z 169) f n m s) (nI s) n = false := by
              rcases hq : znM (Z 169) (zhT (Z 169) f n m s) (nI s) n with _ | _
              · rfl
              · rw [hq] at h222; exact absurd h222 (by decide)
            rw [e9] at hr
            refine zi_iload3 (n := 231) dX7_hides_230 rfl ?_
            refine zi_istore3 (n := 232) dX7_hides_231 rfl (by decide) rfl ?_
            refine zi_iinc4 (n := 235) (nI (s + 1)) dX7_hides_232 rfl (by decide) rfl (zi1 _) ?_
            refine zi_goto (tgt := 46) dX7_hides_235 (by decide) ?_
            exact ih (s + 1) _ _ _ _ _ (by omega) hr
          · have e9 : znM (Z 169) (zhT (Z 169) f n m s) (nI s) n = true := by
              rcases hq : znM (Z 169) (zhT (Z 169) f n m s) (nI s) n with _ | _
              · rw [hq] at h222; exact absurd rfl h222
              · rfl
            rw [e9] at hr
            refine zi_iload4 (n := 227) dX7_hides_225 rfl ?_
            refine zi_goto (tgt := 231) dX7_hides_227 (by decide) ?_
            refine zi_istore3 (n := 232) dX7_hides_231 rfl (by decide) rfl ?_
            refine zi_iinc4 (n := 235) (nI (s + 1)) dX7_hides_232 rfl (by decide) rfl (zi1 _) ?_
            refine zi_goto (tgt := 46) dX7_hides_235 (by decide) ?_
            exact ih (s + 1) _ _ _ _ _ (by omega) hr
set_option maxHeartbeats 4000000 in
set_option maxRecDepth 100000 in
theorem m_hides_1 (h0 : Z 165 0 = nI 0) (hk : zKd (Z 169) n) (hz : ¬ Z 169 0 ≤ 0) {m : Nat} (hm1 : 1 ≤ m) (hm2 : m ≤ 40) : zCT E 5 zm_X7_hides [.ref (zad E 165), .int (nI m), .int (nI 1)] (Q, Z) (some (.int (zhdM (Z 169) n m (2 ^ n) 0 (-1000000) (Z 171)).1)) (Q, va_up Z 171 (zhdM (Z 169) n m (2 ^ n) 0 (-1000000) (Z 171)).2) := by
  refine zCT.of (by decide +kernel) (Nat.le_of_ble_eq_true rfl) ?_
  have a2 := zrg hm1 hm2 (by decide)
  have a3 : nI 0 ≤ nI 1 ∧ nI 1 ≤ nI 1 := by decide
  refine zi_aload0 (n := 1) dX7_hides_0 rfl ?_
  refine zi_iconst (n := 2) (nI 0) dX7_hides_1 rfl (by decide) ?_
  refine zp_X7_0 (n := 5) dX7_hides_2 rfl zl_X7_44 (zt0 h0) ?_
  refine zi_aload0 (n := 6) dX7_hides_5 rfl ?_
  refine zi_V0s (mj := zm_X7_isThere) (n := 9) dX7_hides_6 rfl zl_X7_171 zy_X7_isThere (zrc_X7 _ _) (by decide) (Nat.le_of_ble_eq_true rfl) (c_X7_isThere) ?_
  refine zi_ifne_b (n := 12) (tgt := 15) dX7_hides_9 rfl (by decide) (fun h9 => ?_) (fun h9 => ?_)
  · refine zi_iload1 (n := 16) dX7_hides_15 rfl ?_
    refine zi_i2l (n := 17) dX7_hides_16 rfl ?_
    refine zi_lconst (n := 18) ((nI 1).toInt64) dX7_hides_17 rfl (by decide) ?_
    refine zi_ldc2 (n := 21) dX7_hides_18 rfl zl_X7_203 ?_
    rw [show (40 : Int64) = (nI 40).toInt64 by decide]
    refine zi_S3s (mj := zm_X7_in) (n := 24) dX7_hides_21 rfl zl_X7_54 zy_X7_in (by decide) (Nat.le_of_ble_eq_true rfl) (c_X7_in) ?_
    refine zi_ifeq_b (n := 27) (tgt := 37) dX7_hides_24 rfl (by decide) (fun h24 => ?_) (fun h24 => ?_)
    · first | exact absurd a2 h24 | exact absurd h24 a2
    · refine zi_iload2 (n := 28) dX7_hides_27 rfl ?_
      refine zi_i2l (n := 29) dX7_hides_28 rfl ?_
      refine zi_lconst (n := 30) ((nI 0).toInt64) dX7_hides_29 rfl (by decide) ?_
      refine zi_lconst (n := 31) ((nI 1).toInt64) dX7_hides_30 rfl (by decide) ?_
      refine zi_S3s (mj := zm_X7_in) (n := 34) dX7_hides_31 rfl zl_X7_54 zy_X7_in (by decide) (Nat.le_of_ble_eq_true rfl) (c_X7_in) ?_
      refine zi_ifne_b (n := 37) (tgt := 40) dX7_hides_34 rfl (by decide) (fun h34 => ?_) (fun h34 => ?_)
      · refine zi_ldc (n := 42) dX7_hides_40 rfl zl_X7_87 ?_
        refine zi_istore3 (n := 43) dX7_hides_42 rfl (by decide) rfl ?_
        refine zi_iconst (n := 44) (nI 0) dX7_hides_43 rfl (by decide) ?_
        refine zi_istore4 (n := 46) dX7_hides_44 rfl (by decide) rfl ?_
        refine zG_eqM (M2 := (Q, va_up Z 171 (Z 171))) (by rw [zup_same]) ?_
        exact l1_X7_hides hk (by omega) (2 ^ n) 0 _ (Z 171) none none none (by omega) rfl
      · first | exact absurd a3 h34 | exact absurd h34 a3
  · first | exact absurd hz h9 | exact absurd h9 hz
def zsmM (g : zF) (s : Int32) : Nat → Int32
  | 0 => nI 0
  | i + 1 => zsmM g s i + (if zhas7 s i then g (6 + 5 * i + 3) else nI 0)
def zokM (g : zF) (n : Nat) (v : Int32) (i : Nat) : Bool := decide (nI i &&& zbM (fun p => decide (g (6 + 5 * p + 3) = 0)) n = 0) && decide (zsmM g (nI i) n = v)
def zseM (g : zF) (n : Nat) (v : Int32) : Nat → Int32 × Int32 × Int32
  | 0 => (nI 0, nI 0, nI 0)
  | i + 1 => if zokM g n v i then ((zseM g n v i).1 + Int32.ofInt 1, (if (zseM g n v i).1 = 0 then nI i else (zseM g n v i).2.1 &&& nI i), (zseM g n v i).2.2 ||| nI i) else zseM g n v i
set_option maxHeartbeats 4000000 in
set_option maxRecDepth 100000 in
theorem m_sets_state (h0 : Z 165 0 = nI 0) {x y : Int32} (hz : Z 169 0 ≤ 0) : zCT E 2 zm_X7_sets [.ref (zad E 165), .int x, .int y] (Q, Z) (some (.int zSTATE)) (Q, Z) := by
  refine zCT.of (by decide +kernel) (Nat.le_of_ble_eq_true rfl) ?_
  refine zi_aload0 (n := 1) dX7_sets_0 rfl ?_
  refine zi_iconst (n := 2) (nI 0) dX7_sets_1 rfl (by decide) ?_
  refine zp_X7_0 (n := 5) dX7_sets_2 rfl zl_X7_44 (zt0 h0) ?_
  refine zi_aload0 (n := 6) dX7_sets_5 rfl ?_
  refine zi_V0s (mj := zm_X7_isThere) (n := 9) dX7_sets_6 rfl zl_X7_171 zy_X7_isThere (zrc_X7 _ _) (by decide) (Nat.le_of_ble_eq_true rfl) (c_X7_isThere) ?_
  refine zi_ifne_b (n := 12) (tgt := 15) dX7_sets_9 rfl (by decide) (fun h9 => ?_) (fun h9 => ?_)
  · first | exact absurd (fun q => q hz : ¬ ¬ Z 169 0 ≤ 0) h9 | exact absurd h9 (fun q => q hz : ¬ ¬ Z 169 0 ≤ 0)
  · refine zi_ldc (n := 14) dX7_sets_12 rfl zl_X7_174 ?_
    exact zi_iret dX7_sets_14 rfl (by rfl) (by rfl)
set_option maxHeartbeats 4000000 in
set_option maxRecDepth 100000 in
theorem m_sets_bad (h0 : Z 165 0 = nI 0) {x y : Int32} (hz : ¬ Z 169 0 ≤ 0) (hb : ¬ ((nI 0 ≤ x ∧ x ≤ nI 54) ∧ (nI 0 ≤ y ∧ y ≤ nI 2))) : zCT E 2 zm_X7_sets [.ref (zad E 165), .int x, .int y] (Q, Z) (some (.int zBAD)) (Q, Z) := by
  refine zCT.of (by decide +kernel) (Nat.le_of_ble_eq_true rfl) ?_
  refine zi_aload0 (n := 1) dX7_sets_0 rfl ?_
  refine zi_iconst (n := 2) (nI 0) dX7_sets_1 rfl (by decide) ?_
  refine zp_X7_0 (n := 5) dX7_sets_2 rfl zl_X7_44 (zt0 h0) ?_
  refine zi_aload0 (n := 6) dX7_sets_5 rfl ?_
  refine zi_V0s (mj := zm_X7_isThere) (n := 9) dX7_sets_6 rfl zl_X7_171 zy_X7_isThere (zrc_X7 _ _) (by decide) (Nat.le_of_ble_eq_true rfl) (c_X7_isThere) ?_
  refine zi_ifne_b (n := 12) (tgt := 15) dX7_sets_9 rfl (by decide) (fun h9 => ?_) (fun h9 => ?_)
  · refine zi_iload1 (n := 16) dX7_sets_15 rfl ?_
    refine zi_i2l (n := 17) dX7_sets_16 rfl ?_
    refine zi_lconst (n := 18) ((nI 0).toInt64) dX7_sets_17 rfl (by decide) ?_
    refine zi_ldc2 (n := 21) dX7_sets_18 rfl zl_X7_212 ?_
    rw [show (54 : Int64) = (nI 54).toInt64 by decide]
    refine zi_S3s (mj := zm_X7_in) (n := 24) dX7_sets_21 rfl zl_X7_54 zy_X7_in (by decide) (Nat.le_of_ble_eq_true rfl) (c_X7_in) ?_
    refine zi_ifeq_b (n := 27) (tgt := 39) dX7_sets_24 rfl (by decide) (fun h24 => ?_) (fun h24 => ?_)
    · refine zi_ldc (n := 41) dX7_sets_39 rfl zl_X7_64 ?_
      exact zi_iret dX7_sets_41 rfl (by rfl) (by rfl)
    · refine zi_iload2 (n := 28) dX7_sets_27 rfl ?_
      refine zi_i2l (n := 29) dX7_sets_28 rfl ?_
      refine zi_lconst (n := 30) ((nI 0).toInt64) dX7_sets_29 rfl (by decide) ?_
      refine zi_ldc2 (n := 33) dX7_sets_30 rfl zl_X7_62 ?_
      rw [show (2 : Int64) = (nI 2).toInt64 by decide]
      refine zi_S3s (mj := zm_X7_in) (n := 36) dX7_sets_33 rfl zl_X7_54 zy_X7_in (by decide) (Nat.le_of_ble_eq_true rfl) (c_X7_in) ?_
      refine zi_ifne_b (n := 39) (tgt := 42) dX7_sets_36 rfl (by decide) (fun h36 => ?_) (fun h36 => ?_)
      · exact absurd ⟨h24, h36⟩ hb
      · refine zi_ldc (n := 41) dX7_sets_39 rfl zl_X7_64 ?_
        exact zi_iret dX7_sets_41 rfl (by rfl) (by rfl)
  · first | exact absurd hz h9 | exact absurd h9 hz
set_option maxHeartbeats 4000000 in
set_option maxRecDepth 100000 in
theorem li_X7_sets (hk : zKd (Z 169) n) {rv : Option Value} {v c a y : Int32} {w s : Nat} (fin : ∀ (x8 : Option Value), zG E zm_X7_sets 2 rv M1 118 [some (.ref (zad E 165)), some (.int v), some (.int (nI w)), some (.int c), some (.int a), some (.int y), some (.int (nI s)), some (.int (zsmM (Z 169) (nI s) n)), x8] [] (Q, Z)) : ∀ k p, n - p < k → p ≤ n → zG E zm_X7_sets 2 rv M1 72 [some (.ref (zad E 165)), some (.int v), some (.int (nI w)), some (.int c), some (.int a), some (.int y), some (.int (nI s)), some (.int (zsmM (Z 169) (nI s) p)), some (.int (nI p))] [] (Q, Z) := by
  have hn := hk.1
  have h6 := hk.2.1
  intro k
  induction k with
  | zero => intro p h; omega
  | succ k ih =>
    intro p h1 h2
    refine zi_iload8 (n := 74) dX7_sets_72 rfl ?_
    refine zi_aload0 (n := 75) dX7_sets_74 rfl ?_
    refine zg_X7_5 (n := 78) dX7_sets_75 rfl zl_X7_19 ?_
    refine zi_iconst (n := 79) (nI 0) dX7_sets_78 rfl (by decide) ?_
    refine zi_oald (N := 36) (i := 0) (n := 80) dX7_sets_79 rfl (by decide) (fun _ => rfl) (by decide) rfl (by decide) hn ?_
    refine zi_icge (n := 83) (tgt := 118) dX7_sets_80 rfl (by decide) (fun h80 => ?_) (fun h80 => ?_)
    · have e : p = n := by have := (nI_leI (by omega) (by omega)).mp h80; omega
      subst e
      exact fin _
    · have e : p < n := by have := mt (nI_leI (by omega) (by omega)).mpr h80; omega
      refine zi_iload7 (n := 85) dX7_sets_83 rfl ?_
      refine zi_iload6 (n := 87) dX7_sets_85 rfl ?_
      refine zi_iload8 (n := 89) dX7_sets_87 rfl ?_
      refine zi_S2s (mj := zm_X7_has) (n := 92) dX7_sets_89 rfl zl_X7_208 zy_X7_has (by decide) (Nat.le_of_ble_eq_true rfl) (c_X7_has) ?_
      refine zi_ifeq_b (n := 95) (tgt := 108) dX7_sets_92 rfl (by decide) (fun h92 => ?_) (fun h92 => ?_)
      · refine zi_iconst (n := 109) (nI 0) dX7_sets_108 rfl (by decide) ?_
        refine zi_iadd (n := 110) dX7_sets_109 rfl ?_
        refine zi_istore7 (n := 112) dX7_sets_110 rfl (by decide) rfl ?_
        refine zi_iinc8 (n := 115) (nI (p + 1)) dX7_sets_112 rfl (by decide) rfl (zi1 _) ?_
        refine zi_goto (tgt := 72) dX7_sets_115 (by decide) ?_
        have g := ih (p + 1) (by omega) (by omega)
        simp only [zsmM, zhas7, h92, decide_true, decide_false, if_true, if_false, Bool.false_eq_true] at g
        exact g
      · refine zi_aload0 (n := 96) dX7_sets_95 rfl ?_
        refine zg_X7_5 (n := 99) dX7_sets_96 rfl zl_X7_19 ?_
        refine zi_iload8 (n := 101) dX7_sets_99 rfl ?_
        refine zi_iconst (n := 102) (nI 3) dX7_sets_101 rfl (by decide) ?_
        refine zi_S3s (mj := zm_X7_of) (n := 105) dX7_sets_102 rfl zl_X7_146 zy_X7_of (by decide) (Nat.le_of_ble_eq_true rfl) (c_of9 (by omega) (by decide) rfl) ?_
        refine zi_goto (tgt := 109) dX7_sets_105 (by decide) ?_
        refine zi_iadd (n := 110) dX7_sets_109 rfl ?_
        refine zi_istore7 (n := 112) dX7_sets_110 rfl (by decide) rfl ?_
        refine zi_iinc8 (n := 115) (nI (p + 1)) dX7_sets_112 rfl (by decide) rfl (zi1 _) ?_
        refine zi_goto (tgt := 72) dX7_sets_115 (by decide) ?_
        have g := ih (p + 1) (by omega) (by omega)
        simp only [zsmM, zhas7, h92, decide_true, decide_false, if_true, if_false, Bool.false_eq_true] at g
        exact g
set_option maxHeartbeats 4000000 in
set_option maxRecDepth 100000 in
theorem l0_X7_sets (hk : zKd (Z 169) n) {v : Int32} : ∀ k s (c a y : Int32) (x7 x8 : Option Value), 2 ^ n - s < k → s ≤ 2 ^ n → zseM (Z 169) n v s = (c, a, y) → zG E zm_X7_sets 2 (some (.int (zseM (Z 169) n v (2 ^ n)).1)) (Q, Z) 53 [some (.ref (zad E 165)), some (.int v), some (.int (nI 0)), some (.int c), some (.int a), some (.int y), some (.int (nI s)), x7, x8] [] (Q, Z) := by
  have hn := hk.1
  have h6 := hk.2.1
  have hp2 := p2n h6
  intro k
  induction k with
  | zero => intro s c a y x7 x8 h; omega
  | succ k ih =>
    intro s c a y x7 x8 h1 h2 hr
    refine zi_iload6 (n := 55) dX7_sets_53 rfl ?_
    refine zi_iconst (n := 56) (nI 1) dX7_sets_55 rfl (by decide) ?_
    refine zi_aload0 (n := 57) dX7_sets_56 rfl ?_
    refine zg_X7_5 (n := 60) dX7_sets_57 rfl zl_X7_19 ?_
    refine zi_iconst (n := 61) (nI 0) dX7_sets_60 rfl (by decide) ?_
    refine zi_oald (N := 36) (i := 0) (n := 62) dX7_sets_61 rfl (by decide) (fun _ => rfl) (by decide) rfl (by decide) hn ?_
    refine zi_ishl (n := 63) dX7_sets_62 rfl ?_
    rw [z1n h6]
    refine zi_icge (n := 66) (tgt := 169) dX7_sets_63 rfl (by decide) (fun h63 => ?_) (fun h63 => ?_)
    · have e : s = 2 ^ n := by have := (nI_leI (by omega) (by omega)).mp h63; omega
      subst e
      refine zi_iload2 (n := 170) dX7_sets_169 rfl ?_
      refine zi_ifne (n := 173) (tgt := 177) dX7_sets_170 rfl (by decide) (fun h170 => ?_) (fun h170 => ?_)
      · first | exact absurd h170 (by decide) | exact absurd rfl h170
      · refine zi_iload3 (n := 174) dX7_sets_173 rfl ?_
        refine zi_goto (tgt := 189) dX7_sets_174 (by decide) ?_
        exact zi_iret dX7_sets_189 rfl (by rw [hr]) (by rfl)
    · have e : s < 2 ^ n := by have := mt (nI_leI (by omega) (by omega)).mpr h63; omega
      refine zi_iconst (n := 67) (nI 0) dX7_sets_66 rfl (by decide) ?_
      refine zi_istore7 (n := 69) dX7_sets_67 rfl (by decide) rfl ?_
      refine zi_iconst (n := 70) (nI 0) dX7_sets_69 rfl (by decide) ?_
      refine zi_istore8 (n := 72) dX7_sets_70 rfl (by decide) rfl ?_
      refine li_X7_sets hk (fun x8 => ?_) (n + 1) 0 (by omega) (by omega)
      refine zi_iload6 (n := 120) dX7_sets_118 rfl ?_
      refine zi_aload0 (n := 121) dX7_sets_120 rfl ?_
      refine zg_X7_5 (n := 124) dX7_sets_121 rfl zl_X7_19 ?_
      refine zi_S1s (mj := zm_X7_nameless) (n := 127) dX7_sets_124 rfl zl_X7_185 zy_X7_nameless (by decide) (Nat.le_of_ble_eq_true rfl) (zrq (a := 169) (c_X7_nameless (Or.inl rfl) hn h6)) ?_
      refine zi_iand (n := 128) dX7_sets_127 rfl ?_
      refine zi_ifne (n := 131) (tgt := 163) dX7_sets_128 rfl (by decide) (fun h128 => ?_) (fun h128 => ?_)
      · have e1 : zokM (Z 169) n v s = false := by simp [zokM, h128]
        refine zi_iinc6 (n := 166) (nI (s + 1)) dX7_sets_163 rfl (by decide) rfl (zi1 _) ?_
        refine zi_goto (tgt := 53) dX7_sets_166 (by decide) ?_
        exact ih (s + 1) _ _ _ _ _ (by omega) (by omega) (by rw [zseM, e1, hr]; simp [h128])
      · refine zi_iload7 (n := 133) dX7_sets_131 rfl ?_
        refine zi_iload1 (n := 134) dX7_sets_133 rfl ?_
        refine zi_icne (n := 137) (tgt := 163) dX7_sets_134 rfl (by decide) (fun h134 => ?_) (fun h134 => ?_)
        · have e1 : zokM (Z 169) n v s = false := by simp [zokM, h134]
          refine zi_iinc6 (n := 166) (nI (s + 1)) dX7_sets_163 rfl (by decide) rfl (zi1 _) ?_
          refine zi_goto (tgt := 53) dX7_sets_166 (by decide) ?_
          exact ih (s + 1) _ _ _ _ _ (by omega) (by omega) (by rw [zseM, e1, hr]; simp [h128, h134])
        · have e1 : zokM (Z 169) n v s = true := by simp [zokM, h128, h134]
          refine zi_iload3 (n := 138) dX7_sets_137 rfl ?_
          refine zi_ifne (n := 141) (tgt := 146) dX7_sets_138 rfl (by decide) (fun h138 => ?_) (fun h138 => ?_)
          · refine zi_iload4 (n := 148) dX7_sets_146 rfl ?_
            refine zi_iload6 (n := 150) dX7_sets_148 rfl ?_
            refine zi_iand (n := 151) dX7_sets_150 rfl ?_
            refine zi_istore4 (n := 153) dX7_sets_151 rfl (by decide) rfl ?_
            refine zi_iload5 (n := 155) dX7_sets_153 rfl ?_
            refine zi_iload6 (n := 157) dX7_sets_155 rfl ?_
            refine zi_ior (n := 158) dX7_sets_157 rfl ?_
            refine zi_istore5 (n := 160) dX7_sets_158 rfl (by decide) rfl ?_
            refine zi_iinc3 (n := 163) _ dX7_sets_160 rfl (by decide) rfl rfl ?_
            refine zi_iinc6 (n := 166) (nI (s + 1)) dX7_sets_163 rfl (by decide) rfl (zi1 _) ?_
            refine zi_goto (tgt := 53) dX7_sets_166 (by decide) ?_
            exact ih (s + 1) _ _ _ _ _ (by omega) (by omega) (by rw [zseM, e1, hr]; simp [h128, h134, h138])
          · refine zi_iload6 (n := 143) dX7_sets_141 rfl ?_
            refine zi_goto (tgt := 151) dX7_sets_143 (by decide) ?_
            refine zi_istore4 (n := 153) dX7_sets_151 rfl (by decide) rfl ?_
            refine zi_iload5 (n := 155) dX7_sets_153 rfl ?_
            refine zi_iload6 (n := 157) dX7_sets_155 rfl ?_
            refine zi_ior (n := 158) dX7_sets_157 rfl ?_
            refine zi_istore5 (n := 160) dX7_sets_158 rfl (by decide) rfl ?_
            refine zi_iinc3 (n := 163) _ dX7_sets_160 rfl (by decide) rfl rfl ?_
            refine zi_iinc6 (n := 166) (nI (s + 1)) dX7_sets_163 rfl (by decide) rfl (zi1 _) ?_
            refine zi_goto (tgt := 53) dX7_sets_166 (by decide) ?_
            exact ih (s + 1) _ _ _ _ _ (by omega) (by omega) (by rw [zseM, e1, hr]; simp [h128, h134, h138])
set_option maxHeartbeats 4000000 in
set_option maxRecDepth 100000 in
theorem m_sets_0 (h0 : Z 165 0 = nI 0) (hk : zKd (Z 169) n) (hz : ¬ Z 169 0 ≤ 0) {v : Int32} (hv : (nI 0 ≤ v ∧ v ≤ nI 54)) : zCT E 2 zm_X7_sets [.ref (zad E 165), .int v, .int (nI 0)] (Q, Z) (some (.int (zseM (Z 169) n v (2 ^ n)).1)) (Q, Z) := by
  refine zCT.of (by decide +kernel) (Nat.le_of_ble_eq_true rfl) ?_
  have a3 : nI 0 ≤ nI 0 ∧ nI 0 ≤ nI 2 := by decide
  refine zi_aload0 (n := 1) dX7_sets_0 rfl ?_
  refine zi_iconst (n := 2) (nI 0) dX7_sets_1 rfl (by decide) ?_
  refine zp_X7_0 (n := 5) dX7_sets_2 rfl zl_X7_44 (zt0 h0) ?_
  refine zi_aload0 (n := 6) dX7_sets_5 rfl ?_
  refine zi_V0s (mj := zm_X7_isThere) (n := 9) dX7_sets_6 rfl zl_X7_171 zy_X7_isThere (zrc_X7 _ _) (by decide) (Nat.le_of_ble_eq_true rfl) (c_X7_isThere) ?_
  refine zi_ifne_b (n := 12) (tgt := 15) dX7_sets_9 rfl (by decide) (fun h9 => ?_) (fun h9 => ?_)
  · refine zi_iload1 (n := 16) dX7_sets_15 rfl ?_
    refine zi_i2l (n := 17) dX7_sets_16 rfl ?_
    refine zi_lconst (n := 18) ((nI 0).toInt64) dX7_sets_17 rfl (by decide) ?_
    refine zi_ldc2 (n := 21) dX7_sets_18 rfl zl_X7_212 ?_
    rw [show (54 : Int64) = (nI 54).toInt64 by decide]
    refine zi_S3s (mj := zm_X7_in) (n := 24) dX7_sets_21 rfl zl_X7_54 zy_X7_in (by decide) (Nat.le_of_ble_eq_true rfl) (c_X7_in) ?_
    refine zi_ifeq_b (n := 27) (tgt := 39) dX7_sets_24 rfl (by decide) (fun h24 => ?_) (fun h24 => ?_)
    · first | exact absurd hv h24 | exact absurd h24 hv
    · refine zi_iload2 (n := 28) dX7_sets_27 rfl ?_
      refine zi_i2l (n := 29) dX7_sets_28 rfl ?_
      refine zi_lconst (n := 30) ((nI 0).toInt64) dX7_sets_29 rfl (by decide) ?_
      refine zi_ldc2 (n := 33) dX7_sets_30 rfl zl_X7_62 ?_
      rw [show (2 : Int64) = (nI 2).toInt64 by decide]
      refine zi_S3s (mj := zm_X7_in) (n := 36) dX7_sets_33 rfl zl_X7_54 zy_X7_in (by decide) (Nat.le_of_ble_eq_true rfl) (c_X7_in) ?_
      refine zi_ifne_b (n := 39) (tgt := 42) dX7_sets_36 rfl (by decide) (fun h36 => ?_) (fun h36 => ?_)
      · refine zi_iconst (n := 43) (nI 0) dX7_sets_42 rfl (by decide) ?_
        refine zi_istore3 (n := 44) dX7_sets_43 rfl (by decide) rfl ?_
        refine zi_iconst (n := 45) (nI 0) dX7_sets_44 rfl (by decide) ?_
        refine zi_istore4 (n := 47) dX7_sets_45 rfl (by decide) rfl ?_
        refine zi_iconst (n := 48) (nI 0) dX7_sets_47 rfl (by decide) ?_
        refine zi_istore5 (n := 50) dX7_sets_48 rfl (by decide) rfl ?_
        refine zi_iconst (n := 51) (nI 0) dX7_sets_50 rfl (by decide) ?_
        refine zi_istore6 (n := 53) dX7_sets_51 rfl (by decide) rfl ?_
        exact l0_X7_sets hk (2 ^ n + 1) 0 _ _ _ none none (Nat.lt_succ_of_le (Nat.sub_le _ _)) (Nat.zero_le _) rfl
      · first | exact absurd a3 h36 | exact absurd h36 a3
  · first | exact absurd hz h9 | exact absurd h9 hz
set_option maxHeartbeats 4000000 in
set_option maxRecDepth 100000 in
theorem l1_X7_sets (hk : zKd (Z 169) n) {v : Int32} : ∀ k s (c a y : Int32) (x7 x8 : Option Value), 2 ^ n - s < k → s ≤ 2 ^ n → zseM (Z 169) n v s = (c, a, y) → zG E zm_X7_sets 2 (some (.int (zseM (Z 169) n v (2 ^ n)).2.1)) (Q, Z) 53 [some (.ref (zad E 165)), some (.int v), some (.int (nI 1)), some (.int c), some (.int a), some (.int y), some (.int (nI s)), x7, x8] [] (Q, Z) := by
  have hn := hk.1
  have h6 := hk.2.1
  have hp2 := p2n h6
  intro k
  induction k with
  | zero => intro s c a y x7 x8 h; omega
  | succ k ih =>
    intro s c a y x7 x8 h1 h2 hr
    refine zi_iload6 (n := 55) dX7_sets_53 rfl ?_
    refine zi_iconst (n := 56) (nI 1) dX7_sets_55 rfl (by decide) ?_
    refine zi_aload0 (n := 57) dX7_sets_56 rfl ?_
    refine zg_X7_5 (n := 60) dX7_sets_57 rfl zl_X7_19 ?_
    refine zi_iconst (n := 61) (nI 0) dX7_sets_60 rfl (by decide) ?_
    refine zi_oald (N := 36) (i := 0) (n := 62) dX7_sets_61 rfl (by decide) (fun _ => rfl) (by decide) rfl (by decide) hn ?_
    refine zi_ishl (n := 63) dX7_sets_62 rfl ?_
    rw [z1n h6]
    refine zi_icge (n := 66) (tgt := 169) dX7_sets_63 rfl (by decide) (fun h63 => ?_) (fun h63 => ?_)
    · have e : s = 2 ^ n := by have := (nI_leI (by omega) (by omega)).mp h63; omega
      subst e
      refine zi_iload2 (n := 170) dX7_sets_169 rfl ?_
      refine zi_ifne (n := 173) (tgt := 177) dX7_sets_170 rfl (by decide) (fun h170 => ?_) (fun h170 => ?_)
      · refine zi_iload2 (n := 178) dX7_sets_177 rfl ?_
        refine zi_iconst (n := 179) (nI 1) dX7_sets_178 rfl (by decide) ?_
        refine zi_icne (n := 182) (tgt := 187) dX7_sets_179 rfl (by decide) (fun h179 => ?_) (fun h179 => ?_)
        · first | exact absurd h179 (by decide) | exact absurd rfl h179
        · refine zi_iload4 (n := 184) dX7_sets_182 rfl ?_
          refine zi_goto (tgt := 189) dX7_sets_184 (by decide) ?_
          exact zi_iret dX7_sets_189 rfl (by rw [hr]) (by rfl)
      · first | exact absurd h170 (by decide) | exact absurd rfl h170
    · have e : s < 2 ^ n := by have := mt (nI_leI (by omega) (by omega)).mpr h63; omega
      refine zi_iconst (n := 67) (nI 0) dX7_sets_66 rfl (by decide) ?_
      refine zi_istore7 (n := 69) dX7_sets_67 rfl (by decide) rfl ?_
      refine zi_iconst (n := 70) (nI 0) dX7_sets_69 rfl (by decide) ?_
      refine zi_istore8 (n := 72) dX7_sets_70 rfl (by decide) rfl ?_
      refine li_X7_sets hk (fun x8 => ?_) (n + 1) 0 (by omega) (by omega)
      refine zi_iload6 (n := 120) dX7_sets_118 rfl ?_
      refine zi_aload0 (n := 121) dX7_sets_120 rfl ?_
      refine zg_X7_5 (n := 124) dX7_sets_121 rfl zl_X7_19 ?_
      refine zi_S1s (mj := zm_X7_nameless) (n := 127) dX7_sets_124 rfl zl_X7_185 zy_X7_nameless (by decide) (Nat.le_of_ble_eq_true rfl) (zrq (a := 169) (c_X7_nameless (Or.inl rfl) hn h6)) ?_
      refine zi_iand (n := 128) dX7_sets_127 rfl ?_
      refine zi_ifne (n := 131) (tgt := 163) dX7_sets_128 rfl (by decide) (fun h128 => ?_) (fun h128 => ?_)
      · have e1 : zokM (Z 169) n v s = false := by simp [zokM, h128]
        refine zi_iinc6 (n := 166) (nI (s + 1)) dX7_sets_163 rfl (by decide) rfl (zi1 _) ?_
        refine zi_goto (tgt := 53) dX7_sets_166 (by decide) ?_
        exact ih (s + 1) _ _ _ _ _ (by omega) (by omega) (by rw [zseM, e1, hr]; simp [h128])
      · refine zi_iload7 (n := 133) dX7_sets_131 rfl ?_
        refine zi_iload1 (n := 134) dX7_sets_133 rfl ?_
        refine zi_icne (n := 137) (tgt := 163) dX7_sets_134 rfl (by decide) (fun h134 => ?_) (fun h134 => ?_)
        · have e1 : zokM (Z 169) n v s = false := by simp [zokM, h134]
          refine zi_iinc6 (n := 166) (nI (s + 1)) dX7_sets_163 rfl (by decide) rfl (zi1 _) ?_
          refine zi_goto (tgt := 53) dX7_sets_166 (by decide) ?_
          exact ih (s + 1) _ _ _ _ _ (by omega) (by omega) (by rw [zseM, e1, hr]; simp [h128, h134])
        · have e1 : zokM (Z 169) n v s = true := by simp [zokM, h128, h134]
          refine zi_iload3 (n := 138) dX7_sets_137 rfl ?_
          refine zi_ifne (n := 141) (tgt := 146) dX7_sets_138 rfl (by decide) (fun h138 => ?_) (fun h138 => ?_)
          · refine zi_iload4 (n := 148) dX7_sets_146 rfl ?_
            refine zi_iload6 (n := 150) dX7_sets_148 rfl ?_
            refine zi_iand (n := 151) dX7_sets_150 rfl ?_
            refine zi_istore4 (n := 153) dX7_sets_151 rfl (by decide) rfl ?_
            refine zi_iload5 (n := 155) dX7_sets_153 rfl ?_
            refine zi_iload6 (n := 157) dX7_sets_155 rfl ?_
            refine zi_ior (n := 158) dX7_sets_157 rfl ?_
            refine zi_istore5 (n := 160) dX7_sets_158 rfl (by decide) rfl ?_
            refine zi_iinc3 (n := 163) _ dX7_sets_160 rfl (by decide) rfl rfl ?_
            refine zi_iinc6 (n := 166) (nI (s + 1)) dX7_sets_163 rfl (by decide) rfl (zi1 _) ?_
            refine zi_goto (tgt := 53) dX7_sets_166 (by decide) ?_
            exact ih (s + 1) _ _ _ _ _ (by omega) (by omega) (by rw [zseM, e1, hr]; simp [h128, h134, h138])
          · refine zi_iload6 (n := 143) dX7_sets_141 rfl ?_
            refine zi_goto (tgt := 151) dX7_sets_143 (by decide) ?_
            refine zi_istore4 (n := 153) dX7_sets_151 rfl (by decide) rfl ?_
            refine zi_iload5 (n := 155) dX7_sets_153 rfl ?_
            refine zi_iload6 (n := 157) dX7_sets_155 rfl ?_
            refine zi_ior (n := 158) dX7_sets_157 rfl ?_
            refine zi_istore5 (n := 160) dX7_sets_158 rfl (by decide) rfl ?_
            refine zi_iinc3 (n := 163) _ dX7_sets_160 rfl (by decide) rfl rfl ?_
            refine zi_iinc6 (n := 166) (nI (s + 1)) dX7_sets_163 rfl (by decide) rfl (zi1 _) ?_
            refine zi_goto (tgt := 53) dX7_sets_166 (by decide) ?_
            exact ih (s + 1) _ _ _ _ _ (by omega) (by omega) (by rw [zseM, e1, hr]; simp [h128, h134, h138])
set_option maxHeartbeats 4000000 in
set_option maxRecDepth 100000 in
theorem m_sets_1 (h0 : Z 165 0 = nI 0) (hk : zKd (Z 169) n) (hz : ¬ Z 169 0 ≤ 0) {v : Int32} (hv : (nI 0 ≤ v ∧ v ≤ nI 54)) : zCT E 2 zm_X7_sets [.ref (zad E 165), .int v, .int (nI 1)] (Q, Z) (some (.int (zseM (Z 169) n v (2 ^ n)).2.1)) (Q, Z) := by
  refine zCT.of (by decide +kernel) (Nat.le_of_ble_eq_true rfl) ?_
  have a3 : nI 0 ≤ nI 1 ∧ nI 1 ≤ nI 2 := by decide
  refine zi_aload0 (n := 1) dX7_sets_0 rfl ?_
  refine zi_iconst (n := 2) (nI 0) dX7_sets_1 rfl (by decide) ?_
  refine zp_X7_0 (n := 5) dX7_sets_2 rfl zl_X7_44 (zt0 h0) ?_
  refine zi_aload0 (n := 6) dX7_sets_5 rfl ?_
  refine zi_V0s (mj := zm_X7_isThere) (n := 9) dX7_sets_6 rfl zl_X7_171 zy_X7_isThere (zrc_X7 _ _) (by decide) (Nat.le_of_ble_eq_true rfl) (c_X7_isThere) ?_
  refine zi_ifne_b (n := 12) (tgt := 15) dX7_sets_9 rfl (by decide) (fun h9 => ?_) (fun h9 => ?_)
  · refine zi_iload1 (n := 16) dX7_sets_15 rfl ?_
    refine zi_i2l (n := 17) dX7_sets_16 rfl ?_
    refine zi_lconst (n := 18) ((nI 0).toInt64) dX7_sets_17 rfl (by decide) ?_
    refine zi_ldc2 (n := 21) dX7_sets_18 rfl zl_X7_212 ?_
    rw [show (54 : Int64) = (nI 54).toInt64 by decide]
    refine zi_S3s (mj := zm_X7_in) (n := 24) dX7_sets_21 rfl zl_X7_54 zy_X7_in (by decide) (Nat.le_of_ble_eq_true rfl) (c_X7_in) ?_
    refine zi_ifeq_b (n := 27) (tgt := 39) dX7_sets_24 rfl (by decide) (fun h24 => ?_) (fun h24 => ?_)
    · first | exact absurd hv h24 | exact absurd h24 hv
    · refine zi_iload2 (n := 28) dX7_sets_27 rfl ?_
      refine zi_i2l (n := 29) dX7_sets_28 rfl ?_
      refine zi_lconst (n := 30) ((nI 0).toInt64) dX7_sets_29 rfl (by decide) ?_
      refine zi_ldc2 (n := 33) dX7_sets_30 rfl zl_X7_62 ?_
      rw [show (2 : Int64) = (nI 2).toInt64 by decide]
      refine zi_S3s (mj := zm_X7_in) (n := 36) dX7_sets_33 rfl zl_X7_54 zy_X7_in (by decide) (Nat.le_of_ble_eq_true rfl) (c_X7_in) ?_
      refine zi_ifne_b (n := 39) (tgt := 42) dX7_sets_36 rfl (by decide) (fun h36 => ?_) (fun h36 => ?_)
      · refine zi_iconst (n := 43) (nI 0) dX7_sets_42 rfl (by decide) ?_
        refine zi_istore3 (n := 44) dX7_sets_43 rfl (by decide) rfl ?_
        refine zi_iconst (n := 45) (nI 0) dX7_sets_44 rfl (by decide) ?_
        refine zi_istore4 (n := 47) dX7_sets_45 rfl (by decide) rfl ?_
        refine zi_iconst (n := 48) (nI 0) dX7_sets_47 rfl (by decide) ?_
        refine zi_istore5 (n := 50) dX7_sets_48 rfl (by decide) rfl ?_
        refine zi_iconst (n := 51) (nI 0) dX7_sets_50 rfl (by decide) ?_
        refine zi_istore6 (n := 53) dX7_sets_51 rfl (by decide) rfl ?_
        exact l1_X7_sets hk (2 ^ n + 1) 0 _ _ _ none none (Nat.lt_succ_of_le (Nat.sub_le _ _)) (Nat.zero_le _) rfl
      · first | exact absurd a3 h36 | exact absurd h36 a3
  · first | exact absurd hz h9 | exact absurd h9 hz
set_option maxHeartbeats 4000000 in
set_option maxRecDepth 100000 in
theorem l2_X7_sets (hk : zKd (Z 169) n) {v : Int32} : ∀ k s (c a y : Int32) (x7 x8 : Option Value), 2 ^ n - s < k → s ≤ 2 ^ n → zseM (Z 169) n v s = (c, a, y) → zG E zm_X7_sets 2 (some (.int (zseM (Z 169) n v (2 ^ n)).2.2)) (Q, Z) 53 [some (.ref (zad E 165)), some (.int v), some (.int (nI 2)), some (.int c), some (.int a), some (.int y), some (.int (nI s)), x7, x8] [] (Q, Z) := by
  have hn := hk.1
  have h6 := hk.2.1
  have hp2 := p2n h6
  intro k
  induction k with
  | zero => intro s c a y x7 x8 h; omega
  | succ k ih =>
    intro s c a y x7 x8 h1 h2 hr
    refine zi_iload6 (n := 55) dX7_sets_53 rfl ?_
    refine zi_iconst (n := 56) (nI 1) dX7_sets_55 rfl (by decide) ?_
    refine zi_aload0 (n := 57) dX7_sets_56 rfl ?_
    refine zg_X7_5 (n := 60) dX7_sets_57 rfl zl_X7_19 ?_
    refine zi_iconst (n := 61) (nI 0) dX7_sets_60 rfl (by decide) ?_
    refine zi_oald (N := 36) (i := 0) (n := 62) dX7_sets_61 rfl (by decide) (fun _ => rfl) (by decide) rfl (by decide) hn ?_
    refine zi_ishl (n := 63) dX7_sets_62 rfl ?_
    rw [z1n h6]
    refine zi_icge (n := 66) (tgt := 169) dX7_sets_63 rfl (by decide) (fun h63 => ?_) (fun h63 => ?_)
    · have e : s = 2 ^ n := by have := (nI_leI (by omega) (by omega)).mp h63; omega
      subst e
      refine zi_iload2 (n := 170) dX7_sets_169 rfl ?_
      refine zi_ifne (n := 173) (tgt := 177) dX7_sets_170 rfl (by decide) (fun h170 => ?_) (fun h170 => ?_)
      · refine zi_iload2 (n := 178) dX7_sets_177 rfl ?_
        refine zi_iconst (n := 179) (nI 1) dX7_sets_178 rfl (by decide) ?_
        refine zi_icne (n := 182) (tgt := 187) dX7_sets_179 rfl (by decide) (fun h179 => ?_) (fun h179 => ?_)
        · refine zi_iload5 (n := 189) dX7_sets_187 rfl ?_
          exact zi_iret dX7_sets_189 rfl (by rw [hr]) (by rfl)
        · first | exact absurd h179 (by decide) | exact absurd rfl h179
      · first | exact absurd h170 (by decide) | exact absurd rfl h170
    · have e : s < 2 ^ n := by have := mt (nI_leI (by omega) (by omega)).mpr h63; omega
      refine zi_iconst (n := 67) (nI 0) dX7_sets_66 rfl (by decide) ?_
      refine zi_istore7 (n := 69) dX7_sets_67 rfl (by decide) rfl ?_
      refine zi_iconst (n := 70) (nI 0) dX7_sets_69 rfl (by decide) ?_
      refine zi_istore8 (n := 72) dX7_sets_70 rfl (by decide) rfl ?_
      refine li_X7_sets hk (fun x8 => ?_) (n + 1) 0 (by omega) (by omega)
      refine zi_iload6 (n := 120) dX7_sets_118 rfl ?_
      refine zi_aload0 (n := 121) dX7_sets_120 rfl ?_
      refine zg_X7_5 (n := 124) dX7_sets_121 rfl zl_X7_19 ?_
      refine zi_S1s (mj := zm_X7_nameless) (n := 127) dX7_sets_124 rfl zl_X7_185 zy_X7_nameless (by decide) (Nat.le_of_ble_eq_true rfl) (zrq (a := 169) (c_X7_nameless (Or.inl rfl) hn h6)) ?_
      refine zi_iand (n := 128) dX7_sets_127 rfl ?_
      refine zi_ifne (n := 131) (tgt := 163) dX7_sets_128 rfl (by decide) (fun h128 => ?_) (fun h128 => ?_)
      · have e1 : zokM (Z 169) n v s = false := by simp [zokM, h128]
        refine zi_iinc6 (n := 166) (nI (s + 1)) dX7_sets_163 rfl (by decide) rfl (zi1 _) ?_
        refine zi_goto (tgt := 53) dX7_sets_166 (by decide) ?_
        exact ih (s + 1) _ _ _ _ _ (by omega) (by omega) (by rw [zseM, e1, hr]; simp [h128])
      · refine zi_iload7 (n := 133) dX7_sets_131 rfl ?_
        refine zi_iload1 (n := 134) dX7_sets_133 rfl ?_
        refine zi_icne (n := 137) (tgt := 163) dX7_sets_134 rfl (by decide) (fun h134 => ?_) (fun h134 => ?_)
        · have e1 : zokM (Z 169) n v s = false := by simp [zokM, h134]
          refine zi_iinc6 (n := 166) (nI (s + 1)) dX7_sets_163 rfl (by decide) rfl (zi1 _) ?_
          refine zi_goto (tgt := 53) dX7_sets_166 (by decide) ?_
          exact ih (s + 1) _ _ _ _ _ (by omega) (by omega) (by rw [zseM, e1, hr]; simp [h128, h134])
        · have e1 : zokM (Z 169) n v s = true := by simp [zokM, h128, h134]
          refine zi_iload3 (n := 138) dX7_sets_137 rfl ?_
          refine zi_ifne (n := 141) (tgt := 146) dX7_sets_138 rfl (by decide) (fun h138 => ?_) (fun h138 => ?_)
          · refine zi_iload4 (n := 148) dX7_sets_146 rfl ?_
            refine zi_iload6 (n := 150) dX7_sets_148 rfl ?_
            refine zi_iand (n := 151) dX7_sets_150 rfl ?_
            refine zi_istore4 (n := 153) dX7_sets_151 rfl (by decide) rfl ?_
            refine zi_iload5 (n := 155) dX7_sets_153 rfl ?_
            refine zi_iload6 (n := 157) dX7_sets_155 rfl ?_
            refine zi_ior (n := 158) dX7_sets_157 rfl ?_
            refine zi_istore5 (n := 160) dX7_sets_158 rfl (by decide) rfl ?_
            refine zi_iinc3 (n := 163) _ dX7_sets_160 rfl (by decide) rfl rfl ?_
            refine zi_iinc6 (n := 166) (nI (s + 1)) dX7_sets_163 rfl (by decide) rfl (zi1 _) ?_
            refine zi_goto (tgt := 53) dX7_sets_166 (by decide) ?_
            exact ih (s + 1) _ _ _ _ _ (by omega) (by omega) (by rw [zseM, e1, hr]; simp [h128, h134, h138])
          · refine zi_iload6 (n := 143) dX7_sets_141 rfl ?_
            refine zi_goto (tgt := 151) dX7_sets_143 (by decide) ?_
            refine zi_istore4 (n := 153) dX7_sets_151 rfl (by decide) rfl ?_
            refine zi_iload5 (n := 155) dX7_sets_153 rfl ?_
            refine zi_iload6 (n := 157) dX7_sets_155 rfl ?_
            refine zi_ior (n := 158) dX7_sets_157 rfl ?_
            refine zi_istore5 (n := 160) dX7_sets_158 rfl (by decide) rfl ?_
            refine zi_iinc3 (n := 163) _ dX7_sets_160 rfl (by decide) rfl rfl ?_
            refine zi_iinc6 (n := 166) (nI (s + 1)) dX7_sets_163 rfl (by decide) rfl (zi1 _) ?_
            refine zi_goto (tgt := 53) dX7_sets_166 (by decide) ?_
            exact ih (s + 1) _ _ _ _ _ (by omega) (by omega) (by rw [zseM, e1, hr]; simp [h128, h134, h138])
set_option maxHeartbeats 4000000 in
set_option maxRecDepth 100000 in
theorem m_sets_2 (h0 : Z 165 0 = nI 0) (hk : zKd (Z 169) n) (hz : ¬ Z 169 0 ≤ 0) {v : Int32} (hv : (nI 0 ≤ v ∧ v ≤ nI 54)) : zCT E 2 zm_X7_sets [.ref (zad E 165), .int v, .int (nI 2)] (Q, Z) (some (.int (zseM (Z 169) n v (2 ^ n)).2.2)) (Q, Z) := by
  refine zCT.of (by decide +kernel) (Nat.le_of_ble_eq_true rfl) ?_
  have a3 : nI 0 ≤ nI 2 ∧ nI 2 ≤ nI 2 := by decide
  refine zi_aload0 (n := 1) dX7_sets_0 rfl ?_
  refine zi_iconst (n := 2) (nI 0) dX7_sets_1 rfl (by decide) ?_
  refine zp_X7_0 (n := 5) dX7_sets_2 rfl zl_X7_44 (zt0 h0) ?_
  refine zi_aload0 (n := 6) dX7_sets_5 rfl ?_
  refine zi_V0s (mj := zm_X7_isThere) (n := 9) dX7_sets_6 rfl zl_X7_171 zy_X7_isThere (zrc_X7 _ _) (by decide) (Nat.le_of_ble_eq_true rfl) (c_X7_isThere) ?_
  refine zi_ifne_b (n := 12) (tgt := 15) dX7_sets_9 rfl (by decide) (fun h9 => ?_) (fun h9 => ?_)
  · refine zi_iload1 (n := 16) dX7_sets_15 rfl ?_
    refine zi_i2l (n := 17) dX7_sets_16 rfl ?_
    refine zi_lconst (n := 18) ((nI 0).toInt64) dX7_sets_17 rfl (by decide) ?_
    refine zi_ldc2 (n := 21) dX7_sets_18 rfl zl_X7_212 ?_
    rw [show (54 : Int64) = (nI 54).toInt64 by decide]
    refine zi_S3s (mj := zm_X7_in) (n := 24) dX7_sets_21 rfl zl_X7_54 zy_X7_in (by decide) (Nat.le_of_ble_eq_true rfl) (c_X7_in) ?_
    refine zi_ifeq_b (n := 27) (tgt := 39) dX7_sets_24 rfl (by decide) (fun h24 => ?_) (fun h24 => ?_)
    · first | exact absurd hv h24 | exact absurd h24 hv
    · refine zi_iload2 (n := 28) dX7_sets_27 rfl ?_
      refine zi_i2l (n := 29) dX7_sets_28 rfl ?_
      refine zi_lconst (n := 30) ((nI 0).toInt64) dX7_sets_29 rfl (by decide) ?_
      refine zi_ldc2 (n := 33) dX7_sets_30 rfl zl_X7_62 ?_
      rw [show (2 : Int64) = (nI 2).toInt64 by decide]
      refine zi_S3s (mj := zm_X7_in) (n := 36) dX7_sets_33 rfl zl_X7_54 zy_X7_in (by decide) (Nat.le_of_ble_eq_true rfl) (c_X7_in) ?_
      refine zi_ifne_b (n := 39) (tgt := 42) dX7_sets_36 rfl (by decide) (fun h36 => ?_) (fun h36 => ?_)
      · refine zi_iconst (n := 43) (nI 0) dX7_sets_42 rfl (by decide) ?_
        refine zi_istore3 (n := 44) dX7_sets_43 rfl (by decide) rfl ?_
        refine zi_iconst (n := 45) (nI 0) dX7_sets_44 rfl (by decide) ?_
        refine zi_istore4 (n := 47) dX7_sets_45 rfl (by decide) rfl ?_
        refine zi_iconst (n := 48) (nI 0) dX7_sets_47 rfl (by decide) ?_
        refine zi_istore5 (n := 50) dX7_sets_48 rfl (by decide) rfl ?_
        refine zi_iconst (n := 51) (nI 0) dX7_sets_50 rfl (by decide) ?_
        refine zi_istore6 (n := 53) dX7_sets_51 rfl (by decide) rfl ?_
        exact l2_X7_sets hk (2 ^ n + 1) 0 _ _ _ none none (Nat.lt_succ_of_le (Nat.sub_le _ _)) (Nat.zero_le _) rfl
      · first | exact absurd a3 h36 | exact absurd h36 a3
  · first | exact absurd hz h9 | exact absurd h9 hz
set_option maxHeartbeats 4000000 in
set_option maxRecDepth 100000 in
theorem m_share_bad (h0 : Z 165 0 = nI 0) {x y : Int32} (hb : ¬ ((nI 0 ≤ x ∧ x ≤ Z 169 0 - nI 1) ∧ (nI 0 ≤ y ∧ y ≤ nI 999))) : zCT E 2 zm_X7_share [.ref (zad E 165), .int x, .int y] (Q, Z) (some (.int zBAD)) (Q, Z) := by
  refine zCT.of (by decide +kernel) (Nat.le_of_ble_eq_true rfl) ?_
  refine zi_aload0 (n := 1) dX7_share_0 rfl ?_
  refine zi_iconst (n := 2) (nI 0) dX7_share_1 rfl (by decide) ?_
  refine zp_X7_0 (n := 5) dX7_share_2 rfl zl_X7_44 (zt0 h0) ?_
  refine zi_aload0 (n := 6) dX7_share_5 rfl ?_
  refine zi_iload1 (n := 7) dX7_share_6 rfl ?_
  refine zi_V1s (mj := zm_X7_isPaper) (n := 10) dX7_share_7 rfl zl_X7_180 zy_X7_isPaper (zrc_X7 _ _) (by decide) (Nat.le_of_ble_eq_true rfl) (c_X7_isPaper) ?_
  refine zi_ifeq_b (n := 13) (tgt := 25) dX7_share_10 rfl (by decide) (fun h10 => ?_) (fun h10 => ?_)
  · refine zi_ldc (n := 27) dX7_share_25 rfl zl_X7_64 ?_
    exact zi_iret dX7_share_27 rfl (by rfl) (by rfl)
  · refine zi_iload2 (n := 14) dX7_share_13 rfl ?_
    refine zi_i2l (n := 15) dX7_share_14 rfl ?_
    refine zi_lconst (n := 16) ((nI 0).toInt64) dX7_share_15 rfl (by decide) ?_
    refine zi_ldc2 (n := 19) dX7_share_16 rfl zl_X7_214 ?_
    rw [show (999 : Int64) = (nI 999).toInt64 by decide]
    refine zi_S3s (mj := zm_X7_in) (n := 22) dX7_share_19 rfl zl_X7_54 zy_X7_in (by decide) (Nat.le_of_ble_eq_true rfl) (c_X7_in) ?_
    refine zi_ifne_b (n := 25) (tgt := 28) dX7_share_22 rfl (by decide) (fun h22 => ?_) (fun h22 => ?_)
    · exact absurd ⟨h10, h22⟩ hb
    · refine zi_ldc (n := 27) dX7_share_25 rfl zl_X7_64 ?_
      exact zi_iret dX7_share_27 rfl (by rfl) (by rfl)
set_option maxHeartbeats 4000000 in
set_option maxRecDepth 100000 in
theorem m_share_0 (h0 : Z 165 0 = nI 0) (hk : zKd (Z 169) n) {p : Nat} (hp : p < n) {y : Int32} (hy : (nI 0 ≤ y ∧ y ≤ nI 999)) (h3 : Z 169 (6 + 5 * p + 3) = 0) : zCT E 2 zm_X7_share [.ref (zad E 165), .int (nI p), .int y] (Q, Z) (some (.int (nI 0))) (Q, Z) := by
  refine zCT.of (by decide +kernel) (Nat.le_of_ble_eq_true rfl) ?_
  have hn := hk.1
  have h6 := hk.2.1
  have a1 := zisP hn h6 hp
  refine zi_aload0 (n := 1) dX7_share_0 rfl ?_
  refine zi_iconst (n := 2) (nI 0) dX7_share_1 rfl (by decide) ?_
  refine zp_X7_0 (n := 5) dX7_share_2 rfl zl_X7_44 (zt0 h0) ?_
  refine zi_aload0 (n := 6) dX7_share_5 rfl ?_
  refine zi_iload1 (n := 7) dX7_share_6 rfl ?_
  refine zi_V1s (mj := zm_X7_isPaper) (n := 10) dX7_share_7 rfl zl_X7_180 zy_X7_isPaper (zrc_X7 _ _) (by decide) (Nat.le_of_ble_eq_true rfl) (c_X7_isPaper) ?_
  refine zi_ifeq_b (n := 13) (tgt := 25) dX7_share_10 rfl (by decide) (fun h10 => ?_) (fun h10 => ?_)
  · first | exact absurd a1 h10 | exact absurd h10 a1
  · refine zi_iload2 (n := 14) dX7_share_13 rfl ?_
    refine zi_i2l (n := 15) dX7_share_14 rfl ?_
    refine zi_lconst (n := 16) ((nI 0).toInt64) dX7_share_15 rfl (by decide) ?_
    refine zi_ldc2 (n := 19) dX7_share_16 rfl zl_X7_214 ?_
    rw [show (999 : Int64) = (nI 999).toInt64 by decide]
    refine zi_S3s (mj := zm_X7_in) (n := 22) dX7_share_19 rfl zl_X7_54 zy_X7_in (by decide) (Nat.le_of_ble_eq_true rfl) (c_X7_in) ?_
    refine zi_ifne_b (n := 25) (tgt := 28) dX7_share_22 rfl (by decide) (fun h22 => ?_) (fun h22 => ?_)
    · refine zi_aload0 (n := 29) dX7_share_28 rfl ?_
      refine zg_X7_5 (n := 32) dX7_share_29 rfl zl_X7_19 ?_
      refine zi_S1s (mj := zm_X7_lettersOf) (n := 35) dX7_share_32 rfl zl_X7_200 zy_X7_lettersOf (by decide) (Nat.le_of_ble_eq_true rfl) (zrq (a := 169) (c_X7_lettersOf (Or.inl rfl) hn h6)) ?_
      refine zi_istore3 (n := 36) dX7_share_35 rfl (by decide) rfl ?_
      refine zi_aload0 (n := 37) dX7_share_36 rfl ?_
      refine zg_X7_5 (n := 40) dX7_share_37 rfl zl_X7_19 ?_
      refine zi_iload1 (n := 41) dX7_share_40 rfl ?_
      refine zi_iconst (n := 42) (nI 3) dX7_share_41 rfl (by decide) ?_
      refine zi_S3s (mj := zm_X7_of) (n := 45) dX7_share_42 rfl zl_X7_146 zy_X7_of (by decide) (Nat.le_of_ble_eq_true rfl) (c_of9 (by omega) (by decide) rfl) ?_
      refine zi_istore4 (n := 47) dX7_share_45 rfl (by decide) rfl ?_
      refine zi_iload4 (n := 49) dX7_share_47 rfl ?_
      refine zi_ifne (n := 52) (tgt := 54) dX7_share_49 rfl (by decide) (fun h49 => ?_) (fun h49 => ?_)
      · first | exact absurd h3 h49 | exact absurd h49 h3
      · refine zi_iconst (n := 53) (nI 0) dX7_share_52 rfl (by decide) ?_
        exact zi_iret dX7_share_53 rfl (by rfl) (by rfl)
    · first | exact absurd hy h22 | exact absurd h22 hy
set_option maxHeartbeats 4000000 in
set_option maxRecDepth 100000 in
theorem l_X7_share (hk : zKd (Z 169) n) (hp : p < n) {y : Int32} (hA : ¬ (zsum (lgM (Z 169)) n) = 0) : ∀ k q, n - q < k → q ≤ n → zG E zm_X7_share 2 (some (.int (y * Z 169 (6 + 5 * p + 3) / (zsum (lgM (Z 169)) n) + (if zov (fun _ => lgM (Z 169)) (zsum (lgM (Z 169)) n) y n ≤ zahd (fun _ => lgM (Z 169)) p n then nI 0 else nI 1)))) (Q, Z) 63 [some (.ref (zad E 165)), some (.int (nI p)), some (.int y), some (.int (zsum (lgM (Z 169)) n)), some (.int (Z 169 (6 + 5 * p + 3))), some (.int (zov (fun _ => lgM (Z 169)) (zsum (lgM (Z 169)) n) y q)), some (.int (zahd (fun _ => lgM (Z 169)) p q)), some (.int (nI q))] [] (Q, Z) := by
  have hn := hk.1
  have h6 := hk.2.1
  intro k
  induction k with
  | zero => intro q h; omega
  | succ k ih =>
    intro q h1 h2
    refine zi_iload7 (n := 65) dX7_share_63 rfl ?_
    refine zi_aload0 (n := 66) dX7_share_65 rfl ?_
    refine zg_X7_5 (n := 69) dX7_share_66 rfl zl_X7_19 ?_
    refine zi_iconst (n := 70) (nI 0) dX7_share_69 rfl (by decide) ?_
    refine zi_oald (N := 36) (i := 0) (n := 71) dX7_share_70 rfl (by decide) (fun _ => rfl) (by decide) rfl (by decide) hn ?_
    refine zi_icge (n := 74) (tgt := 128) dX7_share_71 rfl (by decide) (fun h71 => ?_) (fun h71 => ?_)
    · have e : q = n := by have := (nI_leI (by omega) (by omega)).mp h71; omega
      subst e
      refine zi_iload2 (n := 129) dX7_share_128 rfl ?_
      refine zi_iload4 (n := 131) dX7_share_129 rfl ?_
      refine zi_imul (n := 132) dX7_share_131 rfl ?_
      refine zi_iload3 (n := 133) dX7_share_132 rfl ?_
      refine zi_idiv (n := 134) dX7_share_133 rfl hA ?_
      refine zi_iload6 (n := 136) dX7_share_134 rfl ?_
      refine zi_iload5 (n := 138) dX7_share_136 rfl ?_
      refine zi_icge (n := 141) (tgt := 145) dX7_share_138 rfl (by decide) (fun h138 => ?_) (fun h138 => ?_)
      · rw [if_pos h138]
        refine zi_iconst (n := 146) (nI 0) dX7_share_145 rfl (by decide) ?_
        refine zi_iadd (n := 147) dX7_share_146 rfl ?_
        exact zi_iret dX7_share_147 rfl (by rfl) (by rfl)
      · rw [if_neg h138]
        refine zi_iconst (n := 142) (nI 1) dX7_share_141 rfl (by decide) ?_
        refine zi_goto (tgt := 146) dX7_share_142 (by decide) ?_
        refine zi_iadd (n := 147) dX7_share_146 rfl ?_
        exact zi_iret dX7_share_147 rfl (by rfl) (by rfl)
    · have e : q < n := by have := mt (nI_leI (by omega) (by omega)).mpr h71; omega
      refine zi_iload5 (n := 76) dX7_share_74 rfl ?_
      refine zi_iload2 (n := 77) dX7_share_76 rfl ?_
      refine zi_aload0 (n := 78) dX7_share_77 rfl ?_
      refine zg_X7_5 (n := 81) dX7_share_78 rfl zl_X7_19 ?_
      refine zi_iload7 (n := 83) dX7_share_81 rfl ?_
      refine zi_iconst (n := 84) (nI 3) dX7_share_83 rfl (by decide) ?_
      refine zi_S3s (mj := zm_X7_of) (n := 87) dX7_share_84 rfl zl_X7_146 zy_X7_of (by decide) (Nat.le_of_ble_eq_true rfl) (c_of9 (by omega) (by decide) rfl) ?_
      refine zi_imul (n := 88) dX7_share_87 rfl ?_
      refine zi_iload3 (n := 89) dX7_share_88 rfl ?_
      refine zi_idiv (n := 90) dX7_share_89 rfl hA ?_
      refine zi_isub (n := 91) dX7_share_90 rfl ?_
      refine zi_istore5 (n := 93) dX7_share_91 rfl (by decide) rfl ?_
      refine zi_iload6 (n := 95) dX7_share_93 rfl ?_
      refine zi_iload7 (n := 97) dX7_share_95 rfl ?_
      refine zi_iload1 (n := 98) dX7_share_97 rfl ?_
      refine zi_icge (n := 101) (tgt := 118) dX7_share_98 rfl (by decide) (fun h98 => ?_) (fun h98 => ?_)
      · have e98 : ¬ q < p := by have := (nI_leI (by omega) (by omega)).mp h98; omega
        refine zi_iconst (n := 119) (nI 0) dX7_share_118 rfl (by decide) ?_
        refine zi_iadd (n := 120) dX7_share_119 rfl ?_
        refine zi_istore6 (n := 122) dX7_share_120 rfl (by decide) rfl ?_
        refine zi_iinc7 (n := 125) (nI (q + 1)) dX7_share_122 rfl (by decide) rfl (zi1 _) ?_
        refine zi_goto (tgt := 63) dX7_share_125 (by decide) ?_
        first
          | (have e1 : zahd (fun _ => lgM (Z 169)) p (q + 1) = zahd (fun _ => lgM (Z 169)) p q + nI 0 := by rw [zahd, if_neg (fun z => e98 z.1), show nI 0 = (0 : Int32) from rfl, Int32.add_zero]
             have g := ih (q + 1) (by omega) (by omega)
             rw [e1] at g
             exact g)
          | (have e1 : zahd (fun _ => lgM (Z 169)) p (q + 1) = zahd (fun _ => lgM (Z 169)) p q + nI 0 := by rw [zahd, if_neg (fun z => z.2 h111), show nI 0 = (0 : Int32) from rfl, Int32.add_zero]
             have g := ih (q + 1) (by omega) (by omega)
             rw [e1] at g
             exact g)
          | (have e1 : zahd (fun _ => lgM (Z 169)) p (q + 1) = zahd (fun _ => lgM (Z 169)) p q + nI 1 := by rw [zahd, if_pos ⟨e98, h111⟩]; rfl
             have g := ih (q + 1) (by omega) (by omega)
             rw [e1] at g
             exact g)
      · have e98 : q < p := by have := mt (nI_leI (by omega) (by omega)).mpr h98; omega
        refine zi_aload0 (n := 102) dX7_share_101 rfl ?_
        refine zg_X7_5 (n := 105) dX7_share_102 rfl zl_X7_19 ?_
        refine zi_iload7 (n := 107) dX7_share_105 rfl ?_
        refine zi_iconst (n := 108) (nI 3) dX7_share_107 rfl (by decide) ?_
        refine zi_S3s (mj := zm_X7_of) (n := 111) dX7_share_108 rfl zl_X7_146 zy_X7_of (by decide) (Nat.le_of_ble_eq_true rfl) (c_of9 (by omega) (by decide) rfl) ?_
        refine zi_ifle (n := 114) (tgt := 118) dX7_share_111 rfl (by decide) (fun h111 => ?_) (fun h111 => ?_)
        · refine zi_iconst (n := 119) (nI 0) dX7_share_118 rfl (by decide) ?_
          refine zi_iadd (n := 120) dX7_share_119 rfl ?_
          refine zi_istore6 (n := 122) dX7_share_120 rfl (by decide) rfl ?_
          refine zi_iinc7 (n := 125) (nI (q + 1)) dX7_share_122 rfl (by decide) rfl (zi1 _) ?_
          refine zi_goto (tgt := 63) dX7_share_125 (by decide) ?_
          first
            | (have e1 : zahd (fun _ => lgM (Z 169)) p (q + 1) = zahd (fun _ => lgM (Z 169)) p q + nI 0 := by rw [zahd, if_neg (fun z => e98 z.1), show nI 0 = (0 : Int32) from rfl, Int32.add_zero]
               have g := ih (q + 1) (by omega) (by omega)
               rw [e1] at g
               exact g)
            | (have e1 : zahd (fun _ => lgM (Z 169)) p (q + 1) = zahd (fun _ => lgM (Z 169)) p q + nI 0 := by rw [zahd, if_neg (fun z => z.2 h111), show nI 0 = (0 : Int32) from rfl, Int32.add_zero]
               have g := ih (q + 1) (by omega) (by omega)
               rw [e1] at g
               exact g)
            | (have e1 : zahd (fun _ => lgM (Z 169)) p (q + 1) = zahd (fun _ => lgM (Z 169)) p q + nI 1 := by rw [zahd, if_pos ⟨e98, h111⟩]; rfl
               have g := ih (q + 1) (by omega) (by omega)
               rw [e1] at g
               exact g)
        · refine zi_iconst (n := 115) (nI 1) dX7_share_114 rfl (by decide) ?_
          refine zi_goto (tgt := 119) dX7_share_115 (by decide) ?_
          refine zi_iadd (n := 120) dX7_share_119 rfl ?_
          refine zi_istore6 (n := 122) dX7_share_120 rfl (by decide) rfl ?_
          refine zi_iinc7 (n := 125) (nI (q + 1)) dX7_share_122 rfl (by decide) rfl (zi1 _) ?_
          refine zi_goto (tgt := 63) dX7_share_125 (by decide) ?_
          first
            | (have e1 : zahd (fun _ => lgM (Z 169)) p (q + 1) = zahd (fun _ => lgM (Z 169)) p q + nI 0 := by rw [zahd, if_neg (fun z => e98 z.1), show nI 0 = (0 : Int32) from rfl, Int32.add_zero]
               have g := ih (q + 1) (by omega) (by omega)
               rw [e1] at g
               exact g)
            | (have e1 : zahd (fun _ => lgM (Z 169)) p (q + 1) = zahd (fun _ => lgM (Z 169)) p q + nI 0 := by rw [zahd, if_neg (fun z => z.2 h111), show nI 0 = (0 : Int32) from rfl, Int32.add_zero]
               have g := ih (q + 1) (by omega) (by omega)
               rw [e1] at g
               exact g)
            | (have e1 : zahd (fun _ => lgM (Z 169)) p (q + 1) = zahd (fun _ => lgM (Z 169)) p q + nI 1 := by rw [zahd, if_pos ⟨e98, h111⟩]; rfl
               have g := ih (q + 1) (by omega) (by omega)
               rw [e1] at g
               exact g)
set_option maxHeartbeats 4000000 in
set_option maxRecDepth 100000 in
theorem m_share_ok (h0 : Z 165 0 = nI 0) (hk : zKd (Z 169) n) {p : Nat} (hp : p < n) {y : Int32} (hy : (nI 0 ≤ y ∧ y ≤ nI 999)) (h3 : ¬ Z 169 (6 + 5 * p + 3) = 0) (hA : ¬ (zsum (lgM (Z 169)) n) = 0) : zCT E 2 zm_X7_share [.ref (zad E 165), .int (nI p), .int y] (Q, Z) (some (.int (y * Z 169 (6 + 5 * p + 3) / (zsum (lgM (Z 169)) n) + (if zov (fun _ => lgM (Z 169)) (zsum (lgM (Z 169)) n) y n ≤ zahd (fun _ => lgM (Z 169)) p n then nI 0 else nI 1)))) (Q, Z) := by
  refine zCT.of (by decide +kernel) (Nat.le_of_ble_eq_true rfl) ?_
  have hn := hk.1
  have h6 := hk.2.1
  have a1 := zisP hn h6 hp
  refine zi_aload0 (n := 1) dX7_share_0 rfl ?_
  refine zi_iconst (n := 2) (nI 0) dX7_share_1 rfl (by decide) ?_
  refine zp_X7_0 (n := 5) dX7_share_2 rfl zl_X7_44 (zt0 h0) ?_
  refine zi_aload0 (n := 6) dX7_share_5 rfl ?_
  refine zi_iload1 (n := 7) dX7_share_6 rfl ?_
  refine zi_V1s (mj := zm_X7_isPaper) (n := 10) dX7_share_7 rfl zl_X7_180 zy_X7_isPaper (zrc_X7 _ _) (by decide) (Nat.le_of_ble_eq_true rfl) (c_X7_isPaper) ?_
  refine zi_ifeq_b (n := 13) (tgt := 25) dX7_share_10 rfl (by decide) (fun h10 => ?_) (fun h10 => ?_)
  · first | exact absurd a1 h10 | exact absurd h10 a1
  · refine zi_iload2 (n := 14) dX7_share_13 rfl ?_
    refine zi_i2l (n := 15) dX7_share_14 rfl ?_
    refine zi_lconst (n := 16) ((nI 0).toInt64) dX7_share_15 rfl (by decide) ?_
    refine zi_ldc2 (n := 19) dX7_share_16 rfl zl_X7_214 ?_
    rw [show (999 : Int64) = (nI 999).toInt64 by decide]
    refine zi_S3s (mj := zm_X7_in) (n := 22) dX7_share_19 rfl zl_X7_54 zy_X7_in (by decide) (Nat.le_of_ble_eq_true rfl) (c_X7_in) ?_
    refine zi_ifne_b (n := 25) (tgt := 28) dX7_share_22 rfl (by decide) (fun h22 => ?_) (fun h22 => ?_)
    · refine zi_aload0 (n := 29) dX7_share_28 rfl ?_
      refine zg_X7_5 (n := 32) dX7_share_29 rfl zl_X7_19 ?_
      refine zi_S1s (mj := zm_X7_lettersOf) (n := 35) dX7_share_32 rfl zl_X7_200 zy_X7_lettersOf (by decide) (Nat.le_of_ble_eq_true rfl) (zrq (a := 169) (c_X7_lettersOf (Or.inl rfl) hn h6)) ?_
      refine zi_istore3 (n := 36) dX7_share_35 rfl (by decide) rfl ?_
      refine zi_aload0 (n := 37) dX7_share_36 rfl ?_
      refine zg_X7_5 (n := 40) dX7_share_37 rfl zl_X7_19 ?_
      refine zi_iload1 (n := 41) dX7_share_40 rfl ?_
      refine zi_iconst (n := 42) (nI 3) dX7_share_41 rfl (by decide) ?_
      refine zi_S3s (mj := zm_X7_of) (n := 45) dX7_share_42 rfl zl_X7_146 zy_X7_of (by decide) (Nat.le_of_ble_eq_true rfl) (c_of9 (by omega) (by decide) rfl) ?_
      refine zi_istore4 (n := 47) dX7_share_45 rfl (by decide) rfl ?_
      refine zi_iload4 (n := 49) dX7_share_47 rfl ?_
      refine zi_ifne (n := 52) (tgt := 54) dX7_share_49 rfl (by decide) (fun h49 => ?_) (fun h49 => ?_)
      · refine zi_iload2 (n := 55) dX7_share_54 rfl ?_
        refine zi_istore5 (n := 57) dX7_share_55 rfl (by decide) rfl ?_
        refine zi_iconst (n := 58) (nI 0) dX7_share_57 rfl (by decide) ?_
        refine zi_istore6 (n := 60) dX7_share_58 rfl (by decide) rfl ?_
        refine zi_iconst (n := 61) (nI 0) dX7_share_60 rfl (by decide) ?_
        refine zi_istore7 (n := 63) dX7_share_61 rfl (by decide) rfl ?_
        exact l_X7_share hk hp hA (n + 1) 0 (by omega) (by omega)
      · first | exact absurd h3 h49 | exact absurd h49 h3
    · first | exact absurd hy h22 | exact absurd h22 hy
end ZM6
