section ZMa
/-- the reading's state: cursor, start, token, value, fault, where -/
abbrev zY : Type := Nat × Nat × Int32 × Int32 × Int32 × Int32
def zYr (g : zF) (y : zY) : zF := fun k => if k = 12 then nI y.1 else if k = 13 then nI y.2.1 else if k = 14 then y.2.2.1 else if k = 15 then y.2.2.2.1 else if k = 16 then y.2.2.2.2.1 else if k = 17 then y.2.2.2.2.2 else g k
def zYm (Q : Nat → Nat → Nat → Int32) (Z : zS) (y : zY) : zMem := (Q, va_up Z 165 (zYr (Z 165) y))
variable {E : zE} {Q : Nat → Nat → Nat → Int32} {Z : zS} {M M1 : zMem} {n p d L : Nat} {f B : zF} {y : zY}
theorem zYm_g12 : (zYm Q Z y).2 165 12 = nI y.1 := by simp [zYm, va_up_self, zYr]
theorem zYm_p12 {x : Nat} : (((zYm Q Z y).1, zsu (zYm Q Z y).2 165 12 (nI x)) : zMem) = zYm Q Z (x, y.2) := by
  refine zfqe ?_
  funext k
  unfold upd zYr
  by_cases h : k = 12
  · subst h; simp
  · simp [h]
theorem zYm_g13 : (zYm Q Z y).2 165 13 = nI y.2.1 := by simp [zYm, va_up_self, zYr]
theorem zYm_p13 {x : Nat} : (((zYm Q Z y).1, zsu (zYm Q Z y).2 165 13 (nI x)) : zMem) = zYm Q Z (y.1, x, y.2.2) := by
  refine zfqe ?_
  funext k
  unfold upd zYr
  by_cases h : k = 13
  · subst h; simp
  · simp [h]
theorem zYm_g14 : (zYm Q Z y).2 165 14 = y.2.2.1 := by simp [zYm, va_up_self, zYr]
theorem zYm_p14 {x : Int32} : (((zYm Q Z y).1, zsu (zYm Q Z y).2 165 14 x) : zMem) = zYm Q Z (y.1, y.2.1, x, y.2.2.2) := by
  refine zfqe ?_
  funext k
  unfold upd zYr
  by_cases h : k = 14
  · subst h; simp
  · simp [h]
theorem zYm_g15 : (zYm Q Z y).2 165 15 = y.2.2.2.1 := by simp [zYm, va_up_self, zYr]
theorem zYm_p15 {x : Int32} : (((zYm Q Z y).1, zsu (zYm Q Z y).2 165 15 x) : zMem) = zYm Q Z (y.1, y.2.1, y.2.2.1, x, y.2.2.2.2) := by
  refine zfqe ?_
  funext k
  unfold upd zYr
  by_cases h : k = 15
  · subst h; simp
  · simp [h]
theorem zYm_g16 : (zYm Q Z y).2 165 16 = y.2.2.2.2.1 := by simp [zYm, va_up_self, zYr]
theorem zYm_p16 {x : Int32} : (((zYm Q Z y).1, zsu (zYm Q Z y).2 165 16 x) : zMem) = zYm Q Z (y.1, y.2.1, y.2.2.1, y.2.2.2.1, x, y.2.2.2.2.2) := by
  refine zfqe ?_
  funext k
  unfold upd zYr
  by_cases h : k = 16
  · subst h; simp
  · simp [h]
theorem zYm_g17 : (zYm Q Z y).2 165 17 = y.2.2.2.2.2 := by simp [zYm, va_up_self, zYr]
theorem zYm_p17 {x : Int32} : (((zYm Q Z y).1, zsu (zYm Q Z y).2 165 17 x) : zMem) = zYm Q Z (y.1, y.2.1, y.2.2.1, y.2.2.2.1, y.2.2.2.2.1, x) := by
  refine zfqe ?_
  funext k
  unfold upd zYr
  by_cases h : k = 17
  · subst h; simp
  · simp [h]
theorem zYm_gL (hL : Z 165 11 = nI L) : (zYm Q Z y).2 165 11 = nI L := by simp [zYm, va_up_self, zYr, hL]
theorem zYm_gB (hB : Z 173 = B) {k : Nat} : (zYm Q Z y).2 173 k = B k := by subst hB; simp [zYm, va_up]
def zdl (B : zF) (L c : Nat) : Nat → Nat → Int32 → Nat × Int32
  | 0, i, v => (i, v)
  | k + 1, i, v => if i < L ∧ (nI 48 ≤ B i ∧ B i ≤ nI 57) then zdl B L c k (i + 1) (if i - c < 2 then nI 10 * v + B i - nI 48 else v) else (i, v)
theorem zdl_le {B : zF} {L c : Nat} : ∀ {k i : Nat} {v : Int32}, i ≤ L → (zdl B L c k i v).1 ≤ L ∧ i ≤ (zdl B L c k i v).1
  | 0, i, v, h => ⟨h, Nat.le_refl _⟩
  | k + 1, i, v, h => by
    unfold zdl
    split
    · rename_i q
      have := zdl_le (B := B) (L := L) (c := c) (k := k) (i := i + 1) (v := if i - c < 2 then nI 10 * v + B i - nI 48 else v) (by omega)
      exact ⟨this.1, by omega⟩
    · exact ⟨h, Nat.le_refl _⟩
def zTk (B : zF) (L c : Nat) : Int32 × Int32 × Nat :=
  if c < L then
    if nI 97 ≤ B c ∧ B c ≤ nI 122 then (nI 2, B c, c + 1)
    else if nI 48 ≤ B c ∧ B c ≤ nI 57 then (if (zdl B L c 90 (c + 1) (B c - nI 48)).1 - c ≤ 2 then nI 3 else nI 0, (zdl B L c 90 (c + 1) (B c - nI 48)).2, (zdl B L c 90 (c + 1) (B c - nI 48)).1)
    else if B c = nI 44 ∨ B c = nI 59 then (nI 4, B c, c + 1) else (nI 0, B c, c + 1)
  else (nI 1, -1000000, c)
def zNxT (B : zF) (L : Nat) (y : zY) : zY := ((zTk B L y.1).2.2, y.1, (zTk B L y.1).1, (zTk B L y.1).2.1, y.2.2.2.2)
theorem zNxT_le (h : y.1 ≤ L) : (zNxT B L y).1 ≤ L := by
  show (zTk B L y.1).2.2 ≤ L
  unfold zTk
  split
  · split
    · assumption
    · split
      · exact (zdl_le (by assumption)).1
      · split <;> assumption
  · exact h
set_option maxHeartbeats 4000000 in
set_option maxRecDepth 100000 in
theorem l_X7_nt (hL : Z 165 11 = nI L) (hB : Z 173 = B) (h90 : L ≤ 90) {c : Nat} {f fa : Int32} {r : Nat × Int32} : ∀ k i (v : Int32), L ≤ i + k → c < i → i ≤ L → zdl B L c k i v = r → zG E zm_X7_nextToken 1 none (zYm Q Z (r.1, c, (if r.1 - c ≤ 2 then nI 3 else nI 0), r.2, f, fa)) 165 [some (.ref (zad E 165))] [] (zYm Q Z (i, c, nI 3, v, f, fa)) := by
  intro k
  induction k with
  | zero =>
    intro i v h1 h2 h3 hr
    obtain rfl : i = L := by omega
    subst hr
    refine zi_aload0 (n := 166) dX7_nextToken_165 rfl ?_
    refine zg_X7_12 (n := 169) dX7_nextToken_166 rfl zl_X7_84 zYm_g12 ?_
    refine zi_aload0 (n := 170) dX7_nextToken_169 rfl ?_
    refine zg_X7_11 (n := 173) dX7_nextToken_170 rfl zl_X7_71 (zYm_gL hL) ?_
    refine zi_icge (n := 176) (tgt := 255) dX7_nextToken_173 rfl (by decide) (fun h173 => ?_) (fun h173 => ?_)
    · refine zi_aload0 (n := 256) dX7_nextToken_255 rfl ?_
      refine zi_aload0 (n := 257) dX7_nextToken_256 rfl ?_
      refine zg_X7_12 (n := 260) dX7_nextToken_257 rfl zl_X7_84 zYm_g12 ?_
      refine zi_aload0 (n := 261) dX7_nextToken_260 rfl ?_
      refine zg_X7_13 (n := 264) dX7_nextToken_261 rfl zl_X7_78 zYm_g13 ?_
      refine zi_isub (n := 265) dX7_nextToken_264 rfl ?_
      try dsimp only
      rw [pk_sub (by omega)]
      refine zi_iconst (n := 266) (nI 2) dX7_nextToken_265 rfl (by decide) ?_
      refine zi_icle (n := 269) (tgt := 273) dX7_nextToken_266 rfl (by decide) (fun h266 => ?_) (fun h266 => ?_)
      · have e1 : i - c ≤ 2 := (nI_leI (by omega) (by omega)).mp h266
        refine zi_iconst (n := 274) (nI 3) dX7_nextToken_273 rfl (by decide) ?_
        refine zp_X7_14 (n := 277) dX7_nextToken_274 rfl zl_X7_99 zYm_p14 ?_
        exact zi_vret dX7_nextToken_277 rfl (by rfl) (by show zYm Q Z (i, c, (if i - c ≤ 2 then nI 3 else nI 0), v, f, fa) = _; simp only [e1, if_true, if_false])
      · have e1 : ¬ i - c ≤ 2 := fun z => h266 (nI_le z (by omega))
        refine zi_iconst (n := 270) (nI 0) dX7_nextToken_269 rfl (by decide) ?_
        refine zi_goto (tgt := 274) dX7_nextToken_270 (by decide) ?_
        refine zp_X7_14 (n := 277) dX7_nextToken_274 rfl zl_X7_99 zYm_p14 ?_
        exact zi_vret dX7_nextToken_277 rfl (by rfl) (by show zYm Q Z (i, c, (if i - c ≤ 2 then nI 3 else nI 0), v, f, fa) = _; simp only [e1, if_true, if_false])
    · exact absurd (nI_le (Nat.le_refl _) (by omega)) h173
  | succ k ih =>
    intro i v h1 h2 h3 hr
    refine zi_aload0 (n := 166) dX7_nextToken_165 rfl ?_
    refine zg_X7_12 (n := 169) dX7_nextToken_166 rfl zl_X7_84 zYm_g12 ?_
    refine zi_aload0 (n := 170) dX7_nextToken_169 rfl ?_
    refine zg_X7_11 (n := 173) dX7_nextToken_170 rfl zl_X7_71 (zYm_gL hL) ?_
    refine zi_icge (n := 176) (tgt := 255) dX7_nextToken_173 rfl (by decide) (fun h173 => ?_) (fun h173 => ?_)
    · have e : ¬ i < L := by have := (nI_leI (by omega) (by omega)).mp h173; omega
      rw [zdl, if_neg (fun z => e z.1)] at hr
      subst hr
      refine zi_aload0 (n := 256) dX7_nextToken_255 rfl ?_
      refine zi_aload0 (n := 257) dX7_nextToken_256 rfl ?_
      refine zg_X7_12 (n := 260) dX7_nextToken_257 rfl zl_X7_84 zYm_g12 ?_
      refine zi_aload0 (n := 261) dX7_nextToken_260 rfl ?_
      refine zg_X7_13 (n := 264) dX7_nextToken_261 rfl zl_X7_78 zYm_g13 ?_
      refine zi_isub (n := 265) dX7_nextToken_264 rfl ?_
      try dsimp only
      rw [pk_sub (by omega)]
      refine zi_iconst (n := 266) (nI 2) dX7_nextToken_265 rfl (by decide) ?_
      refine zi_icle (n := 269) (tgt := 273) dX7_nextToken_266 rfl (by decide) (fun h266 => ?_) (fun h266 => ?_)
      · have e1 : i - c ≤ 2 := (nI_leI (by omega) (by omega)).mp h266
        refine zi_iconst (n := 274) (nI 3) dX7_nextToken_273 rfl (by decide) ?_
        refine zp_X7_14 (n := 277) dX7_nextToken_274 rfl zl_X7_99 zYm_p14 ?_
        exact zi_vret dX7_nextToken_277 rfl (by rfl) (by show zYm Q Z (i, c, (if i - c ≤ 2 then nI 3 else nI 0), v, f, fa) = _; simp only [e1, if_true, if_false])
      · have e1 : ¬ i - c ≤ 2 := fun z => h266 (nI_le z (by omega))
        refine zi_iconst (n := 270) (nI 0) dX7_nextToken_269 rfl (by decide) ?_
        refine zi_goto (tgt := 274) dX7_nextToken_270 (by decide) ?_
        refine zp_X7_14 (n := 277) dX7_nextToken_274 rfl zl_X7_99 zYm_p14 ?_
        exact zi_vret dX7_nextToken_277 rfl (by rfl) (by show zYm Q Z (i, c, (if i - c ≤ 2 then nI 3 else nI 0), v, f, fa) = _; simp only [e1, if_true, if_false])
    · have e : i < L := by have := mt (nI_leI (by omega) (by omega)).mpr h173; omega
      refine zi_aload0 (n := 177) dX7_nextToken_176 rfl ?_
      refine zg_X7_10 (n := 180) dX7_nextToken_177 rfl zl_X7_31 ?_
      refine zi_aload0 (n := 181) dX7_nextToken_180 rfl ?_
      refine zg_X7_12 (n := 184) dX7_nextToken_181 rfl zl_X7_84 zYm_g12 ?_
      refine zi_oald (N := 90) (i := i) (n := 185) dX7_nextToken_184 rfl (by decide) (fun _ => rfl) (by decide) rfl (by omega) (zYm_gB hB) ?_
      refine zi_i2l (n := 186) dX7_nextToken_185 rfl ?_
      refine zi_ldc2 (n := 189) dX7_nextToken_186 rfl zl_X7_95 ?_
      rw [show (48 : Int64) = (nI 48).toInt64 by decide]
      refine zi_ldc2 (n := 192) dX7_nextToken_189 rfl zl_X7_97 ?_
      rw [show (57 : Int64) = (nI 57).toInt64 by decide]
      refine zi_S3s (mj := zm_X7_in) (n := 195) dX7_nextToken_192 rfl zl_X7_54 zy_X7_in (by decide) (Nat.le_of_ble_eq_true rfl) (c_X7_in) ?_
      refine zi_ifeq_b (n := 198) (tgt := 255) dX7_nextToken_195 rfl (by decide) (fun h195 => ?_) (fun h195 => ?_)
      · rw [zdl, if_neg (fun z => h195 z.2)] at hr
        subst hr
        refine zi_aload0 (n := 256) dX7_nextToken_255 rfl ?_
        refine zi_aload0 (n := 257) dX7_nextToken_256 rfl ?_
        refine zg_X7_12 (n := 260) dX7_nextToken_257 rfl zl_X7_84 zYm_g12 ?_
        refine zi_aload0 (n := 261) dX7_nextToken_260 rfl ?_
        refine zg_X7_13 (n := 264) dX7_nextToken_261 rfl zl_X7_78 zYm_g13 ?_
        refine zi_isub (n := 265) dX7_nextToken_264 rfl ?_
        try dsimp only
        rw [pk_sub (by omega)]
        refine zi_iconst (n := 266) (nI 2) dX7_nextToken_265 rfl (by decide) ?_
        refine zi_icle (n := 269) (tgt := 273) dX7_nextToken_266 rfl (by decide) (fun h266 => ?_) (fun h266 => ?_)
        · have e1 : i - c ≤ 2 := (nI_leI (by omega) (by omega)).mp h266
          refine zi_iconst (n := 274) (nI 3) dX7_nextToken_273 rfl (by decide) ?_
          refine zp_X7_14 (n := 277) dX7_nextToken_274 rfl zl_X7_99 zYm_p14 ?_
          exact zi_vret dX7_nextToken_277 rfl (by rfl) (by show zYm Q Z (i, c, (if i - c ≤ 2 then nI 3 else nI 0), v, f, fa) = _; simp only [e1, if_true, if_false])
        · have e1 : ¬ i - c ≤ 2 := fun z => h266 (nI_le z (by omega))
          refine zi_iconst (n := 270) (nI 0) dX7_nextToken_269 rfl (by decide) ?_
          refine zi_goto (tgt := 274) dX7_nextToken_270 (by decide) ?_
          refine zp_X7_14 (n := 277) dX7_nextToken_274 rfl zl_X7_99 zYm_p14 ?_
          exact zi_vret dX7_nextToken_277 rfl (by rfl) (by show zYm Q Z (i, c, (if i - c ≤ 2 then nI 3 else nI 0), v, f, fa) = _; simp only [e1, if_true, if_false])
      · rw [zdl, if_pos ⟨e, h195⟩] at hr
        refine zi_aload0 (n := 199) dX7_nextToken_198 rfl ?_
        refine zi_aload0 (n := 200) dX7_nextToken_199 rfl ?_
        refine zg_X7_12 (n := 203) dX7_nextToken_200 rfl zl_X7_84 zYm_g12 ?_
        refine zi_aload0 (n := 204) dX7_nextToken_203 rfl ?_
        refine zg_X7_13 (n := 207) dX7_nextToken_204 rfl zl_X7_78 zYm_g13 ?_
        refine zi_isub (n := 208) dX7_nextToken_207 rfl ?_
        try dsimp only
        rw [pk_sub (by omega)]
        refine zi_iconst (n := 209) (nI 2) dX7_nextToken_208 rfl (by decide) ?_
        refine zi_icge (n := 212) (tgt := 235) dX7_nextToken_209 rfl (by decide) (fun h209 => ?_) (fun h209 => ?_)
        · have e2 : ¬ i - c < 2 := by have := (nI_leI (by omega) (by omega)).mp h209; omega
          rw [if_neg e2] at hr
          refine zi_aload0 (n := 236) dX7_nextToken_235 rfl ?_
          refine zg_X7_15 (n := 239) dX7_nextToken_236 rfl zl_X7_88 zYm_g15 ?_
          refine zp_X7_15 (n := 242) dX7_nextToken_239 rfl zl_X7_88 zYm_p15 ?_
          refine zi_aload0 (n := 243) dX7_nextToken_242 rfl ?_
          refine zi_dup (n := 244) dX7_nextToken_243 rfl rfl ?_
          refine zg_X7_12 (n := 247) dX7_nextToken_244 rfl zl_X7_84 zYm_g12 ?_
          refine zi_iconst (n := 248) (nI 1) dX7_nextToken_247 rfl (by decide) ?_
          refine zi_iadd (n := 249) dX7_nextToken_248 rfl ?_
          rw [nI_add]
          refine zp_X7_12 (n := 252) dX7_nextToken_249 rfl zl_X7_84 zYm_p12 ?_
          refine zi_goto (tgt := 165) dX7_nextToken_252 (by decide) ?_
          exact ih (i + 1) _ (by omega) (by omega) (by omega) hr
        · have e2 : i - c < 2 := by have := mt (nI_leI (a := 2) (by omega) (by omega)).mpr h209; omega
          rw [if_pos e2] at hr
          refine zi_bipush (n := 214) (nI 10) dX7_nextToken_212 rfl (by decide) ?_
          refine zi_aload0 (n := 215) dX7_nextToken_214 rfl ?_
          refine zg_X7_15 (n := 218) dX7_nextToken_215 rfl zl_X7_88 zYm_g15 ?_
          refine zi_imul (n := 219) dX7_nextToken_218 rfl ?_
          refine zi_aload0 (n := 220) dX7_nextToken_219 rfl ?_
          refine zg_X7_10 (n := 223) dX7_nextToken_220 rfl zl_X7_31 ?_
          refine zi_aload0 (n := 224) dX7_nextToken_223 rfl ?_
          refine zg_X7_12 (n := 227) dX7_nextToken_224 rfl zl_X7_84 zYm_g12 ?_
          refine zi_oald (N := 90) (i := i) (n := 228) dX7_nextToken_227 rfl (by decide) (fun _ => rfl) (by decide) rfl (by omega) (zYm_gB hB) ?_
          refine zi_iadd (n := 229) dX7_nextToken_228 rfl ?_
          refine zi_bipush (n := 231) (nI 48) dX7_nextToken_229 rfl (by decide) ?_
          refine zi_isub (n := 232) dX7_nextToken_231 rfl ?_
          refine zi_goto (tgt := 239) dX7_nextToken_232 (by decide) ?_
          refine zp_X7_15 (n := 242) dX7_nextToken_239 rfl zl_X7_88 zYm_p15 ?_
          refine zi_aload0 (n := 243) dX7_nextToken_242 rfl ?_
          refine zi_dup (n := 244) dX7_nextToken_243 rfl rfl ?_
          refine zg_X7_12 (n := 247) dX7_nextToken_244 rfl zl_X7_84 zYm_g12 ?_
          refine zi_iconst (n := 248) (nI 1) dX7_nextToken_247 rfl (by decide) ?_
          refine zi_iadd (n := 249) dX7_nextToken_248 rfl ?_
          rw [nI_add]
          refine zp_X7_12 (n := 252) dX7_nextToken_249 rfl zl_X7_84 zYm_p12 ?_
          refine zi_goto (tgt := 165) dX7_nextToken_252 (by decide) ?_
          exact ih (i + 1) _ (by omega) (by omega) (by omega) hr
set_option maxHeartbeats 4000000 in
set_option maxRecDepth 100000 in
theorem nt_end (hL : Z 165 11 = nI L) (hB : Z 173 = B) (h90 : L ≤ 90) {c s : Nat} {t v f fa : Int32} (hc : c = L) : zCT E 1 zm_X7_nextToken [.ref (zad E 165)] (zYm Q Z (c, s, t, v, f, fa)) none (zYm Q Z (c, c, nI 1, -1000000, f, fa)) := by
  refine zCT.of (by decide +kernel) (Nat.le_of_ble_eq_true rfl) ?_
  subst hc
  have g1 : nI c ≤ nI c := nI_le (Nat.le_refl _) (by omega)
  have g2 : nI c = nI c := rfl
  refine zi_aload0 (n := 1) dX7_nextToken_0 rfl ?_
  refine zi_aload0 (n := 2) dX7_nextToken_1 rfl ?_
  refine zg_X7_12 (n := 5) dX7_nextToken_2 rfl zl_X7_84 zYm_g12 ?_
  refine zp_X7_13 (n := 8) dX7_nextToken_5 rfl zl_X7_78 zYm_p13 ?_
  refine zi_aload0 (n := 9) dX7_nextToken_8 rfl ?_
  refine zi_aload0 (n := 10) dX7_nextToken_9 rfl ?_
  refine zg_X7_12 (n := 13) dX7_nextToken_10 rfl zl_X7_84 zYm_g12 ?_
  refine zi_aload0 (n := 14) dX7_nextToken_13 rfl ?_
  refine zg_X7_11 (n := 17) dX7_nextToken_14 rfl zl_X7_71 (zYm_gL hL) ?_
  refine zi_icge (n := 20) (tgt := 32) dX7_nextToken_17 rfl (by decide) (fun h17 => ?_) (fun h17 => ?_)
  · refine zi_ldc (n := 34) dX7_nextToken_32 rfl zl_X7_87 ?_
    refine zp_X7_15 (n := 37) dX7_nextToken_34 rfl zl_X7_88 zYm_p15 ?_
    refine zi_aload0 (n := 38) dX7_nextToken_37 rfl ?_
    refine zi_aload0 (n := 39) dX7_nextToken_38 rfl ?_
    refine zg_X7_12 (n := 42) dX7_nextToken_39 rfl zl_X7_84 zYm_g12 ?_
    refine zi_aload0 (n := 43) dX7_nextToken_42 rfl ?_
    refine zg_X7_11 (n := 46) dX7_nextToken_43 rfl zl_X7_71 (zYm_gL hL) ?_
    refine zi_icne (n := 49) (tgt := 53) dX7_nextToken_46 rfl (by decide) (fun h46 => ?_) (fun h46 => ?_)
    · first | exact absurd g2 h46 | exact absurd h46 g2
    · refine zi_iconst (n := 50) (nI 1) dX7_nextToken_49 rfl (by decide) ?_
      refine zi_goto (tgt := 118) dX7_nextToken_50 (by decide) ?_
      refine zp_X7_14 (n := 121) dX7_nextToken_118 rfl zl_X7_99 zYm_p14 ?_
      refine zi_aload0 (n := 122) dX7_nextToken_121 rfl ?_
      refine zi_dup (n := 123) dX7_nextToken_122 rfl rfl ?_
      refine zg_X7_12 (n := 126) dX7_nextToken_123 rfl zl_X7_84 zYm_g12 ?_
      refine zi_aload0 (n := 127) dX7_nextToken_126 rfl ?_
      refine zg_X7_12 (n := 130) dX7_nextToken_127 rfl zl_X7_84 zYm_g12 ?_
      refine zi_aload0 (n := 131) dX7_nextToken_130 rfl ?_
      refine zg_X7_11 (n := 134) dX7_nextToken_131 rfl zl_X7_71 (zYm_gL hL) ?_
      refine zi_icge (n := 137) (tgt := 141) dX7_nextToken_134 rfl (by decide) (fun h134 => ?_) (fun h134 => ?_)
      · refine zi_iconst (n := 142) (nI 0) dX7_nextToken_141 rfl (by decide) ?_
        refine zi_iadd (n := 143) dX7_nextToken_142 rfl ?_
        rw [nI_add]
        refine zp_X7_12 (n := 146) dX7_nextToken_143 rfl zl_X7_84 zYm_p12 ?_
        refine zi_aload0 (n := 147) dX7_nextToken_146 rfl ?_
        refine zg_X7_14 (n := 150) dX7_nextToken_147 rfl zl_X7_99 zYm_g14 ?_
        refine zi_iconst (n := 151) (nI 3) dX7_nextToken_150 rfl (by decide) ?_
        refine zi_icne (n := 154) (tgt := 277) dX7_nextToken_151 rfl (by decide) (fun h151 => ?_) (fun h151 => ?_)
        · exact zi_vret dX7_nextToken_277 rfl (by rfl) (by rfl)
        · exact absurd h151 (show ¬ (nI 1 : Int32) = nI 3 by decide)
      · first | exact absurd g1 h134 | exact absurd h134 g1
  · first | exact absurd g1 h17 | exact absurd h17 g1
set_option maxHeartbeats 4000000 in
set_option maxRecDepth 100000 in
theorem nt_name (hL : Z 165 11 = nI L) (hB : Z 173 = B) (h90 : L ≤ 90) {c s : Nat} {t v f fa : Int32} (hc : c < L) (h1 : (nI 97 ≤ B c ∧ B c ≤ nI 122)) : zCT E 1 zm_X7_nextToken [.ref (zad E 165)] (zYm Q Z (c, s, t, v, f, fa)) none (zYm Q Z (c + 1, c, nI 2, B c, f, fa)) := by
  refine zCT.of (by decide +kernel) (Nat.le_of_ble_eq_true rfl) ?_
  have g1 : ¬ nI L ≤ nI c := fun z => absurd ((nI_leI (by omega) (by omega)).mp z) (by omega)
  have g2 : ¬ nI c = nI L := fun z => absurd ((nI_eq (by omega) (by omega)).mp z) (by omega)
  refine zi_aload0 (n := 1) dX7_nextToken_0 rfl ?_
  refine zi_aload0 (n := 2) dX7_nextToken_1 rfl ?_
  refine zg_X7_12 (n := 5) dX7_nextToken_2 rfl zl_X7_84 zYm_g12 ?_
  refine zp_X7_13 (n := 8) dX7_nextToken_5 rfl zl_X7_78 zYm_p13 ?_
  refine zi_aload0 (n := 9) dX7_nextToken_8 rfl ?_
  refine zi_aload0 (n := 10) dX7_nextToken_9 rfl ?_
  refine zg_X7_12 (n := 13) dX7_nextToken_10 rfl zl_X7_84 zYm_g12 ?_
  refine zi_aload0 (n := 14) dX7_nextToken_13 rfl ?_
  refine zg_X7_11 (n := 17) dX7_nextToken_14 rfl zl_X7_71 (zYm_gL hL) ?_
  refine zi_icge (n := 20) (tgt := 32) dX7_nextToken_17 rfl (by decide) (fun h17 => ?_) (fun h17 => ?_)
  · first | exact absurd g1 h17 | exact absurd h17 g1
  · refine zi_aload0 (n := 21) dX7_nextToken_20 rfl ?_
    refine zg_X7_10 (n := 24) dX7_nextToken_21 rfl zl_X7_31 ?_
    refine zi_aload0 (n := 25) dX7_nextToken_24 rfl ?_
    refine zg_X7_12 (n := 28) dX7_nextToken_25 rfl zl_X7_84 zYm_g12 ?_
    refine zi_oald (N := 90) (i := c) (n := 29) dX7_nextToken_28 rfl (by decide) (fun _ => rfl) (by decide) rfl (by omega) (zYm_gB hB) ?_
    refine zi_goto (tgt := 34) dX7_nextToken_29 (by decide) ?_
    refine zp_X7_15 (n := 37) dX7_nextToken_34 rfl zl_X7_88 zYm_p15 ?_
    refine zi_aload0 (n := 38) dX7_nextToken_37 rfl ?_
    refine zi_aload0 (n := 39) dX7_nextToken_38 rfl ?_
    refine zg_X7_12 (n := 42) dX7_nextToken_39 rfl zl_X7_84 zYm_g12 ?_
    refine zi_aload0 (n := 43) dX7_nextToken_42 rfl ?_
    refine zg_X7_11 (n := 46) dX7_nextToken_43 rfl zl_X7_71 (zYm_gL hL) ?_
    refine zi_icne (n := 49) (tgt := 53) dX7_nextToken_46 rfl (by decide) (fun h46 => ?_) (fun h46 => ?_)
    · refine zi_aload0 (n := 54) dX7_nextToken_53 rfl ?_
      refine zg_X7_15 (n := 57) dX7_nextToken_54 rfl zl_X7_88 zYm_g15 ?_
      refine zi_i2l (n := 58) dX7_nextToken_57 rfl ?_
      refine zi_ldc2 (n := 61) dX7_nextToken_58 rfl zl_X7_91 ?_
      rw [show (97 : Int64) = (nI 97).toInt64 by decide]
      refine zi_ldc2 (n := 64) dX7_nextToken_61 rfl zl_X7_93 ?_
      rw [show (122 : Int64) = (nI 122).toInt64 by decide]
      refine zi_S3s (mj := zm_X7_in) (n := 67) dX7_nextToken_64 rfl zl_X7_54 zy_X7_in (by decide) (Nat.le_of_ble_eq_true rfl) (c_X7_in) ?_
      refine zi_ifeq_b (n := 70) (tgt := 74) dX7_nextToken_67 rfl (by decide) (fun h67 => ?_) (fun h67 => ?_)
      · first | exact absurd h1 h67 | exact absurd h67 h1
      · refine zi_iconst (n := 71) (nI 2) dX7_nextToken_70 rfl (by decide) ?_
        refine zi_goto (tgt := 118) dX7_nextToken_71 (by decide) ?_
        refine zp_X7_14 (n := 121) dX7_nextToken_118 rfl zl_X7_99 zYm_p14 ?_
        refine zi_aload0 (n := 122) dX7_nextToken_121 rfl ?_
        refine zi_dup (n := 123) dX7_nextToken_122 rfl rfl ?_
        refine zg_X7_12 (n := 126) dX7_nextToken_123 rfl zl_X7_84 zYm_g12 ?_
        refine zi_aload0 (n := 127) dX7_nextToken_126 rfl ?_
        refine zg_X7_12 (n := 130) dX7_nextToken_127 rfl zl_X7_84 zYm_g12 ?_
        refine zi_aload0 (n := 131) dX7_nextToken_130 rfl ?_
        refine zg_X7_11 (n := 134) dX7_nextToken_131 rfl zl_X7_71 (zYm_gL hL) ?_
        refine zi_icge (n := 137) (tgt := 141) dX7_nextToken_134 rfl (by decide) (fun h134 => ?_) (fun h134 => ?_)
        · first | exact absurd g1 h134 | exact absurd h134 g1
        · refine zi_iconst (n := 138) (nI 1) dX7_nextToken_137 rfl (by decide) ?_
          refine zi_goto (tgt := 142) dX7_nextToken_138 (by decide) ?_
          refine zi_iadd (n := 143) dX7_nextToken_142 rfl ?_
          rw [nI_add]
          refine zp_X7_12 (n := 146) dX7_nextToken_143 rfl zl_X7_84 zYm_p12 ?_
          refine zi_aload0 (n := 147) dX7_nextToken_146 rfl ?_
          refine zg_X7_14 (n := 150) dX7_nextToken_147 rfl zl_X7_99 zYm_g14 ?_
          refine zi_iconst (n := 151) (nI 3) dX7_nextToken_150 rfl (by decide) ?_
          refine zi_icne (n := 154) (tgt := 277) dX7_nextToken_151 rfl (by decide) (fun h151 => ?_) (fun h151 => ?_)
          · exact zi_vret dX7_nextToken_277 rfl (by rfl) (by rfl)
          · exact absurd h151 (show ¬ (nI 2 : Int32) = nI 3 by decide)
    · first | exact absurd g2 h46 | exact absurd h46 g2
set_option maxHeartbeats 4000000 in
set_option maxRecDepth 100000 in
theorem nt_sign (hL : Z 165 11 = nI L) (hB : Z 173 = B) (h90 : L ≤ 90) {c s : Nat} {t v f fa : Int32} (hc : c < L) (h1 : ¬ (nI 97 ≤ B c ∧ B c ≤ nI 122)) (h2 : ¬ (nI 48 ≤ B c ∧ B c ≤ nI 57)) (h3 : B c = nI 44 ∨ B c = nI 59) : zCT E 1 zm_X7_nextToken [.ref (zad E 165)] (zYm Q Z (c, s, t, v, f, fa)) none (zYm Q Z (c + 1, c, nI 4, B c, f, fa)) := by
  refine zCT.of (by decide +kernel) (Nat.le_of_ble_eq_true rfl) ?_
  have g1 : ¬ nI L ≤ nI c := fun z => absurd ((nI_leI (by omega) (by omega)).mp z) (by omega)
  have g2 : ¬ nI c = nI L := fun z => absurd ((nI_eq (by omega) (by omega)).mp z) (by omega)
  refine zi_aload0 (n := 1) dX7_nextToken_0 rfl ?_
  refine zi_aload0 (n := 2) dX7_nextToken_1 rfl ?_
  refine zg_X7_12 (n := 5) dX7_nextToken_2 rfl zl_X7_84 zYm_g12 ?_
  refine zp_X7_13 (n := 8) dX7_nextToken_5 rfl zl_X7_78 zYm_p13 ?_
  refine zi_aload0 (n := 9) dX7_nextToken_8 rfl ?_
  refine zi_aload0 (n := 10) dX7_nextToken_9 rfl ?_
  refine zg_X7_12 (n := 13) dX7_nextToken_10 rfl zl_X7_84 zYm_g12 ?_
  refine zi_aload0 (n := 14) dX7_nextToken_13 rfl ?_
  refine zg_X7_11 (n := 17) dX7_nextToken_14 rfl zl_X7_71 (zYm_gL hL) ?_
  refine zi_icge (n := 20) (tgt := 32) dX7_nextToken_17 rfl (by decide) (fun h17 => ?_) (fun h17 => ?_)
  · first | exact absurd g1 h17 | exact absurd h17 g1
  · refine zi_aload0 (n := 21) dX7_nextToken_20 rfl ?_
    refine zg_X7_10 (n := 24) dX7_nextToken_21 rfl zl_X7_31 ?_
    refine zi_aload0 (n := 25) dX7_nextToken_24 rfl ?_
    refine zg_X7_12 (n := 28) dX7_nextToken_25 rfl zl_X7_84 zYm_g12 ?_
    refine zi_oald (N := 90) (i := c) (n := 29) dX7_nextToken_28 rfl (by decide) (fun _ => rfl) (by decide) rfl (by omega) (zYm_gB hB) ?_
    refine zi_goto (tgt := 34) dX7_nextToken_29 (by decide) ?_
    refine zp_X7_15 (n := 37) dX7_nextToken_34 rfl zl_X7_88 zYm_p15 ?_
    refine zi_aload0 (n := 38) dX7_nextToken_37 rfl ?_
    refine zi_aload0 (n := 39) dX7_nextToken_38 rfl ?_
    refine zg_X7_12 (n := 42) dX7_nextToken_39 rfl zl_X7_84 zYm_g12 ?_
    refine zi_aload0 (n := 43) dX7_nextToken_42 rfl ?_
    refine zg_X7_11 (n := 46) dX7_nextToken_43 rfl zl_X7_71 (zYm_gL hL) ?_
    refine zi_icne (n := 49) (tgt := 53) dX7_nextToken_46 rfl (by decide) (fun h46 => ?_) (fun h46 => ?_)
    · refine zi_aload0 (n := 54) dX7_nextToken_53 rfl ?_
      refine zg_X7_15 (n := 57) dX7_nextToken_54 rfl zl_X7_88 zYm_g15 ?_
      refine zi_i2l (n := 58) dX7_nextToken_57 rfl ?_
      refine zi_ldc2 (n := 61) dX7_nextToken_58 rfl zl_X7_91 ?_
      rw [show (97 : Int64) = (nI 97).toInt64 by decide]
      refine zi_ldc2 (n := 64) dX7_nextToken_61 rfl zl_X7_93 ?_
      rw [show (122 : Int64) = (nI 122).toInt64 by decide]
      refine zi_S3s (mj := zm_X7_in) (n := 67) dX7_nextToken_64 rfl zl_X7_54 zy_X7_in (by decide) (Nat.le_of_ble_eq_true rfl) (c_X7_in) ?_
      refine zi_ifeq_b (n := 70) (tgt := 74) dX7_nextToken_67 rfl (by decide) (fun h67 => ?_) (fun h67 => ?_)
      · refine zi_aload0 (n := 75) dX7_nextToken_74 rfl ?_
        refine zg_X7_15 (n := 78) dX7_nextToken_75 rfl zl_X7_88 zYm_g15 ?_
        refine zi_i2l (n := 79) dX7_nextToken_78 rfl ?_
        refine zi_ldc2 (n := 82) dX7_nextToken_79 rfl zl_X7_95 ?_
        rw [show (48 : Int64) = (nI 48).toInt64 by decide]
        refine zi_ldc2 (n := 85) dX7_nextToken_82 rfl zl_X7_97 ?_
        rw [show (57 : Int64) = (nI 57).toInt64 by decide]
        refine zi_S3s (mj := zm_X7_in) (n := 88) dX7_nextToken_85 rfl zl_X7_54 zy_X7_in (by decide) (Nat.le_of_ble_eq_true rfl) (c_X7_in) ?_
        refine zi_ifeq_b (n := 91) (tgt := 95) dX7_nextToken_88 rfl (by decide) (fun h88 => ?_) (fun h88 => ?_)
        · refine zi_aload0 (n := 96) dX7_nextToken_95 rfl ?_
          refine zg_X7_15 (n := 99) dX7_nextToken_96 rfl zl_X7_88 zYm_g15 ?_
          refine zi_bipush (n := 101) (nI 44) dX7_nextToken_99 rfl (by decide) ?_
          refine zi_iceq (n := 104) (tgt := 113) dX7_nextToken_101 rfl (by decide) (fun h101 => ?_) (fun h101 => ?_)
          · refine zi_iconst (n := 114) (nI 4) dX7_nextToken_113 rfl (by decide) ?_
            refine zi_goto (tgt := 118) dX7_nextToken_114 (by decide) ?_
            refine zp_X7_14 (n := 121) dX7_nextToken_118 rfl zl_X7_99 zYm_p14 ?_
            refine zi_aload0 (n := 122) dX7_nextToken_121 rfl ?_
            refine zi_dup (n := 123) dX7_nextToken_122 rfl rfl ?_
            refine zg_X7_12 (n := 126) dX7_nextToken_123 rfl zl_X7_84 zYm_g12 ?_
            refine zi_aload0 (n := 127) dX7_nextToken_126 rfl ?_
            refine zg_X7_12 (n := 130) dX7_nextToken_127 rfl zl_X7_84 zYm_g12 ?_
            refine zi_aload0 (n := 131) dX7_nextToken_130 rfl ?_
            refine zg_X7_11 (n := 134) dX7_nextToken_131 rfl zl_X7_71 (zYm_gL hL) ?_
            refine zi_icge (n := 137) (tgt := 141) dX7_nextToken_134 rfl (by decide) (fun h134 => ?_) (fun h134 => ?_)
            · first | exact absurd g1 h134 | exact absurd h134 g1
            · refine zi_iconst (n := 138) (nI 1) dX7_nextToken_137 rfl (by decide) ?_
              refine zi_goto (tgt := 142) dX7_nextToken_138 (by decide) ?_
              refine zi_iadd (n := 143) dX7_nextToken_142 rfl ?_
              rw [nI_add]
              refine zp_X7_12 (n := 146) dX7_nextToken_143 rfl zl_X7_84 zYm_p12 ?_
              refine zi_aload0 (n := 147) dX7_nextToken_146 rfl ?_
              refine zg_X7_14 (n := 150) dX7_nextToken_147 rfl zl_X7_99 zYm_g14 ?_
              refine zi_iconst (n := 151) (nI 3) dX7_nextToken_150 rfl (by decide) ?_
              refine zi_icne (n := 154) (tgt := 277) dX7_nextToken_151 rfl (by decide) (fun h151 => ?_) (fun h151 => ?_)
              · exact zi_vret dX7_nextToken_277 rfl (by rfl) (by rfl)
              · exact absurd h151 (show ¬ (nI 4 : Int32) = nI 3 by decide)
          · refine zi_aload0 (n := 105) dX7_nextToken_104 rfl ?_
            refine zg_X7_15 (n := 108) dX7_nextToken_105 rfl zl_X7_88 zYm_g15 ?_
            refine zi_bipush (n := 110) (nI 59) dX7_nextToken_108 rfl (by decide) ?_
            refine zi_icne (n := 113) (tgt := 117) dX7_nextToken_110 rfl (by decide) (fun h110 => ?_) (fun h110 => ?_)
            · exact absurd h3 (fun z => z.elim h101 h110)
            · refine zi_iconst (n := 114) (nI 4) dX7_nextToken_113 rfl (by decide) ?_
              refine zi_goto (tgt := 118) dX7_nextToken_114 (by decide) ?_
              refine zp_X7_14 (n := 121) dX7_nextToken_118 rfl zl_X7_99 zYm_p14 ?_
              refine zi_aload0 (n := 122) dX7_nextToken_121 rfl ?_
              refine zi_dup (n := 123) dX7_nextToken_122 rfl rfl ?_
              refine zg_X7_12 (n := 126) dX7_nextToken_123 rfl zl_X7_84 zYm_g12 ?_
              refine zi_aload0 (n := 127) dX7_nextToken_126 rfl ?_
              refine zg_X7_12 (n := 130) dX7_nextToken_127 rfl zl_X7_84 zYm_g12 ?_
              refine zi_aload0 (n := 131) dX7_nextToken_130 rfl ?_
              refine zg_X7_11 (n := 134) dX7_nextToken_131 rfl zl_X7_71 (zYm_gL hL) ?_
              refine zi_icge (n := 137) (tgt := 141) dX7_nextToken_134 rfl (by decide) (fun h134 => ?_) (fun h134 => ?_)
              · first | exact absurd g1 h134 | exact absurd h134 g1
              · refine zi_iconst (n := 138) (nI 1) dX7_nextToken_137 rfl (by decide) ?_
                refine zi_goto (tgt := 142) dX7_nextToken_138 (by decide) ?_
                refine zi_iadd (n := 143) dX7_nextToken_142 rfl ?_
                rw [nI_add]
                refine zp_X7_12 (n := 146) dX7_nextToken_143 rfl zl_X7_84 zYm_p12 ?_
                refine zi_aload0 (n := 147) dX7_nextToken_146 rfl ?_
                refine zg_X7_14 (n := 150) dX7_nextToken_147 rfl zl_X7_99 zYm_g14 ?_
                refine zi_iconst (n := 151) (nI 3) dX7_nextToken_150 rfl (by decide) ?_
                refine zi_icne (n := 154) (tgt := 277) dX7_nextToken_151 rfl (by decide) (fun h151 => ?_) (fun h151 => ?_)
                · exact zi_vret dX7_nextToken_277 rfl (by rfl) (by rfl)
                · exact absurd h151 (show ¬ (nI 4 : Int32) = nI 3 by decide)
        · first | exact absurd h2 h88 | exact absurd h88 h2
      · first | exact absurd h1 h67 | exact absurd h67 h1
    · first | exact absurd g2 h46 | exact absurd h46 g2
set_option maxHeartbeats 4000000 in
set_option maxRecDepth 100000 in
theorem nt_none (hL : Z 165 11 = nI L) (hB : Z 173 = B) (h90 : L ≤ 90) {c s : Nat} {t v f fa : Int32} (hc : c < L) (h1 : ¬ (nI 97 ≤ B c ∧ B c ≤ nI 122)) (h2 : ¬ (nI 48 ≤ B c ∧ B c ≤ nI 57)) (h3 : ¬ (B c = nI 44 ∨ B c = nI 59)) : zCT E 1 zm_X7_nextToken [.ref (zad E 165)] (zYm Q Z (c, s, t, v, f, fa)) none (zYm Q Z (c + 1, c, nI 0, B c, f, fa)) := by
  refine zCT.of (by decide +kernel) (Nat.le_of_ble_eq_true rfl) ?_
  have g1 : ¬ nI L ≤ nI c := fun z => absurd ((nI_leI (by omega) (by omega)).mp z) (by omega)
  have g2 : ¬ nI c = nI L := fun z => absurd ((nI_eq (by omega) (by omega)).mp z) (by omega)
  refine zi_aload0 (n := 1) dX7_nextToken_0 rfl ?_
  refine zi_aload0 (n := 2) dX7_nextToken_1 rfl ?_
  refine zg_X7_12 (n := 5) dX7_nextToken_2 rfl zl_X7_84 zYm_g12 ?_
  refine zp_X7_13 (n := 8) dX7_nextToken_5 rfl zl_X7_78 zYm_p13 ?_
  refine zi_aload0 (n := 9) dX7_nextToken_8 rfl ?_
  refine zi_aload0 (n := 10) dX7_nextToken_9 rfl ?_
  refine zg_X7_12 (n := 13) dX7_nextToken_10 rfl zl_X7_84 zYm_g12 ?_
  refine zi_aload0 (n := 14) dX7_nextToken_13 rfl ?_
  refine zg_X7_11 (n := 17) dX7_nextToken_14 rfl zl_X7_71 (zYm_gL hL) ?_
  refine zi_icge (n := 20) (tgt := 32) dX7_nextToken_17 rfl (by decide) (fun h17 => ?_) (fun h17 => ?_)
  · first | exact absurd g1 h17 | exact absurd h17 g1
  · refine zi_aload0 (n := 21) dX7_nextToken_20 rfl ?_
    refine zg_X7_10 (n := 24) dX7_nextToken_21 rfl zl_X7_31 ?_
    refine zi_aload0 (n := 25) dX7_nextToken_24 rfl ?_
    refine zg_X7_12 (n := 28) dX7_nextToken_25 rfl zl_X7_84 zYm_g12 ?_
    refine zi_oald (N := 90) (i := c) (n := 29) dX7_nextToken_28 rfl (by decide) (fun _ => rfl) (by decide) rfl (by omega) (zYm_gB hB) ?_
    refine zi_goto (tgt := 34) dX7_nextToken_29 (by decide) ?_
    refine zp_X7_15 (n := 37) dX7_nextToken_34 rfl zl_X7_88 zYm_p15 ?_
    refine zi_aload0 (n := 38) dX7_nextToken_37 rfl ?_
    refine zi_aload0 (n := 39) dX7_nextToken_38 rfl ?_
    refine zg_X7_12 (n := 42) dX7_nextToken_39 rfl zl_X7_84 zYm_g12 ?_
    refine zi_aload0 (n := 43) dX7_nextToken_42 rfl ?_
    refine zg_X7_11 (n := 46) dX7_nextToken_43 rfl zl_X7_71 (zYm_gL hL) ?_
    refine zi_icne (n := 49) (tgt := 53) dX7_nextToken_46 rfl (by decide) (fun h46 => ?_) (fun h46 => ?_)
    · refine zi_aload0 (n := 54) dX7_nextToken_53 rfl ?_
      refine zg_X7_15 (n := 57) dX7_nextToken_54 rfl zl_X7_88 zYm_g15 ?_
      refine zi_i2l (n := 58) dX7_nextToken_57 rfl ?_
      refine zi_ldc2 (n := 61) dX7_nextToken_58 rfl zl_X7_91 ?_
      rw [show (97 : Int64) = (nI 97).toInt64 by decide]
      refine zi_ldc2 (n := 64) dX7_nextToken_61 rfl zl_X7_93 ?_
      rw [show (122 : Int64) = (nI 122).toInt64 by decide]
      refine zi_S3s (mj := zm_X7_in) (n := 67) dX7_nextToken_64 rfl zl_X7_54 zy_X7_in (by decide) (Nat.le_of_ble_eq_true rfl) (c_X7_in) ?_
      refine zi_ifeq_b (n := 70) (tgt := 74) dX7_nextToken_67 rfl (by decide) (fun h67 => ?_) (fun h67 => ?_)
      · refine zi_aload0 (n := 75) dX7_nextToken_74 rfl ?_
        refine zg_X7_15 (n := 78) dX7_nextToken_75 rfl zl_X7_88 zYm_g15 ?_
        refine zi_i2l (n := 79) dX7_nextToken_78 rfl ?_
        refine zi_ldc2 (n := 82) dX7_nextToken_79 rfl zl_X7_95 ?_
        rw [show (48 : Int64) = (nI 48).toInt64 by decide]
        refine zi_ldc2 (n := 85) dX7_nextToken_82 rfl zl_X7_97 ?_
        rw [show (57 : Int64) = (nI 57).toInt64 by decide]
        refine zi_S3s (mj := zm_X7_in) (n := 88) dX7_nextToken_85 rfl zl_X7_54 zy_X7_in (by decide) (Nat.le_of_ble_eq_true rfl) (c_X7_in) ?_
        refine zi_ifeq_b (n := 91) (tgt := 95) dX7_nextToken_88 rfl (by decide) (fun h88 => ?_) (fun h88 => ?_)
        · refine zi_aload0 (n := 96) dX7_nextToken_95 rfl ?_
          refine zg_X7_15 (n := 99) dX7_nextToken_96 rfl zl_X7_88 zYm_g15 ?_
          refine zi_bipush (n := 101) (nI 44) dX7_nextToken_99 rfl (by decide) ?_
          refine zi_iceq (n := 104) (tgt := 113) dX7_nextToken_101 rfl (by decide) (fun h101 => ?_) (fun h101 => ?_)
          · exact absurd (Or.inl h101) h3
          · refine zi_aload0 (n := 105) dX7_nextToken_104 rfl ?_
            refine zg_X7_15 (n := 108) dX7_nextToken_105 rfl zl_X7_88 zYm_g15 ?_
            refine zi_bipush (n := 110) (nI 59) dX7_nextToken_108 rfl (by decide) ?_
            refine zi_icne (n := 113) (tgt := 117) dX7_nextToken_110 rfl (by decide) (fun h110 => ?_) (fun h110 => ?_)
            · refine zi_iconst (n := 118) (nI 0) dX7_nextToken_117 rfl (by decide) ?_
              refine zp_X7_14 (n := 121) dX7_nextToken_118 rfl zl_X7_99 zYm_p14 ?_
              refine zi_aload0 (n := 122) dX7_nextToken_121 rfl ?_
              refine zi_dup (n := 123) dX7_nextToken_122 rfl rfl ?_
              refine zg_X7_12 (n := 126) dX7_nextToken_123 rfl zl_X7_84 zYm_g12 ?_
              refine zi_aload0 (n := 127) dX7_nextToken_126 rfl ?_
              refine zg_X7_12 (n := 130) dX7_nextToken_127 rfl zl_X7_84 zYm_g12 ?_
              refine zi_aload0 (n := 131) dX7_nextToken_130 rfl ?_
              refine zg_X7_11 (n := 134) dX7_nextToken_131 rfl zl_X7_71 (zYm_gL hL) ?_
              refine zi_icge (n := 137) (tgt := 141) dX7_nextToken_134 rfl (by decide) (fun h134 => ?_) (fun h134 => ?_)
              · first | exact absurd g1 h134 | exact absurd h134 g1
              · refine zi_iconst (n := 138) (nI 1) dX7_nextToken_137 rfl (by decide) ?_
                refine zi_goto (tgt := 142) dX7_nextToken_138 (by decide) ?_
                refine zi_iadd (n := 143) dX7_nextToken_142 rfl ?_
                rw [nI_add]
                refine zp_X7_12 (n := 146) dX7_nextToken_143 rfl zl_X7_84 zYm_p12 ?_
                refine zi_aload0 (n := 147) dX7_nextToken_146 rfl ?_
                refine zg_X7_14 (n := 150) dX7_nextToken_147 rfl zl_X7_99 zYm_g14 ?_
                refine zi_iconst (n := 151) (nI 3) dX7_nextToken_150 rfl (by decide) ?_
                refine zi_icne (n := 154) (tgt := 277) dX7_nextToken_151 rfl (by decide) (fun h151 => ?_) (fun h151 => ?_)
                · exact zi_vret dX7_nextToken_277 rfl (by rfl) (by rfl)
                · exact absurd h151 (show ¬ (nI 0 : Int32) = nI 3 by decide)
            · exact absurd (Or.inr h110) h3
        · first | exact absurd h2 h88 | exact absurd h88 h2
      · first | exact absurd h1 h67 | exact absurd h67 h1
    · first | exact absurd g2 h46 | exact absurd h46 g2
set_option maxHeartbeats 4000000 in
set_option maxRecDepth 100000 in
theorem nt_num (hL : Z 165 11 = nI L) (hB : Z 173 = B) (h90 : L ≤ 90) {c s : Nat} {t v f fa : Int32} (hc : c < L) (h1 : ¬ (nI 97 ≤ B c ∧ B c ≤ nI 122)) (h2 : (nI 48 ≤ B c ∧ B c ≤ nI 57)) : zCT E 1 zm_X7_nextToken [.ref (zad E 165)] (zYm Q Z (c, s, t, v, f, fa)) none (zYm Q Z ((zdl B L c 90 (c + 1) (B c - nI 48)).1, c, (if (zdl B L c 90 (c + 1) (B c - nI 48)).1 - c ≤ 2 then nI 3 else nI 0), (zdl B L c 90 (c + 1) (B c - nI 48)).2, f, fa)) := by
  refine zCT.of (by decide +kernel) (Nat.le_of_ble_eq_true rfl) ?_
  have g1 : ¬ nI L ≤ nI c := fun z => absurd ((nI_leI (by omega) (by omega)).mp z) (by omega)
  have g2 : ¬ nI c = nI L := fun z => absurd ((nI_eq (by omega) (by omega)).mp z) (by omega)
  refine zi_aload0 (n := 1) dX7_nextToken_0 rfl ?_
  refine zi_aload0 (n := 2) dX7_nextToken_1 rfl ?_
  refine zg_X7_12 (n := 5) dX7_nextToken_2 rfl zl_X7_84 zYm_g12 ?_
  refine zp_X7_13 (n := 8) dX7_nextToken_5 rfl zl_X7_78 zYm_p13 ?_
  refine zi_aload0 (n := 9) dX7_nextToken_8 rfl ?_
  refine zi_aload0 (n := 10) dX7_nextToken_9 rfl ?_
  refine zg_X7_12 (n := 13) dX7_nextToken_10 rfl zl_X7_84 zYm_g12 ?_
  refine zi_aload0 (n := 14) dX7_nextToken_13 rfl ?_
  refine zg_X7_11 (n := 17) dX7_nextToken_14 rfl zl_X7_71 (zYm_gL hL) ?_
  refine zi_icge (n := 20) (tgt := 32) dX7_nextToken_17 rfl (by decide) (fun h17 => ?_) (fun h17 => ?_)
  · first | exact absurd g1 h17 | exact absurd h17 g1
  · refine zi_aload0 (n := 21) dX7_nextToken_20 rfl ?_
    refine zg_X7_10 (n := 24) dX7_nextToken_21 rfl zl_X7_31 ?_
    refine zi_aload0 (n := 25) dX7_nextToken_24 rfl ?_
    refine zg_X7_12 (n := 28) dX7_nextToken_25 rfl zl_X7_84 zYm_g12 ?_
    refine zi_oald (N := 90) (i := c) (n := 29) dX7_nextToken_28 rfl (by decide) (fun _ => rfl) (by decide) rfl (by omega) (zYm_gB hB) ?_
    refine zi_goto (tgt := 34) dX7_nextToken_29 (by decide) ?_
    refine zp_X7_15 (n := 37) dX7_nextToken_34 rfl zl_X7_88 zYm_p15 ?_
    refine zi_aload0 (n := 38) dX7_nextToken_37 rfl ?_
    refine zi_aload0 (n := 39) dX7_nextToken_38 rfl ?_
    refine zg_X7_12 (n := 42) dX7_nextToken_39 rfl zl_X7_84 zYm_g12 ?_
    refine zi_aload0 (n := 43) dX7_nextToken_42 rfl ?_
    refine zg_X7_11 (n := 46) dX7_nextToken_43 rfl zl_X7_71 (zYm_gL hL) ?_
    refine zi_icne (n := 49) (tgt := 53) dX7_nextToken_46 rfl (by decide) (fun h46 => ?_) (fun h46 => ?_)
    · refine zi_aload0 (n := 54) dX7_nextToken_53 rfl ?_
      refine zg_X7_15 (n := 57) dX7_nextToken_54 rfl zl_X7_88 zYm_g15 ?_
      refine zi_i2l (n := 58) dX7_nextToken_57 rfl ?_
      refine zi_ldc2 (n := 61) dX7_nextToken_58 rfl zl_X7_91 ?_
      rw [show (97 : Int64) = (nI 97).toInt64 by decide]
      refine zi_ldc2 (n := 64) dX7_nextToken_61 rfl zl_X7_93 ?_
      rw [show (122 : Int64) = (nI 122).toInt64 by decide]
      refine zi_S3s (mj := zm_X7_in) (n := 67) dX7_nextToken_64 rfl zl_X7_54 zy_X7_in (by decide) (Nat.le_of_ble_eq_true rfl) (c_X7_in) ?_
      refine zi_ifeq_b (n := 70) (tgt := 74) dX7_nextToken_67 rfl (by decide) (fun h67 => ?_) (fun h67 => ?_)
      · refine zi_aload0 (n := 75) dX7_nextToken_74 rfl ?_
        refine zg_X7_15 (n := 78) dX7_nextToken_75 rfl zl_X7_88 zYm_g15 ?_
        refine zi_i2l (n := 79) dX7_nextToken_78 rfl ?_
        refine zi_ldc2 (n := 82) dX7_nextToken_79 rfl zl_X7_95 ?_
        rw [show (48 : Int64) = (nI 48).toInt64 by decide]
        refine zi_ldc2 (n := 85) dX7_nextToken_82 rfl zl_X7_97 ?_
        rw [show (57 : Int64) = (nI 57).toInt64 by decide]
        refine zi_S3s (mj := zm_X7_in) (n := 88) dX7_nextToken_85 rfl zl_X7_54 zy_X7_in (by decide) (Nat.le_of_ble_eq_true rfl) (c_X7_in) ?_
        refine zi_ifeq_b (n := 91) (tgt := 95) dX7_nextToken_88 rfl (by decide) (fun h88 => ?_) (fun h88 => ?_)
        · first | exact absurd h2 h88 | exact absurd h88 h2
        · refine zi_iconst (n := 92) (nI 3) dX7_nextToken_91 rfl (by decide) ?_
          refine zi_goto (tgt := 118) dX7_nextToken_92 (by decide) ?_
          refine zp_X7_14 (n := 121) dX7_nextToken_118 rfl zl_X7_99 zYm_p14 ?_
          refine zi_aload0 (n := 122) dX7_nextToken_121 rfl ?_
          refine zi_dup (n := 123) dX7_nextToken_122 rfl rfl ?_
          refine zg_X7_12 (n := 126) dX7_nextToken_123 rfl zl_X7_84 zYm_g12 ?_
          refine zi_aload0 (n := 127) dX7_nextToken_126 rfl ?_
          refine zg_X7_12 (n := 130) dX7_nextToken_127 rfl zl_X7_84 zYm_g12 ?_
          refine zi_aload0 (n := 131) dX7_nextToken_130 rfl ?_
          refine zg_X7_11 (n := 134) dX7_nextToken_131 rfl zl_X7_71 (zYm_gL hL) ?_
          refine zi_icge (n := 137) (tgt := 141) dX7_nextToken_134 rfl (by decide) (fun h134 => ?_) (fun h134 => ?_)
          · first | exact absurd g1 h134 | exact absurd h134 g1
          · refine zi_iconst (n := 138) (nI 1) dX7_nextToken_137 rfl (by decide) ?_
            refine zi_goto (tgt := 142) dX7_nextToken_138 (by decide) ?_
            refine zi_iadd (n := 143) dX7_nextToken_142 rfl ?_
            rw [nI_add]
            refine zp_X7_12 (n := 146) dX7_nextToken_143 rfl zl_X7_84 zYm_p12 ?_
            refine zi_aload0 (n := 147) dX7_nextToken_146 rfl ?_
            refine zg_X7_14 (n := 150) dX7_nextToken_147 rfl zl_X7_99 zYm_g14 ?_
            refine zi_iconst (n := 151) (nI 3) dX7_nextToken_150 rfl (by decide) ?_
            refine zi_icne (n := 154) (tgt := 277) dX7_nextToken_151 rfl (by decide) (fun h151 => ?_) (fun h151 => ?_)
            · exact absurd rfl h151
            · refine zi_aload0 (n := 155) dX7_nextToken_154 rfl ?_
              refine zi_dup (n := 156) dX7_nextToken_155 rfl rfl ?_
              refine zg_X7_15 (n := 159) dX7_nextToken_156 rfl zl_X7_88 zYm_g15 ?_
              refine zi_bipush (n := 161) (nI 48) dX7_nextToken_159 rfl (by decide) ?_
              refine zi_isub (n := 162) dX7_nextToken_161 rfl ?_
              refine zp_X7_15 (n := 165) dX7_nextToken_162 rfl zl_X7_88 zYm_p15 ?_
              exact l_X7_nt hL hB h90 90 (c + 1) _ (by omega) (by omega) (by omega) rfl
      · first | exact absurd h1 h67 | exact absurd h67 h1
    · first | exact absurd g2 h46 | exact absurd h46 g2
theorem c_X7_nextToken (hL : Z 165 11 = nI L) (hB : Z 173 = B) (h90 : L ≤ 90) (hy : y.1 ≤ L) : zCT E 1 zm_X7_nextToken [.ref (zad E 165)] (zYm Q Z y) none (zYm Q Z (zNxT B L y)) := by
  obtain ⟨c, s, t, v, f, fa⟩ := y
  change c ≤ L at hy
  show zCT E 1 zm_X7_nextToken [.ref (zad E 165)] (zYm Q Z (c, s, t, v, f, fa)) none (zYm Q Z ((zTk B L c).2.2, c, (zTk B L c).1, (zTk B L c).2.1, f, fa))
  unfold zTk
  by_cases hc : c < L
  · rw [if_pos hc]
    by_cases h1 : (nI 97 ≤ B c ∧ B c ≤ nI 122)
    · rw [if_pos h1]; exact nt_name hL hB h90 hc h1
    · rw [if_neg h1]
      by_cases h2 : (nI 48 ≤ B c ∧ B c ≤ nI 57)
      · rw [if_pos h2]; exact nt_num hL hB h90 hc h1 h2
      · rw [if_neg h2]
        by_cases h3 : B c = nI 44 ∨ B c = nI 59
        · rw [if_pos h3]; exact nt_sign hL hB h90 hc h1 h2 h3
        · rw [if_neg h3]; exact nt_none hL hB h90 hc h1 h2 h3
  · rw [if_neg hc]; exact nt_end hL hB h90 (by omega)
def zBd (k : Int32) (y : zY) : zY := if y.2.2.2.2.1 = 0 then (y.1, y.2.1, y.2.2.1, y.2.2.2.1, k, nI y.2.1) else y
theorem zBd_1 {k : Int32} : (zBd k y).1 = y.1 := by unfold zBd; split <;> rfl
def zMu (B : zF) (L : Nat) (b : Bool) (y : zY) : zY := if (if b then y else zBd (nI 1) y).2.2.2.2.1 = 0 then zNxT B L (if b then y else zBd (nI 1) y) else (if b then y else zBd (nI 1) y)
theorem zMu_le {b : Bool} (h : y.1 ≤ L) : (zMu B L b y).1 ≤ L := by
  have h2 : (if b then y else zBd (nI 1) y).1 ≤ L := by
    split
    · exact h
    · rw [zBd_1]; exact h
  by_cases hb : (if b then y else zBd (nI 1) y).2.2.2.2.1 = 0
  · unfold zMu; rw [if_pos hb]; exact zNxT_le h2
  · unfold zMu; rw [if_neg hb]; exact h2
set_option maxHeartbeats 4000000 in
set_option maxRecDepth 100000 in
theorem c_X7_bad {x : Int32} : zCT E 0 zm_X7_bad [.ref (zad E 165), .int x] (zYm Q Z y) none (zYm Q Z (zBd x y)) := by
  refine zCT.of (by decide +kernel) (Nat.le_of_ble_eq_true rfl) ?_
  refine zi_aload0 (n := 1) dX7_bad_0 rfl ?_
  refine zg_X7_16 (n := 4) dX7_bad_1 rfl zl_X7_75 zYm_g16 ?_
  refine zi_ifne (n := 7) (tgt := 20) dX7_bad_4 rfl (by decide) (fun h4 => ?_) (fun h4 => ?_)
  · exact zi_vret dX7_bad_20 rfl (by rfl) (by first | (rw [show zBd x y = _ from if_neg h4]; done) | (rw [show zBd x y = _ from if_pos h4]))
  · refine zi_aload0 (n := 8) dX7_bad_7 rfl ?_
    refine zi_iload1 (n := 9) dX7_bad_8 rfl ?_
    refine zp_X7_16 (n := 12) dX7_bad_9 rfl zl_X7_75 zYm_p16 ?_
    refine zi_aload0 (n := 13) dX7_bad_12 rfl ?_
    refine zi_aload0 (n := 14) dX7_bad_13 rfl ?_
    refine zg_X7_13 (n := 17) dX7_bad_14 rfl zl_X7_78 zYm_g13 ?_
    refine zp_X7_17 (n := 20) dX7_bad_17 rfl zl_X7_81 zYm_p17 ?_
    exact zi_vret dX7_bad_20 rfl (by rfl) (by first | (rw [show zBd x y = _ from if_neg h4]; done) | (rw [show zBd x y = _ from if_pos h4]))
set_option maxHeartbeats 4000000 in
set_option maxRecDepth 100000 in
theorem t_X7_must (hL : Z 165 11 = nI L) (hB : Z 173 = B) (h90 : L ≤ 90) (hy : y.1 ≤ L) {x1 : Option Value} : zG E zm_X7_must 2 none (zYm Q Z (if y.2.2.2.2.1 = 0 then zNxT B L y else y)) 9 [some (.ref (zad E 165)), x1] [] (zYm Q Z y) := by

  refine zi_aload0 (n := 10) dX7_must_9 rfl ?_
  refine zg_X7_16 (n := 13) dX7_must_10 rfl zl_X7_75 zYm_g16 ?_
  refine zi_ifne (n := 16) (tgt := 20) dX7_must_13 rfl (by decide) (fun h13 => ?_) (fun h13 => ?_)
  · exact zi_vret dX7_must_20 rfl (by rfl) (by first | (rw [if_pos h13]; done) | (rw [if_neg h13]))
  · refine zi_aload0 (n := 17) dX7_must_16 rfl ?_
    refine zi_V0v (mj := zm_X7_nextToken) (n := 20) dX7_must_17 rfl zl_X7_106 zy_X7_nextToken (zrc_X7 _ _) (by decide) (Nat.le_of_ble_eq_true rfl) (c_X7_nextToken hL hB h90 hy) ?_
    exact zi_vret dX7_must_20 rfl (by rfl) (by first | (rw [if_pos h13]; done) | (rw [if_neg h13]))
set_option maxHeartbeats 4000000 in
set_option maxRecDepth 100000 in
theorem c_must_1 (hL : Z 165 11 = nI L) (hB : Z 173 = B) (h90 : L ≤ 90) (hy : y.1 ≤ L) : zCT E 2 zm_X7_must [.ref (zad E 165), .int (nI 1)] (zYm Q Z y) none (zYm Q Z (zMu B L true y)) := by
  refine zCT.of (by decide +kernel) (Nat.le_of_ble_eq_true rfl) ?_
  refine zi_iload1 (n := 1) dX7_must_0 rfl ?_
  refine zi_ifne (n := 4) (tgt := 9) dX7_must_1 rfl (by decide) (fun h1 => ?_) (fun h1 => ?_)
  · exact t_X7_must hL hB h90 hy
  · exact absurd h1 (by decide)
set_option maxHeartbeats 4000000 in
set_option maxRecDepth 100000 in
theorem c_must_0 (hL : Z 165 11 = nI L) (hB : Z 173 = B) (h90 : L ≤ 90) (hy : y.1 ≤ L) : zCT E 2 zm_X7_must [.ref (zad E 165), .int (nI 0)] (zYm Q Z y) none (zYm Q Z (zMu B L false y)) := by
  refine zCT.of (by decide +kernel) (Nat.le_of_ble_eq_true rfl) ?_
  refine zi_iload1 (n := 1) dX7_must_0 rfl ?_
  refine zi_ifne (n := 4) (tgt := 9) dX7_must_1 rfl (by decide) (fun h1 => ?_) (fun h1 => ?_)
  · exact absurd rfl h1
  · refine zi_aload0 (n := 5) dX7_must_4 rfl ?_
    refine zi_iconst (n := 6) (nI 1) dX7_must_5 rfl (by decide) ?_
    refine zi_V1v (mj := zm_X7_bad) (n := 9) dX7_must_6 rfl zl_X7_102 zy_X7_bad (zrc_X7 _ _) (by decide) (Nat.le_of_ble_eq_true rfl) (c_X7_bad) ?_
    exact t_X7_must hL hB h90 (show (zBd (nI 1) y).1 ≤ L by rw [zBd_1]; exact hy)
theorem c_X7_must (hL : Z 165 11 = nI L) (hB : Z 173 = B) (h90 : L ≤ 90) (hy : y.1 ≤ L) {b : Prop} [Decidable b] : zCT E 2 zm_X7_must [.ref (zad E 165), .int (zb b)] (zYm Q Z y) none (zYm Q Z (zMu B L (decide b) y)) := by
  by_cases hb : b
  · rw [show zb b = nI 1 from if_pos hb, decide_eq_true hb]; exact c_must_1 hL hB h90 hy
  · rw [show zb b = nI 0 from if_neg hb, decide_eq_false hb]; exact c_must_0 hL hB h90 hy
set_option maxHeartbeats 4000000 in
set_option maxRecDepth 100000 in
theorem c_X7_isLetter {x : Int32} : zCT E 0 zm_X7_isLetter [.ref (zad E 165), .int x] (zYm Q Z y) (some (.int (zb (y.2.2.2.2.1 = 0 ∧ y.2.2.1 = nI 2 ∧ y.2.2.2.1 = x)))) (zYm Q Z y) := by
  refine zCT.of (by decide +kernel) (Nat.le_of_ble_eq_true rfl) ?_
  refine zi_aload0 (n := 1) dX7_isLetter_0 rfl ?_
  refine zg_X7_16 (n := 4) dX7_isLetter_1 rfl zl_X7_75 zYm_g16 ?_
  refine zi_ifne (n := 7) (tgt := 27) dX7_isLetter_4 rfl (by decide) (fun h4 => ?_) (fun h4 => ?_)
  · refine zi_iconst (n := 28) (nI 0) dX7_isLetter_27 rfl (by decide) ?_
    exact zi_zretF dX7_isLetter_28 rfl (by first | exact fun q => h4 q.1 | exact fun q => h12 q.2.1 | exact fun q => h20 q.2.2) rfl (by rfl)
  · refine zi_aload0 (n := 8) dX7_isLetter_7 rfl ?_
    refine zg_X7_14 (n := 11) dX7_isLetter_8 rfl zl_X7_99 zYm_g14 ?_
    refine zi_iconst (n := 12) (nI 2) dX7_isLetter_11 rfl (by decide) ?_
    refine zi_icne (n := 15) (tgt := 27) dX7_isLetter_12 rfl (by decide) (fun h12 => ?_) (fun h12 => ?_)
    · refine zi_iconst (n := 28) (nI 0) dX7_isLetter_27 rfl (by decide) ?_
      exact zi_zretF dX7_isLetter_28 rfl (by first | exact fun q => h4 q.1 | exact fun q => h12 q.2.1 | exact fun q => h20 q.2.2) rfl (by rfl)
    · refine zi_aload0 (n := 16) dX7_isLetter_15 rfl ?_
      refine zg_X7_15 (n := 19) dX7_isLetter_16 rfl zl_X7_88 zYm_g15 ?_
      refine zi_iload1 (n := 20) dX7_isLetter_19 rfl ?_
      refine zi_icne (n := 23) (tgt := 27) dX7_isLetter_20 rfl (by decide) (fun h20 => ?_) (fun h20 => ?_)
      · refine zi_iconst (n := 28) (nI 0) dX7_isLetter_27 rfl (by decide) ?_
        exact zi_zretF dX7_isLetter_28 rfl (by first | exact fun q => h4 q.1 | exact fun q => h12 q.2.1 | exact fun q => h20 q.2.2) rfl (by rfl)
      · refine zi_iconst (n := 24) (nI 1) dX7_isLetter_23 rfl (by decide) ?_
        refine zi_goto (tgt := 28) dX7_isLetter_24 (by decide) ?_
        exact zi_zretT dX7_isLetter_28 rfl (by exact ⟨h4, h12, h20⟩) rfl (by rfl)
def zNu2 (lo hi : Int32) (y : zY) : zY := if y.2.2.2.2.1 = 0 ∧ ¬ (lo ≤ y.2.2.2.1 ∧ y.2.2.2.1 ≤ hi) then zBd (nI 2) y else y
def zNu1 (y : zY) : zY := if y.2.2.2.2.1 = 0 ∧ ¬ y.2.2.1 = nI 3 then zBd (nI 1) y else y
def zNu (B : zF) (L : Nat) (lo hi : Int32) (y : zY) : Int32 × zY := (if (zNu2 lo hi (zNu1 y)).2.2.2.2.1 = 0 then (zNu2 lo hi (zNu1 y)).2.2.2.1 else lo, zMu B L true (zNu2 lo hi (zNu1 y)))
theorem zNu1_1 : (zNu1 y).1 = y.1 := by unfold zNu1; split; exact zBd_1; rfl
theorem zNu2_1 {lo hi : Int32} : (zNu2 lo hi y).1 = y.1 := by unfold zNu2; split; exact zBd_1; rfl
theorem zNu_le {lo hi : Int32} (h : y.1 ≤ L) : (zNu B L lo hi y).2.1 ≤ L := zMu_le (by rw [zNu2_1, zNu1_1]; exact h)
set_option maxHeartbeats 4000000 in
set_option maxRecDepth 100000 in
theorem t2_X7_number (hL : Z 165 11 = nI L) (hB : Z 173 = B) (h90 : L ≤ 90) (hy : y.1 ≤ L) {lo hi : Int32} : zG E zm_X7_number 3 (some (.int (if y.2.2.2.2.1 = 0 then y.2.2.2.1 else lo))) (zYm Q Z (zMu B L true y)) 47 [some (.ref (zad E 165)), some (.int lo), some (.int hi), none] [] (zYm Q Z y) := by

  refine zi_aload0 (n := 48) dX7_number_47 rfl ?_
  refine zg_X7_16 (n := 51) dX7_number_48 rfl zl_X7_75 zYm_g16 ?_
  refine zi_ifne (n := 54) (tgt := 61) dX7_number_51 rfl (by decide) (fun h51 => ?_) (fun h51 => ?_)
  · refine zi_iload1 (n := 62) dX7_number_61 rfl ?_
    refine zi_istore3 (n := 63) dX7_number_62 rfl (by decide) rfl ?_
    refine zi_aload0 (n := 64) dX7_number_63 rfl ?_
    refine zi_iconst (n := 65) (nI 1) dX7_number_64 rfl (by decide) ?_
    refine zi_V1v (mj := zm_X7_must) (n := 68) dX7_number_65 rfl zl_X7_109 zy_X7_must (zrc_X7 _ _) (by decide) (Nat.le_of_ble_eq_true rfl) (c_must_1 hL hB h90 hy) ?_
    refine zi_iload3 (n := 69) dX7_number_68 rfl ?_
    exact zi_iret dX7_number_69 rfl (by simp [h51]) (by rfl)
  · refine zi_aload0 (n := 55) dX7_number_54 rfl ?_
    refine zg_X7_15 (n := 58) dX7_number_55 rfl zl_X7_88 zYm_g15 ?_
    refine zi_goto (tgt := 62) dX7_number_58 (by decide) ?_
    refine zi_istore3 (n := 63) dX7_number_62 rfl (by decide) rfl ?_
    refine zi_aload0 (n := 64) dX7_number_63 rfl ?_
    refine zi_iconst (n := 65) (nI 1) dX7_number_64 rfl (by decide) ?_
    refine zi_V1v (mj := zm_X7_must) (n := 68) dX7_number_65 rfl zl_X7_109 zy_X7_must (zrc_X7 _ _) (by decide) (Nat.le_of_ble_eq_true rfl) (c_must_1 hL hB h90 hy) ?_
    refine zi_iload3 (n := 69) dX7_number_68 rfl ?_
    exact zi_iret dX7_number_69 rfl (by simp [h51]) (by rfl)
set_option maxHeartbeats 4000000 in
set_option maxRecDepth 100000 in
theorem t1_X7_number (hL : Z 165 11 = nI L) (hB : Z 173 = B) (h90 : L ≤ 90) (hy : y.1 ≤ L) {lo hi : Int32} : zG E zm_X7_number 3 (some (.int (if (zNu2 lo hi y).2.2.2.2.1 = 0 then (zNu2 lo hi y).2.2.2.1 else lo))) (zYm Q Z (zMu B L true (zNu2 lo hi y))) 20 [some (.ref (zad E 165)), some (.int lo), some (.int hi), none] [] (zYm Q Z y) := by
  have hy2 : (zNu2 lo hi y).1 ≤ L := by rw [zNu2_1]; exact hy
  refine zi_aload0 (n := 21) dX7_number_20 rfl ?_
  refine zg_X7_16 (n := 24) dX7_number_21 rfl zl_X7_75 zYm_g16 ?_
  refine zi_ifne (n := 27) (tgt := 47) dX7_number_24 rfl (by decide) (fun h24 => ?_) (fun h24 => ?_)
  · have e2 : zNu2 lo hi y = y := if_neg (fun z => h24 z.1)
    rw [e2] at hy2 ⊢
    exact t2_X7_number hL hB h90 hy2
  · refine zi_aload0 (n := 28) dX7_number_27 rfl ?_
    refine zg_X7_15 (n := 31) dX7_number_28 rfl zl_X7_88 zYm_g15 ?_
    refine zi_i2l (n := 32) dX7_number_31 rfl ?_
    refine zi_iload1 (n := 33) dX7_number_32 rfl ?_
    refine zi_i2l (n := 34) dX7_number_33 rfl ?_
    refine zi_iload2 (n := 35) dX7_number_34 rfl ?_
    refine zi_i2l (n := 36) dX7_number_35 rfl ?_
    refine zi_S3s (mj := zm_X7_in) (n := 39) dX7_number_36 rfl zl_X7_54 zy_X7_in (by decide) (Nat.le_of_ble_eq_true rfl) (c_X7_in) ?_
    refine zi_ifne_b (n := 42) (tgt := 47) dX7_number_39 rfl (by decide) (fun h39 => ?_) (fun h39 => ?_)
    · have e2 : zNu2 lo hi y = y := if_neg (fun z => z.2 h39)
      rw [e2] at hy2 ⊢
      exact t2_X7_number hL hB h90 hy2
    · have e2 : zNu2 lo hi y = zBd (nI 2) y := if_pos ⟨h24, h39⟩
      refine zi_aload0 (n := 43) dX7_number_42 rfl ?_
      refine zi_iconst (n := 44) (nI 2) dX7_number_43 rfl (by decide) ?_
      refine zi_V1v (mj := zm_X7_bad) (n := 47) dX7_number_44 rfl zl_X7_102 zy_X7_bad (zrc_X7 _ _) (by decide) (Nat.le_of_ble_eq_true rfl) (c_X7_bad) ?_
      rw [e2] at hy2 ⊢
      exact t2_X7_number hL hB h90 hy2
set_option maxHeartbeats 4000000 in
set_option maxRecDepth 100000 in
theorem c_X7_number (hL : Z 165 11 = nI L) (hB : Z 173 = B) (h90 : L ≤ 90) (hy : y.1 ≤ L) {lo hi : Int32} : zCT E 3 zm_X7_number [.ref (zad E 165), .int lo, .int hi] (zYm Q Z y) (some (.int (zNu B L lo hi y).1)) (zYm Q Z (zNu B L lo hi y).2) := by
  refine zCT.of (by decide +kernel) (Nat.le_of_ble_eq_true rfl) ?_
  have hy2 : (zNu1 y).1 ≤ L := by rw [zNu1_1]; exact hy
  unfold zNu
  dsimp only
  refine zi_aload0 (n := 1) dX7_number_0 rfl ?_
  refine zg_X7_16 (n := 4) dX7_number_1 rfl zl_X7_75 zYm_g16 ?_
  refine zi_ifne (n := 7) (tgt := 20) dX7_number_4 rfl (by decide) (fun h4 => ?_) (fun h4 => ?_)
  · have e2 : zNu1 y = y := if_neg (fun z => h4 z.1)
    rw [e2] at hy2 ⊢
    exact t1_X7_number hL hB h90 hy2
  · refine zi_aload0 (n := 8) dX7_number_7 rfl ?_
    refine zg_X7_14 (n := 11) dX7_number_8 rfl zl_X7_99 zYm_g14 ?_
    refine zi_iconst (n := 12) (nI 3) dX7_number_11 rfl (by decide) ?_
    refine zi_iceq (n := 15) (tgt := 20) dX7_number_12 rfl (by decide) (fun h12 => ?_) (fun h12 => ?_)
    · have e2 : zNu1 y = y := if_neg (fun z => z.2 h12)
      rw [e2] at hy2 ⊢
      exact t1_X7_number hL hB h90 hy2
    · have e2 : zNu1 y = zBd (nI 1) y := if_pos ⟨h4, h12⟩
      refine zi_aload0 (n := 16) dX7_number_15 rfl ?_
      refine zi_iconst (n := 17) (nI 1) dX7_number_16 rfl (by decide) ?_
      refine zi_V1v (mj := zm_X7_bad) (n := 20) dX7_number_17 rfl zl_X7_102 zy_X7_bad (zrc_X7 _ _) (by decide) (Nat.le_of_ble_eq_true rfl) (c_X7_bad) ?_
      rw [e2] at hy2 ⊢
      exact t1_X7_number hL hB h90 hy2
def zSg (B : zF) (L : Nat) (c : Int32) (y : zY) : zY := zMu B L (decide (y.2.2.1 = nI 4 ∧ y.2.2.2.1 = c)) y
theorem zSg_le {c : Int32} (h : y.1 ≤ L) : (zSg B L c y).1 ≤ L := zMu_le h
set_option maxHeartbeats 4000000 in
set_option maxRecDepth 100000 in
theorem c_X7_mustSign (hL : Z 165 11 = nI L) (hB : Z 173 = B) (h90 : L ≤ 90) (hy : y.1 ≤ L) {x : Int32} : zCT E 3 zm_X7_mustSign [.ref (zad E 165), .int x] (zYm Q Z y) none (zYm Q Z (zSg B L x y)) := by
  refine zCT.of (by decide +kernel) (Nat.le_of_ble_eq_true rfl) ?_
  refine zi_aload0 (n := 1) dX7_mustSign_0 rfl ?_
  refine zi_aload0 (n := 2) dX7_mustSign_1 rfl ?_
  refine zg_X7_14 (n := 5) dX7_mustSign_2 rfl zl_X7_99 zYm_g14 ?_
  refine zi_iconst (n := 6) (nI 4) dX7_mustSign_5 rfl (by decide) ?_
  refine zi_icne (n := 9) (tgt := 21) dX7_mustSign_6 rfl (by decide) (fun h6 => ?_) (fun h6 => ?_)
  · have e1 : zSg B L x y = zMu B L false y := by unfold zSg; rw [decide_eq_false (fun q => h6 q.1)]
    refine zi_iconst (n := 22) (nI 0) dX7_mustSign_21 rfl (by decide) ?_
    rw [e1]
    first
      | (refine zi_V1v (mj := zm_X7_must) (n := 25) dX7_mustSign_22 rfl zl_X7_109 zy_X7_must (zrc_X7 _ _) (by decide) (Nat.le_of_ble_eq_true rfl) (c_must_1 hL hB h90 hy) ?_; exact zi_vret dX7_mustSign_25 rfl (by rfl) (by rfl))
      | (refine zi_V1v (mj := zm_X7_must) (n := 25) dX7_mustSign_22 rfl zl_X7_109 zy_X7_must (zrc_X7 _ _) (by decide) (Nat.le_of_ble_eq_true rfl) (c_must_0 hL hB h90 hy) ?_; exact zi_vret dX7_mustSign_25 rfl (by rfl) (by rfl))
  · refine zi_aload0 (n := 10) dX7_mustSign_9 rfl ?_
    refine zg_X7_15 (n := 13) dX7_mustSign_10 rfl zl_X7_88 zYm_g15 ?_
    refine zi_iload1 (n := 14) dX7_mustSign_13 rfl ?_
    refine zi_icne (n := 17) (tgt := 21) dX7_mustSign_14 rfl (by decide) (fun h14 => ?_) (fun h14 => ?_)
    · have e1 : zSg B L x y = zMu B L false y := by unfold zSg; rw [decide_eq_false (fun q => h14 q.2)]
      refine zi_iconst (n := 22) (nI 0) dX7_mustSign_21 rfl (by decide) ?_
      rw [e1]
      first
        | (refine zi_V1v (mj := zm_X7_must) (n := 25) dX7_mustSign_22 rfl zl_X7_109 zy_X7_must (zrc_X7 _ _) (by decide) (Nat.le_of_ble_eq_true rfl) (c_must_1 hL hB h90 hy) ?_; exact zi_vret dX7_mustSign_25 rfl (by rfl) (by rfl))
        | (refine zi_V1v (mj := zm_X7_must) (n := 25) dX7_mustSign_22 rfl zl_X7_109 zy_X7_must (zrc_X7 _ _) (by decide) (Nat.le_of_ble_eq_true rfl) (c_must_0 hL hB h90 hy) ?_; exact zi_vret dX7_mustSign_25 rfl (by rfl) (by rfl))
    · have e1 : zSg B L x y = zMu B L true y := by unfold zSg; rw [decide_eq_true ⟨h6, h14⟩]
      refine zi_iconst (n := 18) (nI 1) dX7_mustSign_17 rfl (by decide) ?_
      refine zi_goto (tgt := 22) dX7_mustSign_18 (by decide) ?_
      rw [e1]
      first
        | (refine zi_V1v (mj := zm_X7_must) (n := 25) dX7_mustSign_22 rfl zl_X7_109 zy_X7_must (zrc_X7 _ _) (by decide) (Nat.le_of_ble_eq_true rfl) (c_must_1 hL hB h90 hy) ?_; exact zi_vret dX7_mustSign_25 rfl (by rfl) (by rfl))
        | (refine zi_V1v (mj := zm_X7_must) (n := 25) dX7_mustSign_22 rfl zl_X7_109 zy_X7_must (zrc_X7 _ _) (by decide) (Nat.le_of_ble_eq_true rfl) (c_must_0 hL hB h90 hy) ?_; exact zi_vret dX7_mustSign_25 rfl (by rfl) (by rfl))
set_option maxHeartbeats 4000000 in
set_option maxRecDepth 100000 in
theorem c_X7_begin (hL : Z 165 11 = nI L) (hB : Z 173 = B) (h90 : L ≤ 90) : zCT E 2 zm_X7_begin [.ref (zad E 165)] (zYm Q Z y) none (zYm Q Z (zNxT B L (0, y.2.1, y.2.2.1, y.2.2.2.1, nI 0, y.2.2.2.2.2))) := by
  refine zCT.of (by decide +kernel) (Nat.le_of_ble_eq_true rfl) ?_
  refine zi_aload0 (n := 1) dX7_begin_0 rfl ?_
  refine zi_iconst (n := 2) (nI 0) dX7_begin_1 rfl (by decide) ?_
  refine zp_X7_12 (n := 5) dX7_begin_2 rfl zl_X7_84 (zYm_p12 (x := 0)) ?_
  refine zi_aload0 (n := 6) dX7_begin_5 rfl ?_
  refine zi_iconst (n := 7) (nI 0) dX7_begin_6 rfl (by decide) ?_
  refine zp_X7_16 (n := 10) dX7_begin_7 rfl zl_X7_75 zYm_p16 ?_
  refine zi_aload0 (n := 11) dX7_begin_10 rfl ?_
  refine zi_V0v (mj := zm_X7_nextToken) (n := 14) dX7_begin_11 rfl zl_X7_106 zy_X7_nextToken (zrc_X7 _ _) (by decide) (Nat.le_of_ble_eq_true rfl) (c_X7_nextToken hL hB h90 (Nat.zero_le _)) ?_
  exact zi_vret dX7_begin_14 rfl (by rfl) (by rfl)
def zkb (x : Int32) : Int32 := if x = nI 112 then nI 1 else if x = nI 108 then nI 2 else if x = nI 98 then nI 3 else if x = nI 100 then nI 4 else if x = nI 115 then nI 5 else -1000000
set_option maxHeartbeats 4000000 in
set_option maxRecDepth 100000 in
theorem c_X7_kindBy {x : Int32} : zCT E 0 zm_X7_kindBy [.int x] M (some (.int (zkb x))) M := by
  refine zCT.of (by decide +kernel) (Nat.le_of_ble_eq_true rfl) ?_
  refine zi_iload0 (n := 1) dX7_kindBy_0 rfl ?_
  refine zi_bipush (n := 3) (nI 112) dX7_kindBy_1 rfl (by decide) ?_
  refine zi_icne (n := 6) (tgt := 10) dX7_kindBy_3 rfl (by decide) (fun h3 => ?_) (fun h3 => ?_)
  · refine zi_iload0 (n := 11) dX7_kindBy_10 rfl ?_
    refine zi_bipush (n := 13) (nI 108) dX7_kindBy_11 rfl (by decide) ?_
    refine zi_icne (n := 16) (tgt := 20) dX7_kindBy_13 rfl (by decide) (fun h13 => ?_) (fun h13 => ?_)
    · refine zi_iload0 (n := 21) dX7_kindBy_20 rfl ?_
      refine zi_bipush (n := 23) (nI 98) dX7_kindBy_21 rfl (by decide) ?_
      refine zi_icne (n := 26) (tgt := 30) dX7_kindBy_23 rfl (by decide) (fun h23 => ?_) (fun h23 => ?_)
      · refine zi_iload0 (n := 31) dX7_kindBy_30 rfl ?_
        refine zi_bipush (n := 33) (nI 100) dX7_kindBy_31 rfl (by decide) ?_
        refine zi_icne (n := 36) (tgt := 40) dX7_kindBy_33 rfl (by decide) (fun h33 => ?_) (fun h33 => ?_)
        · refine zi_iload0 (n := 41) dX7_kindBy_40 rfl ?_
          refine zi_bipush (n := 43) (nI 115) dX7_kindBy_41 rfl (by decide) ?_
          refine zi_icne (n := 46) (tgt := 50) dX7_kindBy_43 rfl (by decide) (fun h43 => ?_) (fun h43 => ?_)
          · refine zi_ldc (n := 52) dX7_kindBy_50 rfl zl_X7_87 ?_
            exact zi_iret dX7_kindBy_52 rfl (by simp (decide := true) only [zkb, h3, h13, h23, h33, h43, if_true, if_false]) (by rfl)
          · refine zi_iconst (n := 47) (nI 5) dX7_kindBy_46 rfl (by decide) ?_
            refine zi_goto (tgt := 52) dX7_kindBy_47 (by decide) ?_
            exact zi_iret dX7_kindBy_52 rfl (by simp (decide := true) only [zkb, h3, h13, h23, h33, h43, if_true, if_false]) (by rfl)
        · refine zi_iconst (n := 37) (nI 4) dX7_kindBy_36 rfl (by decide) ?_
          refine zi_goto (tgt := 52) dX7_kindBy_37 (by decide) ?_
          exact zi_iret dX7_kindBy_52 rfl (by simp (decide := true) only [zkb, h3, h13, h23, h33, if_true, if_false]) (by rfl)
      · refine zi_iconst (n := 27) (nI 3) dX7_kindBy_26 rfl (by decide) ?_
        refine zi_goto (tgt := 52) dX7_kindBy_27 (by decide) ?_
        exact zi_iret dX7_kindBy_52 rfl (by simp (decide := true) only [zkb, h3, h13, h23, if_true, if_false]) (by rfl)
    · refine zi_iconst (n := 17) (nI 2) dX7_kindBy_16 rfl (by decide) ?_
      refine zi_goto (tgt := 52) dX7_kindBy_17 (by decide) ?_
      exact zi_iret dX7_kindBy_52 rfl (by simp (decide := true) only [zkb, h3, h13, if_true, if_false]) (by rfl)
  · refine zi_iconst (n := 7) (nI 1) dX7_kindBy_6 rfl (by decide) ?_
    refine zi_goto (tgt := 52) dX7_kindBy_7 (by decide) ?_
    exact zi_iret dX7_kindBy_52 rfl (by simp (decide := true) only [zkb, h3, if_true, if_false]) (by rfl)
set_option maxHeartbeats 4000000 in
set_option maxRecDepth 100000 in
theorem c_X7_isSort : zCT E 1 zm_X7_isSort [.ref (zad E 165)] (zYm Q Z y) (some (.int (zb (y.2.2.2.2.1 = 0 ∧ y.2.2.1 = nI 2 ∧ ¬ zkb y.2.2.2.1 = -1000000)))) (zYm Q Z y) := by
  refine zCT.of (by decide +kernel) (Nat.le_of_ble_eq_true rfl) ?_
  refine zi_aload0 (n := 1) dX7_isSort_0 rfl ?_
  refine zg_X7_16 (n := 4) dX7_isSort_1 rfl zl_X7_75 zYm_g16 ?_
  refine zi_ifne (n := 7) (tgt := 31) dX7_isSort_4 rfl (by decide) (fun h4 => ?_) (fun h4 => ?_)
  · refine zi_iconst (n := 32) (nI 0) dX7_isSort_31 rfl (by decide) ?_
    exact zi_zretF dX7_isSort_32 rfl (by first | exact fun q => h4 q.1 | exact fun q => h12 q.2.1 | exact fun q => q.2.2 h24) rfl (by rfl)
  · refine zi_aload0 (n := 8) dX7_isSort_7 rfl ?_
    refine zg_X7_14 (n := 11) dX7_isSort_8 rfl zl_X7_99 zYm_g14 ?_
    refine zi_iconst (n := 12) (nI 2) dX7_isSort_11 rfl (by decide) ?_
    refine zi_icne (n := 15) (tgt := 31) dX7_isSort_12 rfl (by decide) (fun h12 => ?_) (fun h12 => ?_)
    · refine zi_iconst (n := 32) (nI 0) dX7_isSort_31 rfl (by decide) ?_
      exact zi_zretF dX7_isSort_32 rfl (by first | exact fun q => h4 q.1 | exact fun q => h12 q.2.1 | exact fun q => q.2.2 h24) rfl (by rfl)
    · refine zi_aload0 (n := 16) dX7_isSort_15 rfl ?_
      refine zg_X7_15 (n := 19) dX7_isSort_16 rfl zl_X7_88 zYm_g15 ?_
      refine zi_S1s (mj := zm_X7_kindBy) (n := 22) dX7_isSort_19 rfl zl_X7_116 zy_X7_kindBy (by decide) (Nat.le_of_ble_eq_true rfl) (c_X7_kindBy) ?_
      refine zi_ldc (n := 24) dX7_isSort_22 rfl zl_X7_87 ?_
      refine zi_iceq (n := 27) (tgt := 31) dX7_isSort_24 rfl (by decide) (fun h24 => ?_) (fun h24 => ?_)
      · refine zi_iconst (n := 32) (nI 0) dX7_isSort_31 rfl (by decide) ?_
        exact zi_zretF dX7_isSort_32 rfl (by first | exact fun q => h4 q.1 | exact fun q => h12 q.2.1 | exact fun q => q.2.2 h24) rfl (by rfl)
      · refine zi_iconst (n := 28) (nI 1) dX7_isSort_27 rfl (by decide) ?_
        refine zi_goto (tgt := 32) dX7_isSort_28 (by decide) ?_
        exact zi_zretT dX7_isSort_32 rfl (by exact ⟨h4, h12, h24⟩) rfl (by rfl)
end ZMa
