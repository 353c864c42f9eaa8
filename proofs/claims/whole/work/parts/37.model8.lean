section ZM8
variable {E : zE} {Q : Nat → Nat → Nat → Int32} {Z : zS} {M M1 : zMem} {n p d : Nat} {f : zF}
def zbtM (f : zF) (n : Nat) : Int32 := if encO (nextM f n) = -1000000 then nI 99 else encO (nextM f n)
def zsoM (n : Nat) (it : Nat → Int32) : Nat → Nat → Bool → zF → Bool × zF
  | 0, _, b, f => (b, f)
  | k + 1, i, b, f => zsoM n it k (i + 1) (b && decide (zbtM f n = it i)) (noonM f n)
def zwoM (g : zF) (n pl : Nat) (it : Nat → Int32) (m : Nat) : Nat → Nat → Int32 → zF → Int32 × zF
  | 0, _, b, f => (b, f)
  | k + 1, v, b, f => zwoM g n pl it m k (v + 1) (b ||| (if (zsoM n it m 0 true (upd (zly g f) pl (nI v))).1 then nI 1 <<< (nI v &&& 31) else nI 0)) (zsoM n it m 0 true (upd (zly g f) pl (nI v))).2
theorem zKd.kind {f : zF} {v : Nat} (h : zKd f n) (hv : 1 ≤ v ∧ v ≤ 5) : zKd (upd f (6 + 5 * p) (nI v)) n := by
  refine ⟨?_, h.2.1, fun q hq => ?_⟩
  · unfold upd; rw [if_neg (by omega)]; exact h.1
  · unfold upd
    split
    · exact ⟨v, hv.1, hv.2, rfl⟩
    · exact h.2.2 q hq
set_option maxHeartbeats 4000000 in
set_option maxRecDepth 100000 in
theorem l_X7_isSo {o m : Nat} (hom : o + m ≤ 320) {r : Bool × zF} : ∀ k i (b : Bool) (f : zF) (x5 x6 : Option Value), i + k = m → zKd f n → zsoM n (fun k => Z 168 (o + k)) k i b f = r → zG E zm_X7_isSo 4 (some (.int (zb (r.1 = true)))) (Q, va_up Z 171 r.2) 5 [some (.ref (zad E 165)), some (.int (nI o)), some (.int (nI m)), some (.int (zB1 b)), some (.int (nI i)), x5, x6] [] (Q, va_up Z 171 f) := by
  intro k
  induction k with
  | zero =>
    intro i b f x5 x6 hi hf hr
    subst hr
    refine zi_iload4 (n := 7) dX7_isSo_5 rfl ?_
    refine zi_iload2 (n := 8) dX7_isSo_7 rfl ?_
    refine zi_icge (n := 11) (tgt := 71) dX7_isSo_8 rfl (by decide) (fun h8 => ?_) (fun h8 => ?_)
    · refine zi_iload3 (n := 72) dX7_isSo_71 rfl ?_
      exact zi_zret dX7_isSo_72 rfl (by rcases b with _ | _ <;> rfl) rfl (by rfl)
    · exact absurd (nI_le (by omega) (by omega)) h8
  | succ k ih =>
    intro i b f x5 x6 hi hf hr
    rcases b with _ | _
    · refine zi_iload4 (n := 7) dX7_isSo_5 rfl ?_
      refine zi_iload2 (n := 8) dX7_isSo_7 rfl ?_
      refine zi_icge (n := 11) (tgt := 71) dX7_isSo_8 rfl (by decide) (fun h8 => ?_) (fun h8 => ?_)
      · exact absurd ((nI_leI (by omega) (by omega)).mp h8) (by omega)
      · refine zi_aload0 (n := 12) dX7_isSo_11 rfl ?_
        refine zg_X7_7 (n := 15) dX7_isSo_12 rfl zl_X7_25 ?_
        refine zi_S1s (mj := zm_X7_nextOf) (n := 18) dX7_isSo_15 rfl zl_X7_161 zy_X7_nextOf (by decide) (Nat.le_of_ble_eq_true rfl) (c_X7_nextOf (Or.inr rfl) hf.1 hf.2.1) ?_
        refine zi_istore5 (n := 20) dX7_isSo_18 rfl (by decide) rfl ?_
        refine zi_iload3 (n := 21) dX7_isSo_20 rfl ?_
        refine zi_ifeq (n := 24) (tgt := 54) dX7_isSo_21 rfl (by decide) (fun h21 => ?_) (fun h21 => ?_)
        · refine zi_iconst (n := 55) (nI 0) dX7_isSo_54 rfl (by decide) ?_
          refine zi_istore3 (n := 56) dX7_isSo_55 rfl (by decide) rfl ?_
          refine zi_aload0 (n := 57) dX7_isSo_56 rfl ?_
          refine zg_X7_7 (n := 60) dX7_isSo_57 rfl zl_X7_25 ?_
          refine zi_S1s (mj := zm_X7_noonOf) (n := 63) dX7_isSo_60 rfl zl_X7_168 zy_X7_noonOf (by decide) (Nat.le_of_ble_eq_true rfl) (c_X7_noonOf (Or.inr rfl) hf) ?_
          refine zi_istore6 (n := 65) dX7_isSo_63 rfl (by decide) rfl ?_
          refine zi_iinc4 (n := 68) (nI (i + 1)) dX7_isSo_65 rfl (by decide) rfl (zi1 _) ?_
          refine zi_goto (tgt := 5) dX7_isSo_68 (by decide) ?_
          first | exact ih (i + 1) true _ _ _ (by omega) hf.noon (by rw [← hr, zsoM]; first | (simp [zbtM, h8, h21]; done) | (rw [show zbtM f n = encO (nextM f n) from if_neg h28]; simp [h47]; done)) | exact ih (i + 1) false _ _ _ (by omega) hf.noon (by rw [← hr, zsoM]; first | (simp [zbtM, h8, h21]; done) | (rw [show zbtM f n = encO (nextM f n) from if_neg h28]; simp [h47]; done))
        · first | exact absurd h21 (by decide) | exact absurd rfl h21
    · refine zi_iload4 (n := 7) dX7_isSo_5 rfl ?_
      refine zi_iload2 (n := 8) dX7_isSo_7 rfl ?_
      refine zi_icge (n := 11) (tgt := 71) dX7_isSo_8 rfl (by decide) (fun h8 => ?_) (fun h8 => ?_)
      · exact absurd ((nI_leI (by omega) (by omega)).mp h8) (by omega)
      · refine zi_aload0 (n := 12) dX7_isSo_11 rfl ?_
        refine zg_X7_7 (n := 15) dX7_isSo_12 rfl zl_X7_25 ?_
        refine zi_S1s (mj := zm_X7_nextOf) (n := 18) dX7_isSo_15 rfl zl_X7_161 zy_X7_nextOf (by decide) (Nat.le_of_ble_eq_true rfl) (c_X7_nextOf (Or.inr rfl) hf.1 hf.2.1) ?_
        refine zi_istore5 (n := 20) dX7_isSo_18 rfl (by decide) rfl ?_
        refine zi_iload3 (n := 21) dX7_isSo_20 rfl ?_
        refine zi_ifeq (n := 24) (tgt := 54) dX7_isSo_21 rfl (by decide) (fun h21 => ?_) (fun h21 => ?_)
        · first | exact absurd h21 (by decide) | exact absurd rfl h21
        · refine zi_iload5 (n := 26) dX7_isSo_24 rfl ?_
          refine zi_ldc (n := 28) dX7_isSo_26 rfl zl_X7_87 ?_
          refine zi_icne (n := 31) (tgt := 36) dX7_isSo_28 rfl (by decide) (fun h28 => ?_) (fun h28 => ?_)
          · refine zi_iload5 (n := 38) dX7_isSo_36 rfl ?_
            refine zi_aload0 (n := 39) dX7_isSo_38 rfl ?_
            refine zg_X7_4 (n := 42) dX7_isSo_39 rfl zl_X7_16 ?_
            refine zi_iload1 (n := 43) dX7_isSo_42 rfl ?_
            refine zi_iload4 (n := 45) dX7_isSo_43 rfl ?_
            refine zi_iadd (n := 46) dX7_isSo_45 rfl ?_
            rw [nI_add]
            refine zi_oald (N := 320) (i := o + i) (n := 47) dX7_isSo_46 rfl (by decide) (fun _ => rfl) (by decide) rfl (by omega) (zfn _ _ _ _ (by decide) _) ?_
            refine zi_icne (n := 50) (tgt := 54) dX7_isSo_47 rfl (by decide) (fun h47 => ?_) (fun h47 => ?_)
            · refine zi_iconst (n := 55) (nI 0) dX7_isSo_54 rfl (by decide) ?_
              refine zi_istore3 (n := 56) dX7_isSo_55 rfl (by decide) rfl ?_
              refine zi_aload0 (n := 57) dX7_isSo_56 rfl ?_
              refine zg_X7_7 (n := 60) dX7_isSo_57 rfl zl_X7_25 ?_
              refine zi_S1s (mj := zm_X7_noonOf) (n := 63) dX7_isSo_60 rfl zl_X7_168 zy_X7_noonOf (by decide) (Nat.le_of_ble_eq_true rfl) (c_X7_noonOf (Or.inr rfl) hf) ?_
              refine zi_istore6 (n := 65) dX7_isSo_63 rfl (by decide) rfl ?_
              refine zi_iinc4 (n := 68) (nI (i + 1)) dX7_isSo_65 rfl (by decide) rfl (zi1 _) ?_
              refine zi_goto (tgt := 5) dX7_isSo_68 (by decide) ?_
              first | exact ih (i + 1) true _ _ _ (by omega) hf.noon (by rw [← hr, zsoM]; first | (simp [zbtM, h8, h21, h28, h47]; done) | (rw [show zbtM f n = encO (nextM f n) from if_neg h28]; simp [h47]; done)) | exact ih (i + 1) false _ _ _ (by omega) hf.noon (by rw [← hr, zsoM]; first | (simp [zbtM, h8, h21, h28, h47]; done) | (rw [show zbtM f n = encO (nextM f n) from if_neg h28]; simp [h47]; done))
            · refine zi_iconst (n := 51) (nI 1) dX7_isSo_50 rfl (by decide) ?_
              refine zi_goto (tgt := 55) dX7_isSo_51 (by decide) ?_
              refine zi_istore3 (n := 56) dX7_isSo_55 rfl (by decide) rfl ?_
              refine zi_aload0 (n := 57) dX7_isSo_56 rfl ?_
              refine zg_X7_7 (n := 60) dX7_isSo_57 rfl zl_X7_25 ?_
              refine zi_S1s (mj := zm_X7_noonOf) (n := 63) dX7_isSo_60 rfl zl_X7_168 zy_X7_noonOf (by decide) (Nat.le_of_ble_eq_true rfl) (c_X7_noonOf (Or.inr rfl) hf) ?_
              refine zi_istore6 (n := 65) dX7_isSo_63 rfl (by decide) rfl ?_
              refine zi_iinc4 (n := 68) (nI (i + 1)) dX7_isSo_65 rfl (by decide) rfl (zi1 _) ?_
              refine zi_goto (tgt := 5) dX7_isSo_68 (by decide) ?_
              first | exact ih (i + 1) true _ _ _ (by omega) hf.noon (by rw [← hr, zsoM]; first | (simp [zbtM, h8, h21, h28, h47]; done) | (rw [show zbtM f n = encO (nextM f n) from if_neg h28]; simp [h47]; done)) | exact ih (i + 1) false _ _ _ (by omega) hf.noon (by rw [← hr, zsoM]; first | (simp [zbtM, h8, h21, h28, h47]; done) | (rw [show zbtM f n = encO (nextM f n) from if_neg h28]; simp [h47]; done))
          · refine zi_bipush (n := 33) (nI 99) dX7_isSo_31 rfl (by decide) ?_
            refine zi_goto (tgt := 38) dX7_isSo_33 (by decide) ?_
            refine zi_aload0 (n := 39) dX7_isSo_38 rfl ?_
            refine zg_X7_4 (n := 42) dX7_isSo_39 rfl zl_X7_16 ?_
            refine zi_iload1 (n := 43) dX7_isSo_42 rfl ?_
            refine zi_iload4 (n := 45) dX7_isSo_43 rfl ?_
            refine zi_iadd (n := 46) dX7_isSo_45 rfl ?_
            rw [nI_add]
            refine zi_oald (N := 320) (i := o + i) (n := 47) dX7_isSo_46 rfl (by decide) (fun _ => rfl) (by decide) rfl (by omega) (zfn _ _ _ _ (by decide) _) ?_
            refine zi_icne (n := 50) (tgt := 54) dX7_isSo_47 rfl (by decide) (fun h47 => ?_) (fun h47 => ?_)
            · refine zi_iconst (n := 55) (nI 0) dX7_isSo_54 rfl (by decide) ?_
              refine zi_istore3 (n := 56) dX7_isSo_55 rfl (by decide) rfl ?_
              refine zi_aload0 (n := 57) dX7_isSo_56 rfl ?_
              refine zg_X7_7 (n := 60) dX7_isSo_57 rfl zl_X7_25 ?_
              refine zi_S1s (mj := zm_X7_noonOf) (n := 63) dX7_isSo_60 rfl zl_X7_168 zy_X7_noonOf (by decide) (Nat.le_of_ble_eq_true rfl) (c_X7_noonOf (Or.inr rfl) hf) ?_
              refine zi_istore6 (n := 65) dX7_isSo_63 rfl (by decide) rfl ?_
              refine zi_iinc4 (n := 68) (nI (i + 1)) dX7_isSo_65 rfl (by decide) rfl (zi1 _) ?_
              refine zi_goto (tgt := 5) dX7_isSo_68 (by decide) ?_
              first | exact ih (i + 1) true _ _ _ (by omega) hf.noon (by rw [← hr, zsoM]; first | (simp [zbtM, h8, h21, h28, h47]; done) | (rw [show zbtM f n = encO (nextM f n) from if_neg h28]; simp [h47]; done)) | exact ih (i + 1) false _ _ _ (by omega) hf.noon (by rw [← hr, zsoM]; first | (simp [zbtM, h8, h21, h28, h47]; done) | (rw [show zbtM f n = encO (nextM f n) from if_neg h28]; simp [h47]; done))
            · refine zi_iconst (n := 51) (nI 1) dX7_isSo_50 rfl (by decide) ?_
              refine zi_goto (tgt := 55) dX7_isSo_51 (by decide) ?_
              refine zi_istore3 (n := 56) dX7_isSo_55 rfl (by decide) rfl ?_
              refine zi_aload0 (n := 57) dX7_isSo_56 rfl ?_
              refine zg_X7_7 (n := 60) dX7_isSo_57 rfl zl_X7_25 ?_
              refine zi_S1s (mj := zm_X7_noonOf) (n := 63) dX7_isSo_60 rfl zl_X7_168 zy_X7_noonOf (by decide) (Nat.le_of_ble_eq_true rfl) (c_X7_noonOf (Or.inr rfl) hf) ?_
              refine zi_istore6 (n := 65) dX7_isSo_63 rfl (by decide) rfl ?_
              refine zi_iinc4 (n := 68) (nI (i + 1)) dX7_isSo_65 rfl (by decide) rfl (zi1 _) ?_
              refine zi_goto (tgt := 5) dX7_isSo_68 (by decide) ?_
              first | exact ih (i + 1) true _ _ _ (by omega) hf.noon (by rw [← hr, zsoM]; first | (simp [zbtM, h8, h21, h28, h47]; done) | (rw [show zbtM f n = encO (nextM f n) from if_neg h28]; simp [h47]; done)) | exact ih (i + 1) false _ _ _ (by omega) hf.noon (by rw [← hr, zsoM]; first | (simp [zbtM, h8, h21, h28, h47]; done) | (rw [show zbtM f n = encO (nextM f n) from if_neg h28]; simp [h47]; done))
set_option maxHeartbeats 4000000 in
set_option maxRecDepth 100000 in
theorem c_X7_isSo {o m : Nat} (hom : o + m ≤ 320) (hf : zKd f n) : zCT E 4 zm_X7_isSo [.ref (zad E 165), .int (nI o), .int (nI m)] (Q, va_up Z 171 f) (some (.int (zb ((zsoM n (fun k => Z 168 (o + k)) m 0 true f).1 = true)))) (Q, va_up Z 171 (zsoM n (fun k => Z 168 (o + k)) m 0 true f).2) := by
  refine zCT.of (by decide +kernel) (Nat.le_of_ble_eq_true rfl) ?_
  refine zi_iconst (n := 1) (nI 1) dX7_isSo_0 rfl (by decide) ?_
  refine zi_istore3 (n := 2) dX7_isSo_1 rfl (by decide) rfl ?_
  refine zi_iconst (n := 3) (nI 0) dX7_isSo_2 rfl (by decide) ?_
  refine zi_istore4 (n := 5) dX7_isSo_3 rfl (by decide) rfl ?_
  exact l_X7_isSo hom m 0 true f none none (by omega) hf rfl
set_option maxHeartbeats 4000000 in
set_option maxRecDepth 100000 in
theorem c_X7_isMany {x y : Int32} : zCT E 2 zm_X7_isMany [.int x, .int y] M (some (.int (zb ((nI 0 ≤ x ∧ x ≤ nI 7) ∧ (nI 1 ≤ y ∧ y ≤ nI 12))))) M := by
  refine zCT.of (by decide +kernel) (Nat.le_of_ble_eq_true rfl) ?_
  refine zi_iload0 (n := 1) dX7_isMany_0 rfl ?_
  refine zi_S1s (mj := zm_X7_isRow) (n := 4) dX7_isMany_1 rfl zl_X7_58 zy_X7_isRow (by decide) (Nat.le_of_ble_eq_true rfl) (c_X7_isRow) ?_
  refine zi_ifeq_b (n := 7) (tgt := 23) dX7_isMany_4 rfl (by decide) (fun h4 => ?_) (fun h4 => ?_)
  · refine zi_iconst (n := 24) (nI 0) dX7_isMany_23 rfl (by decide) ?_
    exact zi_zretF dX7_isMany_24 rfl (by first | exact fun q => h4 q.1 | exact fun q => h16 q.2) rfl (by rfl)
  · refine zi_iload1 (n := 8) dX7_isMany_7 rfl ?_
    refine zi_i2l (n := 9) dX7_isMany_8 rfl ?_
    refine zi_lconst (n := 10) ((nI 1).toInt64) dX7_isMany_9 rfl (by decide) ?_
    refine zi_ldc2 (n := 13) dX7_isMany_10 rfl zl_X7_227 ?_
    rw [show (12 : Int64) = (nI 12).toInt64 by decide]
    refine zi_S3s (mj := zm_X7_in) (n := 16) dX7_isMany_13 rfl zl_X7_54 zy_X7_in (by decide) (Nat.le_of_ble_eq_true rfl) (c_X7_in) ?_
    refine zi_ifeq_b (n := 19) (tgt := 23) dX7_isMany_16 rfl (by decide) (fun h16 => ?_) (fun h16 => ?_)
    · refine zi_iconst (n := 24) (nI 0) dX7_isMany_23 rfl (by decide) ?_
      exact zi_zretF dX7_isMany_24 rfl (by first | exact fun q => h4 q.1 | exact fun q => h16 q.2) rfl (by rfl)
    · refine zi_iconst (n := 20) (nI 1) dX7_isMany_19 rfl (by decide) ?_
      refine zi_goto (tgt := 24) dX7_isMany_20 (by decide) ?_
      exact zi_zretT dX7_isMany_24 rfl (by exact ⟨h4, h16⟩) rfl (by rfl)
set_option maxHeartbeats 4000000 in
set_option maxRecDepth 100000 in
theorem c_rf_null {r : Nat} (hr : r < 8) {x y : Int32} (hz : ¬ 0 ≤ Z 166 r) : zCT E 1 zm_X7_rowFound [.ref (zad E 165), .int (nI r), .int x, .int y] (Q, Z) (some (.int (-1000010 - nI 1))) (Q, zsu Z 165 1 (nI 1)) := by
  refine zCT.of (by decide +kernel) (Nat.le_of_ble_eq_true rfl) ?_
  refine zi_aload0 (n := 1) dX7_rowFound_0 rfl ?_
  refine zg_X7_2 (n := 4) dX7_rowFound_1 rfl zl_X7_7 ?_
  refine zi_iload1 (n := 5) dX7_rowFound_4 rfl ?_
  refine zi_oald (N := 8) (n := 6) dX7_rowFound_5 rfl (by decide) (fun _ => rfl) (by decide) rfl (by omega) rfl ?_
  refine zi_ifge (n := 9) (tgt := 15) dX7_rowFound_6 rfl (by decide) (fun h6 => ?_) (fun h6 => ?_)
  · first | exact absurd hz h6 | exact absurd h6 hz
  · refine zi_aload0 (n := 10) dX7_rowFound_9 rfl ?_
    refine zi_iconst (n := 11) (nI 1) dX7_rowFound_10 rfl (by decide) ?_
    refine zi_V1s (mj := zm_X7_finding) (n := 14) dX7_rowFound_11 rfl zl_X7_65 zy_X7_finding (zrc_X7 _ _) (by decide) (Nat.le_of_ble_eq_true rfl) (c_X7_finding) ?_
    exact zi_iret dX7_rowFound_14 rfl (by rfl) (by rfl)
set_option maxHeartbeats 4000000 in
set_option maxRecDepth 100000 in
theorem c_rf_place {r : Nat} (hr : r < 8) {x y : Int32} (hz : 0 ≤ Z 166 r) (hi : ¬ (¬ x < 0 ∧ ¬ (Z 167 r).toInt64 < x.toInt64 + y.toInt64)) : zCT E 1 zm_X7_rowFound [.ref (zad E 165), .int (nI r), .int x, .int y] (Q, Z) (some (.int (-1000010 - nI 2))) (Q, zsu Z 165 1 (nI 2)) := by
  refine zCT.of (by decide +kernel) (Nat.le_of_ble_eq_true rfl) ?_
  refine zi_aload0 (n := 1) dX7_rowFound_0 rfl ?_
  refine zg_X7_2 (n := 4) dX7_rowFound_1 rfl zl_X7_7 ?_
  refine zi_iload1 (n := 5) dX7_rowFound_4 rfl ?_
  refine zi_oald (N := 8) (n := 6) dX7_rowFound_5 rfl (by decide) (fun _ => rfl) (by decide) rfl (by omega) rfl ?_
  refine zi_ifge (n := 9) (tgt := 15) dX7_rowFound_6 rfl (by decide) (fun h6 => ?_) (fun h6 => ?_)
  · refine zi_iload2 (n := 16) dX7_rowFound_15 rfl ?_
    refine zi_iflt (n := 19) (tgt := 35) dX7_rowFound_16 rfl (by decide) (fun h16 => ?_) (fun h16 => ?_)
    · refine zi_aload0 (n := 36) dX7_rowFound_35 rfl ?_
      refine zi_iconst (n := 37) (nI 2) dX7_rowFound_36 rfl (by decide) ?_
      refine zi_V1s (mj := zm_X7_finding) (n := 40) dX7_rowFound_37 rfl zl_X7_65 zy_X7_finding (zrc_X7 _ _) (by decide) (Nat.le_of_ble_eq_true rfl) (c_X7_finding) ?_
      exact zi_iret dX7_rowFound_40 rfl (by rfl) (by rfl)
    · refine zi_iload2 (n := 20) dX7_rowFound_19 rfl ?_
      refine zi_i2l (n := 21) dX7_rowFound_20 rfl ?_
      refine zi_iload3 (n := 22) dX7_rowFound_21 rfl ?_
      refine zi_i2l (n := 23) dX7_rowFound_22 rfl ?_
      refine zi_ladd (n := 24) dX7_rowFound_23 rfl ?_
      refine zi_aload0 (n := 25) dX7_rowFound_24 rfl ?_
      refine zg_X7_3 (n := 28) dX7_rowFound_25 rfl zl_X7_13 ?_
      refine zi_iload1 (n := 29) dX7_rowFound_28 rfl ?_
      refine zi_oald (N := 8) (n := 30) dX7_rowFound_29 rfl (by decide) (fun _ => rfl) (by decide) rfl (by omega) rfl ?_
      refine zi_i2l (n := 31) dX7_rowFound_30 rfl ?_
      refine zi_lcmp (n := 32) dX7_rowFound_31 rfl ?_
      refine zi_ifle_l (n := 35) (tgt := 41) dX7_rowFound_32 rfl (by decide) (fun h32 => ?_) (fun h32 => ?_)
      · exact absurd ⟨h16, h32⟩ hi
      · refine zi_aload0 (n := 36) dX7_rowFound_35 rfl ?_
        refine zi_iconst (n := 37) (nI 2) dX7_rowFound_36 rfl (by decide) ?_
        refine zi_V1s (mj := zm_X7_finding) (n := 40) dX7_rowFound_37 rfl zl_X7_65 zy_X7_finding (zrc_X7 _ _) (by decide) (Nat.le_of_ble_eq_true rfl) (c_X7_finding) ?_
        exact zi_iret dX7_rowFound_40 rfl (by rfl) (by rfl)
  · first | exact absurd hz h6 | exact absurd h6 hz
set_option maxHeartbeats 4000000 in
set_option maxRecDepth 100000 in
theorem c_rf_ok {r : Nat} (hr : r < 8) {x y : Int32} (hz : 0 ≤ Z 166 r) (hi : (¬ x < 0 ∧ ¬ (Z 167 r).toInt64 < x.toInt64 + y.toInt64)) : zCT E 1 zm_X7_rowFound [.ref (zad E 165), .int (nI r), .int x, .int y] (Q, Z) (some (.int (nI 0))) (Q, zsu Z 165 1 (nI 0)) := by
  refine zCT.of (by decide +kernel) (Nat.le_of_ble_eq_true rfl) ?_
  obtain ⟨b1, b2⟩ := hi
  refine zi_aload0 (n := 1) dX7_rowFound_0 rfl ?_
  refine zg_X7_2 (n := 4) dX7_rowFound_1 rfl zl_X7_7 ?_
  refine zi_iload1 (n := 5) dX7_rowFound_4 rfl ?_
  refine zi_oald (N := 8) (n := 6) dX7_rowFound_5 rfl (by decide) (fun _ => rfl) (by decide) rfl (by omega) rfl ?_
  refine zi_ifge (n := 9) (tgt := 15) dX7_rowFound_6 rfl (by decide) (fun h6 => ?_) (fun h6 => ?_)
  · refine zi_iload2 (n := 16) dX7_rowFound_15 rfl ?_
    refine zi_iflt (n := 19) (tgt := 35) dX7_rowFound_16 rfl (by decide) (fun h16 => ?_) (fun h16 => ?_)
    · first | exact absurd b1 h16 | exact absurd h16 b1
    · refine zi_iload2 (n := 20) dX7_rowFound_19 rfl ?_
      refine zi_i2l (n := 21) dX7_rowFound_20 rfl ?_
      refine zi_iload3 (n := 22) dX7_rowFound_21 rfl ?_
      refine zi_i2l (n := 23) dX7_rowFound_22 rfl ?_
      refine zi_ladd (n := 24) dX7_rowFound_23 rfl ?_
      refine zi_aload0 (n := 25) dX7_rowFound_24 rfl ?_
      refine zg_X7_3 (n := 28) dX7_rowFound_25 rfl zl_X7_13 ?_
      refine zi_iload1 (n := 29) dX7_rowFound_28 rfl ?_
      refine zi_oald (N := 8) (n := 30) dX7_rowFound_29 rfl (by decide) (fun _ => rfl) (by decide) rfl (by omega) rfl ?_
      refine zi_i2l (n := 31) dX7_rowFound_30 rfl ?_
      refine zi_lcmp (n := 32) dX7_rowFound_31 rfl ?_
      refine zi_ifle_l (n := 35) (tgt := 41) dX7_rowFound_32 rfl (by decide) (fun h32 => ?_) (fun h32 => ?_)
      · refine zi_aload0 (n := 42) dX7_rowFound_41 rfl ?_
        refine zi_iconst (n := 43) (nI 0) dX7_rowFound_42 rfl (by decide) ?_
        refine zp_X7_1 (n := 46) dX7_rowFound_43 rfl zl_X7_48 rfl ?_
        refine zi_iconst (n := 47) (nI 0) dX7_rowFound_46 rfl (by decide) ?_
        exact zi_iret dX7_rowFound_47 rfl (by rfl) (by rfl)
      · first | exact absurd b2 h32 | exact absurd h32 b2
  · first | exact absurd hz h6 | exact absurd h6 hz
set_option maxHeartbeats 4000000 in
set_option maxRecDepth 100000 in
theorem m_who_bad (h0 : Z 165 0 = nI 0) {x y r i m : Int32} (hb : ¬ ((nI 0 ≤ x ∧ x ≤ Z 169 0 - nI 1) ∧ (nI 0 ≤ y ∧ y ≤ nI 3) ∧ (nI 0 ≤ r ∧ r ≤ nI 7) ∧ (nI 1 ≤ m ∧ m ≤ nI 12))) : zCT E 5 zm_X7_who [.ref (zad E 165), .int x, .int y, .int r, .int i, .int m] (Q, Z) (some (.int zBAD)) (Q, Z) := by
  refine zCT.of (by decide +kernel) (Nat.le_of_ble_eq_true rfl) ?_
  refine zi_aload0 (n := 1) dX7_who_0 rfl ?_
  refine zi_iconst (n := 2) (nI 0) dX7_who_1 rfl (by decide) ?_
  refine zp_X7_0 (n := 5) dX7_who_2 rfl zl_X7_44 (zt0 h0) ?_
  refine zi_aload0 (n := 6) dX7_who_5 rfl ?_
  refine zi_iload1 (n := 7) dX7_who_6 rfl ?_
  refine zi_V1s (mj := zm_X7_isPaper) (n := 10) dX7_who_7 rfl zl_X7_180 zy_X7_isPaper (zrc_X7 _ _) (by decide) (Nat.le_of_ble_eq_true rfl) (c_X7_isPaper) ?_
  refine zi_ifeq_b (n := 13) (tgt := 34) dX7_who_10 rfl (by decide) (fun h10 => ?_) (fun h10 => ?_)
  · refine zi_ldc (n := 36) dX7_who_34 rfl zl_X7_64 ?_
    exact zi_iret dX7_who_36 rfl (by rfl) (by rfl)
  · refine zi_iload2 (n := 14) dX7_who_13 rfl ?_
    refine zi_i2l (n := 15) dX7_who_14 rfl ?_
    refine zi_lconst (n := 16) ((nI 0).toInt64) dX7_who_15 rfl (by decide) ?_
    refine zi_ldc2 (n := 19) dX7_who_16 rfl zl_X7_229 ?_
    rw [show (3 : Int64) = (nI 3).toInt64 by decide]
    refine zi_S3s (mj := zm_X7_in) (n := 22) dX7_who_19 rfl zl_X7_54 zy_X7_in (by decide) (Nat.le_of_ble_eq_true rfl) (c_X7_in) ?_
    refine zi_ifeq_b (n := 25) (tgt := 34) dX7_who_22 rfl (by decide) (fun h22 => ?_) (fun h22 => ?_)
    · refine zi_ldc (n := 36) dX7_who_34 rfl zl_X7_64 ?_
      exact zi_iret dX7_who_36 rfl (by rfl) (by rfl)
    · refine zi_iload3 (n := 26) dX7_who_25 rfl ?_
      refine zi_iload5 (n := 28) dX7_who_26 rfl ?_
      refine zi_S2s (mj := zm_X7_isMany) (n := 31) dX7_who_28 rfl zl_X7_231 zy_X7_isMany (by decide) (Nat.le_of_ble_eq_true rfl) (c_X7_isMany) ?_
      refine zi_ifne_b (n := 34) (tgt := 37) dX7_who_31 rfl (by decide) (fun h31 => ?_) (fun h31 => ?_)
      · exact absurd ⟨h10, h22, h31⟩ hb
      · refine zi_ldc (n := 36) dX7_who_34 rfl zl_X7_64 ?_
        exact zi_iret dX7_who_36 rfl (by rfl) (by rfl)
set_option maxHeartbeats 4000000 in
set_option maxRecDepth 100000 in
theorem m_who_null (h0 : Z 165 0 = nI 0) (hk : zKd (Z 169) n) {p : Nat} (hp : p < n) {w r m : Nat} {i : Int32} (hw : w < 4) (hr : r < 8) (hm1 : 1 ≤ m) (hm2 : m ≤ 12) (hz : ¬ 0 ≤ Z 166 r) : zCT E 5 zm_X7_who [.ref (zad E 165), .int (nI p), .int (nI w), .int (nI r), .int i, .int (nI m)] (Q, Z) (some (.int (-1000010 - nI 1))) (Q, zsu Z 165 1 (nI 1)) := by
  refine zCT.of (by decide +kernel) (Nat.le_of_ble_eq_true rfl) ?_
  have hn := hk.1
  have h6 := hk.2.1
  have a1 := zisP hn h6 hp
  have a2 : nI 0 ≤ nI w ∧ nI w ≤ nI 3 := zrg (by omega) (by omega) (by decide)
  have a3 : (nI 0 ≤ nI r ∧ nI r ≤ nI 7) ∧ (nI 1 ≤ nI m ∧ nI m ≤ nI 12) := ⟨zrg (by omega) (by omega) (by decide), zrg hm1 hm2 (by decide)⟩
  have a4 : ¬ ((-1000010 : Int32) - nI 1 = 0) := by decide
  refine zi_aload0 (n := 1) dX7_who_0 rfl ?_
  refine zi_iconst (n := 2) (nI 0) dX7_who_1 rfl (by decide) ?_
  refine zp_X7_0 (n := 5) dX7_who_2 rfl zl_X7_44 (zt0 h0) ?_
  refine zi_aload0 (n := 6) dX7_who_5 rfl ?_
  refine zi_iload1 (n := 7) dX7_who_6 rfl ?_
  refine zi_V1s (mj := zm_X7_isPaper) (n := 10) dX7_who_7 rfl zl_X7_180 zy_X7_isPaper (zrc_X7 _ _) (by decide) (Nat.le_of_ble_eq_true rfl) (c_X7_isPaper) ?_
  refine zi_ifeq_b (n := 13) (tgt := 34) dX7_who_10 rfl (by decide) (fun h10 => ?_) (fun h10 => ?_)
  · first | exact absurd a1 h10 | exact absurd h10 a1
  · refine zi_iload2 (n := 14) dX7_who_13 rfl ?_
    refine zi_i2l (n := 15) dX7_who_14 rfl ?_
    refine zi_lconst (n := 16) ((nI 0).toInt64) dX7_who_15 rfl (by decide) ?_
    refine zi_ldc2 (n := 19) dX7_who_16 rfl zl_X7_229 ?_
    rw [show (3 : Int64) = (nI 3).toInt64 by decide]
    refine zi_S3s (mj := zm_X7_in) (n := 22) dX7_who_19 rfl zl_X7_54 zy_X7_in (by decide) (Nat.le_of_ble_eq_true rfl) (c_X7_in) ?_
    refine zi_ifeq_b (n := 25) (tgt := 34) dX7_who_22 rfl (by decide) (fun h22 => ?_) (fun h22 => ?_)
    · first | exact absurd a2 h22 | exact absurd h22 a2
    · refine zi_iload3 (n := 26) dX7_who_25 rfl ?_
      refine zi_iload5 (n := 28) dX7_who_26 rfl ?_
      refine zi_S2s (mj := zm_X7_isMany) (n := 31) dX7_who_28 rfl zl_X7_231 zy_X7_isMany (by decide) (Nat.le_of_ble_eq_true rfl) (c_X7_isMany) ?_
      refine zi_ifne_b (n := 34) (tgt := 37) dX7_who_31 rfl (by decide) (fun h31 => ?_) (fun h31 => ?_)
      · refine zi_aload0 (n := 38) dX7_who_37 rfl ?_
        refine zi_iload3 (n := 39) dX7_who_38 rfl ?_
        refine zi_iload4 (n := 41) dX7_who_39 rfl ?_
        refine zi_iload5 (n := 43) dX7_who_41 rfl ?_
        refine zi_V3s (mj := zm_X7_rowFound) (n := 46) dX7_who_43 rfl zl_X7_234 zy_X7_rowFound (zrc_X7 _ _) (by decide) (Nat.le_of_ble_eq_true rfl) (c_rf_null hr hz) ?_
        refine zi_istore6 (n := 48) dX7_who_46 rfl (by decide) rfl ?_
        refine zi_iload6 (n := 50) dX7_who_48 rfl ?_
        refine zi_ifeq (n := 53) (tgt := 56) dX7_who_50 rfl (by decide) (fun h50 => ?_) (fun h50 => ?_)
        · first | exact absurd a4 h50 | exact absurd h50 a4
        · refine zi_iload6 (n := 55) dX7_who_53 rfl ?_
          exact zi_iret dX7_who_55 rfl (by rfl) (by rfl)
      · first | exact absurd a3 h31 | exact absurd h31 a3
set_option maxHeartbeats 4000000 in
set_option maxRecDepth 100000 in
theorem m_who_place (h0 : Z 165 0 = nI 0) (hk : zKd (Z 169) n) {p : Nat} (hp : p < n) {w r m : Nat} {i : Int32} (hw : w < 4) (hr : r < 8) (hm1 : 1 ≤ m) (hm2 : m ≤ 12) (hz : 0 ≤ Z 166 r) (hi : ¬ (¬ i < 0 ∧ ¬ (Z 167 r).toInt64 < i.toInt64 + (nI m).toInt64)) : zCT E 5 zm_X7_who [.ref (zad E 165), .int (nI p), .int (nI w), .int (nI r), .int i, .int (nI m)] (Q, Z) (some (.int (-1000010 - nI 2))) (Q, zsu Z 165 1 (nI 2)) := by
  refine zCT.of (by decide +kernel) (Nat.le_of_ble_eq_true rfl) ?_
  have hn := hk.1
  have h6 := hk.2.1
  have a1 := zisP hn h6 hp
  have a2 : nI 0 ≤ nI w ∧ nI w ≤ nI 3 := zrg (by omega) (by omega) (by decide)
  have a3 : (nI 0 ≤ nI r ∧ nI r ≤ nI 7) ∧ (nI 1 ≤ nI m ∧ nI m ≤ nI 12) := ⟨zrg (by omega) (by omega) (by decide), zrg hm1 hm2 (by decide)⟩
  have a4 : ¬ ((-1000010 : Int32) - nI 2 = 0) := by decide
  refine zi_aload0 (n := 1) dX7_who_0 rfl ?_
  refine zi_iconst (n := 2) (nI 0) dX7_who_1 rfl (by decide) ?_
  refine zp_X7_0 (n := 5) dX7_who_2 rfl zl_X7_44 (zt0 h0) ?_
  refine zi_aload0 (n := 6) dX7_who_5 rfl ?_
  refine zi_iload1 (n := 7) dX7_who_6 rfl ?_
  refine zi_V1s (mj := zm_X7_isPaper) (n := 10) dX7_who_7 rfl zl_X7_180 zy_X7_isPaper (zrc_X7 _ _) (by decide) (Nat.le_of_ble_eq_true rfl) (c_X7_isPaper) ?_
  refine zi_ifeq_b (n := 13) (tgt := 34) dX7_who_10 rfl (by decide) (fun h10 => ?_) (fun h10 => ?_)
  · first | exact absurd a1 h10 | exact absurd h10 a1
  · refine zi_iload2 (n := 14) dX7_who_13 rfl ?_
    refine zi_i2l (n := 15) dX7_who_14 rfl ?_
    refine zi_lconst (n := 16) ((nI 0).toInt64) dX7_who_15 rfl (by decide) ?_
    refine zi_ldc2 (n := 19) dX7_who_16 rfl zl_X7_229 ?_
    rw [show (3 : Int64) = (nI 3).toInt64 by decide]
    refine zi_S3s (mj := zm_X7_in) (n := 22) dX7_who_19 rfl zl_X7_54 zy_X7_in (by decide) (Nat.le_of_ble_eq_true rfl) (c_X7_in) ?_
    refine zi_ifeq_b (n := 25) (tgt := 34) dX7_who_22 rfl (by decide) (fun h22 => ?_) (fun h22 => ?_)
    · first | exact absurd a2 h22 | exact absurd h22 a2
    · refine zi_iload3 (n := 26) dX7_who_25 rfl ?_
      refine zi_iload5 (n := 28) dX7_who_26 rfl ?_
      refine zi_S2s (mj := zm_X7_isMany) (n := 31) dX7_who_28 rfl zl_X7_231 zy_X7_isMany (by decide) (Nat.le_of_ble_eq_true rfl) (c_X7_isMany) ?_
      refine zi_ifne_b (n := 34) (tgt := 37) dX7_who_31 rfl (by decide) (fun h31 => ?_) (fun h31 => ?_)
      · refine zi_aload0 (n := 38) dX7_who_37 rfl ?_
        refine zi_iload3 (n := 39) dX7_who_38 rfl ?_
        refine zi_iload4 (n := 41) dX7_who_39 rfl ?_
        refine zi_iload5 (n := 43) dX7_who_41 rfl ?_
        refine zi_V3s (mj := zm_X7_rowFound) (n := 46) dX7_who_43 rfl zl_X7_234 zy_X7_rowFound (zrc_X7 _ _) (by decide) (Nat.le_of_ble_eq_true rfl) (c_rf_place hr hz hi) ?_
        refine zi_istore6 (n := 48) dX7_who_46 rfl (by decide) rfl ?_
        refine zi_iload6 (n := 50) dX7_who_48 rfl ?_
        refine zi_ifeq (n := 53) (tgt := 56) dX7_who_50 rfl (by decide) (fun h50 => ?_) (fun h50 => ?_)
        · first | exact absurd a4 h50 | exact absurd h50 a4
        · refine zi_iload6 (n := 55) dX7_who_53 rfl ?_
          exact zi_iret dX7_who_55 rfl (by rfl) (by rfl)
      · first | exact absurd a3 h31 | exact absurd h31 a3
set_option maxHeartbeats 4000000 in
set_option maxRecDepth 100000 in
theorem lw0_X7_who (hk : zKd (Z 169) n) (hp : p < n) {r i m : Nat} (hr : r < 8) (him : i + m ≤ 40) {R : Int32 × zF} : ∀ k v (b : Int32) (f : zF) (x6 x8 : Option Value), v + k = 6 → 1 ≤ v → zwoM (Z 169) n (6 + 5 * p) (fun k => Z 168 (40 * r + i + k)) m k v b f = R → zG E zm_X7_who 5 (some (.int R.1)) (Q, va_up Z 171 R.2) 127 [some (.ref (zad E 165)), some (.int (nI p)), some (.int (nI 0)), some (.int (nI r)), some (.int (nI i)), some (.int (nI m)), x6, some (.int (nI (6 + 5 * p))), x8, some (.int (nI 5)), some (.int b), some (.int (nI v))] [] (Q, va_up Z 171 f) := by
  have hn := hk.1
  have h6 := hk.2.1
  intro k
  induction k with
  | zero =>
    intro v b f x6 x8 hi hl hR
    obtain rfl : v = 6 := by omega
    refine zi_iload11 (n := 129) dX7_who_127 rfl ?_
    refine zi_iload9 (n := 131) dX7_who_129 rfl ?_
    refine zi_icgt (n := 134) (tgt := 182) dX7_who_131 rfl (by decide) (fun h131 => ?_) (fun h131 => ?_)
    · refine zi_iload10 (n := 184) dX7_who_182 rfl ?_
      exact zi_iret dX7_who_184 rfl (by rw [← hR]; rfl) (by rw [← hR]; rfl)
    · exact absurd (by decide) h131
  | succ k ih =>
    intro v b f x6 x8 hi hl hR
    refine zi_iload11 (n := 129) dX7_who_127 rfl ?_
    refine zi_iload9 (n := 131) dX7_who_129 rfl ?_
    refine zi_icgt (n := 134) (tgt := 182) dX7_who_131 rfl (by decide) (fun h131 => ?_) (fun h131 => ?_)
    · exact absurd h131 (Int32.not_lt.mpr (nI_le (by omega) (by omega)))
    · refine zi_aload0 (n := 135) dX7_who_134 rfl ?_
      refine zi_V0v (mj := zm_X7_layThen) (n := 138) dX7_who_135 rfl zl_X7_193 zy_X7_layThen (zrc_X7 _ _) (by decide) (Nat.le_of_ble_eq_true rfl) c_lay ?_
      refine zi_aload0 (n := 139) dX7_who_138 rfl ?_
      refine zg_X7_7 (n := 142) dX7_who_139 rfl zl_X7_25 ?_
      refine zi_iload7 (n := 144) dX7_who_142 rfl ?_
      refine zi_iload11 (n := 146) dX7_who_144 rfl ?_
      refine zi_oast (N := 36) (i := 6 + 5 * p) (n := 147) dX7_who_146 rfl (by decide) (fun _ => rfl) (by decide) rfl (by omega) (zfq _ _ _ _ _ _) ?_
      refine zi_iload10 (n := 149) dX7_who_147 rfl ?_
      refine zi_aload0 (n := 150) dX7_who_149 rfl ?_
      refine zi_bipush (n := 152) (nI 40) dX7_who_150 rfl (by decide) ?_
      refine zi_iload3 (n := 153) dX7_who_152 rfl ?_
      refine zi_imul (n := 154) dX7_who_153 rfl ?_
      rw [pk_mul]
      refine zi_iload4 (n := 156) dX7_who_154 rfl ?_
      refine zi_iadd (n := 157) dX7_who_156 rfl ?_
      rw [nI_add]
      refine zi_iload5 (n := 159) dX7_who_157 rfl ?_
      refine zi_V2s (mj := zm_X7_isSo) (n := 162) dX7_who_159 rfl zl_X7_238 zy_X7_isSo (zrc_X7 _ _) (by decide) (Nat.le_of_ble_eq_true rfl) (c_X7_isSo (by omega) (hk.lay.kind ⟨by omega, by omega⟩)) ?_
      refine zi_ifeq_b (n := 165) (tgt := 172) dX7_who_162 rfl (by decide) (fun h162 => ?_) (fun h162 => ?_)
      · have e1 : (zsoM n (fun k => Z 168 (40 * r + i + k)) m 0 true (upd (zly (Z 169) f) (6 + 5 * p) (nI v))).1 = false := by simpa using h162
        refine zi_iconst (n := 173) (nI 0) dX7_who_172 rfl (by decide) ?_
        refine zi_ior (n := 174) dX7_who_173 rfl ?_
        refine zi_istore10 (n := 176) dX7_who_174 rfl (by decide) rfl ?_
        refine zi_iinc11 (n := 179) (nI (v + 1)) dX7_who_176 rfl (by decide) rfl (zi1 _) ?_
        refine zi_goto (tgt := 127) dX7_who_179 (by decide) ?_
        exact ih (v + 1) _ _ _ _ (by omega) (by omega) (by rw [← hR, zwoM]; first | rw [if_pos h162] | rw [if_neg h162])
      · refine zi_iconst (n := 166) (nI 1) dX7_who_165 rfl (by decide) ?_
        refine zi_iload11 (n := 168) dX7_who_166 rfl ?_
        refine zi_ishl (n := 169) dX7_who_168 rfl ?_
        refine zi_goto (tgt := 173) dX7_who_169 (by decide) ?_
        refine zi_ior (n := 174) dX7_who_173 rfl ?_
        refine zi_istore10 (n := 176) dX7_who_174 rfl (by decide) rfl ?_
        refine zi_iinc11 (n := 179) (nI (v + 1)) dX7_who_176 rfl (by decide) rfl (zi1 _) ?_
        refine zi_goto (tgt := 127) dX7_who_179 (by decide) ?_
        exact ih (v + 1) _ _ _ _ (by omega) (by omega) (by rw [← hR, zwoM]; first | rw [if_pos h162] | rw [if_neg h162])
set_option maxHeartbeats 4000000 in
set_option maxRecDepth 100000 in
theorem m_who_0 (h0 : Z 165 0 = nI 0) (hk : zKd (Z 169) n) {p : Nat} (hp : p < n) {r m i : Nat} (hr : r < 8) (hm1 : 1 ≤ m) (hm2 : m ≤ 12) (him : i + m ≤ 40) (hz : 0 ≤ Z 166 r) (hi : (¬ nI i < 0 ∧ ¬ (Z 167 r).toInt64 < (nI i).toInt64 + (nI m).toInt64)) : zCT E 5 zm_X7_who [.ref (zad E 165), .int (nI p), .int (nI 0), .int (nI r), .int (nI i), .int (nI m)] (Q, Z) (some (.int (zwoM (Z 169) n (6 + 5 * p) (fun k => Z 168 (40 * r + i + k)) m 5 1 (nI 0) (Z 171)).1)) (Q, va_up (zsu Z 165 1 (nI 0)) 171 (zwoM (Z 169) n (6 + 5 * p) (fun k => Z 168 (40 * r + i + k)) m 5 1 (nI 0) (Z 171)).2) := by
  refine zCT.of (by decide +kernel) (Nat.le_of_ble_eq_true rfl) ?_
  have hn := hk.1
  have h6 := hk.2.1
  have a1 := zisP hn h6 hp
  have a2 : nI 0 ≤ nI 0 ∧ nI 0 ≤ nI 3 := zrg (by omega) (by omega) (by decide)
  have a3 : (nI 0 ≤ nI r ∧ nI r ≤ nI 7) ∧ (nI 1 ≤ nI m ∧ nI m ≤ nI 12) := ⟨zrg (by omega) (by omega) (by decide), zrg hm1 hm2 (by decide)⟩
  refine zi_aload0 (n := 1) dX7_who_0 rfl ?_
  refine zi_iconst (n := 2) (nI 0) dX7_who_1 rfl (by decide) ?_
  refine zp_X7_0 (n := 5) dX7_who_2 rfl zl_X7_44 (zt0 h0) ?_
  refine zi_aload0 (n := 6) dX7_who_5 rfl ?_
  refine zi_iload1 (n := 7) dX7_who_6 rfl ?_
  refine zi_V1s (mj := zm_X7_isPaper) (n := 10) dX7_who_7 rfl zl_X7_180 zy_X7_isPaper (zrc_X7 _ _) (by decide) (Nat.le_of_ble_eq_true rfl) (c_X7_isPaper) ?_
  refine zi_ifeq_b (n := 13) (tgt := 34) dX7_who_10 rfl (by decide) (fun h10 => ?_) (fun h10 => ?_)
  · first | exact absurd a1 h10 | exact absurd h10 a1
  · refine zi_iload2 (n := 14) dX7_who_13 rfl ?_
    refine zi_i2l (n := 15) dX7_who_14 rfl ?_
    refine zi_lconst (n := 16) ((nI 0).toInt64) dX7_who_15 rfl (by decide) ?_
    refine zi_ldc2 (n := 19) dX7_who_16 rfl zl_X7_229 ?_
    rw [show (3 : Int64) = (nI 3).toInt64 by decide]
    refine zi_S3s (mj := zm_X7_in) (n := 22) dX7_who_19 rfl zl_X7_54 zy_X7_in (by decide) (Nat.le_of_ble_eq_true rfl) (c_X7_in) ?_
    refine zi_ifeq_b (n := 25) (tgt := 34) dX7_who_22 rfl (by decide) (fun h22 => ?_) (fun h22 => ?_)
    · first | exact absurd a2 h22 | exact absurd h22 a2
    · refine zi_iload3 (n := 26) dX7_who_25 rfl ?_
      refine zi_iload5 (n := 28) dX7_who_26 rfl ?_
      refine zi_S2s (mj := zm_X7_isMany) (n := 31) dX7_who_28 rfl zl_X7_231 zy_X7_isMany (by decide) (Nat.le_of_ble_eq_true rfl) (c_X7_isMany) ?_
      refine zi_ifne_b (n := 34) (tgt := 37) dX7_who_31 rfl (by decide) (fun h31 => ?_) (fun h31 => ?_)
      · refine zi_aload0 (n := 38) dX7_who_37 rfl ?_
        refine zi_iload3 (n := 39) dX7_who_38 rfl ?_
        refine zi_iload4 (n := 41) dX7_who_39 rfl ?_
        refine zi_iload5 (n := 43) dX7_who_41 rfl ?_
        refine zi_V3s (mj := zm_X7_rowFound) (n := 46) dX7_who_43 rfl zl_X7_234 zy_X7_rowFound (zrc_X7 _ _) (by decide) (Nat.le_of_ble_eq_true rfl) (c_rf_ok hr hz hi) ?_
        refine zi_istore6 (n := 48) dX7_who_46 rfl (by decide) rfl ?_
        refine zi_iload6 (n := 50) dX7_who_48 rfl ?_
        refine zi_ifeq (n := 53) (tgt := 56) dX7_who_50 rfl (by decide) (fun h50 => ?_) (fun h50 => ?_)
        · refine zi_iload2 (n := 57) dX7_who_56 rfl ?_
          refine zi_iconst (n := 58) (nI 3) dX7_who_57 rfl (by decide) ?_
          refine zi_icne (n := 61) (tgt := 65) dX7_who_58 rfl (by decide) (fun h58 => ?_) (fun h58 => ?_)
          · refine zi_bipush (n := 67) (nI 6) dX7_who_65 rfl (by decide) ?_
            refine zi_iconst (n := 68) (nI 5) dX7_who_67 rfl (by decide) ?_
            refine zi_iload1 (n := 69) dX7_who_68 rfl ?_
            refine zi_imul (n := 70) dX7_who_69 rfl ?_
            rw [pk_mul]
            refine zi_iadd (n := 71) dX7_who_70 rfl ?_
            rw [nI_add]
            refine zi_iload2 (n := 72) dX7_who_71 rfl ?_
            refine zi_ifne (n := 75) (tgt := 79) dX7_who_72 rfl (by decide) (fun h72 => ?_) (fun h72 => ?_)
            · first | exact absurd h72 (by decide) | exact absurd rfl h72
            · refine zi_iconst (n := 76) (nI 0) dX7_who_75 rfl (by decide) ?_
              refine zi_goto (tgt := 89) dX7_who_76 (by decide) ?_
              refine zi_iadd (n := 90) dX7_who_89 rfl ?_
              rw [nI_add]
              refine zi_istore7 (n := 92) dX7_who_90 rfl (by decide) rfl ?_
              refine zi_iload2 (n := 93) dX7_who_92 rfl ?_
              refine zi_ifeq (n := 96) (tgt := 101) dX7_who_93 rfl (by decide) (fun h93 => ?_) (fun h93 => ?_)
              · refine zi_iconst (n := 102) (nI 1) dX7_who_101 rfl (by decide) ?_
                refine zi_goto (tgt := 106) dX7_who_102 (by decide) ?_
                refine zi_istore8 (n := 108) dX7_who_106 rfl (by decide) rfl ?_
                refine zi_iload2 (n := 109) dX7_who_108 rfl ?_
                refine zi_ifne (n := 112) (tgt := 116) dX7_who_109 rfl (by decide) (fun h109 => ?_) (fun h109 => ?_)
                · first | exact absurd h109 (by decide) | exact absurd rfl h109
                · refine zi_iconst (n := 113) (nI 5) dX7_who_112 rfl (by decide) ?_
                  refine zi_goto (tgt := 118) dX7_who_113 (by decide) ?_
                  refine zi_istore9 (n := 120) dX7_who_118 rfl (by decide) rfl ?_
                  refine zi_iconst (n := 121) (nI 0) dX7_who_120 rfl (by decide) ?_
                  refine zi_istore10 (n := 123) dX7_who_121 rfl (by decide) rfl ?_
                  refine zi_iload8 (n := 125) dX7_who_123 rfl ?_
                  refine zi_istore11 (n := 127) dX7_who_125 rfl (by decide) rfl ?_
                  have g := lw0_X7_who (E := E) (Q := Q) (Z := (zsu Z 165 1 (nI 0))) (n := n) (p := p) (r := r) (i := i) (m := m) hk hp hr him (R := (zwoM (Z 169) n (6 + 5 * p) (fun k => Z 168 (40 * r + i + k)) m 5 1 (nI 0) (Z 171))) 5 1 (nI 0) (Z 171) (some (.int (nI 0))) (some (.int (nI 1))) (by omega) (by omega) rfl
                  exact zG_eqM (congrArg (Prod.mk Q) (zup_at (f := (zsu Z 165 1 (nI 0))) (a := 171) (v := Z 171) rfl).symm) g
              · first | exact absurd h93 (by decide) | exact absurd rfl h93
          · first | exact absurd h58 (by decide) | exact absurd rfl h58
        · first | exact absurd h50 (by decide) | exact absurd rfl h50
      · first | exact absurd a3 h31 | exact absurd h31 a3
set_option maxHeartbeats 4000000 in
set_option maxRecDepth 100000 in
theorem lw1_X7_who (hk : zKd (Z 169) n) (hp : p < n) {r i m : Nat} (hr : r < 8) (him : i + m ≤ 40) {R : Int32 × zF} : ∀ k v (b : Int32) (f : zF) (x6 x8 : Option Value), v + k = 10 → 0 ≤ v → zwoM (Z 169) n (6 + 5 * p + 1) (fun k => Z 168 (40 * r + i + k)) m k v b f = R → zG E zm_X7_who 5 (some (.int R.1)) (Q, va_up Z 171 R.2) 127 [some (.ref (zad E 165)), some (.int (nI p)), some (.int (nI 1)), some (.int (nI r)), some (.int (nI i)), some (.int (nI m)), x6, some (.int (nI (6 + 5 * p + 1))), x8, some (.int (nI 9)), some (.int b), some (.int (nI v))] [] (Q, va_up Z 171 f) := by
  have hn := hk.1
  have h6 := hk.2.1
  intro k
  induction k with
  | zero =>
    intro v b f x6 x8 hi hl hR
    obtain rfl : v = 10 := by omega
    refine zi_iload11 (n := 129) dX7_who_127 rfl ?_
    refine zi_iload9 (n := 131) dX7_who_129 rfl ?_
    refine zi_icgt (n := 134) (tgt := 182) dX7_who_131 rfl (by decide) (fun h131 => ?_) (fun h131 => ?_)
    · refine zi_iload10 (n := 184) dX7_who_182 rfl ?_
      exact zi_iret dX7_who_184 rfl (by rw [← hR]; rfl) (by rw [← hR]; rfl)
    · exact absurd (by decide) h131
  | succ k ih =>
    intro v b f x6 x8 hi hl hR
    refine zi_iload11 (n := 129) dX7_who_127 rfl ?_
    refine zi_iload9 (n := 131) dX7_who_129 rfl ?_
    refine zi_icgt (n := 134) (tgt := 182) dX7_who_131 rfl (by decide) (fun h131 => ?_) (fun h131 => ?_)
    · exact absurd h131 (Int32.not_lt.mpr (nI_le (by omega) (by omega)))
    · refine zi_aload0 (n := 135) dX7_who_134 rfl ?_
      refine zi_V0v (mj := zm_X7_layThen) (n := 138) dX7_who_135 rfl zl_X7_193 zy_X7_layThen (zrc_X7 _ _) (by decide) (Nat.le_of_ble_eq_true rfl) c_lay ?_
      refine zi_aload0 (n := 139) dX7_who_138 rfl ?_
      refine zg_X7_7 (n := 142) dX7_who_139 rfl zl_X7_25 ?_
      refine zi_iload7 (n := 144) dX7_who_142 rfl ?_
      refine zi_iload11 (n := 146) dX7_who_144 rfl ?_
      refine zi_oast (N := 36) (i := 6 + 5 * p + 1) (n := 147) dX7_who_146 rfl (by decide) (fun _ => rfl) (by decide) rfl (by omega) (zfq _ _ _ _ _ _) ?_
      refine zi_iload10 (n := 149) dX7_who_147 rfl ?_
      refine zi_aload0 (n := 150) dX7_who_149 rfl ?_
      refine zi_bipush (n := 152) (nI 40) dX7_who_150 rfl (by decide) ?_
      refine zi_iload3 (n := 153) dX7_who_152 rfl ?_
      refine zi_imul (n := 154) dX7_who_153 rfl ?_
      rw [pk_mul]
      refine zi_iload4 (n := 156) dX7_who_154 rfl ?_
      refine zi_iadd (n := 157) dX7_who_156 rfl ?_
      rw [nI_add]
      refine zi_iload5 (n := 159) dX7_who_157 rfl ?_
      refine zi_V2s (mj := zm_X7_isSo) (n := 162) dX7_who_159 rfl zl_X7_238 zy_X7_isSo (zrc_X7 _ _) (by decide) (Nat.le_of_ble_eq_true rfl) (c_X7_isSo (by omega) (hk.lay.at (by decide) (by decide))) ?_
      refine zi_ifeq_b (n := 165) (tgt := 172) dX7_who_162 rfl (by decide) (fun h162 => ?_) (fun h162 => ?_)
      · have e1 : (zsoM n (fun k => Z 168 (40 * r + i + k)) m 0 true (upd (zly (Z 169) f) (6 + 5 * p + 1) (nI v))).1 = false := by simpa using h162
        refine zi_iconst (n := 173) (nI 0) dX7_who_172 rfl (by decide) ?_
        refine zi_ior (n := 174) dX7_who_173 rfl ?_
        refine zi_istore10 (n := 176) dX7_who_174 rfl (by decide) rfl ?_
        refine zi_iinc11 (n := 179) (nI (v + 1)) dX7_who_176 rfl (by decide) rfl (zi1 _) ?_
        refine zi_goto (tgt := 127) dX7_who_179 (by decide) ?_
        exact ih (v + 1) _ _ _ _ (by omega) (by omega) (by rw [← hR, zwoM]; first | rw [if_pos h162] | rw [if_neg h162])
      · refine zi_iconst (n := 166) (nI 1) dX7_who_165 rfl (by decide) ?_
        refine zi_iload11 (n := 168) dX7_who_166 rfl ?_
        refine zi_ishl (n := 169) dX7_who_168 rfl ?_
        refine zi_goto (tgt := 173) dX7_who_169 (by decide) ?_
        refine zi_ior (n := 174) dX7_who_173 rfl ?_
        refine zi_istore10 (n := 176) dX7_who_174 rfl (by decide) rfl ?_
        refine zi_iinc11 (n := 179) (nI (v + 1)) dX7_who_176 rfl (by decide) rfl (zi1 _) ?_
        refine zi_goto (tgt := 127) dX7_who_179 (by decide) ?_
        exact ih (v + 1) _ _ _ _ (by omega) (by omega) (by rw [← hR, zwoM]; first | rw [if_pos h162] | rw [if_neg h162])
set_option maxHeartbeats 4000000 in
set_option maxRecDepth 100000 in
theorem m_who_1 (h0 : Z 165 0 = nI 0) (hk : zKd (Z 169) n) {p : Nat} (hp : p < n) {r m i : Nat} (hr : r < 8) (hm1 : 1 ≤ m) (hm2 : m ≤ 12) (him : i + m ≤ 40) (hz : 0 ≤ Z 166 r) (hi : (¬ nI i < 0 ∧ ¬ (Z 167 r).toInt64 < (nI i).toInt64 + (nI m).toInt64)) : zCT E 5 zm_X7_who [.ref (zad E 165), .int (nI p), .int (nI 1), .int (nI r), .int (nI i), .int (nI m)] (Q, Z) (some (.int (zwoM (Z 169) n (6 + 5 * p + 1) (fun k => Z 168 (40 * r + i + k)) m 10 0 (nI 0) (Z 171)).1)) (Q, va_up (zsu Z 165 1 (nI 0)) 171 (zwoM (Z 169) n (6 + 5 * p + 1) (fun k => Z 168 (40 * r + i + k)) m 10 0 (nI 0) (Z 171)).2) := by
  refine zCT.of (by decide +kernel) (Nat.le_of_ble_eq_true rfl) ?_
  have hn := hk.1
  have h6 := hk.2.1
  have a1 := zisP hn h6 hp
  have a2 : nI 0 ≤ nI 1 ∧ nI 1 ≤ nI 3 := zrg (by omega) (by omega) (by decide)
  have a3 : (nI 0 ≤ nI r ∧ nI r ≤ nI 7) ∧ (nI 1 ≤ nI m ∧ nI m ≤ nI 12) := ⟨zrg (by omega) (by omega) (by decide), zrg hm1 hm2 (by decide)⟩
  refine zi_aload0 (n := 1) dX7_who_0 rfl ?_
  refine zi_iconst (n := 2) (nI 0) dX7_who_1 rfl (by decide) ?_
  refine zp_X7_0 (n := 5) dX7_who_2 rfl zl_X7_44 (zt0 h0) ?_
  refine zi_aload0 (n := 6) dX7_who_5 rfl ?_
  refine zi_iload1 (n := 7) dX7_who_6 rfl ?_
  refine zi_V1s (mj := zm_X7_isPaper) (n := 10) dX7_who_7 rfl zl_X7_180 zy_X7_isPaper (zrc_X7 _ _) (by decide) (Nat.le_of_ble_eq_true rfl) (c_X7_isPaper) ?_
  refine zi_ifeq_b (n := 13) (tgt := 34) dX7_who_10 rfl (by decide) (fun h10 => ?_) (fun h10 => ?_)
  · first | exact absurd a1 h10 | exact absurd h10 a1
  · refine zi_iload2 (n := 14) dX7_who_13 rfl ?_
    refine zi_i2l (n := 15) dX7_who_14 rfl ?_
    refine zi_lconst (n := 16) ((nI 0).toInt64) dX7_who_15 rfl (by decide) ?_
    refine zi_ldc2 (n := 19) dX7_who_16 rfl zl_X7_229 ?_
    rw [show (3 : Int64) = (nI 3).toInt64 by decide]
    refine zi_S3s (mj := zm_X7_in) (n := 22) dX7_who_19 rfl zl_X7_54 zy_X7_in (by decide) (Nat.le_of_ble_eq_true rfl) (c_X7_in) ?_
    refine zi_ifeq_b (n := 25) (tgt := 34) dX7_who_22 rfl (by decide) (fun h22 => ?_) (fun h22 => ?_)
    · first | exact absurd a2 h22 | exact absurd h22 a2
    · refine zi_iload3 (n := 26) dX7_who_25 rfl ?_
      refine zi_iload5 (n := 28) dX7_who_26 rfl ?_
      refine zi_S2s (mj := zm_X7_isMany) (n := 31) dX7_who_28 rfl zl_X7_231 zy_X7_isMany (by decide) (Nat.le_of_ble_eq_true rfl) (c_X7_isMany) ?_
      refine zi_ifne_b (n := 34) (tgt := 37) dX7_who_31 rfl (by decide) (fun h31 => ?_) (fun h31 => ?_)
      · refine zi_aload0 (n := 38) dX7_who_37 rfl ?_
        refine zi_iload3 (n := 39) dX7_who_38 rfl ?_
        refine zi_iload4 (n := 41) dX7_who_39 rfl ?_
        refine zi_iload5 (n := 43) dX7_who_41 rfl ?_
        refine zi_V3s (mj := zm_X7_rowFound) (n := 46) dX7_who_43 rfl zl_X7_234 zy_X7_rowFound (zrc_X7 _ _) (by decide) (Nat.le_of_ble_eq_true rfl) (c_rf_ok hr hz hi) ?_
        refine zi_istore6 (n := 48) dX7_who_46 rfl (by decide) rfl ?_
        refine zi_iload6 (n := 50) dX7_who_48 rfl ?_
        refine zi_ifeq (n := 53) (tgt := 56) dX7_who_50 rfl (by decide) (fun h50 => ?_) (fun h50 => ?_)
        · refine zi_iload2 (n := 57) dX7_who_56 rfl ?_
          refine zi_iconst (n := 58) (nI 3) dX7_who_57 rfl (by decide) ?_
          refine zi_icne (n := 61) (tgt := 65) dX7_who_58 rfl (by decide) (fun h58 => ?_) (fun h58 => ?_)
          · refine zi_bipush (n := 67) (nI 6) dX7_who_65 rfl (by decide) ?_
            refine zi_iconst (n := 68) (nI 5) dX7_who_67 rfl (by decide) ?_
            refine zi_iload1 (n := 69) dX7_who_68 rfl ?_
            refine zi_imul (n := 70) dX7_who_69 rfl ?_
            rw [pk_mul]
            refine zi_iadd (n := 71) dX7_who_70 rfl ?_
            rw [nI_add]
            refine zi_iload2 (n := 72) dX7_who_71 rfl ?_
            refine zi_ifne (n := 75) (tgt := 79) dX7_who_72 rfl (by decide) (fun h72 => ?_) (fun h72 => ?_)
            · refine zi_iload2 (n := 80) dX7_who_79 rfl ?_
              refine zi_iconst (n := 81) (nI 1) dX7_who_80 rfl (by decide) ?_
              refine zi_icne (n := 84) (tgt := 88) dX7_who_81 rfl (by decide) (fun h81 => ?_) (fun h81 => ?_)
              · first | exact absurd h81 (by decide) | exact absurd rfl h81
              · refine zi_iconst (n := 85) (nI 1) dX7_who_84 rfl (by decide) ?_
                refine zi_goto (tgt := 89) dX7_who_85 (by decide) ?_
                refine zi_iadd (n := 90) dX7_who_89 rfl ?_
                rw [nI_add]
                refine zi_istore7 (n := 92) dX7_who_90 rfl (by decide) rfl ?_
                refine zi_iload2 (n := 93) dX7_who_92 rfl ?_
                refine zi_ifeq (n := 96) (tgt := 101) dX7_who_93 rfl (by decide) (fun h93 => ?_) (fun h93 => ?_)
                · first | exact absurd h93 (by decide) | exact absurd rfl h93
                · refine zi_iload2 (n := 97) dX7_who_96 rfl ?_
                  refine zi_iconst (n := 98) (nI 2) dX7_who_97 rfl (by decide) ?_
                  refine zi_icne (n := 101) (tgt := 105) dX7_who_98 rfl (by decide) (fun h98 => ?_) (fun h98 => ?_)
                  · refine zi_iconst (n := 106) (nI 0) dX7_who_105 rfl (by decide) ?_
                    refine zi_istore8 (n := 108) dX7_who_106 rfl (by decide) rfl ?_
                    refine zi_iload2 (n := 109) dX7_who_108 rfl ?_
                    refine zi_ifne (n := 112) (tgt := 116) dX7_who_109 rfl (by decide) (fun h109 => ?_) (fun h109 => ?_)
                    · refine zi_bipush (n := 118) (nI 9) dX7_who_116 rfl (by decide) ?_
                      refine zi_istore9 (n := 120) dX7_who_118 rfl (by decide) rfl ?_
                      refine zi_iconst (n := 121) (nI 0) dX7_who_120 rfl (by decide) ?_
                      refine zi_istore10 (n := 123) dX7_who_121 rfl (by decide) rfl ?_
                      refine zi_iload8 (n := 125) dX7_who_123 rfl ?_
                      refine zi_istore11 (n := 127) dX7_who_125 rfl (by decide) rfl ?_
                      have g := lw1_X7_who (E := E) (Q := Q) (Z := (zsu Z 165 1 (nI 0))) (n := n) (p := p) (r := r) (i := i) (m := m) hk hp hr him (R := (zwoM (Z 169) n (6 + 5 * p + 1) (fun k => Z 168 (40 * r + i + k)) m 10 0 (nI 0) (Z 171))) 10 0 (nI 0) (Z 171) (some (.int (nI 0))) (some (.int (nI 0))) (by omega) (by omega) rfl
                      exact zG_eqM (congrArg (Prod.mk Q) (zup_at (f := (zsu Z 165 1 (nI 0))) (a := 171) (v := Z 171) rfl).symm) g
                    · first | exact absurd h109 (by decide) | exact absurd rfl h109
                  · first | exact absurd h98 (by decide) | exact absurd rfl h98
            · first | exact absurd h72 (by decide) | exact absurd rfl h72
          · first | exact absurd h58 (by decide) | exact absurd rfl h58
        · first | exact absurd h50 (by decide) | exact absurd rfl h50
      · first | exact absurd a3 h31 | exact absurd h31 a3
set_option maxHeartbeats 4000000 in
set_option maxRecDepth 100000 in
theorem lw2_X7_who (hk : zKd (Z 169) n) (hp : p < n) {r i m : Nat} (hr : r < 8) (him : i + m ≤ 40) {R : Int32 × zF} : ∀ k v (b : Int32) (f : zF) (x6 x8 : Option Value), v + k = 10 → 1 ≤ v → zwoM (Z 169) n (6 + 5 * p + 3) (fun k => Z 168 (40 * r + i + k)) m k v b f = R → zG E zm_X7_who 5 (some (.int R.1)) (Q, va_up Z 171 R.2) 127 [some (.ref (zad E 165)), some (.int (nI p)), some (.int (nI 2)), some (.int (nI r)), some (.int (nI i)), some (.int (nI m)), x6, some (.int (nI (6 + 5 * p + 3))), x8, some (.int (nI 9)), some (.int b), some (.int (nI v))] [] (Q, va_up Z 171 f) := by
  have hn := hk.1
  have h6 := hk.2.1
  intro k
  induction k with
  | zero =>
    intro v b f x6 x8 hi hl hR
    obtain rfl : v = 10 := by omega
    refine zi_iload11 (n := 129) dX7_who_127 rfl ?_
    refine zi_iload9 (n := 131) dX7_who_129 rfl ?_
    refine zi_icgt (n := 134) (tgt := 182) dX7_who_131 rfl (by decide) (fun h131 => ?_) (fun h131 => ?_)
    · refine zi_iload10 (n := 184) dX7_who_182 rfl ?_
      exact zi_iret dX7_who_184 rfl (by rw [← hR]; rfl) (by rw [← hR]; rfl)
    · exact absurd (by decide) h131
  | succ k ih =>
    intro v b f x6 x8 hi hl hR
    refine zi_iload11 (n := 129) dX7_who_127 rfl ?_
    refine zi_iload9 (n := 131) dX7_who_129 rfl ?_
    refine zi_icgt (n := 134) (tgt := 182) dX7_who_131 rfl (by decide) (fun h131 => ?_) (fun h131 => ?_)
    · exact absurd h131 (Int32.not_lt.mpr (nI_le (by omega) (by omega)))
    · refine zi_aload0 (n := 135) dX7_who_134 rfl ?_
      refine zi_V0v (mj := zm_X7_layThen) (n := 138) dX7_who_135 rfl zl_X7_193 zy_X7_layThen (zrc_X7 _ _) (by decide) (Nat.le_of_ble_eq_true rfl) c_lay ?_
      refine zi_aload0 (n := 139) dX7_who_138 rfl ?_
      refine zg_X7_7 (n := 142) dX7_who_139 rfl zl_X7_25 ?_
      refine zi_iload7 (n := 144) dX7_who_142 rfl ?_
      refine zi_iload11 (n := 146) dX7_who_144 rfl ?_
      refine zi_oast (N := 36) (i := 6 + 5 * p + 3) (n := 147) dX7_who_146 rfl (by decide) (fun _ => rfl) (by decide) rfl (by omega) (zfq _ _ _ _ _ _) ?_
      refine zi_iload10 (n := 149) dX7_who_147 rfl ?_
      refine zi_aload0 (n := 150) dX7_who_149 rfl ?_
      refine zi_bipush (n := 152) (nI 40) dX7_who_150 rfl (by decide) ?_
      refine zi_iload3 (n := 153) dX7_who_152 rfl ?_
      refine zi_imul (n := 154) dX7_who_153 rfl ?_
      rw [pk_mul]
      refine zi_iload4 (n := 156) dX7_who_154 rfl ?_
      refine zi_iadd (n := 157) dX7_who_156 rfl ?_
      rw [nI_add]
      refine zi_iload5 (n := 159) dX7_who_157 rfl ?_
      refine zi_V2s (mj := zm_X7_isSo) (n := 162) dX7_who_159 rfl zl_X7_238 zy_X7_isSo (zrc_X7 _ _) (by decide) (Nat.le_of_ble_eq_true rfl) (c_X7_isSo (by omega) (hk.lay.at (by decide) (by decide))) ?_
      refine zi_ifeq_b (n := 165) (tgt := 172) dX7_who_162 rfl (by decide) (fun h162 => ?_) (fun h162 => ?_)
      · have e1 : (zsoM n (fun k => Z 168 (40 * r + i + k)) m 0 true (upd (zly (Z 169) f) (6 + 5 * p + 3) (nI v))).1 = false := by simpa using h162
        refine zi_iconst (n := 173) (nI 0) dX7_who_172 rfl (by decide) ?_
        refine zi_ior (n := 174) dX7_who_173 rfl ?_
        refine zi_istore10 (n := 176) dX7_who_174 rfl (by decide) rfl ?_
        refine zi_iinc11 (n := 179) (nI (v + 1)) dX7_who_176 rfl (by decide) rfl (zi1 _) ?_
        refine zi_goto (tgt := 127) dX7_who_179 (by decide) ?_
        exact ih (v + 1) _ _ _ _ (by omega) (by omega) (by rw [← hR, zwoM]; first | rw [if_pos h162] | rw [if_neg h162])
      · refine zi_iconst (n := 166) (nI 1) dX7_who_165 rfl (by decide) ?_
        refine zi_iload11 (n := 168) dX7_who_166 rfl ?_
        refine zi_ishl (n := 169) dX7_who_168 rfl ?_
        refine zi_goto (tgt := 173) dX7_who_169 (by decide) ?_
        refine zi_ior (n := 174) dX7_who_173 rfl ?_
        refine zi_istore10 (n := 176) dX7_who_174 rfl (by decide) rfl ?_
        refine zi_iinc11 (n := 179) (nI (v + 1)) dX7_who_176 rfl (by decide) rfl (zi1 _) ?_
        refine zi_goto (tgt := 127) dX7_who_179 (by decide) ?_
        exact ih (v + 1) _ _ _ _ (by omega) (by omega) (by rw [← hR, zwoM]; first | rw [if_pos h162] | rw [if_neg h162])
set_option maxHeartbeats 4000000 in
set_option maxRecDepth 100000 in
theorem m_who_2 (h0 : Z 165 0 = nI 0) (hk : zKd (Z 169) n) {p : Nat} (hp : p < n) {r m i : Nat} (hr : r < 8) (hm1 : 1 ≤ m) (hm2 : m ≤ 12) (him : i + m ≤ 40) (hz : 0 ≤ Z 166 r) (hi : (¬ nI i < 0 ∧ ¬ (Z 167 r).toInt64 < (nI i).toInt64 + (nI m).toInt64)) : zCT E 5 zm_X7_who [.ref (zad E 165), .int (nI p), .int (nI 2), .int (nI r), .int (nI i), .int (nI m)] (Q, Z) (some (.int (zwoM (Z 169) n (6 + 5 * p + 3) (fun k => Z 168 (40 * r + i + k)) m 9 1 (nI 0) (Z 171)).1)) (Q, va_up (zsu Z 165 1 (nI 0)) 171 (zwoM (Z 169) n (6 + 5 * p + 3) (fun k => Z 168 (40 * r + i + k)) m 9 1 (nI 0) (Z 171)).2) := by
  refine zCT.of (by decide +kernel) (Nat.le_of_ble_eq_true rfl) ?_
  have hn := hk.1
  have h6 := hk.2.1
  have a1 := zisP hn h6 hp
  have a2 : nI 0 ≤ nI 2 ∧ nI 2 ≤ nI 3 := zrg (by omega) (by omega) (by decide)
  have a3 : (nI 0 ≤ nI r ∧ nI r ≤ nI 7) ∧ (nI 1 ≤ nI m ∧ nI m ≤ nI 12) := ⟨zrg (by omega) (by omega) (by decide), zrg hm1 hm2 (by decide)⟩
  refine zi_aload0 (n := 1) dX7_who_0 rfl ?_
  refine zi_iconst (n := 2) (nI 0) dX7_who_1 rfl (by decide) ?_
  refine zp_X7_0 (n := 5) dX7_who_2 rfl zl_X7_44 (zt0 h0) ?_
  refine zi_aload0 (n := 6) dX7_who_5 rfl ?_
  refine zi_iload1 (n := 7) dX7_who_6 rfl ?_
  refine zi_V1s (mj := zm_X7_isPaper) (n := 10) dX7_who_7 rfl zl_X7_180 zy_X7_isPaper (zrc_X7 _ _) (by decide) (Nat.le_of_ble_eq_true rfl) (c_X7_isPaper) ?_
  refine zi_ifeq_b (n := 13) (tgt := 34) dX7_who_10 rfl (by decide) (fun h10 => ?_) (fun h10 => ?_)
  · first | exact absurd a1 h10 | exact absurd h10 a1
  · refine zi_iload2 (n := 14) dX7_who_13 rfl ?_
    refine zi_i2l (n := 15) dX7_who_14 rfl ?_
    refine zi_lconst (n := 16) ((nI 0).toInt64) dX7_who_15 rfl (by decide) ?_
    refine zi_ldc2 (n := 19) dX7_who_16 rfl zl_X7_229 ?_
    rw [show (3 : Int64) = (nI 3).toInt64 by decide]
    refine zi_S3s (mj := zm_X7_in) (n := 22) dX7_who_19 rfl zl_X7_54 zy_X7_in (by decide) (Nat.le_of_ble_eq_true rfl) (c_X7_in) ?_
    refine zi_ifeq_b (n := 25) (tgt := 34) dX7_who_22 rfl (by decide) (fun h22 => ?_) (fun h22 => ?_)
    · first | exact absurd a2 h22 | exact absurd h22 a2
    · refine zi_iload3 (n := 26) dX7_who_25 rfl ?_
      refine zi_iload5 (n := 28) dX7_who_26 rfl ?_
      refine zi_S2s (mj := zm_X7_isMany) (n := 31) dX7_who_28 rfl zl_X7_231 zy_X7_isMany (by decide) (Nat.le_of_ble_eq_true rfl) (c_X7_isMany) ?_
      refine zi_ifne_b (n := 34) (tgt := 37) dX7_who_31 rfl (by decide) (fun h31 => ?_) (fun h31 => ?_)
      · refine zi_aload0 (n := 38) dX7_who_37 rfl ?_
        refine zi_iload3 (n := 39) dX7_who_38 rfl ?_
        refine zi_iload4 (n := 41) dX7_who_39 rfl ?_
        refine zi_iload5 (n := 43) dX7_who_41 rfl ?_
        refine zi_V3s (mj := zm_X7_rowFound) (n := 46) dX7_who_43 rfl zl_X7_234 zy_X7_rowFound (zrc_X7 _ _) (by decide) (Nat.le_of_ble_eq_true rfl) (c_rf_ok hr hz hi) ?_
        refine zi_istore6 (n := 48) dX7_who_46 rfl (by decide) rfl ?_
        refine zi_iload6 (n := 50) dX7_who_48 rfl ?_
        refine zi_ifeq (n := 53) (tgt := 56) dX7_who_50 rfl (by decide) (fun h50 => ?_) (fun h50 => ?_)
        · refine zi_iload2 (n := 57) dX7_who_56 rfl ?_
          refine zi_iconst (n := 58) (nI 3) dX7_who_57 rfl (by decide) ?_
          refine zi_icne (n := 61) (tgt := 65) dX7_who_58 rfl (by decide) (fun h58 => ?_) (fun h58 => ?_)
          · refine zi_bipush (n := 67) (nI 6) dX7_who_65 rfl (by decide) ?_
            refine zi_iconst (n := 68) (nI 5) dX7_who_67 rfl (by decide) ?_
            refine zi_iload1 (n := 69) dX7_who_68 rfl ?_
            refine zi_imul (n := 70) dX7_who_69 rfl ?_
            rw [pk_mul]
            refine zi_iadd (n := 71) dX7_who_70 rfl ?_
            rw [nI_add]
            refine zi_iload2 (n := 72) dX7_who_71 rfl ?_
            refine zi_ifne (n := 75) (tgt := 79) dX7_who_72 rfl (by decide) (fun h72 => ?_) (fun h72 => ?_)
            · refine zi_iload2 (n := 80) dX7_who_79 rfl ?_
              refine zi_iconst (n := 81) (nI 1) dX7_who_80 rfl (by decide) ?_
              refine zi_icne (n := 84) (tgt := 88) dX7_who_81 rfl (by decide) (fun h81 => ?_) (fun h81 => ?_)
              · refine zi_iconst (n := 89) (nI 3) dX7_who_88 rfl (by decide) ?_
                refine zi_iadd (n := 90) dX7_who_89 rfl ?_
                rw [nI_add]
                refine zi_istore7 (n := 92) dX7_who_90 rfl (by decide) rfl ?_
                refine zi_iload2 (n := 93) dX7_who_92 rfl ?_
                refine zi_ifeq (n := 96) (tgt := 101) dX7_who_93 rfl (by decide) (fun h93 => ?_) (fun h93 => ?_)
                · first | exact absurd h93 (by decide) | exact absurd rfl h93
                · refine zi_iload2 (n := 97) dX7_who_96 rfl ?_
                  refine zi_iconst (n := 98) (nI 2) dX7_who_97 rfl (by decide) ?_
                  refine zi_icne (n := 101) (tgt := 105) dX7_who_98 rfl (by decide) (fun h98 => ?_) (fun h98 => ?_)
                  · first | exact absurd h98 (by decide) | exact absurd rfl h98
                  · refine zi_iconst (n := 102) (nI 1) dX7_who_101 rfl (by decide) ?_
                    refine zi_goto (tgt := 106) dX7_who_102 (by decide) ?_
                    refine zi_istore8 (n := 108) dX7_who_106 rfl (by decide) rfl ?_
                    refine zi_iload2 (n := 109) dX7_who_108 rfl ?_
                    refine zi_ifne (n := 112) (tgt := 116) dX7_who_109 rfl (by decide) (fun h109 => ?_) (fun h109 => ?_)
                    · refine zi_bipush (n := 118) (nI 9) dX7_who_116 rfl (by decide) ?_
                      refine zi_istore9 (n := 120) dX7_who_118 rfl (by decide) rfl ?_
                      refine zi_iconst (n := 121) (nI 0) dX7_who_120 rfl (by decide) ?_
                      refine zi_istore10 (n := 123) dX7_who_121 rfl (by decide) rfl ?_
                      refine zi_iload8 (n := 125) dX7_who_123 rfl ?_
                      refine zi_istore11 (n := 127) dX7_who_125 rfl (by decide) rfl ?_
                      have g := lw2_X7_who (E := E) (Q := Q) (Z := (zsu Z 165 1 (nI 0))) (n := n) (p := p) (r := r) (i := i) (m := m) hk hp hr him (R := (zwoM (Z 169) n (6 + 5 * p + 3) (fun k => Z 168 (40 * r + i + k)) m 9 1 (nI 0) (Z 171))) 9 1 (nI 0) (Z 171) (some (.int (nI 0))) (some (.int (nI 1))) (by omega) (by omega) rfl
                      exact zG_eqM (congrArg (Prod.mk Q) (zup_at (f := (zsu Z 165 1 (nI 0))) (a := 171) (v := Z 171) rfl).symm) g
                    · first | exact absurd h109 (by decide) | exact absurd rfl h109
              · first | exact absurd h81 (by decide) | exact absurd rfl h81
            · first | exact absurd h72 (by decide) | exact absurd rfl h72
          · first | exact absurd h58 (by decide) | exact absurd rfl h58
        · first | exact absurd h50 (by decide) | exact absurd rfl h50
      · first | exact absurd a3 h31 | exact absurd h31 a3
set_option maxHeartbeats 4000000 in
set_option maxRecDepth 100000 in
theorem lw3_X7_who (hk : zKd (Z 169) n) (hp : p < n) {r i m : Nat} (hr : r < 8) (him : i + m ≤ 40) {R : Int32 × zF} : ∀ k v (b : Int32) (f : zF) (x6 x8 : Option Value), v + k = 10 → 0 ≤ v → zwoM (Z 169) n (1) (fun k => Z 168 (40 * r + i + k)) m k v b f = R → zG E zm_X7_who 5 (some (.int R.1)) (Q, va_up Z 171 R.2) 127 [some (.ref (zad E 165)), some (.int (nI p)), some (.int (nI 3)), some (.int (nI r)), some (.int (nI i)), some (.int (nI m)), x6, some (.int (nI (1))), x8, some (.int (nI 9)), some (.int b), some (.int (nI v))] [] (Q, va_up Z 171 f) := by
  have hn := hk.1
  have h6 := hk.2.1
  intro k
  induction k with
  | zero =>
    intro v b f x6 x8 hi hl hR
    obtain rfl : v = 10 := by omega
    refine zi_iload11 (n := 129) dX7_who_127 rfl ?_
    refine zi_iload9 (n := 131) dX7_who_129 rfl ?_
    refine zi_icgt (n := 134) (tgt := 182) dX7_who_131 rfl (by decide) (fun h131 => ?_) (fun h131 => ?_)
    · refine zi_iload10 (n := 184) dX7_who_182 rfl ?_
      exact zi_iret dX7_who_184 rfl (by rw [← hR]; rfl) (by rw [← hR]; rfl)
    · exact absurd (by decide) h131
  | succ k ih =>
    intro v b f x6 x8 hi hl hR
    refine zi_iload11 (n := 129) dX7_who_127 rfl ?_
    refine zi_iload9 (n := 131) dX7_who_129 rfl ?_
    refine zi_icgt (n := 134) (tgt := 182) dX7_who_131 rfl (by decide) (fun h131 => ?_) (fun h131 => ?_)
    · exact absurd h131 (Int32.not_lt.mpr (nI_le (by omega) (by omega)))
    · refine zi_aload0 (n := 135) dX7_who_134 rfl ?_
      refine zi_V0v (mj := zm_X7_layThen) (n := 138) dX7_who_135 rfl zl_X7_193 zy_X7_layThen (zrc_X7 _ _) (by decide) (Nat.le_of_ble_eq_true rfl) c_lay ?_
      refine zi_aload0 (n := 139) dX7_who_138 rfl ?_
      refine zg_X7_7 (n := 142) dX7_who_139 rfl zl_X7_25 ?_
      refine zi_iload7 (n := 144) dX7_who_142 rfl ?_
      refine zi_iload11 (n := 146) dX7_who_144 rfl ?_
      refine zi_oast (N := 36) (i := 1) (n := 147) dX7_who_146 rfl (by decide) (fun _ => rfl) (by decide) rfl (by omega) (zfq _ _ _ _ _ _) ?_
      refine zi_iload10 (n := 149) dX7_who_147 rfl ?_
      refine zi_aload0 (n := 150) dX7_who_149 rfl ?_
      refine zi_bipush (n := 152) (nI 40) dX7_who_150 rfl (by decide) ?_
      refine zi_iload3 (n := 153) dX7_who_152 rfl ?_
      refine zi_imul (n := 154) dX7_who_153 rfl ?_
      rw [pk_mul]
      refine zi_iload4 (n := 156) dX7_who_154 rfl ?_
      refine zi_iadd (n := 157) dX7_who_156 rfl ?_
      rw [nI_add]
      refine zi_iload5 (n := 159) dX7_who_157 rfl ?_
      refine zi_V2s (mj := zm_X7_isSo) (n := 162) dX7_who_159 rfl zl_X7_238 zy_X7_isSo (zrc_X7 _ _) (by decide) (Nat.le_of_ble_eq_true rfl) (c_X7_isSo (by omega) (hk.lay.up (by decide) (by omega))) ?_
      refine zi_ifeq_b (n := 165) (tgt := 172) dX7_who_162 rfl (by decide) (fun h162 => ?_) (fun h162 => ?_)
      · have e1 : (zsoM n (fun k => Z 168 (40 * r + i + k)) m 0 true (upd (zly (Z 169) f) (1) (nI v))).1 = false := by simpa using h162
        refine zi_iconst (n := 173) (nI 0) dX7_who_172 rfl (by decide) ?_
        refine zi_ior (n := 174) dX7_who_173 rfl ?_
        refine zi_istore10 (n := 176) dX7_who_174 rfl (by decide) rfl ?_
        refine zi_iinc11 (n := 179) (nI (v + 1)) dX7_who_176 rfl (by decide) rfl (zi1 _) ?_
        refine zi_goto (tgt := 127) dX7_who_179 (by decide) ?_
        exact ih (v + 1) _ _ _ _ (by omega) (by omega) (by rw [← hR, zwoM]; first | rw [if_pos h162] | rw [if_neg h162])
      · refine zi_iconst (n := 166) (nI 1) dX7_who_165 rfl (by decide) ?_
        refine zi_iload11 (n := 168) dX7_who_166 rfl ?_
        refine zi_ishl (n := 169) dX7_who_168 rfl ?_
        refine zi_goto (tgt := 173) dX7_who_169 (by decide) ?_
        refine zi_ior (n := 174) dX7_who_173 rfl ?_
        refine zi_istore10 (n := 176) dX7_who_174 rfl (by decide) rfl ?_
        refine zi_iinc11 (n := 179) (nI (v + 1)) dX7_who_176 rfl (by decide) rfl (zi1 _) ?_
        refine zi_goto (tgt := 127) dX7_who_179 (by decide) ?_
        exact ih (v + 1) _ _ _ _ (by omega) (by omega) (by rw [← hR, zwoM]; first | rw [if_pos h162] | rw [if_neg h162])
set_option maxHeartbeats 4000000 in
set_option maxRecDepth 100000 in
theorem m_who_3 (h0 : Z 165 0 = nI 0) (hk : zKd (Z 169) n) {p : Nat} (hp : p < n) {r m i : Nat} (hr : r < 8) (hm1 : 1 ≤ m) (hm2 : m ≤ 12) (him : i + m ≤ 40) (hz : 0 ≤ Z 166 r) (hi : (¬ nI i < 0 ∧ ¬ (Z 167 r).toInt64 < (nI i).toInt64 + (nI m).toInt64)) : zCT E 5 zm_X7_who [.ref (zad E 165), .int (nI p), .int (nI 3), .int (nI r), .int (nI i), .int (nI m)] (Q, Z) (some (.int (zwoM (Z 169) n (1) (fun k => Z 168 (40 * r + i + k)) m 10 0 (nI 0) (Z 171)).1)) (Q, va_up (zsu Z 165 1 (nI 0)) 171 (zwoM (Z 169) n (1) (fun k => Z 168 (40 * r + i + k)) m 10 0 (nI 0) (Z 171)).2) := by
  refine zCT.of (by decide +kernel) (Nat.le_of_ble_eq_true rfl) ?_
  have hn := hk.1
  have h6 := hk.2.1
  have a1 := zisP hn h6 hp
  have a2 : nI 0 ≤ nI 3 ∧ nI 3 ≤ nI 3 := zrg (by omega) (by omega) (by decide)
  have a3 : (nI 0 ≤ nI r ∧ nI r ≤ nI 7) ∧ (nI 1 ≤ nI m ∧ nI m ≤ nI 12) := ⟨zrg (by omega) (by omega) (by decide), zrg hm1 hm2 (by decide)⟩
  refine zi_aload0 (n := 1) dX7_who_0 rfl ?_
  refine zi_iconst (n := 2) (nI 0) dX7_who_1 rfl (by decide) ?_
  refine zp_X7_0 (n := 5) dX7_who_2 rfl zl_X7_44 (zt0 h0) ?_
  refine zi_aload0 (n := 6) dX7_who_5 rfl ?_
  refine zi_iload1 (n := 7) dX7_who_6 rfl ?_
  refine zi_V1s (mj := zm_X7_isPaper) (n := 10) dX7_who_7 rfl zl_X7_180 zy_X7_isPaper (zrc_X7 _ _) (by decide) (Nat.le_of_ble_eq_true rfl) (c_X7_isPaper) ?_
  refine zi_ifeq_b (n := 13) (tgt := 34) dX7_who_10 rfl (by decide) (fun h10 => ?_) (fun h10 => ?_)
  · first | exact absurd a1 h10 | exact absurd h10 a1
  · refine zi_iload2 (n := 14) dX7_who_13 rfl ?_
    refine zi_i2l (n := 15) dX7_who_14 rfl ?_
    refine zi_lconst (n := 16) ((nI 0).toInt64) dX7_who_15 rfl (by decide) ?_
    refine zi_ldc2 (n := 19) dX7_who_16 rfl zl_X7_229 ?_
    rw [show (3 : Int64) = (nI 3).toInt64 by decide]
    refine zi_S3s (mj := zm_X7_in) (n := 22) dX7_who_19 rfl zl_X7_54 zy_X7_in (by decide) (Nat.le_of_ble_eq_true rfl) (c_X7_in) ?_
    refine zi_ifeq_b (n := 25) (tgt := 34) dX7_who_22 rfl (by decide) (fun h22 => ?_) (fun h22 => ?_)
    · first | exact absurd a2 h22 | exact absurd h22 a2
    · refine zi_iload3 (n := 26) dX7_who_25 rfl ?_
      refine zi_iload5 (n := 28) dX7_who_26 rfl ?_
      refine zi_S2s (mj := zm_X7_isMany) (n := 31) dX7_who_28 rfl zl_X7_231 zy_X7_isMany (by decide) (Nat.le_of_ble_eq_true rfl) (c_X7_isMany) ?_
      refine zi_ifne_b (n := 34) (tgt := 37) dX7_who_31 rfl (by decide) (fun h31 => ?_) (fun h31 => ?_)
      · refine zi_aload0 (n := 38) dX7_who_37 rfl ?_
        refine zi_iload3 (n := 39) dX7_who_38 rfl ?_
        refine zi_iload4 (n := 41) dX7_who_39 rfl ?_
        refine zi_iload5 (n := 43) dX7_who_41 rfl ?_
        refine zi_V3s (mj := zm_X7_rowFound) (n := 46) dX7_who_43 rfl zl_X7_234 zy_X7_rowFound (zrc_X7 _ _) (by decide) (Nat.le_of_ble_eq_true rfl) (c_rf_ok hr hz hi) ?_
        refine zi_istore6 (n := 48) dX7_who_46 rfl (by decide) rfl ?_
        refine zi_iload6 (n := 50) dX7_who_48 rfl ?_
        refine zi_ifeq (n := 53) (tgt := 56) dX7_who_50 rfl (by decide) (fun h50 => ?_) (fun h50 => ?_)
        · refine zi_iload2 (n := 57) dX7_who_56 rfl ?_
          refine zi_iconst (n := 58) (nI 3) dX7_who_57 rfl (by decide) ?_
          refine zi_icne (n := 61) (tgt := 65) dX7_who_58 rfl (by decide) (fun h58 => ?_) (fun h58 => ?_)
          · first | exact absurd h58 (by decide) | exact absurd rfl h58
          · refine zi_iconst (n := 62) (nI 1) dX7_who_61 rfl (by decide) ?_
            refine zi_goto (tgt := 90) dX7_who_62 (by decide) ?_
            refine zi_istore7 (n := 92) dX7_who_90 rfl (by decide) rfl ?_
            refine zi_iload2 (n := 93) dX7_who_92 rfl ?_
            refine zi_ifeq (n := 96) (tgt := 101) dX7_who_93 rfl (by decide) (fun h93 => ?_) (fun h93 => ?_)
            · first | exact absurd h93 (by decide) | exact absurd rfl h93
            · refine zi_iload2 (n := 97) dX7_who_96 rfl ?_
              refine zi_iconst (n := 98) (nI 2) dX7_who_97 rfl (by decide) ?_
              refine zi_icne (n := 101) (tgt := 105) dX7_who_98 rfl (by decide) (fun h98 => ?_) (fun h98 => ?_)
              · refine zi_iconst (n := 106) (nI 0) dX7_who_105 rfl (by decide) ?_
                refine zi_istore8 (n := 108) dX7_who_106 rfl (by decide) rfl ?_
                refine zi_iload2 (n := 109) dX7_who_108 rfl ?_
                refine zi_ifne (n := 112) (tgt := 116) dX7_who_109 rfl (by decide) (fun h109 => ?_) (fun h109 => ?_)
                · refine zi_bipush (n := 118) (nI 9) dX7_who_116 rfl (by decide) ?_
                  refine zi_istore9 (n := 120) dX7_who_118 rfl (by decide) rfl ?_
                  refine zi_iconst (n := 121) (nI 0) dX7_who_120 rfl (by decide) ?_
                  refine zi_istore10 (n := 123) dX7_who_121 rfl (by decide) rfl ?_
                  refine zi_iload8 (n := 125) dX7_who_123 rfl ?_
                  refine zi_istore11 (n := 127) dX7_who_125 rfl (by decide) rfl ?_
                  have g := lw3_X7_who (E := E) (Q := Q) (Z := (zsu Z 165 1 (nI 0))) (n := n) (p := p) (r := r) (i := i) (m := m) hk hp hr him (R := (zwoM (Z 169) n (1) (fun k => Z 168 (40 * r + i + k)) m 10 0 (nI 0) (Z 171))) 10 0 (nI 0) (Z 171) (some (.int (nI 0))) (some (.int (nI 0))) (by omega) (by omega) rfl
                  exact zG_eqM (congrArg (Prod.mk Q) (zup_at (f := (zsu Z 165 1 (nI 0))) (a := 171) (v := Z 171) rfl).symm) g
                · first | exact absurd h109 (by decide) | exact absurd rfl h109
              · first | exact absurd h98 (by decide) | exact absurd rfl h98
        · first | exact absurd h50 (by decide) | exact absurd rfl h50
      · first | exact absurd a3 h31 | exact absurd h31 a3
set_option maxHeartbeats 4000000 in
set_option maxRecDepth 100000 in
theorem m_drawn_state (h0 : Z 165 0 = nI 0) {x y w : Int32} (hz : Z 169 0 ≤ 0) : zCT E 4 zm_X7_drawn [.ref (zad E 165), .int x, .int y, .int w] (Q, Z) (some (.int zSTATE)) (Q, Z) := by
  refine zCT.of (by decide +kernel) (Nat.le_of_ble_eq_true rfl) ?_
  refine zi_aload0 (n := 1) dX7_drawn_0 rfl ?_
  refine zi_iconst (n := 2) (nI 0) dX7_drawn_1 rfl (by decide) ?_
  refine zp_X7_0 (n := 5) dX7_drawn_2 rfl zl_X7_44 (zt0 h0) ?_
  refine zi_aload0 (n := 6) dX7_drawn_5 rfl ?_
  refine zi_V0s (mj := zm_X7_isThere) (n := 9) dX7_drawn_6 rfl zl_X7_171 zy_X7_isThere (zrc_X7 _ _) (by decide) (Nat.le_of_ble_eq_true rfl) (c_X7_isThere) ?_
  refine zi_ifne_b (n := 12) (tgt := 15) dX7_drawn_9 rfl (by decide) (fun h9 => ?_) (fun h9 => ?_)
  · first | exact absurd (fun q => q hz : ¬ ¬ Z 169 0 ≤ 0) h9 | exact absurd h9 (fun q => q hz : ¬ ¬ Z 169 0 ≤ 0)
  · refine zi_ldc (n := 14) dX7_drawn_12 rfl zl_X7_174 ?_
    exact zi_iret dX7_drawn_14 rfl (by rfl) (by rfl)
set_option maxHeartbeats 4000000 in
set_option maxRecDepth 100000 in
theorem m_drawn_bad (h0 : Z 165 0 = nI 0) {x y w : Int32} (hz : ¬ Z 169 0 ≤ 0) (hb : ¬ ((nI 0 ≤ x ∧ x ≤ nI 60) ∧ (nI 1 ≤ y ∧ y ≤ nI 999999) ∧ (nI 0 ≤ w ∧ w ≤ nI 1))) : zCT E 4 zm_X7_drawn [.ref (zad E 165), .int x, .int y, .int w] (Q, Z) (some (.int zBAD)) (Q, Z) := by
  refine zCT.of (by decide +kernel) (Nat.le_of_ble_eq_true rfl) ?_
  refine zi_aload0 (n := 1) dX7_drawn_0 rfl ?_
  refine zi_iconst (n := 2) (nI 0) dX7_drawn_1 rfl (by decide) ?_
  refine zp_X7_0 (n := 5) dX7_drawn_2 rfl zl_X7_44 (zt0 h0) ?_
  refine zi_aload0 (n := 6) dX7_drawn_5 rfl ?_
  refine zi_V0s (mj := zm_X7_isThere) (n := 9) dX7_drawn_6 rfl zl_X7_171 zy_X7_isThere (zrc_X7 _ _) (by decide) (Nat.le_of_ble_eq_true rfl) (c_X7_isThere) ?_
  refine zi_ifne_b (n := 12) (tgt := 15) dX7_drawn_9 rfl (by decide) (fun h9 => ?_) (fun h9 => ?_)
  · refine zi_iload1 (n := 16) dX7_drawn_15 rfl ?_
    refine zi_i2l (n := 17) dX7_drawn_16 rfl ?_
    refine zi_lconst (n := 18) ((nI 0).toInt64) dX7_drawn_17 rfl (by decide) ?_
    refine zi_ldc2 (n := 21) dX7_drawn_18 rfl zl_X7_191 ?_
    rw [show (60 : Int64) = (nI 60).toInt64 by decide]
    refine zi_S3s (mj := zm_X7_in) (n := 24) dX7_drawn_21 rfl zl_X7_54 zy_X7_in (by decide) (Nat.le_of_ble_eq_true rfl) (c_X7_in) ?_
    refine zi_ifeq_b (n := 27) (tgt := 49) dX7_drawn_24 rfl (by decide) (fun h24 => ?_) (fun h24 => ?_)
    · refine zi_ldc (n := 51) dX7_drawn_49 rfl zl_X7_64 ?_
      exact zi_iret dX7_drawn_51 rfl (by rfl) (by rfl)
    · refine zi_iload2 (n := 28) dX7_drawn_27 rfl ?_
      refine zi_i2l (n := 29) dX7_drawn_28 rfl ?_
      refine zi_lconst (n := 30) ((nI 1).toInt64) dX7_drawn_29 rfl (by decide) ?_
      refine zi_ldc2 (n := 33) dX7_drawn_30 rfl zl_X7_245 ?_
      rw [show (999999 : Int64) = (nI 999999).toInt64 by decide]
      refine zi_S3s (mj := zm_X7_in) (n := 36) dX7_drawn_33 rfl zl_X7_54 zy_X7_in (by decide) (Nat.le_of_ble_eq_true rfl) (c_X7_in) ?_
      refine zi_ifeq_b (n := 39) (tgt := 49) dX7_drawn_36 rfl (by decide) (fun h36 => ?_) (fun h36 => ?_)
      · refine zi_ldc (n := 51) dX7_drawn_49 rfl zl_X7_64 ?_
        exact zi_iret dX7_drawn_51 rfl (by rfl) (by rfl)
      · refine zi_iload3 (n := 40) dX7_drawn_39 rfl ?_
        refine zi_i2l (n := 41) dX7_drawn_40 rfl ?_
        refine zi_lconst (n := 42) ((nI 0).toInt64) dX7_drawn_41 rfl (by decide) ?_
        refine zi_lconst (n := 43) ((nI 1).toInt64) dX7_drawn_42 rfl (by decide) ?_
        refine zi_S3s (mj := zm_X7_in) (n := 46) dX7_drawn_43 rfl zl_X7_54 zy_X7_in (by decide) (Nat.le_of_ble_eq_true rfl) (c_X7_in) ?_
        refine zi_ifne_b (n := 49) (tgt := 52) dX7_drawn_46 rfl (by decide) (fun h46 => ?_) (fun h46 => ?_)
        · exact absurd ⟨h24, h36, h46⟩ hb
        · refine zi_ldc (n := 51) dX7_drawn_49 rfl zl_X7_64 ?_
          exact zi_iret dX7_drawn_51 rfl (by rfl) (by rfl)
  · first | exact absurd hz h9 | exact absurd h9 hz
def zdrM (f : zF) (n X : Nat) : zF := if f (6 + 5 * (X % n) + 3) = 0 then upd f (6 + 5 * (X % n) + 3) (nI (X % 9) + nI 1) else if X % 3 = 0 then upd f (6 + 5 * (X % n) + 1) (nI (X / 8 % 10)) else f
theorem zdrM_kd {f : zF} {X : Nat} (h : zKd f n) : zKd (zdrM f n X) n := by
  unfold zdrM
  split
  · exact h.at (by decide) (by decide)
  · split
    · exact h.at (by decide) (by decide)
    · exact h
def zbdM (n : Nat) : Nat → Nat → Int32 → zF → Int32 × zF
  | 0, _, x, f => (x, f)
  | k + 1, X, x, f => zbdM n k (X * 16807 % 2147483647) (x + (n1M (zdrM f n (X * 16807 % 2147483647)) n).1) (noonM (zdrM f n (X * 16807 % 2147483647)) n)
set_option maxHeartbeats 4000000 in
set_option maxRecDepth 100000 in
theorem l0_X7_drawn (h1 : 0 < n) {m : Nat} (hm : m < 2 ^ 30) {x2 : Int32} {r : Int32 × zF} : ∀ k i X (x : Int32) (f : zF) (x8 : Option Value), i + k = m → X < 2147483647 → zKd f n → zbdM n k X x f = r → zG E zm_X7_drawn 4 (some (.int r.1)) (Q, va_up Z 171 r.2) 66 [some (.ref (zad E 165)), some (.int (nI m)), some (.int x2), some (.int (nI 0)), some (.long (lN X)), none, some (.int x), some (.int (nI i)), x8] [] (Q, va_up Z 171 f) := by
  intro k
  induction k with
  | zero =>
    intro i X x f x8 hi hX hf hr
    subst hr
    refine zi_iload7 (n := 68) dX7_drawn_66 rfl ?_
    refine zi_iload1 (n := 69) dX7_drawn_68 rfl ?_
    refine zi_icge (n := 72) (tgt := 182) dX7_drawn_69 rfl (by decide) (fun h69 => ?_) (fun h69 => ?_)
    · refine zi_iload3 (n := 183) dX7_drawn_182 rfl ?_
      refine zi_ifne (n := 186) (tgt := 191) dX7_drawn_183 rfl (by decide) (fun h183 => ?_) (fun h183 => ?_)
      · first | exact absurd h183 (by decide) | exact absurd rfl h183
      · refine zi_iload6 (n := 188) dX7_drawn_186 rfl ?_
        refine zi_goto (tgt := 198) dX7_drawn_188 (by decide) ?_
        exact zi_iret dX7_drawn_198 rfl (by rfl) (by rfl)
    · exact absurd (nI_le (by omega) (by omega)) h69
  | succ k ih =>
    intro i X x f x8 hi hX hf hr
    have h6 := hf.2.1
    have hX2 : X * 16807 % 2147483647 < 2147483647 := Nat.mod_lt _ (by omega)
    rw [zbdM] at hr
    refine zi_iload7 (n := 68) dX7_drawn_66 rfl ?_
    refine zi_iload1 (n := 69) dX7_drawn_68 rfl ?_
    refine zi_icge (n := 72) (tgt := 182) dX7_drawn_69 rfl (by decide) (fun h69 => ?_) (fun h69 => ?_)
    · exact absurd ((nI_leI (by omega) (by omega)).mp h69) (by omega)
    · refine zi_lload4 (n := 74) dX7_drawn_72 rfl ?_
      refine zi_ldc2 (n := 77) dX7_drawn_74 rfl zl_X7_247 ?_
      rw [show (16807 : Int64) = lN 16807 from rfl]
      refine zi_lmul (n := 78) dX7_drawn_77 rfl ?_
      rw [lN_mul]
      refine zi_ldc2 (n := 81) dX7_drawn_78 rfl zl_X7_249 ?_
      rw [show (2147483647 : Int64) = lN 2147483647 from rfl]
      refine zi_lrem (n := 82) dX7_drawn_81 rfl (by decide) ?_
      rw [pk_lRem (by omega) (by omega) (by omega)]
      obtain ⟨Y, hY⟩ : ∃ Y, X * 16807 % 2147483647 = Y := ⟨_, rfl⟩
      rw [hY] at hX2 hr ⊢
      have hyn : Y % n < n := Nat.mod_lt _ h1
      refine zi_lstore4 (n := 84) dX7_drawn_82 rfl (by decide) rfl ?_
      refine zi_lload4 (n := 86) dX7_drawn_84 rfl ?_
      refine zi_aload0 (n := 87) dX7_drawn_86 rfl ?_
      refine zg_X7_7 (n := 90) dX7_drawn_87 rfl zl_X7_25 ?_
      refine zi_iconst (n := 91) (nI 0) dX7_drawn_90 rfl (by decide) ?_
      refine zi_oald (N := 36) (n := 92) dX7_drawn_91 rfl (by decide) (fun _ => rfl) (by decide) rfl (by decide) ((zfz _ _ _ _ _).trans hf.1) ?_
      refine zi_i2l (n := 93) dX7_drawn_92 rfl ?_
      rw [nI_l (by omega)]
      refine zi_lrem (n := 94) dX7_drawn_93 rfl (by rw [show (0 : Int64) = lN 0 from rfl, lN_eq (by omega) (by omega)]; omega) ?_
      rw [pk_lRem (by omega) h1 (by omega)]
      refine zi_l2i (n := 95) dX7_drawn_94 rfl ?_
      rw [lN_i]
      refine zi_istore8 (n := 97) dX7_drawn_95 rfl (by decide) rfl ?_
      refine zi_aload0 (n := 98) dX7_drawn_97 rfl ?_
      refine zg_X7_7 (n := 101) dX7_drawn_98 rfl zl_X7_25 ?_
      refine zi_iload8 (n := 103) dX7_drawn_101 rfl ?_
      refine zi_iconst (n := 104) (nI 3) dX7_drawn_103 rfl (by decide) ?_
      refine zi_S3s (mj := zm_X7_of) (n := 107) dX7_drawn_104 rfl zl_X7_146 zy_X7_of (by decide) (Nat.le_of_ble_eq_true rfl) (c_X7_of (Or.inr rfl) (by omega) (by decide)) ?_
      refine zi_ifne (n := 110) (tgt := 132) dX7_drawn_107 rfl (by decide) (fun h107 => ?_) (fun h107 => ?_)
      · refine zi_lload4 (n := 134) dX7_drawn_132 rfl ?_
        refine zi_ldc2 (n := 137) dX7_drawn_134 rfl zl_X7_229 ?_
        rw [show (3 : Int64) = lN 3 from rfl]
        refine zi_lrem (n := 138) dX7_drawn_137 rfl (by decide) ?_
        rw [pk_lRem (by omega) (by omega) (by omega)]
        refine zi_lconst (n := 139) ((nI 0).toInt64) dX7_drawn_138 rfl (by decide) ?_
        refine zi_lcmp (n := 140) dX7_drawn_139 rfl ?_
        refine zi_ifne_l (n := 143) (tgt := 164) dX7_drawn_140 rfl (by decide) (fun h140 => ?_) (fun h140 => ?_)
        · have e140 : ¬ Y % 3 = 0 := fun zz => h140 (by rw [zz]; rfl)
          refine zG_eqM (M2 := (Q, va_up Z 171 (zdrM f n Y))) (by unfold zdrM; first | (rw [if_pos h107]; done) | (rw [if_neg h107, if_pos e140]; done) | (rw [if_neg h107, if_neg e140]; done)) ?_
          refine zi_iload6 (n := 166) dX7_drawn_164 rfl ?_
          refine zi_aload0 (n := 167) dX7_drawn_166 rfl ?_
          refine zg_X7_7 (n := 170) dX7_drawn_167 rfl zl_X7_25 ?_
          refine zi_S1s (mj := zm_X7_noonOf) (n := 173) dX7_drawn_170 rfl zl_X7_168 zy_X7_noonOf (by decide) (Nat.le_of_ble_eq_true rfl) (c_X7_noonOf (Or.inr rfl) (zdrM_kd (X := Y) hf)) ?_
          refine zi_iadd (n := 174) dX7_drawn_173 rfl ?_
          refine zi_istore6 (n := 176) dX7_drawn_174 rfl (by decide) rfl ?_
          refine zi_iinc7 (n := 179) (nI (i + 1)) dX7_drawn_176 rfl (by decide) rfl (zi1 _) ?_
          refine zi_goto (tgt := 66) dX7_drawn_179 (by decide) ?_
          exact ih (i + 1) _ _ _ _ (by omega) hX2 (zdrM_kd hf).noon hr
        · have e140 : Y % 3 = 0 := by have := (lN_eq (a := Y % 3) (b := 0) (by omega) (by omega)).mp h140; omega
          refine zi_aload0 (n := 144) dX7_drawn_143 rfl ?_
          refine zg_X7_7 (n := 147) dX7_drawn_144 rfl zl_X7_25 ?_
          refine zi_iload8 (n := 149) dX7_drawn_147 rfl ?_
          refine zi_iconst (n := 150) (nI 1) dX7_drawn_149 rfl (by decide) ?_
          refine zi_lload4 (n := 152) dX7_drawn_150 rfl ?_
          refine zi_ldc2 (n := 155) dX7_drawn_152 rfl zl_X7_251 ?_
          rw [show (8 : Int64) = lN 8 from rfl]
          refine zi_ldiv (n := 156) dX7_drawn_155 rfl (by decide) ?_
          rw [pk_lDiv (by omega) (by omega) (by omega)]
          refine zi_ldc2 (n := 159) dX7_drawn_156 rfl zl_X7_241 ?_
          rw [show (10 : Int64) = lN 10 from rfl]
          refine zi_lrem (n := 160) dX7_drawn_159 rfl (by decide) ?_
          rw [pk_lRem (by omega) (by omega) (by omega)]
          refine zi_l2i (n := 161) dX7_drawn_160 rfl ?_
          rw [lN_i]
          refine zi_S4v (mj := zm_X7_be) (n := 164) dX7_drawn_161 rfl zl_X7_154 zy_X7_be (by decide) (Nat.le_of_ble_eq_true rfl) (c_X7_be (Or.inr rfl) (by omega) (by decide)) ?_
          refine zG_eqM (M2 := (Q, va_up Z 171 (zdrM f n Y))) (by unfold zdrM; first | (rw [if_pos h107]; done) | (rw [if_neg h107, if_pos e140]; done) | (rw [if_neg h107, if_neg e140]; done)) ?_
          refine zi_iload6 (n := 166) dX7_drawn_164 rfl ?_
          refine zi_aload0 (n := 167) dX7_drawn_166 rfl ?_
          refine zg_X7_7 (n := 170) dX7_drawn_167 rfl zl_X7_25 ?_
          refine zi_S1s (mj := zm_X7_noonOf) (n := 173) dX7_drawn_170 rfl zl_X7_168 zy_X7_noonOf (by decide) (Nat.le_of_ble_eq_true rfl) (c_X7_noonOf (Or.inr rfl) (zdrM_kd (X := Y) hf)) ?_
          refine zi_iadd (n := 174) dX7_drawn_173 rfl ?_
          refine zi_istore6 (n := 176) dX7_drawn_174 rfl (by decide) rfl ?_
          refine zi_iinc7 (n := 179) (nI (i + 1)) dX7_drawn_176 rfl (by decide) rfl (zi1 _) ?_
          refine zi_goto (tgt := 66) dX7_drawn_179 (by decide) ?_
          exact ih (i + 1) _ _ _ _ (by omega) hX2 (zdrM_kd hf).noon hr
      · refine zi_aload0 (n := 111) dX7_drawn_110 rfl ?_
        refine zg_X7_7 (n := 114) dX7_drawn_111 rfl zl_X7_25 ?_
        refine zi_iload8 (n := 116) dX7_drawn_114 rfl ?_
        refine zi_iconst (n := 117) (nI 3) dX7_drawn_116 rfl (by decide) ?_
        refine zi_lload4 (n := 119) dX7_drawn_117 rfl ?_
        refine zi_ldc2 (n := 122) dX7_drawn_119 rfl zl_X7_183 ?_
        rw [show (9 : Int64) = lN 9 from rfl]
        refine zi_lrem (n := 123) dX7_drawn_122 rfl (by decide) ?_
        rw [pk_lRem (by omega) (by omega) (by omega)]
        refine zi_l2i (n := 124) dX7_drawn_123 rfl ?_
        rw [lN_i]
        refine zi_iconst (n := 125) (nI 1) dX7_drawn_124 rfl (by decide) ?_
        refine zi_iadd (n := 126) dX7_drawn_125 rfl ?_
        refine zi_S4v (mj := zm_X7_be) (n := 129) dX7_drawn_126 rfl zl_X7_154 zy_X7_be (by decide) (Nat.le_of_ble_eq_true rfl) (c_X7_be (Or.inr rfl) (by omega) (by decide)) ?_
        refine zi_goto (tgt := 164) dX7_drawn_129 (by decide) ?_
        refine zG_eqM (M2 := (Q, va_up Z 171 (zdrM f n Y))) (by unfold zdrM; first | (rw [if_pos h107]; done) | (rw [if_neg h107, if_pos e140]; done) | (rw [if_neg h107, if_neg e140]; done)) ?_
        refine zi_iload6 (n := 166) dX7_drawn_164 rfl ?_
        refine zi_aload0 (n := 167) dX7_drawn_166 rfl ?_
        refine zg_X7_7 (n := 170) dX7_drawn_167 rfl zl_X7_25 ?_
        refine zi_S1s (mj := zm_X7_noonOf) (n := 173) dX7_drawn_170 rfl zl_X7_168 zy_X7_noonOf (by decide) (Nat.le_of_ble_eq_true rfl) (c_X7_noonOf (Or.inr rfl) (zdrM_kd (X := Y) hf)) ?_
        refine zi_iadd (n := 174) dX7_drawn_173 rfl ?_
        refine zi_istore6 (n := 176) dX7_drawn_174 rfl (by decide) rfl ?_
        refine zi_iinc7 (n := 179) (nI (i + 1)) dX7_drawn_176 rfl (by decide) rfl (zi1 _) ?_
        refine zi_goto (tgt := 66) dX7_drawn_179 (by decide) ?_
        exact ih (i + 1) _ _ _ _ (by omega) hX2 (zdrM_kd hf).noon hr
set_option maxHeartbeats 4000000 in
set_option maxRecDepth 100000 in
theorem m_drawn_0 (h0 : Z 165 0 = nI 0) (hk : zKd (Z 169) n) (hz : ¬ Z 169 0 ≤ 0) (h1 : 0 < n) {m : Nat} (hm1 : 0 ≤ m) (hm2 : m ≤ 60) {s : Nat} (hs1 : 1 ≤ s) (hs2 : s ≤ 999999) : zCT E 4 zm_X7_drawn [.ref (zad E 165), .int (nI m), .int (nI s), .int (nI 0)] (Q, Z) (some (.int (zbdM n m s (nI 0) (zly (Z 169) (Z 171))).1)) (Q, va_up Z 171 (zbdM n m s (nI 0) (zly (Z 169) (Z 171))).2) := by
  refine zCT.of (by decide +kernel) (Nat.le_of_ble_eq_true rfl) ?_
  have a2 := zrg hm1 hm2 (by decide)
  have a5 : nI 1 ≤ nI s ∧ nI s ≤ nI 999999 := zrg hs1 hs2 (by decide)
  have a3 : nI 0 ≤ nI 0 ∧ nI 0 ≤ nI 1 := by decide
  refine zi_aload0 (n := 1) dX7_drawn_0 rfl ?_
  refine zi_iconst (n := 2) (nI 0) dX7_drawn_1 rfl (by decide) ?_
  refine zp_X7_0 (n := 5) dX7_drawn_2 rfl zl_X7_44 (zt0 h0) ?_
  refine zi_aload0 (n := 6) dX7_drawn_5 rfl ?_
  refine zi_V0s (mj := zm_X7_isThere) (n := 9) dX7_drawn_6 rfl zl_X7_171 zy_X7_isThere (zrc_X7 _ _) (by decide) (Nat.le_of_ble_eq_true rfl) (c_X7_isThere) ?_
  refine zi_ifne_b (n := 12) (tgt := 15) dX7_drawn_9 rfl (by decide) (fun h9 => ?_) (fun h9 => ?_)
  · refine zi_iload1 (n := 16) dX7_drawn_15 rfl ?_
    refine zi_i2l (n := 17) dX7_drawn_16 rfl ?_
    refine zi_lconst (n := 18) ((nI 0).toInt64) dX7_drawn_17 rfl (by decide) ?_
    refine zi_ldc2 (n := 21) dX7_drawn_18 rfl zl_X7_191 ?_
    rw [show (60 : Int64) = (nI 60).toInt64 by decide]
    refine zi_S3s (mj := zm_X7_in) (n := 24) dX7_drawn_21 rfl zl_X7_54 zy_X7_in (by decide) (Nat.le_of_ble_eq_true rfl) (c_X7_in) ?_
    refine zi_ifeq_b (n := 27) (tgt := 49) dX7_drawn_24 rfl (by decide) (fun h24 => ?_) (fun h24 => ?_)
    · first | exact absurd a2 h24 | exact absurd h24 a2
    · refine zi_iload2 (n := 28) dX7_drawn_27 rfl ?_
      refine zi_i2l (n := 29) dX7_drawn_28 rfl ?_
      refine zi_lconst (n := 30) ((nI 1).toInt64) dX7_drawn_29 rfl (by decide) ?_
      refine zi_ldc2 (n := 33) dX7_drawn_30 rfl zl_X7_245 ?_
      rw [show (999999 : Int64) = (nI 999999).toInt64 by decide]
      refine zi_S3s (mj := zm_X7_in) (n := 36) dX7_drawn_33 rfl zl_X7_54 zy_X7_in (by decide) (Nat.le_of_ble_eq_true rfl) (c_X7_in) ?_
      refine zi_ifeq_b (n := 39) (tgt := 49) dX7_drawn_36 rfl (by decide) (fun h36 => ?_) (fun h36 => ?_)
      · first | exact absurd a5 h36 | exact absurd h36 a5
      · refine zi_iload3 (n := 40) dX7_drawn_39 rfl ?_
        refine zi_i2l (n := 41) dX7_drawn_40 rfl ?_
        refine zi_lconst (n := 42) ((nI 0).toInt64) dX7_drawn_41 rfl (by decide) ?_
        refine zi_lconst (n := 43) ((nI 1).toInt64) dX7_drawn_42 rfl (by decide) ?_
        refine zi_S3s (mj := zm_X7_in) (n := 46) dX7_drawn_43 rfl zl_X7_54 zy_X7_in (by decide) (Nat.le_of_ble_eq_true rfl) (c_X7_in) ?_
        refine zi_ifne_b (n := 49) (tgt := 52) dX7_drawn_46 rfl (by decide) (fun h46 => ?_) (fun h46 => ?_)
        · refine zi_aload0 (n := 53) dX7_drawn_52 rfl ?_
          refine zi_V0v (mj := zm_X7_layThen) (n := 56) dX7_drawn_53 rfl zl_X7_193 zy_X7_layThen (zrc_X7 _ _) (by decide) (Nat.le_of_ble_eq_true rfl) (c_X7_layThen) ?_
          refine zi_iload2 (n := 57) dX7_drawn_56 rfl ?_
          refine zi_i2l (n := 58) dX7_drawn_57 rfl ?_
          rw [nI_l (by omega)]
          refine zi_lstore4 (n := 60) dX7_drawn_58 rfl (by decide) rfl ?_
          refine zi_iconst (n := 61) (nI 0) dX7_drawn_60 rfl (by decide) ?_
          refine zi_istore6 (n := 63) dX7_drawn_61 rfl (by decide) rfl ?_
          refine zi_iconst (n := 64) (nI 0) dX7_drawn_63 rfl (by decide) ?_
          refine zi_istore7 (n := 66) dX7_drawn_64 rfl (by decide) rfl ?_
          exact l0_X7_drawn h1 (by omega) m 0 s (nI 0) _ none (by omega) (by omega) hk.lay rfl
        · first | exact absurd a3 h46 | exact absurd h46 a3
  · first | exact absurd hz h9 | exact absurd h9 hz
set_option maxHeartbeats 4000000 in
set_option maxRecDepth 100000 in
theorem l1_X7_drawn (h1 : 0 < n) {m : Nat} (hm : m < 2 ^ 30) {x2 : Int32} {r : Int32 × zF} : ∀ k i X (x : Int32) (f : zF) (x8 : Option Value), i + k = m → X < 2147483647 → zKd f n → zbdM n k X x f = r → zG E zm_X7_drawn 4 (some (.int (zsum (lgM r.2) n))) (Q, va_up Z 171 r.2) 66 [some (.ref (zad E 165)), some (.int (nI m)), some (.int x2), some (.int (nI 1)), some (.long (lN X)), none, some (.int x), some (.int (nI i)), x8] [] (Q, va_up Z 171 f) := by
  intro k
  induction k with
  | zero =>
    intro i X x f x8 hi hX hf hr
    subst hr
    refine zi_iload7 (n := 68) dX7_drawn_66 rfl ?_
    refine zi_iload1 (n := 69) dX7_drawn_68 rfl ?_
    refine zi_icge (n := 72) (tgt := 182) dX7_drawn_69 rfl (by decide) (fun h69 => ?_) (fun h69 => ?_)
    · refine zi_iload3 (n := 183) dX7_drawn_182 rfl ?_
      refine zi_ifne (n := 186) (tgt := 191) dX7_drawn_183 rfl (by decide) (fun h183 => ?_) (fun h183 => ?_)
      · refine zi_aload0 (n := 192) dX7_drawn_191 rfl ?_
        refine zg_X7_7 (n := 195) dX7_drawn_192 rfl zl_X7_25 ?_
        refine zi_S1s (mj := zm_X7_lettersOf) (n := 198) dX7_drawn_195 rfl zl_X7_200 zy_X7_lettersOf (by decide) (Nat.le_of_ble_eq_true rfl) (c_X7_lettersOf (Or.inr rfl) hf.1 hf.2.1) ?_
        exact zi_iret dX7_drawn_198 rfl (by rfl) (by rfl)
      · first | exact absurd h183 (by decide) | exact absurd rfl h183
    · exact absurd (nI_le (by omega) (by omega)) h69
  | succ k ih =>
    intro i X x f x8 hi hX hf hr
    have h6 := hf.2.1
    have hX2 : X * 16807 % 2147483647 < 2147483647 := Nat.mod_lt _ (by omega)
    rw [zbdM] at hr
    refine zi_iload7 (n := 68) dX7_drawn_66 rfl ?_
    refine zi_iload1 (n := 69) dX7_drawn_68 rfl ?_
    refine zi_icge (n := 72) (tgt := 182) dX7_drawn_69 rfl (by decide) (fun h69 => ?_) (fun h69 => ?_)
    · exact absurd ((nI_leI (by omega) (by omega)).mp h69) (by omega)
    · refine zi_lload4 (n := 74) dX7_drawn_72 rfl ?_
      refine zi_ldc2 (n := 77) dX7_drawn_74 rfl zl_X7_247 ?_
      rw [show (16807 : Int64) = lN 16807 from rfl]
      refine zi_lmul (n := 78) dX7_drawn_77 rfl ?_
      rw [lN_mul]
      refine zi_ldc2 (n := 81) dX7_drawn_78 rfl zl_X7_249 ?_
      rw [show (2147483647 : Int64) = lN 2147483647 from rfl]
      refine zi_lrem (n := 82) dX7_drawn_81 rfl (by decide) ?_
      rw [pk_lRem (by omega) (by omega) (by omega)]
      obtain ⟨Y, hY⟩ : ∃ Y, X * 16807 % 2147483647 = Y := ⟨_, rfl⟩
      rw [hY] at hX2 hr ⊢
      have hyn : Y % n < n := Nat.mod_lt _ h1
      refine zi_lstore4 (n := 84) dX7_drawn_82 rfl (by decide) rfl ?_
      refine zi_lload4 (n := 86) dX7_drawn_84 rfl ?_
      refine zi_aload0 (n := 87) dX7_drawn_86 rfl ?_
      refine zg_X7_7 (n := 90) dX7_drawn_87 rfl zl_X7_25 ?_
      refine zi_iconst (n := 91) (nI 0) dX7_drawn_90 rfl (by decide) ?_
      refine zi_oald (N := 36) (n := 92) dX7_drawn_91 rfl (by decide) (fun _ => rfl) (by decide) rfl (by decide) ((zfz _ _ _ _ _).trans hf.1) ?_
      refine zi_i2l (n := 93) dX7_drawn_92 rfl ?_
      rw [nI_l (by omega)]
      refine zi_lrem (n := 94) dX7_drawn_93 rfl (by rw [show (0 : Int64) = lN 0 from rfl, lN_eq (by omega) (by omega)]; omega) ?_
      rw [pk_lRem (by omega) h1 (by omega)]
      refine zi_l2i (n := 95) dX7_drawn_94 rfl ?_
      rw [lN_i]
      refine zi_istore8 (n := 97) dX7_drawn_95 rfl (by decide) rfl ?_
      refine zi_aload0 (n := 98) dX7_drawn_97 rfl ?_
      refine zg_X7_7 (n := 101) dX7_drawn_98 rfl zl_X7_25 ?_
      refine zi_iload8 (n := 103) dX7_drawn_101 rfl ?_
      refine zi_iconst (n := 104) (nI 3) dX7_drawn_103 rfl (by decide) ?_
      refine zi_S3s (mj := zm_X7_of) (n := 107) dX7_drawn_104 rfl zl_X7_146 zy_X7_of (by decide) (Nat.le_of_ble_eq_true rfl) (c_X7_of (Or.inr rfl) (by omega) (by decide)) ?_
      refine zi_ifne (n := 110) (tgt := 132) dX7_drawn_107 rfl (by decide) (fun h107 => ?_) (fun h107 => ?_)
      · refine zi_lload4 (n := 134) dX7_drawn_132 rfl ?_
        refine zi_ldc2 (n := 137) dX7_drawn_134 rfl zl_X7_229 ?_
        rw [show (3 : Int64) = lN 3 from rfl]
        refine zi_lrem (n := 138) dX7_drawn_137 rfl (by decide) ?_
        rw [pk_lRem (by omega) (by omega) (by omega)]
        refine zi_lconst (n := 139) ((nI 0).toInt64) dX7_drawn_138 rfl (by decide) ?_
        refine zi_lcmp (n := 140) dX7_drawn_139 rfl ?_
        refine zi_ifne_l (n := 143) (tgt := 164) dX7_drawn_140 rfl (by decide) (fun h140 => ?_) (fun h140 => ?_)
        · have e140 : ¬ Y % 3 = 0 := fun zz => h140 (by rw [zz]; rfl)
          refine zG_eqM (M2 := (Q, va_up Z 171 (zdrM f n Y))) (by unfold zdrM; first | (rw [if_pos h107]; done) | (rw [if_neg h107, if_pos e140]; done) | (rw [if_neg h107, if_neg e140]; done)) ?_
          refine zi_iload6 (n := 166) dX7_drawn_164 rfl ?_
          refine zi_aload0 (n := 167) dX7_drawn_166 rfl ?_
          refine zg_X7_7 (n := 170) dX7_drawn_167 rfl zl_X7_25 ?_
          refine zi_S1s (mj := zm_X7_noonOf) (n := 173) dX7_drawn_170 rfl zl_X7_168 zy_X7_noonOf (by decide) (Nat.le_of_ble_eq_true rfl) (c_X7_noonOf (Or.inr rfl) (zdrM_kd (X := Y) hf)) ?_
          refine zi_iadd (n := 174) dX7_drawn_173 rfl ?_
          refine zi_istore6 (n := 176) dX7_drawn_174 rfl (by decide) rfl ?_
          refine zi_iinc7 (n := 179) (nI (i + 1)) dX7_drawn_176 rfl (by decide) rfl (zi1 _) ?_
          refine zi_goto (tgt := 66) dX7_drawn_179 (by decide) ?_
          exact ih (i + 1) _ _ _ _ (by omega) hX2 (zdrM_kd hf).noon hr
        · have e140 : Y % 3 = 0 := by have := (lN_eq (a := Y % 3) (b := 0) (by omega) (by omega)).mp h140; omega
          refine zi_aload0 (n := 144) dX7_drawn_143 rfl ?_
          refine zg_X7_7 (n := 147) dX7_drawn_144 rfl zl_X7_25 ?_
          refine zi_iload8 (n := 149) dX7_drawn_147 rfl ?_
          refine zi_iconst (n := 150) (nI 1) dX7_drawn_149 rfl (by decide) ?_
          refine zi_lload4 (n := 152) dX7_drawn_150 rfl ?_
          refine zi_ldc2 (n := 155) dX7_drawn_152 rfl zl_X7_251 ?_
          rw [show (8 : Int64) = lN 8 from rfl]
          refine zi_ldiv (n := 156) dX7_drawn_155 rfl (by decide) ?_
          rw [pk_lDiv (by omega) (by omega) (by omega)]
          refine zi_ldc2 (n := 159) dX7_drawn_156 rfl zl_X7_241 ?_
          rw [show (10 : Int64) = lN 10 from rfl]
          refine zi_lrem (n := 160) dX7_drawn_159 rfl (by decide) ?_
          rw [pk_lRem (by omega) (by omega) (by omega)]
          refine zi_l2i (n := 161) dX7_drawn_160 rfl ?_
          rw [lN_i]
          refine zi_S4v (mj := zm_X7_be) (n := 164) dX7_drawn_161 rfl zl_X7_154 zy_X7_be (by decide) (Nat.le_of_ble_eq_true rfl) (c_X7_be (Or.inr rfl) (by omega) (by decide)) ?_
          refine zG_eqM (M2 := (Q, va_up Z 171 (zdrM f n Y))) (by unfold zdrM; first | (rw [if_pos h107]; done) | (rw [if_neg h107, if_pos e140]; done) | (rw [if_neg h107, if_neg e140]; done)) ?_
          refine zi_iload6 (n := 166) dX7_drawn_164 rfl ?_
          refine zi_aload0 (n := 167) dX7_drawn_166 rfl ?_
          refine zg_X7_7 (n := 170) dX7_drawn_167 rfl zl_X7_25 ?_
          refine zi_S1s (mj := zm_X7_noonOf) (n := 173) dX7_drawn_170 rfl zl_X7_168 zy_X7_noonOf (by decide) (Nat.le_of_ble_eq_true rfl) (c_X7_noonOf (Or.inr rfl) (zdrM_kd (X := Y) hf)) ?_
          refine zi_iadd (n := 174) dX7_drawn_173 rfl ?_
          refine zi_istore6 (n := 176) dX7_drawn_174 rfl (by decide) rfl ?_
          refine zi_iinc7 (n := 179) (nI (i + 1)) dX7_drawn_176 rfl (by decide) rfl (zi1 _) ?_
          refine zi_goto (tgt := 66) dX7_drawn_179 (by decide) ?_
          exact ih (i + 1) _ _ _ _ (by omega) hX2 (zdrM_kd hf).noon hr
      · refine zi_aload0 (n := 111) dX7_drawn_110 rfl ?_
        refine zg_X7_7 (n := 114) dX7_drawn_111 rfl zl_X7_25 ?_
        refine zi_iload8 (n := 116) dX7_drawn_114 rfl ?_
        refine zi_iconst (n := 117) (nI 3) dX7_drawn_116 rfl (by decide) ?_
        refine zi_lload4 (n := 119) dX7_drawn_117 rfl ?_
        refine zi_ldc2 (n := 122) dX7_drawn_119 rfl zl_X7_183 ?_
        rw [show (9 : Int64) = lN 9 from rfl]
        refine zi_lrem (n := 123) dX7_drawn_122 rfl (by decide) ?_
        rw [pk_lRem (by omega) (by omega) (by omega)]
        refine zi_l2i (n := 124) dX7_drawn_123 rfl ?_
        rw [lN_i]
        refine zi_iconst (n := 125) (nI 1) dX7_drawn_124 rfl (by decide) ?_
        refine zi_iadd (n := 126) dX7_drawn_125 rfl ?_
        refine zi_S4v (mj := zm_X7_be) (n := 129) dX7_drawn_126 rfl zl_X7_154 zy_X7_be (by decide) (Nat.le_of_ble_eq_true rfl) (c_X7_be (Or.inr rfl) (by omega) (by decide)) ?_
        refine zi_goto (tgt := 164) dX7_drawn_129 (by decide) ?_
        refine zG_eqM (M2 := (Q, va_up Z 171 (zdrM f n Y))) (by unfold zdrM; first | (rw [if_pos h107]; done) | (rw [if_neg h107, if_pos e140]; done) | (rw [if_neg h107, if_neg e140]; done)) ?_
        refine zi_iload6 (n := 166) dX7_drawn_164 rfl ?_
        refine zi_aload0 (n := 167) dX7_drawn_166 rfl ?_
        refine zg_X7_7 (n := 170) dX7_drawn_167 rfl zl_X7_25 ?_
        refine zi_S1s (mj := zm_X7_noonOf) (n := 173) dX7_drawn_170 rfl zl_X7_168 zy_X7_noonOf (by decide) (Nat.le_of_ble_eq_true rfl) (c_X7_noonOf (Or.inr rfl) (zdrM_kd (X := Y) hf)) ?_
        refine zi_iadd (n := 174) dX7_drawn_173 rfl ?_
        refine zi_istore6 (n := 176) dX7_drawn_174 rfl (by decide) rfl ?_
        refine zi_iinc7 (n := 179) (nI (i + 1)) dX7_drawn_176 rfl (by decide) rfl (zi1 _) ?_
        refine zi_goto (tgt := 66) dX7_drawn_179 (by decide) ?_
        exact ih (i + 1) _ _ _ _ (by omega) hX2 (zdrM_kd hf).noon hr
set_option maxHeartbeats 4000000 in
set_option maxRecDepth 100000 in
theorem m_drawn_1 (h0 : Z 165 0 = nI 0) (hk : zKd (Z 169) n) (hz : ¬ Z 169 0 ≤ 0) (h1 : 0 < n) {m : Nat} (hm1 : 0 ≤ m) (hm2 : m ≤ 60) {s : Nat} (hs1 : 1 ≤ s) (hs2 : s ≤ 999999) : zCT E 4 zm_X7_drawn [.ref (zad E 165), .int (nI m), .int (nI s), .int (nI 1)] (Q, Z) (some (.int (zsum (lgM (zbdM n m s (nI 0) (zly (Z 169) (Z 171))).2) n))) (Q, va_up Z 171 (zbdM n m s (nI 0) (zly (Z 169) (Z 171))).2) := by
  refine zCT.of (by decide +kernel) (Nat.le_of_ble_eq_true rfl) ?_
  have a2 := zrg hm1 hm2 (by decide)
  have a5 : nI 1 ≤ nI s ∧ nI s ≤ nI 999999 := zrg hs1 hs2 (by decide)
  have a3 : nI 0 ≤ nI 1 ∧ nI 1 ≤ nI 1 := by decide
  refine zi_aload0 (n := 1) dX7_drawn_0 rfl ?_
  refine zi_iconst (n := 2) (nI 0) dX7_drawn_1 rfl (by decide) ?_
  refine zp_X7_0 (n := 5) dX7_drawn_2 rfl zl_X7_44 (zt0 h0) ?_
  refine zi_aload0 (n := 6) dX7_drawn_5 rfl ?_
  refine zi_V0s (mj := zm_X7_isThere) (n := 9) dX7_drawn_6 rfl zl_X7_171 zy_X7_isThere (zrc_X7 _ _) (by decide) (Nat.le_of_ble_eq_true rfl) (c_X7_isThere) ?_
  refine zi_ifne_b (n := 12) (tgt := 15) dX7_drawn_9 rfl (by decide) (fun h9 => ?_) (fun h9 => ?_)
  · refine zi_iload1 (n := 16) dX7_drawn_15 rfl ?_
    refine zi_i2l (n := 17) dX7_drawn_16 rfl ?_
    refine zi_lconst (n := 18) ((nI 0).toInt64) dX7_drawn_17 rfl (by decide) ?_
    refine zi_ldc2 (n := 21) dX7_drawn_18 rfl zl_X7_191 ?_
    rw [show (60 : Int64) = (nI 60).toInt64 by decide]
    refine zi_S3s (mj := zm_X7_in) (n := 24) dX7_drawn_21 rfl zl_X7_54 zy_X7_in (by decide) (Nat.le_of_ble_eq_true rfl) (c_X7_in) ?_
    refine zi_ifeq_b (n := 27) (tgt := 49) dX7_drawn_24 rfl (by decide) (fun h24 => ?_) (fun h24 => ?_)
    · first | exact absurd a2 h24 | exact absurd h24 a2
    · refine zi_iload2 (n := 28) dX7_drawn_27 rfl ?_
      refine zi_i2l (n := 29) dX7_drawn_28 rfl ?_
      refine zi_lconst (n := 30) ((nI 1).toInt64) dX7_drawn_29 rfl (by decide) ?_
      refine zi_ldc2 (n := 33) dX7_drawn_30 rfl zl_X7_245 ?_
      rw [show (999999 : Int64) = (nI 999999).toInt64 by decide]
      refine zi_S3s (mj := zm_X7_in) (n := 36) dX7_drawn_33 rfl zl_X7_54 zy_X7_in (by decide) (Nat.le_of_ble_eq_true rfl) (c_X7_in) ?_
      refine zi_ifeq_b (n := 39) (tgt := 49) dX7_drawn_36 rfl (by decide) (fun h36 => ?_) (fun h36 => ?_)
      · first | exact absurd a5 h36 | exact absurd h36 a5
      · refine zi_iload3 (n := 40) dX7_drawn_39 rfl ?_
        refine zi_i2l (n := 41) dX7_drawn_40 rfl ?_
        refine zi_lconst (n := 42) ((nI 0).toInt64) dX7_drawn_41 rfl (by decide) ?_
        refine zi_lconst (n := 43) ((nI 1).toInt64) dX7_drawn_42 rfl (by decide) ?_
        refine zi_S3s (mj := zm_X7_in) (n := 46) dX7_drawn_43 rfl zl_X7_54 zy_X7_in (by decide) (Nat.le_of_ble_eq_true rfl) (c_X7_in) ?_
        refine zi_ifne_b (n := 49) (tgt := 52) dX7_drawn_46 rfl (by decide) (fun h46 => ?_) (fun h46 => ?_)
        · refine zi_aload0 (n := 53) dX7_drawn_52 rfl ?_
          refine zi_V0v (mj := zm_X7_layThen) (n := 56) dX7_drawn_53 rfl zl_X7_193 zy_X7_layThen (zrc_X7 _ _) (by decide) (Nat.le_of_ble_eq_true rfl) (c_X7_layThen) ?_
          refine zi_iload2 (n := 57) dX7_drawn_56 rfl ?_
          refine zi_i2l (n := 58) dX7_drawn_57 rfl ?_
          rw [nI_l (by omega)]
          refine zi_lstore4 (n := 60) dX7_drawn_58 rfl (by decide) rfl ?_
          refine zi_iconst (n := 61) (nI 0) dX7_drawn_60 rfl (by decide) ?_
          refine zi_istore6 (n := 63) dX7_drawn_61 rfl (by decide) rfl ?_
          refine zi_iconst (n := 64) (nI 0) dX7_drawn_63 rfl (by decide) ?_
          refine zi_istore7 (n := 66) dX7_drawn_64 rfl (by decide) rfl ?_
          exact l1_X7_drawn h1 (by omega) m 0 s (nI 0) _ none (by omega) (by omega) hk.lay rfl
        · first | exact absurd a3 h46 | exact absurd h46 a3
  · first | exact absurd hz h9 | exact absurd h9 hz
end ZM8
