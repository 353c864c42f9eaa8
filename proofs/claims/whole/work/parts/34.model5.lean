section ZM5
variable {E : zE} {Q : Nat → Nat → Nat → Int32} {Z : zS} {M M1 : zMem} {n p d : Nat} {f : zF}
abbrev zly (g f : zF) : zF := zl36 g f 36
theorem zly_at {g f : zF} {k : Nat} (h : k < 36) : zly g f k = g k := if_pos h
theorem zKd.lay {g f : zF} (h : zKd g n) : zKd (zly g f) n := by
  obtain ⟨h0, h6, h1⟩ := h
  refine ⟨by rw [zly_at (by decide)]; exact h0, h6, fun p hp => ?_⟩
  rw [zly_at (by omega)]
  exact h1 p hp
theorem c_lay : zCT E 0 zm_X7_layThen [.ref (zad E 165)] (Q, va_up Z 171 f) none (Q, va_up Z 171 (zly (Z 169) f)) := by
  have g := c_X7_layThen (E := E) (Q := Q) (Z := va_up Z 171 f)
  rw [zup_focus, va_up_self, va_up_ne _ _ (by decide)] at g
  exact g
theorem c_of9t {c : Nat} (hp : p < 6) (hc : c < 5) {x : Int32} (hx : Z 169 (6 + 5 * p + c) = x) : zCT E 0 zm_X7_of [.ref (zad E 169), .int (nI p), .int (nI c)] (Q, va_up Z 171 f) (some (.int x)) (Q, va_up Z 171 f) := by
  subst hx; exact zrq (a := 169) (c_X7_of (Or.inl rfl) hp hc)
theorem z1n {n : Nat} (h : n ≤ 6) : nI 1 <<< (nI n &&& 31) = nI (2 ^ n) := by
  rcases (show n = 0 ∨ n = 1 ∨ n = 2 ∨ n = 3 ∨ n = 4 ∨ n = 5 ∨ n = 6 by omega) with rfl | rfl | rfl | rfl | rfl | rfl | rfl <;> decide
set_option maxHeartbeats 4000000 in
set_option maxRecDepth 100000 in
theorem m_ahead_bad (h0 : Z 165 0 = nI 0) {x y w : Int32} (hb : ¬ ((nI 0 ≤ x ∧ x ≤ Z 169 0 - nI 1) ∧ (nI 0 ≤ y ∧ y ≤ nI 60) ∧ (nI 0 ≤ w ∧ w ≤ nI 1))) : zCT E 5 zm_X7_ahead [.ref (zad E 165), .int x, .int y, .int w] (Q, Z) (some (.int zBAD)) (Q, Z) := by
  refine zCT.of (by decide +kernel) (Nat.le_of_ble_eq_true rfl) ?_
  refine zi_aload0 (n := 1) dX7_ahead_0 rfl ?_
  refine zi_iconst (n := 2) (nI 0) dX7_ahead_1 rfl (by decide) ?_
  refine zp_X7_0 (n := 5) dX7_ahead_2 rfl zl_X7_44 (zt0 h0) ?_
  refine zi_aload0 (n := 6) dX7_ahead_5 rfl ?_
  refine zi_iload1 (n := 7) dX7_ahead_6 rfl ?_
  refine zi_V1s (mj := zm_X7_isPaper) (n := 10) dX7_ahead_7 rfl zl_X7_180 zy_X7_isPaper (zrc_X7 _ _) (by decide) (Nat.le_of_ble_eq_true rfl) (c_X7_isPaper) ?_
  refine zi_ifeq_b (n := 13) (tgt := 35) dX7_ahead_10 rfl (by decide) (fun h10 => ?_) (fun h10 => ?_)
  · refine zi_ldc (n := 37) dX7_ahead_35 rfl zl_X7_64 ?_
    exact zi_iret dX7_ahead_37 rfl (by rfl) (by rfl)
  · refine zi_iload2 (n := 14) dX7_ahead_13 rfl ?_
    refine zi_i2l (n := 15) dX7_ahead_14 rfl ?_
    refine zi_lconst (n := 16) ((nI 0).toInt64) dX7_ahead_15 rfl (by decide) ?_
    refine zi_ldc2 (n := 19) dX7_ahead_16 rfl zl_X7_191 ?_
    rw [show (60 : Int64) = (nI 60).toInt64 by decide]
    refine zi_S3s (mj := zm_X7_in) (n := 22) dX7_ahead_19 rfl zl_X7_54 zy_X7_in (by decide) (Nat.le_of_ble_eq_true rfl) (c_X7_in) ?_
    refine zi_ifeq_b (n := 25) (tgt := 35) dX7_ahead_22 rfl (by decide) (fun h22 => ?_) (fun h22 => ?_)
    · refine zi_ldc (n := 37) dX7_ahead_35 rfl zl_X7_64 ?_
      exact zi_iret dX7_ahead_37 rfl (by rfl) (by rfl)
    · refine zi_iload3 (n := 26) dX7_ahead_25 rfl ?_
      refine zi_i2l (n := 27) dX7_ahead_26 rfl ?_
      refine zi_lconst (n := 28) ((nI 0).toInt64) dX7_ahead_27 rfl (by decide) ?_
      refine zi_lconst (n := 29) ((nI 1).toInt64) dX7_ahead_28 rfl (by decide) ?_
      refine zi_S3s (mj := zm_X7_in) (n := 32) dX7_ahead_29 rfl zl_X7_54 zy_X7_in (by decide) (Nat.le_of_ble_eq_true rfl) (c_X7_in) ?_
      refine zi_ifne_b (n := 35) (tgt := 38) dX7_ahead_32 rfl (by decide) (fun h32 => ?_) (fun h32 => ?_)
      · exact absurd ⟨h10, h22, h32⟩ hb
      · refine zi_ldc (n := 37) dX7_ahead_35 rfl zl_X7_64 ?_
        exact zi_iret dX7_ahead_37 rfl (by rfl) (by rfl)
set_option maxHeartbeats 4000000 in
set_option maxRecDepth 100000 in
theorem m_ahead_0 (h0 : Z 165 0 = nI 0) (hk : zKd (Z 169) n) {p : Nat} (hp : p < n) {m : Nat} (hm1 : 0 ≤ m) (hm2 : m ≤ 60) : zCT E 5 zm_X7_ahead [.ref (zad E 165), .int (nI p), .int (nI m), .int (nI 0)] (Q, Z) (some (.int ((noonsM (zly (Z 169) (Z 171)) n m) (6 + 5 * p + 3)))) (Q, va_up Z 171 (noonsM (zly (Z 169) (Z 171)) n m)) := by
  refine zCT.of (by decide +kernel) (Nat.le_of_ble_eq_true rfl) ?_
  have hn := hk.1
  have h6 := hk.2.1
  have a1 := zisP hn h6 hp
  have a2 := zrg hm1 hm2 (by decide)
  have a3 : nI 0 ≤ nI 0 ∧ nI 0 ≤ nI 1 := by decide
  refine zi_aload0 (n := 1) dX7_ahead_0 rfl ?_
  refine zi_iconst (n := 2) (nI 0) dX7_ahead_1 rfl (by decide) ?_
  refine zp_X7_0 (n := 5) dX7_ahead_2 rfl zl_X7_44 (zt0 h0) ?_
  refine zi_aload0 (n := 6) dX7_ahead_5 rfl ?_
  refine zi_iload1 (n := 7) dX7_ahead_6 rfl ?_
  refine zi_V1s (mj := zm_X7_isPaper) (n := 10) dX7_ahead_7 rfl zl_X7_180 zy_X7_isPaper (zrc_X7 _ _) (by decide) (Nat.le_of_ble_eq_true rfl) (c_X7_isPaper) ?_
  refine zi_ifeq_b (n := 13) (tgt := 35) dX7_ahead_10 rfl (by decide) (fun h10 => ?_) (fun h10 => ?_)
  · first | exact absurd a1 h10 | exact absurd h10 a1
  · refine zi_iload2 (n := 14) dX7_ahead_13 rfl ?_
    refine zi_i2l (n := 15) dX7_ahead_14 rfl ?_
    refine zi_lconst (n := 16) ((nI 0).toInt64) dX7_ahead_15 rfl (by decide) ?_
    refine zi_ldc2 (n := 19) dX7_ahead_16 rfl zl_X7_191 ?_
    rw [show (60 : Int64) = (nI 60).toInt64 by decide]
    refine zi_S3s (mj := zm_X7_in) (n := 22) dX7_ahead_19 rfl zl_X7_54 zy_X7_in (by decide) (Nat.le_of_ble_eq_true rfl) (c_X7_in) ?_
    refine zi_ifeq_b (n := 25) (tgt := 35) dX7_ahead_22 rfl (by decide) (fun h22 => ?_) (fun h22 => ?_)
    · first | exact absurd a2 h22 | exact absurd h22 a2
    · refine zi_iload3 (n := 26) dX7_ahead_25 rfl ?_
      refine zi_i2l (n := 27) dX7_ahead_26 rfl ?_
      refine zi_lconst (n := 28) ((nI 0).toInt64) dX7_ahead_27 rfl (by decide) ?_
      refine zi_lconst (n := 29) ((nI 1).toInt64) dX7_ahead_28 rfl (by decide) ?_
      refine zi_S3s (mj := zm_X7_in) (n := 32) dX7_ahead_29 rfl zl_X7_54 zy_X7_in (by decide) (Nat.le_of_ble_eq_true rfl) (c_X7_in) ?_
      refine zi_ifne_b (n := 35) (tgt := 38) dX7_ahead_32 rfl (by decide) (fun h32 => ?_) (fun h32 => ?_)
      · refine zi_aload0 (n := 39) dX7_ahead_38 rfl ?_
        refine zi_V0v (mj := zm_X7_layThen) (n := 42) dX7_ahead_39 rfl zl_X7_193 zy_X7_layThen (zrc_X7 _ _) (by decide) (Nat.le_of_ble_eq_true rfl) (c_X7_layThen) ?_
        refine zi_aload0 (n := 43) dX7_ahead_42 rfl ?_
        refine zg_X7_7 (n := 46) dX7_ahead_43 rfl zl_X7_25 ?_
        refine zi_iload2 (n := 47) dX7_ahead_46 rfl ?_
        refine zi_S2v (mj := zm_X7_noonsOf) (n := 50) dX7_ahead_47 rfl zl_X7_196 zy_X7_noonsOf (by decide) (Nat.le_of_ble_eq_true rfl) (c_X7_noonsOf (Or.inr rfl) hk.lay (by omega)) ?_
        refine zi_aload0 (n := 51) dX7_ahead_50 rfl ?_
        refine zg_X7_7 (n := 54) dX7_ahead_51 rfl zl_X7_25 ?_
        refine zi_iload1 (n := 55) dX7_ahead_54 rfl ?_
        refine zi_iload3 (n := 56) dX7_ahead_55 rfl ?_
        refine zi_ifne (n := 59) (tgt := 63) dX7_ahead_56 rfl (by decide) (fun h56 => ?_) (fun h56 => ?_)
        · first | exact absurd h56 (by decide) | exact absurd rfl h56
        · refine zi_iconst (n := 60) (nI 3) dX7_ahead_59 rfl (by decide) ?_
          refine zi_goto (tgt := 64) dX7_ahead_60 (by decide) ?_
          refine zi_S3s (mj := zm_X7_of) (n := 67) dX7_ahead_64 rfl zl_X7_146 zy_X7_of (by decide) (Nat.le_of_ble_eq_true rfl) (c_X7_of (Or.inr rfl) (by omega) (by decide)) ?_
          exact zi_iret dX7_ahead_67 rfl (by rfl) (by rfl)
      · first | exact absurd a3 h32 | exact absurd h32 a3
set_option maxHeartbeats 4000000 in
set_option maxRecDepth 100000 in
theorem m_ahead_1 (h0 : Z 165 0 = nI 0) (hk : zKd (Z 169) n) {p : Nat} (hp : p < n) {m : Nat} (hm1 : 0 ≤ m) (hm2 : m ≤ 60) : zCT E 5 zm_X7_ahead [.ref (zad E 165), .int (nI p), .int (nI m), .int (nI 1)] (Q, Z) (some (.int ((noonsM (zly (Z 169) (Z 171)) n m) (6 + 5 * p + 1)))) (Q, va_up Z 171 (noonsM (zly (Z 169) (Z 171)) n m)) := by
  refine zCT.of (by decide +kernel) (Nat.le_of_ble_eq_true rfl) ?_
  have hn := hk.1
  have h6 := hk.2.1
  have a1 := zisP hn h6 hp
  have a2 := zrg hm1 hm2 (by decide)
  have a3 : nI 0 ≤ nI 1 ∧ nI 1 ≤ nI 1 := by decide
  refine zi_aload0 (n := 1) dX7_ahead_0 rfl ?_
  refine zi_iconst (n := 2) (nI 0) dX7_ahead_1 rfl (by decide) ?_
  refine zp_X7_0 (n := 5) dX7_ahead_2 rfl zl_X7_44 (zt0 h0) ?_
  refine zi_aload0 (n := 6) dX7_ahead_5 rfl ?_
  refine zi_iload1 (n := 7) dX7_ahead_6 rfl ?_
  refine zi_V1s (mj := zm_X7_isPaper) (n := 10) dX7_ahead_7 rfl zl_X7_180 zy_X7_isPaper (zrc_X7 _ _) (by decide) (Nat.le_of_ble_eq_true rfl) (c_X7_isPaper) ?_
  refine zi_ifeq_b (n := 13) (tgt := 35) dX7_ahead_10 rfl (by decide) (fun h10 => ?_) (fun h10 => ?_)
  · first | exact absurd a1 h10 | exact absurd h10 a1
  · refine zi_iload2 (n := 14) dX7_ahead_13 rfl ?_
    refine zi_i2l (n := 15) dX7_ahead_14 rfl ?_
    refine zi_lconst (n := 16) ((nI 0).toInt64) dX7_ahead_15 rfl (by decide) ?_
    refine zi_ldc2 (n := 19) dX7_ahead_16 rfl zl_X7_191 ?_
    rw [show (60 : Int64) = (nI 60).toInt64 by decide]
    refine zi_S3s (mj := zm_X7_in) (n := 22) dX7_ahead_19 rfl zl_X7_54 zy_X7_in (by decide) (Nat.le_of_ble_eq_true rfl) (c_X7_in) ?_
    refine zi_ifeq_b (n := 25) (tgt := 35) dX7_ahead_22 rfl (by decide) (fun h22 => ?_) (fun h22 => ?_)
    · first | exact absurd a2 h22 | exact absurd h22 a2
    · refine zi_iload3 (n := 26) dX7_ahead_25 rfl ?_
      refine zi_i2l (n := 27) dX7_ahead_26 rfl ?_
      refine zi_lconst (n := 28) ((nI 0).toInt64) dX7_ahead_27 rfl (by decide) ?_
      refine zi_lconst (n := 29) ((nI 1).toInt64) dX7_ahead_28 rfl (by decide) ?_
      refine zi_S3s (mj := zm_X7_in) (n := 32) dX7_ahead_29 rfl zl_X7_54 zy_X7_in (by decide) (Nat.le_of_ble_eq_true rfl) (c_X7_in) ?_
      refine zi_ifne_b (n := 35) (tgt := 38) dX7_ahead_32 rfl (by decide) (fun h32 => ?_) (fun h32 => ?_)
      · refine zi_aload0 (n := 39) dX7_ahead_38 rfl ?_
        refine zi_V0v (mj := zm_X7_layThen) (n := 42) dX7_ahead_39 rfl zl_X7_193 zy_X7_layThen (zrc_X7 _ _) (by decide) (Nat.le_of_ble_eq_true rfl) (c_X7_layThen) ?_
        refine zi_aload0 (n := 43) dX7_ahead_42 rfl ?_
        refine zg_X7_7 (n := 46) dX7_ahead_43 rfl zl_X7_25 ?_
        refine zi_iload2 (n := 47) dX7_ahead_46 rfl ?_
        refine zi_S2v (mj := zm_X7_noonsOf) (n := 50) dX7_ahead_47 rfl zl_X7_196 zy_X7_noonsOf (by decide) (Nat.le_of_ble_eq_true rfl) (c_X7_noonsOf (Or.inr rfl) hk.lay (by omega)) ?_
        refine zi_aload0 (n := 51) dX7_ahead_50 rfl ?_
        refine zg_X7_7 (n := 54) dX7_ahead_51 rfl zl_X7_25 ?_
        refine zi_iload1 (n := 55) dX7_ahead_54 rfl ?_
        refine zi_iload3 (n := 56) dX7_ahead_55 rfl ?_
        refine zi_ifne (n := 59) (tgt := 63) dX7_ahead_56 rfl (by decide) (fun h56 => ?_) (fun h56 => ?_)
        · refine zi_iconst (n := 64) (nI 1) dX7_ahead_63 rfl (by decide) ?_
          refine zi_S3s (mj := zm_X7_of) (n := 67) dX7_ahead_64 rfl zl_X7_146 zy_X7_of (by decide) (Nat.le_of_ble_eq_true rfl) (c_X7_of (Or.inr rfl) (by omega) (by decide)) ?_
          exact zi_iret dX7_ahead_67 rfl (by rfl) (by rfl)
        · first | exact absurd h56 (by decide) | exact absurd rfl h56
      · first | exact absurd a3 h32 | exact absurd h32 a3
set_option maxHeartbeats 4000000 in
set_option maxRecDepth 100000 in
theorem m_bitten_state (h0 : Z 165 0 = nI 0) {x y : Int32} (hz : Z 169 0 ≤ 0) : zCT E 5 zm_X7_bitten [.ref (zad E 165), .int x, .int y] (Q, Z) (some (.int zSTATE)) (Q, Z) := by
  refine zCT.of (by decide +kernel) (Nat.le_of_ble_eq_true rfl) ?_
  refine zi_aload0 (n := 1) dX7_bitten_0 rfl ?_
  refine zi_iconst (n := 2) (nI 0) dX7_bitten_1 rfl (by decide) ?_
  refine zp_X7_0 (n := 5) dX7_bitten_2 rfl zl_X7_44 (zt0 h0) ?_
  refine zi_aload0 (n := 6) dX7_bitten_5 rfl ?_
  refine zi_V0s (mj := zm_X7_isThere) (n := 9) dX7_bitten_6 rfl zl_X7_171 zy_X7_isThere (zrc_X7 _ _) (by decide) (Nat.le_of_ble_eq_true rfl) (c_X7_isThere) ?_
  refine zi_ifne_b (n := 12) (tgt := 15) dX7_bitten_9 rfl (by decide) (fun h9 => ?_) (fun h9 => ?_)
  · first | exact absurd (fun q => q hz : ¬ ¬ Z 169 0 ≤ 0) h9 | exact absurd h9 (fun q => q hz : ¬ ¬ Z 169 0 ≤ 0)
  · refine zi_ldc (n := 14) dX7_bitten_12 rfl zl_X7_174 ?_
    exact zi_iret dX7_bitten_14 rfl (by rfl) (by rfl)
set_option maxHeartbeats 4000000 in
set_option maxRecDepth 100000 in
theorem m_bitten_bad (h0 : Z 165 0 = nI 0) {x y : Int32} (hz : ¬ Z 169 0 ≤ 0) (hb : ¬ ((nI 1 ≤ x ∧ x ≤ nI 60) ∧ (nI 0 ≤ y ∧ y ≤ nI 1))) : zCT E 5 zm_X7_bitten [.ref (zad E 165), .int x, .int y] (Q, Z) (some (.int zBAD)) (Q, Z) := by
  refine zCT.of (by decide +kernel) (Nat.le_of_ble_eq_true rfl) ?_
  refine zi_aload0 (n := 1) dX7_bitten_0 rfl ?_
  refine zi_iconst (n := 2) (nI 0) dX7_bitten_1 rfl (by decide) ?_
  refine zp_X7_0 (n := 5) dX7_bitten_2 rfl zl_X7_44 (zt0 h0) ?_
  refine zi_aload0 (n := 6) dX7_bitten_5 rfl ?_
  refine zi_V0s (mj := zm_X7_isThere) (n := 9) dX7_bitten_6 rfl zl_X7_171 zy_X7_isThere (zrc_X7 _ _) (by decide) (Nat.le_of_ble_eq_true rfl) (c_X7_isThere) ?_
  refine zi_ifne_b (n := 12) (tgt := 15) dX7_bitten_9 rfl (by decide) (fun h9 => ?_) (fun h9 => ?_)
  · refine zi_iload1 (n := 16) dX7_bitten_15 rfl ?_
    refine zi_i2l (n := 17) dX7_bitten_16 rfl ?_
    refine zi_lconst (n := 18) ((nI 1).toInt64) dX7_bitten_17 rfl (by decide) ?_
    refine zi_ldc2 (n := 21) dX7_bitten_18 rfl zl_X7_191 ?_
    rw [show (60 : Int64) = (nI 60).toInt64 by decide]
    refine zi_S3s (mj := zm_X7_in) (n := 24) dX7_bitten_21 rfl zl_X7_54 zy_X7_in (by decide) (Nat.le_of_ble_eq_true rfl) (c_X7_in) ?_
    refine zi_ifeq_b (n := 27) (tgt := 37) dX7_bitten_24 rfl (by decide) (fun h24 => ?_) (fun h24 => ?_)
    · refine zi_ldc (n := 39) dX7_bitten_37 rfl zl_X7_64 ?_
      exact zi_iret dX7_bitten_39 rfl (by rfl) (by rfl)
    · refine zi_iload2 (n := 28) dX7_bitten_27 rfl ?_
      refine zi_i2l (n := 29) dX7_bitten_28 rfl ?_
      refine zi_lconst (n := 30) ((nI 0).toInt64) dX7_bitten_29 rfl (by decide) ?_
      refine zi_lconst (n := 31) ((nI 1).toInt64) dX7_bitten_30 rfl (by decide) ?_
      refine zi_S3s (mj := zm_X7_in) (n := 34) dX7_bitten_31 rfl zl_X7_54 zy_X7_in (by decide) (Nat.le_of_ble_eq_true rfl) (c_X7_in) ?_
      refine zi_ifne_b (n := 37) (tgt := 40) dX7_bitten_34 rfl (by decide) (fun h34 => ?_) (fun h34 => ?_)
      · exact absurd ⟨h24, h34⟩ hb
      · refine zi_ldc (n := 39) dX7_bitten_37 rfl zl_X7_64 ?_
        exact zi_iret dX7_bitten_39 rfl (by rfl) (by rfl)
  · first | exact absurd hz h9 | exact absurd h9 hz
set_option maxHeartbeats 4000000 in
set_option maxRecDepth 100000 in
theorem m_bitten_0 (h0 : Z 165 0 = nI 0) (hk : zKd (Z 169) n) (hz : ¬ Z 169 0 ≤ 0) {m : Nat} (hm1 : 1 ≤ m) (hm2 : m ≤ 60) : zCT E 5 zm_X7_bitten [.ref (zad E 165), .int (nI m), .int (nI 0)] (Q, Z) (some (.int (encO (nextM (noonsM (zly (Z 169) (Z 171)) n (m - 1)) n)))) (Q, va_up Z 171 (noonsM (zly (Z 169) (Z 171)) n (m - 1))) := by
  refine zCT.of (by decide +kernel) (Nat.le_of_ble_eq_true rfl) ?_
  have a2 := zrg hm1 hm2 (by decide)
  have hT := hk.lay (f := Z 171) |>.noons (m - 1)
  have a3 : nI 0 ≤ nI 0 ∧ nI 0 ≤ nI 1 := by decide
  refine zi_aload0 (n := 1) dX7_bitten_0 rfl ?_
  refine zi_iconst (n := 2) (nI 0) dX7_bitten_1 rfl (by decide) ?_
  refine zp_X7_0 (n := 5) dX7_bitten_2 rfl zl_X7_44 (zt0 h0) ?_
  refine zi_aload0 (n := 6) dX7_bitten_5 rfl ?_
  refine zi_V0s (mj := zm_X7_isThere) (n := 9) dX7_bitten_6 rfl zl_X7_171 zy_X7_isThere (zrc_X7 _ _) (by decide) (Nat.le_of_ble_eq_true rfl) (c_X7_isThere) ?_
  refine zi_ifne_b (n := 12) (tgt := 15) dX7_bitten_9 rfl (by decide) (fun h9 => ?_) (fun h9 => ?_)
  · refine zi_iload1 (n := 16) dX7_bitten_15 rfl ?_
    refine zi_i2l (n := 17) dX7_bitten_16 rfl ?_
    refine zi_lconst (n := 18) ((nI 1).toInt64) dX7_bitten_17 rfl (by decide) ?_
    refine zi_ldc2 (n := 21) dX7_bitten_18 rfl zl_X7_191 ?_
    rw [show (60 : Int64) = (nI 60).toInt64 by decide]
    refine zi_S3s (mj := zm_X7_in) (n := 24) dX7_bitten_21 rfl zl_X7_54 zy_X7_in (by decide) (Nat.le_of_ble_eq_true rfl) (c_X7_in) ?_
    refine zi_ifeq_b (n := 27) (tgt := 37) dX7_bitten_24 rfl (by decide) (fun h24 => ?_) (fun h24 => ?_)
    · first | exact absurd a2 h24 | exact absurd h24 a2
    · refine zi_iload2 (n := 28) dX7_bitten_27 rfl ?_
      refine zi_i2l (n := 29) dX7_bitten_28 rfl ?_
      refine zi_lconst (n := 30) ((nI 0).toInt64) dX7_bitten_29 rfl (by decide) ?_
      refine zi_lconst (n := 31) ((nI 1).toInt64) dX7_bitten_30 rfl (by decide) ?_
      refine zi_S3s (mj := zm_X7_in) (n := 34) dX7_bitten_31 rfl zl_X7_54 zy_X7_in (by decide) (Nat.le_of_ble_eq_true rfl) (c_X7_in) ?_
      refine zi_ifne_b (n := 37) (tgt := 40) dX7_bitten_34 rfl (by decide) (fun h34 => ?_) (fun h34 => ?_)
      · refine zi_aload0 (n := 41) dX7_bitten_40 rfl ?_
        refine zi_V0v (mj := zm_X7_layThen) (n := 44) dX7_bitten_41 rfl zl_X7_193 zy_X7_layThen (zrc_X7 _ _) (by decide) (Nat.le_of_ble_eq_true rfl) (c_X7_layThen) ?_
        refine zi_aload0 (n := 45) dX7_bitten_44 rfl ?_
        refine zg_X7_7 (n := 48) dX7_bitten_45 rfl zl_X7_25 ?_
        refine zi_iload1 (n := 49) dX7_bitten_48 rfl ?_
        refine zi_iconst (n := 50) (nI 1) dX7_bitten_49 rfl (by decide) ?_
        refine zi_isub (n := 51) dX7_bitten_50 rfl ?_
        rw [pk_sub (by omega)]
        refine zi_S2v (mj := zm_X7_noonsOf) (n := 54) dX7_bitten_51 rfl zl_X7_196 zy_X7_noonsOf (by decide) (Nat.le_of_ble_eq_true rfl) (c_X7_noonsOf (Or.inr rfl) hk.lay (by omega)) ?_
        refine zi_iload2 (n := 55) dX7_bitten_54 rfl ?_
        refine zi_ifne (n := 58) (tgt := 68) dX7_bitten_55 rfl (by decide) (fun h55 => ?_) (fun h55 => ?_)
        · first | exact absurd h55 (by decide) | exact absurd rfl h55
        · refine zi_aload0 (n := 59) dX7_bitten_58 rfl ?_
          refine zg_X7_7 (n := 62) dX7_bitten_59 rfl zl_X7_25 ?_
          refine zi_S1s (mj := zm_X7_nextOf) (n := 65) dX7_bitten_62 rfl zl_X7_161 zy_X7_nextOf (by decide) (Nat.le_of_ble_eq_true rfl) (c_X7_nextOf (Or.inr rfl) hT.1 hT.2.1) ?_
          refine zi_goto (tgt := 75) dX7_bitten_65 (by decide) ?_
          exact zi_iret dX7_bitten_75 rfl (by rfl) (by rfl)
      · first | exact absurd a3 h34 | exact absurd h34 a3
  · first | exact absurd hz h9 | exact absurd h9 hz
set_option maxHeartbeats 4000000 in
set_option maxRecDepth 100000 in
theorem m_bitten_1 (h0 : Z 165 0 = nI 0) (hk : zKd (Z 169) n) (hz : ¬ Z 169 0 ≤ 0) {m : Nat} (hm1 : 1 ≤ m) (hm2 : m ≤ 60) : zCT E 5 zm_X7_bitten [.ref (zad E 165), .int (nI m), .int (nI 1)] (Q, Z) (some (.int (n1M (noonsM (zly (Z 169) (Z 171)) n (m - 1)) n).1)) (Q, va_up Z 171 (noonM (noonsM (zly (Z 169) (Z 171)) n (m - 1)) n)) := by
  refine zCT.of (by decide +kernel) (Nat.le_of_ble_eq_true rfl) ?_
  have a2 := zrg hm1 hm2 (by decide)
  have hT := hk.lay (f := Z 171) |>.noons (m - 1)
  have a3 : nI 0 ≤ nI 1 ∧ nI 1 ≤ nI 1 := by decide
  refine zi_aload0 (n := 1) dX7_bitten_0 rfl ?_
  refine zi_iconst (n := 2) (nI 0) dX7_bitten_1 rfl (by decide) ?_
  refine zp_X7_0 (n := 5) dX7_bitten_2 rfl zl_X7_44 (zt0 h0) ?_
  refine zi_aload0 (n := 6) dX7_bitten_5 rfl ?_
  refine zi_V0s (mj := zm_X7_isThere) (n := 9) dX7_bitten_6 rfl zl_X7_171 zy_X7_isThere (zrc_X7 _ _) (by decide) (Nat.le_of_ble_eq_true rfl) (c_X7_isThere) ?_
  refine zi_ifne_b (n := 12) (tgt := 15) dX7_bitten_9 rfl (by decide) (fun h9 => ?_) (fun h9 => ?_)
  · refine zi_iload1 (n := 16) dX7_bitten_15 rfl ?_
    refine zi_i2l (n := 17) dX7_bitten_16 rfl ?_
    refine zi_lconst (n := 18) ((nI 1).toInt64) dX7_bitten_17 rfl (by decide) ?_
    refine zi_ldc2 (n := 21) dX7_bitten_18 rfl zl_X7_191 ?_
    rw [show (60 : Int64) = (nI 60).toInt64 by decide]
    refine zi_S3s (mj := zm_X7_in) (n := 24) dX7_bitten_21 rfl zl_X7_54 zy_X7_in (by decide) (Nat.le_of_ble_eq_true rfl) (c_X7_in) ?_
    refine zi_ifeq_b (n := 27) (tgt := 37) dX7_bitten_24 rfl (by decide) (fun h24 => ?_) (fun h24 => ?_)
    · first | exact absurd a2 h24 | exact absurd h24 a2
    · refine zi_iload2 (n := 28) dX7_bitten_27 rfl ?_
      refine zi_i2l (n := 29) dX7_bitten_28 rfl ?_
      refine zi_lconst (n := 30) ((nI 0).toInt64) dX7_bitten_29 rfl (by decide) ?_
      refine zi_lconst (n := 31) ((nI 1).toInt64) dX7_bitten_30 rfl (by decide) ?_
      refine zi_S3s (mj := zm_X7_in) (n := 34) dX7_bitten_31 rfl zl_X7_54 zy_X7_in (by decide) (Nat.le_of_ble_eq_true rfl) (c_X7_in) ?_
      refine zi_ifne_b (n := 37) (tgt := 40) dX7_bitten_34 rfl (by decide) (fun h34 => ?_) (fun h34 => ?_)
      · refine zi_aload0 (n := 41) dX7_bitten_40 rfl ?_
        refine zi_V0v (mj := zm_X7_layThen) (n := 44) dX7_bitten_41 rfl zl_X7_193 zy_X7_layThen (zrc_X7 _ _) (by decide) (Nat.le_of_ble_eq_true rfl) (c_X7_layThen) ?_
        refine zi_aload0 (n := 45) dX7_bitten_44 rfl ?_
        refine zg_X7_7 (n := 48) dX7_bitten_45 rfl zl_X7_25 ?_
        refine zi_iload1 (n := 49) dX7_bitten_48 rfl ?_
        refine zi_iconst (n := 50) (nI 1) dX7_bitten_49 rfl (by decide) ?_
        refine zi_isub (n := 51) dX7_bitten_50 rfl ?_
        rw [pk_sub (by omega)]
        refine zi_S2v (mj := zm_X7_noonsOf) (n := 54) dX7_bitten_51 rfl zl_X7_196 zy_X7_noonsOf (by decide) (Nat.le_of_ble_eq_true rfl) (c_X7_noonsOf (Or.inr rfl) hk.lay (by omega)) ?_
        refine zi_iload2 (n := 55) dX7_bitten_54 rfl ?_
        refine zi_ifne (n := 58) (tgt := 68) dX7_bitten_55 rfl (by decide) (fun h55 => ?_) (fun h55 => ?_)
        · refine zi_aload0 (n := 69) dX7_bitten_68 rfl ?_
          refine zg_X7_7 (n := 72) dX7_bitten_69 rfl zl_X7_25 ?_
          refine zi_S1s (mj := zm_X7_noonOf) (n := 75) dX7_bitten_72 rfl zl_X7_168 zy_X7_noonOf (by decide) (Nat.le_of_ble_eq_true rfl) (c_X7_noonOf (Or.inr rfl) hT) ?_
          exact zi_iret dX7_bitten_75 rfl (by rfl) (by rfl)
        · first | exact absurd h55 (by decide) | exact absurd rfl h55
      · first | exact absurd a3 h34 | exact absurd h34 a3
  · first | exact absurd hz h9 | exact absurd h9 hz
set_option maxHeartbeats 4000000 in
set_option maxRecDepth 100000 in
theorem m_left_state (h0 : Z 165 0 = nI 0) {x y : Int32} (hz : Z 169 0 ≤ 0) : zCT E 5 zm_X7_left [.ref (zad E 165), .int x, .int y] (Q, Z) (some (.int zSTATE)) (Q, Z) := by
  refine zCT.of (by decide +kernel) (Nat.le_of_ble_eq_true rfl) ?_
  refine zi_aload0 (n := 1) dX7_left_0 rfl ?_
  refine zi_iconst (n := 2) (nI 0) dX7_left_1 rfl (by decide) ?_
  refine zp_X7_0 (n := 5) dX7_left_2 rfl zl_X7_44 (zt0 h0) ?_
  refine zi_aload0 (n := 6) dX7_left_5 rfl ?_
  refine zi_V0s (mj := zm_X7_isThere) (n := 9) dX7_left_6 rfl zl_X7_171 zy_X7_isThere (zrc_X7 _ _) (by decide) (Nat.le_of_ble_eq_true rfl) (c_X7_isThere) ?_
  refine zi_ifne_b (n := 12) (tgt := 15) dX7_left_9 rfl (by decide) (fun h9 => ?_) (fun h9 => ?_)
  · first | exact absurd (fun q => q hz : ¬ ¬ Z 169 0 ≤ 0) h9 | exact absurd h9 (fun q => q hz : ¬ ¬ Z 169 0 ≤ 0)
  · refine zi_ldc (n := 14) dX7_left_12 rfl zl_X7_174 ?_
    exact zi_iret dX7_left_14 rfl (by rfl) (by rfl)
set_option maxHeartbeats 4000000 in
set_option maxRecDepth 100000 in
theorem m_left_bad (h0 : Z 165 0 = nI 0) {x y : Int32} (hz : ¬ Z 169 0 ≤ 0) (hb : ¬ ((nI 0 ≤ x ∧ x ≤ nI 60) ∧ (nI 0 ≤ y ∧ y ≤ nI 2))) : zCT E 5 zm_X7_left [.ref (zad E 165), .int x, .int y] (Q, Z) (some (.int zBAD)) (Q, Z) := by
  refine zCT.of (by decide +kernel) (Nat.le_of_ble_eq_true rfl) ?_
  refine zi_aload0 (n := 1) dX7_left_0 rfl ?_
  refine zi_iconst (n := 2) (nI 0) dX7_left_1 rfl (by decide) ?_
  refine zp_X7_0 (n := 5) dX7_left_2 rfl zl_X7_44 (zt0 h0) ?_
  refine zi_aload0 (n := 6) dX7_left_5 rfl ?_
  refine zi_V0s (mj := zm_X7_isThere) (n := 9) dX7_left_6 rfl zl_X7_171 zy_X7_isThere (zrc_X7 _ _) (by decide) (Nat.le_of_ble_eq_true rfl) (c_X7_isThere) ?_
  refine zi_ifne_b (n := 12) (tgt := 15) dX7_left_9 rfl (by decide) (fun h9 => ?_) (fun h9 => ?_)
  · refine zi_iload1 (n := 16) dX7_left_15 rfl ?_
    refine zi_i2l (n := 17) dX7_left_16 rfl ?_
    refine zi_lconst (n := 18) ((nI 0).toInt64) dX7_left_17 rfl (by decide) ?_
    refine zi_ldc2 (n := 21) dX7_left_18 rfl zl_X7_191 ?_
    rw [show (60 : Int64) = (nI 60).toInt64 by decide]
    refine zi_S3s (mj := zm_X7_in) (n := 24) dX7_left_21 rfl zl_X7_54 zy_X7_in (by decide) (Nat.le_of_ble_eq_true rfl) (c_X7_in) ?_
    refine zi_ifeq_b (n := 27) (tgt := 39) dX7_left_24 rfl (by decide) (fun h24 => ?_) (fun h24 => ?_)
    · refine zi_ldc (n := 41) dX7_left_39 rfl zl_X7_64 ?_
      exact zi_iret dX7_left_41 rfl (by rfl) (by rfl)
    · refine zi_iload2 (n := 28) dX7_left_27 rfl ?_
      refine zi_i2l (n := 29) dX7_left_28 rfl ?_
      refine zi_lconst (n := 30) ((nI 0).toInt64) dX7_left_29 rfl (by decide) ?_
      refine zi_ldc2 (n := 33) dX7_left_30 rfl zl_X7_62 ?_
      rw [show (2 : Int64) = (nI 2).toInt64 by decide]
      refine zi_S3s (mj := zm_X7_in) (n := 36) dX7_left_33 rfl zl_X7_54 zy_X7_in (by decide) (Nat.le_of_ble_eq_true rfl) (c_X7_in) ?_
      refine zi_ifne_b (n := 39) (tgt := 42) dX7_left_36 rfl (by decide) (fun h36 => ?_) (fun h36 => ?_)
      · exact absurd ⟨h24, h36⟩ hb
      · refine zi_ldc (n := 41) dX7_left_39 rfl zl_X7_64 ?_
        exact zi_iret dX7_left_41 rfl (by rfl) (by rfl)
  · first | exact absurd hz h9 | exact absurd h9 hz
set_option maxHeartbeats 4000000 in
set_option maxRecDepth 100000 in
theorem m_left_0 (h0 : Z 165 0 = nI 0) (hk : zKd (Z 169) n) (hz : ¬ Z 169 0 ≤ 0) {m : Nat} (hm1 : 0 ≤ m) (hm2 : m ≤ 60) : zCT E 5 zm_X7_left [.ref (zad E 165), .int (nI m), .int (nI 0)] (Q, Z) (some (.int (zsum (lgM (noonsM (zly (Z 169) (Z 171)) n m)) n))) (Q, va_up Z 171 (noonsM (zly (Z 169) (Z 171)) n m)) := by
  refine zCT.of (by decide +kernel) (Nat.le_of_ble_eq_true rfl) ?_
  have a2 := zrg hm1 hm2 (by decide)
  have hT := hk.lay (f := Z 171) |>.noons m
  have a3 : nI 0 ≤ nI 0 ∧ nI 0 ≤ nI 2 := by decide
  refine zi_aload0 (n := 1) dX7_left_0 rfl ?_
  refine zi_iconst (n := 2) (nI 0) dX7_left_1 rfl (by decide) ?_
  refine zp_X7_0 (n := 5) dX7_left_2 rfl zl_X7_44 (zt0 h0) ?_
  refine zi_aload0 (n := 6) dX7_left_5 rfl ?_
  refine zi_V0s (mj := zm_X7_isThere) (n := 9) dX7_left_6 rfl zl_X7_171 zy_X7_isThere (zrc_X7 _ _) (by decide) (Nat.le_of_ble_eq_true rfl) (c_X7_isThere) ?_
  refine zi_ifne_b (n := 12) (tgt := 15) dX7_left_9 rfl (by decide) (fun h9 => ?_) (fun h9 => ?_)
  · refine zi_iload1 (n := 16) dX7_left_15 rfl ?_
    refine zi_i2l (n := 17) dX7_left_16 rfl ?_
    refine zi_lconst (n := 18) ((nI 0).toInt64) dX7_left_17 rfl (by decide) ?_
    refine zi_ldc2 (n := 21) dX7_left_18 rfl zl_X7_191 ?_
    rw [show (60 : Int64) = (nI 60).toInt64 by decide]
    refine zi_S3s (mj := zm_X7_in) (n := 24) dX7_left_21 rfl zl_X7_54 zy_X7_in (by decide) (Nat.le_of_ble_eq_true rfl) (c_X7_in) ?_
    refine zi_ifeq_b (n := 27) (tgt := 39) dX7_left_24 rfl (by decide) (fun h24 => ?_) (fun h24 => ?_)
    · first | exact absurd a2 h24 | exact absurd h24 a2
    · refine zi_iload2 (n := 28) dX7_left_27 rfl ?_
      refine zi_i2l (n := 29) dX7_left_28 rfl ?_
      refine zi_lconst (n := 30) ((nI 0).toInt64) dX7_left_29 rfl (by decide) ?_
      refine zi_ldc2 (n := 33) dX7_left_30 rfl zl_X7_62 ?_
      rw [show (2 : Int64) = (nI 2).toInt64 by decide]
      refine zi_S3s (mj := zm_X7_in) (n := 36) dX7_left_33 rfl zl_X7_54 zy_X7_in (by decide) (Nat.le_of_ble_eq_true rfl) (c_X7_in) ?_
      refine zi_ifne_b (n := 39) (tgt := 42) dX7_left_36 rfl (by decide) (fun h36 => ?_) (fun h36 => ?_)
      · refine zi_aload0 (n := 43) dX7_left_42 rfl ?_
        refine zi_V0v (mj := zm_X7_layThen) (n := 46) dX7_left_43 rfl zl_X7_193 zy_X7_layThen (zrc_X7 _ _) (by decide) (Nat.le_of_ble_eq_true rfl) (c_X7_layThen) ?_
        refine zi_aload0 (n := 47) dX7_left_46 rfl ?_
        refine zg_X7_7 (n := 50) dX7_left_47 rfl zl_X7_25 ?_
        refine zi_iload1 (n := 51) dX7_left_50 rfl ?_
        refine zi_S2v (mj := zm_X7_noonsOf) (n := 54) dX7_left_51 rfl zl_X7_196 zy_X7_noonsOf (by decide) (Nat.le_of_ble_eq_true rfl) (c_X7_noonsOf (Or.inr rfl) hk.lay (by omega)) ?_
        refine zi_iload2 (n := 55) dX7_left_54 rfl ?_
        refine zi_ifne (n := 58) (tgt := 68) dX7_left_55 rfl (by decide) (fun h55 => ?_) (fun h55 => ?_)
        · first | exact absurd h55 (by decide) | exact absurd rfl h55
        · refine zi_aload0 (n := 59) dX7_left_58 rfl ?_
          refine zg_X7_7 (n := 62) dX7_left_59 rfl zl_X7_25 ?_
          refine zi_S1s (mj := zm_X7_lettersOf) (n := 65) dX7_left_62 rfl zl_X7_200 zy_X7_lettersOf (by decide) (Nat.le_of_ble_eq_true rfl) (c_X7_lettersOf (Or.inr rfl) hT.1 hT.2.1) ?_
          refine zi_goto (tgt := 89) dX7_left_65 (by decide) ?_
          exact zi_iret dX7_left_89 rfl (by rfl) (by rfl)
      · first | exact absurd a3 h36 | exact absurd h36 a3
  · first | exact absurd hz h9 | exact absurd h9 hz
set_option maxHeartbeats 4000000 in
set_option maxRecDepth 100000 in
theorem m_left_1 (h0 : Z 165 0 = nI 0) (hk : zKd (Z 169) n) (hz : ¬ Z 169 0 ≤ 0) {m : Nat} (hm1 : 0 ≤ m) (hm2 : m ≤ 60) : zCT E 5 zm_X7_left [.ref (zad E 165), .int (nI m), .int (nI 1)] (Q, Z) (some (.int (zbM (fun p => decide ((noonsM (zly (Z 169) (Z 171)) n m) (6 + 5 * p + 3) = 0)) n))) (Q, va_up Z 171 (noonsM (zly (Z 169) (Z 171)) n m)) := by
  refine zCT.of (by decide +kernel) (Nat.le_of_ble_eq_true rfl) ?_
  have a2 := zrg hm1 hm2 (by decide)
  have hT := hk.lay (f := Z 171) |>.noons m
  have a3 : nI 0 ≤ nI 1 ∧ nI 1 ≤ nI 2 := by decide
  refine zi_aload0 (n := 1) dX7_left_0 rfl ?_
  refine zi_iconst (n := 2) (nI 0) dX7_left_1 rfl (by decide) ?_
  refine zp_X7_0 (n := 5) dX7_left_2 rfl zl_X7_44 (zt0 h0) ?_
  refine zi_aload0 (n := 6) dX7_left_5 rfl ?_
  refine zi_V0s (mj := zm_X7_isThere) (n := 9) dX7_left_6 rfl zl_X7_171 zy_X7_isThere (zrc_X7 _ _) (by decide) (Nat.le_of_ble_eq_true rfl) (c_X7_isThere) ?_
  refine zi_ifne_b (n := 12) (tgt := 15) dX7_left_9 rfl (by decide) (fun h9 => ?_) (fun h9 => ?_)
  · refine zi_iload1 (n := 16) dX7_left_15 rfl ?_
    refine zi_i2l (n := 17) dX7_left_16 rfl ?_
    refine zi_lconst (n := 18) ((nI 0).toInt64) dX7_left_17 rfl (by decide) ?_
    refine zi_ldc2 (n := 21) dX7_left_18 rfl zl_X7_191 ?_
    rw [show (60 : Int64) = (nI 60).toInt64 by decide]
    refine zi_S3s (mj := zm_X7_in) (n := 24) dX7_left_21 rfl zl_X7_54 zy_X7_in (by decide) (Nat.le_of_ble_eq_true rfl) (c_X7_in) ?_
    refine zi_ifeq_b (n := 27) (tgt := 39) dX7_left_24 rfl (by decide) (fun h24 => ?_) (fun h24 => ?_)
    · first | exact absurd a2 h24 | exact absurd h24 a2
    · refine zi_iload2 (n := 28) dX7_left_27 rfl ?_
      refine zi_i2l (n := 29) dX7_left_28 rfl ?_
      refine zi_lconst (n := 30) ((nI 0).toInt64) dX7_left_29 rfl (by decide) ?_
      refine zi_ldc2 (n := 33) dX7_left_30 rfl zl_X7_62 ?_
      rw [show (2 : Int64) = (nI 2).toInt64 by decide]
      refine zi_S3s (mj := zm_X7_in) (n := 36) dX7_left_33 rfl zl_X7_54 zy_X7_in (by decide) (Nat.le_of_ble_eq_true rfl) (c_X7_in) ?_
      refine zi_ifne_b (n := 39) (tgt := 42) dX7_left_36 rfl (by decide) (fun h36 => ?_) (fun h36 => ?_)
      · refine zi_aload0 (n := 43) dX7_left_42 rfl ?_
        refine zi_V0v (mj := zm_X7_layThen) (n := 46) dX7_left_43 rfl zl_X7_193 zy_X7_layThen (zrc_X7 _ _) (by decide) (Nat.le_of_ble_eq_true rfl) (c_X7_layThen) ?_
        refine zi_aload0 (n := 47) dX7_left_46 rfl ?_
        refine zg_X7_7 (n := 50) dX7_left_47 rfl zl_X7_25 ?_
        refine zi_iload1 (n := 51) dX7_left_50 rfl ?_
        refine zi_S2v (mj := zm_X7_noonsOf) (n := 54) dX7_left_51 rfl zl_X7_196 zy_X7_noonsOf (by decide) (Nat.le_of_ble_eq_true rfl) (c_X7_noonsOf (Or.inr rfl) hk.lay (by omega)) ?_
        refine zi_iload2 (n := 55) dX7_left_54 rfl ?_
        refine zi_ifne (n := 58) (tgt := 68) dX7_left_55 rfl (by decide) (fun h55 => ?_) (fun h55 => ?_)
        · refine zi_iload2 (n := 69) dX7_left_68 rfl ?_
          refine zi_iconst (n := 70) (nI 1) dX7_left_69 rfl (by decide) ?_
          refine zi_icne (n := 73) (tgt := 83) dX7_left_70 rfl (by decide) (fun h70 => ?_) (fun h70 => ?_)
          · first | exact absurd h70 (by decide) | exact absurd rfl h70
          · refine zi_aload0 (n := 74) dX7_left_73 rfl ?_
            refine zg_X7_7 (n := 77) dX7_left_74 rfl zl_X7_25 ?_
            refine zi_S1s (mj := zm_X7_nameless) (n := 80) dX7_left_77 rfl zl_X7_185 zy_X7_nameless (by decide) (Nat.le_of_ble_eq_true rfl) (c_X7_nameless (Or.inr rfl) hT.1 hT.2.1) ?_
            refine zi_goto (tgt := 89) dX7_left_80 (by decide) ?_
            exact zi_iret dX7_left_89 rfl (by rfl) (by rfl)
        · first | exact absurd h55 (by decide) | exact absurd rfl h55
      · first | exact absurd a3 h36 | exact absurd h36 a3
  · first | exact absurd hz h9 | exact absurd h9 hz
set_option maxHeartbeats 4000000 in
set_option maxRecDepth 100000 in
theorem m_left_2 (h0 : Z 165 0 = nI 0) (hk : zKd (Z 169) n) (hz : ¬ Z 169 0 ≤ 0) {m : Nat} (hm1 : 0 ≤ m) (hm2 : m ≤ 60) : zCT E 5 zm_X7_left [.ref (zad E 165), .int (nI m), .int (nI 2)] (Q, Z) (some (.int ((noonsM (zly (Z 169) (Z 171)) n m) 1))) (Q, va_up Z 171 (noonsM (zly (Z 169) (Z 171)) n m)) := by
  refine zCT.of (by decide +kernel) (Nat.le_of_ble_eq_true rfl) ?_
  have a2 := zrg hm1 hm2 (by decide)
  have hT := hk.lay (f := Z 171) |>.noons m
  have a3 : nI 0 ≤ nI 2 ∧ nI 2 ≤ nI 2 := by decide
  refine zi_aload0 (n := 1) dX7_left_0 rfl ?_
  refine zi_iconst (n := 2) (nI 0) dX7_left_1 rfl (by decide) ?_
  refine zp_X7_0 (n := 5) dX7_left_2 rfl zl_X7_44 (zt0 h0) ?_
  refine zi_aload0 (n := 6) dX7_left_5 rfl ?_
  refine zi_V0s (mj := zm_X7_isThere) (n := 9) dX7_left_6 rfl zl_X7_171 zy_X7_isThere (zrc_X7 _ _) (by decide) (Nat.le_of_ble_eq_true rfl) (c_X7_isThere) ?_
  refine zi_ifne_b (n := 12) (tgt := 15) dX7_left_9 rfl (by decide) (fun h9 => ?_) (fun h9 => ?_)
  · refine zi_iload1 (n := 16) dX7_left_15 rfl ?_
    refine zi_i2l (n := 17) dX7_left_16 rfl ?_
    refine zi_lconst (n := 18) ((nI 0).toInt64) dX7_left_17 rfl (by decide) ?_
    refine zi_ldc2 (n := 21) dX7_left_18 rfl zl_X7_191 ?_
    rw [show (60 : Int64) = (nI 60).toInt64 by decide]
    refine zi_S3s (mj := zm_X7_in) (n := 24) dX7_left_21 rfl zl_X7_54 zy_X7_in (by decide) (Nat.le_of_ble_eq_true rfl) (c_X7_in) ?_
    refine zi_ifeq_b (n := 27) (tgt := 39) dX7_left_24 rfl (by decide) (fun h24 => ?_) (fun h24 => ?_)
    · first | exact absurd a2 h24 | exact absurd h24 a2
    · refine zi_iload2 (n := 28) dX7_left_27 rfl ?_
      refine zi_i2l (n := 29) dX7_left_28 rfl ?_
      refine zi_lconst (n := 30) ((nI 0).toInt64) dX7_left_29 rfl (by decide) ?_
      refine zi_ldc2 (n := 33) dX7_left_30 rfl zl_X7_62 ?_
      rw [show (2 : Int64) = (nI 2).toInt64 by decide]
      refine zi_S3s (mj := zm_X7_in) (n := 36) dX7_left_33 rfl zl_X7_54 zy_X7_in (by decide) (Nat.le_of_ble_eq_true rfl) (c_X7_in) ?_
      refine zi_ifne_b (n := 39) (tgt := 42) dX7_left_36 rfl (by decide) (fun h36 => ?_) (fun h36 => ?_)
      · refine zi_aload0 (n := 43) dX7_left_42 rfl ?_
        refine zi_V0v (mj := zm_X7_layThen) (n := 46) dX7_left_43 rfl zl_X7_193 zy_X7_layThen (zrc_X7 _ _) (by decide) (Nat.le_of_ble_eq_true rfl) (c_X7_layThen) ?_
        refine zi_aload0 (n := 47) dX7_left_46 rfl ?_
        refine zg_X7_7 (n := 50) dX7_left_47 rfl zl_X7_25 ?_
        refine zi_iload1 (n := 51) dX7_left_50 rfl ?_
        refine zi_S2v (mj := zm_X7_noonsOf) (n := 54) dX7_left_51 rfl zl_X7_196 zy_X7_noonsOf (by decide) (Nat.le_of_ble_eq_true rfl) (c_X7_noonsOf (Or.inr rfl) hk.lay (by omega)) ?_
        refine zi_iload2 (n := 55) dX7_left_54 rfl ?_
        refine zi_ifne (n := 58) (tgt := 68) dX7_left_55 rfl (by decide) (fun h55 => ?_) (fun h55 => ?_)
        · refine zi_iload2 (n := 69) dX7_left_68 rfl ?_
          refine zi_iconst (n := 70) (nI 1) dX7_left_69 rfl (by decide) ?_
          refine zi_icne (n := 73) (tgt := 83) dX7_left_70 rfl (by decide) (fun h70 => ?_) (fun h70 => ?_)
          · refine zi_aload0 (n := 84) dX7_left_83 rfl ?_
            refine zg_X7_7 (n := 87) dX7_left_84 rfl zl_X7_25 ?_
            refine zi_iconst (n := 88) (nI 1) dX7_left_87 rfl (by decide) ?_
            refine zi_oald (N := 36) (n := 89) dX7_left_88 rfl (by decide) (fun _ => rfl) (by decide) rfl (by decide) (zfz _ _ _ _ _) ?_
            exact zi_iret dX7_left_89 rfl (by rfl) (by rfl)
          · first | exact absurd h70 (by decide) | exact absurd rfl h70
        · first | exact absurd h55 (by decide) | exact absurd rfl h55
      · first | exact absurd a3 h36 | exact absurd h36 a3
  · first | exact absurd hz h9 | exact absurd h9 hz
set_option maxHeartbeats 4000000 in
set_option maxRecDepth 100000 in
theorem m_when_bad (h0 : Z 165 0 = nI 0) {x y : Int32} (hb : ¬ ((nI 0 ≤ x ∧ x ≤ Z 169 0 - nI 1) ∧ (nI 0 ≤ y ∧ y ≤ nI 1))) : zCT E 4 zm_X7_when [.ref (zad E 165), .int x, .int y] (Q, Z) (some (.int zBAD)) (Q, Z) := by
  refine zCT.of (by decide +kernel) (Nat.le_of_ble_eq_true rfl) ?_
  refine zi_aload0 (n := 1) dX7_when_0 rfl ?_
  refine zi_iconst (n := 2) (nI 0) dX7_when_1 rfl (by decide) ?_
  refine zp_X7_0 (n := 5) dX7_when_2 rfl zl_X7_44 (zt0 h0) ?_
  refine zi_aload0 (n := 6) dX7_when_5 rfl ?_
  refine zi_iload1 (n := 7) dX7_when_6 rfl ?_
  refine zi_V1s (mj := zm_X7_isPaper) (n := 10) dX7_when_7 rfl zl_X7_180 zy_X7_isPaper (zrc_X7 _ _) (by decide) (Nat.le_of_ble_eq_true rfl) (c_X7_isPaper) ?_
  refine zi_ifeq_b (n := 13) (tgt := 23) dX7_when_10 rfl (by decide) (fun h10 => ?_) (fun h10 => ?_)
  · refine zi_ldc (n := 25) dX7_when_23 rfl zl_X7_64 ?_
    exact zi_iret dX7_when_25 rfl (by rfl) (by rfl)
  · refine zi_iload2 (n := 14) dX7_when_13 rfl ?_
    refine zi_i2l (n := 15) dX7_when_14 rfl ?_
    refine zi_lconst (n := 16) ((nI 0).toInt64) dX7_when_15 rfl (by decide) ?_
    refine zi_lconst (n := 17) ((nI 1).toInt64) dX7_when_16 rfl (by decide) ?_
    refine zi_S3s (mj := zm_X7_in) (n := 20) dX7_when_17 rfl zl_X7_54 zy_X7_in (by decide) (Nat.le_of_ble_eq_true rfl) (c_X7_in) ?_
    refine zi_ifne_b (n := 23) (tgt := 26) dX7_when_20 rfl (by decide) (fun h20 => ?_) (fun h20 => ?_)
    · exact absurd ⟨h10, h20⟩ hb
    · refine zi_ldc (n := 25) dX7_when_23 rfl zl_X7_64 ?_
      exact zi_iret dX7_when_25 rfl (by rfl) (by rfl)
def zwhM (n p : Nat) : Nat → Nat → zF → Int32 × zF
  | 0, _, f => (-1000000, noonM f n)
  | k + 1, i, f => if encO (nextM f n) = nI p then (nI (i + 1), f) else zwhM n p k (i + 1) (noonM f n)
def zwnM (n p : Nat) : Nat → Nat → zF → Int32 × zF
  | 0, _, f => (-1000000, f)
  | k + 1, i, f => if f (6 + 5 * p + 3) = 0 then (nI i, f) else zwnM n p k (i + 1) (noonM f n)
def zovM (n : Nat) : Nat → Nat → zF → Int32 × zF
  | 0, _, f => (-1000000, f)
  | k + 1, i, f => if zsum (lgM f) n = 0 then (nI i, f) else zovM n k (i + 1) (noonM f n)
set_option maxHeartbeats 4000000 in
set_option maxRecDepth 100000 in
theorem l0_X7_when (hp : p < n) {r : Int32 × zF} : ∀ k i (f : zF) (x4 x5 : Option Value), i + k = 60 → zKd f n → zwhM n p k i f = r → zG E zm_X7_when 4 (some (.int r.1)) (Q, va_up Z 171 r.2) 32 [some (.ref (zad E 165)), some (.int (nI p)), some (.int (nI 0)), some (.int (nI i)), x4, x5] [] (Q, va_up Z 171 f) := by
  intro k
  induction k with
  | zero =>
    intro i f x4 x5 hi hf hr
    obtain rfl : i = 60 := by omega
    refine zi_iload3 (n := 33) dX7_when_32 rfl ?_
    refine zi_bipush (n := 35) (nI 60) dX7_when_33 rfl (by decide) ?_
    refine zi_icgt (n := 38) (tgt := 109) dX7_when_35 rfl (by decide) (fun h35 => ?_) (fun h35 => ?_)
    · exact absurd h35 (by decide)
    · refine zi_iload2 (n := 39) dX7_when_38 rfl ?_
      refine zi_iconst (n := 40) (nI 1) dX7_when_39 rfl (by decide) ?_
      refine zi_icne (n := 43) (tgt := 57) dX7_when_40 rfl (by decide) (fun h40 => ?_) (fun h40 => ?_)
      · refine zi_iload2 (n := 58) dX7_when_57 rfl ?_
        refine zi_ifne (n := 61) (tgt := 82) dX7_when_58 rfl (by decide) (fun h58 => ?_) (fun h58 => ?_)
        · first | exact absurd h58 (by decide) | exact absurd rfl h58
        · refine zi_iload3 (n := 62) dX7_when_61 rfl ?_
          refine zi_bipush (n := 64) (nI 60) dX7_when_62 rfl (by decide) ?_
          refine zi_icge (n := 67) (tgt := 82) dX7_when_64 rfl (by decide) (fun h64 => ?_) (fun h64 => ?_)
          · refine zi_iconst (n := 83) (nI 0) dX7_when_82 rfl (by decide) ?_
            refine zi_istore4 (n := 85) dX7_when_83 rfl (by decide) rfl ?_
            refine zi_iload4 (n := 87) dX7_when_85 rfl ?_
            refine zi_ifeq (n := 90) (tgt := 94) dX7_when_87 rfl (by decide) (fun h87 => ?_) (fun h87 => ?_)
            · refine zi_aload0 (n := 95) dX7_when_94 rfl ?_
              refine zg_X7_7 (n := 98) dX7_when_95 rfl zl_X7_25 ?_
              refine zi_S1s (mj := zm_X7_noonOf) (n := 101) dX7_when_98 rfl zl_X7_168 zy_X7_noonOf (by decide) (Nat.le_of_ble_eq_true rfl) (c_X7_noonOf (Or.inr rfl) hf) ?_
              refine zi_istore5 (n := 103) dX7_when_101 rfl (by decide) rfl ?_
              refine zi_iinc3 (n := 106) (nI (60 + 1)) dX7_when_103 rfl (by decide) rfl (zi1 _) ?_
              refine zi_goto (tgt := 32) dX7_when_106 (by decide) ?_
              show zG _ _ _ _ _ 32 (_ :: _ :: _ :: some (.int (nI (60 + 1))) :: _) _ _
              refine zi_iload3 (n := 33) dX7_when_32 rfl ?_
              refine zi_bipush (n := 35) (nI 60) dX7_when_33 rfl (by decide) ?_
              refine zi_icgt (n := 38) (tgt := 109) dX7_when_35 rfl (by decide) (fun h35 => ?_) (fun h35 => ?_)
              · refine zi_ldc (n := 111) dX7_when_109 rfl zl_X7_87 ?_
                exact zi_iret dX7_when_111 rfl (by rw [← hr]; rfl) (by rw [← hr]; rfl)
              · exact absurd (by decide) h35
            · first | exact absurd h87 (by decide) | exact absurd rfl h87
          · exact absurd (by decide) h64
      · first | exact absurd h40 (by decide) | exact absurd rfl h40
  | succ k ih =>
    intro i f x4 x5 hi hf hr
    have h6 := hf.2.1
    refine zi_iload3 (n := 33) dX7_when_32 rfl ?_
    refine zi_bipush (n := 35) (nI 60) dX7_when_33 rfl (by decide) ?_
    refine zi_icgt (n := 38) (tgt := 109) dX7_when_35 rfl (by decide) (fun h35 => ?_) (fun h35 => ?_)
    · exact absurd h35 (Int32.not_lt.mpr (nI_le (by omega) (by omega)))
    · refine zi_iload2 (n := 39) dX7_when_38 rfl ?_
      refine zi_iconst (n := 40) (nI 1) dX7_when_39 rfl (by decide) ?_
      refine zi_icne (n := 43) (tgt := 57) dX7_when_40 rfl (by decide) (fun h40 => ?_) (fun h40 => ?_)
      · refine zi_iload2 (n := 58) dX7_when_57 rfl ?_
        refine zi_ifne (n := 61) (tgt := 82) dX7_when_58 rfl (by decide) (fun h58 => ?_) (fun h58 => ?_)
        · first | exact absurd h58 (by decide) | exact absurd rfl h58
        · refine zi_iload3 (n := 62) dX7_when_61 rfl ?_
          refine zi_bipush (n := 64) (nI 60) dX7_when_62 rfl (by decide) ?_
          refine zi_icge (n := 67) (tgt := 82) dX7_when_64 rfl (by decide) (fun h64 => ?_) (fun h64 => ?_)
          · exact absurd h64 (Int32.not_le.mpr (nI_lt (by omega) (by omega)))
          · refine zi_aload0 (n := 68) dX7_when_67 rfl ?_
            refine zg_X7_7 (n := 71) dX7_when_68 rfl zl_X7_25 ?_
            refine zi_S1s (mj := zm_X7_nextOf) (n := 74) dX7_when_71 rfl zl_X7_161 zy_X7_nextOf (by decide) (Nat.le_of_ble_eq_true rfl) (c_X7_nextOf (Or.inr rfl) hf.1 hf.2.1) ?_
            refine zi_iload1 (n := 75) dX7_when_74 rfl ?_
            refine zi_icne (n := 78) (tgt := 82) dX7_when_75 rfl (by decide) (fun h75 => ?_) (fun h75 => ?_)
            · rw [zwhM, if_neg h75] at hr
              refine zi_iconst (n := 83) (nI 0) dX7_when_82 rfl (by decide) ?_
              refine zi_istore4 (n := 85) dX7_when_83 rfl (by decide) rfl ?_
              refine zi_iload4 (n := 87) dX7_when_85 rfl ?_
              refine zi_ifeq (n := 90) (tgt := 94) dX7_when_87 rfl (by decide) (fun h87 => ?_) (fun h87 => ?_)
              · refine zi_aload0 (n := 95) dX7_when_94 rfl ?_
                refine zg_X7_7 (n := 98) dX7_when_95 rfl zl_X7_25 ?_
                refine zi_S1s (mj := zm_X7_noonOf) (n := 101) dX7_when_98 rfl zl_X7_168 zy_X7_noonOf (by decide) (Nat.le_of_ble_eq_true rfl) (c_X7_noonOf (Or.inr rfl) hf) ?_
                refine zi_istore5 (n := 103) dX7_when_101 rfl (by decide) rfl ?_
                refine zi_iinc3 (n := 106) (nI (i + 1)) dX7_when_103 rfl (by decide) rfl (zi1 _) ?_
                refine zi_goto (tgt := 32) dX7_when_106 (by decide) ?_
                exact ih (i + 1) _ _ _ (by omega) hf.noon hr
              · first | exact absurd h87 (by decide) | exact absurd rfl h87
            · rw [zwhM, if_pos h75] at hr
              refine zi_iconst (n := 79) (nI 1) dX7_when_78 rfl (by decide) ?_
              refine zi_goto (tgt := 83) dX7_when_79 (by decide) ?_
              refine zi_istore4 (n := 85) dX7_when_83 rfl (by decide) rfl ?_
              refine zi_iload4 (n := 87) dX7_when_85 rfl ?_
              refine zi_ifeq (n := 90) (tgt := 94) dX7_when_87 rfl (by decide) (fun h87 => ?_) (fun h87 => ?_)
              · first | exact absurd h87 (by decide) | exact absurd rfl h87
              · refine zi_iload3 (n := 91) dX7_when_90 rfl ?_
                refine zi_iconst (n := 92) (nI 1) dX7_when_91 rfl (by decide) ?_
                refine zi_iadd (n := 93) dX7_when_92 rfl ?_
                rw [nI_add]
                exact zi_iret dX7_when_93 rfl (by rw [← hr]) (by rw [← hr])
      · first | exact absurd h40 (by decide) | exact absurd rfl h40
set_option maxHeartbeats 4000000 in
set_option maxRecDepth 100000 in
theorem l1_X7_when (hp : p < n) {r : Int32 × zF} : ∀ k i (f : zF) (x4 x5 : Option Value), i + k = 61 → zKd f n → zwnM n p k i f = r → zG E zm_X7_when 4 (some (.int r.1)) (Q, va_up Z 171 r.2) 32 [some (.ref (zad E 165)), some (.int (nI p)), some (.int (nI 1)), some (.int (nI i)), x4, x5] [] (Q, va_up Z 171 f) := by
  intro k
  induction k with
  | zero =>
    intro i f x4 x5 hi hf hr
    obtain rfl : i = 61 := by omega
    refine zi_iload3 (n := 33) dX7_when_32 rfl ?_
    refine zi_bipush (n := 35) (nI 60) dX7_when_33 rfl (by decide) ?_
    refine zi_icgt (n := 38) (tgt := 109) dX7_when_35 rfl (by decide) (fun h35 => ?_) (fun h35 => ?_)
    · refine zi_ldc (n := 111) dX7_when_109 rfl zl_X7_87 ?_
      exact zi_iret dX7_when_111 rfl (by rw [← hr]; rfl) (by rw [← hr]; rfl)
    · exact absurd (by decide) h35
  | succ k ih =>
    intro i f x4 x5 hi hf hr
    have h6 := hf.2.1
    refine zi_iload3 (n := 33) dX7_when_32 rfl ?_
    refine zi_bipush (n := 35) (nI 60) dX7_when_33 rfl (by decide) ?_
    refine zi_icgt (n := 38) (tgt := 109) dX7_when_35 rfl (by decide) (fun h35 => ?_) (fun h35 => ?_)
    · exact absurd h35 (Int32.not_lt.mpr (nI_le (by omega) (by omega)))
    · refine zi_iload2 (n := 39) dX7_when_38 rfl ?_
      refine zi_iconst (n := 40) (nI 1) dX7_when_39 rfl (by decide) ?_
      refine zi_icne (n := 43) (tgt := 57) dX7_when_40 rfl (by decide) (fun h40 => ?_) (fun h40 => ?_)
      · first | exact absurd h40 (by decide) | exact absurd rfl h40
      · refine zi_aload0 (n := 44) dX7_when_43 rfl ?_
        refine zg_X7_7 (n := 47) dX7_when_44 rfl zl_X7_25 ?_
        refine zi_iload1 (n := 48) dX7_when_47 rfl ?_
        refine zi_iconst (n := 49) (nI 3) dX7_when_48 rfl (by decide) ?_
        refine zi_S3s (mj := zm_X7_of) (n := 52) dX7_when_49 rfl zl_X7_146 zy_X7_of (by decide) (Nat.le_of_ble_eq_true rfl) (c_X7_of (Or.inr rfl) (by omega) (by decide)) ?_
        refine zi_ifne (n := 55) (tgt := 57) dX7_when_52 rfl (by decide) (fun h52 => ?_) (fun h52 => ?_)
        · rw [zwnM, if_neg h52] at hr
          refine zi_iload2 (n := 58) dX7_when_57 rfl ?_
          refine zi_ifne (n := 61) (tgt := 82) dX7_when_58 rfl (by decide) (fun h58 => ?_) (fun h58 => ?_)
          · refine zi_iconst (n := 83) (nI 0) dX7_when_82 rfl (by decide) ?_
            refine zi_istore4 (n := 85) dX7_when_83 rfl (by decide) rfl ?_
            refine zi_iload4 (n := 87) dX7_when_85 rfl ?_
            refine zi_ifeq (n := 90) (tgt := 94) dX7_when_87 rfl (by decide) (fun h87 => ?_) (fun h87 => ?_)
            · refine zi_aload0 (n := 95) dX7_when_94 rfl ?_
              refine zg_X7_7 (n := 98) dX7_when_95 rfl zl_X7_25 ?_
              refine zi_S1s (mj := zm_X7_noonOf) (n := 101) dX7_when_98 rfl zl_X7_168 zy_X7_noonOf (by decide) (Nat.le_of_ble_eq_true rfl) (c_X7_noonOf (Or.inr rfl) hf) ?_
              refine zi_istore5 (n := 103) dX7_when_101 rfl (by decide) rfl ?_
              refine zi_iinc3 (n := 106) (nI (i + 1)) dX7_when_103 rfl (by decide) rfl (zi1 _) ?_
              refine zi_goto (tgt := 32) dX7_when_106 (by decide) ?_
              exact ih (i + 1) _ _ _ (by omega) hf.noon hr
            · first | exact absurd h87 (by decide) | exact absurd rfl h87
          · first | exact absurd h58 (by decide) | exact absurd rfl h58
        · rw [zwnM, if_pos h52] at hr
          refine zi_iload3 (n := 56) dX7_when_55 rfl ?_
          exact zi_iret dX7_when_56 rfl (by rw [← hr]) (by rw [← hr])
set_option maxHeartbeats 4000000 in
set_option maxRecDepth 100000 in
theorem m_when_0 (h0 : Z 165 0 = nI 0) (hk : zKd (Z 169) n) {p : Nat} (hp : p < n) : zCT E 4 zm_X7_when [.ref (zad E 165), .int (nI p), .int (nI 0)] (Q, Z) (some (.int (zwhM n p 60 0 (zly (Z 169) (Z 171))).1)) (Q, va_up Z 171 (zwhM n p 60 0 (zly (Z 169) (Z 171))).2) := by
  refine zCT.of (by decide +kernel) (Nat.le_of_ble_eq_true rfl) ?_
  have hn := hk.1
  have h6 := hk.2.1
  have a1 := zisP hn h6 hp
  have a3 : nI 0 ≤ nI 0 ∧ nI 0 ≤ nI 1 := by decide
  refine zi_aload0 (n := 1) dX7_when_0 rfl ?_
  refine zi_iconst (n := 2) (nI 0) dX7_when_1 rfl (by decide) ?_
  refine zp_X7_0 (n := 5) dX7_when_2 rfl zl_X7_44 (zt0 h0) ?_
  refine zi_aload0 (n := 6) dX7_when_5 rfl ?_
  refine zi_iload1 (n := 7) dX7_when_6 rfl ?_
  refine zi_V1s (mj := zm_X7_isPaper) (n := 10) dX7_when_7 rfl zl_X7_180 zy_X7_isPaper (zrc_X7 _ _) (by decide) (Nat.le_of_ble_eq_true rfl) (c_X7_isPaper) ?_
  refine zi_ifeq_b (n := 13) (tgt := 23) dX7_when_10 rfl (by decide) (fun h10 => ?_) (fun h10 => ?_)
  · first | exact absurd a1 h10 | exact absurd h10 a1
  · refine zi_iload2 (n := 14) dX7_when_13 rfl ?_
    refine zi_i2l (n := 15) dX7_when_14 rfl ?_
    refine zi_lconst (n := 16) ((nI 0).toInt64) dX7_when_15 rfl (by decide) ?_
    refine zi_lconst (n := 17) ((nI 1).toInt64) dX7_when_16 rfl (by decide) ?_
    refine zi_S3s (mj := zm_X7_in) (n := 20) dX7_when_17 rfl zl_X7_54 zy_X7_in (by decide) (Nat.le_of_ble_eq_true rfl) (c_X7_in) ?_
    refine zi_ifne_b (n := 23) (tgt := 26) dX7_when_20 rfl (by decide) (fun h20 => ?_) (fun h20 => ?_)
    · refine zi_aload0 (n := 27) dX7_when_26 rfl ?_
      refine zi_V0v (mj := zm_X7_layThen) (n := 30) dX7_when_27 rfl zl_X7_193 zy_X7_layThen (zrc_X7 _ _) (by decide) (Nat.le_of_ble_eq_true rfl) (c_X7_layThen) ?_
      refine zi_iconst (n := 31) (nI 0) dX7_when_30 rfl (by decide) ?_
      refine zi_istore3 (n := 32) dX7_when_31 rfl (by decide) rfl ?_
      exact l0_X7_when hp 60 0 _ none none (by omega) hk.lay rfl
    · first | exact absurd a3 h20 | exact absurd h20 a3
set_option maxHeartbeats 4000000 in
set_option maxRecDepth 100000 in
theorem m_when_1 (h0 : Z 165 0 = nI 0) (hk : zKd (Z 169) n) {p : Nat} (hp : p < n) : zCT E 4 zm_X7_when [.ref (zad E 165), .int (nI p), .int (nI 1)] (Q, Z) (some (.int (zwnM n p 61 0 (zly (Z 169) (Z 171))).1)) (Q, va_up Z 171 (zwnM n p 61 0 (zly (Z 169) (Z 171))).2) := by
  refine zCT.of (by decide +kernel) (Nat.le_of_ble_eq_true rfl) ?_
  have hn := hk.1
  have h6 := hk.2.1
  have a1 := zisP hn h6 hp
  have a3 : nI 0 ≤ nI 1 ∧ nI 1 ≤ nI 1 := by decide
  refine zi_aload0 (n := 1) dX7_when_0 rfl ?_
  refine zi_iconst (n := 2) (nI 0) dX7_when_1 rfl (by decide) ?_
  refine zp_X7_0 (n := 5) dX7_when_2 rfl zl_X7_44 (zt0 h0) ?_
  refine zi_aload0 (n := 6) dX7_when_5 rfl ?_
  refine zi_iload1 (n := 7) dX7_when_6 rfl ?_
  refine zi_V1s (mj := zm_X7_isPaper) (n := 10) dX7_when_7 rfl zl_X7_180 zy_X7_isPaper (zrc_X7 _ _) (by decide) (Nat.le_of_ble_eq_true rfl) (c_X7_isPaper) ?_
  refine zi_ifeq_b (n := 13) (tgt := 23) dX7_when_10 rfl (by decide) (fun h10 => ?_) (fun h10 => ?_)
  · first | exact absurd a1 h10 | exact absurd h10 a1
  · refine zi_iload2 (n := 14) dX7_when_13 rfl ?_
    refine zi_i2l (n := 15) dX7_when_14 rfl ?_
    refine zi_lconst (n := 16) ((nI 0).toInt64) dX7_when_15 rfl (by decide) ?_
    refine zi_lconst (n := 17) ((nI 1).toInt64) dX7_when_16 rfl (by decide) ?_
    refine zi_S3s (mj := zm_X7_in) (n := 20) dX7_when_17 rfl zl_X7_54 zy_X7_in (by decide) (Nat.le_of_ble_eq_true rfl) (c_X7_in) ?_
    refine zi_ifne_b (n := 23) (tgt := 26) dX7_when_20 rfl (by decide) (fun h20 => ?_) (fun h20 => ?_)
    · refine zi_aload0 (n := 27) dX7_when_26 rfl ?_
      refine zi_V0v (mj := zm_X7_layThen) (n := 30) dX7_when_27 rfl zl_X7_193 zy_X7_layThen (zrc_X7 _ _) (by decide) (Nat.le_of_ble_eq_true rfl) (c_X7_layThen) ?_
      refine zi_iconst (n := 31) (nI 0) dX7_when_30 rfl (by decide) ?_
      refine zi_istore3 (n := 32) dX7_when_31 rfl (by decide) rfl ?_
      exact l1_X7_when hp 61 0 _ none none (by omega) hk.lay rfl
    · first | exact absurd a3 h20 | exact absurd h20 a3
set_option maxHeartbeats 4000000 in
set_option maxRecDepth 100000 in
theorem m_over_state (h0 : Z 165 0 = nI 0)  (hz : Z 169 0 ≤ 0) : zCT E 4 zm_X7_over [.ref (zad E 165)] (Q, Z) (some (.int zSTATE)) (Q, Z) := by
  refine zCT.of (by decide +kernel) (Nat.le_of_ble_eq_true rfl) ?_
  refine zi_aload0 (n := 1) dX7_over_0 rfl ?_
  refine zi_iconst (n := 2) (nI 0) dX7_over_1 rfl (by decide) ?_
  refine zp_X7_0 (n := 5) dX7_over_2 rfl zl_X7_44 (zt0 h0) ?_
  refine zi_aload0 (n := 6) dX7_over_5 rfl ?_
  refine zi_V0s (mj := zm_X7_isThere) (n := 9) dX7_over_6 rfl zl_X7_171 zy_X7_isThere (zrc_X7 _ _) (by decide) (Nat.le_of_ble_eq_true rfl) (c_X7_isThere) ?_
  refine zi_ifne_b (n := 12) (tgt := 15) dX7_over_9 rfl (by decide) (fun h9 => ?_) (fun h9 => ?_)
  · first | exact absurd (fun q => q hz : ¬ ¬ Z 169 0 ≤ 0) h9 | exact absurd h9 (fun q => q hz : ¬ ¬ Z 169 0 ≤ 0)
  · refine zi_ldc (n := 14) dX7_over_12 rfl zl_X7_174 ?_
    exact zi_iret dX7_over_14 rfl (by rfl) (by rfl)
set_option maxHeartbeats 4000000 in
set_option maxRecDepth 100000 in
theorem l_X7_over {r : Int32 × zF} : ∀ k i (f : zF) (x2 : Option Value), i + k = 61 → zKd f n → zovM n k i f = r → zG E zm_X7_over 4 (some (.int r.1)) (Q, va_up Z 171 r.2) 21 [some (.ref (zad E 165)), some (.int (nI i)), x2] [] (Q, va_up Z 171 f) := by
  intro k
  induction k with
  | zero =>
    intro i f x2 hi hf hr
    obtain rfl : i = 61 := by omega
    refine zi_iload1 (n := 22) dX7_over_21 rfl ?_
    refine zi_bipush (n := 24) (nI 60) dX7_over_22 rfl (by decide) ?_
    refine zi_icgt (n := 27) (tgt := 53) dX7_over_24 rfl (by decide) (fun h24 => ?_) (fun h24 => ?_)
    · refine zi_ldc (n := 55) dX7_over_53 rfl zl_X7_87 ?_
      exact zi_iret dX7_over_55 rfl (by rw [← hr]; rfl) (by rw [← hr]; rfl)
    · exact absurd (by decide) h24
  | succ k ih =>
    intro i f x2 hi hf hr
    refine zi_iload1 (n := 22) dX7_over_21 rfl ?_
    refine zi_bipush (n := 24) (nI 60) dX7_over_22 rfl (by decide) ?_
    refine zi_icgt (n := 27) (tgt := 53) dX7_over_24 rfl (by decide) (fun h24 => ?_) (fun h24 => ?_)
    · exact absurd h24 (Int32.not_lt.mpr (nI_le (by omega) (by omega)))
    · refine zi_aload0 (n := 28) dX7_over_27 rfl ?_
      refine zg_X7_7 (n := 31) dX7_over_28 rfl zl_X7_25 ?_
      refine zi_S1s (mj := zm_X7_lettersOf) (n := 34) dX7_over_31 rfl zl_X7_200 zy_X7_lettersOf (by decide) (Nat.le_of_ble_eq_true rfl) (c_X7_lettersOf (Or.inr rfl) hf.1 hf.2.1) ?_
      refine zi_ifne (n := 37) (tgt := 39) dX7_over_34 rfl (by decide) (fun h34 => ?_) (fun h34 => ?_)
      · rw [zovM, if_neg h34] at hr
        refine zi_aload0 (n := 40) dX7_over_39 rfl ?_
        refine zg_X7_7 (n := 43) dX7_over_40 rfl zl_X7_25 ?_
        refine zi_S1s (mj := zm_X7_noonOf) (n := 46) dX7_over_43 rfl zl_X7_168 zy_X7_noonOf (by decide) (Nat.le_of_ble_eq_true rfl) (c_X7_noonOf (Or.inr rfl) hf) ?_
        refine zi_istore2 (n := 47) dX7_over_46 rfl (by decide) rfl ?_
        refine zi_iinc1 (n := 50) (nI (i + 1)) dX7_over_47 rfl (by decide) rfl (zi1 _) ?_
        refine zi_goto (tgt := 21) dX7_over_50 (by decide) ?_
        exact ih (i + 1) _ _ (by omega) hf.noon hr
      · rw [zovM, if_pos h34] at hr
        refine zi_iload1 (n := 38) dX7_over_37 rfl ?_
        exact zi_iret dX7_over_38 rfl (by rw [← hr]) (by rw [← hr])
set_option maxHeartbeats 4000000 in
set_option maxRecDepth 100000 in
theorem m_over_ok (h0 : Z 165 0 = nI 0) (hk : zKd (Z 169) n) (hz : ¬ Z 169 0 ≤ 0) : zCT E 4 zm_X7_over [.ref (zad E 165)] (Q, Z) (some (.int (zovM n 61 0 (zly (Z 169) (Z 171))).1)) (Q, va_up Z 171 (zovM n 61 0 (zly (Z 169) (Z 171))).2) := by
  refine zCT.of (by decide +kernel) (Nat.le_of_ble_eq_true rfl) ?_
  refine zi_aload0 (n := 1) dX7_over_0 rfl ?_
  refine zi_iconst (n := 2) (nI 0) dX7_over_1 rfl (by decide) ?_
  refine zp_X7_0 (n := 5) dX7_over_2 rfl zl_X7_44 (zt0 h0) ?_
  refine zi_aload0 (n := 6) dX7_over_5 rfl ?_
  refine zi_V0s (mj := zm_X7_isThere) (n := 9) dX7_over_6 rfl zl_X7_171 zy_X7_isThere (zrc_X7 _ _) (by decide) (Nat.le_of_ble_eq_true rfl) (c_X7_isThere) ?_
  refine zi_ifne_b (n := 12) (tgt := 15) dX7_over_9 rfl (by decide) (fun h9 => ?_) (fun h9 => ?_)
  · refine zi_aload0 (n := 16) dX7_over_15 rfl ?_
    refine zi_V0v (mj := zm_X7_layThen) (n := 19) dX7_over_16 rfl zl_X7_193 zy_X7_layThen (zrc_X7 _ _) (by decide) (Nat.le_of_ble_eq_true rfl) (c_X7_layThen) ?_
    refine zi_iconst (n := 20) (nI 0) dX7_over_19 rfl (by decide) ?_
    refine zi_istore1 (n := 21) dX7_over_20 rfl (by decide) rfl ?_
    exact l_X7_over 61 0 _ none (by omega) hk.lay rfl
  · first | exact absurd hz h9 | exact absurd h9 hz
set_option maxHeartbeats 4000000 in
set_option maxRecDepth 100000 in
theorem m_spot_bad (h0 : Z 165 0 = nI 0) {x y w : Int32} (hb : ¬ ((nI 0 ≤ x ∧ x ≤ Z 169 0 - nI 1) ∧ (nI 1 ≤ y ∧ y ≤ nI 60) ∧ (nI 0 ≤ w ∧ w ≤ nI 1))) : zCT E 5 zm_X7_spot [.ref (zad E 165), .int x, .int y, .int w] (Q, Z) (some (.int zBAD)) (Q, Z) := by
  refine zCT.of (by decide +kernel) (Nat.le_of_ble_eq_true rfl) ?_
  refine zi_aload0 (n := 1) dX7_spot_0 rfl ?_
  refine zi_iconst (n := 2) (nI 0) dX7_spot_1 rfl (by decide) ?_
  refine zp_X7_0 (n := 5) dX7_spot_2 rfl zl_X7_44 (zt0 h0) ?_
  refine zi_aload0 (n := 6) dX7_spot_5 rfl ?_
  refine zi_iload1 (n := 7) dX7_spot_6 rfl ?_
  refine zi_V1s (mj := zm_X7_isPaper) (n := 10) dX7_spot_7 rfl zl_X7_180 zy_X7_isPaper (zrc_X7 _ _) (by decide) (Nat.le_of_ble_eq_true rfl) (c_X7_isPaper) ?_
  refine zi_ifeq_b (n := 13) (tgt := 35) dX7_spot_10 rfl (by decide) (fun h10 => ?_) (fun h10 => ?_)
  · refine zi_ldc (n := 37) dX7_spot_35 rfl zl_X7_64 ?_
    exact zi_iret dX7_spot_37 rfl (by rfl) (by rfl)
  · refine zi_iload2 (n := 14) dX7_spot_13 rfl ?_
    refine zi_i2l (n := 15) dX7_spot_14 rfl ?_
    refine zi_lconst (n := 16) ((nI 1).toInt64) dX7_spot_15 rfl (by decide) ?_
    refine zi_ldc2 (n := 19) dX7_spot_16 rfl zl_X7_191 ?_
    rw [show (60 : Int64) = (nI 60).toInt64 by decide]
    refine zi_S3s (mj := zm_X7_in) (n := 22) dX7_spot_19 rfl zl_X7_54 zy_X7_in (by decide) (Nat.le_of_ble_eq_true rfl) (c_X7_in) ?_
    refine zi_ifeq_b (n := 25) (tgt := 35) dX7_spot_22 rfl (by decide) (fun h22 => ?_) (fun h22 => ?_)
    · refine zi_ldc (n := 37) dX7_spot_35 rfl zl_X7_64 ?_
      exact zi_iret dX7_spot_37 rfl (by rfl) (by rfl)
    · refine zi_iload3 (n := 26) dX7_spot_25 rfl ?_
      refine zi_i2l (n := 27) dX7_spot_26 rfl ?_
      refine zi_lconst (n := 28) ((nI 0).toInt64) dX7_spot_27 rfl (by decide) ?_
      refine zi_lconst (n := 29) ((nI 1).toInt64) dX7_spot_28 rfl (by decide) ?_
      refine zi_S3s (mj := zm_X7_in) (n := 32) dX7_spot_29 rfl zl_X7_54 zy_X7_in (by decide) (Nat.le_of_ble_eq_true rfl) (c_X7_in) ?_
      refine zi_ifne_b (n := 35) (tgt := 38) dX7_spot_32 rfl (by decide) (fun h32 => ?_) (fun h32 => ?_)
      · exact absurd ⟨h10, h22, h32⟩ hb
      · refine zi_ldc (n := 37) dX7_spot_35 rfl zl_X7_64 ?_
        exact zi_iret dX7_spot_37 rfl (by rfl) (by rfl)
theorem zKd.at {f : zF} {x : Int32} {c : Nat} (h : zKd f n) (hc : c < 5) (h0 : 0 < c) : zKd (upd f (6 + 5 * p + c) x) n := h.up (by omega) (by omega)
def zspT (g f : zF) (n p m c : Nat) (x : Int32) : zF := noonsM (upd (zly g f) (6 + 5 * p + c) x) n m
theorem zspT_kd {g f : zF} {m c : Nat} {x : Int32} (h : zKd g n) (hc : c < 5) (h0 : 0 < c) : zKd (upd (zly g f) (6 + 5 * p + c) x) n := h.lay.at hc h0
def zspM (g : zF) (n p m : Nat) : Nat → Nat → Int32 → Int32 → zF → Int32 × Int32 × zF
  | 0, _, b, mo, f => (b, mo, f)
  | k + 1, i, b, mo, f => if zspT g f n p m 1 (nI i) (6 + 5 * p + 3) ≤ mo then zspM g n p m k (i + 1) b mo (zspT g f n p m 1 (nI i)) else zspM g n p m k (i + 1) (nI i) (zspT g f n p m 1 (nI i) (6 + 5 * p + 3)) (zspT g f n p m 1 (nI i))
def zdcM (g : zF) (n p o m : Nat) : Nat → Nat → zF → Int32 × zF
  | 0, _, f => (-1000000, f)
  | k + 1, i, f => if zspT g f n p m 3 (nI i) (6 + 5 * o + 3) = g (6 + 5 * o + 3) then (nI i, zspT g f n p m 3 (nI i)) else zdcM g n p o m k (i + 1) (zspT g f n p m 3 (nI i))
set_option maxHeartbeats 4000000 in
set_option maxRecDepth 100000 in
theorem l0_X7_spot (hk : zKd (Z 169) n) (hp : p < n) {m : Nat} (hm : m < 2 ^ 30) {r : Int32 × Int32 × zF} : ∀ k i (b mo : Int32) (f : zF), i + k = 10 → zspM (Z 169) n p m k i b mo f = r → zG E zm_X7_spot 5 (some (.int r.1)) (Q, va_up Z 171 r.2.2) 47 [some (.ref (zad E 165)), some (.int (nI p)), some (.int (nI m)), some (.int (nI 0)), some (.int b), some (.int mo), some (.int (nI i))] [] (Q, va_up Z 171 f) := by
  have h6 := hk.2.1
  intro k
  induction k with
  | zero =>
    intro i b mo f hi hr
    obtain rfl : i = 10 := by omega
    refine zi_iload6 (n := 49) dX7_spot_47 rfl ?_
    refine zi_bipush (n := 51) (nI 10) dX7_spot_49 rfl (by decide) ?_
    refine zi_icge (n := 54) (tgt := 112) dX7_spot_51 rfl (by decide) (fun h51 => ?_) (fun h51 => ?_)
    · refine zi_iload3 (n := 113) dX7_spot_112 rfl ?_
      refine zi_ifne (n := 116) (tgt := 121) dX7_spot_113 rfl (by decide) (fun h113 => ?_) (fun h113 => ?_)
      · first | exact absurd h113 (by decide) | exact absurd rfl h113
      · refine zi_iload4 (n := 118) dX7_spot_116 rfl ?_
        refine zi_goto (tgt := 123) dX7_spot_118 (by decide) ?_
        exact zi_iret dX7_spot_123 rfl (by rw [← hr]; rfl) (by rw [← hr]; rfl)
    · exact absurd (by decide) h51
  | succ k ih =>
    intro i b mo f hi hr
    refine zi_iload6 (n := 49) dX7_spot_47 rfl ?_
    refine zi_bipush (n := 51) (nI 10) dX7_spot_49 rfl (by decide) ?_
    refine zi_icge (n := 54) (tgt := 112) dX7_spot_51 rfl (by decide) (fun h51 => ?_) (fun h51 => ?_)
    · exact absurd h51 (Int32.not_le.mpr (nI_lt (by omega) (by omega)))
    · refine zi_aload0 (n := 55) dX7_spot_54 rfl ?_
      refine zi_V0v (mj := zm_X7_layThen) (n := 58) dX7_spot_55 rfl zl_X7_193 zy_X7_layThen (zrc_X7 _ _) (by decide) (Nat.le_of_ble_eq_true rfl) c_lay ?_
      refine zi_aload0 (n := 59) dX7_spot_58 rfl ?_
      refine zg_X7_7 (n := 62) dX7_spot_59 rfl zl_X7_25 ?_
      refine zi_iload1 (n := 63) dX7_spot_62 rfl ?_
      refine zi_iconst (n := 64) (nI 1) dX7_spot_63 rfl (by decide) ?_
      refine zi_iload6 (n := 66) dX7_spot_64 rfl ?_
      refine zi_S4v (mj := zm_X7_be) (n := 69) dX7_spot_66 rfl zl_X7_154 zy_X7_be (by decide) (Nat.le_of_ble_eq_true rfl) (c_X7_be (Or.inr rfl) (by omega) (by decide)) ?_
      refine zi_aload0 (n := 70) dX7_spot_69 rfl ?_
      refine zg_X7_7 (n := 73) dX7_spot_70 rfl zl_X7_25 ?_
      refine zi_iload2 (n := 74) dX7_spot_73 rfl ?_
      refine zi_S2v (mj := zm_X7_noonsOf) (n := 77) dX7_spot_74 rfl zl_X7_196 zy_X7_noonsOf (by decide) (Nat.le_of_ble_eq_true rfl) (c_X7_noonsOf (Or.inr rfl) (zspT_kd (m := m) hk (by decide) (by decide)) (by omega)) ?_
      change zG _ _ _ _ _ _ _ _ (Q, va_up Z 171 (zspT (Z 169) f n p m 1 (nI i)))
      refine zi_aload0 (n := 78) dX7_spot_77 rfl ?_
      refine zg_X7_7 (n := 81) dX7_spot_78 rfl zl_X7_25 ?_
      refine zi_iload1 (n := 82) dX7_spot_81 rfl ?_
      refine zi_iconst (n := 83) (nI 3) dX7_spot_82 rfl (by decide) ?_
      refine zi_S3s (mj := zm_X7_of) (n := 86) dX7_spot_83 rfl zl_X7_146 zy_X7_of (by decide) (Nat.le_of_ble_eq_true rfl) (c_X7_of (Or.inr rfl) (by omega) (by decide)) ?_
      refine zi_iload5 (n := 88) dX7_spot_86 rfl ?_
      refine zi_icle (n := 91) (tgt := 106) dX7_spot_88 rfl (by decide) (fun h88 => ?_) (fun h88 => ?_)
      · rw [zspM, if_pos h88] at hr
        refine zi_iinc6 (n := 109) (nI (i + 1)) dX7_spot_106 rfl (by decide) rfl (zi1 _) ?_
        refine zi_goto (tgt := 47) dX7_spot_109 (by decide) ?_
        exact ih (i + 1) _ _ _ (by omega) hr
      · rw [zspM, if_neg h88] at hr
        refine zi_aload0 (n := 92) dX7_spot_91 rfl ?_
        refine zg_X7_7 (n := 95) dX7_spot_92 rfl zl_X7_25 ?_
        refine zi_iload1 (n := 96) dX7_spot_95 rfl ?_
        refine zi_iconst (n := 97) (nI 3) dX7_spot_96 rfl (by decide) ?_
        refine zi_S3s (mj := zm_X7_of) (n := 100) dX7_spot_97 rfl zl_X7_146 zy_X7_of (by decide) (Nat.le_of_ble_eq_true rfl) (c_X7_of (Or.inr rfl) (by omega) (by decide)) ?_
        refine zi_istore5 (n := 102) dX7_spot_100 rfl (by decide) rfl ?_
        refine zi_iload6 (n := 104) dX7_spot_102 rfl ?_
        refine zi_istore4 (n := 106) dX7_spot_104 rfl (by decide) rfl ?_
        refine zi_iinc6 (n := 109) (nI (i + 1)) dX7_spot_106 rfl (by decide) rfl (zi1 _) ?_
        refine zi_goto (tgt := 47) dX7_spot_109 (by decide) ?_
        exact ih (i + 1) _ _ _ (by omega) hr
set_option maxHeartbeats 4000000 in
set_option maxRecDepth 100000 in
theorem m_spot_0 (h0 : Z 165 0 = nI 0) (hk : zKd (Z 169) n) {p : Nat} (hp : p < n) {m : Nat} (hm1 : 1 ≤ m) (hm2 : m ≤ 60) : zCT E 5 zm_X7_spot [.ref (zad E 165), .int (nI p), .int (nI m), .int (nI 0)] (Q, Z) (some (.int (zspM (Z 169) n p m 10 0 (nI 0) (-1) (Z 171)).1)) (Q, va_up Z 171 (zspM (Z 169) n p m 10 0 (nI 0) (-1) (Z 171)).2.2) := by
  refine zCT.of (by decide +kernel) (Nat.le_of_ble_eq_true rfl) ?_
  have hn := hk.1
  have h6 := hk.2.1
  have a1 := zisP hn h6 hp
  have a2 := zrg hm1 hm2 (by decide)
  have a3 : nI 0 ≤ nI 0 ∧ nI 0 ≤ nI 1 := by decide
  refine zi_aload0 (n := 1) dX7_spot_0 rfl ?_
  refine zi_iconst (n := 2) (nI 0) dX7_spot_1 rfl (by decide) ?_
  refine zp_X7_0 (n := 5) dX7_spot_2 rfl zl_X7_44 (zt0 h0) ?_
  refine zi_aload0 (n := 6) dX7_spot_5 rfl ?_
  refine zi_iload1 (n := 7) dX7_spot_6 rfl ?_
  refine zi_V1s (mj := zm_X7_isPaper) (n := 10) dX7_spot_7 rfl zl_X7_180 zy_X7_isPaper (zrc_X7 _ _) (by decide) (Nat.le_of_ble_eq_true rfl) (c_X7_isPaper) ?_
  refine zi_ifeq_b (n := 13) (tgt := 35) dX7_spot_10 rfl (by decide) (fun h10 => ?_) (fun h10 => ?_)
  · first | exact absurd a1 h10 | exact absurd h10 a1
  · refine zi_iload2 (n := 14) dX7_spot_13 rfl ?_
    refine zi_i2l (n := 15) dX7_spot_14 rfl ?_
    refine zi_lconst (n := 16) ((nI 1).toInt64) dX7_spot_15 rfl (by decide) ?_
    refine zi_ldc2 (n := 19) dX7_spot_16 rfl zl_X7_191 ?_
    rw [show (60 : Int64) = (nI 60).toInt64 by decide]
    refine zi_S3s (mj := zm_X7_in) (n := 22) dX7_spot_19 rfl zl_X7_54 zy_X7_in (by decide) (Nat.le_of_ble_eq_true rfl) (c_X7_in) ?_
    refine zi_ifeq_b (n := 25) (tgt := 35) dX7_spot_22 rfl (by decide) (fun h22 => ?_) (fun h22 => ?_)
    · first | exact absurd a2 h22 | exact absurd h22 a2
    · refine zi_iload3 (n := 26) dX7_spot_25 rfl ?_
      refine zi_i2l (n := 27) dX7_spot_26 rfl ?_
      refine zi_lconst (n := 28) ((nI 0).toInt64) dX7_spot_27 rfl (by decide) ?_
      refine zi_lconst (n := 29) ((nI 1).toInt64) dX7_spot_28 rfl (by decide) ?_
      refine zi_S3s (mj := zm_X7_in) (n := 32) dX7_spot_29 rfl zl_X7_54 zy_X7_in (by decide) (Nat.le_of_ble_eq_true rfl) (c_X7_in) ?_
      refine zi_ifne_b (n := 35) (tgt := 38) dX7_spot_32 rfl (by decide) (fun h32 => ?_) (fun h32 => ?_)
      · refine zi_iconst (n := 39) (nI 0) dX7_spot_38 rfl (by decide) ?_
        refine zi_istore4 (n := 41) dX7_spot_39 rfl (by decide) rfl ?_
        refine zi_iconst (n := 42) (-1) dX7_spot_41 rfl (by decide) ?_
        refine zi_istore5 (n := 44) dX7_spot_42 rfl (by decide) rfl ?_
        refine zi_iconst (n := 45) (nI 0) dX7_spot_44 rfl (by decide) ?_
        refine zi_istore6 (n := 47) dX7_spot_45 rfl (by decide) rfl ?_
        refine zG_eqM (M2 := (Q, va_up Z 171 (Z 171))) (by rw [zup_same]) ?_
        exact l0_X7_spot hk hp (by omega) 10 0 (nI 0) (-1) (Z 171) (by omega) rfl
      · first | exact absurd a3 h32 | exact absurd h32 a3
set_option maxHeartbeats 4000000 in
set_option maxRecDepth 100000 in
theorem l1_X7_spot (hk : zKd (Z 169) n) (hp : p < n) {m : Nat} (hm : m < 2 ^ 30) {r : Int32 × Int32 × zF} : ∀ k i (b mo : Int32) (f : zF), i + k = 10 → zspM (Z 169) n p m k i b mo f = r → zG E zm_X7_spot 5 (some (.int r.2.1)) (Q, va_up Z 171 r.2.2) 47 [some (.ref (zad E 165)), some (.int (nI p)), some (.int (nI m)), some (.int (nI 1)), some (.int b), some (.int mo), some (.int (nI i))] [] (Q, va_up Z 171 f) := by
  have h6 := hk.2.1
  intro k
  induction k with
  | zero =>
    intro i b mo f hi hr
    obtain rfl : i = 10 := by omega
    refine zi_iload6 (n := 49) dX7_spot_47 rfl ?_
    refine zi_bipush (n := 51) (nI 10) dX7_spot_49 rfl (by decide) ?_
    refine zi_icge (n := 54) (tgt := 112) dX7_spot_51 rfl (by decide) (fun h51 => ?_) (fun h51 => ?_)
    · refine zi_iload3 (n := 113) dX7_spot_112 rfl ?_
      refine zi_ifne (n := 116) (tgt := 121) dX7_spot_113 rfl (by decide) (fun h113 => ?_) (fun h113 => ?_)
      · refine zi_iload5 (n := 123) dX7_spot_121 rfl ?_
        exact zi_iret dX7_spot_123 rfl (by rw [← hr]; rfl) (by rw [← hr]; rfl)
      · first | exact absurd h113 (by decide) | exact absurd rfl h113
    · exact absurd (by decide) h51
  | succ k ih =>
    intro i b mo f hi hr
    refine zi_iload6 (n := 49) dX7_spot_47 rfl ?_
    refine zi_bipush (n := 51) (nI 10) dX7_spot_49 rfl (by decide) ?_
    refine zi_icge (n := 54) (tgt := 112) dX7_spot_51 rfl (by decide) (fun h51 => ?_) (fun h51 => ?_)
    · exact absurd h51 (Int32.not_le.mpr (nI_lt (by omega) (by omega)))
    · refine zi_aload0 (n := 55) dX7_spot_54 rfl ?_
      refine zi_V0v (mj := zm_X7_layThen) (n := 58) dX7_spot_55 rfl zl_X7_193 zy_X7_layThen (zrc_X7 _ _) (by decide) (Nat.le_of_ble_eq_true rfl) c_lay ?_
      refine zi_aload0 (n := 59) dX7_spot_58 rfl ?_
      refine zg_X7_7 (n := 62) dX7_spot_59 rfl zl_X7_25 ?_
      refine zi_iload1 (n := 63) dX7_spot_62 rfl ?_
      refine zi_iconst (n := 64) (nI 1) dX7_spot_63 rfl (by decide) ?_
      refine zi_iload6 (n := 66) dX7_spot_64 rfl ?_
      refine zi_S4v (mj := zm_X7_be) (n := 69) dX7_spot_66 rfl zl_X7_154 zy_X7_be (by decide) (Nat.le_of_ble_eq_true rfl) (c_X7_be (Or.inr rfl) (by omega) (by decide)) ?_
      refine zi_aload0 (n := 70) dX7_spot_69 rfl ?_
      refine zg_X7_7 (n := 73) dX7_spot_70 rfl zl_X7_25 ?_
      refine zi_iload2 (n := 74) dX7_spot_73 rfl ?_
      refine zi_S2v (mj := zm_X7_noonsOf) (n := 77) dX7_spot_74 rfl zl_X7_196 zy_X7_noonsOf (by decide) (Nat.le_of_ble_eq_true rfl) (c_X7_noonsOf (Or.inr rfl) (zspT_kd (m := m) hk (by decide) (by decide)) (by omega)) ?_
      change zG _ _ _ _ _ _ _ _ (Q, va_up Z 171 (zspT (Z 169) f n p m 1 (nI i)))
      refine zi_aload0 (n := 78) dX7_spot_77 rfl ?_
      refine zg_X7_7 (n := 81) dX7_spot_78 rfl zl_X7_25 ?_
      refine zi_iload1 (n := 82) dX7_spot_81 rfl ?_
      refine zi_iconst (n := 83) (nI 3) dX7_spot_82 rfl (by decide) ?_
      refine zi_S3s (mj := zm_X7_of) (n := 86) dX7_spot_83 rfl zl_X7_146 zy_X7_of (by decide) (Nat.le_of_ble_eq_true rfl) (c_X7_of (Or.inr rfl) (by omega) (by decide)) ?_
      refine zi_iload5 (n := 88) dX7_spot_86 rfl ?_
      refine zi_icle (n := 91) (tgt := 106) dX7_spot_88 rfl (by decide) (fun h88 => ?_) (fun h88 => ?_)
      · rw [zspM, if_pos h88] at hr
        refine zi_iinc6 (n := 109) (nI (i + 1)) dX7_spot_106 rfl (by decide) rfl (zi1 _) ?_
        refine zi_goto (tgt := 47) dX7_spot_109 (by decide) ?_
        exact ih (i + 1) _ _ _ (by omega) hr
      · rw [zspM, if_neg h88] at hr
        refine zi_aload0 (n := 92) dX7_spot_91 rfl ?_
        refine zg_X7_7 (n := 95) dX7_spot_92 rfl zl_X7_25 ?_
        refine zi_iload1 (n := 96) dX7_spot_95 rfl ?_
        refine zi_iconst (n := 97) (nI 3) dX7_spot_96 rfl (by decide) ?_
        refine zi_S3s (mj := zm_X7_of) (n := 100) dX7_spot_97 rfl zl_X7_146 zy_X7_of (by decide) (Nat.le_of_ble_eq_true rfl) (c_X7_of (Or.inr rfl) (by omega) (by decide)) ?_
        refine zi_istore5 (n := 102) dX7_spot_100 rfl (by decide) rfl ?_
        refine zi_iload6 (n := 104) dX7_spot_102 rfl ?_
        refine zi_istore4 (n := 106) dX7_spot_104 rfl (by decide) rfl ?_
        refine zi_iinc6 (n := 109) (nI (i + 1)) dX7_spot_106 rfl (by decide) rfl (zi1 _) ?_
        refine zi_goto (tgt := 47) dX7_spot_109 (by decide) ?_
        exact ih (i + 1) _ _ _ (by omega) hr
set_option maxHeartbeats 4000000 in
set_option maxRecDepth 100000 in
theorem m_spot_1 (h0 : Z 165 0 = nI 0) (hk : zKd (Z 169) n) {p : Nat} (hp : p < n) {m : Nat} (hm1 : 1 ≤ m) (hm2 : m ≤ 60) : zCT E 5 zm_X7_spot [.ref (zad E 165), .int (nI p), .int (nI m), .int (nI 1)] (Q, Z) (some (.int (zspM (Z 169) n p m 10 0 (nI 0) (-1) (Z 171)).2.1)) (Q, va_up Z 171 (zspM (Z 169) n p m 10 0 (nI 0) (-1) (Z 171)).2.2) := by
  refine zCT.of (by decide +kernel) (Nat.le_of_ble_eq_true rfl) ?_
  have hn := hk.1
  have h6 := hk.2.1
  have a1 := zisP hn h6 hp
  have a2 := zrg hm1 hm2 (by decide)
  have a3 : nI 0 ≤ nI 1 ∧ nI 1 ≤ nI 1 := by decide
  refine zi_aload0 (n := 1) dX7_spot_0 rfl ?_
  refine zi_iconst (n := 2) (nI 0) dX7_spot_1 rfl (by decide) ?_
  refine zp_X7_0 (n := 5) dX7_spot_2 rfl zl_X7_44 (zt0 h0) ?_
  refine zi_aload0 (n := 6) dX7_spot_5 rfl ?_
  refine zi_iload1 (n := 7) dX7_spot_6 rfl ?_
  refine zi_V1s (mj := zm_X7_isPaper) (n := 10) dX7_spot_7 rfl zl_X7_180 zy_X7_isPaper (zrc_X7 _ _) (by decide) (Nat.le_of_ble_eq_true rfl) (c_X7_isPaper) ?_
  refine zi_ifeq_b (n := 13) (tgt := 35) dX7_spot_10 rfl (by decide) (fun h10 => ?_) (fun h10 => ?_)
  · first | exact absurd a1 h10 | exact absurd h10 a1
  · refine zi_iload2 (n := 14) dX7_spot_13 rfl ?_
    refine zi_i2l (n := 15) dX7_spot_14 rfl ?_
    refine zi_lconst (n := 16) ((nI 1).toInt64) dX7_spot_15 rfl (by decide) ?_
    refine zi_ldc2 (n := 19) dX7_spot_16 rfl zl_X7_191 ?_
    rw [show (60 : Int64) = (nI 60).toInt64 by decide]
    refine zi_S3s (mj := zm_X7_in) (n := 22) dX7_spot_19 rfl zl_X7_54 zy_X7_in (by decide) (Nat.le_of_ble_eq_true rfl) (c_X7_in) ?_
    refine zi_ifeq_b (n := 25) (tgt := 35) dX7_spot_22 rfl (by decide) (fun h22 => ?_) (fun h22 => ?_)
    · first | exact absurd a2 h22 | exact absurd h22 a2
    · refine zi_iload3 (n := 26) dX7_spot_25 rfl ?_
      refine zi_i2l (n := 27) dX7_spot_26 rfl ?_
      refine zi_lconst (n := 28) ((nI 0).toInt64) dX7_spot_27 rfl (by decide) ?_
      refine zi_lconst (n := 29) ((nI 1).toInt64) dX7_spot_28 rfl (by decide) ?_
      refine zi_S3s (mj := zm_X7_in) (n := 32) dX7_spot_29 rfl zl_X7_54 zy_X7_in (by decide) (Nat.le_of_ble_eq_true rfl) (c_X7_in) ?_
      refine zi_ifne_b (n := 35) (tgt := 38) dX7_spot_32 rfl (by decide) (fun h32 => ?_) (fun h32 => ?_)
      · refine zi_iconst (n := 39) (nI 0) dX7_spot_38 rfl (by decide) ?_
        refine zi_istore4 (n := 41) dX7_spot_39 rfl (by decide) rfl ?_
        refine zi_iconst (n := 42) (-1) dX7_spot_41 rfl (by decide) ?_
        refine zi_istore5 (n := 44) dX7_spot_42 rfl (by decide) rfl ?_
        refine zi_iconst (n := 45) (nI 0) dX7_spot_44 rfl (by decide) ?_
        refine zi_istore6 (n := 47) dX7_spot_45 rfl (by decide) rfl ?_
        refine zG_eqM (M2 := (Q, va_up Z 171 (Z 171))) (by rw [zup_same]) ?_
        exact l1_X7_spot hk hp (by omega) 10 0 (nI 0) (-1) (Z 171) (by omega) rfl
      · first | exact absurd a3 h32 | exact absurd h32 a3
set_option maxHeartbeats 4000000 in
set_option maxRecDepth 100000 in
theorem m_decoy_bad (h0 : Z 165 0 = nI 0) {x y w : Int32} (hb : ¬ ((nI 0 ≤ x ∧ x ≤ Z 169 0 - nI 1) ∧ (nI 0 ≤ y ∧ y ≤ Z 169 0 - nI 1) ∧ ¬ x = y ∧ (nI 1 ≤ w ∧ w ≤ nI 40))) : zCT E 5 zm_X7_decoy [.ref (zad E 165), .int x, .int y, .int w] (Q, Z) (some (.int zBAD)) (Q, Z) := by
  refine zCT.of (by decide +kernel) (Nat.le_of_ble_eq_true rfl) ?_
  refine zi_aload0 (n := 1) dX7_decoy_0 rfl ?_
  refine zi_iconst (n := 2) (nI 0) dX7_decoy_1 rfl (by decide) ?_
  refine zp_X7_0 (n := 5) dX7_decoy_2 rfl zl_X7_44 (zt0 h0) ?_
  refine zi_aload0 (n := 6) dX7_decoy_5 rfl ?_
  refine zi_iload1 (n := 7) dX7_decoy_6 rfl ?_
  refine zi_V1s (mj := zm_X7_isPaper) (n := 10) dX7_decoy_7 rfl zl_X7_180 zy_X7_isPaper (zrc_X7 _ _) (by decide) (Nat.le_of_ble_eq_true rfl) (c_X7_isPaper) ?_
  refine zi_ifeq_b (n := 13) (tgt := 38) dX7_decoy_10 rfl (by decide) (fun h10 => ?_) (fun h10 => ?_)
  · refine zi_ldc (n := 40) dX7_decoy_38 rfl zl_X7_64 ?_
    exact zi_iret dX7_decoy_40 rfl (by rfl) (by rfl)
  · refine zi_aload0 (n := 14) dX7_decoy_13 rfl ?_
    refine zi_iload2 (n := 15) dX7_decoy_14 rfl ?_
    refine zi_V1s (mj := zm_X7_isPaper) (n := 18) dX7_decoy_15 rfl zl_X7_180 zy_X7_isPaper (zrc_X7 _ _) (by decide) (Nat.le_of_ble_eq_true rfl) (c_X7_isPaper) ?_
    refine zi_ifeq_b (n := 21) (tgt := 38) dX7_decoy_18 rfl (by decide) (fun h18 => ?_) (fun h18 => ?_)
    · refine zi_ldc (n := 40) dX7_decoy_38 rfl zl_X7_64 ?_
      exact zi_iret dX7_decoy_40 rfl (by rfl) (by rfl)
    · refine zi_iload1 (n := 22) dX7_decoy_21 rfl ?_
      refine zi_iload2 (n := 23) dX7_decoy_22 rfl ?_
      refine zi_iceq (n := 26) (tgt := 38) dX7_decoy_23 rfl (by decide) (fun h23 => ?_) (fun h23 => ?_)
      · refine zi_ldc (n := 40) dX7_decoy_38 rfl zl_X7_64 ?_
        exact zi_iret dX7_decoy_40 rfl (by rfl) (by rfl)
      · refine zi_iload3 (n := 27) dX7_decoy_26 rfl ?_
        refine zi_i2l (n := 28) dX7_decoy_27 rfl ?_
        refine zi_lconst (n := 29) ((nI 1).toInt64) dX7_decoy_28 rfl (by decide) ?_
        refine zi_ldc2 (n := 32) dX7_decoy_29 rfl zl_X7_203 ?_
        rw [show (40 : Int64) = (nI 40).toInt64 by decide]
        refine zi_S3s (mj := zm_X7_in) (n := 35) dX7_decoy_32 rfl zl_X7_54 zy_X7_in (by decide) (Nat.le_of_ble_eq_true rfl) (c_X7_in) ?_
        refine zi_ifne_b (n := 38) (tgt := 41) dX7_decoy_35 rfl (by decide) (fun h35 => ?_) (fun h35 => ?_)
        · exact absurd ⟨h10, h18, h23, h35⟩ hb
        · refine zi_ldc (n := 40) dX7_decoy_38 rfl zl_X7_64 ?_
          exact zi_iret dX7_decoy_40 rfl (by rfl) (by rfl)
set_option maxHeartbeats 4000000 in
set_option maxRecDepth 100000 in
theorem l_X7_decoy (hk : zKd (Z 169) n) (hp : p < n) {o : Nat} (ho : o < n) {m : Nat} (hm : m < 2 ^ 30) {r : Int32 × zF} : ∀ k i (f : zF), i + k = 10 → zdcM (Z 169) n p o m k i f = r → zG E zm_X7_decoy 5 (some (.int r.1)) (Q, va_up Z 171 r.2) 44 [some (.ref (zad E 165)), some (.int (nI p)), some (.int (nI o)), some (.int (nI m)), some (.int (nI i))] [] (Q, va_up Z 171 f) := by
  have h6 := hk.2.1
  intro k
  induction k with
  | zero =>
    intro i f hi hr
    obtain rfl : i = 10 := by omega
    refine zi_iload4 (n := 46) dX7_decoy_44 rfl ?_
    refine zi_bipush (n := 48) (nI 10) dX7_decoy_46 rfl (by decide) ?_
    refine zi_icge (n := 51) (tgt := 104) dX7_decoy_48 rfl (by decide) (fun h48 => ?_) (fun h48 => ?_)
    · refine zi_ldc (n := 106) dX7_decoy_104 rfl zl_X7_87 ?_
      exact zi_iret dX7_decoy_106 rfl (by rw [← hr]; rfl) (by rw [← hr]; rfl)
    · exact absurd (by decide) h48
  | succ k ih =>
    intro i f hi hr
    refine zi_iload4 (n := 46) dX7_decoy_44 rfl ?_
    refine zi_bipush (n := 48) (nI 10) dX7_decoy_46 rfl (by decide) ?_
    refine zi_icge (n := 51) (tgt := 104) dX7_decoy_48 rfl (by decide) (fun h48 => ?_) (fun h48 => ?_)
    · exact absurd h48 (Int32.not_le.mpr (nI_lt (by omega) (by omega)))
    · refine zi_aload0 (n := 52) dX7_decoy_51 rfl ?_
      refine zi_V0v (mj := zm_X7_layThen) (n := 55) dX7_decoy_52 rfl zl_X7_193 zy_X7_layThen (zrc_X7 _ _) (by decide) (Nat.le_of_ble_eq_true rfl) c_lay ?_
      refine zi_aload0 (n := 56) dX7_decoy_55 rfl ?_
      refine zg_X7_7 (n := 59) dX7_decoy_56 rfl zl_X7_25 ?_
      refine zi_iload1 (n := 60) dX7_decoy_59 rfl ?_
      refine zi_iconst (n := 61) (nI 3) dX7_decoy_60 rfl (by decide) ?_
      refine zi_iload4 (n := 63) dX7_decoy_61 rfl ?_
      refine zi_S4v (mj := zm_X7_be) (n := 66) dX7_decoy_63 rfl zl_X7_154 zy_X7_be (by decide) (Nat.le_of_ble_eq_true rfl) (c_X7_be (Or.inr rfl) (by omega) (by decide)) ?_
      refine zi_aload0 (n := 67) dX7_decoy_66 rfl ?_
      refine zg_X7_7 (n := 70) dX7_decoy_67 rfl zl_X7_25 ?_
      refine zi_iload3 (n := 71) dX7_decoy_70 rfl ?_
      refine zi_S2v (mj := zm_X7_noonsOf) (n := 74) dX7_decoy_71 rfl zl_X7_196 zy_X7_noonsOf (by decide) (Nat.le_of_ble_eq_true rfl) (c_X7_noonsOf (Or.inr rfl) (zspT_kd (m := m) hk (by decide) (by decide)) (by omega)) ?_
      change zG _ _ _ _ _ _ _ _ (Q, va_up Z 171 (zspT (Z 169) f n p m 3 (nI i)))
      refine zi_aload0 (n := 75) dX7_decoy_74 rfl ?_
      refine zg_X7_7 (n := 78) dX7_decoy_75 rfl zl_X7_25 ?_
      refine zi_iload2 (n := 79) dX7_decoy_78 rfl ?_
      refine zi_iconst (n := 80) (nI 3) dX7_decoy_79 rfl (by decide) ?_
      refine zi_S3s (mj := zm_X7_of) (n := 83) dX7_decoy_80 rfl zl_X7_146 zy_X7_of (by decide) (Nat.le_of_ble_eq_true rfl) (c_X7_of (Or.inr rfl) (by omega) (by decide)) ?_
      refine zi_aload0 (n := 84) dX7_decoy_83 rfl ?_
      refine zg_X7_5 (n := 87) dX7_decoy_84 rfl zl_X7_19 ?_
      refine zi_iload2 (n := 88) dX7_decoy_87 rfl ?_
      refine zi_iconst (n := 89) (nI 3) dX7_decoy_88 rfl (by decide) ?_
      refine zi_S3s (mj := zm_X7_of) (n := 92) dX7_decoy_89 rfl zl_X7_146 zy_X7_of (by decide) (Nat.le_of_ble_eq_true rfl) (c_of9t (by omega) (by decide) rfl) ?_
      refine zi_icne (n := 95) (tgt := 98) dX7_decoy_92 rfl (by decide) (fun h92 => ?_) (fun h92 => ?_)
      · rw [zdcM, if_neg h92] at hr
        refine zi_iinc4 (n := 101) (nI (i + 1)) dX7_decoy_98 rfl (by decide) rfl (zi1 _) ?_
        refine zi_goto (tgt := 44) dX7_decoy_101 (by decide) ?_
        exact ih (i + 1) _ (by omega) hr
      · rw [zdcM, if_pos h92] at hr
        refine zi_iload4 (n := 97) dX7_decoy_95 rfl ?_
        exact zi_iret dX7_decoy_97 rfl (by rw [← hr]) (by rw [← hr])
set_option maxHeartbeats 4000000 in
set_option maxRecDepth 100000 in
theorem m_decoy_ok (h0 : Z 165 0 = nI 0) (hk : zKd (Z 169) n) {p : Nat} (hp : p < n) {o : Nat} (ho : o < n) (hpo : ¬ p = o) {m : Nat} (hm1 : 1 ≤ m) (hm2 : m ≤ 40) : zCT E 5 zm_X7_decoy [.ref (zad E 165), .int (nI p), .int (nI o), .int (nI m)] (Q, Z) (some (.int (zdcM (Z 169) n p o m 9 1 (Z 171)).1)) (Q, va_up Z 171 (zdcM (Z 169) n p o m 9 1 (Z 171)).2) := by
  refine zCT.of (by decide +kernel) (Nat.le_of_ble_eq_true rfl) ?_
  have hn := hk.1
  have h6 := hk.2.1
  have a1 := zisP hn h6 hp
  have a2 := zrg hm1 hm2 (by decide)
  have a4 := zisP hn h6 ho
  have a5 : ¬ nI p = nI o := fun z => hpo ((nI_eq (by omega) (by omega)).mp z)
  refine zi_aload0 (n := 1) dX7_decoy_0 rfl ?_
  refine zi_iconst (n := 2) (nI 0) dX7_decoy_1 rfl (by decide) ?_
  refine zp_X7_0 (n := 5) dX7_decoy_2 rfl zl_X7_44 (zt0 h0) ?_
  refine zi_aload0 (n := 6) dX7_decoy_5 rfl ?_
  refine zi_iload1 (n := 7) dX7_decoy_6 rfl ?_
  refine zi_V1s (mj := zm_X7_isPaper) (n := 10) dX7_decoy_7 rfl zl_X7_180 zy_X7_isPaper (zrc_X7 _ _) (by decide) (Nat.le_of_ble_eq_true rfl) (c_X7_isPaper) ?_
  refine zi_ifeq_b (n := 13) (tgt := 38) dX7_decoy_10 rfl (by decide) (fun h10 => ?_) (fun h10 => ?_)
  · first | exact absurd a1 h10 | exact absurd h10 a1
  · refine zi_aload0 (n := 14) dX7_decoy_13 rfl ?_
    refine zi_iload2 (n := 15) dX7_decoy_14 rfl ?_
    refine zi_V1s (mj := zm_X7_isPaper) (n := 18) dX7_decoy_15 rfl zl_X7_180 zy_X7_isPaper (zrc_X7 _ _) (by decide) (Nat.le_of_ble_eq_true rfl) (c_X7_isPaper) ?_
    refine zi_ifeq_b (n := 21) (tgt := 38) dX7_decoy_18 rfl (by decide) (fun h18 => ?_) (fun h18 => ?_)
    · first | exact absurd a4 h18 | exact absurd h18 a4
    · refine zi_iload1 (n := 22) dX7_decoy_21 rfl ?_
      refine zi_iload2 (n := 23) dX7_decoy_22 rfl ?_
      refine zi_iceq (n := 26) (tgt := 38) dX7_decoy_23 rfl (by decide) (fun h23 => ?_) (fun h23 => ?_)
      · first | exact absurd a5 h23 | exact absurd h23 a5
      · refine zi_iload3 (n := 27) dX7_decoy_26 rfl ?_
        refine zi_i2l (n := 28) dX7_decoy_27 rfl ?_
        refine zi_lconst (n := 29) ((nI 1).toInt64) dX7_decoy_28 rfl (by decide) ?_
        refine zi_ldc2 (n := 32) dX7_decoy_29 rfl zl_X7_203 ?_
        rw [show (40 : Int64) = (nI 40).toInt64 by decide]
        refine zi_S3s (mj := zm_X7_in) (n := 35) dX7_decoy_32 rfl zl_X7_54 zy_X7_in (by decide) (Nat.le_of_ble_eq_true rfl) (c_X7_in) ?_
        refine zi_ifne_b (n := 38) (tgt := 41) dX7_decoy_35 rfl (by decide) (fun h35 => ?_) (fun h35 => ?_)
        · refine zi_iconst (n := 42) (nI 1) dX7_decoy_41 rfl (by decide) ?_
          refine zi_istore4 (n := 44) dX7_decoy_42 rfl (by decide) rfl ?_
          refine zG_eqM (M2 := (Q, va_up Z 171 (Z 171))) (by rw [zup_same]) ?_
          exact l_X7_decoy hk hp ho (by omega) 9 1 (Z 171) (by omega) rfl
        · first | exact absurd a2 h35 | exact absurd h35 a2
end ZM5
