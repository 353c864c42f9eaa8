section ZR3
variable {E : zE} {Q : Nat → Nat → Nat → Int32} {Z : zS} {M : zMem}
theorem zrowE (E : zE) {i : Nat} (h : i < 8) : ∀ Z : zS, zce2 E Z (148 + i) = .inl (E.2.2.2.1 0, 40, .inl (Z (148 + i))) := fun Z => zce2_row E Z h
set_option maxHeartbeats 4000000 in
set_option maxRecDepth 100000 in
theorem c_X3_isRow {x : Int32} : zCT E 1 zm_X3_isRow [.ref (zad E 146), .int x] M (some (.int (zb (nI 0 ≤ x ∧ x ≤ nI 7)))) M := by
  refine zCT.of (by decide +kernel) (Nat.le_of_ble_eq_true rfl) ?_
  refine zi_iload1 (n := 1) dX3_isRow_0 rfl ?_
  refine zi_iconst (n := 2) (nI 0) dX3_isRow_1 rfl (by decide) ?_
  refine zi_bipush (n := 4) (nI 7) dX3_isRow_2 rfl (by decide) ?_
  refine zi_SN3s (mj := zm_X6_within) (n := 7) dX3_isRow_4 rfl zl_X3_29 zy_X6_within (by decide) (Nat.le_of_ble_eq_true rfl) (c_X6_within) ?_
  exact zi_zret dX3_isRow_7 rfl rfl (by rfl) (by rfl)
set_option maxHeartbeats 4000000 in
set_option maxRecDepth 100000 in
theorem c_X3_isMissing {r : Nat} (hr : r < 8) : zCT E 0 zm_X3_isMissing [.ref (zad E 146), .int (nI r)] M (some (.int (zb (M.2 157 r = -1)))) M := by
  refine zCT.of (by decide +kernel) (Nat.le_of_ble_eq_true rfl) ?_
  refine zi_aload0 (n := 1) dX3_isMissing_0 rfl ?_
  refine zg_X3_2 (n := 4) dX3_isMissing_1 rfl zl_X3_20 ?_
  refine zi_iload1 (n := 5) dX3_isMissing_4 rfl ?_
  refine zi_oald (N := 8) (n := 6) dX3_isMissing_5 rfl (by decide) (fun _ => rfl) (by decide) rfl (by omega) rfl ?_
  refine zi_iconst (n := 7) (-1) dX3_isMissing_6 rfl (by decide) ?_
  refine zi_icne (n := 10) (tgt := 14) dX3_isMissing_7 rfl (by decide) (fun h7 => ?_) (fun h7 => ?_)
  · refine zi_iconst (n := 15) (nI 0) dX3_isMissing_14 rfl (by decide) ?_
    exact zi_zretF dX3_isMissing_15 rfl (by simp [h7]) rfl (by rfl)
  · refine zi_iconst (n := 11) (nI 1) dX3_isMissing_10 rfl (by decide) ?_
    refine zi_goto (tgt := 15) dX3_isMissing_11 (by decide) ?_
    exact zi_zretT dX3_isMissing_15 rfl (by simp [h7]) rfl (by rfl)
set_option maxHeartbeats 4000000 in
set_option maxRecDepth 100000 in
theorem c_X3_laneOf {r : Nat} (hr : r < 8) : zCT E 0 zm_X3_laneOf [.ref (zad E 146), .int (nI r)] M (some (.int (M.2 156 r))) M := by
  refine zCT.of (by decide +kernel) (Nat.le_of_ble_eq_true rfl) ?_
  refine zi_aload0 (n := 1) dX3_laneOf_0 rfl ?_
  refine zg_X3_1 (n := 4) dX3_laneOf_1 rfl zl_X3_16 ?_
  refine zi_iload1 (n := 5) dX3_laneOf_4 rfl ?_
  refine zi_oald (N := 8) (n := 6) dX3_laneOf_5 rfl (by decide) (fun _ => rfl) (by decide) rfl (by omega) rfl ?_
  exact zi_iret dX3_laneOf_6 rfl (by rfl) (by rfl)
set_option maxHeartbeats 4000000 in
set_option maxRecDepth 100000 in
theorem c_X3_hasItems {r : Nat} (hr : r < 8) {x y : Int32} : zCT E 0 zm_X3_hasItems [.ref (zad E 146), .int (nI r), .int x, .int y] M (some (.int (zb (¬ x < 0 ∧ ¬ y < 0 ∧ ¬ (M.2 157 r).toInt64 < x.toInt64 + y.toInt64)))) M := by
  refine zCT.of (by decide +kernel) (Nat.le_of_ble_eq_true rfl) ?_
  refine zi_iload2 (n := 1) dX3_hasItems_0 rfl ?_
  refine zi_iflt (n := 4) (tgt := 28) dX3_hasItems_1 rfl (by decide) (fun h1 => ?_) (fun h1 => ?_)
  · refine zi_iconst (n := 29) (nI 0) dX3_hasItems_28 rfl (by decide) ?_
    exact zi_zretF dX3_hasItems_29 rfl (by simp [h1]) rfl (by rfl)
  · refine zi_iload3 (n := 5) dX3_hasItems_4 rfl ?_
    refine zi_iflt (n := 8) (tgt := 28) dX3_hasItems_5 rfl (by decide) (fun h5 => ?_) (fun h5 => ?_)
    · refine zi_iconst (n := 29) (nI 0) dX3_hasItems_28 rfl (by decide) ?_
      exact zi_zretF dX3_hasItems_29 rfl (by simp [h1, h5]) rfl (by rfl)
    · refine zi_iload2 (n := 9) dX3_hasItems_8 rfl ?_
      refine zi_i2l (n := 10) dX3_hasItems_9 rfl ?_
      refine zi_iload3 (n := 11) dX3_hasItems_10 rfl ?_
      refine zi_i2l (n := 12) dX3_hasItems_11 rfl ?_
      refine zi_ladd (n := 13) dX3_hasItems_12 rfl ?_
      refine zi_aload0 (n := 14) dX3_hasItems_13 rfl ?_
      refine zg_X3_2 (n := 17) dX3_hasItems_14 rfl zl_X3_20 ?_
      refine zi_iload1 (n := 18) dX3_hasItems_17 rfl ?_
      refine zi_oald (N := 8) (n := 19) dX3_hasItems_18 rfl (by decide) (fun _ => rfl) (by decide) rfl (by omega) rfl ?_
      refine zi_i2l (n := 20) dX3_hasItems_19 rfl ?_
      refine zi_lcmp (n := 21) dX3_hasItems_20 rfl ?_
      refine zi_ifgt_l (n := 24) (tgt := 28) dX3_hasItems_21 rfl (by decide) (fun h21 => ?_) (fun h21 => ?_)
      · refine zi_iconst (n := 29) (nI 0) dX3_hasItems_28 rfl (by decide) ?_
        exact zi_zretF dX3_hasItems_29 rfl (by simp [h1, h5, h21]) rfl (by rfl)
      · refine zi_iconst (n := 25) (nI 1) dX3_hasItems_24 rfl (by decide) ?_
        refine zi_goto (tgt := 29) dX3_hasItems_25 (by decide) ?_
        exact zi_zretT dX3_hasItems_29 rfl (by exact ⟨h1, h5, h21⟩) rfl (by rfl)
theorem zfill_step (f : Nat → Int32) (x : Int32) (i : Nat) : upd (fun k => if k < i then x else f k) i x = fun k => if k < i + 1 then x else f k := by
  funext k
  unfold upd
  by_cases h1 : k = i
  · rw [if_pos h1, if_pos (by omega)]
  · rw [if_neg h1]
    dsimp only
    by_cases h2 : k < i
    · rw [if_pos h2, if_pos (by omega)]
    · rw [if_neg h2, if_neg (by omega)]
set_option maxHeartbeats 4000000 in
set_option maxRecDepth 100000 in
theorem l_J7_fill {a N : Nat} (ha : 145 ≤ a ∧ a < 177) (hN : N < 2 ^ 30) (he : ∀ Z : zS, zce2 E Z a = .inl (E.2.2.2.1 0, N, .inl (Z a))) {x : Int32} : ∀ k i, N - i < k → i ≤ N → zG E zm_J7_fill_53178 0 none (Q, va_up Z a (fun k => if k < N then x else Z a k)) 5 [some (.ref (zad E a)), some (.int x), some (.int (nI i)), some (.int (nI N))] [] (Q, va_up Z a (fun k => if k < i then x else Z a k)) := by
  intro k
  induction k with
  | zero => intro i h; omega
  | succ k ih =>
    intro i h1 h2
    refine zi_iload2 (n := 6) dJ7_fill_53178_5 rfl ?_
    refine zi_iload3 (n := 7) dJ7_fill_53178_6 rfl ?_
    refine zi_icge (n := 10) (tgt := 20) dJ7_fill_53178_7 rfl (by decide) (fun h7 => ?_) (fun h7 => ?_)
    · have e : i = N := by have := (nI_leI (by omega) (by omega)).mp h7; omega
      subst e
      exact zi_vret dJ7_fill_53178_20 rfl (by rfl) (by rfl)
    · have e : i < N := by have := mt (nI_leI (by omega) (by omega)).mpr h7; omega
      refine zi_aload0 (n := 11) dJ7_fill_53178_10 rfl ?_
      refine zi_iload2 (n := 12) dJ7_fill_53178_11 rfl ?_
      refine zi_iload1 (n := 13) dJ7_fill_53178_12 rfl ?_
      refine zi_oast (N := N) (n := 14) dJ7_fill_53178_13 rfl ha he (by omega) rfl e (by rw [zfq, zfill_step]) ?_
      refine zi_iinc2 (n := 17) (nI (i + 1)) dJ7_fill_53178_14 rfl (by decide) rfl (zi1 _) ?_
      refine zi_goto (tgt := 5) dJ7_fill_53178_17 (by decide) ?_
      exact ih (i + 1) (by omega) (by omega)
set_option maxHeartbeats 4000000 in
set_option maxRecDepth 100000 in
theorem c_J7_fill_53178 {a N : Nat} (ha : 145 ≤ a ∧ a < 177) (hN : N < 2 ^ 30) (he : ∀ Z : zS, zce2 E Z a = .inl (E.2.2.2.1 0, N, .inl (Z a))) {x : Int32} : zCT E 0 zm_J7_fill_53178 [.ref (zad E a), .int x] (Q, Z) none (Q, va_up Z a (fun k => if k < N then x else Z a k)) := by
  refine zCT.of (by decide +kernel) (Nat.le_of_ble_eq_true rfl) ?_
  refine zi_iconst (n := 1) (nI 0) dJ7_fill_53178_0 rfl (by decide) ?_
  refine zi_istore2 (n := 2) dJ7_fill_53178_1 rfl (by decide) rfl ?_
  refine zi_aload0 (n := 3) dJ7_fill_53178_2 rfl ?_
  refine zi_oalen (N := N) (n := 4) dJ7_fill_53178_3 rfl ha he ?_
  refine zi_istore3 (n := 5) dJ7_fill_53178_4 rfl (by decide) rfl ?_
  have f := l_J7_fill (E := E) (Q := Q) (Z := Z) ha hN he (x := x) (N + 1) 0 (by omega) (by omega)
  simp only [Nat.not_lt_zero, if_false] at f
  rw [show (fun k => Z a k) = Z a from rfl, zup_same] at f
  exact f
def zmkR (Z : zS) (r : Nat) (l n : Int32) : zS := zsu (zsu (va_up Z (148 + r) (fun k => if k < 40 then nI 0 else Z (148 + r) k)) 156 r l) 157 r n
set_option maxHeartbeats 4000000 in
set_option maxRecDepth 100000 in
theorem c_X3_make {r : Nat} (hr : r < 8) {l n : Int32} : zCT E 1 zm_X3_make [.ref (zad E 146), .int (nI r), .int l, .int n] (Q, Z) none (Q, zmkR Z r l n) := by
  refine zCT.of (by decide +kernel) (Nat.le_of_ble_eq_true rfl) ?_
  refine zi_aload0 (n := 1) dX3_make_0 rfl ?_
  refine zg_X3_0 (n := 4) dX3_make_1 rfl zl_X3_11 ?_
  refine zi_iload1 (n := 5) dX3_make_4 rfl ?_
  refine zi_aldr (n := 6) dX3_make_5 rfl rfl hr ?_
  refine zi_iconst (n := 7) (nI 0) dX3_make_6 rfl (by decide) ?_
  refine zi_S2v (mj := zm_J7_fill_53178) (n := 10) dX3_make_7 rfl zl_X3_23 zy_J7_fill_53178 (by decide) (Nat.le_of_ble_eq_true rfl) (c_J7_fill_53178 (a := 148 + r) (N := 40) (by omega) (by decide) (zrowE E hr)) ?_
  refine zi_aload0 (n := 11) dX3_make_10 rfl ?_
  refine zg_X3_1 (n := 14) dX3_make_11 rfl zl_X3_16 ?_
  refine zi_iload1 (n := 15) dX3_make_14 rfl ?_
  refine zi_iload2 (n := 16) dX3_make_15 rfl ?_
  refine zi_oast (N := 8) (n := 17) dX3_make_16 rfl (by decide) (fun _ => rfl) (by decide) rfl (by omega) rfl ?_
  refine zi_aload0 (n := 18) dX3_make_17 rfl ?_
  refine zg_X3_2 (n := 21) dX3_make_18 rfl zl_X3_20 ?_
  refine zi_iload1 (n := 22) dX3_make_21 rfl ?_
  refine zi_iload3 (n := 23) dX3_make_22 rfl ?_
  refine zi_oast (N := 8) (n := 24) dX3_make_23 rfl (by decide) (fun _ => rfl) (by decide) rfl (by omega) rfl ?_
  exact zi_vret dX3_make_24 rfl (by rfl) (by rfl)
def zputV (l v : Int32) : Int32 := if l = 0 then v.toInt8.toInt32 else if l = nI 1 then v.toInt16.toInt32 else v
set_option maxHeartbeats 4000000 in
set_option maxRecDepth 100000 in
theorem c_X3_put {r i : Nat} (hr : r < 8) (hi : i < 40) {v : Int32} : zCT E 0 zm_X3_put [.ref (zad E 146), .int (nI r), .int (nI i), .int v] (Q, Z) (some (.int (zputV (Z 156 r) v))) (Q, zsu Z (148 + r) i (zputV (Z 156 r) v)) := by
  refine zCT.of (by decide +kernel) (Nat.le_of_ble_eq_true rfl) ?_
  refine zi_iload3 (n := 1) dX3_put_0 rfl ?_
  refine zi_istore4 (n := 3) dX3_put_1 rfl (by decide) rfl ?_
  refine zi_aload0 (n := 4) dX3_put_3 rfl ?_
  refine zg_X3_1 (n := 7) dX3_put_4 rfl zl_X3_16 ?_
  refine zi_iload1 (n := 8) dX3_put_7 rfl ?_
  refine zi_oald (N := 8) (n := 9) dX3_put_8 rfl (by decide) (fun _ => rfl) (by decide) rfl (by omega) rfl ?_
  refine zi_ifne (n := 12) (tgt := 19) dX3_put_9 rfl (by decide) (fun h9 => ?_) (fun h9 => ?_)
  · refine zi_aload0 (n := 20) dX3_put_19 rfl ?_
    refine zg_X3_1 (n := 23) dX3_put_20 rfl zl_X3_16 ?_
    refine zi_iload1 (n := 24) dX3_put_23 rfl ?_
    refine zi_oald (N := 8) (n := 25) dX3_put_24 rfl (by decide) (fun _ => rfl) (by decide) rfl (by omega) rfl ?_
    refine zi_iconst (n := 26) (nI 1) dX3_put_25 rfl (by decide) ?_
    refine zi_icne (n := 29) (tgt := 33) dX3_put_26 rfl (by decide) (fun h26 => ?_) (fun h26 => ?_)
    · refine zi_aload0 (n := 34) dX3_put_33 rfl ?_
      refine zg_X3_0 (n := 37) dX3_put_34 rfl zl_X3_11 ?_
      refine zi_iload1 (n := 38) dX3_put_37 rfl ?_
      refine zi_aldr (n := 39) dX3_put_38 rfl rfl hr ?_
      refine zi_iload2 (n := 40) dX3_put_39 rfl ?_
      refine zi_iload4 (n := 42) dX3_put_40 rfl ?_
      refine zi_oast (N := 40) (n := 43) dX3_put_42 rfl (by omega) (zrowE E hr) (by decide) rfl hi rfl ?_
      refine zi_iload4 (n := 45) dX3_put_43 rfl ?_
      exact zi_iret dX3_put_45 rfl (by dsimp only at *; simp [zputV, h9, h26, show ¬ nI 1 = 0 by decide]) (by dsimp only at *; simp [zputV, h9, h26, show ¬ nI 1 = 0 by decide])
    · refine zi_iload3 (n := 30) dX3_put_29 rfl ?_
      refine zi_i2s (n := 31) dX3_put_30 rfl ?_
      refine zi_istore4 (n := 33) dX3_put_31 rfl (by decide) rfl ?_
      refine zi_aload0 (n := 34) dX3_put_33 rfl ?_
      refine zg_X3_0 (n := 37) dX3_put_34 rfl zl_X3_11 ?_
      refine zi_iload1 (n := 38) dX3_put_37 rfl ?_
      refine zi_aldr (n := 39) dX3_put_38 rfl rfl hr ?_
      refine zi_iload2 (n := 40) dX3_put_39 rfl ?_
      refine zi_iload4 (n := 42) dX3_put_40 rfl ?_
      refine zi_oast (N := 40) (n := 43) dX3_put_42 rfl (by omega) (zrowE E hr) (by decide) rfl hi rfl ?_
      refine zi_iload4 (n := 45) dX3_put_43 rfl ?_
      exact zi_iret dX3_put_45 rfl (by dsimp only at *; simp [zputV, h9, h26, show ¬ nI 1 = 0 by decide]) (by dsimp only at *; simp [zputV, h9, h26, show ¬ nI 1 = 0 by decide])
  · refine zi_iload3 (n := 13) dX3_put_12 rfl ?_
    refine zi_i2b (n := 14) dX3_put_13 rfl ?_
    refine zi_istore4 (n := 16) dX3_put_14 rfl (by decide) rfl ?_
    refine zi_goto (tgt := 33) dX3_put_16 (by decide) ?_
    refine zi_aload0 (n := 34) dX3_put_33 rfl ?_
    refine zg_X3_0 (n := 37) dX3_put_34 rfl zl_X3_11 ?_
    refine zi_iload1 (n := 38) dX3_put_37 rfl ?_
    refine zi_aldr (n := 39) dX3_put_38 rfl rfl hr ?_
    refine zi_iload2 (n := 40) dX3_put_39 rfl ?_
    refine zi_iload4 (n := 42) dX3_put_40 rfl ?_
    refine zi_oast (N := 40) (n := 43) dX3_put_42 rfl (by omega) (zrowE E hr) (by decide) rfl hi rfl ?_
    refine zi_iload4 (n := 45) dX3_put_43 rfl ?_
    exact zi_iret dX3_put_45 rfl (by dsimp only at *; simp [zputV, h9, show ¬ nI 1 = 0 by decide]) (by dsimp only at *; simp [zputV, h9, show ¬ nI 1 = 0 by decide])
set_option maxHeartbeats 4000000 in
set_option maxRecDepth 100000 in
theorem c_X3_itemAt {r i : Nat} (hr : r < 8) (hi : i < 40) : zCT E 0 zm_X3_itemAt [.ref (zad E 146), .int (nI r), .int (nI i)] M (some (.int (M.2 (148 + r) i))) M := by
  refine zCT.of (by decide +kernel) (Nat.le_of_ble_eq_true rfl) ?_
  refine zi_aload0 (n := 1) dX3_itemAt_0 rfl ?_
  refine zg_X3_0 (n := 4) dX3_itemAt_1 rfl zl_X3_11 ?_
  refine zi_iload1 (n := 5) dX3_itemAt_4 rfl ?_
  refine zi_aldr (n := 6) dX3_itemAt_5 rfl rfl hr ?_
  refine zi_iload2 (n := 7) dX3_itemAt_6 rfl ?_
  refine zi_oald (N := 40) (n := 8) dX3_itemAt_7 rfl (by omega) (zrowE E hr) (by decide) rfl hi rfl ?_
  exact zi_iret dX3_itemAt_8 rfl (by rfl) (by rfl)
set_option maxHeartbeats 4000000 in
set_option maxRecDepth 100000 in
theorem c_X3_carry {a b i k n : Nat} (ha : a < 8) (hb : b < 8) (hi : i + n ≤ 40) (hk : k + n ≤ 40) : zCT E 2 zm_X3_carry [.ref (zad E 146), .int (nI a), .int (nI i), .int (nI b), .int (nI k), .int (nI n)] (Q, Z) none (Q, va_up Z (148 + b) (va_cpy (Z (148 + a)) (Z (148 + b)) i k n)) := by
  refine zCT.of (by decide +kernel) (Nat.le_of_ble_eq_true rfl) ?_
  refine zi_aload0 (n := 1) dX3_carry_0 rfl ?_
  refine zg_X3_0 (n := 4) dX3_carry_1 rfl zl_X3_11 ?_
  refine zi_iload1 (n := 5) dX3_carry_4 rfl ?_
  refine zi_aldr (n := 6) dX3_carry_5 rfl rfl ha ?_
  refine zi_iload2 (n := 7) dX3_carry_6 rfl ?_
  refine zi_aload0 (n := 8) dX3_carry_7 rfl ?_
  refine zg_X3_0 (n := 11) dX3_carry_8 rfl zl_X3_11 ?_
  refine zi_iload3 (n := 12) dX3_carry_11 rfl ?_
  refine zi_aldr (n := 13) dX3_carry_12 rfl rfl hb ?_
  refine zi_iload4 (n := 15) dX3_carry_13 rfl ?_
  refine zi_iload5 (n := 17) dX3_carry_15 rfl ?_
  refine zi_rcopy (n := 20) dX3_carry_17 rfl zl_X3_33 ha hb rfl rfl rfl hi hk (by decide) (Nat.le_of_ble_eq_true rfl) rfl ?_
  exact zi_vret dX3_carry_20 rfl (by rfl) (by rfl)
set_option maxHeartbeats 4000000 in
set_option maxRecDepth 100000 in
theorem c_X3_remove {r : Nat} (hr : r < 8) : zCT E 0 zm_X3_remove [.ref (zad E 146), .int (nI r)] (Q, Z) (some (.int (Z 157 r))) (Q, zsu Z 157 r (-1)) := by
  refine zCT.of (by decide +kernel) (Nat.le_of_ble_eq_true rfl) ?_
  refine zi_aload0 (n := 1) dX3_remove_0 rfl ?_
  refine zg_X3_2 (n := 4) dX3_remove_1 rfl zl_X3_20 ?_
  refine zi_iload1 (n := 5) dX3_remove_4 rfl ?_
  refine zi_oald (N := 8) (n := 6) dX3_remove_5 rfl (by decide) (fun _ => rfl) (by decide) rfl (by omega) rfl ?_
  refine zi_istore2 (n := 7) dX3_remove_6 rfl (by decide) rfl ?_
  refine zi_aload0 (n := 8) dX3_remove_7 rfl ?_
  refine zg_X3_2 (n := 11) dX3_remove_8 rfl zl_X3_20 ?_
  refine zi_iload1 (n := 12) dX3_remove_11 rfl ?_
  refine zi_iconst (n := 13) (-1) dX3_remove_12 rfl (by decide) ?_
  refine zi_oast (N := 8) (n := 14) dX3_remove_13 rfl (by decide) (fun _ => rfl) (by decide) rfl (by omega) rfl ?_
  refine zi_iload2 (n := 15) dX3_remove_14 rfl ?_
  exact zi_iret dX3_remove_15 rfl (by rfl) (by rfl)
def zcnt (c : Nat → Bool) : Nat → Int32
  | 0 => nI 0
  | n + 1 => if c n then zcnt c n + Int32.ofInt 1 else zcnt c n
set_option maxHeartbeats 4000000 in
set_option maxRecDepth 100000 in
theorem l_X3_present : ∀ k i, 8 - i < k → i ≤ 8 → zG E zm_X3_present 1 (some (.int (zcnt (fun r => !decide (M.2 157 r = -1)) 8))) M 4 [some (.ref (zad E 146)), some (.int (zcnt (fun r => !decide (M.2 157 r = -1)) i)), some (.int (nI i))] [] M := by
  intro k
  induction k with
  | zero => intro i h; omega
  | succ k ih =>
    intro i h1 h2
    refine zi_iload2 (n := 5) dX3_present_4 rfl ?_
    refine zi_bipush (n := 7) (nI 8) dX3_present_5 rfl (by decide) ?_
    refine zi_icge (n := 10) (tgt := 27) dX3_present_7 rfl (by decide) (fun h7 => ?_) (fun h7 => ?_)
    · have e : i = 8 := by have := (nI_leI (by omega) (by omega)).mp h7; omega
      subst e
      refine zi_iload1 (n := 28) dX3_present_27 rfl ?_
      exact zi_iret dX3_present_28 rfl (by rfl) (by rfl)
    · have e : i < 8 := by have := mt (nI_leI (by omega) (by omega)).mpr h7; omega
      refine zi_aload0 (n := 11) dX3_present_10 rfl ?_
      refine zi_iload2 (n := 12) dX3_present_11 rfl ?_
      refine zi_V1s (mj := zm_X3_isMissing) (n := 15) dX3_present_12 rfl zl_X3_39 zy_X3_isMissing (zrc_X3 _ _) (by decide) (Nat.le_of_ble_eq_true rfl) (c_X3_isMissing (by omega)) ?_
      refine zi_ifne_b (n := 18) (tgt := 21) dX3_present_15 rfl (by decide) (fun h15 => ?_) (fun h15 => ?_)
      · refine zi_iinc2 (n := 24) (nI (i + 1)) dX3_present_21 rfl (by decide) rfl (zi1 _) ?_
        refine zi_goto (tgt := 4) dX3_present_24 (by decide) ?_
        have f := ih (i + 1) (by omega) (by omega)
        simp only [zcnt, h15, decide_true, decide_false, Bool.not_true, Bool.not_false, if_true, if_false, Bool.false_eq_true] at f
        exact f
      · refine zi_iinc1 (n := 21) _ dX3_present_18 rfl (by decide) rfl rfl ?_
        refine zi_iinc2 (n := 24) (nI (i + 1)) dX3_present_21 rfl (by decide) rfl (zi1 _) ?_
        refine zi_goto (tgt := 4) dX3_present_24 (by decide) ?_
        have f := ih (i + 1) (by omega) (by omega)
        simp only [zcnt, h15, decide_true, decide_false, Bool.not_true, Bool.not_false, if_true, if_false, Bool.false_eq_true] at f
        exact f
set_option maxHeartbeats 4000000 in
set_option maxRecDepth 100000 in
theorem c_X3_present : zCT E 1 zm_X3_present [.ref (zad E 146)] M (some (.int (zcnt (fun r => !decide (M.2 157 r = -1)) 8))) M := by
  refine zCT.of (by decide +kernel) (Nat.le_of_ble_eq_true rfl) ?_
  refine zi_iconst (n := 1) (nI 0) dX3_present_0 rfl (by decide) ?_
  refine zi_istore1 (n := 2) dX3_present_1 rfl (by decide) rfl ?_
  refine zi_iconst (n := 3) (nI 0) dX3_present_2 rfl (by decide) ?_
  refine zi_istore2 (n := 4) dX3_present_3 rfl (by decide) rfl ?_
  exact l_X3_present 9 0 (by omega) (by omega)
end ZR3
