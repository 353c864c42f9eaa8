section ZMq
variable {J : zJ} {h0 n : Nat} {ce : Nat → va_E} {H H1 : Heap} {x : va_E} {locs : List Loc} {H0 : Heap}
variable {p : Program} {e : Env} {R : Room} {s : State} {m : MethodId} {args : Array Value} {below : List Frame} {meth : Method} {c : Code} {cells slots : Nat} {Q : State → Prop} {cc : ByteArray} {own : String} {nL pc : Nat} {ls : Array Slot} {rest : List Value}
theorem zyi_X0 : zYi zm_X0_init 0 := ⟨⟨by decide +kernel, by decide +kernel, by decide +kernel⟩, lw_goodAt 202 (by decide +kernel) (by decide +kernel), lw_goodAt 50 (by decide +kernel) (by decide +kernel), by decide, rfl, lw_goodAt 201 (by decide +kernel) (by decide +kernel), rfl⟩
theorem zyi_X1 : zYi zm_X1_init 1 := ⟨⟨by decide +kernel, by decide +kernel, by decide +kernel⟩, lw_goodAt 237 (by decide +kernel) (by decide +kernel), lw_goodAt 52 (by decide +kernel) (by decide +kernel), by decide, rfl, lw_goodAt 236 (by decide +kernel) (by decide +kernel), rfl⟩
theorem zyi_X2 : zYi zm_X2_init 1 := ⟨⟨by decide +kernel, by decide +kernel, by decide +kernel⟩, lw_goodAt 222 (by decide +kernel) (by decide +kernel), lw_goodAt 51 (by decide +kernel) (by decide +kernel), by decide, rfl, lw_goodAt 221 (by decide +kernel) (by decide +kernel), rfl⟩
theorem zyi_X3 : zYi zm_X3_init 0 := ⟨⟨by decide +kernel, by decide +kernel, by decide +kernel⟩, lw_goodAt 69 (by decide +kernel) (by decide +kernel), lw_goodAt 46 (by decide +kernel) (by decide +kernel), by decide, rfl, lw_goodAt 68 (by decide +kernel) (by decide +kernel), rfl⟩
theorem zyi_X4 : zYi zm_X4_init 0 := ⟨⟨by decide +kernel, by decide +kernel, by decide +kernel⟩, lw_goodAt 97 (by decide +kernel) (by decide +kernel), lw_goodAt 49 (by decide +kernel) (by decide +kernel), by decide, rfl, lw_goodAt 96 (by decide +kernel) (by decide +kernel), rfl⟩
theorem zyi_X5 : zYi zm_X5_init 0 := ⟨⟨by decide +kernel, by decide +kernel, by decide +kernel⟩, lw_goodAt 91 (by decide +kernel) (by decide +kernel), lw_goodAt 48 (by decide +kernel) (by decide +kernel), by decide, rfl, lw_goodAt 90 (by decide +kernel) (by decide +kernel), rfl⟩
theorem zyi_X6 : zYi zm_X6_init 0 := ⟨⟨by decide +kernel, by decide +kernel, by decide +kernel⟩, lw_goodAt 61 (by decide +kernel) (by decide +kernel), lw_goodAt 45 (by decide +kernel) (by decide +kernel), by decide, rfl, lw_goodAt 60 (by decide +kernel) (by decide +kernel), rfl⟩
theorem zyi_X7 : zYi zm_X7_init 0 := ⟨⟨by decide +kernel, by decide +kernel, by decide +kernel⟩, lw_goodAt 782 (by decide +kernel) (by decide +kernel), lw_goodAt 53 (by decide +kernel) (by decide +kernel), by decide, rfl, lw_goodAt 781 (by decide +kernel) (by decide +kernel), rfl⟩
def zfs5 : List Value := [.null, .int 0, .null, .int 0, .int 0, .int 0, .int 0]
def zfs0 : List Value := [.null, .int 0, .int 0]
def zfs3 : List Value := [.null, .null, .null]
def zfs2 : List Value := [.null, .null]
def zfs1 : List Value := [.null, .null, .int 0]
def zfs6 : List Value := [.null, .null, .null, .null, .null, .null, .null, .null, .int 0, .int 0]
def zfs7 : List Value := [.int 0, .int 0, .null, .null, .null, .null, .null, .null, .null, .int 0, .null, .int 0, .int 0, .int 0, .int 0, .int 0, .int 0, .int 0, .int 0, .null, .null, .null, .int 0]
/-- a tape's cells -/
def zcs5 (J : zJ) (h i : Nat) : va_E := if i = 0 then .inr (5, [.ref (h + 1), .int 0, .ref (h + 2), .int 0, .int 0, .int 0, .int 0]) else if i = 1 then .inl (J.2.2 0, 90, .inl (fun _ => 0)) else zcs4 J (h + 2) (i - 2)
set_option maxHeartbeats 4000000 in
set_option maxRecDepth 100000 in
theorem i_X5 : zIC J 2 zm_X5_init [] 5 zfs5 6 (zcs5 J) 127 := by
  refine zIC.of (by decide +kernel) rfl rfl (fun _ => Nat.le_of_ble_eq_true rfl) ?_
  intro h0 p e s m args below meth c ls X hr hlk hnm A B hl
  have hls := hl.1
  refine lv_aload_n X.1 X.2.1 dX5_init_0 rfl (hl.2.2 0 _ rfl) ?_
  refine zw_obj X (lw_goodAt 92 (by decide +kernel) (by decide +kernel)) hls dX5_init_1 (Nat.le_of_ble_eq_true rfl) (Nat.le_of_ble_eq_true rfl) (Nat.le_of_ble_eq_true rfl) ?_
  refine lv_aload_n X.1 X.2.1 dX5_init_4 rfl (hl.2.2 0 _ rfl) ?_
  refine lv_bipush (v := nI 90) X.1 X.2.1 dX5_init_5 (by decide) ?_
  refine zw_newi (N := 90) X A B (by decide) (by decide) (by decide) (Nat.le_of_ble_eq_true rfl) (Nat.le_of_ble_eq_true rfl) dX5_init_7 (fun H1 A B => ?_)
  refine zw_putF (k := 0) (f := 0) X hnm A B (by omega) rfl rfl zin_X5 tyX5 tyX5_ok nmX5 (by decide) rfl rfl zl_X5_9 rfl (tyX5_ok 0 (by decide)) rfl rfl (Nat.le_of_ble_eq_true rfl) dX5_init_9 (fun H2 locs2 A B => ?_)
  refine lv_aload_n X.1 X.2.1 dX5_init_12 rfl (hl.2.2 0 _ rfl) ?_
  refine zw_new (fs := zfs4) X A B zin_X4 tyX4 tyX4_ok (lw_goodAt 93 (by decide +kernel) (by decide +kernel)) (lw_goodAt 94 (by decide +kernel) (by decide +kernel)) (lw_goodAt 49 (by decide +kernel) (by decide +kernel)) (ci := 4) rfl (by decide) (Nat.le_of_ble_eq_true rfl) (Nat.le_of_ble_eq_true rfl) dX5_init_13 (fun H3 A B => ?_)
  refine lv_dup X.1 X.2.1 dX5_init_16 rfl ?_
  refine zw_initN (host := "NameNoon") (n := 2) (av := []) X A B rfl dX5_init_17 (List.mem_of_getElem? (i := 95) (by decide +kernel)) zyi_X4 (Nat.le_of_ble_eq_true rfl) (Nat.le_of_ble_eq_true rfl) (Nat.le_of_ble_eq_true rfl) i_X4 hls (Nat.le_of_ble_eq_true rfl) (Nat.le_of_ble_eq_true rfl) (fun H4 locs4 A B => ?_)
  refine zw_putF (k := 0) (f := 2) X hnm A B (by omega) rfl rfl zin_X5 tyX5 tyX5_ok nmX5 (by decide) rfl rfl zl_X5_18 rfl (tyX5_ok 2 (by decide)) rfl rfl (Nat.le_of_ble_eq_true rfl) dX5_init_20 (fun H5 locs5 A B => ?_)
  refine zw_ret X hr hlk A (fun i hi => ?_) B dX5_init_23
  rcases (show i = 0 ∨ i = 1 ∨ i = 2 ∨ i = 3 ∨ i = 4 ∨ i = 5 ∨ i = 6 by omega) with rfl | rfl | rfl | rfl | rfl | rfl | rfl <;> rfl
/-- what foresees: its cells -/
def zcs2 (J : zJ) (x h i : Nat) : va_E := if i = 0 then .inr (2, [.ref x, .ref (h + 1)]) else zcs4 J (h + 1) (i - 1)
set_option maxHeartbeats 4000000 in
set_option maxRecDepth 100000 in
theorem i_X2 {x : Nat} : zIC J 2 zm_X2_init [.ref x] 2 zfs2 5 (zcs2 J x) 37 := by
  refine zIC.of (by decide +kernel) rfl rfl (fun _ => Nat.le_of_ble_eq_true rfl) ?_
  intro h0 p e s m args below meth c ls X hr hlk hnm A B hl
  have hls := hl.1
  refine lv_aload_n X.1 X.2.1 dX2_init_0 rfl (hl.2.2 0 _ rfl) ?_
  refine zw_obj X (lw_goodAt 223 (by decide +kernel) (by decide +kernel)) hls dX2_init_1 (Nat.le_of_ble_eq_true rfl) (Nat.le_of_ble_eq_true rfl) (Nat.le_of_ble_eq_true rfl) ?_
  refine lv_aload_n X.1 X.2.1 dX2_init_4 rfl (hl.2.2 0 _ rfl) ?_
  refine zw_new (fs := zfs4) X A B zin_X4 tyX4 tyX4_ok (lw_goodAt 224 (by decide +kernel) (by decide +kernel)) (lw_goodAt 94 (by decide +kernel) (by decide +kernel)) (lw_goodAt 49 (by decide +kernel) (by decide +kernel)) (ci := 4) rfl (by decide) (Nat.le_of_ble_eq_true rfl) (Nat.le_of_ble_eq_true rfl) dX2_init_5 (fun H1 A B => ?_)
  refine lv_dup X.1 X.2.1 dX2_init_8 rfl ?_
  refine zw_initN (host := "NameNoon") (n := 1) (av := []) X A B rfl dX2_init_9 (List.mem_of_getElem? (i := 225) (by decide +kernel)) zyi_X4 (Nat.le_of_ble_eq_true rfl) (Nat.le_of_ble_eq_true rfl) (Nat.le_of_ble_eq_true rfl) i_X4 hls (Nat.le_of_ble_eq_true rfl) (Nat.le_of_ble_eq_true rfl) (fun H2 locs2 A B => ?_)
  refine zw_putF (k := 0) (f := 1) X hnm A B (by omega) rfl rfl zin_X2 tyX2 tyX2_ok nmX2 (by decide) rfl rfl zl_X2_12 rfl (tyX2_ok 1 (by decide)) rfl rfl (Nat.le_of_ble_eq_true rfl) dX2_init_12 (fun H3 locs3 A B => ?_)
  refine lv_aload_n X.1 X.2.1 dX2_init_15 rfl (hl.2.2 0 _ rfl) ?_
  refine lv_aload_n X.1 X.2.1 dX2_init_16 rfl (hl.2.2 1 _ rfl) ?_
  refine zw_putF (k := 0) (f := 0) X hnm A B (by omega) rfl rfl zin_X2 tyX2 tyX2_ok nmX2 (by decide) rfl rfl zl_X2_18 rfl (tyX2_ok 0 (by decide)) rfl rfl (Nat.le_of_ble_eq_true rfl) dX2_init_17 (fun H4 locs4 A B => ?_)
  refine zw_ret X hr hlk A (fun i hi => ?_) B dX2_init_20
  rcases (show i = 0 ∨ i = 1 ∨ i = 2 ∨ i = 3 ∨ i = 4 ∨ i = 5 by omega) with rfl | rfl | rfl | rfl | rfl | rfl <;> rfl
/-- what asks: its cells -/
def zcs1 (J : zJ) (x h i : Nat) : va_E := if i = 0 then .inr (1, [.ref x, .ref (h + 1), .int 0]) else .inl (J.2.2 0, 16, .inl (fun _ => 0))
set_option maxHeartbeats 4000000 in
set_option maxRecDepth 100000 in
theorem i_X1 {x : Nat} : zIC J 1 zm_X1_init [.ref x] 1 zfs1 1 (zcs1 J x) 16 := by
  refine zIC.of (by decide +kernel) rfl rfl (fun _ => Nat.le_of_ble_eq_true rfl) ?_
  intro h0 p e s m args below meth c ls X hr hlk hnm A B hl
  have hls := hl.1
  refine lv_aload_n X.1 X.2.1 dX1_init_0 rfl (hl.2.2 0 _ rfl) ?_
  refine zw_obj X (lw_goodAt 238 (by decide +kernel) (by decide +kernel)) hls dX1_init_1 (Nat.le_of_ble_eq_true rfl) (Nat.le_of_ble_eq_true rfl) (Nat.le_of_ble_eq_true rfl) ?_
  refine lv_aload_n X.1 X.2.1 dX1_init_4 rfl (hl.2.2 0 _ rfl) ?_
  refine lv_bipush (v := nI 16) X.1 X.2.1 dX1_init_5 (by decide) ?_
  refine zw_newi (N := 16) X A B (by decide) (by decide) (by decide) (Nat.le_of_ble_eq_true rfl) (Nat.le_of_ble_eq_true rfl) dX1_init_7 (fun H1 A B => ?_)
  refine zw_putF (k := 0) (f := 1) X hnm A B (by omega) rfl rfl zin_X1 tyX1 tyX1_ok nmX1 (by decide) rfl rfl zl_X1_11 rfl (tyX1_ok 1 (by decide)) rfl rfl (Nat.le_of_ble_eq_true rfl) dX1_init_9 (fun H2 locs2 A B => ?_)
  refine lv_aload_n X.1 X.2.1 dX1_init_12 rfl (hl.2.2 0 _ rfl) ?_
  refine lv_aload_n X.1 X.2.1 dX1_init_13 rfl (hl.2.2 1 _ rfl) ?_
  refine zw_putF (k := 0) (f := 0) X hnm A B (by omega) rfl rfl zin_X1 tyX1 tyX1_ok nmX1 (by decide) rfl rfl zl_X1_15 rfl (tyX1_ok 0 (by decide)) rfl rfl (Nat.le_of_ble_eq_true rfl) dX1_init_14 (fun H3 locs3 A B => ?_)
  refine zw_ret X hr hlk A (fun i hi => ?_) B dX1_init_17
  rcases (show i = 0 ∨ i = 1 by omega) with rfl | rfl <;> rfl
def zLn : Nat → Int32 := upd (upd (upd (upd (upd (upd (upd (upd (fun _ => 0) 0 (-1)) 1 (-1)) 2 (-1)) 3 (-1)) 4 (-1)) 5 (-1)) 6 (-1)) 7 (-1)
/-- the reference's cells -/
def zcs7 (J : zJ) (h i : Nat) : va_E := match i with
  | 0 => .inr (7, [.int 0, .int 0, .ref (h + 1), .ref (h + 2), .ref (h + 3), .ref (h + 4), .ref (h + 5), .ref (h + 6), .ref (h + 7), .int 0, .ref (h + 8), .int 0, .int 0, .int 0, .int 0, .int 0, .int 0, .int 0, .int 0, .ref (h + 9), .ref (h + 10), .ref (h + 11), .int 0])
  | 1 => .inl (J.2.2 0, 8, .inl zLn)
  | 2 => .inl (J.2.2 0, 8, .inl (fun _ => 0))
  | 3 => .inl (J.2.2 0, 320, .inl (fun _ => 0))
  | 4 => .inl (J.2.2 0, 36, .inl (fun _ => 0))
  | 5 => .inl (J.2.2 0, 36, .inl (fun _ => 0))
  | 6 => .inl (J.2.2 0, 36, .inl (fun _ => 0))
  | 7 => .inl (J.2.2 0, 864, .inl (fun _ => 0))
  | 8 => .inl (J.2.2 0, 90, .inl (fun _ => 0))
  | 9 => .inl (J.2.2 3, 2, .inl (fun _ => 0))
  | 10 => .inl (J.2.2 0, 72, .inl (fun _ => 0))
  | _ => .inl (J.2.2 0, 16, .inl (fun _ => 0))
set_option maxHeartbeats 4000000 in
set_option maxRecDepth 100000 in
theorem i_X7 : zIC J 1 zm_X7_init [] 7 zfs7 11 (zcs7 J) 1488 := by
  refine zIC.of (by decide +kernel) rfl rfl (fun _ => Nat.le_of_ble_eq_true rfl) ?_
  intro h0 p e s m args below meth c ls X hr hlk hnm A B hl
  have hls := hl.1
  refine lv_aload_n X.1 X.2.1 dX7_init_0 rfl (hl.2.2 0 _ rfl) ?_
  refine zw_obj X (lw_goodAt 783 (by decide +kernel) (by decide +kernel)) hls dX7_init_1 (Nat.le_of_ble_eq_true rfl) (Nat.le_of_ble_eq_true rfl) (Nat.le_of_ble_eq_true rfl) ?_
  refine lv_aload_n X.1 X.2.1 dX7_init_4 rfl (hl.2.2 0 _ rfl) ?_
  refine lv_bipush (v := nI 8) X.1 X.2.1 dX7_init_5 (by decide) ?_
  refine zw_newi (N := 8) X A B (by decide) (by decide) (by decide) (Nat.le_of_ble_eq_true rfl) (Nat.le_of_ble_eq_true rfl) dX7_init_7 (fun H1 A B => ?_)
  refine lv_dup X.1 X.2.1 dX7_init_9 rfl ?_
  refine lv_iconst (v := nI 0) X.1 X.2.1 dX7_init_10 (by decide) ?_
  refine lv_iconst (v := -1) X.1 X.2.1 dX7_init_11 (by decide) ?_
  refine zw_iast (k := 1) (i := 0) X A B (by omega) rfl rfl (by decide) (by decide) dX7_init_12 (fun H2 locs2 A B => ?_)
  refine lv_dup X.1 X.2.1 dX7_init_13 rfl ?_
  refine lv_iconst (v := nI 1) X.1 X.2.1 dX7_init_14 (by decide) ?_
  refine lv_iconst (v := -1) X.1 X.2.1 dX7_init_15 (by decide) ?_
  refine zw_iast (k := 1) (i := 1) X A B (by omega) rfl rfl (by decide) (by decide) dX7_init_16 (fun H3 locs3 A B => ?_)
  refine lv_dup X.1 X.2.1 dX7_init_17 rfl ?_
  refine lv_iconst (v := nI 2) X.1 X.2.1 dX7_init_18 (by decide) ?_
  refine lv_iconst (v := -1) X.1 X.2.1 dX7_init_19 (by decide) ?_
  refine zw_iast (k := 1) (i := 2) X A B (by omega) rfl rfl (by decide) (by decide) dX7_init_20 (fun H4 locs4 A B => ?_)
  refine lv_dup X.1 X.2.1 dX7_init_21 rfl ?_
  refine lv_iconst (v := nI 3) X.1 X.2.1 dX7_init_22 (by decide) ?_
  refine lv_iconst (v := -1) X.1 X.2.1 dX7_init_23 (by decide) ?_
  refine zw_iast (k := 1) (i := 3) X A B (by omega) rfl rfl (by decide) (by decide) dX7_init_24 (fun H5 locs5 A B => ?_)
  refine lv_dup X.1 X.2.1 dX7_init_25 rfl ?_
  refine lv_iconst (v := nI 4) X.1 X.2.1 dX7_init_26 (by decide) ?_
  refine lv_iconst (v := -1) X.1 X.2.1 dX7_init_27 (by decide) ?_
  refine zw_iast (k := 1) (i := 4) X A B (by omega) rfl rfl (by decide) (by decide) dX7_init_28 (fun H6 locs6 A B => ?_)
  refine lv_dup X.1 X.2.1 dX7_init_29 rfl ?_
  refine lv_iconst (v := nI 5) X.1 X.2.1 dX7_init_30 (by decide) ?_
  refine lv_iconst (v := -1) X.1 X.2.1 dX7_init_31 (by decide) ?_
  refine zw_iast (k := 1) (i := 5) X A B (by omega) rfl rfl (by decide) (by decide) dX7_init_32 (fun H7 locs7 A B => ?_)
  refine lv_dup X.1 X.2.1 dX7_init_33 rfl ?_
  refine lv_bipush (v := nI 6) X.1 X.2.1 dX7_init_34 (by decide) ?_
  refine lv_iconst (v := -1) X.1 X.2.1 dX7_init_36 (by decide) ?_
  refine zw_iast (k := 1) (i := 6) X A B (by omega) rfl rfl (by decide) (by decide) dX7_init_37 (fun H8 locs8 A B => ?_)
  refine lv_dup X.1 X.2.1 dX7_init_38 rfl ?_
  refine lv_bipush (v := nI 7) X.1 X.2.1 dX7_init_39 (by decide) ?_
  refine lv_iconst (v := -1) X.1 X.2.1 dX7_init_41 (by decide) ?_
  refine zw_iast (k := 1) (i := 7) X A B (by omega) rfl rfl (by decide) (by decide) dX7_init_42 (fun H9 locs9 A B => ?_)
  refine zw_putF (k := 0) (f := 2) X hnm A B (by omega) rfl rfl zin_X7 tyX7 tyX7_ok nmX7 (by decide) rfl rfl zl_X7_7 rfl (tyX7_ok 2 (by decide)) rfl rfl (Nat.le_of_ble_eq_true rfl) dX7_init_43 (fun H10 locs10 A B => ?_)
  refine lv_aload_n X.1 X.2.1 dX7_init_46 rfl (hl.2.2 0 _ rfl) ?_
  refine lv_bipush (v := nI 8) X.1 X.2.1 dX7_init_47 (by decide) ?_
  refine zw_newi (N := 8) X A B (by decide) (by decide) (by decide) (Nat.le_of_ble_eq_true rfl) (Nat.le_of_ble_eq_true rfl) dX7_init_49 (fun H11 A B => ?_)
  refine zw_putF (k := 0) (f := 3) X hnm A B (by omega) rfl rfl zin_X7 tyX7 tyX7_ok nmX7 (by decide) rfl rfl zl_X7_13 rfl (tyX7_ok 3 (by decide)) rfl rfl (Nat.le_of_ble_eq_true rfl) dX7_init_51 (fun H12 locs12 A B => ?_)
  refine lv_aload_n X.1 X.2.1 dX7_init_54 rfl (hl.2.2 0 _ rfl) ?_
  refine lv_sipush (v := nI 320) X.1 X.2.1 dX7_init_55 (by decide) ?_
  refine zw_newi (N := 320) X A B (by decide) (by decide) (by decide) (Nat.le_of_ble_eq_true rfl) (Nat.le_of_ble_eq_true rfl) dX7_init_58 (fun H13 A B => ?_)
  refine zw_putF (k := 0) (f := 4) X hnm A B (by omega) rfl rfl zin_X7 tyX7 tyX7_ok nmX7 (by decide) rfl rfl zl_X7_16 rfl (tyX7_ok 4 (by decide)) rfl rfl (Nat.le_of_ble_eq_true rfl) dX7_init_60 (fun H14 locs14 A B => ?_)
  refine lv_aload_n X.1 X.2.1 dX7_init_63 rfl (hl.2.2 0 _ rfl) ?_
  refine lv_bipush (v := nI 36) X.1 X.2.1 dX7_init_64 (by decide) ?_
  refine zw_newi (N := 36) X A B (by decide) (by decide) (by decide) (Nat.le_of_ble_eq_true rfl) (Nat.le_of_ble_eq_true rfl) dX7_init_66 (fun H15 A B => ?_)
  refine zw_putF (k := 0) (f := 5) X hnm A B (by omega) rfl rfl zin_X7 tyX7 tyX7_ok nmX7 (by decide) rfl rfl zl_X7_19 rfl (tyX7_ok 5 (by decide)) rfl rfl (Nat.le_of_ble_eq_true rfl) dX7_init_68 (fun H16 locs16 A B => ?_)
  refine lv_aload_n X.1 X.2.1 dX7_init_71 rfl (hl.2.2 0 _ rfl) ?_
  refine lv_bipush (v := nI 36) X.1 X.2.1 dX7_init_72 (by decide) ?_
  refine zw_newi (N := 36) X A B (by decide) (by decide) (by decide) (Nat.le_of_ble_eq_true rfl) (Nat.le_of_ble_eq_true rfl) dX7_init_74 (fun H17 A B => ?_)
  refine zw_putF (k := 0) (f := 6) X hnm A B (by omega) rfl rfl zin_X7 tyX7 tyX7_ok nmX7 (by decide) rfl rfl zl_X7_22 rfl (tyX7_ok 6 (by decide)) rfl rfl (Nat.le_of_ble_eq_true rfl) dX7_init_76 (fun H18 locs18 A B => ?_)
  refine lv_aload_n X.1 X.2.1 dX7_init_79 rfl (hl.2.2 0 _ rfl) ?_
  refine lv_bipush (v := nI 36) X.1 X.2.1 dX7_init_80 (by decide) ?_
  refine zw_newi (N := 36) X A B (by decide) (by decide) (by decide) (Nat.le_of_ble_eq_true rfl) (Nat.le_of_ble_eq_true rfl) dX7_init_82 (fun H19 A B => ?_)
  refine zw_putF (k := 0) (f := 7) X hnm A B (by omega) rfl rfl zin_X7 tyX7 tyX7_ok nmX7 (by decide) rfl rfl zl_X7_25 rfl (tyX7_ok 7 (by decide)) rfl rfl (Nat.le_of_ble_eq_true rfl) dX7_init_84 (fun H20 locs20 A B => ?_)
  refine lv_aload_n X.1 X.2.1 dX7_init_87 rfl (hl.2.2 0 _ rfl) ?_
  refine lv_sipush (v := nI 864) X.1 X.2.1 dX7_init_88 (by decide) ?_
  refine zw_newi (N := 864) X A B (by decide) (by decide) (by decide) (Nat.le_of_ble_eq_true rfl) (Nat.le_of_ble_eq_true rfl) dX7_init_91 (fun H21 A B => ?_)
  refine zw_putF (k := 0) (f := 8) X hnm A B (by omega) rfl rfl zin_X7 tyX7 tyX7_ok nmX7 (by decide) rfl rfl zl_X7_28 rfl (tyX7_ok 8 (by decide)) rfl rfl (Nat.le_of_ble_eq_true rfl) dX7_init_93 (fun H22 locs22 A B => ?_)
  refine lv_aload_n X.1 X.2.1 dX7_init_96 rfl (hl.2.2 0 _ rfl) ?_
  refine lv_bipush (v := nI 90) X.1 X.2.1 dX7_init_97 (by decide) ?_
  refine zw_newi (N := 90) X A B (by decide) (by decide) (by decide) (Nat.le_of_ble_eq_true rfl) (Nat.le_of_ble_eq_true rfl) dX7_init_99 (fun H23 A B => ?_)
  refine zw_putF (k := 0) (f := 10) X hnm A B (by omega) rfl rfl zin_X7 tyX7 tyX7_ok nmX7 (by decide) rfl rfl zl_X7_31 rfl (tyX7_ok 10 (by decide)) rfl rfl (Nat.le_of_ble_eq_true rfl) dX7_init_101 (fun H24 locs24 A B => ?_)
  refine lv_aload_n X.1 X.2.1 dX7_init_104 rfl (hl.2.2 0 _ rfl) ?_
  refine lv_iconst (v := nI 2) X.1 X.2.1 dX7_init_105 (by decide) ?_
  refine zw_newz (N := 2) X A B (by decide) (by decide) (by decide) (Nat.le_of_ble_eq_true rfl) (Nat.le_of_ble_eq_true rfl) dX7_init_106 (fun H25 A B => ?_)
  refine zw_putF (k := 0) (f := 19) X hnm A B (by omega) rfl rfl zin_X7 tyX7 tyX7_ok nmX7 (by decide) rfl rfl zl_X7_34 rfl (tyX7_ok 19 (by decide)) rfl rfl (Nat.le_of_ble_eq_true rfl) dX7_init_108 (fun H26 locs26 A B => ?_)
  refine lv_aload_n X.1 X.2.1 dX7_init_111 rfl (hl.2.2 0 _ rfl) ?_
  refine lv_bipush (v := nI 72) X.1 X.2.1 dX7_init_112 (by decide) ?_
  refine zw_newi (N := 72) X A B (by decide) (by decide) (by decide) (Nat.le_of_ble_eq_true rfl) (Nat.le_of_ble_eq_true rfl) dX7_init_114 (fun H27 A B => ?_)
  refine zw_putF (k := 0) (f := 20) X hnm A B (by omega) rfl rfl zin_X7 tyX7 tyX7_ok nmX7 (by decide) rfl rfl zl_X7_38 rfl (tyX7_ok 20 (by decide)) rfl rfl (Nat.le_of_ble_eq_true rfl) dX7_init_116 (fun H28 locs28 A B => ?_)
  refine lv_aload_n X.1 X.2.1 dX7_init_119 rfl (hl.2.2 0 _ rfl) ?_
  refine lv_bipush (v := nI 16) X.1 X.2.1 dX7_init_120 (by decide) ?_
  refine zw_newi (N := 16) X A B (by decide) (by decide) (by decide) (Nat.le_of_ble_eq_true rfl) (Nat.le_of_ble_eq_true rfl) dX7_init_122 (fun H29 A B => ?_)
  refine zw_putF (k := 0) (f := 21) X hnm A B (by omega) rfl rfl zin_X7 tyX7 tyX7_ok nmX7 (by decide) rfl rfl zl_X7_41 rfl (tyX7_ok 21 (by decide)) rfl rfl (Nat.le_of_ble_eq_true rfl) dX7_init_124 (fun H30 locs30 A B => ?_)
  refine zw_ret X hr hlk A (fun i hi => ?_) B dX7_init_127
  rcases (show i = 0 ∨ i = 1 ∨ i = 2 ∨ i = 3 ∨ i = 4 ∨ i = 5 ∨ i = 6 ∨ i = 7 ∨ i = 8 ∨ i = 9 ∨ i = 10 ∨ i = 11 by omega) with rfl | rfl | rfl | rfl | rfl | rfl | rfl | rfl | rfl | rfl | rfl | rfl <;> rfl
end ZMq
