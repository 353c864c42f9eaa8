section ZMs
variable {J : zJ} {h0 n : Nat} {ce : Nat → va_E} {H H1 : Heap} {x : va_E} {locs : List Loc} {H0 : Heap}
variable {p : Program} {e : Env} {R : Room} {s : State} {m : MethodId} {args : Array Value} {below : List Frame} {meth : Method} {c : Code} {cells slots : Nat} {Q : State → Prop} {cc : ByteArray} {own : String} {nL pc : Nat} {ls : Array Slot} {rest : List Value}
/-- the class's cells, in the order of their making -/
def zcs6 (J : zJ) (h i : Nat) : va_E := if i = 0 then .inr (6, [.ref (h + 1), .ref (h + 13), .ref (h + 20), .ref (h + 25), .ref (h + 147), .ref (h + 152), .ref (h + 157), .ref (h + 163), .int 0, .int 0])
  else if i < 13 then zcs3 J (h + 1) (i - 1)
  else if i < 20 then zcs5 J (h + 13) (i - 13)
  else if i < 25 then zcs4 J (h + 20) (i - 20)
  else if i < 147 then zcs0 J (h + 25) 24 (i - 25)
  else if i < 152 then zcs4 J (h + 147) (i - 147)
  else if i < 157 then zcs4 J (h + 152) (i - 152)
  else if i < 163 then zcs2 J (h + 20) (h + 157) (i - 157)
  else zcs1 J (h + 20) (h + 163) (i - 163)
def zst6 (J : zJ) (h : Nat) (fs : List Value) : Nat → va_E := fun i => if i = 0 then .inr (6, fs) else zcs6 J h i
theorem st6_new {fs : List Value} {y : va_E} {mc : Nat} {F : Nat → va_E} (A : zwA J h0 (n + 1 + mc) (fun i => if i < n then va_up (zst6 J h0 fs) n y i else F (i - n)) H) (h1 : 0 < n) (hF : ∀ i, i < mc + 1 → F i = zcs6 J h0 (n + i)) : zwA J h0 (n + 1 + mc) (zst6 J h0 fs) H := A.cong (fun i hi => by
  by_cases q : i < n
  · rw [if_pos q, va_up_ne _ _ (by omega)]
  · rw [if_neg q, hF _ (by omega), show n + (i - n) = i by omega]
    unfold zst6
    rw [if_neg (by omega)])
theorem st6_put {fs fs2 : List Value} (A : zwA J h0 n (va_up (zst6 J h0 fs) 0 (.inr (6, fs2))) H) : zwA J h0 n (zst6 J h0 fs2) H := A.cong (fun i hi => by
  by_cases q : i = 0
  · subst q
    rw [va_up_self]
    rfl
  · rw [va_up_ne _ _ q]
    unfold zst6
    rw [if_neg q, if_neg q])
theorem sg6_0 : ∀ i, i < 11 + 1 → zcs3 J (h0 + 1) i = zcs6 J h0 (1 + i) := fun i hi => by
  unfold zcs6
  rw [if_neg (by omega), if_pos (by omega), show 1 + i - 1 = i by omega]
theorem sg6_1 : ∀ i, i < 6 + 1 → zcs5 J (h0 + 13) i = zcs6 J h0 (13 + i) := fun i hi => by
  unfold zcs6
  rw [if_neg (by omega), if_neg (by omega), if_pos (by omega), show 13 + i - 13 = i by omega]
theorem sg6_2 : ∀ i, i < 4 + 1 → zcs4 J (h0 + 20) i = zcs6 J h0 (20 + i) := fun i hi => by
  unfold zcs6
  rw [if_neg (by omega), if_neg (by omega), if_neg (by omega), if_pos (by omega), show 20 + i - 20 = i by omega]
theorem sg6_3 : ∀ i, i < 121 + 1 → zcs0 J (h0 + 25) 24 i = zcs6 J h0 (25 + i) := fun i hi => by
  unfold zcs6
  rw [if_neg (by omega), if_neg (by omega), if_neg (by omega), if_neg (by omega), if_pos (by omega), show 25 + i - 25 = i by omega]
theorem sg6_4 : ∀ i, i < 4 + 1 → zcs4 J (h0 + 147) i = zcs6 J h0 (147 + i) := fun i hi => by
  unfold zcs6
  rw [if_neg (by omega), if_neg (by omega), if_neg (by omega), if_neg (by omega), if_neg (by omega), if_pos (by omega), show 147 + i - 147 = i by omega]
theorem sg6_5 : ∀ i, i < 4 + 1 → zcs4 J (h0 + 152) i = zcs6 J h0 (152 + i) := fun i hi => by
  unfold zcs6
  rw [if_neg (by omega), if_neg (by omega), if_neg (by omega), if_neg (by omega), if_neg (by omega), if_neg (by omega), if_pos (by omega), show 152 + i - 152 = i by omega]
theorem sg6_6 : ∀ i, i < 5 + 1 → zcs2 J (h0 + 20) (h0 + 157) i = zcs6 J h0 (157 + i) := fun i hi => by
  unfold zcs6
  rw [if_neg (by omega), if_neg (by omega), if_neg (by omega), if_neg (by omega), if_neg (by omega), if_neg (by omega), if_neg (by omega), if_pos (by omega), show 157 + i - 157 = i by omega]
theorem sg6_7 : ∀ i, i < 1 + 1 → zcs1 J (h0 + 20) (h0 + 163) i = zcs6 J h0 (163 + i) := fun i hi => by
  unfold zcs6
  rw [if_neg (by omega), if_neg (by omega), if_neg (by omega), if_neg (by omega), if_neg (by omega), if_neg (by omega), if_neg (by omega), if_neg (by omega), show 163 + i - 163 = i by omega]
set_option maxHeartbeats 4000000 in
set_option maxRecDepth 100000 in
theorem i_X6 : zIC J 3 zm_X6_init [] 6 zfs6 164 (zcs6 J) 1565 := by
  refine zIC.of (by decide +kernel) rfl rfl (fun _ => Nat.le_of_ble_eq_true rfl) ?_
  intro h0 p e s m args below meth c ls X hr hlk hnm A B hl
  have hls := hl.1
  refine lv_aload_n X.1 X.2.1 dX6_init_0 rfl (hl.2.2 0 _ rfl) ?_
  refine zw_obj X (lw_goodAt 62 (by decide +kernel) (by decide +kernel)) hls dX6_init_1 (Nat.le_of_ble_eq_true rfl) (Nat.le_of_ble_eq_true rfl) (Nat.le_of_ble_eq_true rfl) ?_
  have A : zwA J h0 1 (zst6 J h0 zfs6) s.heap := A.cong (fun i hi => by rw [show i = 0 by omega]; rfl)
  refine lv_aload_n X.1 X.2.1 dX6_init_4 rfl (hl.2.2 0 _ rfl) ?_
  refine zw_new (fs := zfs3) X A B zin_X3 tyX3 tyX3_ok (lw_goodAt 65 (by decide +kernel) (by decide +kernel)) (lw_goodAt 66 (by decide +kernel) (by decide +kernel)) (lw_goodAt 46 (by decide +kernel) (by decide +kernel)) (ci := 3) rfl (by decide) (Nat.le_of_ble_eq_true rfl) (Nat.le_of_ble_eq_true rfl) dX6_init_5 (fun H1 A B => ?_)
  refine lv_dup X.1 X.2.1 dX6_init_8 rfl ?_
  refine zw_init (n := 1) (av := []) (rest := [.ref (h0 + 1), .ref h0]) X A B rfl dX6_init_9 (lw_goodAt 67 (by decide +kernel) (by decide +kernel)) zyi_X3 (Nat.le_of_ble_eq_true rfl) (Nat.le_of_ble_eq_true rfl) (Nat.le_of_ble_eq_true rfl) i_X3 hls (Nat.le_of_ble_eq_true rfl) (Nat.le_of_ble_eq_true rfl) (fun H2 locs2 A B => ?_)
  have A := st6_new (n := 1) (F := fun i => zcs3 J (h0 + 1) i) A (by omega) sg6_0
  refine zw_putF (k := 0) (f := 0) X hnm A B (by omega) rfl rfl zin_X6 tyX6 tyX6_ok nmX6 (by decide) rfl rfl zl_X6_12 rfl (tyX6_ok 0 (by decide)) rfl rfl (Nat.le_of_ble_eq_true rfl) dX6_init_12 (fun H3 locs3 A B => ?_)
  have A := st6_put A
  refine lv_aload_n X.1 X.2.1 dX6_init_15 rfl (hl.2.2 0 _ rfl) ?_
  refine zw_new (fs := zfs5) X A B zin_X5 tyX5 tyX5_ok (lw_goodAt 87 (by decide +kernel) (by decide +kernel)) (lw_goodAt 88 (by decide +kernel) (by decide +kernel)) (lw_goodAt 48 (by decide +kernel) (by decide +kernel)) (ci := 5) rfl (by decide) (Nat.le_of_ble_eq_true rfl) (Nat.le_of_ble_eq_true rfl) dX6_init_16 (fun H4 A B => ?_)
  refine lv_dup X.1 X.2.1 dX6_init_19 rfl ?_
  refine zw_initN (host := "NameNoon") (n := 13) (av := []) (rest := [.ref (h0 + 13), .ref h0]) X A B rfl dX6_init_20 (List.mem_of_getElem? (i := 89) (by decide +kernel)) zyi_X5 (Nat.le_of_ble_eq_true rfl) (Nat.le_of_ble_eq_true rfl) (Nat.le_of_ble_eq_true rfl) i_X5 hls (Nat.le_of_ble_eq_true rfl) (Nat.le_of_ble_eq_true rfl) (fun H5 locs5 A B => ?_)
  have A := st6_new (n := 13) (F := fun i => zcs5 J (h0 + 13) i) A (by omega) sg6_1
  refine zw_putF (k := 0) (f := 1) X hnm A B (by omega) rfl rfl zin_X6 tyX6 tyX6_ok nmX6 (by decide) rfl rfl zl_X6_19 rfl (tyX6_ok 1 (by decide)) rfl rfl (Nat.le_of_ble_eq_true rfl) dX6_init_23 (fun H6 locs6 A B => ?_)
  have A := st6_put A
  refine lv_aload_n X.1 X.2.1 dX6_init_26 rfl (hl.2.2 0 _ rfl) ?_
  refine zw_new (fs := zfs4) X A B zin_X4 tyX4 tyX4_ok (lw_goodAt 196 (by decide +kernel) (by decide +kernel)) (lw_goodAt 94 (by decide +kernel) (by decide +kernel)) (lw_goodAt 49 (by decide +kernel) (by decide +kernel)) (ci := 4) rfl (by decide) (Nat.le_of_ble_eq_true rfl) (Nat.le_of_ble_eq_true rfl) dX6_init_27 (fun H7 A B => ?_)
  refine lv_dup X.1 X.2.1 dX6_init_30 rfl ?_
  refine zw_initN (host := "NameNoon") (n := 20) (av := []) (rest := [.ref (h0 + 20), .ref h0]) X A B rfl dX6_init_31 (List.mem_of_getElem? (i := 197) (by decide +kernel)) zyi_X4 (Nat.le_of_ble_eq_true rfl) (Nat.le_of_ble_eq_true rfl) (Nat.le_of_ble_eq_true rfl) i_X4 hls (Nat.le_of_ble_eq_true rfl) (Nat.le_of_ble_eq_true rfl) (fun H8 locs8 A B => ?_)
  have A := st6_new (n := 20) (F := fun i => zcs4 J (h0 + 20) i) A (by omega) sg6_2
  refine zw_putF (k := 0) (f := 2) X hnm A B (by omega) rfl rfl zin_X6 tyX6 tyX6_ok nmX6 (by decide) rfl rfl zl_X6_26 rfl (tyX6_ok 2 (by decide)) rfl rfl (Nat.le_of_ble_eq_true rfl) dX6_init_34 (fun H9 locs9 A B => ?_)
  have A := st6_put A
  refine lv_aload_n X.1 X.2.1 dX6_init_37 rfl (hl.2.2 0 _ rfl) ?_
  refine zw_new (fs := zfs0) X A B zin_X0 tyX0 tyX0_ok (lw_goodAt 198 (by decide +kernel) (by decide +kernel)) (lw_goodAt 199 (by decide +kernel) (by decide +kernel)) (lw_goodAt 50 (by decide +kernel) (by decide +kernel)) (ci := 0) rfl (by decide) (Nat.le_of_ble_eq_true rfl) (Nat.le_of_ble_eq_true rfl) dX6_init_38 (fun H10 A B => ?_)
  refine lv_dup X.1 X.2.1 dX6_init_41 rfl ?_
  refine zw_init (n := 25) (av := []) (rest := [.ref (h0 + 25), .ref h0]) X A B rfl dX6_init_42 (lw_goodAt 200 (by decide +kernel) (by decide +kernel)) zyi_X0 (Nat.le_of_ble_eq_true rfl) (Nat.le_of_ble_eq_true rfl) (Nat.le_of_ble_eq_true rfl) i_X0 hls (Nat.le_of_ble_eq_true rfl) (Nat.le_of_ble_eq_true rfl) (fun H11 locs11 A B => ?_)
  have A := st6_new (n := 25) (F := fun i => zcs0 J (h0 + 25) 24 i) A (by omega) sg6_3
  refine zw_putF (k := 0) (f := 3) X hnm A B (by omega) rfl rfl zin_X6 tyX6 tyX6_ok nmX6 (by decide) rfl rfl zl_X6_33 rfl (tyX6_ok 3 (by decide)) rfl rfl (Nat.le_of_ble_eq_true rfl) dX6_init_45 (fun H12 locs12 A B => ?_)
  have A := st6_put A
  refine lv_aload_n X.1 X.2.1 dX6_init_48 rfl (hl.2.2 0 _ rfl) ?_
  refine zw_new (fs := zfs4) X A B zin_X4 tyX4 tyX4_ok (lw_goodAt 196 (by decide +kernel) (by decide +kernel)) (lw_goodAt 94 (by decide +kernel) (by decide +kernel)) (lw_goodAt 49 (by decide +kernel) (by decide +kernel)) (ci := 4) rfl (by decide) (Nat.le_of_ble_eq_true rfl) (Nat.le_of_ble_eq_true rfl) dX6_init_49 (fun H13 A B => ?_)
  refine lv_dup X.1 X.2.1 dX6_init_52 rfl ?_
  refine zw_initN (host := "NameNoon") (n := 147) (av := []) (rest := [.ref (h0 + 147), .ref h0]) X A B rfl dX6_init_53 (List.mem_of_getElem? (i := 197) (by decide +kernel)) zyi_X4 (Nat.le_of_ble_eq_true rfl) (Nat.le_of_ble_eq_true rfl) (Nat.le_of_ble_eq_true rfl) i_X4 hls (Nat.le_of_ble_eq_true rfl) (Nat.le_of_ble_eq_true rfl) (fun H14 locs14 A B => ?_)
  have A := st6_new (n := 147) (F := fun i => zcs4 J (h0 + 147) i) A (by omega) sg6_4
  refine zw_putF (k := 0) (f := 4) X hnm A B (by omega) rfl rfl zin_X6 tyX6 tyX6_ok nmX6 (by decide) rfl rfl zl_X6_37 rfl (tyX6_ok 4 (by decide)) rfl rfl (Nat.le_of_ble_eq_true rfl) dX6_init_56 (fun H15 locs15 A B => ?_)
  have A := st6_put A
  refine lv_aload_n X.1 X.2.1 dX6_init_59 rfl (hl.2.2 0 _ rfl) ?_
  refine zw_new (fs := zfs4) X A B zin_X4 tyX4 tyX4_ok (lw_goodAt 196 (by decide +kernel) (by decide +kernel)) (lw_goodAt 94 (by decide +kernel) (by decide +kernel)) (lw_goodAt 49 (by decide +kernel) (by decide +kernel)) (ci := 4) rfl (by decide) (Nat.le_of_ble_eq_true rfl) (Nat.le_of_ble_eq_true rfl) dX6_init_60 (fun H16 A B => ?_)
  refine lv_dup X.1 X.2.1 dX6_init_63 rfl ?_
  refine zw_initN (host := "NameNoon") (n := 152) (av := []) (rest := [.ref (h0 + 152), .ref h0]) X A B rfl dX6_init_64 (List.mem_of_getElem? (i := 197) (by decide +kernel)) zyi_X4 (Nat.le_of_ble_eq_true rfl) (Nat.le_of_ble_eq_true rfl) (Nat.le_of_ble_eq_true rfl) i_X4 hls (Nat.le_of_ble_eq_true rfl) (Nat.le_of_ble_eq_true rfl) (fun H17 locs17 A B => ?_)
  have A := st6_new (n := 152) (F := fun i => zcs4 J (h0 + 152) i) A (by omega) sg6_5
  refine zw_putF (k := 0) (f := 5) X hnm A B (by omega) rfl rfl zin_X6 tyX6 tyX6_ok nmX6 (by decide) rfl rfl zl_X6_40 rfl (tyX6_ok 5 (by decide)) rfl rfl (Nat.le_of_ble_eq_true rfl) dX6_init_67 (fun H18 locs18 A B => ?_)
  have A := st6_put A
  refine lv_aload_n X.1 X.2.1 dX6_init_70 rfl (hl.2.2 0 _ rfl) ?_
  refine zw_new (fs := zfs2) X A B zin_X2 tyX2 tyX2_ok (lw_goodAt 218 (by decide +kernel) (by decide +kernel)) (lw_goodAt 219 (by decide +kernel) (by decide +kernel)) (lw_goodAt 51 (by decide +kernel) (by decide +kernel)) (ci := 2) rfl (by decide) (Nat.le_of_ble_eq_true rfl) (Nat.le_of_ble_eq_true rfl) dX6_init_71 (fun H19 A B => ?_)
  refine lv_dup X.1 X.2.1 dX6_init_74 rfl ?_
  refine lv_aload_n X.1 X.2.1 dX6_init_75 rfl (hl.2.2 0 _ rfl) ?_
  refine zw_get (k := 0) (f := 2) X A (by omega) rfl rfl zin_X6 (by decide) rfl zl_X6_26 rfl dX6_init_76 ?_
  refine zw_init (n := 157) (av := [.ref (h0 + 20)]) (rest := [.ref (h0 + 157), .ref h0]) X A B rfl dX6_init_79 (lw_goodAt 220 (by decide +kernel) (by decide +kernel)) zyi_X2 (Nat.le_of_ble_eq_true rfl) (Nat.le_of_ble_eq_true rfl) (Nat.le_of_ble_eq_true rfl) i_X2 hls (Nat.le_of_ble_eq_true rfl) (Nat.le_of_ble_eq_true rfl) (fun H20 locs20 A B => ?_)
  have A := st6_new (n := 157) (F := fun i => zcs2 J (h0 + 20) (h0 + 157) i) A (by omega) sg6_6
  refine zw_putF (k := 0) (f := 6) X hnm A B (by omega) rfl rfl zin_X6 tyX6 tyX6_ok nmX6 (by decide) rfl rfl zl_X6_48 rfl (tyX6_ok 6 (by decide)) rfl rfl (Nat.le_of_ble_eq_true rfl) dX6_init_82 (fun H21 locs21 A B => ?_)
  have A := st6_put A
  refine lv_aload_n X.1 X.2.1 dX6_init_85 rfl (hl.2.2 0 _ rfl) ?_
  refine zw_new (fs := zfs1) X A B zin_X1 tyX1 tyX1_ok (lw_goodAt 233 (by decide +kernel) (by decide +kernel)) (lw_goodAt 234 (by decide +kernel) (by decide +kernel)) (lw_goodAt 52 (by decide +kernel) (by decide +kernel)) (ci := 1) rfl (by decide) (Nat.le_of_ble_eq_true rfl) (Nat.le_of_ble_eq_true rfl) dX6_init_86 (fun H22 A B => ?_)
  refine lv_dup X.1 X.2.1 dX6_init_89 rfl ?_
  refine lv_aload_n X.1 X.2.1 dX6_init_90 rfl (hl.2.2 0 _ rfl) ?_
  refine zw_get (k := 0) (f := 2) X A (by omega) rfl rfl zin_X6 (by decide) rfl zl_X6_26 rfl dX6_init_91 ?_
  refine zw_init (n := 163) (av := [.ref (h0 + 20)]) (rest := [.ref (h0 + 163), .ref h0]) X A B rfl dX6_init_94 (lw_goodAt 235 (by decide +kernel) (by decide +kernel)) zyi_X1 (Nat.le_of_ble_eq_true rfl) (Nat.le_of_ble_eq_true rfl) (Nat.le_of_ble_eq_true rfl) i_X1 hls (Nat.le_of_ble_eq_true rfl) (Nat.le_of_ble_eq_true rfl) (fun H23 locs23 A B => ?_)
  have A := st6_new (n := 163) (F := fun i => zcs1 J (h0 + 20) (h0 + 163) i) A (by omega) sg6_7
  refine zw_putF (k := 0) (f := 7) X hnm A B (by omega) rfl rfl zin_X6 tyX6 tyX6_ok nmX6 (by decide) rfl rfl zl_X6_55 rfl (tyX6_ok 7 (by decide)) rfl rfl (Nat.le_of_ble_eq_true rfl) dX6_init_97 (fun H24 locs24 A B => ?_)
  have A := st6_put A
  refine zw_ret X hr hlk A (fun i hi => ?_) B dX6_init_100
  by_cases q : i = 0
  · subst q
    rfl
  · exact if_neg q
end ZMs
