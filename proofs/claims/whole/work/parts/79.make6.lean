section ZMr
variable {J : zJ} {h0 n : Nat} {ce : Nat → va_E} {H H1 : Heap} {x : va_E} {locs : List Loc} {H0 : Heap}
variable {p : Program} {e : Env} {R : Room} {s : State} {m : MethodId} {args : Array Value} {below : List Frame} {meth : Method} {c : Code} {cells slots : Nat} {Q : State → Prop} {cc : ByteArray} {own : String} {nL pc : Nat} {ls : Array Slot} {rest : List Value}
def zSz : Nat → Int32 := fun j => if j < 8 then -1 else 0
def zFl (i : Nat) : Nat → Int32 := fun j => if j < i then -1 else 0
theorem zFl_s (i : Nat) : upd (zFl i) i (-1) = zFl (i + 1) := by
  funext j
  unfold upd zFl
  by_cases q : j = i
  · rw [if_pos q, if_pos (by omega)]
  · rw [if_neg q]
    by_cases z : j < i
    · rw [if_pos z, if_pos (by omega)]
    · rw [if_neg z, if_neg (by omega)]
set_option maxHeartbeats 4000000 in
set_option maxRecDepth 100000 in
theorem fl_loop {a : Nat} (X : zJw J cJ7_fill_53178 RJ7 4 p s m args c) (hr : meth.sig.returnType = none) (hlk : meth.locks = false) : ∀ (k i : Nat) (H : Heap) (locs : List Loc) (ls : Array Slot), i + k = 8 → zwA J a 1 (fun _ => .inl (J.2.2 0, 8, .inl (zFl i))) H → zwB a s.heap H locs → zlo ls 4 [some (.ref a), some (.int (-1)), some (.int (nI i)), some (.int (nI 8))] → W p J.1 e R s m args below meth c H locs 0 0 (MQ below (zQJ J a 1 (fun _ => .inl (J.2.2 0, 8, .inl zSz))) args s 0 0 (fun q => a ≤ q)) (F0 m 5 ls []) := by
  intro k
  induction k with
  | zero =>
    intro i H locs ls hi A B hl
    obtain rfl : i = 8 := by omega
    refine lv_iload_n X.1 X.2.1 dJ7_fill_53178_5 rfl (hl.2.2 2 _ rfl) ?_
    refine lv_iload_n X.1 X.2.1 dJ7_fill_53178_6 rfl (hl.2.2 3 _ rfl) ?_
    refine lv_icmp_ge (tgt := 20) X.1 X.2.1 dJ7_fill_53178_7 (by decide) (fun _ => ?_) (fun q => absurd (by decide) q)
    exact zw_ret X hr hlk A (fun _ _ => rfl) B dJ7_fill_53178_20
  | succ k ih =>
    intro i H locs ls hi A B hl
    refine lv_iload_n X.1 X.2.1 dJ7_fill_53178_5 rfl (hl.2.2 2 _ rfl) ?_
    refine lv_iload_n X.1 X.2.1 dJ7_fill_53178_6 rfl (hl.2.2 3 _ rfl) ?_
    refine lv_icmp_ge (tgt := 20) X.1 X.2.1 dJ7_fill_53178_7 (by decide) (fun q => absurd q (nI_ge (by omega) (by omega))) (fun _ => ?_)
    refine lv_aload_n X.1 X.2.1 dJ7_fill_53178_10 rfl (hl.2.2 0 _ rfl) ?_
    refine lv_iload_n X.1 X.2.1 dJ7_fill_53178_11 rfl (hl.2.2 2 _ rfl) ?_
    refine lv_iload_n X.1 X.2.1 dJ7_fill_53178_12 rfl (hl.2.2 1 _ rfl) ?_
    refine zw_iast (k := 0) (i := i) X A B (by omega) rfl rfl (by omega) (by decide) dJ7_fill_53178_13 (fun H1 locs1 A B => ?_)
    obtain ⟨kk, hkk⟩ := List.getElem?_of_mem (zll_of [some (.ref a), some (.int (-1)), some (.int (nI i)), some (.int (nI 8))] 0 2 (.int (nI i)) rfl)
    refine lv_iinc X.1 X.2.1 dJ7_fill_53178_14 hl.has (k := kk) (x := nI i) (v := nI (i + 1)) (by rw [hkk]) (zi1 i) (by decide) rfl (fun ls2 h2 => ?_)
    refine lv_goto (tgt := 5) X.1 X.2.1 dJ7_fill_53178_17 (by decide) ?_
    refine ih (i + 1) H1 locs1 ls2 (by omega) (A.cong (fun j hj => ?_)) B (zlo_store1 rfl h2)
    obtain rfl : j = 0 := by omega
    rw [va_up_self, zFl_s]
set_option maxHeartbeats 4000000 in
set_option maxRecDepth 100000 in
theorem c_fill (a : Nat) : Met J.1 yJ7_fill_53178 (zws zm_J7_fill_53178) (zrm 0) (va_Pc [.ref a, .int (-1)] (fun U => zwA J a 1 (fun _ => .inl (J.2.2 0, 8, .inl (fun _ => 0))) U.heap ∧ zKJ J U)) (zQJ J a 1 (fun _ => .inl (J.2.2 0, 8, .inl zSz))) 0 0 (fun q => a ≤ q) := by
  refine va_MetF (cc := cJ7_fill_53178) (maxL := 4) (ret := none) (by decide +kernel) rfl ?_
  intro p e s m args below meth c s₁ B0 hml hv
  obtain ⟨rfl, hA, hK⟩ := hv
  have hts := atoms_spec (ws := zws zm_J7_fill_53178) B0.pre
  have hown : s.vm.findClass RJ7 = some m.cls := findClass_of_methodNamed B0.named
  have X : zJw J cJ7_fill_53178 RJ7 4 p s m _ c := ⟨B0.exec, B0.bytes, hml, hown, fun w hw => hts w (List.mem_cons_of_mem _ hw), hK⟩
  have B : zwB a s.heap s.heap [] := ⟨fun q _ => rfl, fun _ h => absurd h List.not_mem_nil⟩
  have hl0 := lv_entry ([.ref a, .int (-1)]) (n := 4) (Nat.le_of_ble_eq_true rfl)
  rw [lg_entry_eq]
  generalize (lg_sl ([.ref a, .int (-1)]) ++ List.replicate (4 - (lg_sl ([.ref a, .int (-1)])).length) Slot.unset).toArray = ls at hl0 ⊢
  have hl : zlo ls 4 [some (.ref a), some (.int (-1)), none, none] := ⟨hl0.1, hl0.2.1, fun i v hi => by
    match i, hi with
    | 0, hi => cases hi; exact hl0.2.2 (0, _) (by simp [lv_args, Value.category])
    | 1, hi => cases hi; exact hl0.2.2 (1, _) (by simp [lv_args, Value.category])
    | 2, hi => cases hi
    | 3, hi => cases hi
    | i + 4, hi => simp at hi⟩
  refine lv_iconst (v := nI 0) X.1 X.2.1 dJ7_fill_53178_0 (by decide) ?_
  refine lv_istore_n X.1 X.2.1 dJ7_fill_53178_1 rfl hl.has (by decide) rfl (fun ls2 h2 => ?_)
  have hl2 : zlo ls2 4 [some (.ref a), some (.int (-1)), some (.int (nI 0)), none] := zlo_store1 rfl h2
  refine lv_aload_n X.1 X.2.1 dJ7_fill_53178_2 rfl (hl2.2.2 0 _ rfl) ?_
  have hP : va_P J.2.1 vwCl [(a, .inl (J.2.2 0, 8, .inl (fun _ => 0)))] s.heap := fun j q hj => by
    have hz : j < 1 := (List.getElem?_eq_some_iff.mp hj).1
    rw [show j = 0 by omega] at hj
    cases hj
    exact hA.2 0 (by omega)
  refine va_alen (v := nI 8) X.1 X.2.1 X.2.2.2.2.2.1 hP 0 0 rfl rfl rfl dJ7_fill_53178_3 ?_
  refine lv_istore_n X.1 X.2.1 dJ7_fill_53178_4 rfl hl2.has (by decide) rfl (fun ls3 h3 => ?_)
  have hl3 : zlo ls3 4 [some (.ref a), some (.int (-1)), some (.int (nI 0)), some (.int (nI 8))] := zlo_store1 rfl h3
  exact fl_loop X B0.returns B0.notSynchronized 8 0 s.heap [] ls3 rfl (hA.cong (fun j hj => by
    refine congrArg Sum.inl (Prod.ext rfl (Prod.ext rfl (congrArg Sum.inl (funext fun q => ?_))))
    unfold zFl
    rw [if_neg (by omega)])) B hl3
theorem zblindF {h1 : Nat} : FrameBlind (va_Pc [.ref h1, .int (-1)] (fun U => zwA J h1 1 (fun _ => .inl (J.2.2 0, 8, .inl (fun _ => 0))) U.heap ∧ zKJ J U)) := fun a U g mk q => by
  obtain ⟨q0, q1, q2⟩ := q
  exact ⟨q0, q1, q2.blind⟩
theorem zw_fill {idx : Nat} (X : zJw J cc own nL p s m args c) (A : zwA J h0 (n + 1) ce H) (B : zwB h0 s.heap H locs) (he : ce n = .inl (J.2.2 0, 8, .inl (fun _ => 0))) (hdg : decode cc pc = .ok (.invokestatic idx, 3)) (hlink : Cond.methodLink own idx yJ7_fill_53178 ∈ lw_good) (hfr : 1 ≤ R.frames) (hlo : 59 ≤ R.locals) (hw : (rest.map fun v => v.category).sum ≤ 8) (hls : ls.size = nL) (hcells : cells ≤ R.cells) (hslots : slots ≤ R.slots)
    (kk : ∀ (H1 : Heap) (locs1 : List Loc), zwA J h0 (n + 1) (fun i => if i < n then ce i else .inl (J.2.2 0, 8, .inl zSz)) H1 → zwB h0 s.heap H1 locs1 → W p J.1 e R s m args below meth c H1 locs1 cells slots Q (F0 m (pc + 3) ls rest)) : W p J.1 e R s m args below meth c H locs cells slots Q (F0 m pc ls (.int (-1) :: .ref (h0 + n) :: rest)) := by
  obtain ⟨x1, x2, x3, x4, x5, x6⟩ := id X
  have hy := zy_J7_fill_53178
  have hat := A.2 n (by omega)
  rw [he] at hat
  refine zw_after (mc := 0) (ms := 0) (ci := 0) (fs := []) (d1 := 0) (F := fun _ _ => .inl (J.2.2 0, 8, .inl zSz)) A B (va_runS (As := [.ref (h0 + n), .int (-1)]) (rest := rest) (own := own) ⟨x1, x2, x3, x4, x5⟩ (c_fill (h0 + n)) ⟨callB_of 2 x5 (zgoodIn hy.2.1) rfl rfl rfl (x5 _ hy.2.2.1) (x5 _ hlink) hy.1 ⟨hfr, ?_⟩, x5 _ hy.2.2.2.2⟩ ⟨zblindF, fun U hU hW => ⟨rfl, ⟨by rw [hU, A.1]; omega, fun i hi => by rw [show i = 0 by omega, hU]; exact hat⟩, x6.to hW⟩⟩ rfl rfl hls rfl (lv_room hw) hdg ⟨hcells, hslots⟩) (fun H1 locs1 A B => kk H1 locs1 A B)
  show 8 + (4 + 11) + 64 * 0 ≤ R.locals
  omega
/-- the rows' cells -/
def zcs3 (J : zJ) (h i : Nat) : va_E := match i with
  | 0 => .inr (3, [.ref (h + 1), .ref (h + 10), .ref (h + 11)])
  | 1 => .inl (J.2.2 2, 8, .inr (.inr (.inr (.inr (fun j => if j < 8 then some (h + 1 + 1 + j) else none)))))
  | 10 => .inl (J.2.2 0, 8, .inl (fun _ => 0))
  | 11 => .inl (J.2.2 0, 8, .inl zSz)
  | _ => .inl (J.2.2 0, 40, .inl (fun _ => 0))
set_option maxHeartbeats 4000000 in
set_option maxRecDepth 100000 in
theorem i_X3 : zIC J 1 zm_X3_init [] 3 zfs3 11 (zcs3 J) 344 := by
  refine zIC.of (by decide +kernel) rfl rfl (fun _ => Nat.le_of_ble_eq_true rfl) ?_
  intro h0 p e s m args below meth c ls X hr hlk hnm A B hl
  have hls := hl.1
  refine lv_aload_n X.1 X.2.1 dX3_init_0 rfl (hl.2.2 0 _ rfl) ?_
  refine zw_obj X (lw_goodAt 70 (by decide +kernel) (by decide +kernel)) hls dX3_init_1 (Nat.le_of_ble_eq_true rfl) (Nat.le_of_ble_eq_true rfl) (Nat.le_of_ble_eq_true rfl) ?_
  refine lv_aload_n X.1 X.2.1 dX3_init_4 rfl (hl.2.2 0 _ rfl) ?_
  refine lv_bipush (v := nI 8) X.1 X.2.1 dX3_init_5 (by decide) ?_
  refine lv_bipush (v := nI 40) X.1 X.2.1 dX3_init_7 (by decide) ?_
  refine zw_multi (n := 1) X A B (lw_goodAt 71 (by decide +kernel) (by decide +kernel)) (Nat.le_of_ble_eq_true rfl) (Nat.le_of_ble_eq_true rfl) dX3_init_9 (fun H1 locs1 A B => ?_)
  refine zw_putF (k := 0) (f := 0) X hnm A B (by omega) rfl rfl zin_X3 tyX3 tyX3_ok nmX3 (by decide) rfl rfl zl_X3_11 rfl (tyX3_ok 0 (by decide)) rfl rfl (Nat.le_of_ble_eq_true rfl) dX3_init_13 (fun H2 locs2 A B => ?_)
  refine lv_aload_n X.1 X.2.1 dX3_init_16 rfl (hl.2.2 0 _ rfl) ?_
  refine lv_bipush (v := nI 8) X.1 X.2.1 dX3_init_17 (by decide) ?_
  refine zw_newi (N := 8) X A B (by decide) (by decide) (by decide) (Nat.le_of_ble_eq_true rfl) (Nat.le_of_ble_eq_true rfl) dX3_init_19 (fun H3 A B => ?_)
  refine zw_putF (k := 0) (f := 1) X hnm A B (by omega) rfl rfl zin_X3 tyX3 tyX3_ok nmX3 (by decide) rfl rfl zl_X3_16 rfl (tyX3_ok 1 (by decide)) rfl rfl (Nat.le_of_ble_eq_true rfl) dX3_init_21 (fun H4 locs4 A B => ?_)
  refine lv_aload_n X.1 X.2.1 dX3_init_24 rfl (hl.2.2 0 _ rfl) ?_
  refine lv_bipush (v := nI 8) X.1 X.2.1 dX3_init_25 (by decide) ?_
  refine zw_newi (N := 8) X A B (by decide) (by decide) (by decide) (Nat.le_of_ble_eq_true rfl) (Nat.le_of_ble_eq_true rfl) dX3_init_27 (fun H5 A B => ?_)
  refine zw_putF (k := 0) (f := 2) X hnm A B (by omega) rfl rfl zin_X3 tyX3 tyX3_ok nmX3 (by decide) rfl rfl zl_X3_20 rfl (tyX3_ok 2 (by decide)) rfl rfl (Nat.le_of_ble_eq_true rfl) dX3_init_29 (fun H6 locs6 A B => ?_)
  refine lv_aload_n X.1 X.2.1 dX3_init_32 rfl (hl.2.2 0 _ rfl) ?_
  refine zw_get (k := 0) (f := 2) X A (by omega) rfl rfl zin_X3 (by decide) rfl zl_X3_20 rfl dX3_init_33 ?_
  refine lv_iconst (v := -1) X.1 X.2.1 dX3_init_36 (by decide) ?_
  refine zw_fill (n := 11) X A B rfl dX3_init_37 zl_X3_23 (Nat.le_of_ble_eq_true rfl) (Nat.le_of_ble_eq_true rfl) (Nat.le_of_ble_eq_true rfl) hls (Nat.le_of_ble_eq_true rfl) (Nat.le_of_ble_eq_true rfl) (fun H7 locs7 A B => ?_)
  refine zw_ret X hr hlk A (fun i hi => ?_) B dX3_init_40
  rcases (show i = 0 ∨ i = 1 ∨ i = 2 ∨ i = 3 ∨ i = 4 ∨ i = 5 ∨ i = 6 ∨ i = 7 ∨ i = 8 ∨ i = 9 ∨ i = 10 ∨ i = 11 by omega) with rfl | rfl | rfl | rfl | rfl | rfl | rfl | rfl | rfl | rfl | rfl | rfl <;> rfl
def zrf (c : ClassId) (n : Nat) (f : Nat → Option Nat) : va_E := .inl (c, n, .inr (.inr (.inr (.inr f))))
/-- the acts' cells, i squares laid -/
def zcs0 (J : zJ) (h i j : Nat) : va_E := if j = 0 then .inr (0, [.ref (h + 1), .int 0, .int 0]) else if j = 1 then .inl (J.2.2 1, 24, .inr (.inr (.inr (.inr (fun q => if q < i then some (h + 2 + 5 * q) else none))))) else zcs4 J (h + 2 + 5 * ((j - 2) / 5)) ((j - 2) % 5)
set_option maxHeartbeats 4000000 in
set_option maxRecDepth 100000 in
theorem ac_loop (X : zJw J cX0_init RX0 2 p s m args c) (hr : meth.sig.returnType = none) (hlk : meth.locks = false) : ∀ (k i : Nat) (H : Heap) (locs : List Loc) (ls : Array Slot), i + k = 24 → zwA J h0 (2 + 5 * i) (zcs0 J h0 i) H → zwB h0 s.heap H locs → zlo ls 2 [some (.ref h0), some (.int (nI i))] → W p J.1 e (zrJ 2 121 912) s m args below meth c H locs (1 + 5 * i) (24 + 37 * i) (MQ below (zQJ J h0 (121 + 1) (zcs0 J h0 24)) args s 121 912 (fun q => h0 ≤ q)) (F0 m 15 ls []) := by
  intro k
  induction k with
  | zero =>
    intro i H locs ls hi A B hl
    obtain rfl : i = 24 := by omega
    refine lv_iload_n X.1 X.2.1 dX0_init_15 rfl (hl.2.2 1 _ rfl) ?_
    refine lv_bipush (v := nI 24) X.1 X.2.1 dX0_init_16 (by decide) ?_
    refine lv_icmp_ge (tgt := 40) X.1 X.2.1 dX0_init_18 (by decide) (fun _ => ?_) (fun q => absurd (by decide) q)
    exact zw_ret X hr hlk A (fun _ _ => rfl) B dX0_init_40
  | succ k ih =>
    intro i H locs ls hi A B hl
    have hls := hl.1
    refine lv_iload_n X.1 X.2.1 dX0_init_15 rfl (hl.2.2 1 _ rfl) ?_
    refine lv_bipush (v := nI 24) X.1 X.2.1 dX0_init_16 (by decide) ?_
    refine lv_icmp_ge (tgt := 40) X.1 X.2.1 dX0_init_18 (by decide) (fun q => absurd q (nI_ge (by omega) (by omega))) (fun _ => ?_)
    refine lv_aload_n X.1 X.2.1 dX0_init_21 rfl (hl.2.2 0 _ rfl) ?_
    refine zw_get (k := 0) (f := 0) X A (by omega) rfl rfl zin_X0 (by decide) rfl zl_X0_11 rfl dX0_init_22 ?_
    refine lv_iload_n X.1 X.2.1 dX0_init_25 rfl (hl.2.2 1 _ rfl) ?_
    refine zw_new (fs := zfs4) X A B zin_X4 tyX4 tyX4_ok (lw_goodAt 204 (by decide +kernel) (by decide +kernel)) (lw_goodAt 94 (by decide +kernel) (by decide +kernel)) (lw_goodAt 49 (by decide +kernel) (by decide +kernel)) (ci := 4) rfl (by decide) (show 1 + 5 * i + 1 ≤ 121 by omega) (show 24 + 37 * i + 13 ≤ 912 by omega) dX0_init_26 (fun H1 A B => ?_)
    refine lv_dup X.1 X.2.1 dX0_init_29 rfl ?_
    refine zw_initN (host := "NameNoon") (n := 2 + 5 * i) (av := []) X A B (va_up_self _ _ _) dX0_init_30 (List.mem_of_getElem? (i := 206) (by decide +kernel)) zyi_X4 (Nat.le_of_ble_eq_true rfl) (Nat.le_of_ble_eq_true rfl) (Nat.le_of_ble_eq_true rfl) i_X4 hls (show 1 + 5 * i + 1 + 4 ≤ 121 by omega) (show 24 + 37 * i + 13 + 24 ≤ 912 by omega) (fun H2 locs2 A B => ?_)
    have A2 : zwA J h0 (2 + 5 * i + 1 + 4) (zcs0 J h0 i) H2 := A.cong (fun j hj => by
      by_cases q : j < 2 + 5 * i
      · rw [if_pos q, va_up_ne _ _ (by omega)]
      · rw [if_neg q]
        unfold zcs0
        rw [if_neg (by omega), if_neg (by omega), show (j - 2) / 5 = i by omega, show (j - 2) % 5 = j - (2 + 5 * i) by omega, Nat.add_assoc h0 2])
    refine zw_aast (k := 1) (i := i) (q := 2 + 5 * i) X A2 B (by omega) rfl (by omega) (vs := [.int 0, .int 0, .int 0, .int 0, .int 0, .int 0, .int 0, .int (-1000000), .int 0, .ref (h0 + 2 + 5 * i + 1), .ref (h0 + 2 + 5 * i + 2), .ref (h0 + 2 + 5 * i + 3), .ref (h0 + 2 + 5 * i + 4)]) ?_ rfl (by omega) (by decide) dX0_init_33 (fun H3 locs3 A B => ?_)
    · unfold zcs0
      rw [if_neg (by omega), if_neg (by omega), show (2 + 5 * i - 2) / 5 = i by omega, show (2 + 5 * i - 2) % 5 = 0 by omega]
      rfl
    · obtain ⟨kk, hkk⟩ := List.getElem?_of_mem (zll_of [some (.ref h0), some (.int (nI i))] 0 1 (.int (nI i)) rfl)
      refine lv_iinc X.1 X.2.1 dX0_init_34 hl.has (k := kk) (x := nI i) (v := nI (i + 1)) (by rw [hkk]) (zi1 i) (by decide) rfl (fun ls2 h2 => ?_)
      refine lv_goto (tgt := 15) X.1 X.2.1 dX0_init_37 (by decide) ?_
      refine W.widen (k := 1 + 5 * (i + 1)) (n := 24 + 37 * (i + 1)) (by omega) (by omega) ?_
      rw [show 2 + 5 * i + 1 + 4 = 2 + 5 * (i + 1) by omega] at A
      refine ih (i + 1) H3 locs3 ls2 (by omega) (A.cong (fun j hj => ?_)) B (zlo_store1 rfl h2)
      by_cases q : j = 1
      · subst q
        rw [va_up_self]
        show zrf (J.2.2 1) 24 (va_up (fun q => if q < i then some (h0 + 2 + 5 * q) else none) i (some (h0 + (2 + 5 * i)))) = zrf (J.2.2 1) 24 (fun q => if q < i + 1 then some (h0 + 2 + 5 * q) else none)
        have ef : va_up (fun q => if q < i then some (h0 + 2 + 5 * q) else none) i (some (h0 + (2 + 5 * i))) = (fun q => if q < i + 1 then some (h0 + 2 + 5 * q) else none) := by
          funext t
          by_cases z : t = i
          · subst z
            rw [va_up_self, if_pos (by omega), Nat.add_assoc]
          · rw [va_up_ne _ _ z]
            by_cases y : t < i
            · rw [if_pos y, if_pos (by omega)]
            · rw [if_neg y, if_neg (by omega)]
        rw [ef]
      · rw [va_up_ne _ _ q]
        unfold zcs0
        by_cases z : j = 0
        · rw [if_pos z, if_pos z]
        · rw [if_neg z, if_neg z, if_neg q, if_neg q]
set_option maxHeartbeats 4000000 in
set_option maxRecDepth 100000 in
theorem i_X0 : zIC J 2 zm_X0_init [] 0 zfs0 121 (fun h => zcs0 J h 24) 912 := by
  refine zIC.of (by decide +kernel) rfl rfl (fun _ => Nat.le_of_ble_eq_true rfl) ?_
  intro h0 p e s m args below meth c ls X hr hlk hnm A B hl
  have hls := hl.1
  refine lv_aload_n X.1 X.2.1 dX0_init_0 rfl (hl.2.2 0 _ rfl) ?_
  refine zw_obj X (lw_goodAt 203 (by decide +kernel) (by decide +kernel)) hls dX0_init_1 (Nat.le_of_ble_eq_true rfl) (Nat.le_of_ble_eq_true rfl) (Nat.le_of_ble_eq_true rfl) ?_
  refine lv_aload_n X.1 X.2.1 dX0_init_4 rfl (hl.2.2 0 _ rfl) ?_
  refine lv_bipush (v := nI 24) X.1 X.2.1 dX0_init_5 (by decide) ?_
  refine zw_anew (N := 24) X A B (lw_goodAt 204 (by decide +kernel) (by decide +kernel)) (by decide) (by decide) (by decide) (Nat.le_of_ble_eq_true rfl) (Nat.le_of_ble_eq_true rfl) dX0_init_7 (fun H1 A B => ?_)
  refine zw_putF (k := 0) (f := 0) X hnm A B (by omega) rfl rfl zin_X0 tyX0 tyX0_ok nmX0 (by decide) rfl rfl zl_X0_11 rfl (tyX0_ok 0 (by decide)) rfl rfl (Nat.le_of_ble_eq_true rfl) dX0_init_10 (fun H2 locs2 A B => ?_)
  refine lv_iconst (v := nI 0) X.1 X.2.1 dX0_init_13 (by decide) ?_
  refine lv_istore_n X.1 X.2.1 dX0_init_14 rfl hl.has (by decide) rfl (fun ls2 h2 => ?_)
  have hl2 : zlo ls2 2 [some (.ref h0), some (.int (nI 0))] := zlo_store1 rfl h2
  refine ac_loop X hr hlk 24 0 _ _ ls2 rfl (A.cong (fun j hj => ?_)) B hl2
  rcases (show j = 0 ∨ j = 1 by omega) with rfl | rfl
  · rfl
  · show zrf (J.2.2 1) 24 (fun _ => none) = zrf (J.2.2 1) 24 (fun q => if q < 0 then some (h0 + 2 + 5 * q) else none)
    have ef : (fun _ => none : Nat → Option Nat) = (fun q => if q < 0 then some (h0 + 2 + 5 * q) else none) := by
      funext t
      rw [if_neg (by omega)]
    rw [ef]
end ZMr
