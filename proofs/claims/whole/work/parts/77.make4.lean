section ZMp
variable {J : zJ} {h0 n : Nat} {ce : Nat → va_E} {H H1 : Heap} {x : va_E} {locs : List Loc} {H0 : Heap}
variable {p : Program} {e : Env} {R : Room} {s : State} {m : MethodId} {args : Array Value} {below : List Frame} {meth : Method} {c : Code} {cells slots : Nat} {Q : State → Prop} {cc : ByteArray} {own : String} {nL pc : Nat} {ls : Array Slot} {rest : List Value}
theorem zIC.of {mi : zM} {d ci mc ms : Nat} {av fs : List Value} {F : Nat → Nat → va_E} (hy : plainFor mi.1 = true) (hnm : mi.1.name = "<init>") (hret : mi.2.2.2 = none) (hlen : ∀ h0 : Nat, (lg_sl (.ref h0 :: av)).length ≤ mi.2.2.1)
    (body : ∀ (h0 : Nat) (p : Program) (e : Env) (s : State) (m : MethodId) (args : Array Value) (below : List Frame) (meth : Method) (c : Code) (ls : Array Slot), zJw J mi.2.1 mi.1.cls mi.2.2.1 p s m args c → meth.sig.returnType = none → meth.locks = false → meth.name = "<init>" → zwA J h0 1 (fun _ => .inr (ci, fs)) s.heap → zwB h0 s.heap s.heap [] → zlo ls mi.2.2.1 (zargs (.ref h0 :: av) ++ List.replicate (mi.2.2.1 - (lg_sl (.ref h0 :: av)).length) none) → W p J.1 e (zrJ d mc ms) s m args below meth c s.heap [] 0 0 (MQ below (zQJ J h0 (mc + 1) (F h0)) args s mc ms (fun q => h0 ≤ q)) (F0 m 0 ls [])) : zIC J d mi av ci fs mc F ms := by
  intro h0
  refine va_MetF (cc := mi.2.1) (maxL := mi.2.2.1) (ret := mi.2.2.2) hy rfl ?_
  intro p e s m args below meth c s₁ B hml hv
  obtain ⟨rfl, hA, hK⟩ := hv
  have hts := atoms_spec (ws := zws mi) B.pre
  have hown : s.vm.findClass mi.1.cls = some m.cls := findClass_of_methodNamed B.named
  have hin : meth.name = mi.1.name := (name_of_methodNamed B.named B.method).1
  have hl := lv_entry (.ref h0 :: av) (n := mi.2.2.1) (hlen h0)
  rw [lg_entry_eq]
  refine body h0 p e s m _ below meth c _ ⟨B.exec, B.bytes, hml, hown, fun w hw => hts w (List.mem_cons_of_mem _ hw), hK⟩ (B.returns.trans hret) B.notSynchronized (hin.trans hnm) hA ⟨fun q _ => rfl, fun _ h => absurd h List.not_mem_nil⟩ ⟨hl.1, hl.2.1, fun i v hi => ?_⟩
  by_cases hlt : i < (zargs (.ref h0 :: av)).length
  · rw [List.getElem?_append_left hlt] at hi
    have := zargs_at (.ref h0 :: av) i v hi 0
    rw [Nat.zero_add] at this
    exact hl.2.2 _ this
  · rw [List.getElem?_append_right (by omega)] at hi
    have := List.mem_of_getElem? hi
    rw [List.mem_replicate] at this
    exact absurd this.2 (by simp)
theorem zw_obj {idx : Nat} {v : Nat} (X : zJw J cc own nL p s m args c) (hlink : Cond.methodLink own idx Lib.objectInit ∈ lw_good) (hls : ls.size = nL) (hdg : decode cc pc = .ok (.invokespecial idx, 3)) (hw : (rest.map fun v => v.category).sum ≤ 8) (hfr : 1 ≤ R.frames) (hlo : 20 ≤ R.locals) (kk : W p J.1 e R s m args below meth c H locs cells slots Q (F0 m (pc + 3) ls rest)) : W p J.1 e R s m args below meth c H locs cells slots Q (F0 m pc ls (.ref v :: rest)) := by
  obtain ⟨x1, x2, x3, x4, x5, x6⟩ := X
  refine W.objInit x1 x2 x4 (x5 _ hlink) (x5 _ (lw_goodAt 63 (by decide +kernel) (by decide +kernel))) (x5 _ (lw_goodAt 64 (by decide +kernel) (by decide +kernel))) rfl (hls.trans x3.symm) rfl hdg hfr ?_ kk
  have := lv_room (m := m) (pc := pc) (ls := ls) (rest := rest) (st := rest) hw
  exact Nat.le_trans (Nat.add_le_add_right this 12) hlo
theorem zw_anew {index N : Nat} {v : Int32} (X : zJw J cc own nL p s m args c) (A : zwA J h0 n ce H) (B : zwB h0 s.heap H locs) (hclink : Cond.classLink own index "NameNoon$Square" ∈ lw_good) (hn : ¬ v < 0) (hN : v.toNatClampNeg = N) (hbytes : N * 4 ≤ 536870912) (hcells : cells + 1 ≤ R.cells) (hslots : slots + N ≤ R.slots) (hdg : decode cc pc = .ok (.anewarray index, 3))
    (kk : ∀ H1 : Heap, zwA J h0 (n + 1) (va_up ce n (.inl (J.2.2 1, N, .inr (.inr (.inr (.inr (fun _ => none))))))) H1 → zwB h0 s.heap H1 locs → W p J.1 e R s m args below meth c H1 locs (cells + 1) (slots + N) Q (F0 m (pc + 3) ls (.ref (h0 + n) :: rest))) : W p J.1 e R s m args below meth c H locs cells slots Q (F0 m pc ls (.int v :: rest)) := by
  subst hN
  obtain ⟨x1, x2, x3, x4, x5, x6⟩ := X
  refine W.anew x1 x2 x4 (x5 _ hclink) (va_AO.use x6.2.2.1) rfl hdg rfl hn hbytes hcells hslots fun cA kA comp f1 f2 f3 f4 => ?_
  obtain ⟨_, _, _, _, _, g4⟩ := (x6.1.2 1 _ rfl).2
  have hc : cA = J.2.2 1 := Option.some.inj (f1.symm.trans g4)
  subst hc
  generalize hH1 : H.push ({ cls := J.2.2 1, slots := Array.replicate v.toNatClampNeg .null, vm := .none } : Cell) = H1
  have z1 : H1.size = H.size + 1 := by rw [← hH1, Array.size_push]
  have e1 : H1[H.size]? = some (arrV (J.2.2 1) v.toNatClampNeg (fun _ => .null)) := by rw [← hH1, Array.getElem?_push_size, ← arrV_new]
  have o1 : ∀ q : Nat, q < H.size → H1[q]? = H[q]? := fun q hq => by rw [← hH1, Array.getElem?_push, if_neg (Nat.ne_of_lt hq)]
  rw [A.1] at e1
  have k2 := kk H1 (A.push z1 o1 e1) (B.push A o1)
  rw [← A.1] at k2
  exact k2
theorem zw_aast {k i N q : Nat} {y : Int32} {vs : List Value} {f : Nat → Option Nat} (X : zJw J cc own nL p s m args c) (A : zwA J h0 n ce H) (B : zwB h0 s.heap H locs) (hkn : k < n) (he : ce k = .inl (J.2.2 1, N, .inr (.inr (.inr (.inr f))))) (hqn : q < n) (hqe : ce q = .inr (4, vs)) (hx : y = nI i) (hi : i < N) (hN : N < 2 ^ 31) (hdg : decode cc pc = .ok (.aastore, 1))
    (kk : ∀ (H1 : Heap) (locs1 : List Loc), zwA J h0 n (va_up ce k (.inl (J.2.2 1, N, .inr (.inr (.inr (.inr (va_up f i (some (h0 + q))))))))) H1 → zwB h0 s.heap H1 locs1 → W p J.1 e R s m args below meth c H1 locs1 cells slots Q (F0 m (pc + 1) ls rest)) : W p J.1 e R s m args below meth c H locs cells slots Q (F0 m pc ls (.ref (h0 + q) :: .int y :: .ref (h0 + k) :: rest)) := by
  subst hx
  obtain ⟨x1, x2, x3, x4, x5, x6⟩ := X
  have hat := A.2 k hkn
  rw [he] at hat
  have hav := A.2 q hqn
  rw [hqe] at hav
  obtain ⟨r', hr', cellV, g1, g2, g3, -⟩ := hav
  have hcls := (x6.1.1 4 (RX4, TX4, 13) rfl).2
  obtain ⟨kA, comp, k1, k2, k3, -⟩ := (x6.1.2 1 _ rfl).2
  have hcomp : comp = J.2.1.1 4 := Option.some.inj (k3.symm.trans hcls.1)
  subst hcomp
  obtain ⟨kC, hkC, -⟩ := hcls.2
  have hin : vp_in (nI i) N := vp_in_nI hi hN
  refine W.aast x1 x2 hat (fun q h => by cases h) (fun h => by cases h) k1 k2 rfl hkC ⟨fun z => hin (Or.inl z), by show _ < (arrV _ _ _).slots.size; rw [arrV_size, nI_clamp (by omega)]; exact hi⟩ g1 (fun q h => by rw [g3] at h; cases h) (by rw [g2]; exact hkC) (by rw [g2]; exact va_assign hcls) rfl rfl hdg fun H1 e z oq => ?_
  refine kk H1 _ (A.set hkn z oq ?_) (B.set oq)
  show H1[h0 + k]? = some (vp_cell _ _)
  rw [e]
  rw [vp_cell_q, vp_cell_q, arrV_store, nI_clamp (by omega)]
  refine congrArg some (congrArg (arrV (J.2.2 1) N) (funext fun q => ?_))
  by_cases hq : q = i
  · subst hq
    simp [updV, va_up, va_rf]
  · simp [updV, va_up, hq]
theorem zw_ret {K : Nat} {F : Nat → va_E} (X : zJw J cc own nL p s m args c) (hr : meth.sig.returnType = none) (hlk : meth.locks = false) (A : zwA J h0 K ce H) (hF : ∀ i, i < K → ce i = F i) (B : zwB h0 s.heap H locs) (hdg : decode cc pc = .ok (.return_, 1)) : W p J.1 e R s m args below meth c H locs cells slots (MQ below (zQJ J h0 K F) args s cells slots (fun q => h0 ≤ q)) (F0 m pc ls []) :=
  W.vret X.1 X.2.1 hr (fun t ht _ => ⟨rfl, by rw [ht]; exact A.cong hF, fun q hq => by rw [ht]; exact B.1 q hq⟩) B.2 hdg hlk
/-- a square's cells -/
def zcs4 (J : zJ) (h i : Nat) : va_E := if i = 0 then .inr (4, [.int 0, .int 0, .int 0, .int 0, .int 0, .int 0, .int 0, .int (-1000000), .int 0, .ref (h + 1), .ref (h + 2), .ref (h + 3), .ref (h + 4)]) else .inl (J.2.2 0, 6, .inl (fun _ => 0))
def zfs4 : List Value := [.int 0, .int 0, .int 0, .int 0, .int 0, .int 0, .int 0, .int 0, .int 0, .null, .null, .null, .null]
set_option maxHeartbeats 4000000 in
set_option maxRecDepth 100000 in
theorem i_X4 : zIC J 1 zm_X4_init [] 4 zfs4 4 (zcs4 J) 24 := by
  refine zIC.of (by decide +kernel) rfl rfl (fun _ => Nat.le_of_ble_eq_true rfl) ?_
  intro h0 p e s m args below meth c ls X hr hlk hnm A B hl
  have hls := hl.1
  refine lv_aload_n X.1 X.2.1 dX4_init_0 rfl (hl.2.2 0 _ rfl) ?_
  refine zw_obj X (lw_goodAt 98 (by decide +kernel) (by decide +kernel)) hls dX4_init_1 (Nat.le_of_ble_eq_true rfl) (Nat.le_of_ble_eq_true rfl) (Nat.le_of_ble_eq_true rfl) ?_
  refine lv_aload_n X.1 X.2.1 dX4_init_4 rfl (hl.2.2 0 _ rfl) ?_
  refine lv_ldc X.1 X.2.1 X.2.2.2.1 (X.2.2.2.2.1 (Cond.constant RX4 9 (-1000000)) (lw_goodAt 99 (by decide +kernel) (by decide +kernel))) dX4_init_5 ?_
  refine zw_put (k := 0) (f := 7) X A B (by omega) rfl rfl zin_X4 tyX4 tyX4_ok nmX4 (by decide) rfl zl_X4_10 rfl (tyX4_ok 7 (by decide)) rfl rfl (Nat.le_of_ble_eq_true rfl) dX4_init_7 (fun H1 locs1 A B => ?_)
  refine lv_aload_n X.1 X.2.1 dX4_init_10 rfl (hl.2.2 0 _ rfl) ?_
  refine lv_bipush (v := nI 6) X.1 X.2.1 dX4_init_11 (by decide) ?_
  refine zw_newi (N := 6) X A B (by decide) (by decide) (by decide) (Nat.le_of_ble_eq_true rfl) (Nat.le_of_ble_eq_true rfl) dX4_init_13 (fun H2 A B => ?_)
  refine zw_putF (k := 0) (f := 9) X hnm A B (by omega) rfl rfl zin_X4 tyX4 tyX4_ok nmX4 (by decide) rfl rfl zl_X4_16 rfl (tyX4_ok 9 (by decide)) rfl rfl (Nat.le_of_ble_eq_true rfl) dX4_init_15 (fun H3 locs3 A B => ?_)
  refine lv_aload_n X.1 X.2.1 dX4_init_18 rfl (hl.2.2 0 _ rfl) ?_
  refine lv_bipush (v := nI 6) X.1 X.2.1 dX4_init_19 (by decide) ?_
  refine zw_newi (N := 6) X A B (by decide) (by decide) (by decide) (Nat.le_of_ble_eq_true rfl) (Nat.le_of_ble_eq_true rfl) dX4_init_21 (fun H4 A B => ?_)
  refine zw_putF (k := 0) (f := 10) X hnm A B (by omega) rfl rfl zin_X4 tyX4 tyX4_ok nmX4 (by decide) rfl rfl zl_X4_20 rfl (tyX4_ok 10 (by decide)) rfl rfl (Nat.le_of_ble_eq_true rfl) dX4_init_23 (fun H5 locs5 A B => ?_)
  refine lv_aload_n X.1 X.2.1 dX4_init_26 rfl (hl.2.2 0 _ rfl) ?_
  refine lv_bipush (v := nI 6) X.1 X.2.1 dX4_init_27 (by decide) ?_
  refine zw_newi (N := 6) X A B (by decide) (by decide) (by decide) (Nat.le_of_ble_eq_true rfl) (Nat.le_of_ble_eq_true rfl) dX4_init_29 (fun H6 A B => ?_)
  refine zw_putF (k := 0) (f := 11) X hnm A B (by omega) rfl rfl zin_X4 tyX4 tyX4_ok nmX4 (by decide) rfl rfl zl_X4_23 rfl (tyX4_ok 11 (by decide)) rfl rfl (Nat.le_of_ble_eq_true rfl) dX4_init_31 (fun H7 locs7 A B => ?_)
  refine lv_aload_n X.1 X.2.1 dX4_init_34 rfl (hl.2.2 0 _ rfl) ?_
  refine lv_bipush (v := nI 6) X.1 X.2.1 dX4_init_35 (by decide) ?_
  refine zw_newi (N := 6) X A B (by decide) (by decide) (by decide) (Nat.le_of_ble_eq_true rfl) (Nat.le_of_ble_eq_true rfl) dX4_init_37 (fun H8 A B => ?_)
  refine zw_putF (k := 0) (f := 12) X hnm A B (by omega) rfl rfl zin_X4 tyX4 tyX4_ok nmX4 (by decide) rfl rfl zl_X4_26 rfl (tyX4_ok 12 (by decide)) rfl rfl (Nat.le_of_ble_eq_true rfl) dX4_init_39 (fun H9 locs9 A B => ?_)
  refine zw_ret X hr hlk A (fun i hi => ?_) B dX4_init_42
  rcases (show i = 0 ∨ i = 1 ∨ i = 2 ∨ i = 3 ∨ i = 4 by omega) with rfl | rfl | rfl | rfl | rfl <;> rfl
end ZMp
