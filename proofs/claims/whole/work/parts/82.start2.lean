set_option maxHeartbeats 4000000 in
set_option maxRecDepth 100000 in
theorem whole_start {p : Program} {e : Env} {s : State} {m : MethodId} {below : List Frame} {meth : Method} {c : Code} (l : Launch) (hflags : l.flags = flags0) {b L : Nat} {xs : Nat → Int32} (hL : L ≤ 3072) (C0 : lw_At p s m meth c b L xs) : W p l e room_1 s m #[Value.ref b] below meth c s.heap [] 0 0 (lw_Z below #[Value.ref b] s) (entryFrame m ([Value.ref b] : List Value).toArray 4) := by
  obtain ⟨x1, x2, x3, x4, x5, x6, x7, x8, x9, x10⟩ := id C0
  have hts : ∀ w ∈ lw_good, w.before #[Value.ref b] s = true := fun w hw => x6 w (List.mem_filter.mp hw).1
  obtain ⟨c0, i0, k0⟩ := u_known (C := RX0) (T := TX0) (N := 3) (n := 3) hts zin_X0 (hts _ (lw_goodAt 199 (by decide +kernel) (by decide +kernel)))
  obtain ⟨c1, i1, k1⟩ := u_known (C := RX1) (T := TX1) (N := 3) (n := 3) hts zin_X1 (hts _ (lw_goodAt 234 (by decide +kernel) (by decide +kernel)))
  obtain ⟨c2, i2, k2⟩ := u_known (C := RX2) (T := TX2) (N := 2) (n := 2) hts zin_X2 (hts _ (lw_goodAt 219 (by decide +kernel) (by decide +kernel)))
  obtain ⟨c3, i3, k3⟩ := u_known (C := RX3) (T := TX3) (N := 3) (n := 3) hts zin_X3 (hts _ (lw_goodAt 66 (by decide +kernel) (by decide +kernel)))
  obtain ⟨c4, i4, k4⟩ := u_known (C := RX4) (T := TX4) (N := 13) (n := 13) hts zin_X4 (hts _ (lw_goodAt 94 (by decide +kernel) (by decide +kernel)))
  obtain ⟨c5, i5, k5⟩ := u_known (C := RX5) (T := TX5) (N := 7) (n := 7) hts zin_X5 (hts _ (lw_goodAt 88 (by decide +kernel) (by decide +kernel)))
  obtain ⟨c6, i6, k6⟩ := u_known (C := RX6) (T := TX6) (N := 10) (n := 10) hts zin_X6 (hts _ (lw_goodAt 58 (by decide +kernel) (by decide +kernel)))
  obtain ⟨c7, i7, k7⟩ := u_known (C := RX7) (T := TX7) (N := 23) (n := 23) hts zin_X7 (hts _ (lw_goodAt 779 (by decide +kernel) (by decide +kernel)))
  obtain ⟨a0, kA0, e0, f0, g0, j0⟩ := Cond.arrayClass_spec (hts (Cond.arrayClass .int) (lw_goodAt 86 (by decide +kernel) (by decide +kernel)))
  obtain ⟨e1, a1, kA1, f1, f1b, g1, j1, l1⟩ := Cond.arrayOver_spec (x6 (Cond.arrayOver (.object "NameNoon$Square")) (List.mem_of_getElem? (i := 205) (by decide +kernel)))
  obtain ⟨e2, a2, kA2, f2, g2, j2, l2⟩ := zAO2 (x6 (Cond.arrayOver (.array .int)) (List.mem_of_getElem? (i := 72) (by decide +kernel)))
  obtain ⟨a3, kA3, e3, f3, g3, j3⟩ := Cond.arrayClass_spec (hts (Cond.arrayClass .boolean) (lw_goodAt 854 (by decide +kernel) (by decide +kernel)))
  have he2 : e2 = a0 := Option.some.inj (f2.symm.trans f0)
  subst he2
  obtain ⟨J, hJ, hK⟩ : ∃ J : zJ, J.1 = l ∧ zKJ J s := by
    refine ⟨(l, (fun k => match k with | 0 => c0 | 1 => c1 | 2 => c2 | 3 => c3 | 4 => c4 | 5 => c5 | 6 => c6 | _ => c7, fun k => match k with | 0 => i0 | 1 => i1 | 2 => i2 | 3 => i3 | 4 => i4 | 5 => i5 | 6 => i6 | _ => i7), fun k => match k with | 0 => e2 | 1 => a1 | 2 => a2 | _ => a3), rfl, ⟨fun k q hq => ?_, fun k q hq => ?_⟩, fun w hw hn => va_Nw.of (by cases w <;> first | rfl | cases hn) (x6 w hw), va_AO.of (x6 (Cond.arrayOver (.object "NameNoon$Square")) (List.mem_of_getElem? (i := 205) (by decide +kernel))), kA2, g2, j2⟩
    · match k, hq with
      | 0, hq => cases hq; exact k0
      | 1, hq => cases hq; exact k1
      | 2, hq => cases hq; exact k2
      | 3, hq => cases hq; exact k3
      | 4, hq => cases hq; exact k4
      | 5, hq => cases hq; exact k5
      | 6, hq => cases hq; exact k6
      | 7, hq => cases hq; exact k7
      | k + 8, hq => simp [vwCl] at hq
    · match k, hq with
      | 0, hq => cases hq; exact ⟨fun n z => ⟨fun k h => (by cases h), kA0, g0, e0, j0⟩, f0⟩
      | 1, hq => cases hq; exact ⟨fun n z => ⟨fun k h => (by cases h), kA1, g1, e1, j1⟩, kA1, e1, g1, j1, f1, l1⟩
      | 2, hq => cases hq; exact ⟨fun n z => ⟨fun k h => (by cases h), kA2, g2, e2, j2⟩, l2⟩
      | 3, hq => cases hq; exact ⟨fun n z => ⟨fun k h => (by cases h), kA3, g3, e3, j3⟩, f3⟩
      | k + 4, hq => simp [zty] at hq
  subst hJ
  have X : zJw J code R_law 4 p s m #[Value.ref b] c := ⟨x1, x2, x4, x5, hts, hK⟩
  obtain ⟨h0, eh⟩ : ∃ h0 : Nat, s.heap.size = h0 := ⟨_, rfl⟩
  have A : zwA J h0 0 (fun _ => .inr (0, [])) s.heap := ⟨eh, fun i hi => absurd hi (by omega)⟩
  have B : zwB h0 s.heap s.heap [] := ⟨fun q _ => rfl, fun _ h => absurd h List.not_mem_nil⟩
  have hl0 := lv_entry ([Value.ref b]) (n := 4) (Nat.le_of_ble_eq_true rfl)
  rw [lg_entry_eq]
  generalize (lg_sl ([Value.ref b]) ++ List.replicate (4 - (lg_sl ([Value.ref b])).length) Slot.unset).toArray = ls at hl0 ⊢
  have hl : zlo ls 4 [some (.ref b), none, none, none] := ⟨hl0.1, hl0.2.1, fun i v hi => by
    match i, hi with
    | 0, hi => cases hi; exact hl0.2.2 (0, _) (by simp [lv_args, Value.category])
    | 1, hi => cases hi
    | 2, hi => cases hi
    | 3, hi => cases hi
    | i + 4, hi => simp at hi⟩
  refine zw_new (fs := zfs6) X A B zin_X6 tyX6 tyX6_ok (lw_goodAt 57 (by decide +kernel) (by decide +kernel)) (lw_goodAt 58 (by decide +kernel) (by decide +kernel)) (lw_goodAt 45 (by decide +kernel) (by decide +kernel)) (ci := 6) rfl (by decide) (Nat.le_of_ble_eq_true rfl) (Nat.le_of_ble_eq_true rfl) dL_law_0 (fun H1 A B => ?_)
  refine lv_dup x1 x2 dL_law_3 rfl ?_
  refine zw_init (n := 0) (av := []) (rest := [.ref (h0 + 0)]) X A B rfl dL_law_4 (lw_goodAt 59 (by decide +kernel) (by decide +kernel)) zyi_X6 (Nat.le_of_ble_eq_true rfl) (Nat.le_of_ble_eq_true rfl) (Nat.le_of_ble_eq_true rfl) i_X6 hl.1 (Nat.le_of_ble_eq_true rfl) (Nat.le_of_ble_eq_true rfl) (fun H2 locs2 A B => ?_)
  have A : zwA J h0 165 (zcs6 J h0) H2 := A.cong (fun i hi => rfl)
  refine lv_astore_n x1 x2 dL_law_7 rfl hl.has (by decide) rfl (fun ls1 h1 => ?_)
  have hl1 : zlo ls1 4 [some (.ref b), some (.ref (h0 + 0)), none, none] := zlo_store1 rfl h1
  refine zw_new (fs := zfs7) X A B zin_X7 tyX7 tyX7_ok (lw_goodAt 778 (by decide +kernel) (by decide +kernel)) (lw_goodAt 779 (by decide +kernel) (by decide +kernel)) (lw_goodAt 53 (by decide +kernel) (by decide +kernel)) (ci := 7) rfl (by decide) (Nat.le_of_ble_eq_true rfl) (Nat.le_of_ble_eq_true rfl) dL_law_8 (fun H3 A B => ?_)
  refine lv_dup x1 x2 dL_law_11 rfl ?_
  refine zw_init (n := 165) (av := []) (rest := [.ref (h0 + 165)]) X A B (va_up_self _ _ _) dL_law_12 (lw_goodAt 780 (by decide +kernel) (by decide +kernel)) zyi_X7 (Nat.le_of_ble_eq_true rfl) (Nat.le_of_ble_eq_true rfl) (Nat.le_of_ble_eq_true rfl) i_X7 hl1.1 (Nat.le_of_ble_eq_true rfl) (Nat.le_of_ble_eq_true rfl) (fun H4 locs4 A B => ?_)
  have A : zwA J h0 177 (zall0 J h0) H4 := A.cong (fun i hi => by
    unfold zall0
    by_cases q : i < 165
    · rw [if_pos q, if_pos q, va_up_ne _ _ (by omega)]
    · rw [if_neg q, if_neg q])
  refine lv_astore_n x1 x2 dL_law_15 rfl hl1.has (by decide) rfl (fun ls2 h2 => ?_)
  have hl2 : zlo ls2 4 [some (.ref b), some (.ref (h0 + 0)), some (.ref (h0 + 165)), none] := zlo_store1 rfl h2
  refine lv_iconst (v := nI 0) x1 x2 dL_law_16 (by decide) ?_
  refine lv_istore_n x1 x2 dL_law_17 rfl hl2.has (by decide) rfl (fun ls3 h3 => ?_)
  have hl3 : zlo ls3 4 [some (.ref b), some (.ref (h0 + 0)), some (.ref (h0 + 165)), some (.int (nI 0))] := zlo_store1 rfl h3
  refine va_forget (fun q hq => by rw [eh]; exact B.2 q hq) ?_
  refine W.widen (k := 1000) (n := 20000) (Nat.le_of_ble_eq_true rfl) (Nat.le_of_ble_eq_true rfl) ?_
  have hs := flat_of_before _ x10
  have hA : ∀ (t a : Nat), a < s.heap.size → ¬ zA (zE0 J h0 t) a := fun t a ha ⟨k, hk, e⟩ => by
    rw [eh] at ha
    have : a = h0 + zpi k := e
    omega
  have hA0 : ∀ a : Nat, a < s.heap.size → ¬ (fun q => h0 ≤ q) a := fun a ha => by
    rw [eh] at ha
    show ¬ h0 ≤ a
    omega
  obtain ⟨t, ht, hT⟩ := va_Tof (tm := .static "NameNoon" "KIND_ABOVE" "[I") (ty := .int) (N := 6) (f := fun j => .int (zkn j)) (A := fun q => h0 ≤ q) (by decide) (hs (.arrayOf (.static "NameNoon" "KIND_ABOVE" "[I") .int) (by decide +kernel)) (va_eqt (hs (.eq (.length (.static "NameNoon" "KIND_ABOVE" "[I")) (.int 6)) (by decide +kernel))) (fun j hj => by
    rcases (show j = 0 ∨ j = 1 ∨ j = 2 ∨ j = 3 ∨ j = 4 ∨ j = 5 by omega) with rfl | rfl | rfl | rfl | rfl | rfl
    · exact va_eqt (hs (.eq (.elem (.static "NameNoon" "KIND_ABOVE" "[I") (.int 0)) (.int 0)) (by decide +kernel))
    · exact va_eqt (hs (.eq (.elem (.static "NameNoon" "KIND_ABOVE" "[I") (.int 1)) (.int 0)) (by decide +kernel))
    · exact va_eqt (hs (.eq (.elem (.static "NameNoon" "KIND_ABOVE" "[I") (.int 2)) (.int 1)) (by decide +kernel))
    · exact va_eqt (hs (.eq (.elem (.static "NameNoon" "KIND_ABOVE" "[I") (.int 3)) (.int 1)) (by decide +kernel))
    · exact va_eqt (hs (.eq (.elem (.static "NameNoon" "KIND_ABOVE" "[I") (.int 4)) (.int 0)) (by decide +kernel))
    · exact va_eqt (hs (.eq (.elem (.static "NameNoon" "KIND_ABOVE" "[I") (.int 5)) (.int 4)) (by decide +kernel))) hA0
  have hAt : ∀ q, zA (zE0 J h0 t) q → h0 ≤ q := fun q ⟨k, hk, e⟩ => by
    have : q = h0 + zpi k := e
    omega
  have hZ := va_Zref (A := fun q => h0 ≤ q) (x6 (.laysStatic "NameNoon" "KIND_ABOVE" "[I") (List.mem_of_getElem? (i := 738) (by decide +kernel))) (hts (.initialized "NameNoon") (lw_goodAt 45 (by decide +kernel) (by decide +kernel))) ht hA0
  have hW : zW (zE0 J h0 t) s := ⟨hK.1, fun i j hi hj e => zpi_inj i hi j hj (by have : h0 + zpi i = h0 + zpi j := e; omega), hK.2.1, hZ.narrow hAt, hT.narrow hAt⟩
  have XL : zLx (zE0 J h0 t) p s m meth c b L xs := ⟨C0, hW, fun k hk => by rw [eh]; show h0 ≤ h0 + zpi k; omega⟩
  exact law_loop (E := zE0 J h0 t) hL (L + 1) 0 zM0 (by omega) (by omega) zInv_0 p e s m below meth c H4 ls3 XL (zP0 A) ⟨by rw [eh, A.1]; omega, fun q hq _ => B.1 q (by rw [← eh]; exact hq), fun _ h => absurd h List.not_mem_nil⟩ hl3
