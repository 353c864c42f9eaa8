section ZMn
variable {J : zJ} {h0 n : Nat} {ce : Nat → va_E} {H H1 : Heap} {x : va_E} {locs : List Loc} {H0 : Heap}
variable {p : Program} {e : Env} {R : Room} {s : State} {m : MethodId} {args : Array Value} {below : List Frame} {meth : Method} {c : Code} {cells slots : Nat} {Q : State → Prop} {cc : ByteArray} {own : String} {nL pc : Nat} {ls : Array Slot} {rest : List Value}
theorem zmS {l : Launch} {T : State} (X : Stand p l e R s m args below meth c T locs cells slots) (cO cI : ClassId) : ∀ i, ∃ L : List Loc, (∀ q ∈ L, q.base = T.heap.size) ∧ Stand p l e R s m args below meth c (zmT T cO cI i) (locs ++ L) (cells + 1 + i) (slots + 8 + i * 40)
  | 0 => by
    have h := X.pushed (zmO cO T.heap.size 0)
    rw [show (zmO cO T.heap.size 0).slots.size = 8 by unfold zmO; rw [arrV_size]] at h
    exact ⟨[], fun _ hq => absurd hq List.not_mem_nil, by simpa [zmT] using h⟩
  | i + 1 => by
    obtain ⟨L, hL, Xi⟩ := zmS X cO cI i
    obtain ⟨f1, f2, f3, f4, f5, f6⟩ := zmT_f T cO cI i
    have hcell : ((zmT T cO cI i).pushCell (zmI cI)).heap[T.heap.size]? = some (zmO cO T.heap.size i) := by
      rw [State.heap_pushCell_of_lt (h := (show T.heap.size < (zmT T cO cI i).heap.size by omega))]
      exact f2
    have h := (Xi.pushed (zmI cI)).stored hcell i (.ref (T.heap.size + 1 + i))
    rw [show (zmI cI).slots.size = 40 by unfold zmI; rw [arrV_size], zmO_set] at h
    refine ⟨L ++ [⟨T.heap.size, i⟩], fun q hq => ?_, ?_⟩
    · rcases List.mem_append.mp hq with h1 | h1
      · exact hL q h1
      · rw [List.mem_singleton.mp h1]
    · rw [← List.append_assoc, show slots + 8 + (i + 1) * 40 = slots + 8 + i * 40 + 40 by omega]
      exact h
theorem zmO_cell {cO : ClassId} {h : Nat} : zmO cO h 8 = vp_cell cO (8, .inr (.inr (.inr (.inr (fun j => if j < 8 then some (h + 1 + j) else none))))) := by
  rw [vp_cell_q]
  unfold zmO
  refine congrArg (arrV cO 8) (funext fun j => ?_)
  by_cases hj : j < 8
  · rw [if_pos hj, if_pos hj]
    rfl
  · rw [if_neg hj, if_neg hj]
    rfl
theorem zmI_cell {cI : ClassId} : zmI cI = vp_cell cI (40, .inl (fun _ => 0)) := rfl
theorem zm_step {l : Launch} {T : State} {vm₁ : Vm} {cO cI cE : ClassId} {kO kI : Class} {index cF sF : Nat} {lF : List Loc} {g : JFrame} (Y : Stand p l e R s m args below meth c T locs cells slots) (hexec : p.tables.exec = Jvm.exec) (hg : g.method = m) (hdg : decode c.code g.pc = .ok (.multianewarray index 2, 4)) (hstack : g.stack = .int (nI 40) :: .int (nI 8) :: rest) (hg₁ : (Jvm.resolveClass g.method.cls index).Gives e.toSetting T.vm (.ok cO) vm₁) (hwarm₁ : s.WarmedH vm₁) (hkO : vm₁.classes[cO]? = some kO) (hkindO : kO.kind = .array cI (.array .int)) (hkI : vm₁.classes[cI]? = some kI) (hkindI : kI.kind = .array cE .int) (hcells : cells + 9 ≤ R.cells) (hslots : slots + 328 ≤ R.slots) (XF : Stand p l e R s m args below meth c (zmT (T.setVm vm₁) cO cI 8) lF cF sF) (target : State) (hrest : Steps p.tables e below ((zmT (T.setVm vm₁) cO cI 8).setTop { g with pc := g.pc + 4, stack := .ref T.heap.size :: rest }) target) : Steps p.tables e below (T.setTop g) target := by
  subst hg
  obtain ⟨hr1, hr2⟩ := Y.roomAbove hcells hslots
  have hlim : 40 ≤ e.platform.arrayLengthLimit := by
    rw [Launch.admits_arrayLengthLimit Y.admits]
    omega
  have hby : 160 ≤ e.platform.maxHeapBytes := by
    rw [Launch.admits_maxHeapBytes Y.admits]
    omega
  jvm_step Y.here [hexec, hdg]
  simp only [multianewarray.sem, wp_bind', W.resolveClassAt_links (State.method?_setTop g Y.here.top) hg₁]
  rw [W.popN, if_neg (by decide)]
  refine ⟨g, State.topJava?_setTop' (s := T.setVm vm₁) g Y.here.top, [.int (nI 8), .int (nI 40)], rest, rfl, hstack, ?_⟩
  simp only [List.mapM_cons, List.mapM_nil, wp_bind', wp_pure']
  refine zwp_mk hkO hkindO hkI hkindI hlim hby (by show T.heap.size + 9 ≤ _; omega) (by show T.slotsUsed + 328 ≤ _; omega) (fun d' acts' => ?_)
  have eS : ((T.setTop g).setVm vm₁).setTop { g with stack := rest } = (T.setVm vm₁).setTop { g with stack := rest } := by
    show ((T.setVm vm₁).setTop g).setTop _ = _
    rw [State.setTop_setTop]
  rw [eS, zmT_top]
  simp only [wp_bind', W.mark, W.pushRef, State.topJava?_setTop' _ XF.here.top, Option.some.injEq, exists_eq_left', State.setTop_setTop, State.heap_setTop]
  intro acts
  simp [jvm, XF.here.top]
  exact hrest
/-- new int[8][40] -/
theorem zw_multi {index : Nat} (X : zJw J cc own nL p s m args c) (A : zwA J h0 n ce H) (B : zwB h0 s.heap H locs) (hclink : Cond.classLink own index "[[I" ∈ lw_good) (hcells : cells + 9 ≤ R.cells) (hslots : slots + 328 ≤ R.slots) (hdg : decode cc pc = .ok (.multianewarray index 2, 4))
    (kk : ∀ (H1 : Heap) (locs1 : List Loc), zwA J h0 (n + 9) (fun i => if i < n then ce i else if i = n then .inl (J.2.2 2, 8, .inr (.inr (.inr (.inr (fun j => if j < 8 then some (h0 + n + 1 + j) else none))))) else .inl (J.2.2 0, 40, .inl (fun _ => 0))) H1 → zwB h0 s.heap H1 locs1 → W p J.1 e R s m args below meth c H1 locs1 (cells + 9) (slots + 328) Q (F0 m (pc + 4) ls (.ref (h0 + n) :: rest))) : W p J.1 e R s m args below meth c H locs cells slots Q (F0 m pc ls (.int (nI 40) :: .int (nI 8) :: rest)) := by
  obtain ⟨x1, x2, x3, x4, x5, x6⟩ := X
  intro T hT Y
  subst hT
  subst x2
  have hpl : e.platform.magicAccessors = ({} : Platform).magicAccessors := by rw [Y.admits.platform]
  obtain ⟨kA, hkA, hkindA⟩ := x6.2.2.2
  obtain ⟨-, kC, hkC, cE, hkindC⟩ := (x6.1.2 0 _ rfl).1 0 (fun _ => .null)
  have hkC : s.vm.classes[J.2.2 0]? = some kC := hkC
  have hfO : s.vm.findClass "[[I" = some (J.2.2 2) := (x6.1.2 2 _ rfl).2
  obtain ⟨c0, hfc0, hcl⟩ := Cond.classLink_spec x4 (x5 _ hclink) e.platform hpl
  cases hfO.symm.trans hfc0
  obtain ⟨hg₁, hwarm₁, hready₁⟩ := State.classEntry (e := e) Y.warmed hcl
  generalize T.vm.noted m.cls index (.cls (J.2.2 2)) = vm₁ at hg₁ hwarm₁ hready₁
  have hal : s.vm.Alike vm₁ := hwarm₁.alike
  obtain ⟨kA₁, hkA₁, heA⟩ := hal.2.2 _ _ hkA
  obtain ⟨kC₁, hkC₁, heC⟩ := hal.2.2 _ _ hkC
  have hkindA₁ : kA₁.kind = .array (J.2.2 0) (.array .int) := by rw [heA]; exact hkindA
  have hkindC₁ : kC₁.kind = .array cE .int := by rw [heC]; exact hkindC
  have X₁ := Y.noted hwarm₁
  obtain ⟨L, hL, XF⟩ := zmS X₁ (J.2.2 2) (J.2.2 0) 8
  obtain ⟨f1, f2, f3, f4, f5, f6⟩ := zmT_f (T.setVm vm₁) (J.2.2 2) (J.2.2 0) 8
  have hsz : (T.setVm vm₁).heap.size = h0 + n := A.1
  rw [hsz] at f1 f2 f5 f6
  have hA1 : zwA J h0 (n + 9) (fun i => if i < n then ce i else if i = n then .inl (J.2.2 2, 8, .inr (.inr (.inr (.inr (fun j => if j < 8 then some (h0 + n + 1 + j) else none))))) else .inl (J.2.2 0, 40, .inl (fun _ => 0))) (zmT (T.setVm vm₁) (J.2.2 2) (J.2.2 0) 8).heap := by
    refine ⟨by rw [f1]; omega, fun i hi => ?_⟩
    dsimp only
    by_cases h1 : i < n
    · rw [if_pos h1]
      exact (A.2 i h1).kept (f5 (h0 + i) (by omega))
    · rw [if_neg h1]
      by_cases h2 : i = n
      · subst h2
        rw [if_pos rfl]
        show (zmT (T.setVm vm₁) (J.2.2 2) (J.2.2 0) 8).heap[h0 + i]? = some (vp_cell _ _)
        rw [f2, zmO_cell]
      · rw [if_neg h2]
        show (zmT (T.setVm vm₁) (J.2.2 2) (J.2.2 0) 8).heap[h0 + i]? = some (vp_cell _ _)
        have := f6 (i - n - 1) (by omega)
        rw [show h0 + n + 1 + (i - n - 1) = h0 + i by omega] at this
        rw [this, zmI_cell]
  have hB1 : zwB h0 s.heap (zmT (T.setVm vm₁) (J.2.2 2) (J.2.2 0) 8).heap (locs ++ L) := ⟨fun q hq => (f5 q (by omega)).trans (B.1 q hq), fun l hl => by
    rcases List.mem_append.mp hl with h1 | h1
    · exact B.2 l h1
    · rw [hL l h1, hsz]
      omega⟩
  obtain ⟨t, a1, b1⟩ := kk _ _ hA1 hB1 (zmT (T.setVm vm₁) (J.2.2 2) (J.2.2 0) 8) rfl XF
  refine ⟨t, ?_, b1⟩
  have a2 : Steps p.tables e below ((zmT (T.setVm vm₁) (J.2.2 2) (J.2.2 0) 8).setTop { F0 m pc ls (.int (nI 40) :: .int (nI 8) :: rest) with pc := pc + 4, stack := .ref T.heap.size :: rest }) t := by
    have : T.heap.size = h0 + n := A.1
    rw [this]
    exact a1
  exact zm_step (g := F0 m pc ls (.int (nI 40) :: .int (nI 8) :: rest)) Y x1 rfl hdg rfl hg₁ hwarm₁ hkA₁ hkindA₁ hkC₁ hkindC₁ hcells hslots XF t a2
end ZMn
