section ZGb
variable {J : zJ} {h0 n : Nat} {ce : Nat → va_E} {locs : List Loc} {H : Heap}
variable {p : Program} {e : Env} {R : Room} {s : State} {m : MethodId} {args : Array Value} {below : List Frame} {meth : Method} {c : Code} {cells slots : Nat} {Q : State → Prop} {cc : ByteArray} {own : String} {nL pc : Nat} {ls : Array Slot} {rest : List Value}
/-- one inner row is made and put into its place -/
theorem zg_step {i : Nat} {S : State} (hO : ∃ k : Class, s.vm.classes[J.2.2 2]? = some k ∧ k.kind = .array (J.2.2 0) (.array .int)) (hI : ∃ (k : Class) (cE : ClassId), s.vm.classes[J.2.2 0]? = some k ∧ k.kind = .array cE .int) (hcells : cells + 9 ≤ R.cells) (hslots : slots + 328 ≤ R.slots) (hi : i < 8) (V : zgV J p e R s m args below meth c h0 n ce cells slots i S) :
    ∃ S2, zgV J p e R s m args below meth c h0 n ce cells slots (i + 1) S2 ∧ ∀ (E : CtlPost) (d : Bool) (acts : List Action) (g : JFrame) (Q2 : Pre), (∀ d' acts', Q2 d' acts' (S2.setTop g)) → wp (multianewarray.make (J.2.2 0) [nI 40]) (fun a => wp (Jvm.writeLoc (h0 + n) i (.ref a)) (fun _ => Q2) E e) E e d acts (S.setTop g) := by
  obtain ⟨hz, hc, V2⟩ := zg_grow V
  refine ⟨_, V2, fun E d acts g Q2 hq => ?_⟩
  obtain ⟨L, Y, A, B⟩ := V
  obtain ⟨kO, o1, o2⟩ := hO
  obtain ⟨kI, cE, i1, i2⟩ := hI
  obtain ⟨kO', o3, o4⟩ := Y.warmed.alike.2.2 _ _ o1
  obtain ⟨kI', i3, i4⟩ := Y.warmed.alike.2.2 _ _ i1
  obtain ⟨r1, r2⟩ := Y.roomAbove (a := 1) (b := 40) (by omega) (by omega)
  have k1 : kI'.kind = .array cE .int := by rw [i4]; exact i2
  have k2 : kO'.kind = .array (J.2.2 0) (.array .int) := by rw [o4]; exact o2
  have b1 := Launch.admits_arrayLengthLimit Y.admits
  have b2 := Launch.admits_maxHeapBytes Y.admits
  rw [multianewarray.make]
  simp only [wp_bind', W.ite, if_neg (show ¬ nI 40 < 0 by decide), wp_pure', W.theClass]
  refine ⟨kI', i3, ?_⟩
  simp only [k1]
  refine W.newArray_of (howMany := 40) (init := .int 0) i3 k1 (by omega) (by show ¬ 160 > _; omega) r1 r2 rfl (fun acts' => ?_)
  rw [W.writeLoc, show (S.setTop g).heap.size = h0 + n + 1 + i from hz]
  refine ⟨_, hc, by rw [vp_cell_q]; exact nofun, by rw [vp_cell_q, arrV_size]; exact hi, ?_, hq _ _⟩
  show State.fitsSlot _ (J.2.2 2) .none i _ = true
  simp [State.fitsSlot, State.slotType?, o3, k2, fits]
/-- all that are wanting yet, one by one -/
theorem zg_rows (hO : ∃ k : Class, s.vm.classes[J.2.2 2]? = some k ∧ k.kind = .array (J.2.2 0) (.array .int)) (hI : ∃ (k : Class) (cE : ClassId), s.vm.classes[J.2.2 0]? = some k ∧ k.kind = .array cE .int) (hcells : cells + 9 ≤ R.cells) (hslots : slots + 328 ≤ R.slots) : ∀ (k i : Nat) (S : State), i + k = 8 → zgV J p e R s m args below meth c h0 n ce cells slots i S →
    ∃ S2, zgV J p e R s m args below meth c h0 n ce cells slots 8 S2 ∧ ∀ (E : CtlPost) (d : Bool) (acts : List Action) (g : JFrame) (f : Nat → PUnit → Sem (ForInStep PUnit)) (Q2 : PUnit → Pre), (∀ (j : Nat) (Q3 : ForInStep PUnit → Pre) (d' : Bool) (acts' : List Action) (S' : State), wp (multianewarray.make (J.2.2 0) [nI 40]) (fun a => wp (Jvm.writeLoc (h0 + n) j (.ref a)) (fun _ => Q3 (.yield PUnit.unit)) E e) E e d' acts' S' → wp (f j PUnit.unit) Q3 E e d' acts' S') → (∀ d' acts', Q2 PUnit.unit d' acts' (S2.setTop g)) → wp (forIn (List.range' i k) PUnit.unit f) Q2 E e d acts (S.setTop g)
  | 0, i, S, h, V => by
    obtain rfl : i = 8 := h
    exact ⟨S, V, fun E d acts g f Q2 _ hq => hq d acts⟩
  | k + 1, i, S, h, V => by
    obtain ⟨S1, V1, w1⟩ := zg_step hO hI hcells hslots (by omega) V
    obtain ⟨S2, V2, w2⟩ := zg_rows hO hI hcells hslots k (i + 1) S1 (by omega) V1
    refine ⟨S2, V2, fun E d acts g f Q2 hf hq => ?_⟩
    rw [List.range'_succ, List.forIn_cons, wp_bind']
    exact hf i _ d acts _ (w1 E d acts g _ fun d' acts' => w2 E d' acts' g f Q2 hf hq)
theorem zg_make {T : State} (hO : ∃ k : Class, s.vm.classes[J.2.2 2]? = some k ∧ k.kind = .array (J.2.2 0) (.array .int)) (hI : ∃ (k : Class) (cE : ClassId), s.vm.classes[J.2.2 0]? = some k ∧ k.kind = .array cE .int) (hcells : cells + 9 ≤ R.cells) (hslots : slots + 328 ≤ R.slots) (Y : Stand p J.1 e R s m args below meth c T locs cells slots) (A : zwA J h0 n ce T.heap) (B : zwB h0 s.heap T.heap locs) :
    ∃ S2, zgV J p e R s m args below meth c h0 n ce cells slots 8 S2 ∧ ∀ (E : CtlPost) (d : Bool) (acts : List Action) (g : JFrame) (Q2 : Addr → Pre), (∀ d' acts', Q2 (h0 + n) d' acts' (S2.setTop g)) → wp (multianewarray.make (J.2.2 2) [nI 8, nI 40]) Q2 E e d acts (T.setTop g) := by
  obtain ⟨S2, V2, w⟩ := zg_rows hO hI hcells hslots 8 0 _ rfl (zg_first Y A B)
  refine ⟨S2, V2, fun E d acts g Q2 hq => ?_⟩
  obtain ⟨kO, o1, o2⟩ := hO
  obtain ⟨kO', o3, o4⟩ := Y.warmed.alike.2.2 _ _ o1
  obtain ⟨r1, r2⟩ := Y.roomAbove (a := 1) (b := 8) (by omega) (by omega)
  have k2 : kO'.kind = .array (J.2.2 0) (.array .int) := by rw [o4]; exact o2
  have b1 := Launch.admits_arrayLengthLimit Y.admits
  have b2 := Launch.admits_maxHeapBytes Y.admits
  rw [multianewarray.make]
  simp only [wp_bind', W.ite, if_neg (show ¬ nI 8 < 0 by decide), wp_pure', W.theClass]
  refine ⟨kO', o3, ?_⟩
  simp only [k2, wp_bind']
  refine W.newArray_of (howMany := 8) o3 k2 (by omega) (by show ¬ 32 > _; omega) r1 r2 rfl (fun acts' => ?_)
  simp only [show (T.setTop g).heap.size = h0 + n from A.1, W.ite, if_neg (show ¬ ((nI 8 == 0) = true) by decide), wp_bind', wp_pure', Std.Legacy.Range.forIn_eq_forIn_range']
  show wp (forIn (List.range' 0 8) PUnit.unit _) _ E e d acts' _
  refine w E d acts' g _ _ (fun j Q3 d' acts2 S' hh => ?_) ?_
  · have he : ∀ a : Addr, wp (Jvm.writeLoc (h0 + n) j (.ref a) >>= fun _ => Pure.pure (ForInStep.yield PUnit.unit)) Q3 E e = wp (Jvm.writeLoc (h0 + n) j (.ref a)) (fun _ => Q3 (.yield PUnit.unit)) E e := fun a => funext fun d1 => funext fun a1 => funext fun s1 => wp_bind' _ _ _ _ _ _ _ _
    simpa only [wp_bind', he] using hh
  · exact hq
/-- new int[8][40] -/
theorem zw_multi {index : Nat} (X : zJw J cc own nL p s m args c) (A : zwA J h0 n ce H) (B : zwB h0 s.heap H locs) (hclink : Cond.classLink own index "[[I" ∈ lw_good) (hcells : cells + 9 ≤ R.cells) (hslots : slots + 328 ≤ R.slots) (hdg : decode cc pc = .ok (.multianewarray index 2, 4))
    (kk : ∀ (H1 : Heap) (locs1 : List Loc), zwA J h0 (n + 9) (fun i => if i < n then ce i else if i = n then .inl (J.2.2 2, 8, .inr (.inr (.inr (.inr (fun j => if j < 8 then some (h0 + n + 1 + j) else none))))) else .inl (J.2.2 0, 40, .inl (fun _ => 0))) H1 → zwB h0 s.heap H1 locs1 → W p J.1 e R s m args below meth c H1 locs1 (cells + 9) (slots + 328) Q (F0 m (pc + 4) ls (.ref (h0 + n) :: rest))) : W p J.1 e R s m args below meth c H locs cells slots Q (F0 m pc ls (.int (nI 40) :: .int (nI 8) :: rest)) := by
  obtain ⟨x1, x2, x3, x4, x5, x6⟩ := X
  intro T hT Y
  subst hT x2
  obtain ⟨-, kC, hkC, cE, hkindC⟩ := (x6.1.2 0 _ rfl).1 0 (fun _ => .null)
  obtain ⟨c0, f0, l0⟩ := Cond.classLink_spec x4 (x5 _ hclink) e.platform (by rw [Y.admits.platform])
  obtain rfl : J.2.2 2 = c0 := Option.some.inj ((x6.1.2 2 _ rfl).2.symm.trans f0)
  obtain ⟨g1, w1, -⟩ := State.classEntry (e := e) Y.warmed l0
  generalize T.vm.noted m.cls index (.cls (J.2.2 2)) = V1 at g1 w1
  obtain ⟨S2, ⟨L, Y2, A2, B2⟩, w⟩ := zg_make x6.2.2.2 ⟨kC, cE, hkC, hkindC⟩ hcells hslots (Y.noted w1) A B
  obtain ⟨t, st, ht⟩ := kk S2.heap L A2 B2 S2 rfl Y2
  refine ⟨t, ?_, ht⟩
  jvm_step Y.here [x1, hdg]
  simp only [multianewarray.sem, wp_bind', W.resolveClassAt_links (State.method?_setTop (F0 m pc ls (.int (nI 40) :: .int (nI 8) :: rest)) Y.here.top) g1]
  refine (popN_top (s := T.setVm V1) (f := F0 m pc ls (.int (nI 40) :: .int (nI 8) :: rest)) (args := [.int (nI 8), .int (nI 40)]) (rest := rest) Y.here.top rfl).mpr ?_
  simp only [List.mapM_cons, List.mapM_nil, wp_bind', wp_pure']
  refine w _ _ _ _ _ fun d' acts' => ?_
  simp only [wp_bind', W.mark, W.pushRef]
  refine ⟨_, State.topJava?_setTop' _ Y2.here.top, fun a3 => ?_⟩
  simpa [jvm, Y2.here.top] using st
end ZGb
