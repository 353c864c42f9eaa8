/-! ===== constructors: what is made lies in one stretch of the heap, from h0 on ===== -/
abbrev zJ : Type := Launch × va_G × (Nat → ClassId)
def zty (J : zJ) : List (ClassId × FieldType) := [(J.2.2 0, .int), (J.2.2 1, .object "NameNoon$Square"), (J.2.2 2, .array .int), (J.2.2 3, .boolean)]
def zKJ (J : zJ) (U : State) : Prop := va_K J.2.1 vwCl (zty J) U ∧ (∀ w ∈ lw_tbl, zisN w = true → va_Nw w U) ∧ va_AO "NameNoon$Square" U ∧ ∃ kA : Class, U.vm.classes[J.2.2 2]? = some kA ∧ kA.kind = .array (J.2.2 0) (.array .int)
theorem zKJ.to {J : zJ} {s U : State} (h : zKJ J s) (hW : s.WarmedH U.vm) : zKJ J U := by
  obtain ⟨h1, h2, h3, kA, h4, h5⟩ := h
  obtain ⟨k', hk', he⟩ := hW.alike.2.2 _ _ h4
  exact ⟨va_K.moved hW.alike h1, fun w hw hn => zNw_warm hn hW (h2 w hw hn), h3.moved hW.alike, k', hk', by rw [he]; exact h5⟩
theorem zKJ.blind {J : zJ} {U : State} {a : Array Value} {g : JFrame} {mk : MethodId} (h : zKJ J U) : zKJ J (U.calling g mk a) := by
  obtain ⟨h1, h2, h3, h4⟩ := h
  exact ⟨va_K.moved (u := U) (U := U.calling g mk a) (Vm.Alike.refl U.vm) h1, fun w hw hn => zNw_same (s := U) (U := U.calling g mk a) hn (rfl : U.vm = (U.calling g mk a).vm) (h2 w hw hn), va_AO.moved (u := U) (U := U.calling g mk a) (Vm.Alike.refl U.vm) h3, h4⟩
def zwA (J : zJ) (h0 n : Nat) (ce : Nat → va_E) (H : Heap) : Prop := H.size = h0 + n ∧ ∀ i, i < n → va_at J.2.1 vwCl (h0 + i, ce i) H
def zwB (h0 : Nat) (H0 H : Heap) (locs : List Loc) : Prop := (∀ q, q < h0 → H[q]? = H0[q]?) ∧ ∀ l ∈ locs, h0 ≤ l.base
def zrJ (d mc ms : Nat) : Room := { frames := d, cells := mc, slots := ms, locals := 64 * d }
def zQJ (J : zJ) (h0 K : Nat) (F : Nat → va_E) : Array Value → State → Outcome → State → Prop := fun _ st oc t => oc = .returned none ∧ zwA J h0 K F t.heap ∧ ∀ q, q < h0 → t.heap[q]? = st.heap[q]?
/-- A CONSTRUCTOR'S CONTRACT: the object is the newest cell; behind it K cells stand from it on -/
def zIC (J : zJ) (d : Nat) (mi : zM) (av : List Value) (ci : Nat) (fs : List Value) (mc : Nat) (F : Nat → Nat → va_E) (ms : Nat) : Prop :=
  ∀ h0 : Nat, Met J.1 mi.1 (zws mi) (zrJ d mc ms) (va_Pc (.ref h0 :: av) (fun U => zwA J h0 1 (fun _ => .inr (ci, fs)) U.heap ∧ zKJ J U)) (zQJ J h0 (mc + 1) (F h0)) mc ms (fun q => h0 ≤ q)
def zJw (J : zJ) (cc : ByteArray) (own : String) (nL : Nat) (p : Program) (s : State) (m : MethodId) (args : Array Value) (c : Code) : Prop :=
  p.tables.exec = Jvm.exec ∧ c.code = cc ∧ c.maxLocals = nL ∧ s.vm.findClass own = some m.cls ∧ (∀ w ∈ lw_good, w.before args s = true) ∧ zKJ J s
section ZMk
variable {J : zJ} {h0 n : Nat} {ce : Nat → va_E} {H H1 : Heap} {x : va_E} {locs : List Loc} {H0 : Heap}
theorem zwA.cong {ce2 : Nat → va_E} (h : zwA J h0 n ce H) (e : ∀ i, i < n → ce i = ce2 i) : zwA J h0 n ce2 H := ⟨h.1, fun i hi => by rw [← e i hi]; exact h.2 i hi⟩
theorem zwA.push (h : zwA J h0 n ce H) (z : H1.size = H.size + 1) (o : ∀ q, q < H.size → H1[q]? = H[q]?) (hx : va_at J.2.1 vwCl (h0 + n, x) H1) : zwA J h0 (n + 1) (va_up ce n x) H1 := by
  refine ⟨by rw [z, h.1]; omega, fun i hi => ?_⟩
  by_cases e : i = n
  · subst e
    rw [va_up_self]
    exact hx
  · rw [va_up_ne _ _ e]
    exact (h.2 i (by omega)).kept (o _ (by rw [h.1]; show h0 + i < h0 + n; omega))
theorem zwA.set {k : Nat} (h : zwA J h0 n ce H) (hk : k < n) (z : H1.size = H.size) (o : ∀ q, q ≠ h0 + k → H1[q]? = H[q]?) (hx : va_at J.2.1 vwCl (h0 + k, x) H1) : zwA J h0 n (va_up ce k x) H1 := by
  refine ⟨by rw [z, h.1], fun i hi => ?_⟩
  by_cases e : i = k
  · subst e
    rw [va_up_self]
    exact hx
  · rw [va_up_ne _ _ e]
    exact (h.2 i hi).kept (o _ (by show h0 + i ≠ h0 + k; omega))
theorem zwB.push (hA : zwA J h0 n ce H) (h : zwB h0 H0 H locs) (o : ∀ q, q < H.size → H1[q]? = H[q]?) : zwB h0 H0 H1 locs := ⟨fun q hq => (o q (by rw [hA.1]; omega)).trans (h.1 q hq), h.2⟩
theorem zwB.set {k j : Nat} (h : zwB h0 H0 H locs) (o : ∀ q, q ≠ h0 + k → H1[q]? = H[q]?) : zwB h0 H0 H1 (locs ++ [⟨h0 + k, j⟩]) := ⟨fun q hq => (o q (by omega)).trans (h.1 q hq), fun l hl => by
  rcases List.mem_append.mp hl with h1 | h1
  · exact h.2 l h1
  · rw [List.mem_singleton.mp h1]
    show h0 ≤ h0 + k
    omega⟩
variable {p : Program} {e : Env} {R : Room} {s : State} {m : MethodId} {args : Array Value} {below : List Frame} {meth : Method} {c : Code} {cells slots : Nat} {Q : State → Prop} {cc : ByteArray} {own : String} {nL pc : Nat} {ls : Array Slot} {rest : List Value}
theorem zw_new {C : String} {T : u_T} {N ci index : Nat} (X : zJw J cc own nL p s m args c) (A : zwA J h0 n ce H) (B : zwB h0 s.heap H locs) (hin : ∀ w ∈ u_ws C T N, w ∈ lw_good) (ty : Nat → FieldType) (hty : ∀ k, k < N → parseFieldDescriptor (T k).2.2.1 = some (ty k)) (hcl : Cond.classLink own index C ∈ lw_good) (hinst : Cond.instantiable C N ∈ lw_good) (hini : Cond.initialized C ∈ lw_good) (hc : vwCl[ci]? = some (C, T, N)) {fs : List Value} (hfs : ∀ j, j < N → defaultValue (ty j) = vp_V fs j) (hcells : cells + 1 ≤ R.cells) (hslots : slots + N ≤ R.slots) (hdg : decode cc pc = .ok (.new index, 3))
    (kk : ∀ H1 : Heap, zwA J h0 (n + 1) (va_up ce n (.inr (ci, fs))) H1 → zwB h0 s.heap H1 locs → W p J.1 e R s m args below meth c H1 locs (cells + 1) (slots + N) Q (F0 m (pc + 3) ls (.ref (h0 + n) :: rest))) : W p J.1 e R s m args below meth c H locs cells slots Q (F0 m pc ls rest) := by
  obtain ⟨x1, x2, x3, x4, x5, x6⟩ := X
  have hKn := x6.1.1 ci _ hc
  refine W.newcK x1 x2 x4 (x5 _ hcl) (x5 _ hinst) (x5 _ hini) rfl hdg hcells hslots hKn.2.1 A.1 fun H1 kC hkC e1 z1 o1 => ?_
  have o2 : ∀ q, q < H.size → H1[q]? = H[q]? := fun q hq => o1 q (by rw [← A.1]; exact hq)
  exact kk H1 (A.push (by rw [z1, A.1]) o2 ⟨_, hc, (u_born ty x5 hin hKn hkC e1 hty).to hfs⟩) (B.push A o2)
theorem zw_newi {v : Int32} {N : Nat} (X : zJw J cc own nL p s m args c) (A : zwA J h0 n ce H) (B : zwB h0 s.heap H locs) (hn : ¬ v < 0) (hN : v.toNatClampNeg = N) (hbytes : N * 4 ≤ 536870912) (hcells : cells + 1 ≤ R.cells) (hslots : slots + N ≤ R.slots) (hdg : decode cc pc = .ok (.newarray .int, 2))
    (kk : ∀ H1 : Heap, zwA J h0 (n + 1) (va_up ce n (.inl (J.2.2 0, N, .inl (fun _ => 0)))) H1 → zwB h0 s.heap H1 locs → W p J.1 e R s m args below meth c H1 locs (cells + 1) (slots + N) Q (F0 m (pc + 2) ls (.ref (h0 + n) :: rest))) : W p J.1 e R s m args below meth c H locs cells slots Q (F0 m pc ls (.int v :: rest)) := by
  obtain ⟨x1, x2, x3, x4, x5, x6⟩ := X
  refine va_newaK (atype := .int) x1 x2 (x5 _ (lw_goodAt 86 (by decide +kernel) (by decide +kernel))) rfl hdg rfl hn hN hbytes hcells hslots A.1 fun H1 cA e1 z1 o1 hAr hNm => ?_
  have hc : cA = J.2.2 0 := Option.some.inj (hNm.symm.trans (x6.1.2 0 _ rfl).2)
  subst hc
  have o2 : ∀ q, q < H.size → H1[q]? = H[q]? := fun q hq => o1 q (by rw [← A.1]; exact hq)
  exact kk H1 (A.push (by rw [z1, A.1]) o2 e1) (B.push A o2)
theorem zw_newz {v : Int32} {N : Nat} (X : zJw J cc own nL p s m args c) (A : zwA J h0 n ce H) (B : zwB h0 s.heap H locs) (hn : ¬ v < 0) (hN : v.toNatClampNeg = N) (hbytes : N * 1 ≤ 536870912) (hcells : cells + 1 ≤ R.cells) (hslots : slots + N ≤ R.slots) (hdg : decode cc pc = .ok (.newarray .boolean, 2))
    (kk : ∀ H1 : Heap, zwA J h0 (n + 1) (va_up ce n (.inl (J.2.2 3, N, .inl (fun _ => 0)))) H1 → zwB h0 s.heap H1 locs → W p J.1 e R s m args below meth c H1 locs (cells + 1) (slots + N) Q (F0 m (pc + 2) ls (.ref (h0 + n) :: rest))) : W p J.1 e R s m args below meth c H locs cells slots Q (F0 m pc ls (.int v :: rest)) := by
  obtain ⟨x1, x2, x3, x4, x5, x6⟩ := X
  refine va_newaK (atype := .boolean) x1 x2 (x5 _ (lw_goodAt 854 (by decide +kernel) (by decide +kernel))) rfl hdg rfl hn hN hbytes hcells hslots A.1 fun H1 cA e1 z1 o1 hAr hNm => ?_
  have hc : cA = J.2.2 3 := Option.some.inj (hNm.symm.trans (x6.1.2 3 _ rfl).2)
  subst hc
  have o2 : ∀ q, q < H.size → H1[q]? = H[q]? := fun q hq => o1 q (by rw [← A.1]; exact hq)
  exact kk H1 (A.push (by rw [z1, A.1]) o2 e1) (B.push A o2)
theorem zw_putF {C : String} {T : u_T} {N ci index k f : Nat} {fs : List Value} {v : Value} {ty : FieldType} (X : zJw J cc own nL p s m args c) (hin2 : meth.name = "<init>") (A : zwA J h0 n ce H) (B : zwB h0 s.heap H locs) (hkn : k < n) (he : ce k = .inr (ci, fs)) (hc : vwCl[ci]? = some (C, T, N)) (hin : ∀ w ∈ u_ws C T N, w ∈ lw_good) (ty0 : Nat → FieldType) (hty : ∀ k, k < N → parseFieldDescriptor (T k).2.2.1 = some (ty0 k)) (hnm : ∀ a, a < N → ∀ b, b < N → a ≠ b → (T a).2.1 ≠ (T b).2.1) (hf : f < N) (hC : (T f).1 = C) (hown : C = own) (hlink : Cond.fieldLink own index C (T f).2.1 (T f).2.2.1 ∈ lw_good) (hfin : (T f).2.2.2 = true) (hd : parseFieldDescriptor (T f).2.2.1 = some ty) (hn : narrow ty v = v) (hfit : fits ty v = true) (hl : f < fs.length) (hdg : decode cc pc = .ok (.putfield index, 3))
    (kk : ∀ (H1 : Heap) (locs1 : List Loc), zwA J h0 n (va_up ce k (.inr (ci, fs.set f v))) H1 → zwB h0 s.heap H1 locs1 → W p J.1 e R s m args below meth c H1 locs1 cells slots Q (F0 m (pc + 3) ls rest)) : W p J.1 e R s m args below meth c H locs cells slots Q (F0 m pc ls (v :: .ref (h0 + k) :: rest)) := by
  obtain ⟨x1, x2, x3, x4, x5, x6⟩ := X
  have hap := va_apart (own := own) x5 hin ty0 hty hnm x6.1 hc
  have hat := A.2 k hkn
  rw [he] at hat
  obtain ⟨r, h1, cell, q1, q2, q3, q4⟩ := hat
  have hr : r = (C, T, N) := Option.some.inj (h1.symm.trans hc)
  subst hr
  obtain ⟨hS, hfc, kC, hkC, hkind⟩ := x6.1.1 ci _ hc
  obtain ⟨cf, kf, fi, fd, hi, hsl⟩ := hS f hf
  have hlay := x5 _ (hin _ (u_in_lay hf))
  unfold u_lay at hlay
  rw [if_pos hfin] at hlay
  have hst := (u_facts hfc hkC (u_lays x5 hin hf) hi).1
  have hcf : m.cls = cf := by
    obtain ⟨_, _, c', _, _, _, -, -, hf', -, -, -, hown2, -⟩ := Cond.laysFinal_spec hlay
    have e1 : c' = cf := by have := hi.symm.trans hf'; simp at this; exact this.1.symm
    rw [hC, hown] at hown2
    rw [← e1]; exact Option.some.inj (x4.symm.trans hown2)
  have h6 := u_fits hfc hkC hkind (Or.inr hlay) hi hd hn hfit
  refine W.putFinK x1 x2 x4 (x5 _ hlink) (by rw [hC] at hi; exact hi) hst hcf hin2 (by rw [q2]; exact h6) q1 q3 (by rw [hsl]; exact k2_hasslot (q4 f hf)) rfl rfl hdg fun H' e1 e2 e3 => ?_
  rw [hsl] at e1 ⊢
  exact kk H' _ (A.set hkn e2 e3 ⟨_, hc, t_OB.to (V := updV (vp_V fs) f v) ⟨_, e1, q2, q3, t_set q4 hap hf v⟩ (fun j _ => vp_updV_set hl v j)⟩) (B.set e3)
theorem zw_put {C : String} {T : u_T} {N ci index k f : Nat} {fs : List Value} {v : Value} {ty : FieldType} (X : zJw J cc own nL p s m args c) (A : zwA J h0 n ce H) (B : zwB h0 s.heap H locs) (hkn : k < n) (he : ce k = .inr (ci, fs)) (hc : vwCl[ci]? = some (C, T, N)) (hin : ∀ w ∈ u_ws C T N, w ∈ lw_good) (ty0 : Nat → FieldType) (hty : ∀ k, k < N → parseFieldDescriptor (T k).2.2.1 = some (ty0 k)) (hnm : ∀ a, a < N → ∀ b, b < N → a ≠ b → (T a).2.1 ≠ (T b).2.1) (hf : f < N) (hC : (T f).1 = C) (hlink : Cond.fieldLink own index C (T f).2.1 (T f).2.2.1 ∈ lw_good) (hfin : (T f).2.2.2 = false) (hd : parseFieldDescriptor (T f).2.2.1 = some ty) (hn : narrow ty v = v) (hfit : fits ty v = true) (hl : f < fs.length) (hdg : decode cc pc = .ok (.putfield index, 3))
    (kk : ∀ (H1 : Heap) (locs1 : List Loc), zwA J h0 n (va_up ce k (.inr (ci, fs.set f v))) H1 → zwB h0 s.heap H1 locs1 → W p J.1 e R s m args below meth c H1 locs1 cells slots Q (F0 m (pc + 3) ls rest)) : W p J.1 e R s m args below meth c H locs cells slots Q (F0 m pc ls (v :: .ref (h0 + k) :: rest)) := by
  obtain ⟨x1, x2, x3, x4, x5, x6⟩ := X
  have hap := va_apart (own := own) x5 hin ty0 hty hnm x6.1 hc
  have hat := A.2 k hkn
  rw [he] at hat
  obtain ⟨r, h1, cell, q1, q2, q3, q4⟩ := hat
  have hr : r = (C, T, N) := Option.some.inj (h1.symm.trans hc)
  subst hr
  obtain ⟨hS, hfc, kC, hkC, hkind⟩ := x6.1.1 ci _ hc
  obtain ⟨cf, kf, fi, fd, hi, hsl⟩ := hS f hf
  have hlay := x5 _ (hin _ (u_in_lay hf))
  unfold u_lay at hlay
  rw [if_neg (by rw [hfin]; decide)] at hlay
  have hst := (u_facts hfc hkC (u_lays x5 hin hf) hi).1
  have h6 := u_store hfc hkC hkind hlay hi hd hn hfit
  refine W.putK x1 x2 (f := fd) ⟨x4, x5 _ hlink, ⟨_, _, _, by rw [hC] at hi; exact hi⟩, hst⟩ (by rw [q2]; exact h6) q1 q3 (by rw [hsl]; exact k2_hasslot (q4 f hf)) rfl rfl hdg fun H' e1 e2 e3 => ?_
  rw [hsl] at e1 ⊢
  exact kk H' _ (A.set hkn e2 e3 ⟨_, hc, t_OB.to (V := updV (vp_V fs) f v) ⟨_, e1, q2, q3, t_set q4 hap hf v⟩ (fun j _ => vp_updV_set hl v j)⟩) (B.set e3)
theorem zw_get {C : String} {T : u_T} {N ci index k f : Nat} {fs : List Value} {v : Value} (X : zJw J cc own nL p s m args c) (A : zwA J h0 n ce H) (hkn : k < n) (he : ce k = .inr (ci, fs)) (hc : vwCl[ci]? = some (C, T, N)) (hin : ∀ w ∈ u_ws C T N, w ∈ lw_good) (hf : f < N) (hC : (T f).1 = C) (hlink : Cond.fieldLink own index C (T f).2.1 (T f).2.2.1 ∈ lw_good) (hv : fs[f]? = some v) (hdg : decode cc pc = .ok (.getfield index, 3))
    (kk : W p J.1 e R s m args below meth c H locs cells slots Q (F0 m (pc + 3) ls (v :: rest))) : W p J.1 e R s m args below meth c H locs cells slots Q (F0 m pc ls (.ref (h0 + k) :: rest)) := by
  obtain ⟨x1, x2, x3, x4, x5, x6⟩ := X
  have hP : va_P J.2.1 vwCl [(h0 + k, .inr (ci, fs))] H := fun j q hj => by
    have hz : j < 1 := (List.getElem?_eq_some_iff.mp hj).1
    rw [show j = 0 by omega] at hj
    cases hj
    have := A.2 k hkn
    rw [he] at this
    exact this
  exact va_get x1 x2 x5 hin x4 x6.1 hP 0 rfl hc f hf (x5 _ hlink) (fun x h => by rw [hC] at h; exact h) hv hdg kk
theorem zw_iast {k N i : Nat} {x y : Int32} {f : Nat → Int32} (X : zJw J cc own nL p s m args c) (A : zwA J h0 n ce H) (B : zwB h0 s.heap H locs) (hkn : k < n) (he : ce k = .inl (J.2.2 0, N, .inl f)) (hx : x = nI i) (hi : i < N) (hN : N < 2 ^ 31) (hdg : decode cc pc = .ok (.iastore, 1))
    (kk : ∀ (H1 : Heap) (locs1 : List Loc), zwA J h0 n (va_up ce k (.inl (J.2.2 0, N, .inl (upd f i y)))) H1 → zwB h0 s.heap H1 locs1 → W p J.1 e R s m args below meth c H1 locs1 cells slots Q (F0 m (pc + 1) ls rest)) : W p J.1 e R s m args below meth c H locs cells slots Q (F0 m pc ls (.int y :: .int x :: .ref (h0 + k) :: rest)) := by
  subst hx
  obtain ⟨x1, x2, x3, x4, x5, x6⟩ := X
  have hat := A.2 k hkn
  rw [he] at hat
  refine W.iast x1 x2 hat ((x6.1.2 0 _ rfl).1 N (fun j => .int (f j))) (fun q => by cases q) (by show ¬ (nI i < 0 ∨ (arrV _ _ _).slots.size ≤ _); rw [arrV_size]; exact vp_in_nI hi hN) rfl rfl hdg fun H1 e z oq => ?_
  refine kk H1 _ (A.set hkn z oq ?_) (B.set oq)
  show H1[h0 + k]? = some (vp_cell _ _)
  rw [e]
  rw [vp_cell_i, vp_cell_i, arrV_store, nI_clamp (by omega)]
  congr 2
  funext q
  by_cases hq : q = i
  · subst hq
    simp [updV, upd]
  · simp [updV, upd, hq]
/-- what is asked of a constructor that is called -/
def zYi (mj : zM) (k : Nat) : Prop := (mj.1.cls ≠ "java/lang/invoke/MethodHandle" ∧ mj.1.cls ≠ "java/lang/invoke/VarHandle" ∧ (parseMethodDescriptor mj.1.desc).map (fun d => d.parameters.length) = some k) ∧ Cond.code mj.1 mj.2.1 mj.2.2.1 none ∈ lw_good ∧ Cond.initialized mj.1.cls ∈ lw_good ∧ mj.2.2.1 ≤ 40 ∧ mj.1.name = "<init>" ∧ Cond.instanceMethod mj.1 ∈ lw_good ∧ mj.2.2.2 = none
theorem zblindJ {av : List Value} {ci : Nat} {fs : List Value} {h1 : Nat} : FrameBlind (va_Pc (.ref h1 :: av) (fun U => zwA J h1 1 (fun _ => .inr (ci, fs)) U.heap ∧ zKJ J U)) := fun a U g mk q => by
  obtain ⟨q0, q1, q2⟩ := q
  exact ⟨q0, q1, q2.blind⟩
theorem zw_after {mc ms d1 ci : Nat} {fs : List Value} {F : Nat → Nat → va_E} {a : Array Value} {st0 : List Value} (A : zwA J h0 (n + 1) ce H) (B : zwB h0 s.heap H locs) (run : va_Run p J.1 e R s m args below meth c H locs cells slots mc ms (F0 m pc ls st0) rest (zQJ J (h0 + n) (mc + 1) (F (h0 + n)) a) (fun q => h0 + n ≤ q))
    (kk : ∀ (H1 : Heap) (locs1 : List Loc), zwA J h0 (n + 1 + mc) (fun i => if i < n then ce i else F (h0 + n) (i - n)) H1 → zwB h0 s.heap H1 locs1 → W p J.1 e R s m args below meth c H1 locs1 (cells + mc) (slots + ms) Q (F0 m (pc + 3) ls rest)) : W p J.1 e R s m args below meth c H locs cells slots Q (F0 m pc ls st0) := by
  intro T hT Y
  obtain ⟨v, st₀, t, T', L, hh, Y', hL, e1, e2, ⟨hv, hp, hk⟩, go⟩ := run T hT Y
  cases hv
  rw [hh] at hk
  have o : ∀ q, q < h0 + n → T'.heap[q]? = H[q]? := fun q hq => by
    rw [e1]
    exact hk q hq
  refine (kk T'.heap (locs ++ L) ⟨?_, fun i hi => ?_⟩ ⟨fun q hq => (o q (by omega)).trans (B.1 q hq), fun l hl => ?_⟩ T' rfl Y').imp fun t2 ht => ⟨go t2 ht.1, ht.2⟩
  · rw [e1, hp.1]
    omega
  · dsimp only
    by_cases hlt : i < n
    · rw [if_pos hlt]
      exact (A.2 i (by omega)).kept (o _ (by show h0 + i < h0 + n; omega))
    · rw [if_neg hlt, e1]
      have := hp.2 (i - n) (by omega)
      rw [show h0 + n + (i - n) = h0 + i by omega] at this
      exact this
  · rcases List.mem_append.mp hl with h | h
    · exact B.2 l h
    · have := hL l h
      omega
theorem zw_init {mj : zM} {d1 mc ms idx ci : Nat} {av fs : List Value} {F : Nat → Nat → va_E} (X : zJw J cc own nL p s m args c) (A : zwA J h0 (n + 1) ce H) (B : zwB h0 s.heap H locs) (he : ce n = .inr (ci, fs)) (hdg : decode cc pc = .ok (.invokespecial idx, 3)) (hlink : Cond.methodLink own idx mj.1 ∈ lw_good) (hy : zYi mj av.length) (hfr : d1 + 1 ≤ R.frames) (hlo : 8 + (40 + 11) + 64 * d1 ≤ R.locals) (hw : (rest.map fun v => v.category).sum ≤ 8) (hc : zIC J d1 mj av ci fs mc F ms) (hls : ls.size = nL) (hcells : cells + mc ≤ R.cells) (hslots : slots + ms ≤ R.slots)
    (kk : ∀ (H1 : Heap) (locs1 : List Loc), zwA J h0 (n + 1 + mc) (fun i => if i < n then ce i else F (h0 + n) (i - n)) H1 → zwB h0 s.heap H1 locs1 → W p J.1 e R s m args below meth c H1 locs1 (cells + mc) (slots + ms) Q (F0 m (pc + 3) ls rest)) : W p J.1 e R s m args below meth c H locs cells slots Q (F0 m pc ls (av.reverse ++ .ref (h0 + n) :: rest)) := by
  obtain ⟨x1, x2, x3, x4, x5, x6⟩ := id X
  obtain ⟨y1, y2, y3, y4, y5, y6, y7⟩ := hy
  have hg : GoodIn lw_good (zws mj) := zgoodIn (by rw [y7]; exact y2)
  have hat := A.2 n (by omega)
  rw [he] at hat
  refine zw_after (F := F) (ci := ci) (fs := fs) (d1 := d1) A B (va_runI (As := av) (rest := rest) (own := own) (maxL := mj.2.2.1) (bytes := mj.2.1) ⟨x1, x2, x3, x4, x5⟩ (hc (h0 + n)) ⟨callB_of av.length x5 hg (by unfold zws; rw [y7]) rfl rfl (x5 _ y3) (x5 _ hlink) y1 ⟨hfr, ?_⟩, y5, x5 _ y6⟩ ⟨zblindJ, fun U hU hW => ⟨rfl, ⟨by rw [hU, A.1]; omega, fun i hi => by rw [show i = 0 by omega, hU]; exact hat⟩, x6.to hW⟩⟩ rfl rfl hls rfl (lv_room hw) hdg ⟨hcells, hslots⟩) kk
  show 8 + (mj.2.2.1 + 11) + 64 * d1 ≤ R.locals
  omega
theorem zw_initN {mj : zM} {d1 mc ms idx ci : Nat} {host : String} {av fs : List Value} {F : Nat → Nat → va_E} (X : zJw J cc own nL p s m args c) (A : zwA J h0 (n + 1) ce H) (B : zwB h0 s.heap H locs) (he : ce n = .inr (ci, fs)) (hdg : decode cc pc = .ok (.invokespecial idx, 3)) (hlink : Cond.methodLinkNest own idx mj.1 host ∈ lw_tbl) (hy : zYi mj av.length) (hfr : d1 + 1 ≤ R.frames) (hlo : 8 + (40 + 11) + 64 * d1 ≤ R.locals) (hw : (rest.map fun v => v.category).sum ≤ 8) (hc : zIC J d1 mj av ci fs mc F ms) (hls : ls.size = nL) (hcells : cells + mc ≤ R.cells) (hslots : slots + ms ≤ R.slots)
    (kk : ∀ (H1 : Heap) (locs1 : List Loc), zwA J h0 (n + 1 + mc) (fun i => if i < n then ce i else F (h0 + n) (i - n)) H1 → zwB h0 s.heap H1 locs1 → W p J.1 e R s m args below meth c H1 locs1 (cells + mc) (slots + ms) Q (F0 m (pc + 3) ls rest)) : W p J.1 e R s m args below meth c H locs cells slots Q (F0 m pc ls (av.reverse ++ .ref (h0 + n) :: rest)) := by
  obtain ⟨x1, x2, x3, x4, x5, x6⟩ := id X
  obtain ⟨y1, y2, y3, y4, y5, y6, y7⟩ := hy
  have hg : GoodIn lw_good (zws mj) := zgoodIn (by rw [y7]; exact y2)
  have hat := A.2 n (by omega)
  rw [he] at hat
  refine zw_after (F := F) (ci := ci) (fs := fs) (d1 := d1) A B (va_runIN (As := av) (rest := rest) (own := own) (maxL := mj.2.2.1) (bytes := mj.2.1) ⟨x1, x2, x3, x4, x5⟩ (hc (h0 + n)) ⟨va_cnB av.length x5 hg (by unfold zws; rw [y7]) rfl rfl (x6.2.1 _ hlink rfl) (x5 _ y3) y1 ⟨hfr, ?_⟩, y5, x5 _ y6⟩ ⟨zblindJ, fun U hU hW => ⟨rfl, ⟨by rw [hU, A.1]; omega, fun i hi => by rw [show i = 0 by omega, hU]; exact hat⟩, x6.to hW⟩⟩ rfl rfl hls rfl (lv_room hw) hdg ⟨hcells, hslots⟩) kk
  show 8 + (mj.2.2.1 + 11) + 64 * d1 ≤ R.locals
  omega
end ZMk
