def R_law : String := "NameNoonLaw"
def lw_P (b : Addr) (xs : List Int32) (args : Array Value) (s : State) : Prop := args = #[.ref b] ∧ s.IntsAt b xs ∧ xs.length ≤ 3072 ∧ (Jvm.Cond.and given_1 narrow_1).before args s = true
def lw_Q (_ : Array Value) (s : State) (o : Outcome) (t : State) : Prop := o = .returned (some (.int 1)) ∧ Framed s o t [] 600000 7302250
def lw_Z (below : List Frame) (a : Array Value) (s : State) : State → Prop := fun t => ∃ o, t.status = .running ∧ Ended t below o ∧ lw_Q a s o t
/-- the law's own end, with 1 on the stack, nothing written that was there before, its room as the claim has it -/
theorem lw_ret {p : Program} {l : Launch} {e : Env} {s : State} {m : MethodId} {below : List Frame} {meth : Method} {c : Code} {b : Nat} (hx : p.tables.exec = Jvm.exec) (hb : c.code = code) (hr : meth.sig.returnType = ret) (hlocks : meth.locks = false) {pc : Nat} {H : Heap} {ls : Array Slot} (hdg : decode code pc = .ok (.ireturn, 1)) : W p l e room_1 s m #[Value.ref b] below meth c H [] 600000 7302250 (lw_Z below #[Value.ref b] s) (F0 m pc ls [.int 1]) := by
  intro T hT X
  obtain ⟨fs, hret, hrun, hended, hW, hframe⟩ := X.leave (v := some (.int 1)) (hlocks := hlocks) (fun h => by rw [hr] at h; cases h)
  have hmeth' : T.vm.method? m = some meth := X.method'
  refine ⟨T.setFrames fs, ?_, .returned (some (.int 1)), hrun, hended, rfl, ⟨_, rfl⟩, hW, hframe⟩
  jvm_step X.here [X.here.top, hx, hb, hdg, hmeth', hr, ret, narrow_b1]
  (try refine ⟨rfl, ?_⟩); (try refine ⟨rfl, ?_⟩)
  first | (intro acts; rw [hret _ acts rfl rfl rfl]) | rw [hret _ _ rfl rfl rfl]
  exact Steps.refl _
/-- what holds at the law's entry: the machine, the code, the tables' words (any of lw_tbl by 'hts w (by decide +kernel)'), the script of L ints xs at the cell b, what the Statement gives of the start (any of its parts by flat_of_before) -/
def lw_At (p : Program) (s : State) (m : MethodId) (meth : Method) (c : Code) (b L : Nat) (xs : Nat → Int32) : Prop :=
  p.tables.exec = Jvm.exec ∧ c.code = code ∧ meth.sig.returnType = ret ∧ c.maxLocals = 4 ∧ s.vm.findClass R_law = some m.cls ∧ (∀ w ∈ lw_tbl, w.before #[Value.ref b] s = true) ∧ va_X b L xs s s.heap ∧ b < s.heap.size ∧ meth.locks = false ∧ (Jvm.Cond.and given_1 narrow_1).before #[Value.ref b] s = true
section ZL
/-- what stays through the law's loop -/
def zLx (E : zE) (p : Program) (s : State) (m : MethodId) (meth : Method) (c : Code) (b L : Nat) (xs : Nat → Int32) : Prop := lw_At p s m meth c b L xs ∧ zW E s ∧ ∀ k, k < 177 → s.heap.size ≤ zad E k
/-- THE LAW'S JUDGEMENT: from here, the cells holding M, it comes to its end with true -/
def zL (E : zE) (b L : Nat) (xs : Nat → Int32) (i pc : Nat) (st : List Value) (M : zMem) : Prop :=
  ∀ (p : Program) (e : Env) (s : State) (m : MethodId) (below : List Frame) (meth : Method) (c : Code) (H : Heap) (ls : Array Slot), zLx E p s m meth c b L xs → va_P E.2.1 vwCl (zwl E M) H → va_S (fun q => s.heap.size ≤ q) s.heap H [] → zlo ls 4 [some (.ref b), some (.ref (zad E 145)), some (.ref (zad E 165)), some (.int (nI i))] → W p E.1 e room_1 s m #[Value.ref b] below meth c H [] 1000 20000 (lw_Z below #[Value.ref b] s) (F0 m pc ls st)
variable {E : zE} {b L : Nat} {xs : Nat → Int32} {i pc n : Nat} {st : List Value} {M M2 : zMem}
theorem zl_aload1 (hd : decode code pc = .ok (.aload_n 1, 1)) (hn : pc + 1 = n) (k : zL E b L xs i n (.ref (zad E 145) :: st) M) : zL E b L xs i pc st M := by
  subst hn
  intro p e s m below meth c H ls X hP hS hl
  exact lv_aload_n X.1.1 X.1.2.1 hd rfl (hl.2.2 1 _ rfl) (k p e s m below meth c H ls X hP hS hl)
theorem zl_aload2 (hd : decode code pc = .ok (.aload_n 2, 1)) (hn : pc + 1 = n) (k : zL E b L xs i n (.ref (zad E 165) :: st) M) : zL E b L xs i pc st M := by
  subst hn
  intro p e s m below meth c H ls X hP hS hl
  exact lv_aload_n X.1.1 X.1.2.1 hd rfl (hl.2.2 2 _ rfl) (k p e s m below meth c H ls X hP hS hl)
/-- script[i + j] -/
theorem zl_arg {j : Nat} {v : Int} (hj : Int32.ofInt v = nI j) (h1 : decode code pc = .ok (.aload_n 0, 1)) (h2 : decode code (pc + 1) = .ok (.iload_n 3, 1)) (h3 : decode code (pc + 1 + 1) = .ok (.iconst v, 1)) (h4 : decode code (pc + 1 + 1 + 1) = .ok (.iadd, 1)) (h5 : decode code (pc + 1 + 1 + 1 + 1) = .ok (.iaload, 1)) (hn : pc + 5 = n) (hij : i + j < L) (hL : L ≤ 3072) (k : zL E b L xs i n (.int (xs (i + j)) :: st) M) : zL E b L xs i pc st M := by
  subst hn
  intro p e s m below meth c H ls X hP hS hl
  refine lv_aload_n X.1.1 X.1.2.1 h1 rfl (hl.2.2 0 _ rfl) ?_
  refine lv_iload_n X.1.1 X.1.2.1 h2 rfl (hl.2.2 3 _ rfl) ?_
  refine lv_iconst X.1.1 X.1.2.1 h3 hj ?_
  refine lv_iadd X.1.1 X.1.2.1 h4 ?_
  rw [nI_add]
  refine va_sld X.1.1 X.1.2.1 X.1.2.2.2.2.2.2.1 X.1.2.2.2.2.2.2.2.1 (A := fun q => s.heap.size ≤ q) (Nat.not_le.mpr X.1.2.2.2.2.2.2.2.1) hS (vp_in_nI hij (by omega)) h5 ?_
  rw [nI_clamp (by omega)]
  exact k p e s m below meth c H ls X hP hS hl
theorem zl_call {mj : zM} {d1 idx a : Nat} {av : List Value} {r : Value} (hd : decode code pc = .ok (.invokevirtual idx, 3)) (hn : pc + 3 = n) (hlink : Cond.methodLink R_law idx mj.1 ∈ lw_good) (hy : zYv mj av.length) (hr : zrc E M a mj.1.cls) (hd1 : d1 ≤ 11) (hw : (st.map fun v => v.category).sum ≤ 8) (hc : zCT E d1 mj (.ref (zad E a) :: av) M (some r) M2) (kk : zL E b L xs i n (r :: st) M2) : zL E b L xs i pc (av.reverse ++ .ref (zad E a) :: st) M := by
  subst hn
  intro p e s m below meth c H ls X hP hS hl
  obtain ⟨⟨x1, x2, x3, x4, x5, x6, x7, x8, x9, x10⟩, hW, hA⟩ := id X
  have hts : ∀ w ∈ lw_good, w.before #[Value.ref b] s = true := fun w hw => x6 w (List.mem_filter.mp hw).1
  have hzA : ∀ q, zA E q → s.heap.size ≤ q := fun q ⟨k, hk, e⟩ => by
    rw [e]
    exact hA k hk
  have hS2 : va_S (zA E) s.heap H [] := ⟨hS.1, fun q h1 _ => hS.2.1 q h1 (Nat.not_le.mpr h1), fun _ h => absurd h List.not_mem_nil⟩
  have room : (zrm d1).frames + 1 ≤ room_1.frames ∧ 8 + (mj.2.2.1 + 11) + (zrm d1).locals ≤ room_1.locals := by
    have hm := hy.2.2.2.1
    refine ⟨?_, ?_⟩
    · show d1 + 1 ≤ 2048
      omega
    · show 8 + (mj.2.2.1 + 11) + 64 * d1 ≤ 84000
      omega
  have run := va_runV (p := p) (e := e) (below := below) (meth := meth) (R := room_1) (locs := []) (cells := 1000) (slots := 20000) (g := F0 m pc ls (av.reverse ++ .ref (zad E a) :: st)) (As := av) (rest := st) (own := R_law) (C := mj.1.cls) ⟨x1, x2, x4, x5, hts⟩ hc ⟨callB_of av.length hts (zgoodIn hy.2.1) rfl rfl rfl (hts _ hy.2.2.1) (hts _ hlink) hy.1 room, hts _ hy.2.2.2.2.1, hts _ hy.2.2.2.2.2⟩ ⟨zblind, zrecv hW.1 hP hr, fun U hU hWm => ⟨rfl, by rw [hU]; exact hP, hW.to hS2 hU hWm⟩⟩ rfl rfl hl.1 rfl (lv_room hw) hd ⟨Nat.le_of_ble_eq_true rfl, Nat.le_of_ble_eq_true rfl⟩
  intro T hT Y
  obtain ⟨v, st₀, t, T', L', h0, Y', hL, e1, e2, ⟨hv, hp, hz, hk⟩, go⟩ := run T hT Y
  cases hv
  rw [h0] at hz hk
  have Y2 := Stand.forget (locs := []) Y' (fun q hq => hzA _ (hL q hq))
  obtain ⟨t2, a1, b1⟩ := kk p e s m below meth c T'.heap ls X (by rw [e1]; exact hp) ⟨Nat.le_trans hS.1 (by rw [e1]; exact hz), fun q h1 h2 => by rw [e1, hk q (Nat.lt_of_lt_of_le h1 hS.1) (fun z => h2 (hzA q z))]; exact hS.2.1 q h1 h2, fun _ h => absurd h List.not_mem_nil⟩ hl T' rfl Y2
  exact ⟨t2, go t2 a1, b1⟩
theorem zl_eq {r : Int32} {off : Int} {tgt : Nat} (hd : decode code pc = .ok (.if_icmp .eq off, 3)) (ht : (pc : Int) + off = (tgt : Int)) (k : zL E b L xs i tgt st M) : zL E b L xs i pc (.int r :: .int r :: st) M := by
  intro p e s m below meth c H ls X hP hS hl
  exact lv_icmp_eq X.1.1 X.1.2.1 hd ht (fun _ => k p e s m below meth c H ls X hP hS hl) (fun q => absurd rfl q)
theorem zl_leq {r : Int64} {off : Int} {tgt : Nat} (hd : decode code pc = .ok (.lcmp, 1)) (hd2 : decode code (pc + 1) = .ok (.ifCond .eq off, 3)) (ht : ((pc + 1 : Nat) : Int) + off = (tgt : Int)) (k : zL E b L xs i tgt st M) : zL E b L xs i pc (.long r :: .long r :: st) M := by
  intro p e s m below meth c H ls X hP hS hl
  refine W.lcmp X.1.1 X.1.2.1 hd ?_
  exact lv_if_eq X.1.1 X.1.2.1 hd2 ht (fun _ => k p e s m below meth c H ls X hP hS hl) (fun q => absurd ((zcmp_eq r r).mpr rfl) q)
end ZL
