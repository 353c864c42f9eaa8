/-! ===== rules of the judgement: fields, arrays, calls ===== -/
/-- a row of rows, one place changed -/
def zsu (f : Nat → Nat → Int32) (a i : Nat) (x : Int32) : Nat → Nat → Int32 := va_up f a (upd (f a) i x)
theorem zsu_at (f : Nat → Nat → Int32) (a i : Nat) (x : Int32) (b k : Nat) : zsu f a i x b k = if b = a ∧ k = i then x else f b k := by
  unfold zsu va_up upd
  by_cases h : b = a
  · subst h
    by_cases h2 : k = i
    · simp [h2]
    · simp [h2]
  · simp [h]
theorem zsu_ne (f : Nat → Nat → Int32) {a i : Nat} (x : Int32) {b : Nat} (h : b ≠ a) : zsu f a i x b = f b := by
  unfold zsu
  rw [va_up_ne _ _ h]
theorem zsu_row (f : Nat → Nat → Int32) (a i : Nat) (x : Int32) : zsu f a i x a = upd (f a) i x := by
  unfold zsu
  rw [va_up_self]
theorem zsu_focus (f : Nat → Nat → Int32) (a i : Nat) (g : Nat → Int32) (x : Int32) : zsu (va_up f a g) a i x = va_up f a (upd g i x) := by
  unfold zsu
  rw [va_up_self, bx_uu]
theorem zup_focus {α : Type} (f : Nat → α) (a : Nat) (v w : α) : va_up (va_up f a v) a w = va_up f a w := bx_uu f a v w
theorem zup_same {α : Type} (f : Nat → α) (a : Nat) : va_up f a (f a) = f := by
  funext k
  by_cases h : k = a
  · subst h; rw [va_up_self]
  · rw [va_up_ne _ _ h]
theorem zup_swap {α : Type} (f : Nat → α) {a b : Nat} (h : a ≠ b) (v w : α) : va_up (va_up f a v) b w = va_up (va_up f b w) a v := by
  funext k
  by_cases h1 : k = a
  · subst h1; rw [va_up_ne _ _ h, va_up_self, va_up_self]
  · by_cases h2 : k = b
    · subst h2; rw [va_up_self, va_up_ne _ _ h1, va_up_self]
    · rw [va_up_ne _ _ h2, va_up_ne _ _ h1, va_up_ne _ _ h1, va_up_ne _ _ h2]
section ZH
variable {E : zE} {mi : zM} {d : Nat} {rv : Option Value} {M1 M M2 : zMem} {pc n : Nat} {lo lo1 : List (Option Value)} {st : List Value}
theorem zi_getf {a ci k N idx : Nat} {C : String} {T : u_T} {fs : List Value} {v : Value} (hd : decode mi.2.1 pc = .ok (.getfield idx, 3)) (hn : pc + 3 = n) (ha : a < 177) (he : zce E M a = .inr (ci, fs)) (hc : vwCl[ci]? = some (C, T, N)) (hin : ∀ w ∈ u_ws C T N, w ∈ lw_good) (hk : k < N) (hT : (T k).1 = C) (hlink : Cond.fieldLink mi.1.cls idx C (T k).2.1 (T k).2.2.1 ∈ lw_good) (hv : fs[k]? = some v) (kk : zG E mi d rv M1 n lo (v :: st) M) : zG E mi d rv M1 pc lo (.ref (zad E a) :: st) M := by
  subst hn
  intro p e s m args below meth c H locs ls X hP hS hl
  obtain ⟨x1, x2, x3, x4, x5, x6, x7, x8⟩ := id X
  exact va_get x1 x2 x6 hin x5 x8.1 hP a (by rw [zwl_at E M ha, he]) hc k hk (x6 _ hlink) (fun x h => by rw [hT] at h; exact h) hv hd (kk p e s m args below meth c H locs ls X hP hS hl)
theorem zi_getfN {a ci k N idx : Nat} {C host : String} {T : u_T} {fs : List Value} {v : Value} (hd : decode mi.2.1 pc = .ok (.getfield idx, 3)) (hn : pc + 3 = n) (ha : a < 177) (he : zce E M a = .inr (ci, fs)) (hc : vwCl[ci]? = some (C, T, N)) (hin : ∀ w ∈ u_ws C T N, w ∈ lw_good) (hk : k < N) (hT : (T k).1 = C) (hlink : Cond.fieldLinkNest mi.1.cls idx C (T k).2.1 (T k).2.2.1 host ∈ lw_tbl) (hv : fs[k]? = some v) (kk : zG E mi d rv M1 n lo (v :: st) M) : zG E mi d rv M1 pc lo (.ref (zad E a) :: st) M := by
  subst hn
  intro p e s m args below meth c H locs ls X hP hS hl
  obtain ⟨x1, x2, x3, x4, x5, x6, x7, x8⟩ := id X
  exact va_getN x1 x2 x6 hin x5 x8.1 hP a (by rw [zwl_at E M ha, he]) hc k hk (va_Nw.use rfl (x8.2.2.1 _ hlink rfl)) (fun x h => by rw [hT] at h; exact h) hv hd (kk p e s m args below meth c H locs ls X hP hS hl)
theorem zi_putf {a ci k N idx : Nat} {C : String} {T : u_T} {fs : List Value} {x : Int32} (ty0 : Nat → FieldType) (hd : decode mi.2.1 pc = .ok (.putfield idx, 3)) (hn : pc + 3 = n) (ha : a < 177) (he : zce E M a = .inr (ci, fs)) (hc : vwCl[ci]? = some (C, T, N)) (hin : ∀ w ∈ u_ws C T N, w ∈ lw_good) (hty : ∀ k, k < N → parseFieldDescriptor (T k).2.2.1 = some (ty0 k)) (hnm : ∀ a, a < N → ∀ b, b < N → a ≠ b → (T a).2.1 ≠ (T b).2.1) (hk : k < N) (hT : (T k).1 = C) (hlink : Cond.fieldLink mi.1.cls idx C (T k).2.1 (T k).2.2.1 ∈ lw_good) (hfin : (T k).2.2.2 = false) (hI : parseFieldDescriptor (T k).2.2.1 = some .int) (hl0 : k < fs.length) (h2 : zce E M2 a = .inr (ci, fs.set k (.int x))) (ho : ∀ b, b ≠ a → zce E M2 b = zce E M b) (kk : zG E mi d rv M1 n lo st M2) : zG E mi d rv M1 pc lo (.int x :: .ref (zad E a) :: st) M := by
  subst hn
  intro p e s m args below meth c H locs ls X hP hS hl
  obtain ⟨x1, x2, x3, x4, x5, x6, x7, x8⟩ := id X
  exact va_put x1 x2 x6 hin ty0 hty hnm x5 x8.1 hP (zD_of x8.2.1 M) hS a (by rw [zwl_at E M ha, he]) hc k hk (x6 _ hlink) (fun x h => by rw [hT] at h; exact h) hfin hI rfl rfl hl0 hd
    (fun H1 locs1 p1 p2 p3 => kk p e s m args below meth c H1 locs1 ls X (by rw [← zwl_set ha h2 ho]; exact p1) p3 hl)
theorem zi_putfN {a ci k N idx : Nat} {C host : String} {T : u_T} {fs : List Value} {x : Int32} (ty0 : Nat → FieldType) (hd : decode mi.2.1 pc = .ok (.putfield idx, 3)) (hn : pc + 3 = n) (ha : a < 177) (he : zce E M a = .inr (ci, fs)) (hc : vwCl[ci]? = some (C, T, N)) (hin : ∀ w ∈ u_ws C T N, w ∈ lw_good) (hty : ∀ k, k < N → parseFieldDescriptor (T k).2.2.1 = some (ty0 k)) (hnm : ∀ a, a < N → ∀ b, b < N → a ≠ b → (T a).2.1 ≠ (T b).2.1) (hk : k < N) (hT : (T k).1 = C) (hlink : Cond.fieldLinkNest mi.1.cls idx C (T k).2.1 (T k).2.2.1 host ∈ lw_tbl) (hfin : (T k).2.2.2 = false) (hI : parseFieldDescriptor (T k).2.2.1 = some .int) (hl0 : k < fs.length) (h2 : zce E M2 a = .inr (ci, fs.set k (.int x))) (ho : ∀ b, b ≠ a → zce E M2 b = zce E M b) (kk : zG E mi d rv M1 n lo st M2) : zG E mi d rv M1 pc lo (.int x :: .ref (zad E a) :: st) M := by
  subst hn
  intro p e s m args below meth c H locs ls X hP hS hl
  obtain ⟨x1, x2, x3, x4, x5, x6, x7, x8⟩ := id X
  exact va_putN x1 x2 x6 hin ty0 hty hnm x5 x8.1 hP (zD_of x8.2.1 M) hS a (by rw [zwl_at E M ha, he]) hc k hk (va_Nw.use rfl (x8.2.2.1 _ hlink rfl)) (fun x h => by rw [hT] at h; exact h) hfin hI rfl rfl hl0 hd
    (fun H1 locs1 p1 p2 p3 => kk p e s m args below meth c H1 locs1 ls X (by rw [← zwl_set ha h2 ho]; exact p1) p3 hl)
/-- an int array's place -/
theorem zi_iald {a N i : Nat} {x : Int32} {f : Nat → Int32} (hd : decode mi.2.1 pc = .ok (.iaload, 1)) (hn : pc + 1 = n) (ha : a < 177) (he : zce E M a = .inl (E.2.2.2.1 0, N, .inl f)) (hN : N < 2 ^ 31) (hx : x = nI i) (hi : i < N) (kk : zG E mi d rv M1 n lo (.int (f i) :: st) M) : zG E mi d rv M1 pc lo (.int x :: .ref (zad E a) :: st) M := by
  subst hn; subst hx
  intro p e s m args below meth c H locs ls X hP hS hl
  obtain ⟨x1, x2, x3, x4, x5, x6, x7, x8⟩ := id X
  refine va_iald x1 x2 x8.1 hP a 0 (by rw [zwl_at E M ha, he]) rfl (vp_in_nI hi hN) hd ?_
  rw [nI_clamp (by omega)]
  exact kk p e s m args below meth c H locs ls X hP hS hl
theorem zi_iast {a N i : Nat} {x y : Int32} {f : Nat → Int32} (hd : decode mi.2.1 pc = .ok (.iastore, 1)) (hn : pc + 1 = n) (ha : a < 177) (he : zce E M a = .inl (E.2.2.2.1 0, N, .inl f)) (hN : N < 2 ^ 31) (hx : x = nI i) (hi : i < N) (h2 : zce E M2 a = .inl (E.2.2.2.1 0, N, .inl (upd f i y))) (ho : ∀ b, b ≠ a → zce E M2 b = zce E M b) (kk : zG E mi d rv M1 n lo st M2) : zG E mi d rv M1 pc lo (.int y :: .int x :: .ref (zad E a) :: st) M := by
  subst hn; subst hx
  intro p e s m args below meth c H locs ls X hP hS hl
  obtain ⟨x1, x2, x3, x4, x5, x6, x7, x8⟩ := id X
  refine va_iast x1 x2 x8.1 hP (zD_of x8.2.1 M) hS a 0 (by rw [zwl_at E M ha, he]) rfl (vp_in_nI hi hN) hd (fun H1 locs1 p1 p2 p3 => ?_)
  rw [nI_clamp (by omega)] at p1
  exact kk p e s m args below meth c H1 locs1 ls X (by rw [← zwl_set ha h2 ho]; exact p1) p3 hl
theorem zi_alen {a N : Nat} {f : Nat → Int32} (hd : decode mi.2.1 pc = .ok (.arraylength, 1)) (hn : pc + 1 = n) (ha : a < 177) (he : zce E M a = .inl (E.2.2.2.1 0, N, .inl f)) (kk : zG E mi d rv M1 n lo (.int (nI N) :: st) M) : zG E mi d rv M1 pc lo (.ref (zad E a) :: st) M := by
  subst hn
  intro p e s m args below meth c H locs ls X hP hS hl
  obtain ⟨x1, x2, x3, x4, x5, x6, x7, x8⟩ := id X
  exact va_alen (v := nI N) x1 x2 x8.1 hP a 0 (by rw [zwl_at E M ha, he]) rfl rfl hd (kk p e s m args below meth c H locs ls X hP hS hl)
/-- booleans in an array -/
theorem zi_zald {i : Nat} {x : Int32} (hd : decode mi.2.1 pc = .ok (.baload, 1)) (hn : pc + 1 = n) (hx : x = nI i) (hi : i < 2) (kk : zG E mi d rv M1 n lo (.int (M.2 174 i) :: st) M) : zG E mi d rv M1 pc lo (.int x :: .ref (zad E 174) :: st) M := by
  subst hn; subst hx
  intro p e s m args below meth c H locs ls X hP hS hl
  obtain ⟨x1, x2, x3, x4, x5, x6, x7, x8⟩ := id X
  refine va_zald (n := 2) (f := M.2 174) x1 x2 x8.1 hP 174 3 (by rw [zwl_at E M (by decide)]; rfl) rfl (vp_in_nI hi (by decide)) hd ?_
  rw [nI_clamp (by omega)]
  exact kk p e s m args below meth c H locs ls X hP hS hl
theorem zi_zast1 {i : Nat} {x : Int32} (hd : decode mi.2.1 pc = .ok (.bastore, 1)) (hn : pc + 1 = n) (hx : x = nI i) (hi : i < 2) (kk : zG E mi d rv M1 n lo st (M.1, zsu M.2 174 i 1)) : zG E mi d rv M1 pc lo (.int 1 :: .int x :: .ref (zad E 174) :: st) M := by
  subst hn; subst hx
  intro p e s m args below meth c H locs ls X hP hS hl
  obtain ⟨x1, x2, x3, x4, x5, x6, x7, x8⟩ := id X
  refine va_zast (n := 2) (f := M.2 174) x1 x2 x8.1 hP (zD_of x8.2.1 M) hS 174 3 (by rw [zwl_at E M (by decide)]; rfl) rfl (vp_in_nI hi (by decide)) hd (fun H1 locs1 p1 p2 p3 => ?_)
  rw [nI_clamp (by omega), show vp_nar .boolean 1 = 1 by decide] at p1
  refine kk p e s m args below meth c H1 locs1 ls X ?_ p3 hl
  have h2 : zce E (M.1, zsu M.2 174 i 1) 174 = .inl (E.2.2.2.1 3, 2, .inl (upd (M.2 174) i 1)) := by
    rw [zce_o _ _ (by decide), ← zsu_row M.2 174 i 1]
    rfl
  rw [← zwl_set (M := M) (M1 := (M.1, zsu M.2 174 i 1)) (a := 174) (by decide) h2 (fun b hb => zce_oOther (M := M) (M1 := (M.1, zsu M.2 174 i 1)) (a := 174) (by decide) (fun k hk => zsu_ne _ _ hk) rfl hb)]
  exact p1
/-- arrays of references: the squares kept, the rows' rows -/
theorem zi_aldq {i : Nat} {x : Int32} (hd : decode mi.2.1 pc = .ok (.aaload, 1)) (hn : pc + 1 = n) (hx : x = nI i) (hi : i < 24) (kk : zG E mi d rv M1 n lo (.ref (zad E (zsq (5 + i))) :: st) M) : zG E mi d rv M1 pc lo (.int x :: .ref (zad E 161) :: st) M := by
  subst hn; subst hx
  intro p e s m args below meth c H locs ls X hP hS hl
  obtain ⟨x1, x2, x3, x4, x5, x6, x7, x8⟩ := id X
  refine va_aldq (n := 24) (f := fun i => some (zad E (zsq (5 + i)))) x1 x2 x8.1 hP 161 1 (by rw [zwl_at E M (by decide)]; rfl) rfl (vp_in_nI hi (by decide)) hd ?_
  rw [nI_clamp (by omega)]
  exact kk p e s m args below meth c H locs ls X hP hS hl
theorem zi_aldr {i : Nat} {x : Int32} (hd : decode mi.2.1 pc = .ok (.aaload, 1)) (hn : pc + 1 = n) (hx : x = nI i) (hi : i < 8) (kk : zG E mi d rv M1 n lo (.ref (zad E (148 + i)) :: st) M) : zG E mi d rv M1 pc lo (.int x :: .ref (zad E 147) :: st) M := by
  subst hn; subst hx
  intro p e s m args below meth c H locs ls X hP hS hl
  obtain ⟨x1, x2, x3, x4, x5, x6, x7, x8⟩ := id X
  have hin : vp_in (nI i) 8 := vp_in_nI hi (by decide)
  have hq := hP 147 _ (zwl_at E M (by decide))
  refine W.aald (v := .ref (zad E (148 + i))) (ty := .array .int) x1 x2 hq ((x8.1.2 2 _ rfl).1 8 (fun j => va_rf (some (zad E (148 + j))))) rfl (fun q => by cases q) (by show ¬ (nI i < 0 ∨ (arrV _ _ _).slots.size ≤ _); rw [arrV_size]; exact hin) (by show (arrV _ _ _).slots[_]? = _; rw [nI_clamp (by omega), arrV_read _ _ hi]; rfl) rfl rfl hd ?_
  exact kk p e s m args below meth c H locs ls X hP hS hl
/-- System.arraycopy between int arrays -/
theorem zi_acopy {idx a b N0 N1 sp dp k : Nat} {xs xd xk : Int32} {f g : Nat → Int32} (hd : decode mi.2.1 pc = .ok (.invokestatic idx, 3)) (hn : pc + 3 = n) (hlink : Cond.methodLink mi.1.cls idx arraycopyName ∈ lw_good) (ha : a < 177) (hb : b < 177) (he : zce E M a = .inl (E.2.2.2.1 0, N0, .inl f)) (hg : zce E M b = .inl (E.2.2.2.1 0, N1, .inl g)) (e1 : xs = nI sp) (e2 : xd = nI dp) (e3 : xk = nI k) (h0 : sp + k ≤ N0) (h1 : dp + k ≤ N1) (hN0 : N0 < 2 ^ 31) (hN1 : N1 < 2 ^ 31) (hdd : 2 ≤ d) (h2 : zce E M2 b = .inl (E.2.2.2.1 0, N1, .inl (va_cpy f g sp dp k))) (ho : ∀ c, c ≠ b → zce E M2 c = zce E M c) (hw : (st.map fun v => v.category).sum ≤ 8) (kk : zG E mi d rv M1 n lo st M2) : zG E mi d rv M1 pc lo (.int xk :: .int xd :: .ref (zad E b) :: .int xs :: .ref (zad E a) :: st) M := by
  subst hn; subst e1; subst e2; subst e3
  intro p e s m args below meth c H locs ls X hP hS hl
  obtain ⟨x1, x2, x3, x4, x5, x6, x7, x8⟩ := id X
  have w1 : Cond.native arraycopyName ∈ lw_good := by decide +kernel
  have w2 : Cond.static arraycopyName ∈ lw_good := by decide +kernel
  have w3 : Cond.initialized "java/lang/System" ∈ lw_good := by decide +kernel
  have c1 : (nI sp).toNatClampNeg = sp := nI_clamp (by omega)
  have c2 : (nI dp).toNatClampNeg = dp := nI_clamp (by omega)
  have c3 : (nI k).toNatClampNeg = k := nI_clamp (by omega)
  have w4 : nativeFrameWords "java/lang/System" "arraycopy" 5 ≤ 40 := by decide +kernel
  have w5 : (st.map fun v => v.category).sum + (nativeFrameWords "java/lang/System" "arraycopy" 5 + 11) ≤ (zrm d).locals := by
    show _ ≤ 64 * d
    omega
  refine va_copyi (sp := nI sp) (dp := nI dp) (n := nI k) x1 x2 (x4.trans hl.1.symm) x5 (x6 _ hlink) (x6 _ w1) (x6 _ w2) (x6 _ w3) x8.1 hP (zD_of x8.2.1 M) hS a b 0 0 (by rw [zwl_at E M ha, he]) (by rw [zwl_at E M hb, hg]) rfl rfl rfl (nI_pos (by omega)) (nI_pos (by omega)) (nI_pos (by omega)) (by rw [c1, c3]; exact h0) (by rw [c2, c3]; exact h1) (fun i _ => rfl) (by show 1 ≤ d; omega) w5 hd (fun H1 locs1 p1 p2 p3 => ?_)
  rw [c1, c2, c3] at p1
  exact kk p e s m args below meth c H1 locs1 ls X (by rw [← zwl_set hb h2 ho]; exact p1) p3 hl
/-- the static table of kinds -/
theorem zi_kget {idx : Nat} (hd : decode mi.2.1 pc = .ok (.getstatic idx, 3)) (hn : pc + 3 = n) (hlink : Cond.fieldLink mi.1.cls idx "NameNoon" "KIND_ABOVE" "[I" ∈ lw_good) (kk : zG E mi d rv M1 n lo (.ref E.2.2.2.2 :: st) M) : zG E mi d rv M1 pc lo st M := by
  subst hn
  intro p e s m args below meth c H locs ls X hP hS hl
  obtain ⟨x1, x2, x3, x4, x5, x6, x7, x8⟩ := id X
  exact va_gets x1 x2 x8.2.2.2.1 hS x5 (x6 _ hlink) (fun x h => h) hd (kk p e s m args below meth c H locs ls X hP hS hl)
theorem zi_kald {i : Nat} {x : Int32} (hd : decode mi.2.1 pc = .ok (.iaload, 1)) (hn : pc + 1 = n) (hx : x = nI i) (hi : i < 6) (kk : zG E mi d rv M1 n lo (.int (zkn i) :: st) M) : zG E mi d rv M1 pc lo (.int x :: .ref E.2.2.2.2 :: st) M := by
  subst hn; subst hx
  intro p e s m args below meth c H locs ls X hP hS hl
  obtain ⟨x1, x2, x3, x4, x5, x6, x7, x8⟩ := id X
  obtain ⟨cell, h1, h2, h3, h4, h5, h6, h7⟩ := x8.2.2.2.2.kept hS.2.1
  exact W.iald (v := .int (zkn i)) x1 x2 h1 h2 h3 (fun q => vp_in_nI (n := i) (N := 6) hi (by decide) (q.elim Or.inl fun z => Or.inr (Nat.le_trans h4 z))) (by rw [nI_clamp (by omega)]; exact h6 i hi) rfl rfl hd (kk p e s m args below meth c H locs ls X hP hS hl)
/-- what is asked of a method that is called: its words -/
def zYs (mj : zM) (k : Nat) : Prop := (mj.1.cls ≠ "java/lang/invoke/MethodHandle" ∧ mj.1.cls ≠ "java/lang/invoke/VarHandle" ∧ (parseMethodDescriptor mj.1.desc).map (fun d => d.parameters.length) = some k) ∧ Cond.code mj.1 mj.2.1 mj.2.2.1 mj.2.2.2 ∈ lw_good ∧ Cond.initialized mj.1.cls ∈ lw_good ∧ mj.2.2.1 ≤ 40 ∧ Cond.static mj.1 ∈ lw_good
def zYv (mj : zM) (k : Nat) : Prop := (mj.1.cls ≠ "java/lang/invoke/MethodHandle" ∧ mj.1.cls ≠ "java/lang/invoke/VarHandle" ∧ (parseMethodDescriptor mj.1.desc).map (fun d => d.parameters.length) = some k) ∧ Cond.code mj.1 mj.2.1 mj.2.2.1 mj.2.2.2 ∈ lw_good ∧ Cond.initialized mj.1.cls ∈ lw_good ∧ mj.2.2.1 ≤ 40 ∧ Cond.instanceMethod mj.1 ∈ lw_good ∧ Cond.selects mj.1.cls mj.1 mj.1 ∈ lw_good
/-- an object of the class C stands at a -/
def zrc (E : zE) (M : zMem) (a : Nat) (C : String) : Prop := a < 177 ∧ ∃ (ci : Nat) (fs : List Value) (T : u_T) (N : Nat), zce E M a = .inr (ci, fs) ∧ vwCl[ci]? = some (C, T, N)
theorem zgoodIn {mj : zM} (h : Cond.code mj.1 mj.2.1 mj.2.2.1 mj.2.2.2 ∈ lw_good) : GoodIn lw_good (zws mj) := fun w hw => by
  rcases List.mem_cons.mp hw with rfl | hw
  · exact ⟨h, lw_goodGood _ h⟩
  · exact ⟨hw, lw_goodGood w hw⟩
theorem zblind {E : zE} {av : List Value} {M : zMem} : FrameBlind (va_Pc av (fun U => va_P E.2.1 vwCl (zwl E M) U.heap ∧ zW E U)) := fun a U g mk q => by
  obtain ⟨q0, q1, q2⟩ := q
  exact ⟨q0, q1, q2.blind⟩
/-- behind a call -/
theorem zi_run {a : Array Value} {r : Option Value} {p : Program} {e : Env} {s : State} {m : MethodId} {args : Array Value} {below : List Frame} {meth : Method} {c : Code} {H : Heap} {locs : List Loc} {ls : Array Slot} {st0 : List Value} (X : zCx E mi p s m args meth c) (hS : va_S (zA E) s.heap H locs) (hl : zlo ls mi.2.2.1 lo)
    (hr : va_Run p E.1 e (zrm d) s m args below meth c H locs 0 0 0 0 (F0 m pc ls st0) st (zQ E r M2 a) (zA E)) (kk : zG E mi d rv M1 (pc + 3) lo (r.toList ++ st) M2) : W p E.1 e (zrm d) s m args below meth c H locs 0 0 (MQ below (zQ E rv M1) args s 0 0 (zA E)) (F0 m pc ls st0) := by
  intro T hT Y
  obtain ⟨v, st₀, t, T', L, h0, Y', hL, e1, e2, ⟨hv, hp, hz, hk⟩, go⟩ := hr T hT Y
  cases hv
  rw [h0] at hz hk
  obtain ⟨t2, a1, b1⟩ := kk p e s m args below meth c T'.heap (locs ++ L) ls X (by rw [e1]; exact hp) ⟨Nat.le_trans hS.1 (by rw [e1]; exact hz), fun q h1 h2 => by rw [e1, hk q (Nat.lt_of_lt_of_le h1 hS.1) h2]; exact hS.2.1 q h1 h2, fun q hq => by
      rcases List.mem_append.mp hq with h | h
      · exact hS.2.2 q h
      · exact hL q h⟩ hl T' rfl Y'
  exact ⟨t2, go t2 a1, b1⟩
theorem zroom {d1 d w : Nat} (h : d1 + 1 ≤ d) (hw : w ≤ 40) : (zrm d1).frames + 1 ≤ (zrm d).frames ∧ 8 + (w + 11) + (zrm d1).locals ≤ (zrm d).locals := by
  refine ⟨h, ?_⟩
  show 8 + (w + 11) + 64 * d1 ≤ 64 * d
  omega
theorem zi_callS {mj : zM} {d1 idx : Nat} {av : List Value} {r : Option Value} (hd : decode mi.2.1 pc = .ok (.invokestatic idx, 3)) (hn : pc + 3 = n) (hlink : Cond.methodLink mi.1.cls idx mj.1 ∈ lw_good) (hy : zYs mj av.length) (hdd : d1 + 1 ≤ d) (hw : (st.map fun v => v.category).sum ≤ 8) (hc : zCT E d1 mj av M r M2) (kk : zG E mi d rv M1 n lo (r.toList ++ st) M2) : zG E mi d rv M1 pc lo (av.reverse ++ st) M := by
  subst hn
  intro p e s m args below meth c H locs ls X hP hS hl
  obtain ⟨x1, x2, x3, x4, x5, x6, x7, x8⟩ := id X
  refine zi_run X hS hl (va_runS (As := av) (rest := st) (own := mi.1.cls) ⟨x1, x2, x4, x5, x6⟩ hc ⟨callB_of av.length x6 (zgoodIn hy.2.1) rfl rfl rfl (x6 _ hy.2.2.1) (x6 _ hlink) hy.1 (zroom hdd hy.2.2.2.1), x6 _ hy.2.2.2.2⟩ ⟨zblind, fun U hU hW => ⟨rfl, by rw [hU]; exact hP, x8.to hS hU hW⟩⟩ rfl rfl hl.1 rfl (lv_room hw) hd ⟨Nat.le_refl _, Nat.le_refl _⟩) kk
theorem zi_callSN {mj : zM} {d1 idx : Nat} {host : String} {av : List Value} {r : Option Value} (hd : decode mi.2.1 pc = .ok (.invokestatic idx, 3)) (hn : pc + 3 = n) (hlink : Cond.methodLinkNest mi.1.cls idx mj.1 host ∈ lw_tbl) (hy : zYs mj av.length) (hdd : d1 + 1 ≤ d) (hw : (st.map fun v => v.category).sum ≤ 8) (hc : zCT E d1 mj av M r M2) (kk : zG E mi d rv M1 n lo (r.toList ++ st) M2) : zG E mi d rv M1 pc lo (av.reverse ++ st) M := by
  subst hn
  intro p e s m args below meth c H locs ls X hP hS hl
  obtain ⟨x1, x2, x3, x4, x5, x6, x7, x8⟩ := id X
  refine zi_run X hS hl (va_runSN (As := av) (rest := st) (own := mi.1.cls) ⟨x1, x2, x4, x5, x6⟩ hc ⟨va_cnB av.length x6 (zgoodIn hy.2.1) rfl rfl rfl (x8.2.2.1 _ hlink rfl) (x6 _ hy.2.2.1) hy.1 (zroom hdd hy.2.2.2.1), x6 _ hy.2.2.2.2, trivial⟩ ⟨zblind, fun U hU hW => ⟨rfl, by rw [hU]; exact hP, x8.to hS hU hW⟩⟩ rfl rfl hl.1 rfl (lv_room hw) hd ⟨Nat.le_refl _, Nat.le_refl _⟩) kk
theorem zrecv {a : Nat} {C : String} {s : State} {H : Heap} (hK : va_K E.2.1 vwCl (ztys E) s) (hP : va_P E.2.1 vwCl (zwl E M) H) (h : zrc E M a C) : ∃ cell : Cell, H[zad E a]? = some cell ∧ cell.vm.isStatics = false ∧ s.vm.findClass C = some cell.cls := by
  obtain ⟨ha, ci, fs, T, N, he, hc⟩ := h
  exact va_recv hK hP hc (by rw [zwl_at E M ha, he])
theorem zi_callV {mj : zM} {d1 idx a : Nat} {av : List Value} {r : Option Value} (hd : decode mi.2.1 pc = .ok (.invokevirtual idx, 3)) (hn : pc + 3 = n) (hlink : Cond.methodLink mi.1.cls idx mj.1 ∈ lw_good) (hy : zYv mj av.length) (hr : zrc E M a mj.1.cls) (hdd : d1 + 1 ≤ d) (hw : (st.map fun v => v.category).sum ≤ 8) (hc : zCT E d1 mj (.ref (zad E a) :: av) M r M2) (kk : zG E mi d rv M1 n lo (r.toList ++ st) M2) : zG E mi d rv M1 pc lo (av.reverse ++ .ref (zad E a) :: st) M := by
  subst hn
  intro p e s m args below meth c H locs ls X hP hS hl
  obtain ⟨x1, x2, x3, x4, x5, x6, x7, x8⟩ := id X
  refine zi_run X hS hl (va_runV (As := av) (rest := st) (own := mi.1.cls) (C := mj.1.cls) ⟨x1, x2, x4, x5, x6⟩ hc ⟨callB_of av.length x6 (zgoodIn hy.2.1) rfl rfl rfl (x6 _ hy.2.2.1) (x6 _ hlink) hy.1 (zroom hdd hy.2.2.2.1), x6 _ hy.2.2.2.2.1, x6 _ hy.2.2.2.2.2⟩ ⟨zblind, zrecv x8.1 hP hr, fun U hU hW => ⟨rfl, by rw [hU]; exact hP, x8.to hS hU hW⟩⟩ rfl rfl hl.1 rfl (lv_room hw) hd ⟨Nat.le_refl _, Nat.le_refl _⟩) kk
theorem zi_callVN {mj : zM} {d1 idx a : Nat} {host : String} {av : List Value} {r : Option Value} (hd : decode mi.2.1 pc = .ok (.invokevirtual idx, 3)) (hn : pc + 3 = n) (hlink : Cond.methodLinkNest mi.1.cls idx mj.1 host ∈ lw_tbl) (hy : zYv mj av.length) (hr : zrc E M a mj.1.cls) (hdd : d1 + 1 ≤ d) (hw : (st.map fun v => v.category).sum ≤ 8) (hc : zCT E d1 mj (.ref (zad E a) :: av) M r M2) (kk : zG E mi d rv M1 n lo (r.toList ++ st) M2) : zG E mi d rv M1 pc lo (av.reverse ++ .ref (zad E a) :: st) M := by
  subst hn
  intro p e s m args below meth c H locs ls X hP hS hl
  obtain ⟨x1, x2, x3, x4, x5, x6, x7, x8⟩ := id X
  refine zi_run X hS hl (va_runVN (As := av) (rest := st) (own := mi.1.cls) (C := mj.1.cls) ⟨x1, x2, x4, x5, x6⟩ hc ⟨va_cnB av.length x6 (zgoodIn hy.2.1) rfl rfl rfl (x8.2.2.1 _ hlink rfl) (x6 _ hy.2.2.1) hy.1 (zroom hdd hy.2.2.2.1), x6 _ hy.2.2.2.2.1, x6 _ hy.2.2.2.2.2⟩ ⟨zblind, zrecv x8.1 hP hr, fun U hU hW => ⟨rfl, by rw [hU]; exact hP, x8.to hS hU hW⟩⟩ rfl rfl hl.1 rfl (lv_room hw) hd ⟨Nat.le_refl _, Nat.le_refl _⟩) kk
end ZH
