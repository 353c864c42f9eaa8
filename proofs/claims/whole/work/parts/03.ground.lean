/-! ===== the ground: one world for all methods. zE: launch, class numbers, addresses, array classes, the static table's address ===== -/
abbrev zE : Type := Launch × va_G × (Nat → Nat) × (Nat → ClassId) × Nat
/-- a method: its name, bytes, locals, what it returns -/
abbrev zM : Type := MethodName × ByteArray × Nat × Option FieldType
/-- what the cells hold: squares (which, part, place), all else (cell, place) -/
abbrev zMem : Type := (Nat → Nat → Nat → Int32) × (Nat → Nat → Int32)
def zad (E : zE) : Nat → Nat := E.2.2.1
def zsq (j : Nat) : Nat := 5 * j
def zsa (j q : Nat) : Nat := 5 * j + q
def lw_good : List Cond := lw_tbl.filter goodWord
theorem lw_goodAt {w : Cond} (i : Nat) (h : lw_tbl[i]? = some w) (g : goodWord w = true) : w ∈ lw_good := List.mem_filter.mpr ⟨List.mem_of_getElem? h, g⟩
theorem lw_goodGood : ∀ w ∈ lw_good, (w.onTables && w.keeps) = true ∨ ∃ ty, w = .arrayClass ty := fun w h => good_of_word (List.mem_filter.mp h).2
def zisN : Cond → Bool
  | .fieldLinkNest _ _ _ _ _ _ => true
  | .methodLinkNest _ _ _ _ => true
  | _ => false
/-- the cells that are no square's -/
def zce2 (E : zE) (Z : Nat → Nat → Int32) (a : Nat) : va_E := match a with
  | 145 => .inr (6, [.ref (zad E 146), .ref (zad E 158), .ref (zad E (zsq 1)), .ref (zad E 160), .ref (zad E (zsq 2)), .ref (zad E (zsq 3)), .ref (zad E 162), .ref (zad E 163), .int (Z 145 8), .int (Z 145 9)])
  | 146 => .inr (3, [.ref (zad E 147), .ref (zad E 156), .ref (zad E 157)])
  | 147 => .inl (E.2.2.2.1 2, 8, .inr (.inr (.inr (.inr (fun i => some (zad E (148 + i)))))))
  | 156 => .inl (E.2.2.2.1 0, 8, .inl (Z 156))
  | 157 => .inl (E.2.2.2.1 0, 8, .inl (Z 157))
  | 158 => .inr (5, [.ref (zad E 159), .int (Z 158 1), .ref (zad E (zsq 0)), .int (Z 158 3), .int (Z 158 4), .int (Z 158 5), .int (Z 158 6)])
  | 159 => .inl (E.2.2.2.1 0, 90, .inl (Z 159))
  | 160 => .inr (0, [.ref (zad E 161), .int (Z 160 1), .int (Z 160 2)])
  | 161 => .inl (E.2.2.2.1 1, 24, .inr (.inr (.inr (.inr (fun i => some (zad E (zsq (5 + i))))))))
  | 162 => .inr (2, [.ref (zad E (zsq 1)), .ref (zad E (zsq 4))])
  | 163 => .inr (1, [.ref (zad E (zsq 1)), .ref (zad E 164), .int (Z 163 2)])
  | 164 => .inl (E.2.2.2.1 0, 16, .inl (Z 164))
  | 165 => .inr (7, [.int (Z 165 0), .int (Z 165 1), .ref (zad E 166), .ref (zad E 167), .ref (zad E 168), .ref (zad E 169), .ref (zad E 170), .ref (zad E 171), .ref (zad E 172), .int (Z 165 9), .ref (zad E 173), .int (Z 165 11), .int (Z 165 12), .int (Z 165 13), .int (Z 165 14), .int (Z 165 15), .int (Z 165 16), .int (Z 165 17), .int (Z 165 18), .ref (zad E 174), .ref (zad E 175), .ref (zad E 176), .int (Z 165 22)])
  | 166 => .inl (E.2.2.2.1 0, 8, .inl (Z 166))
  | 167 => .inl (E.2.2.2.1 0, 8, .inl (Z 167))
  | 168 => .inl (E.2.2.2.1 0, 320, .inl (Z 168))
  | 169 => .inl (E.2.2.2.1 0, 36, .inl (Z 169))
  | 170 => .inl (E.2.2.2.1 0, 36, .inl (Z 170))
  | 171 => .inl (E.2.2.2.1 0, 36, .inl (Z 171))
  | 172 => .inl (E.2.2.2.1 0, 864, .inl (Z 172))
  | 173 => .inl (E.2.2.2.1 0, 90, .inl (Z 173))
  | 174 => .inl (E.2.2.2.1 3, 2, .inl (Z 174))
  | 175 => .inl (E.2.2.2.1 0, 72, .inl (Z 175))
  | 176 => .inl (E.2.2.2.1 0, 16, .inl (Z 176))
  | b => .inl (E.2.2.2.1 0, 40, .inl (Z b))
def zce (E : zE) (M : zMem) (a : Nat) : va_E :=
  if a < 145 then
    if a % 5 = 0 then .inr (4, [.int (M.1 (a / 5) 0 0), .int (M.1 (a / 5) 0 1), .int (M.1 (a / 5) 0 2), .int (M.1 (a / 5) 0 3), .int (M.1 (a / 5) 0 4), .int (M.1 (a / 5) 0 5), .int (M.1 (a / 5) 0 6), .int (M.1 (a / 5) 0 7), .int (M.1 (a / 5) 0 8), .ref (zad E (a + 1)), .ref (zad E (a + 2)), .ref (zad E (a + 3)), .ref (zad E (a + 4))])
    else .inl (E.2.2.2.1 0, 6, .inl (M.1 (a / 5) (a % 5)))
  else zce2 E M.2 a
def zwl (E : zE) (M : zMem) : va_W := (List.range 177).map fun a => (zad E a, zce E M a)
theorem zwl_at (E : zE) (M : zMem) {a : Nat} (h : a < 177) : (zwl E M)[a]? = some (zad E a, zce E M a) := by
  simp [zwl, List.getElem?_map, List.getElem?_range, h]
theorem zwl_lt {E : zE} {M : zMem} {a : Nat} {q : Nat × va_E} (h : (zwl E M)[a]? = some q) : a < 177 := by
  have := (List.getElem?_eq_some_iff.mp h).1
  simpa [zwl] using this
theorem zwl_set {E : zE} {M M1 : zMem} {a : Nat} {x : va_E} (h : a < 177) (hx : zce E M1 a = x) (ho : ∀ b, b ≠ a → zce E M1 b = zce E M b) : (zwl E M).set a (zad E a, x) = zwl E M1 := by
  apply List.ext_getElem?
  intro k
  by_cases hk : k = a
  · subst hk
    rw [List.getElem?_set_self (by simpa [zwl] using h), zwl_at E M1 h, hx]
  · rw [List.getElem?_set_ne (Ne.symm hk)]
    by_cases hl : k < 177
    · rw [zwl_at E M hl, zwl_at E M1 hl, ho k hk]
    · simp [zwl, hl]
theorem zce_sq (E : zE) (M : zMem) {j : Nat} (h : j < 29) : zce E M (zsq j) = .inr (4, [.int (M.1 j 0 0), .int (M.1 j 0 1), .int (M.1 j 0 2), .int (M.1 j 0 3), .int (M.1 j 0 4), .int (M.1 j 0 5), .int (M.1 j 0 6), .int (M.1 j 0 7), .int (M.1 j 0 8), .ref (zad E (zsa j 1)), .ref (zad E (zsa j 2)), .ref (zad E (zsa j 3)), .ref (zad E (zsa j 4))]) := by
  unfold zce zsq zsa
  rw [if_pos (by omega), if_pos (by omega), show 5 * j / 5 = j by omega]
theorem zce_sa (E : zE) (M : zMem) {j q : Nat} (h : j < 29) (h1 : 0 < q) (h2 : q < 5) : zce E M (zsa j q) = .inl (E.2.2.2.1 0, 6, .inl (M.1 j q)) := by
  unfold zce zsa
  rw [if_pos (by omega), if_neg (by omega), show (5 * j + q) / 5 = j by omega, show (5 * j + q) % 5 = q by omega]
theorem zce_o (E : zE) (M : zMem) {a : Nat} (h : 145 ≤ a) : zce E M a = zce2 E M.2 a := by
  unfold zce
  rw [if_neg (by omega)]
theorem zce2_row (E : zE) (Z : Nat → Nat → Int32) {i : Nat} (h : i < 8) : zce2 E Z (148 + i) = .inl (E.2.2.2.1 0, 40, .inl (Z (148 + i))) := by
  match i, h with
  | 0, _ => rfl
  | 1, _ => rfl
  | 2, _ => rfl
  | 3, _ => rfl
  | 4, _ => rfl
  | 5, _ => rfl
  | 6, _ => rfl
  | 7, _ => rfl
/-- a cell's content depends on its own row alone -/
theorem zce_sqOther {E : zE} {M M1 : zMem} {j : Nat} (h1 : ∀ i, i ≠ j → M1.1 i = M.1 i) (h2 : M1.2 = M.2) {b : Nat} (hb : b / 5 ≠ j ∨ 145 ≤ b) : zce E M1 b = zce E M b := by
  unfold zce
  by_cases hl : b < 145
  · have hj : b / 5 ≠ j := by omega
    rw [if_pos hl, if_pos hl, h1 _ hj]
  · rw [if_neg hl, if_neg hl, h2]
theorem zce2_other {E : zE} {Z Z1 : Nat → Nat → Int32} {a : Nat} (h1 : ∀ i, i ≠ a → Z1 i = Z i) {b : Nat} (hb : b ≠ a) : zce2 E Z1 b = zce2 E Z b := by
  unfold zce2
  split <;> first | rfl | (rw [h1 _ hb])
theorem zce_oOther {E : zE} {M M1 : zMem} {a : Nat} (ha : 145 ≤ a) (h1 : ∀ i, i ≠ a → M1.2 i = M.2 i) (h2 : M1.1 = M.1) {b : Nat} (hb : b ≠ a) : zce E M1 b = zce E M b := by
  unfold zce
  rw [h2, zce2_other h1 hb]
def zA (E : zE) : Nat → Prop := fun q => ∃ k, k < 177 ∧ q = zad E k
def ztys (E : zE) : List (ClassId × FieldType) := [(E.2.2.2.1 0, .int), (E.2.2.2.1 1, .object "NameNoon$Square"), (E.2.2.2.1 2, .array .int), (E.2.2.2.1 3, .boolean)]
def zkn (j : Nat) : Int32 := match j with
  | 0 => 0
  | 1 => 0
  | 2 => 1
  | 3 => 1
  | 4 => 0
  | _ => 4
/-- what stays through a call: classes, addresses apart, nest words, the static table -/
def zW (E : zE) (U : State) : Prop := va_K E.2.1 vwCl (ztys E) U ∧ (∀ i j : Nat, i < 177 → j < 177 → zad E i = zad E j → i = j) ∧ (∀ w ∈ lw_tbl, zisN w = true → va_Nw w U) ∧ va_Z "NameNoon" "KIND_ABOVE" "[I" (.ref E.2.2.2.2) (zA E) U U.heap ∧ va_T .int E.2.2.2.2 6 (fun j => .int (zkn j)) (zA E) U U.heap
theorem zD_of {E : zE} (h : ∀ i j : Nat, i < 177 → j < 177 → zad E i = zad E j → i = j) (M : zMem) : va_D (zA E) (zwl E M) := by
  refine ⟨fun i j p q hi hj hpq => ?_, fun k q hk => ?_⟩
  · have l1 := zwl_lt hi
    have l2 := zwl_lt hj
    rw [zwl_at E M l1] at hi
    rw [zwl_at E M l2] at hj
    cases hi
    cases hj
    exact h i j l1 l2 hpq
  · have l1 := zwl_lt hk
    rw [zwl_at E M l1] at hk
    cases hk
    exact ⟨k, l1, rfl⟩
theorem zNw_warm {w : Cond} (hw : zisN w = true) {s U : State} (hW : s.WarmedH U.vm) (h : va_Nw w s) : va_Nw w U := by
  cases w <;> first | exact va_Nw.warmF hW h | exact va_Nw.warmM hW h | (cases hw)
theorem zNw_same {w : Cond} (hw : zisN w = true) {s U : State} (hv : s.vm = U.vm) (h : va_Nw w s) : va_Nw w U := by
  cases w <;> first | exact va_Nw.same rfl hv h | (cases hw)
/-- the standing facts, carried to a callee's start -/
theorem zW.to {E : zE} {s U : State} {H : Heap} {locs : List Loc} (h : zW E s) (hS : va_S (zA E) s.heap H locs) (hU : U.heap = H) (hW : s.WarmedH U.vm) : zW E U := by
  obtain ⟨h1, h2, h3, h4, h5⟩ := h
  refine ⟨va_K.moved hW.alike h1, h2, fun w hw hn => zNw_warm hn hW (h3 w hw hn), ?_, ?_⟩
  · rw [hU]; exact (h4.moved hW.alike).kept hS.2.1
  · rw [hU]; exact (h5.moved hW.alike).kept hS.2.1
theorem zW.blind {E : zE} {U : State} {a : Array Value} {g : JFrame} {mk : MethodId} (h : zW E U) : zW E (U.calling g mk a) := by
  obtain ⟨h1, h2, h3, h4, h5⟩ := h
  exact ⟨va_K.moved (u := U) (U := U.calling g mk a) (Vm.Alike.refl U.vm) h1, h2, fun w hw hn => zNw_same (s := U) (U := U.calling g mk a) hn (rfl : U.vm = (U.calling g mk a).vm) (h3 w hw hn), va_Z.moved (u := U) (U := U.calling g mk a) (Vm.Alike.refl U.vm) h4, va_T.moved (u := U) (U := U.calling g mk a) (Vm.Alike.refl U.vm) h5⟩
def zrm (d : Nat) : Room := { frames := d, cells := 0, slots := 0, locals := 64 * d }
def zQ (E : zE) (rv : Option Value) (M1 : zMem) : Array Value → State → Outcome → State → Prop := fun _ st oc t => oc = .returned rv ∧ va_P E.2.1 vwCl (zwl E M1) t.heap ∧ va_F (zA E) st t
/-- a method's words -/
def zws (mi : zM) : List Cond := .code mi.1 mi.2.1 mi.2.2.1 mi.2.2.2 :: lw_good
/-- A CONTRACT: called with av, the cells holding M, it returns rv, the cells holding M1; at most d frames -/
def zCT (E : zE) (d : Nat) (mi : zM) (av : List Value) (M : zMem) (rv : Option Value) (M1 : zMem) : Prop :=
  Met E.1 mi.1 (zws mi) (zrm d) (va_Pc av (fun U => va_P E.2.1 vwCl (zwl E M) U.heap ∧ zW E U)) (zQ E rv M1) 0 0 (zA E)
def zCx (E : zE) (mi : zM) (p : Program) (s : State) (m : MethodId) (args : Array Value) (meth : Method) (c : Code) : Prop :=
  p.tables.exec = Jvm.exec ∧ c.code = mi.2.1 ∧ meth.sig.returnType = mi.2.2.2 ∧ c.maxLocals = mi.2.2.1 ∧ s.vm.findClass mi.1.cls = some m.cls ∧ (∀ w ∈ lw_good, w.before args s = true) ∧ meth.locks = false ∧ zW E s
def zlo (ls : Array Slot) (nL : Nat) (lo : List (Option Value)) : Prop := ls.size = nL ∧ lv_wf ls ∧ ∀ (i : Nat) (v : Value), lo[i]? = some (some v) → ls[i]? = some (.val v)
/-- THE JUDGEMENT: from here the method comes to its end with rv and M1 -/
def zG (E : zE) (mi : zM) (d : Nat) (rv : Option Value) (M1 : zMem) (pc : Nat) (lo : List (Option Value)) (st : List Value) (M : zMem) : Prop :=
  ∀ (p : Program) (e : Env) (s : State) (m : MethodId) (args : Array Value) (below : List Frame) (meth : Method) (c : Code) (H : Heap) (locs : List Loc) (ls : Array Slot), zCx E mi p s m args meth c → va_P E.2.1 vwCl (zwl E M) H → va_S (zA E) s.heap H locs → zlo ls mi.2.2.1 lo → W p E.1 e (zrm d) s m args below meth c H locs 0 0 (MQ below (zQ E rv M1) args s 0 0 (zA E)) (F0 m pc ls st)
def zll : Nat → List (Option Value) → List (Nat × Value)
  | _, [] => []
  | i, none :: t => zll (i + 1) t
  | i, some v :: t => (i, v) :: zll (i + 1) t
theorem zll_mem : ∀ (lo : List (Option Value)) (i : Nat) (q : Nat × Value), q ∈ zll i lo → ∃ j, q.1 = i + j ∧ lo[j]? = some (some q.2)
  | [], i, q, h => by simp [zll] at h
  | none :: t, i, q, h => by
    obtain ⟨j, h1, h2⟩ := zll_mem t (i + 1) q h
    exact ⟨j + 1, by omega, by simpa using h2⟩
  | some v :: t, i, q, h => by
    rcases List.mem_cons.mp h with rfl | h
    · exact ⟨0, rfl, rfl⟩
    · obtain ⟨j, h1, h2⟩ := zll_mem t (i + 1) q h
      exact ⟨j + 1, by omega, by simpa using h2⟩
theorem zll_of : ∀ (lo : List (Option Value)) (i j : Nat) (v : Value), lo[j]? = some (some v) → (i + j, v) ∈ zll i lo
  | [], i, j, v, h => by simp at h
  | none :: t, i, 0, v, h => by simp at h
  | none :: t, i, j + 1, v, h => by
    have := zll_of t (i + 1) j v (by simpa using h)
    rw [show i + (j + 1) = i + 1 + j by omega]
    exact this
  | some w :: t, i, 0, v, h => by
    have e : w = v := by simpa using h
    subst e
    exact List.mem_cons_self
  | some w :: t, i, j + 1, v, h => by
    have := zll_of t (i + 1) j v (by simpa using h)
    rw [show i + (j + 1) = i + 1 + j by omega]
    exact List.mem_cons_of_mem _ this
theorem zlo.has {ls : Array Slot} {nL : Nat} {lo : List (Option Value)} (h : zlo ls nL lo) : lv_has ls nL (zll 0 lo) := by
  refine ⟨h.1, h.2.1, fun q hq => ?_⟩
  obtain ⟨j, h1, h2⟩ := zll_mem lo 0 q hq
  rw [show q.1 = j by omega]
  exact h.2.2 j q.2 h2
/-- the local ahead of i is no long -/
def zpv (lo : List (Option Value)) (i : Nat) : Bool := match i with
  | 0 => true
  | k + 1 => match lo[k]? with
    | some (some w) => w.category == 1
    | _ => true
theorem zpv_use {lo : List (Option Value)} {i k : Nat} {w : Value} (h : zpv lo i = true) (hk : k + 1 = i) (hw : lo[k]? = some (some w)) : ¬ w.category = 2 := by
  subst hk
  simp only [zpv, hw] at h
  have : w.category = 1 := by simpa using h
  omega
theorem zlo_store1 {ls : Array Slot} {nL i : Nat} {lo : List (Option Value)} {v : Value} (hp : zpv lo i = true) (h : lv_has ls nL ((i, v) :: (zll 0 lo).filter (fun q => !(q.1 == i) && !(q.1 + 1 == i && q.2.category == 2)))) : zlo ls nL (lo.set i (some v)) := by
  refine ⟨h.1, h.2.1, fun k w hk => ?_⟩
  by_cases e : k = i
  · subst e
    by_cases hl : k < lo.length
    · rw [List.getElem?_set_self hl] at hk
      have e2 : v = w := by simpa using hk
      subst e2
      exact h.2.2 _ List.mem_cons_self
    · rw [List.getElem?_eq_none (by simpa using hl)] at hk
      cases hk
  · rw [List.getElem?_set_ne (Ne.symm e)] at hk
    refine h.2.2 (k, w) (List.mem_cons_of_mem _ (List.mem_filter.mpr ⟨?_, ?_⟩))
    · have := zll_of lo 0 k w hk
      rwa [Nat.zero_add] at this
    · by_cases e2 : k + 1 = i
      · simp [e, e2, zpv_use hp e2 hk]
      · simp [e, e2]
theorem zlo_store2 {ls : Array Slot} {nL i : Nat} {lo : List (Option Value)} {v : Value} (hp : zpv lo i = true) (h : lv_has ls nL ((i, v) :: (zll 0 lo).filter (fun q => !(q.1 == i) && (!(q.1 == i + 1) && !(q.1 + 1 == i && q.2.category == 2))))) : zlo ls nL ((lo.set i (some v)).set (i + 1) none) := by
  refine ⟨h.1, h.2.1, fun k w hk => ?_⟩
  by_cases e1 : k = i + 1
  · subst e1
    by_cases hl : i + 1 < (lo.set i (some v)).length
    · rw [List.getElem?_set_self hl] at hk
      simp at hk
    · rw [List.getElem?_eq_none (by simpa using hl)] at hk
      cases hk
  · rw [List.getElem?_set_ne (Ne.symm e1)] at hk
    by_cases e : k = i
    · subst e
      by_cases hl : k < lo.length
      · rw [List.getElem?_set_self hl] at hk
        have e2 : v = w := by simpa using hk
        subst e2
        exact h.2.2 _ List.mem_cons_self
      · rw [List.getElem?_eq_none (by simpa using hl)] at hk
        cases hk
    · rw [List.getElem?_set_ne (Ne.symm e)] at hk
      refine h.2.2 (k, w) (List.mem_cons_of_mem _ (List.mem_filter.mpr ⟨?_, ?_⟩))
      · have := zll_of lo 0 k w hk
        rwa [Nat.zero_add] at this
      · by_cases e2 : k + 1 = i
        · simp [e, e1, e2, zpv_use hp e2 hk]
        · simp [e, e1, e2]
