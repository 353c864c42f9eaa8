/-! ===== new int[8][40] ===== -/
section ZMm
def zmI (cI : ClassId) : Cell := arrV cI 40 (fun _ => .int 0)
def zmO (cO : ClassId) (h i : Nat) : Cell := arrV cO 8 (fun j => if j < i then .ref (h + 1 + j) else .null)
theorem zmO_set (cO : ClassId) (h i : Nat) : (zmO cO h i).setSlot i (.ref (h + 1 + i)) = zmO cO h (i + 1) := by
  unfold zmO
  rw [arrV_store]
  congr 1
  funext j
  unfold updV
  by_cases q : j = i
  · subst q
    rw [if_pos rfl, if_pos (by omega)]
  · rw [if_neg q]
    dsimp only
    by_cases z : j < i
    · rw [if_pos z, if_pos (by omega)]
    · rw [if_neg z, if_neg (by omega)]
/-- the outer row stands, and i inner ones in it -/
def zmT (T : State) (cO cI : ClassId) : Nat → State
  | 0 => T.pushCell (zmO cO T.heap.size 0)
  | i + 1 => ((zmT T cO cI i).pushCell (zmI cI)).setCell T.heap.size (zmO cO T.heap.size (i + 1))
theorem zmT_f (T : State) (cO cI : ClassId) : ∀ i, (zmT T cO cI i).heap.size = T.heap.size + 1 + i ∧ (zmT T cO cI i).heap[T.heap.size]? = some (zmO cO T.heap.size i) ∧ (zmT T cO cI i).vm = T.vm ∧ (zmT T cO cI i).slotsUsed = T.slotsUsed + 8 + i * 40 ∧ (∀ q, q < T.heap.size → (zmT T cO cI i).heap[q]? = T.heap[q]?) ∧ ∀ j, j < i → (zmT T cO cI i).heap[T.heap.size + 1 + j]? = some (zmI cI)
  | 0 => ⟨by simp [zmT], by simp [zmT], rfl, by simp [zmT, zmO, arrV_size], fun q hq => State.heap_pushCell_of_lt _ _ hq, fun j hj => absurd hj (by omega)⟩
  | i + 1 => by
    obtain ⟨a, b, d, u, o, v⟩ := zmT_f T cO cI i
    have hb : ((zmT T cO cI i).pushCell (zmI cI)).heap[T.heap.size]? = some (zmO cO T.heap.size i) := by
      rw [State.heap_pushCell_of_lt (h := (show T.heap.size < (zmT T cO cI i).heap.size by omega))]
      exact b
    refine ⟨?_, State.heap_setCell_self hb, by simp [zmT, d], ?_, fun q hq => ?_, fun j hj => ?_⟩
    · simp [zmT, State.setCell, a]
      omega
    · simp [zmT, u, zmI, arrV_size, Nat.succ_mul]
      omega
    · show (((zmT T cO cI i).pushCell (zmI cI)).setCell T.heap.size _).heap[q]? = _
      rw [State.heap_setCell_other (show T.heap.size ≠ q by omega), State.heap_pushCell_of_lt (h := (show q < (zmT T cO cI i).heap.size by omega))]
      exact o q hq
    · show (((zmT T cO cI i).pushCell (zmI cI)).setCell T.heap.size _).heap[T.heap.size + 1 + j]? = _
      rw [State.heap_setCell_other (show T.heap.size ≠ T.heap.size + 1 + j by omega)]
      rcases Nat.lt_or_ge j i with hji | hji
      · rw [State.heap_pushCell_of_lt (h := (show T.heap.size + 1 + j < (zmT T cO cI i).heap.size by omega))]
        exact v j hji
      · obtain rfl : j = i := by omega
        rw [← a]
        exact State.heap_pushCell_size _ _
theorem zmT_top (T : State) (g : JFrame) (cO cI : ClassId) : ∀ i, zmT (T.setTop g) cO cI i = (zmT T cO cI i).setTop g
  | 0 => rfl
  | i + 1 => by simp only [zmT, zmT_top T g cO cI i, State.heap_setTop, State.pushCell_setTop, State.setCell_setTop]
section
variable {E : CtlPost} {e : Env} {d : Bool} {acts : List Action} {s : State}
/-- one row, of zeros or of nothing -/
theorem zwp_row {c comp : ClassId} {k : Class} {ty : FieldType} {len : Nat} {z : Value} (hk : s.vm.classes[c]? = some k) (hkind : k.kind = .array comp ty) (hlim : len ≤ e.platform.arrayLengthLimit) (hby : len * componentBytes ty ≤ e.platform.maxHeapBytes) (hfit : fits ty z = true) (hdef : z.isDefault = true) {Q : Addr → Pre} (h1 : s.heap.size < e.platform.maxCells) (h2 : s.slotsUsed + len ≤ e.platform.maxSlots) (hq : Q s.heap.size d acts (s.pushCell (arrV c len (fun _ => z)))) : wp (Jvm.newArray c len z) Q E e d acts s := by
  have hfits : ∀ i v, (Array.replicate len z)[i]? = some v → s.fitsSlot c .none i v = true := by
    intro i v hv
    simp only [Array.getElem?_replicate] at hv
    split at hv
    · cases hv
      simp [State.fitsSlot, State.slotType?, hk, hkind, hfit]
    · cases hv
  have hda : allocActs (Array.replicate len z) s.heap.size acts = acts := by
    unfold allocActs
    rw [if_pos (by rw [Array.all_replicate]; split <;> simp [hdef])]
  have n1 : ¬ len > e.platform.arrayLengthLimit := by omega
  have n2 : ¬ len * componentBytes ty > e.platform.maxHeapBytes := by omega
  rw [← arrV_new] at hq
  simp only [Jvm.newArray, Jvm.arrayFits, wp_bind', W.ask, W.ite, n1, if_false, wp_pure', W.theClass, hk, hkind, n2, W.alloc, W.stop, Option.some.injEq, exists_eq_left', Array.size_replicate, hda]
  rw [if_neg (by omega)]
  exact ⟨h1, h2, hfits, hq⟩
theorem zwp_in {cI cE : ClassId} {kI : Class} (hkI : s.vm.classes[cI]? = some kI) (hkind : kI.kind = .array cE .int) (hlim : 40 ≤ e.platform.arrayLengthLimit) (hby : 160 ≤ e.platform.maxHeapBytes) (h1 : s.heap.size < e.platform.maxCells) (h2 : s.slotsUsed + 40 ≤ e.platform.maxSlots) {Q : Addr → Pre} (hq : Q s.heap.size d acts (s.pushCell (zmI cI))) : wp (multianewarray.make cI [nI 40]) Q E e d acts s := by
  rw [multianewarray.make]
  simp only [wp_bind', W.ite, show ¬ nI 40 < 0 by decide, if_false, wp_pure', W.theClass, hkI, hkind, Option.some.injEq, exists_eq_left']
  exact zwp_row (len := 40) hkI hkind hlim hby rfl rfl h1 h2 hq
theorem zwp_mk {cO cI cE : ClassId} {kO kI : Class} (hkO : s.vm.classes[cO]? = some kO) (hkindO : kO.kind = .array cI (.array .int)) (hkI : s.vm.classes[cI]? = some kI) (hkindI : kI.kind = .array cE .int) (hlim : 40 ≤ e.platform.arrayLengthLimit) (hby : 160 ≤ e.platform.maxHeapBytes) (hc : s.heap.size + 9 ≤ e.platform.maxCells) (hs : s.slotsUsed + 328 ≤ e.platform.maxSlots) {Q : Addr → Pre} (hq : ∀ d' acts', Q s.heap.size d' acts' (zmT s cO cI 8)) : wp (multianewarray.make cO [nI 8, nI 40]) Q E e d acts s := by
  have hfind : ([nI 40].find? (· < 0)) = none := by decide
  rw [multianewarray.make]
  simp only [wp_bind', W.ite, show ¬ nI 8 < 0 by decide, if_false, wp_pure', W.theClass, hkO, hkindO, Option.some.injEq, exists_eq_left']
  refine zwp_row (len := 8) hkO hkindO (by omega) (by show 32 ≤ _; omega) rfl rfl (by omega) (by omega) ?_
  simp only [hfind]
  rw [ite_self, wp_bind', Std.Legacy.Range.forIn_eq_forIn_range']
  show wp (forIn (List.range' 0 8 1) PUnit.unit _) _ E e d acts _
  refine wp_forIn_inv (fun rest s' => ∃ i, i ≤ 8 ∧ rest = List.range' i (8 - i) ∧ s' = zmT s cO cI i) _ _ ⟨0, by omega, rfl, ?_⟩ ?_ ?_
  · show s.pushCell _ = s.pushCell (zmO cO s.heap.size 0)
    rfl
  · rintro x rest s' d' acts' Q' ⟨i, hi, hl, rfl⟩ hnext
    have hlt : i < 8 := by
      rcases Nat.lt_or_ge i 8 with h | h
      · exact h
      · rw [show 8 - i = 0 by omega] at hl
        simp at hl
    obtain ⟨rfl, hrest⟩ : x = i ∧ rest = List.range' (i + 1) (8 - (i + 1)) := by
      rw [show 8 - i = (8 - (i + 1)) + 1 by omega, List.range'_succ] at hl
      exact ⟨(List.cons.inj hl).1, (List.cons.inj hl).2⟩
    obtain ⟨f1, f2, f3, f4, f5, f6⟩ := zmT_f s cO cI x
    simp only [wp_bind']
    refine zwp_in (by rw [f3]; exact hkI) hkindI hlim hby (by rw [f1]; omega) (by rw [f4]; omega) ?_
    simp only [wp_bind', W.writeLoc, wp_pure']
    refine ⟨zmO cO s.heap.size x, by rw [State.heap_pushCell_of_lt (h := (show s.heap.size < (zmT s cO cI x).heap.size by omega))]; exact f2, (by unfold zmO; intro h; cases h), (by unfold zmO; rw [arrV_size]; exact hlt), ?_, hnext _ _ _ ⟨x + 1, hlt, hrest, ?_⟩⟩
    · show State.fitsSlot _ cO .none x _ = true
      simp [State.fitsSlot, State.slotType?, f3, hkO, hkindO, fits]
    · rw [f1, zmO_set]
      rfl
  · rintro s' d' acts' ⟨i, hi, hl, rfl⟩
    have hi8 : i = 8 := by
      rcases Nat.lt_or_ge i 8 with h | h
      · rw [show 8 - i = (8 - (i + 1)) + 1 by omega, List.range'_succ] at hl
        cases hl
      · omega
    subst hi8
    simp only [wp_pure']
    exact hq _ _
end
end ZMm
