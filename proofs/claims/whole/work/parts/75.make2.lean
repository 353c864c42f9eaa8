/-! ===== new int[8][40]: the cells are held from the first row on, so that no state has to be named ===== -/
section ZGa
theorem zg_bare (cA : ClassId) (a : Nat) : ({ cls := cA, slots := Array.replicate 8 .null, vm := .none } : Cell) = vp_cell cA (8, .inr (.inr (.inr (.inr (fun j => if j < 0 then some (a + j) else none))))) := by
  rw [arrV_new, vp_cell_q]
  exact congrArg (arrV cA 8) (funext fun j => by rw [if_neg (Nat.not_lt_zero j)]; rfl)
theorem zg_set (cA : ClassId) (a i : Nat) : (vp_cell cA (8, .inr (.inr (.inr (.inr (fun j => if j < i then some (a + j) else none)))))).setSlot i (.ref (a + i)) = vp_cell cA (8, .inr (.inr (.inr (.inr (fun j => if j < i + 1 then some (a + j) else none))))) := by
  rw [vp_cell_q, vp_cell_q, arrV_store]
  refine congrArg (arrV cA 8) (funext fun j => ?_)
  rcases Nat.lt_trichotomy j i with hj | hj | hj
  · simp [updV, Nat.ne_of_lt hj, hj, Nat.lt_succ_of_lt hj]
  · simp [updV, hj, va_rf]
  · simp [updV, Nat.ne_of_gt hj, Nat.not_lt_of_gt hj, show ¬ j < i + 1 by omega]
variable {J : zJ} {h0 n : Nat} {ce : Nat → va_E} {locs : List Loc} {H : Heap}
variable {p : Program} {e : Env} {R : Room} {s : State} {m : MethodId} {args : Array Value} {below : List Frame} {meth : Method} {c : Code} {cells slots : Nat}
/-- behind the n cells that were there: the outer row, i of its places taken, and i rows of zeros -/
def zgC (J : zJ) (h0 n : Nat) (ce : Nat → va_E) (i : Nat) : Nat → va_E := fun q => if q < n then ce q else if q = n then .inl (J.2.2 2, 8, .inr (.inr (.inr (.inr (fun j => if j < i then some (h0 + n + 1 + j) else none))))) else .inl (J.2.2 0, 40, .inl (fun _ => 0))
/-- S is such a state, and the method stands there -/
def zgV (J : zJ) (p : Program) (e : Env) (R : Room) (s : State) (m : MethodId) (args : Array Value) (below : List Frame) (meth : Method) (c : Code) (h0 n : Nat) (ce : Nat → va_E) (cells slots i : Nat) (S : State) : Prop :=
  ∃ L : List Loc, Stand p J.1 e R s m args below meth c S L (cells + (1 + i)) (slots + (8 + 40 * i)) ∧ zwA J h0 (n + (1 + i)) (zgC J h0 n ce i) S.heap ∧ zwB h0 s.heap S.heap L
theorem zg_first {T : State} (Y : Stand p J.1 e R s m args below meth c T locs cells slots) (A : zwA J h0 n ce T.heap) (B : zwB h0 s.heap T.heap locs) : zgV J p e R s m args below meth c h0 n ce cells slots 0 (T.pushCell { cls := J.2.2 2, slots := Array.replicate 8 .null, vm := .none }) := by
  have old : ∀ q, q < T.heap.size → (T.pushCell { cls := J.2.2 2, slots := Array.replicate 8 .null, vm := .none }).heap[q]? = T.heap[q]? := fun q hq => State.heap_pushCell_of_lt _ _ hq
  refine ⟨locs, by simpa using Y.pushed { cls := J.2.2 2, slots := Array.replicate 8 .null, vm := .none }, (A.push (x := .inl (J.2.2 2, 8, .inr (.inr (.inr (.inr (fun j => if j < 0 then some (h0 + n + 1 + j) else none)))))) (State.heap_size_pushCell _ _) old ?_).cong fun q hq => ?_, B.push A old⟩
  · show _[h0 + n]? = some (vp_cell _ _)
    rw [← A.1, ← zg_bare]
    exact State.heap_pushCell_size _ _
  · unfold zgC va_up
    by_cases hn : q = n
    · rw [if_pos hn, if_neg (by omega), if_pos hn]
    · rw [if_neg hn, if_pos (by omega)]
/-- the i-th row comes, and is held by the outer one -/
theorem zg_grow {i : Nat} {S : State} (V : zgV J p e R s m args below meth c h0 n ce cells slots i S) : S.heap.size = h0 + n + 1 + i ∧
    (S.pushCell { cls := J.2.2 0, slots := Array.replicate 40 (.int 0), vm := .none }).heap[h0 + n]? = some (vp_cell (J.2.2 2) (8, .inr (.inr (.inr (.inr (fun j => if j < i then some (h0 + n + 1 + j) else none)))))) ∧
    zgV J p e R s m args below meth c h0 n ce cells slots (i + 1) ((S.pushCell { cls := J.2.2 0, slots := Array.replicate 40 (.int 0), vm := .none }).setCell (h0 + n) ((vp_cell (J.2.2 2) (8, .inr (.inr (.inr (.inr (fun j => if j < i then some (h0 + n + 1 + j) else none)))))).setSlot i (.ref (h0 + n + 1 + i)))) := by
  obtain ⟨L, Y, A, B⟩ := V
  have hz : S.heap.size = h0 + n + 1 + i := by rw [A.1]; omega
  generalize hU : S.pushCell { cls := J.2.2 0, slots := Array.replicate 40 (.int 0), vm := .none } = U
  have old : ∀ q, q < S.heap.size → U.heap[q]? = S.heap[q]? := fun q hq => by rw [← hU]; exact State.heap_pushCell_of_lt _ _ hq
  have Y1 : Stand p J.1 e R s m args below meth c U L (cells + (1 + (i + 1))) (slots + (8 + 40 * (i + 1))) := by
    have h := Y.pushed { cls := J.2.2 0, slots := Array.replicate 40 (.int 0), vm := .none }
    rw [hU, Array.size_replicate] at h
    rw [show 40 * (i + 1) = 40 * i + 40 by omega]
    exact h
  have A1 : zwA J h0 (n + (1 + i) + 1) (va_up (zgC J h0 n ce i) (n + (1 + i)) (.inl (J.2.2 0, 40, .inl (fun _ => 0)))) U.heap := by
    refine A.push (by rw [← hU]; exact State.heap_size_pushCell _ _) old ?_
    show U.heap[h0 + (n + (1 + i))]? = some (arrV (J.2.2 0) 40 (fun _ => .int 0))
    rw [← A.1, ← hU, ← arrV_new]
    exact State.heap_pushCell_size _ _
  have hO : U.heap[h0 + n]? = some (vp_cell (J.2.2 2) (8, .inr (.inr (.inr (.inr (fun j => if j < i then some (h0 + n + 1 + j) else none)))))) := by
    have h := A1.2 n (by omega)
    rw [va_up_ne _ _ (by omega)] at h
    unfold zgC at h
    rw [if_neg (Nat.lt_irrefl n), if_pos rfl] at h
    exact h
  refine ⟨hz, hO, L ++ [⟨h0 + n, i⟩], Y1.stored hO i _, (A1.set (k := n) (x := .inl (J.2.2 2, 8, .inr (.inr (.inr (.inr (fun j => if j < i + 1 then some (h0 + n + 1 + j) else none)))))) (by omega) (by simp [State.setCell]) (fun q hq => State.heap_setCell_other (Ne.symm hq)) ?_).cong fun q hq => ?_, (B.push A old).set fun q hq => State.heap_setCell_other (Ne.symm hq)⟩
  · show _[h0 + n]? = some (vp_cell _ _)
    rw [zg_set]
    exact State.heap_setCell_self hO
  · unfold zgC va_up
    by_cases hn : q = n
    · rw [if_pos hn, if_neg (by omega), if_pos hn]
    · rw [if_neg hn, if_neg hn]
      by_cases hl : q = n + (1 + i)
      · rw [if_pos hl, if_neg (by omega)]
      · simp only [if_neg hl, if_neg hn]
end ZGa
