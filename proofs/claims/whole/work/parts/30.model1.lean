section ZM1
theorem zw_lt (a b : Int32) : a.toInt64 < b.toInt64 ↔ a < b := by
  rw [Int64.lt_iff_toInt_lt, Int32.lt_iff_toInt_lt, Int32.toInt_toInt64, Int32.toInt_toInt64]
/-- a row of the reference: the square's, or the one that is tried -/
def zRw (r : Nat) : Prop := r = 169 ∨ r = 171
theorem zRwE {E : zE} {r : Nat} (h : zRw r) : ∀ Z : zS, zce2 E Z r = .inl (E.2.2.2.1 0, 36, .inl (Z r)) := by
  rcases h with rfl | rfl <;> exact fun _ => rfl
theorem zRwB {r : Nat} (h : zRw r) : 145 ≤ r ∧ r < 177 := by
  rcases h with rfl | rfl <;> decide
abbrev zF : Type := Nat → Int32
def nearM (f : zF) (p : Nat) : Int32 := zabs (f (6 + 5 * p + 1) - f 1) + f (6 + 5 * p + 2)
abbrev lgM (f : zF) : Nat → Int32 := fun q => f (6 + 5 * q + 3)
def elM (f : zF) (p : Nat) : Bool := !decide (f (6 + 5 * p + 3) ≤ 0) && decide (f (6 + 5 * p + 4) = 0)
def zNxM (el : Nat → Bool) (near lg : Nat → Int32) : Nat → Option Nat
  | 0 => none
  | p + 1 => match zNxM el near lg p with
    | none => if el p then some p else none
    | some b => if el p && (decide (near p - near b < 0) || decide (near p - near b = 0) && decide (lg b < lg p)) then some p else some b
theorem zNxM_lt {el : Nat → Bool} {near lg : Nat → Int32} : ∀ {n k : Nat}, zNxM el near lg n = some k → k < n
  | 0, k, h => by simp [zNxM] at h
  | n + 1, k, h => by
    unfold zNxM at h
    split at h
    · split at h
      · cases h; omega
      · cases h
    · rename_i b hb
      have := zNxM_lt hb
      split at h
      · cases h; omega
      · cases h; omega
def nextM (f : zF) (n : Nat) : Option Nat := if f 3 = 0 then zNxM (elM f) (nearM f) (lgM f) n else none
theorem nextM_lt {f : zF} {n k : Nat} (h : nextM f n = some k) : k < n := by
  unfold nextM at h
  split at h
  · exact zNxM_lt h
  · cases h
def whoM (f : zF) (n p : Nat) : Nat := if f (6 + 5 * p) = nI 3 then zlend (lgM f) n p (n - 1) else p
def oddM (f : zF) (p : Nat) : Bool := decide (f (6 + 5 * p + 3) - f (6 + 5 * p + 3) / nI 2 * nI 2 = nI 1)
def lostM (f : zF) (n p : Nat) : Int32 :=
  if f (6 + 5 * p) = nI 1 then f (6 + 5 * p + 3) else if f (6 + 5 * p) = nI 2 then (if oddM f p then nI 0 else f (6 + 5 * p + 3))
  else if f (6 + 5 * p) = nI 3 then (if f (6 + 5 * whoM f n p + 3) < f (6 + 5 * p + 3) then f (6 + 5 * whoM f n p + 3) else f (6 + 5 * p + 3))
  else if f (6 + 5 * p) = nI 4 then (f (6 + 5 * p + 3) + nI 1) / nI 2 else nI 1
def bite1M (f : zF) (p : Nat) : zF := if f (6 + 5 * p) = nI 2 ∧ oddM f p = true then upd f (6 + 5 * p + 1) (if f (6 + 5 * p + 1) < nI 9 then f (6 + 5 * p + 1) + nI 1 else nI 9) else f
def bite2M (f : zF) (w : Nat) (x : Int32) : zF := upd f (6 + 5 * w + 3) (f (6 + 5 * w + 3) - x)
def biteM (f : zF) (n p : Nat) : zF := bite2M (bite1M f p) (whoM f n p) (lostM f n p)
def n1M (f : zF) (n : Nat) : Int32 × zF := if f 3 ≤ 0 then (match nextM f n with
  | none => (nI 0, f)
  | some p => (lostM f n p, upd (biteM f n p) 3 (if lostM f n p ≤ nI 5 then nI 0 else lostM f n p - nI 5))) else (nI 0, upd f 3 (f 3 - nI 1))
def n2M (x : Int32) (f : zF) : zF := upd f 5 (f 5 + x)
def n3M (f : zF) : zF := upd f 1 ((f 1 + f 2 + nI 9) - (f 1 + f 2 + nI 9) / nI 10 * nI 10)
def n4M (f : zF) : zF := upd f 4 (f 4 + nI 1)
def noonM (f : zF) (n : Nat) : zF := n4M (n3M (n2M (n1M f n).1 (n1M f n).2))
def noonsM (f : zF) (n : Nat) : Nat → zF
  | 0 => f
  | k + 1 => noonM (noonsM f n k) n
/-- what a row must be, for the walk: papers, kinds -/
def zKd (f : zF) (n : Nat) : Prop := f 0 = nI n ∧ n ≤ 6 ∧ ∀ p, p < n → ∃ k, 1 ≤ k ∧ k ≤ 5 ∧ f (6 + 5 * p) = nI k
theorem zKd.up {f : zF} {n i : Nat} {x : Int32} (h : zKd f n) (h0 : i ≠ 0) (hk : ∀ p, i ≠ 6 + 5 * p) : zKd (upd f i x) n := by
  refine ⟨?_, h.2.1, fun p hp => ?_⟩
  · unfold upd; rw [if_neg (Ne.symm h0)]; exact h.1
  · obtain ⟨k, h1, h2, h3⟩ := h.2.2 p hp
    exact ⟨k, h1, h2, by unfold upd; rw [if_neg (Ne.symm (hk p))]; exact h3⟩
theorem zKd.noon {f : zF} {n : Nat} (h : zKd f n) : zKd (noonM f n) n := by
  have hb : ∀ p, zKd (biteM f n p) n := by
    intro p
    unfold biteM bite2M
    refine zKd.up ?_ (by omega) (by omega)
    unfold bite1M
    split
    · exact h.up (by omega) (by omega)
    · exact h
  have h1 : zKd (n1M f n).2 n := by
    unfold n1M
    split
    · split
      · exact h
      · exact (hb _).up (by omega) (by omega)
    · exact h.up (by omega) (by omega)
  unfold noonM n4M n3M n2M
  exact ((h1.up (by omega) (by omega)).up (by omega) (by omega)).up (by omega) (by omega)
theorem zKd.noons {f : zF} {n : Nat} (h : zKd f n) : ∀ k, zKd (noonsM f n k) n
  | 0 => h
  | k + 1 => (zKd.noons h k).noon
variable {E : zE} {Q : Nat → Nat → Nat → Int32} {Z : zS} {M : zMem} {r n p : Nat} {f : zF}
set_option maxHeartbeats 4000000 in
set_option maxRecDepth 100000 in
theorem c_X7_in {v l h : Int32} : zCT E 0 zm_X7_in [.long v.toInt64, .long l.toInt64, .long h.toInt64] M (some (.int (zb (l ≤ v ∧ v ≤ h)))) M := by
  refine zCT.of (by decide +kernel) (Nat.le_of_ble_eq_true rfl) ?_
  refine zi_lload0 (n := 1) dX7_in_0 rfl ?_
  refine zi_lload2 (n := 2) dX7_in_1 rfl ?_
  refine zi_lcmp (n := 3) dX7_in_2 rfl ?_
  refine zi_iflt_l (n := 6) (tgt := 17) dX7_in_3 rfl (by decide) (fun h3 => ?_) (fun h3 => ?_)
  · refine zi_iconst (n := 18) (nI 0) dX7_in_17 rfl (by decide) ?_
    exact zi_zretF dX7_in_18 rfl (by first | exact znwit1 ((zw_lt _ _).mp h3) | exact znwit2 ((zw_lt _ _).mp h10)) rfl (by rfl)
  · refine zi_lload0 (n := 7) dX7_in_6 rfl ?_
    refine zi_lload4 (n := 9) dX7_in_7 rfl ?_
    refine zi_lcmp (n := 10) dX7_in_9 rfl ?_
    refine zi_ifgt_l (n := 13) (tgt := 17) dX7_in_10 rfl (by decide) (fun h10 => ?_) (fun h10 => ?_)
    · refine zi_iconst (n := 18) (nI 0) dX7_in_17 rfl (by decide) ?_
      exact zi_zretF dX7_in_18 rfl (by first | exact znwit1 ((zw_lt _ _).mp h3) | exact znwit2 ((zw_lt _ _).mp h10)) rfl (by rfl)
    · refine zi_iconst (n := 14) (nI 1) dX7_in_13 rfl (by decide) ?_
      refine zi_goto (tgt := 18) dX7_in_14 (by decide) ?_
      exact zi_zretT dX7_in_18 rfl (by exact zwithin (mt (zw_lt _ _).mpr h3) (mt (zw_lt _ _).mpr h10)) rfl (by rfl)
set_option maxHeartbeats 4000000 in
set_option maxRecDepth 100000 in
theorem c_X7_finding {v : Int32} : zCT E 0 zm_X7_finding [.ref (zad E 165), .int v] (Q, Z) (some (.int (-1000010 - v))) (Q, zsu Z 165 1 v) := by
  refine zCT.of (by decide +kernel) (Nat.le_of_ble_eq_true rfl) ?_
  refine zi_aload0 (n := 1) dX7_finding_0 rfl ?_
  refine zi_iload1 (n := 2) dX7_finding_1 rfl ?_
  refine zp_X7_1 (n := 5) dX7_finding_2 rfl zl_X7_48 rfl ?_
  refine zi_ldc (n := 7) dX7_finding_5 rfl zl_X7_51 ?_
  refine zi_iload1 (n := 8) dX7_finding_7 rfl ?_
  refine zi_isub (n := 9) dX7_finding_8 rfl ?_
  exact zi_iret dX7_finding_9 rfl (by rfl) (by rfl)
set_option maxHeartbeats 4000000 in
set_option maxRecDepth 100000 in
theorem c_X7_isRow {x : Int32} : zCT E 1 zm_X7_isRow [.int x] M (some (.int (zb (nI 0 ≤ x ∧ x ≤ nI 7)))) M := by
  refine zCT.of (by decide +kernel) (Nat.le_of_ble_eq_true rfl) ?_
  refine zi_iload0 (n := 1) dX7_isRow_0 rfl ?_
  refine zi_i2l (n := 2) dX7_isRow_1 rfl ?_
  refine zi_lconst (n := 3) ((nI 0).toInt64) dX7_isRow_2 rfl (by decide) ?_
  refine zi_ldc2 (n := 6) dX7_isRow_3 rfl zl_X7_52 ?_
  rw [show (7 : Int64) = (nI 7).toInt64 by decide]
  refine zi_S3s (mj := zm_X7_in) (n := 9) dX7_isRow_6 rfl zl_X7_54 zy_X7_in (by decide) (Nat.le_of_ble_eq_true rfl) (c_X7_in) ?_
  exact zi_zret dX7_isRow_9 rfl rfl (by rfl) (by rfl)
set_option maxHeartbeats 4000000 in
set_option maxRecDepth 100000 in
theorem c_X7_of (hr : zRw r) {c : Nat} (hp : p < 6) (hc : c < 5) : zCT E 0 zm_X7_of [.ref (zad E r), .int (nI p), .int (nI c)] (Q, va_up Z r f) (some (.int (f (6 + 5 * p + c)))) (Q, va_up Z r f) := by
  refine zCT.of (by decide +kernel) (Nat.le_of_ble_eq_true rfl) ?_
  refine zi_aload0 (n := 1) dX7_of_0 rfl ?_
  refine zi_bipush (n := 3) (nI 6) dX7_of_1 rfl (by decide) ?_
  refine zi_iconst (n := 4) (nI 5) dX7_of_3 rfl (by decide) ?_
  refine zi_iload1 (n := 5) dX7_of_4 rfl ?_
  refine zi_imul (n := 6) dX7_of_5 rfl ?_
  rw [pk_mul]
  refine zi_iadd (n := 7) dX7_of_6 rfl ?_
  rw [nI_add]
  refine zi_iload2 (n := 8) dX7_of_7 rfl ?_
  refine zi_iadd (n := 9) dX7_of_8 rfl ?_
  rw [nI_add]
  refine zi_oald (N := 36) (n := 10) dX7_of_9 rfl (zRwB hr) (zRwE hr) (by decide) rfl (by omega) (zfz _ _ _ _ _) ?_
  exact zi_iret dX7_of_10 rfl (by rfl) (by rfl)
set_option maxHeartbeats 4000000 in
set_option maxRecDepth 100000 in
theorem c_X7_be (hr : zRw r) {c : Nat} (hp : p < 6) (hc : c < 5) {x : Int32} : zCT E 0 zm_X7_be [.ref (zad E r), .int (nI p), .int (nI c), .int x] (Q, va_up Z r f) none (Q, va_up Z r (upd f (6 + 5 * p + c) x)) := by
  refine zCT.of (by decide +kernel) (Nat.le_of_ble_eq_true rfl) ?_
  refine zi_aload0 (n := 1) dX7_be_0 rfl ?_
  refine zi_bipush (n := 3) (nI 6) dX7_be_1 rfl (by decide) ?_
  refine zi_iconst (n := 4) (nI 5) dX7_be_3 rfl (by decide) ?_
  refine zi_iload1 (n := 5) dX7_be_4 rfl ?_
  refine zi_imul (n := 6) dX7_be_5 rfl ?_
  rw [pk_mul]
  refine zi_iadd (n := 7) dX7_be_6 rfl ?_
  rw [nI_add]
  refine zi_iload2 (n := 8) dX7_be_7 rfl ?_
  refine zi_iadd (n := 9) dX7_be_8 rfl ?_
  rw [nI_add]
  refine zi_iload3 (n := 10) dX7_be_9 rfl ?_
  refine zi_oast (N := 36) (n := 11) dX7_be_10 rfl (zRwB hr) (zRwE hr) (by decide) rfl (by omega) (zfq _ _ _ _ _ _) ?_
  exact zi_vret dX7_be_11 rfl (by rfl) (by rfl)
set_option maxHeartbeats 4000000 in
set_option maxRecDepth 100000 in
theorem c_X7_nearOf (hr : zRw r) (hp : p < 6) : zCT E 1 zm_X7_nearOf [.ref (zad E r), .int (nI p)] (Q, va_up Z r f) (some (.int (nearM f p))) (Q, va_up Z r f) := by
  refine zCT.of (by decide +kernel) (Nat.le_of_ble_eq_true rfl) ?_
  refine zi_aload0 (n := 1) dX7_nearOf_0 rfl ?_
  refine zi_iload1 (n := 2) dX7_nearOf_1 rfl ?_
  refine zi_iconst (n := 3) (nI 1) dX7_nearOf_2 rfl (by decide) ?_
  refine zi_S3s (mj := zm_X7_of) (n := 6) dX7_nearOf_3 rfl zl_X7_146 zy_X7_of (by decide) (Nat.le_of_ble_eq_true rfl) (c_X7_of hr (by omega) (by decide)) ?_
  refine zi_aload0 (n := 7) dX7_nearOf_6 rfl ?_
  refine zi_iconst (n := 8) (nI 1) dX7_nearOf_7 rfl (by decide) ?_
  refine zi_oald (N := 36) (n := 9) dX7_nearOf_8 rfl (zRwB hr) (zRwE hr) (by decide) rfl (by omega) (zfz _ _ _ _ _) ?_
  refine zi_isub (n := 10) dX7_nearOf_9 rfl ?_
  refine zi_istore2 (n := 11) dX7_nearOf_10 rfl (by decide) rfl ?_
  refine zi_iload2 (n := 12) dX7_nearOf_11 rfl ?_
  refine zi_ifge (n := 15) (tgt := 20) dX7_nearOf_12 rfl (by decide) (fun h12 => ?_) (fun h12 => ?_)
  · refine zi_iload2 (n := 21) dX7_nearOf_20 rfl ?_
    refine zi_aload0 (n := 22) dX7_nearOf_21 rfl ?_
    refine zi_iload1 (n := 23) dX7_nearOf_22 rfl ?_
    refine zi_iconst (n := 24) (nI 2) dX7_nearOf_23 rfl (by decide) ?_
    refine zi_S3s (mj := zm_X7_of) (n := 27) dX7_nearOf_24 rfl zl_X7_146 zy_X7_of (by decide) (Nat.le_of_ble_eq_true rfl) (c_X7_of hr (by omega) (by decide)) ?_
    refine zi_iadd (n := 28) dX7_nearOf_27 rfl ?_
    exact zi_iret dX7_nearOf_28 rfl (by simp [nearM, zabs, h12]) (by rfl)
  · refine zi_iload2 (n := 16) dX7_nearOf_15 rfl ?_
    refine zi_ineg (n := 17) dX7_nearOf_16 rfl ?_
    refine zi_goto (tgt := 21) dX7_nearOf_17 (by decide) ?_
    refine zi_aload0 (n := 22) dX7_nearOf_21 rfl ?_
    refine zi_iload1 (n := 23) dX7_nearOf_22 rfl ?_
    refine zi_iconst (n := 24) (nI 2) dX7_nearOf_23 rfl (by decide) ?_
    refine zi_S3s (mj := zm_X7_of) (n := 27) dX7_nearOf_24 rfl zl_X7_146 zy_X7_of (by decide) (Nat.le_of_ble_eq_true rfl) (c_X7_of hr (by omega) (by decide)) ?_
    refine zi_iadd (n := 28) dX7_nearOf_27 rfl ?_
    exact zi_iret dX7_nearOf_28 rfl (by simp [nearM, zabs, h12]) (by rfl)
set_option maxHeartbeats 4000000 in
set_option maxRecDepth 100000 in
theorem l_X7_nextOf (hr : zRw r) (hn : f 0 = nI n) (h6 : n ≤ 6) (h3 : f 3 = 0) : ∀ k p (bo : Option Nat) (x3 x4 : Option Value), n - p < k → p ≤ n → zNxM (elM f) (nearM f) (lgM f) p = bo → zG E zm_X7_nextOf 2 (some (.int (encO (zNxM (elM f) (nearM f) (lgM f) n)))) (Q, va_up Z r f) 5 [some (.ref (zad E r)), some (.int (encO bo)), some (.int (nI p)), x3, x4] [] (Q, va_up Z r f) := by
  intro k
  induction k with
  | zero => intro p bo x3 x4 h; omega
  | succ k ih =>
    intro p bo x3 x4 h1 h2 hbo
    refine zi_iload2 (n := 6) dX7_nextOf_5 rfl ?_
    refine zi_aload0 (n := 7) dX7_nextOf_6 rfl ?_
    refine zi_iconst (n := 8) (nI 0) dX7_nextOf_7 rfl (by decide) ?_
    refine zi_oald (N := 36) (n := 9) dX7_nextOf_8 rfl (zRwB hr) (zRwE hr) (by decide) rfl (by decide) ((zfz _ _ _ _ _).trans hn) ?_
    refine zi_icge (n := 12) (tgt := 111) dX7_nextOf_9 rfl (by decide) (fun h9 => ?_) (fun h9 => ?_)
    · have e : p = n := by have := (nI_leI (by omega) (by omega)).mp h9; omega
      subst e
      subst hbo
      refine zi_iload1 (n := 112) dX7_nextOf_111 rfl ?_
      exact zi_iret dX7_nextOf_112 rfl (by rfl) (by rfl)
    · have e : p < n := by have := mt (nI_leI (by omega) (by omega)).mpr h9; omega
      have fin : ∀ (b2 : Option Nat) (x5 x6 : Option Value), zNxM (elM f) (nearM f) (lgM f) (p + 1) = b2 → zG E zm_X7_nextOf 2 (some (.int (encO (zNxM (elM f) (nearM f) (lgM f) n)))) (Q, va_up Z r f) 105 [some (.ref (zad E r)), some (.int (encO b2)), some (.int (nI p)), x5, x6] [] (Q, va_up Z r f) := by
        intro b2 x5 x6 hb2
        refine zi_iinc2 (n := 108) (nI (p + 1)) dX7_nextOf_105 rfl (by decide) rfl (zi1 _) ?_
        refine zi_goto (tgt := 5) dX7_nextOf_108 (by decide) ?_
        exact ih (p + 1) b2 x5 x6 (by omega) (by omega) hb2
      refine zi_aload0 (n := 13) dX7_nextOf_12 rfl ?_
      refine zi_iconst (n := 14) (nI 3) dX7_nextOf_13 rfl (by decide) ?_
      refine zi_oald (N := 36) (n := 15) dX7_nextOf_14 rfl (zRwB hr) (zRwE hr) (by decide) rfl (by omega) (zfz _ _ _ _ _) ?_
      refine zi_ifne (n := 18) (tgt := 111) dX7_nextOf_15 rfl (by decide) (fun h15 => ?_) (fun h15 => ?_)
      · first | exact absurd h3 h15 | exact absurd h15 h3
      · refine zi_aload0 (n := 19) dX7_nextOf_18 rfl ?_
        refine zi_iload2 (n := 20) dX7_nextOf_19 rfl ?_
        refine zi_iconst (n := 21) (nI 3) dX7_nextOf_20 rfl (by decide) ?_
        refine zi_S3s (mj := zm_X7_of) (n := 24) dX7_nextOf_21 rfl zl_X7_146 zy_X7_of (by decide) (Nat.le_of_ble_eq_true rfl) (c_X7_of hr (by omega) (by decide)) ?_
        refine zi_ifle (n := 27) (tgt := 105) dX7_nextOf_24 rfl (by decide) (fun h24 => ?_) (fun h24 => ?_)
        · exact fin bo _ _ (by rw [zNxM, hbo]; cases bo <;> simp [elM, h9, h15, h24])
        · refine zi_aload0 (n := 28) dX7_nextOf_27 rfl ?_
          refine zi_iload2 (n := 29) dX7_nextOf_28 rfl ?_
          refine zi_iconst (n := 30) (nI 4) dX7_nextOf_29 rfl (by decide) ?_
          refine zi_S3s (mj := zm_X7_of) (n := 33) dX7_nextOf_30 rfl zl_X7_146 zy_X7_of (by decide) (Nat.le_of_ble_eq_true rfl) (c_X7_of hr (by omega) (by decide)) ?_
          refine zi_ifne (n := 36) (tgt := 105) dX7_nextOf_33 rfl (by decide) (fun h33 => ?_) (fun h33 => ?_)
          · exact fin bo _ _ (by rw [zNxM, hbo]; cases bo <;> simp [elM, h9, h15, h24, h33])
          · rcases bo with _ | i
            · have nneN : encO none = -1000000 := rfl
              refine zi_iload1 (n := 37) dX7_nextOf_36 rfl ?_
              refine zi_ldc (n := 39) dX7_nextOf_37 rfl zl_X7_87 ?_
              refine zi_icne (n := 42) (tgt := 46) dX7_nextOf_39 rfl (by decide) (fun h39 => ?_) (fun h39 => ?_)
              · first | exact absurd nneN h39 | exact absurd h39 nneN
              · refine zi_iconst (n := 43) (nI 0) dX7_nextOf_42 rfl (by decide) ?_
                refine zi_goto (tgt := 57) dX7_nextOf_43 (by decide) ?_
                refine zi_istore3 (n := 58) dX7_nextOf_57 rfl (by decide) rfl ?_
                refine zi_iload1 (n := 59) dX7_nextOf_58 rfl ?_
                refine zi_ldc (n := 61) dX7_nextOf_59 rfl zl_X7_87 ?_
                refine zi_iceq (n := 64) (tgt := 87) dX7_nextOf_61 rfl (by decide) (fun h61 => ?_) (fun h61 => ?_)
                · refine zi_iconst (n := 88) (nI 1) dX7_nextOf_87 rfl (by decide) ?_
                  refine zi_goto (tgt := 92) dX7_nextOf_88 (by decide) ?_
                  refine zi_istore4 (n := 94) dX7_nextOf_92 rfl (by decide) rfl ?_
                  refine zi_iload4 (n := 96) dX7_nextOf_94 rfl ?_
                  refine zi_ifeq (n := 99) (tgt := 103) dX7_nextOf_96 rfl (by decide) (fun h96 => ?_) (fun h96 => ?_)
                  · first | exact absurd h96 (by decide) | exact absurd rfl h96
                  · refine zi_iload2 (n := 100) dX7_nextOf_99 rfl ?_
                    refine zi_goto (tgt := 104) dX7_nextOf_100 (by decide) ?_
                    refine zi_istore1 (n := 105) dX7_nextOf_104 rfl (by decide) rfl ?_
                    exact fin (some p) _ _ (by rw [zNxM, hbo]; simp [elM, h24, h33])
                · first | exact absurd nneN h61 | exact absurd h61 nneN
            · have hi := zNxM_lt hbo
              have nne : ¬ encO (some i) = -1000000 := fun zz => absurd (show nI i < 0 by rw [show nI i = -1000000 from zz]; decide) (nI_pos (by omega))
              refine zi_iload1 (n := 37) dX7_nextOf_36 rfl ?_
              refine zi_ldc (n := 39) dX7_nextOf_37 rfl zl_X7_87 ?_
              refine zi_icne (n := 42) (tgt := 46) dX7_nextOf_39 rfl (by decide) (fun h39 => ?_) (fun h39 => ?_)
              · refine zi_aload0 (n := 47) dX7_nextOf_46 rfl ?_
                refine zi_iload2 (n := 48) dX7_nextOf_47 rfl ?_
                refine zi_S2s (mj := zm_X7_nearOf) (n := 51) dX7_nextOf_48 rfl zl_X7_150 zy_X7_nearOf (by decide) (Nat.le_of_ble_eq_true rfl) (c_X7_nearOf hr (by omega)) ?_
                refine zi_aload0 (n := 52) dX7_nextOf_51 rfl ?_
                refine zi_iload1 (n := 53) dX7_nextOf_52 rfl ?_
                refine zi_S2s (mj := zm_X7_nearOf) (n := 56) dX7_nextOf_53 rfl zl_X7_150 zy_X7_nearOf (by decide) (Nat.le_of_ble_eq_true rfl) (c_X7_nearOf hr (by omega)) ?_
                refine zi_isub (n := 57) dX7_nextOf_56 rfl ?_
                refine zi_istore3 (n := 58) dX7_nextOf_57 rfl (by decide) rfl ?_
                refine zi_iload1 (n := 59) dX7_nextOf_58 rfl ?_
                refine zi_ldc (n := 61) dX7_nextOf_59 rfl zl_X7_87 ?_
                refine zi_iceq (n := 64) (tgt := 87) dX7_nextOf_61 rfl (by decide) (fun h61 => ?_) (fun h61 => ?_)
                · first | exact absurd nne h61 | exact absurd h61 nne
                · refine zi_iload3 (n := 65) dX7_nextOf_64 rfl ?_
                  refine zi_iflt (n := 68) (tgt := 87) dX7_nextOf_65 rfl (by decide) (fun h65 => ?_) (fun h65 => ?_)
                  · refine zi_iconst (n := 88) (nI 1) dX7_nextOf_87 rfl (by decide) ?_
                    refine zi_goto (tgt := 92) dX7_nextOf_88 (by decide) ?_
                    refine zi_istore4 (n := 94) dX7_nextOf_92 rfl (by decide) rfl ?_
                    refine zi_iload4 (n := 96) dX7_nextOf_94 rfl ?_
                    refine zi_ifeq (n := 99) (tgt := 103) dX7_nextOf_96 rfl (by decide) (fun h96 => ?_) (fun h96 => ?_)
                    · first | exact absurd h96 (by decide) | exact absurd rfl h96
                    · refine zi_iload2 (n := 100) dX7_nextOf_99 rfl ?_
                      refine zi_goto (tgt := 104) dX7_nextOf_100 (by decide) ?_
                      refine zi_istore1 (n := 105) dX7_nextOf_104 rfl (by decide) rfl ?_
                      first | exact fin (some p) _ _ (by rw [zNxM, hbo]; simp [elM, h24, h33, h39, h61, h65, h96]) | exact fin (some i) _ _ (by rw [zNxM, hbo]; simp [elM, h24, h33, h39, h61, h65, h96])
                  · refine zi_iload3 (n := 69) dX7_nextOf_68 rfl ?_
                    refine zi_ifne (n := 72) (tgt := 91) dX7_nextOf_69 rfl (by decide) (fun h69 => ?_) (fun h69 => ?_)
                    · refine zi_iconst (n := 92) (nI 0) dX7_nextOf_91 rfl (by decide) ?_
                      refine zi_istore4 (n := 94) dX7_nextOf_92 rfl (by decide) rfl ?_
                      refine zi_iload4 (n := 96) dX7_nextOf_94 rfl ?_
                      refine zi_ifeq (n := 99) (tgt := 103) dX7_nextOf_96 rfl (by decide) (fun h96 => ?_) (fun h96 => ?_)
                      · refine zi_iload1 (n := 104) dX7_nextOf_103 rfl ?_
                        refine zi_istore1 (n := 105) dX7_nextOf_104 rfl (by decide) rfl ?_
                        first | exact fin (some p) _ _ (by rw [zNxM, hbo]; simp [elM, h24, h33, h39, h61, h65, h69, h96]) | exact fin (some i) _ _ (by rw [zNxM, hbo]; simp [elM, h24, h33, h39, h61, h65, h69, h96])
                      · first | exact absurd h96 (by decide) | exact absurd rfl h96
                    · refine zi_aload0 (n := 73) dX7_nextOf_72 rfl ?_
                      refine zi_iload2 (n := 74) dX7_nextOf_73 rfl ?_
                      refine zi_iconst (n := 75) (nI 3) dX7_nextOf_74 rfl (by decide) ?_
                      refine zi_S3s (mj := zm_X7_of) (n := 78) dX7_nextOf_75 rfl zl_X7_146 zy_X7_of (by decide) (Nat.le_of_ble_eq_true rfl) (c_X7_of hr (by omega) (by decide)) ?_
                      refine zi_aload0 (n := 79) dX7_nextOf_78 rfl ?_
                      refine zi_iload1 (n := 80) dX7_nextOf_79 rfl ?_
                      refine zi_iconst (n := 81) (nI 3) dX7_nextOf_80 rfl (by decide) ?_
                      refine zi_S3s (mj := zm_X7_of) (n := 84) dX7_nextOf_81 rfl zl_X7_146 zy_X7_of (by decide) (Nat.le_of_ble_eq_true rfl) (c_X7_of hr (by omega) (by decide)) ?_
                      refine zi_icle (n := 87) (tgt := 91) dX7_nextOf_84 rfl (by decide) (fun h84 => ?_) (fun h84 => ?_)
                      · have h84 := Int32.not_lt.mpr h84
                        refine zi_iconst (n := 92) (nI 0) dX7_nextOf_91 rfl (by decide) ?_
                        refine zi_istore4 (n := 94) dX7_nextOf_92 rfl (by decide) rfl ?_
                        refine zi_iload4 (n := 96) dX7_nextOf_94 rfl ?_
                        refine zi_ifeq (n := 99) (tgt := 103) dX7_nextOf_96 rfl (by decide) (fun h96 => ?_) (fun h96 => ?_)
                        · refine zi_iload1 (n := 104) dX7_nextOf_103 rfl ?_
                          refine zi_istore1 (n := 105) dX7_nextOf_104 rfl (by decide) rfl ?_
                          first | exact fin (some p) _ _ (by rw [zNxM, hbo]; simp [elM, h24, h33, h39, h61, h65, h69, h84, h96]) | exact fin (some i) _ _ (by rw [zNxM, hbo]; simp [elM, h24, h33, h39, h61, h65, h69, h84, h96])
                        · first | exact absurd h96 (by decide) | exact absurd rfl h96
                      · have h84 := Int32.not_le.mp h84
                        refine zi_iconst (n := 88) (nI 1) dX7_nextOf_87 rfl (by decide) ?_
                        refine zi_goto (tgt := 92) dX7_nextOf_88 (by decide) ?_
                        refine zi_istore4 (n := 94) dX7_nextOf_92 rfl (by decide) rfl ?_
                        refine zi_iload4 (n := 96) dX7_nextOf_94 rfl ?_
                        refine zi_ifeq (n := 99) (tgt := 103) dX7_nextOf_96 rfl (by decide) (fun h96 => ?_) (fun h96 => ?_)
                        · first | exact absurd h96 (by decide) | exact absurd rfl h96
                        · refine zi_iload2 (n := 100) dX7_nextOf_99 rfl ?_
                          refine zi_goto (tgt := 104) dX7_nextOf_100 (by decide) ?_
                          refine zi_istore1 (n := 105) dX7_nextOf_104 rfl (by decide) rfl ?_
                          first | exact fin (some p) _ _ (by rw [zNxM, hbo]; simp [elM, h24, h33, h39, h61, h65, h69, h84, h96]) | exact fin (some i) _ _ (by rw [zNxM, hbo]; simp [elM, h24, h33, h39, h61, h65, h69, h84, h96])
              · first | exact absurd nne h39 | exact absurd h39 nne
set_option maxHeartbeats 4000000 in
set_option maxRecDepth 100000 in
theorem c_X7_nextOf (hr : zRw r) (hn : f 0 = nI n) (h6 : n ≤ 6) : zCT E 2 zm_X7_nextOf [.ref (zad E r)] (Q, va_up Z r f) (some (.int (encO (nextM f n)))) (Q, va_up Z r f) := by
  refine zCT.of (by decide +kernel) (Nat.le_of_ble_eq_true rfl) ?_
  by_cases h3 : f 3 = 0
  · rw [show nextM f n = zNxM (elM f) (nearM f) (lgM f) n from if_pos h3]
    refine zi_ldc (n := 2) dX7_nextOf_0 rfl zl_X7_87 ?_
    refine zi_istore1 (n := 3) dX7_nextOf_2 rfl (by decide) rfl ?_
    refine zi_iconst (n := 4) (nI 0) dX7_nextOf_3 rfl (by decide) ?_
    refine zi_istore2 (n := 5) dX7_nextOf_4 rfl (by decide) rfl ?_
    exact l_X7_nextOf hr hn h6 h3 (n + 1) 0 none none none (by omega) (by omega) rfl
  · rw [show nextM f n = none from if_neg h3]
    refine zi_ldc (n := 2) dX7_nextOf_0 rfl zl_X7_87 ?_
    refine zi_istore1 (n := 3) dX7_nextOf_2 rfl (by decide) rfl ?_
    refine zi_iconst (n := 4) (nI 0) dX7_nextOf_3 rfl (by decide) ?_
    refine zi_istore2 (n := 5) dX7_nextOf_4 rfl (by decide) rfl ?_
    refine zi_iload2 (n := 6) dX7_nextOf_5 rfl ?_
    refine zi_aload0 (n := 7) dX7_nextOf_6 rfl ?_
    refine zi_iconst (n := 8) (nI 0) dX7_nextOf_7 rfl (by decide) ?_
    refine zi_oald (N := 36) (n := 9) dX7_nextOf_8 rfl (zRwB hr) (zRwE hr) (by decide) rfl (by omega) (zfz _ _ _ _ _) ?_
    refine zi_icge (n := 12) (tgt := 111) dX7_nextOf_9 rfl (by decide) (fun h9 => ?_) (fun h9 => ?_)
    · refine zi_iload1 (n := 112) dX7_nextOf_111 rfl ?_
      exact zi_iret dX7_nextOf_112 rfl (by rfl) (by rfl)
    · refine zi_aload0 (n := 13) dX7_nextOf_12 rfl ?_
      refine zi_iconst (n := 14) (nI 3) dX7_nextOf_13 rfl (by decide) ?_
      refine zi_oald (N := 36) (n := 15) dX7_nextOf_14 rfl (zRwB hr) (zRwE hr) (by decide) rfl (by omega) (zfz _ _ _ _ _) ?_
      refine zi_ifne (n := 18) (tgt := 111) dX7_nextOf_15 rfl (by decide) (fun h15 => ?_) (fun h15 => ?_)
      · refine zi_iload1 (n := 112) dX7_nextOf_111 rfl ?_
        exact zi_iret dX7_nextOf_112 rfl (by rfl) (by rfl)
      · first | exact absurd h3 h15 | exact absurd h15 h3
end ZM1
