section ZC
theorem zfz (Q : Nat → Nat → Nat → Int32) (Z : zS) (a : Nat) (f : Nat → Int32) (k : Nat) : ((Q, va_up Z a f) : zMem).2 a k = f k := by
  show va_up Z a f a k = f k
  rw [va_up_self]
theorem zfq (Q : Nat → Nat → Nat → Int32) (Z : zS) (a : Nat) (f : Nat → Int32) (k : Nat) (x : Int32) : ((((Q, va_up Z a f) : zMem).1, zsu ((Q, va_up Z a f) : zMem).2 a k x) : zMem) = (Q, va_up Z a (upd f k x)) := by
  show (Q, zsu (va_up Z a f) a k x) = _
  rw [zsu_focus]
theorem zfn (Q : Nat → Nat → Nat → Int32) (Z : zS) (a : Nat) (f : Nat → Int32) {c : Nat} (h : c ≠ a) (k : Nat) : ((Q, va_up Z a f) : zMem).2 c k = Z c k := by
  show va_up Z a f c k = Z c k
  rw [va_up_ne _ _ h]
theorem zwithin {v lo hi : Int32} (h1 : ¬ v < lo) (h2 : ¬ hi < v) : lo ≤ v ∧ v ≤ hi := ⟨Int32.not_lt.mp h1, Int32.not_lt.mp h2⟩
theorem znwit1 {v lo hi : Int32} (h : v < lo) : ¬ (lo ≤ v ∧ v ≤ hi) := fun q => Int32.not_le.mpr h q.1
theorem znwit2 {v lo hi : Int32} (h : hi < v) : ¬ (lo ≤ v ∧ v ≤ hi) := fun q => Int32.not_le.mpr h q.2
variable {E : zE} {Q : Nat → Nat → Nat → Int32} {Z : zS} {M : zMem}
theorem zcmp_eq (x y : Int64) : lg_cmp x y = 0 ↔ x = y := by
  unfold lg_cmp
  by_cases h1 : x > y
  · rw [if_pos h1]
    constructor
    · intro h; exact absurd h (by decide)
    · intro h; subst h; exact absurd h1 (by simp)
  · rw [if_neg h1]
    by_cases h2 : x = y
    · simp [h2]
    · simp [h2]
theorem zcmp_gt (x y : Int64) : 0 < lg_cmp x y ↔ y < x := by
  unfold lg_cmp
  by_cases h1 : x > y
  · rw [if_pos h1]
    exact ⟨fun _ => h1, fun _ => by decide⟩
  · rw [if_neg h1]
    by_cases h2 : x = y
    · rw [if_pos h2]
      exact ⟨fun h => absurd h (by decide), fun h => absurd h h1⟩
    · rw [if_neg h2]
      exact ⟨fun h => absurd h (by decide), fun h => absurd h h1⟩
theorem zcmp_lt (x y : Int64) : lg_cmp x y < 0 ↔ x < y := by
  unfold lg_cmp
  by_cases h1 : x > y
  · rw [if_pos h1]
    exact ⟨fun h => absurd h (by decide), fun h => absurd (Int64.lt_iff_toInt_lt.mp h) (by have := Int64.lt_iff_toInt_lt.mp h1; omega)⟩
  · rw [if_neg h1]
    by_cases h2 : x = y
    · rw [if_pos h2, h2]
      exact ⟨fun h => absurd h (by decide), fun h => absurd (Int64.lt_iff_toInt_lt.mp h) (by omega)⟩
    · rw [if_neg h2]
      refine ⟨fun _ => ?_, fun _ => by decide⟩
      have a1 : ¬ y.toInt < x.toInt := fun h => h1 (Int64.lt_iff_toInt_lt.mpr h)
      have a2 : x.toInt ≠ y.toInt := fun h => h2 (Int64.toInt_inj.mp h)
      exact Int64.lt_iff_toInt_lt.mpr (by omega)
section ZL
variable {E : zE} {mi : zM} {d : Nat} {rv : Option Value} {M1 M : zMem} {pc n : Nat} {lo : List (Option Value)} {st : List Value}
theorem zi_ifeq_l {x y : Int64} {off : Int} {tgt : Nat} (hd : decode mi.2.1 pc = .ok (.ifCond .eq off, 3)) (hn : pc + 3 = n) (ht : (pc : Int) + off = (tgt : Int)) (kt : x = y → zG E mi d rv M1 tgt lo st M) (kf : ¬ x = y → zG E mi d rv M1 n lo st M) : zG E mi d rv M1 pc lo (.int (lg_cmp x y) :: st) M := zi_ifeq hd hn ht (fun h => kt ((zcmp_eq x y).mp h)) (fun h => kf (fun q => h ((zcmp_eq x y).mpr q)))
theorem zi_ifne_l {x y : Int64} {off : Int} {tgt : Nat} (hd : decode mi.2.1 pc = .ok (.ifCond .ne off, 3)) (hn : pc + 3 = n) (ht : (pc : Int) + off = (tgt : Int)) (kt : ¬ x = y → zG E mi d rv M1 tgt lo st M) (kf : x = y → zG E mi d rv M1 n lo st M) : zG E mi d rv M1 pc lo (.int (lg_cmp x y) :: st) M := zi_ifne hd hn ht (fun h => kt ((not_congr (zcmp_eq x y)).mp h)) (fun h => kf ((zcmp_eq x y).mp h))
theorem zi_ifgt_l {x y : Int64} {off : Int} {tgt : Nat} (hd : decode mi.2.1 pc = .ok (.ifCond .gt off, 3)) (hn : pc + 3 = n) (ht : (pc : Int) + off = (tgt : Int)) (kt : y < x → zG E mi d rv M1 tgt lo st M) (kf : ¬ y < x → zG E mi d rv M1 n lo st M) : zG E mi d rv M1 pc lo (.int (lg_cmp x y) :: st) M := zi_ifgt hd hn ht (fun h => kt ((zcmp_gt x y).mp h)) (fun h => kf (fun q => h ((zcmp_gt x y).mpr q)))
theorem zi_iflt_l {x y : Int64} {off : Int} {tgt : Nat} (hd : decode mi.2.1 pc = .ok (.ifCond .lt off, 3)) (hn : pc + 3 = n) (ht : (pc : Int) + off = (tgt : Int)) (kt : x < y → zG E mi d rv M1 tgt lo st M) (kf : ¬ x < y → zG E mi d rv M1 n lo st M) : zG E mi d rv M1 pc lo (.int (lg_cmp x y) :: st) M := zi_iflt hd hn ht (fun h => kt ((zcmp_lt x y).mp h)) (fun h => kf (fun q => h ((zcmp_lt x y).mpr q)))
theorem zi_ifge_l {x y : Int64} {off : Int} {tgt : Nat} (hd : decode mi.2.1 pc = .ok (.ifCond .ge off, 3)) (hn : pc + 3 = n) (ht : (pc : Int) + off = (tgt : Int)) (kt : ¬ x < y → zG E mi d rv M1 tgt lo st M) (kf : x < y → zG E mi d rv M1 n lo st M) : zG E mi d rv M1 pc lo (.int (lg_cmp x y) :: st) M := zi_ifge hd hn ht (fun h => kt ((Int32.not_lt.symm.trans (not_congr (zcmp_lt x y))).mp h)) (fun h => kf (Classical.byContradiction fun q => h ((Int32.not_lt.symm.trans (not_congr (zcmp_lt x y))).mpr q)))
theorem zi_ifle_l {x y : Int64} {off : Int} {tgt : Nat} (hd : decode mi.2.1 pc = .ok (.ifCond .le off, 3)) (hn : pc + 3 = n) (ht : (pc : Int) + off = (tgt : Int)) (kt : ¬ y < x → zG E mi d rv M1 tgt lo st M) (kf : y < x → zG E mi d rv M1 n lo st M) : zG E mi d rv M1 pc lo (.int (lg_cmp x y) :: st) M := zi_ifle hd hn ht (fun h => kt ((Int32.not_lt.symm.trans (not_congr (zcmp_gt x y))).mp h)) (fun h => kf (Classical.byContradiction fun q => h ((Int32.not_lt.symm.trans (not_congr (zcmp_gt x y))).mpr q)))
end ZL
set_option maxHeartbeats 4000000 in
set_option maxRecDepth 100000 in
theorem c_X6_within {v l h : Int32} : zCT E 0 zm_X6_within [.int v, .int l, .int h] M (some (.int (zb (l ≤ v ∧ v ≤ h)))) M := by
  refine zCT.of (by decide +kernel) (Nat.le_of_ble_eq_true rfl) ?_
  refine zi_iload0 (n := 1) dX6_within_0 rfl ?_
  refine zi_iload1 (n := 2) dX6_within_1 rfl ?_
  refine zi_iclt (n := 5) (tgt := 14) dX6_within_2 rfl (by decide) (fun h2 => ?_) (fun h2 => ?_)
  · refine zi_iconst (n := 15) (nI 0) dX6_within_14 rfl (by decide) ?_
    exact zi_zretF dX6_within_15 rfl (by first | exact znwit1 (by assumption) | exact znwit2 (by assumption)) rfl (by rfl)
  · refine zi_iload0 (n := 6) dX6_within_5 rfl ?_
    refine zi_iload2 (n := 7) dX6_within_6 rfl ?_
    refine zi_icgt (n := 10) (tgt := 14) dX6_within_7 rfl (by decide) (fun h7 => ?_) (fun h7 => ?_)
    · refine zi_iconst (n := 15) (nI 0) dX6_within_14 rfl (by decide) ?_
      exact zi_zretF dX6_within_15 rfl (by first | exact znwit1 (by assumption) | exact znwit2 (by assumption)) rfl (by rfl)
    · refine zi_iconst (n := 11) (nI 1) dX6_within_10 rfl (by decide) ?_
      refine zi_goto (tgt := 15) dX6_within_11 (by decide) ?_
      exact zi_zretT dX6_within_15 rfl (by exact zwithin h2 h7) rfl (by rfl)
set_option maxHeartbeats 4000000 in
set_option maxRecDepth 100000 in
theorem c_X6_isPlace {v : Int32} : zCT E 1 zm_X6_isPlace [.int v] M (some (.int (zb (nI 0 ≤ v ∧ v ≤ nI 9)))) M := by
  refine zCT.of (by decide +kernel) (Nat.le_of_ble_eq_true rfl) ?_
  refine zi_iload0 (n := 1) dX6_isPlace_0 rfl ?_
  refine zi_iconst (n := 2) (nI 0) dX6_isPlace_1 rfl (by decide) ?_
  refine zi_bipush (n := 4) (nI 9) dX6_isPlace_2 rfl (by decide) ?_
  refine zi_S3s (mj := zm_X6_within) (n := 7) dX6_isPlace_4 rfl zl_X6_63 zy_X6_within (by decide) (Nat.le_of_ble_eq_true rfl) (c_X6_within) ?_
  exact zi_zret dX6_isPlace_7 rfl rfl (by rfl) (by rfl)
set_option maxHeartbeats 4000000 in
set_option maxRecDepth 100000 in
theorem c_X6_found {v : Int32} : zCT E 0 zm_X6_found [.ref (zad E 145), .int v] (Q, Z) (some (.int (-1000010 - v))) (Q, zsu Z 145 9 v) := by
  refine zCT.of (by decide +kernel) (Nat.le_of_ble_eq_true rfl) ?_
  refine zi_aload0 (n := 1) dX6_found_0 rfl ?_
  refine zi_iload1 (n := 2) dX6_found_1 rfl ?_
  refine zp_X6_9 (n := 5) dX6_found_2 rfl zl_X6_72 rfl ?_
  refine zi_ldcw (n := 8) dX6_found_5 rfl zl_X6_299 ?_
  refine zi_iload1 (n := 9) dX6_found_8 rfl ?_
  refine zi_isub (n := 10) dX6_found_9 rfl ?_
  exact zi_iret dX6_found_10 rfl (by rfl) (by rfl)
def zknN (j : Nat) : Nat := match j with
  | 0 => 0
  | 1 => 0
  | 2 => 1
  | 3 => 1
  | 4 => 0
  | _ => 4
theorem zkn_nI (j : Nat) : zkn j = nI (zknN j) := by
  match j with
  | 0 => rfl
  | 1 => rfl
  | 2 => rfl
  | 3 => rfl
  | 4 => rfl
  | _ + 5 => rfl
theorem zknN_lt (j : Nat) : zknN j < 6 := by
  unfold zknN
  split <;> decide
def zofC : Nat → Nat → Int32 → Bool
  | 0, _, _ => false
  | f + 1, i, w => if nI i = w then true else if 1 ≤ i then zofC f (zknN i) w else false
set_option maxHeartbeats 4000000 in
set_option maxRecDepth 100000 in
theorem l_X6_isOfKind {w : Int32} {r : Bool} {x0 : Option Value} : ∀ f i b, i < 6 → b + f = 6 → zofC f i w = r → zG E zm_X6_isOfKind 1 (some (.int (zb (r = true)))) M 4 [x0, some (.int w), some (.int (nI i)), some (.int (nI b))] [] M := by
  intro f
  induction f with
  | zero =>
    intro i b hi hb hr
    refine zi_iload3 (n := 5) dX6_isOfKind_4 rfl ?_
    refine zi_bipush (n := 7) (nI 6) dX6_isOfKind_5 rfl (by decide) ?_
    refine zi_icge (n := 10) (tgt := 40) dX6_isOfKind_7 rfl (by decide) (fun h7 => ?_) (fun h7 => ?_)
    · refine zi_iconst (n := 41) (nI 0) dX6_isOfKind_40 rfl (by decide) ?_
      exact zi_zretF dX6_isOfKind_41 rfl (by rw [← hr]; simp [zofC]) rfl (by rfl)
    · exact absurd ((nI_leI (by omega) (by omega)).mpr (by omega)) h7
  | succ f ih =>
    intro i b hi hb hr
    refine zi_iload3 (n := 5) dX6_isOfKind_4 rfl ?_
    refine zi_bipush (n := 7) (nI 6) dX6_isOfKind_5 rfl (by decide) ?_
    refine zi_icge (n := 10) (tgt := 40) dX6_isOfKind_7 rfl (by decide) (fun h7 => ?_) (fun h7 => ?_)
    · exact absurd ((nI_leI (by omega) (by omega)).mp h7) (by omega)
    · refine zi_iload2 (n := 11) dX6_isOfKind_10 rfl ?_
      refine zi_iload1 (n := 12) dX6_isOfKind_11 rfl ?_
      refine zi_icne (n := 15) (tgt := 17) dX6_isOfKind_12 rfl (by decide) (fun h12 => ?_) (fun h12 => ?_)
      · refine zi_iload2 (n := 18) dX6_isOfKind_17 rfl ?_
        refine zi_iconst (n := 19) (nI 1) dX6_isOfKind_18 rfl (by decide) ?_
        refine zi_iconst (n := 20) (nI 5) dX6_isOfKind_19 rfl (by decide) ?_
        refine zi_S3s (mj := zm_X6_within) (n := 23) dX6_isOfKind_20 rfl zl_X6_63 zy_X6_within (by decide) (Nat.le_of_ble_eq_true rfl) (c_X6_within) ?_
        refine zi_ifne_b (n := 26) (tgt := 28) dX6_isOfKind_23 rfl (by decide) (fun h23 => ?_) (fun h23 => ?_)
        · have hi1 : 1 ≤ i := (nI_leI (by omega) (by omega)).mp h23.1
          refine zi_kget (n := 31) dX6_isOfKind_28 rfl zl_X6_300 ?_
          refine zi_iload2 (n := 32) dX6_isOfKind_31 rfl ?_
          refine zi_kald (n := 33) dX6_isOfKind_32 rfl rfl hi ?_
          rw [zkn_nI]
          refine zi_istore2 (n := 34) dX6_isOfKind_33 rfl (by decide) rfl ?_
          refine zi_iinc3 (n := 37) (nI (b + 1)) dX6_isOfKind_34 rfl (by decide) rfl (zi1 _) ?_
          refine zi_goto (tgt := 4) dX6_isOfKind_37 (by decide) ?_
          exact ih (zknN i) (b + 1) (zknN_lt i) (by omega) (by rw [← hr, zofC, if_neg h12, if_pos hi1])
        · have hi1 : ¬ 1 ≤ i := fun zz => h23 ⟨nI_le zz (by omega), nI_le (by omega) (by omega)⟩
          refine zi_iconst (n := 27) (nI 0) dX6_isOfKind_26 rfl (by decide) ?_
          exact zi_zretF dX6_isOfKind_27 rfl (by rw [← hr]; simp [zofC, h7, h12, h23, hi1]) rfl (by rfl)
      · refine zi_iconst (n := 16) (nI 1) dX6_isOfKind_15 rfl (by decide) ?_
        exact zi_zretT dX6_isOfKind_16 rfl (by rw [← hr]; simp [zofC, h7, h12]) rfl (by rfl)
set_option maxHeartbeats 4000000 in
set_option maxRecDepth 100000 in
theorem c_X6_isOfKind {w : Int32} {i : Nat} (hi : i < 6) : zCT E 1 zm_X6_isOfKind [.int (nI i), .int w] M (some (.int (zb (zofC 6 i w = true)))) M := by
  refine zCT.of (by decide +kernel) (Nat.le_of_ble_eq_true rfl) ?_
  refine zi_iload0 (n := 1) dX6_isOfKind_0 rfl ?_
  refine zi_istore2 (n := 2) dX6_isOfKind_1 rfl (by decide) rfl ?_
  refine zi_iconst (n := 3) (nI 0) dX6_isOfKind_2 rfl (by decide) ?_
  refine zi_istore3 (n := 4) dX6_isOfKind_3 rfl (by decide) rfl ?_
  exact l_X6_isOfKind 6 i 0 hi rfl rfl
def zgcdC : Nat → Int64 → Int64 → Int64
  | 0, a, _ => a
  | f + 1, a, b => if b = (nI 0).toInt64 then a else zgcdC f b (a - a / b * b)
set_option maxHeartbeats 4000000 in
set_option maxRecDepth 100000 in
theorem l_X6_commonDivisor {r : Int64} {x0 x1 x2 x3 : Option Value} : ∀ f (a b : Int64) c (x9 x10 : Option Value), c + f = 200 → zgcdC f a b = r → zpv [x0, x1, x2, x3, some (.long a), none, some (.long b), none, some (.int (nI c)), x9, x10] 4 = true → zG E zm_X6_commonDivisor 0 (some (.long r)) M 9 [x0, x1, x2, x3, some (.long a), none, some (.long b), none, some (.int (nI c)), x9, x10] [] M := by
  intro f
  induction f with
  | zero =>
    intro a b c x9 x10 hc hr hx
    refine zi_iload8 (n := 11) dX6_commonDivisor_9 rfl ?_
    refine zi_sipush (n := 14) (nI 200) dX6_commonDivisor_11 rfl (by decide) ?_
    refine zi_icge (n := 17) (tgt := 45) dX6_commonDivisor_14 rfl (by decide) (fun h14 => ?_) (fun h14 => ?_)
    · refine zi_lload4 (n := 47) dX6_commonDivisor_45 rfl ?_
      exact zi_lret dX6_commonDivisor_47 rfl (by rw [← hr]; rfl) (by rfl)
    · exact absurd ((nI_leI (by omega) (by omega)).mpr (by omega)) h14
  | succ f ih =>
    intro a b c x9 x10 hc hr hx
    refine zi_iload8 (n := 11) dX6_commonDivisor_9 rfl ?_
    refine zi_sipush (n := 14) (nI 200) dX6_commonDivisor_11 rfl (by decide) ?_
    refine zi_icge (n := 17) (tgt := 45) dX6_commonDivisor_14 rfl (by decide) (fun h14 => ?_) (fun h14 => ?_)
    · exact absurd ((nI_leI (by omega) (by omega)).mp h14) (by omega)
    · refine zi_lload6 (n := 19) dX6_commonDivisor_17 rfl ?_
      refine zi_lconst (n := 20) ((nI 0).toInt64) dX6_commonDivisor_19 rfl (by decide) ?_
      refine zi_lcmp (n := 21) dX6_commonDivisor_20 rfl ?_
      refine zi_ifeq_l (n := 24) (tgt := 45) dX6_commonDivisor_21 rfl (by decide) (fun h21 => ?_) (fun h21 => ?_)
      · refine zi_lload4 (n := 47) dX6_commonDivisor_45 rfl ?_
        exact zi_lret dX6_commonDivisor_47 rfl (by rw [← hr, zgcdC, if_pos h21]) (by rfl)
      · refine zi_lload4 (n := 26) dX6_commonDivisor_24 rfl ?_
        refine zi_lload6 (n := 28) dX6_commonDivisor_26 rfl ?_
        refine zi_lrem (n := 29) dX6_commonDivisor_28 rfl h21 ?_
        refine zi_lstore9 (n := 31) dX6_commonDivisor_29 rfl (by decide) rfl ?_
        refine zi_lload6 (n := 33) dX6_commonDivisor_31 rfl ?_
        refine zi_lstore4 (n := 35) dX6_commonDivisor_33 rfl (by decide) hx ?_
        refine zi_lload9 (n := 37) dX6_commonDivisor_35 rfl ?_
        refine zi_lstore6 (n := 39) dX6_commonDivisor_37 rfl (by decide) rfl ?_
        refine zi_iinc8 (n := 42) (nI (c + 1)) dX6_commonDivisor_39 rfl (by decide) rfl (zi1 _) ?_
        refine zi_goto (tgt := 9) dX6_commonDivisor_42 (by decide) ?_
        exact ih _ _ (c + 1) _ _ (by omega) (by rw [← hr, zgcdC, if_neg h21]) hx
set_option maxHeartbeats 4000000 in
set_option maxRecDepth 100000 in
theorem c_X6_commonDivisor {a b : Int64} : zCT E 0 zm_X6_commonDivisor [.long a, .long b] M (some (.long (zgcdC 200 a b))) M := by
  refine zCT.of (by decide +kernel) (Nat.le_of_ble_eq_true rfl) ?_
  refine zi_lload0 (n := 1) dX6_commonDivisor_0 rfl ?_
  refine zi_lstore4 (n := 3) dX6_commonDivisor_1 rfl (by decide) rfl ?_
  refine zi_lload2 (n := 4) dX6_commonDivisor_3 rfl ?_
  refine zi_lstore6 (n := 6) dX6_commonDivisor_4 rfl (by decide) rfl ?_
  refine zi_iconst (n := 7) (nI 0) dX6_commonDivisor_6 rfl (by decide) ?_
  refine zi_istore8 (n := 9) dX6_commonDivisor_7 rfl (by decide) rfl ?_
  exact l_X6_commonDivisor 200 a b 0 none none rfl rfl rfl
end ZC
