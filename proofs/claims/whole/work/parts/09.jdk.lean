/-! ===== the class's square: what its methods answer, as functions of its rows ===== -/
theorem zfs (Q : Nat → Nat → Nat → Int32) (j : Nat) (S Z : Nat → Nat → Int32) (q i : Nat) : ((va_up Q j S, Z) : zMem).1 j q i = S q i := by
  show va_up Q j S j q i = S q i
  rw [va_up_self]
theorem zfp (Q : Nat → Nat → Nat → Int32) (j : Nat) (S Z : Nat → Nat → Int32) (q i : Nat) (y : Int32) : ((va_up ((va_up Q j S, Z) : zMem).1 j (zsu (((va_up Q j S, Z) : zMem).1 j) q i y), ((va_up Q j S, Z) : zMem).2) : zMem) = (va_up Q j (zsu S q i y), Z) := by
  show (va_up (va_up Q j S) j (zsu (va_up Q j S j) q i y), Z) = (va_up Q j (zsu S q i y), Z)
  rw [va_up_self, bx_uu]
def zabs (x : Int32) : Int32 := if 0 ≤ x then x else -x
def zmin (x y : Int32) : Int32 := if y < x then y else x
def zmax (x y : Int32) : Int32 := if x < y then y else x
/-- Math.floorMod -/
def zfm (x y : Int32) : Int32 := if 0 ≤ x ^^^ y then x - x / y * y else if x - x / y * y = 0 then x - x / y * y else x - x / y * y + y
def zbc (x : Int32) : Int32 :=
  let a := x - ((x.toUInt32 >>> ((nI 1).toUInt32 &&& Int32.toUInt32 31)).toInt32 &&& 1431655765)
  let b := (a &&& 858993459) + ((a.toUInt32 >>> ((nI 2).toUInt32 &&& Int32.toUInt32 31)).toInt32 &&& 858993459)
  let c := (b + (b.toUInt32 >>> ((nI 4).toUInt32 &&& Int32.toUInt32 31)).toInt32) &&& 252645135
  let e := c + (c.toUInt32 >>> ((nI 8).toUInt32 &&& Int32.toUInt32 31)).toInt32
  let f := e + (e.toUInt32 >>> ((nI 16).toUInt32 &&& Int32.toUInt32 31)).toInt32
  f &&& nI 63
def zsum (f : Nat → Int32) : Nat → Int32
  | 0 => nI 0
  | n + 1 => zsum f n + f n
def zbits (c : Nat → Bool) : Nat → Int32
  | 0 => nI 0
  | n + 1 => if c n then zbits c n ||| (nI 1 <<< (nI n &&& 31)) else zbits c n
def encO : Option Nat → Int32
  | none => -1000000
  | some k => nI k
/-- the one nearest, of several the longest, then the first -/
def zNx (el : Nat → Bool) (near lg : Nat → Int32) : Nat → Option Nat
  | 0 => none
  | p + 1 => match zNx el near lg p with
    | none => if el p then some p else none
    | some b => if el p && (decide (near p < near b) || decide (near p = near b) && decide (lg b < lg p)) then some p else some b
theorem zNx_lt {el : Nat → Bool} {near lg : Nat → Int32} : ∀ {n k : Nat}, zNx el near lg n = some k → k < n
  | 0, k, h => by simp [zNx] at h
  | n + 1, k, h => by
    unfold zNx at h
    split at h
    · split at h
      · cases h; omega
      · cases h
    · rename_i b hb
      have := zNx_lt hb
      split at h
      · cases h; omega
      · cases h; omega
/-- the next above that is not nameless -/
def zlend (lg : Nat → Int32) (n p : Nat) : Nat → Nat
  | 0 => p
  | k + 1 => if 0 < lg ((p + (n - (k + 1))) % n) then (p + (n - (k + 1))) % n else zlend lg n p k
theorem zlend_lt {lg : Nat → Int32} {n p : Nat} (hp : p < n) : ∀ k, zlend lg n p k < n
  | 0 => hp
  | k + 1 => by
    unfold zlend
    split
    · exact Nat.mod_lt _ (by omega)
    · exact zlend_lt hp k
abbrev zS : Type := Nat → Nat → Int32
def hidC (S : zS) (p : Nat) : Int32 := (S 0 6 >>> (nI p &&& 31)) &&& nI 1
def nearC (S : zS) (p : Nat) : Int32 := zabs (S 2 p - S 0 1) + S 3 p
def elC (S : zS) (p : Nat) : Bool := !decide (S 4 p = 0) && decide (hidC S p = 0)
def nextC (S : zS) (n : Nat) : Option Nat := if S 0 3 ≤ 0 then zNx (elC S) (nearC S) (S 4) n else none
def allC (S : zS) : Int32 := (nI 1 <<< (S 0 0 &&& 31)) - nI 1
def loserC (S : zS) (n p : Nat) : Nat := if S 1 p = nI 3 then zlend (S 4) n p (n - 1) else p
def spatC (S : zS) (p : Nat) : Bool := decide (S 1 p = nI 2) && !decide (S 4 p - S 4 p / nI 2 * nI 2 = 0)
def biteOfC (S : zS) (p : Nat) : Int32 := if S 1 p = nI 4 then (S 4 p + nI 1) / nI 2 else if S 1 p = nI 5 then nI 1 else S 4 p
def bite1C (S : zS) (n p : Nat) : zS := if spatC S p then zsu S 2 p (zmin (S 2 p + nI 1) (nI 9)) else zsu S 0 8 (zmin (biteOfC S p) (S 4 (loserC S n p)))
def bite2C (S : zS) (l : Nat) : zS := zsu S 4 l (S 4 l - S 0 8)
def bite3C (S : zS) : zS := zsu S 0 5 (S 0 5 + S 0 8)
def bite4C (S : zS) : zS := zsu S 0 3 (zmax (nI 0) (S 0 8 - nI 5))
def biteC (S : zS) (n p : Nat) : zS := bite4C (bite3C (bite2C (bite1C S n p) (loserC S n p)))
def noon2C (S : zS) (b : Option Nat) : zS := zsu (zsu S 0 7 (encO b)) 0 8 (nI 0)
def zbiteO (S : zS) (n : Nat) : Option Nat → zS
  | some p => biteC S n p
  | none => S
def noon3C (S : zS) (n : Nat) (b : Option Nat) : zS := if S 0 3 ≤ 0 then zbiteO S n b else zsu S 0 3 (S 0 3 - nI 1)
def noon4C (S : zS) : zS := zsu S 0 1 (zfm (S 0 1 + S 0 2 - nI 1) (nI 10))
def noon5C (S : zS) : zS := zsu S 0 4 (S 0 4 + nI 1)
def noonC (S : zS) (n : Nat) : zS := noon5C (noon4C (noon3C (noon2C S (nextC S n)) n (nextC S n)))
def noonsC (S : zS) (n : Nat) : Nat → zS
  | 0 => S
  | k + 1 => noonC (noonsC S n k) n
theorem nextC_lt {S : zS} {n k : Nat} (h : nextC S n = some k) : k < n := by
  unfold nextC at h
  split at h
  · exact zNx_lt h
  · cases h
theorem zid {x : Int32} {n : Nat} (hn : n < 2 ^ 31) (h1 : ¬ x < 0) (h2 : ¬ nI n ≤ x) : ∃ k, k < n ∧ x = nI k := by
  rcases pk_ix x hn with h | h | h
  · exact absurd h h1
  · exact absurd h h2
  · exact h
theorem zi1 (n : Nat) : nI n + Int32.ofInt 1 = nI (n + 1) := nI_1 n
section ZJ
variable {E : zE}
theorem c_J9_abs_0f7a4 {M : zMem} {x : Int32} : zCT E 0 zm_J9_abs_0f7a4 [.int x] M (some (.int (zabs x))) M := by
  refine zCT.of (by decide +kernel) (Nat.le_of_ble_eq_true rfl) ?_
  refine zi_iload0 (n := 1) dJ9_abs_0f7a4_0 rfl ?_
  refine zi_ifge (n := 4) (tgt := 9) dJ9_abs_0f7a4_1 rfl (by decide) (fun h1 => ?_) (fun h1 => ?_)
  · refine zi_iload0 (n := 10) dJ9_abs_0f7a4_9 rfl ?_
    exact zi_iret dJ9_abs_0f7a4_10 rfl (by simp [zabs, h1]) (by rfl)
  · refine zi_iload0 (n := 5) dJ9_abs_0f7a4_4 rfl ?_
    refine zi_ineg (n := 6) dJ9_abs_0f7a4_5 rfl ?_
    refine zi_goto (tgt := 10) dJ9_abs_0f7a4_6 (by decide) ?_
    exact zi_iret dJ9_abs_0f7a4_10 rfl (by simp [zabs, h1]) (by rfl)
theorem c_J9_min_7cf53 {M : zMem} {x y : Int32} : zCT E 0 zm_J9_min_7cf53 [.int x, .int y] M (some (.int (zmin x y))) M := by
  refine zCT.of (by decide +kernel) (Nat.le_of_ble_eq_true rfl) ?_
  refine zi_iload0 (n := 1) dJ9_min_7cf53_0 rfl ?_
  refine zi_iload1 (n := 2) dJ9_min_7cf53_1 rfl ?_
  refine zi_icgt (n := 5) (tgt := 9) dJ9_min_7cf53_2 rfl (by decide) (fun h2 => ?_) (fun h2 => ?_)
  · refine zi_iload1 (n := 10) dJ9_min_7cf53_9 rfl ?_
    exact zi_iret dJ9_min_7cf53_10 rfl (by simp [zmin, h2]) (by rfl)
  · refine zi_iload0 (n := 6) dJ9_min_7cf53_5 rfl ?_
    refine zi_goto (tgt := 10) dJ9_min_7cf53_6 (by decide) ?_
    exact zi_iret dJ9_min_7cf53_10 rfl (by simp [zmin, h2]) (by rfl)
theorem c_J9_max_7cf53 {M : zMem} {x y : Int32} : zCT E 0 zm_J9_max_7cf53 [.int x, .int y] M (some (.int (zmax x y))) M := by
  refine zCT.of (by decide +kernel) (Nat.le_of_ble_eq_true rfl) ?_
  refine zi_iload0 (n := 1) dJ9_max_7cf53_0 rfl ?_
  refine zi_iload1 (n := 2) dJ9_max_7cf53_1 rfl ?_
  refine zi_iclt (n := 5) (tgt := 9) dJ9_max_7cf53_2 rfl (by decide) (fun h2 => ?_) (fun h2 => ?_)
  · refine zi_iload1 (n := 10) dJ9_max_7cf53_9 rfl ?_
    exact zi_iret dJ9_max_7cf53_10 rfl (by simp [zmax, h2]) (by rfl)
  · refine zi_iload0 (n := 6) dJ9_max_7cf53_5 rfl ?_
    refine zi_goto (tgt := 10) dJ9_max_7cf53_6 (by decide) ?_
    exact zi_iret dJ9_max_7cf53_10 rfl (by simp [zmax, h2]) (by rfl)
theorem c_J9_floorMod_7cf53 {M : zMem} {x y : Int32} (hy : ¬ y = 0) : zCT E 0 zm_J9_floorMod_7cf53 [.int x, .int y] M (some (.int (zfm x y))) M := by
  refine zCT.of (by decide +kernel) (Nat.le_of_ble_eq_true rfl) ?_
  refine zi_iload0 (n := 1) dJ9_floorMod_7cf53_0 rfl ?_
  refine zi_iload1 (n := 2) dJ9_floorMod_7cf53_1 rfl ?_
  refine zi_irem (n := 3) dJ9_floorMod_7cf53_2 rfl hy ?_
  refine zi_istore2 (n := 4) dJ9_floorMod_7cf53_3 rfl (by decide) rfl ?_
  refine zi_iload0 (n := 5) dJ9_floorMod_7cf53_4 rfl ?_
  refine zi_iload1 (n := 6) dJ9_floorMod_7cf53_5 rfl ?_
  refine zi_ixor (n := 7) dJ9_floorMod_7cf53_6 rfl ?_
  refine zi_ifge (n := 10) (tgt := 18) dJ9_floorMod_7cf53_7 rfl (by decide) (fun h7 => ?_) (fun h7 => ?_)
  · refine zi_iload2 (n := 19) dJ9_floorMod_7cf53_18 rfl ?_
    exact zi_iret dJ9_floorMod_7cf53_19 rfl (by simp only [zfm]; simp only [*, if_true, if_false]) (by rfl)
  · refine zi_iload2 (n := 11) dJ9_floorMod_7cf53_10 rfl ?_
    refine zi_ifeq (n := 14) (tgt := 18) dJ9_floorMod_7cf53_11 rfl (by decide) (fun h11 => ?_) (fun h11 => ?_)
    · refine zi_iload2 (n := 19) dJ9_floorMod_7cf53_18 rfl ?_
      exact zi_iret dJ9_floorMod_7cf53_19 rfl (by simp only [zfm]; simp only [*, if_true, if_false]) (by rfl)
    · refine zi_iload2 (n := 15) dJ9_floorMod_7cf53_14 rfl ?_
      refine zi_iload1 (n := 16) dJ9_floorMod_7cf53_15 rfl ?_
      refine zi_iadd (n := 17) dJ9_floorMod_7cf53_16 rfl ?_
      exact zi_iret dJ9_floorMod_7cf53_17 rfl (by simp only [zfm]; simp only [*, if_true, if_false]) (by rfl)
theorem c_J6_bitCount_0f7a4 {M : zMem} {x : Int32} : zCT E 0 zm_J6_bitCount_0f7a4 [.int x] M (some (.int (zbc x))) M := by
  refine zCT.of (by decide +kernel) (Nat.le_of_ble_eq_true rfl) ?_
  refine zi_iload0 (n := 1) dJ6_bitCount_0f7a4_0 rfl ?_
  refine zi_iload0 (n := 2) dJ6_bitCount_0f7a4_1 rfl ?_
  refine zi_iconst (n := 3) (nI 1) dJ6_bitCount_0f7a4_2 rfl (by decide) ?_
  refine zi_iushr (n := 4) dJ6_bitCount_0f7a4_3 rfl ?_
  refine zi_ldcw (n := 7) dJ6_bitCount_0f7a4_4 rfl zl_J6_265 ?_
  refine zi_iand (n := 8) dJ6_bitCount_0f7a4_7 rfl ?_
  refine zi_isub (n := 9) dJ6_bitCount_0f7a4_8 rfl ?_
  refine zi_istore0 (n := 10) dJ6_bitCount_0f7a4_9 rfl (by decide) rfl ?_
  refine zi_iload0 (n := 11) dJ6_bitCount_0f7a4_10 rfl ?_
  refine zi_ldcw (n := 14) dJ6_bitCount_0f7a4_11 rfl zl_J6_266 ?_
  refine zi_iand (n := 15) dJ6_bitCount_0f7a4_14 rfl ?_
  refine zi_iload0 (n := 16) dJ6_bitCount_0f7a4_15 rfl ?_
  refine zi_iconst (n := 17) (nI 2) dJ6_bitCount_0f7a4_16 rfl (by decide) ?_
  refine zi_iushr (n := 18) dJ6_bitCount_0f7a4_17 rfl ?_
  refine zi_ldcw (n := 21) dJ6_bitCount_0f7a4_18 rfl zl_J6_266 ?_
  refine zi_iand (n := 22) dJ6_bitCount_0f7a4_21 rfl ?_
  refine zi_iadd (n := 23) dJ6_bitCount_0f7a4_22 rfl ?_
  refine zi_istore0 (n := 24) dJ6_bitCount_0f7a4_23 rfl (by decide) rfl ?_
  refine zi_iload0 (n := 25) dJ6_bitCount_0f7a4_24 rfl ?_
  refine zi_iload0 (n := 26) dJ6_bitCount_0f7a4_25 rfl ?_
  refine zi_iconst (n := 27) (nI 4) dJ6_bitCount_0f7a4_26 rfl (by decide) ?_
  refine zi_iushr (n := 28) dJ6_bitCount_0f7a4_27 rfl ?_
  refine zi_iadd (n := 29) dJ6_bitCount_0f7a4_28 rfl ?_
  refine zi_ldcw (n := 32) dJ6_bitCount_0f7a4_29 rfl zl_J6_267 ?_
  refine zi_iand (n := 33) dJ6_bitCount_0f7a4_32 rfl ?_
  refine zi_istore0 (n := 34) dJ6_bitCount_0f7a4_33 rfl (by decide) rfl ?_
  refine zi_iload0 (n := 35) dJ6_bitCount_0f7a4_34 rfl ?_
  refine zi_iload0 (n := 36) dJ6_bitCount_0f7a4_35 rfl ?_
  refine zi_bipush (n := 38) (nI 8) dJ6_bitCount_0f7a4_36 rfl (by decide) ?_
  refine zi_iushr (n := 39) dJ6_bitCount_0f7a4_38 rfl ?_
  refine zi_iadd (n := 40) dJ6_bitCount_0f7a4_39 rfl ?_
  refine zi_istore0 (n := 41) dJ6_bitCount_0f7a4_40 rfl (by decide) rfl ?_
  refine zi_iload0 (n := 42) dJ6_bitCount_0f7a4_41 rfl ?_
  refine zi_iload0 (n := 43) dJ6_bitCount_0f7a4_42 rfl ?_
  refine zi_bipush (n := 45) (nI 16) dJ6_bitCount_0f7a4_43 rfl (by decide) ?_
  refine zi_iushr (n := 46) dJ6_bitCount_0f7a4_45 rfl ?_
  refine zi_iadd (n := 47) dJ6_bitCount_0f7a4_46 rfl ?_
  refine zi_istore0 (n := 48) dJ6_bitCount_0f7a4_47 rfl (by decide) rfl ?_
  refine zi_iload0 (n := 49) dJ6_bitCount_0f7a4_48 rfl ?_
  refine zi_bipush (n := 51) (nI 63) dJ6_bitCount_0f7a4_49 rfl (by decide) ?_
  refine zi_iand (n := 52) dJ6_bitCount_0f7a4_51 rfl ?_
  exact zi_iret dJ6_bitCount_0f7a4_52 rfl (by rfl) (by rfl)
end ZJ
section ZRB
variable {E : zE} {mi : zM} {d : Nat} {rv : Option Value} {M1 M : zMem} {pc : Nat} {lo : List (Option Value)}
theorem zi_zretT {b : Prop} [Decidable b] (hd : decode mi.2.1 pc = .ok (.ireturn, 1)) (hr : mi.2.2.2 = some .boolean) (hb : b) (hv : rv = some (.int (zb b))) (hM : M1 = M) : zG E mi d rv M1 pc lo [.int (nI 1)] M := zi_zret (b := b) hd hr (by rw [zb, if_pos hb]; decide) hv hM
theorem zi_zretF {b : Prop} [Decidable b] (hd : decode mi.2.1 pc = .ok (.ireturn, 1)) (hr : mi.2.2.2 = some .boolean) (hb : ¬ b) (hv : rv = some (.int (zb b))) (hM : M1 = M) : zG E mi d rv M1 pc lo [.int (nI 0)] M := zi_zret (b := b) hd hr (by rw [zb, if_neg hb]; decide) hv hM
end ZRB
