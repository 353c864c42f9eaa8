section ZT5
/-- the tape's row: length, at, number, fault, faultAt -/
def zTr (L a : Nat) (nu f fa : Int32) : Nat → Int32 := fun k => if k = 1 then nI L else if k = 3 then nI a else if k = 4 then nu else if k = 5 then f else if k = 6 then fa else 0
theorem zTr_u1 (L a : Nat) (nu f fa : Int32) (x : Nat) : upd (zTr L a nu f fa) 1 (nI x) = zTr x a nu f fa := by
  funext k; unfold upd zTr
  by_cases h : k = 1
  · subst h; simp
  · simp [h]
theorem zTr_u3 (L a : Nat) (nu f fa : Int32) (x : Nat) : upd (zTr L a nu f fa) 3 (nI x) = zTr L x nu f fa := by
  funext k; unfold upd zTr
  by_cases h : k = 3
  · subst h; simp
  · simp [h]
theorem zTr_u4 (L a : Nat) (nu f fa x : Int32) : upd (zTr L a nu f fa) 4 x = zTr L a x f fa := by
  funext k; unfold upd zTr
  by_cases h : k = 4
  · subst h; simp
  · simp [h]
theorem zTr_u5 (L a : Nat) (nu f fa x : Int32) : upd (zTr L a nu f fa) 5 x = zTr L a nu x fa := by
  funext k; unfold upd zTr
  by_cases h : k = 5
  · subst h; simp
  · simp [h]
theorem zTr_u6 (L a : Nat) (nu f fa x : Int32) : upd (zTr L a nu f fa) 6 x = zTr L a nu f x := by
  funext k; unfold upd zTr
  by_cases h : k = 6
  · subst h; simp
  · simp [h]
/-- a reading: the draft, where it is, the number, the fault, its place -/
abbrev zP : Type := zS × Nat × Int32 × Int32 × Int32
def zPm (Q : Nat → Nat → Nat → Int32) (Z : zS) (L : Nat) (u : zP) : zMem := (va_up Q 0 u.1, va_up Z 158 (zTr L u.2.1 u.2.2.1 u.2.2.2.1 u.2.2.2.2))
section ZPm
variable (Q : Nat → Nat → Nat → Int32) (Z : zS) (L : Nat) (u : zP)
theorem zPm_g1 : (zPm Q Z L u).2 158 1 = nI L := by simp [zPm, va_up_self, zTr]
theorem zPm_g3 : (zPm Q Z L u).2 158 3 = nI u.2.1 := by simp [zPm, va_up_self, zTr]
theorem zPm_g4 : (zPm Q Z L u).2 158 4 = u.2.2.1 := by simp [zPm, va_up_self, zTr]
theorem zPm_g5 : (zPm Q Z L u).2 158 5 = u.2.2.2.1 := by simp [zPm, va_up_self, zTr]
theorem zPm_g6 : (zPm Q Z L u).2 158 6 = u.2.2.2.2 := by simp [zPm, va_up_self, zTr]
theorem zPm_gb (k : Nat) : (zPm Q Z L u).2 159 k = Z 159 k := by
  simp [zPm, va_up]
theorem zPm_gs (q k : Nat) : (zPm Q Z L u).1 0 q k = u.1 q k := zfs _ _ _ _ _ _
theorem zPm_p3 (x : Nat) : (((zPm Q Z L u).1, zsu (zPm Q Z L u).2 158 3 (nI x)) : zMem) = zPm Q Z L (u.1, x, u.2.2) := (zfq _ _ _ _ _ _).trans (by rw [zTr_u3]; rfl)
theorem zPm_p4 (x : Int32) : (((zPm Q Z L u).1, zsu (zPm Q Z L u).2 158 4 x) : zMem) = zPm Q Z L (u.1, u.2.1, x, u.2.2.2) := (zfq _ _ _ _ _ _).trans (by rw [zTr_u4]; rfl)
theorem zPm_p5 (x : Int32) : (((zPm Q Z L u).1, zsu (zPm Q Z L u).2 158 5 x) : zMem) = zPm Q Z L (u.1, u.2.1, u.2.2.1, x, u.2.2.2.2) := (zfq _ _ _ _ _ _).trans (by rw [zTr_u5]; rfl)
theorem zPm_p6 (x : Int32) : (((zPm Q Z L u).1, zsu (zPm Q Z L u).2 158 6 x) : zMem) = zPm Q Z L (u.1, u.2.1, u.2.2.1, u.2.2.2.1, x) := (zfq _ _ _ _ _ _).trans (by rw [zTr_u6]; rfl)
theorem zPm_ps (q k : Nat) (x : Int32) : ((va_up (zPm Q Z L u).1 0 (zsu ((zPm Q Z L u).1 0) q k x), (zPm Q Z L u).2) : zMem) = zPm Q Z L (zsu u.1 q k x, u.2) := zfp _ _ _ _ _ _ _
end ZPm
def zby (B : Nat → Int32) (L k : Nat) : Int32 := if k < L then B k else -1
def zflt (u : zP) (w : Int32) : zP := (u.1, u.2.1, u.2.2.1, w, nI u.2.1)
def zrB (B : Nat → Int32) (L : Nat) (c : Int32) (u : zP) : Bool × zP := if zby B L u.2.1 = c then (true, (u.1, u.2.1 + 1, u.2.2)) else (false, zflt u (nI 1))
def zfig (x : Int32) : Bool := decide (nI 48 ≤ x ∧ x ≤ nI 57)
def zcF (B : Nat → Int32) (L a : Nat) : Nat → Nat → Nat
  | 0, f => f
  | k + 1, f => if zfig (zby B L (a + f)) then zcF B L a k (f + 1) else f
def zvF (B : Nat → Int32) (L a : Nat) : Nat → Int32
  | 0 => nI 0
  | f + 1 => zvF B L a f * nI 10 + zby B L (a + f) - nI 48
theorem zcF_le (B : Nat → Int32) (L a : Nat) : ∀ k f, zcF B L a k f ≤ f + k
  | 0, f => Nat.le_refl _
  | k + 1, f => by
    unfold zcF
    split
    · have := zcF_le B L a k (f + 1); omega
    · omega
def zrN (B : Nat → Int32) (L : Nat) (lo hi : Int32) (u : zP) : Bool × zP :=
  if zcF B L u.2.1 3 0 = 0 then (false, zflt u (nI 1)) else if 2 < zcF B L u.2.1 3 0 then (false, zflt u (nI 1))
  else if lo ≤ zvF B L u.2.1 (zcF B L u.2.1 3 0) ∧ zvF B L u.2.1 (zcF B L u.2.1 3 0) ≤ hi then (true, (u.1, u.2.1 + zcF B L u.2.1 3 0, zvF B L u.2.1 (zcF B L u.2.1 3 0), u.2.2.2)) else (false, zflt u (nI 2))
def zrL (B : Nat → Int32) (L : Nat) (u : zP) : Bool × zP :=
  let r1 := zrB B L (nI 99) u
  if r1.1 then
    let r2 := zrN B L (nI 0) (nI 9) r1.2
    if r2.1 then
      let r3 := zrB B L (nI 44) (zsu r2.2.1 0 1 r2.2.2.2.1, r2.2.2)
      if r3.1 then
        let r4 := zrN B L (nI 0) (nI 2) r3.2
        if r4.1 then zrB B L (nI 59) (zsu r4.2.1 0 2 r4.2.2.2.1, r4.2.2) else (false, r4.2)
      else (false, r3.2)
    else (false, r2.2)
  else (false, r1.2)
def zkt (x : Int32) : Int32 := if x = nI 98 then nI 3 else if x = nI 100 then nI 4 else if x = nI 108 then nI 2 else if x = nI 112 then nI 1 else if x = nI 115 then nI 5 else nI 0
variable {E : zE} {Q : Nat → Nat → Nat → Int32} {Z : zS} {M : zMem} {L : Nat} {u : zP}
set_option maxHeartbeats 4000000 in
set_option maxRecDepth 100000 in
theorem c_X5_faulty {w : Int32} : zCT E 0 zm_X5_faulty [.ref (zad E 158), .int w] (zPm Q Z L u) (some (.int (zb (False)))) (zPm Q Z L (zflt u w)) := by
  refine zCT.of (by decide +kernel) (Nat.le_of_ble_eq_true rfl) ?_
  refine zi_aload0 (n := 1) dX5_faulty_0 rfl ?_
  refine zi_iload1 (n := 2) dX5_faulty_1 rfl ?_
  refine zp_X5_5 (n := 5) dX5_faulty_2 rfl zl_X5_89 (zPm_p5 _ _ _ _ _) ?_
  refine zi_aload0 (n := 6) dX5_faulty_5 rfl ?_
  refine zi_aload0 (n := 7) dX5_faulty_6 rfl ?_
  refine zg_X5_3 (n := 10) dX5_faulty_7 rfl zl_X5_30 (zPm_g3 _ _ _ _) ?_
  refine zp_X5_6 (n := 13) dX5_faulty_10 rfl zl_X5_92 (zPm_p6 _ _ _ _ _) ?_
  refine zi_iconst (n := 14) (nI 0) dX5_faulty_13 rfl (by decide) ?_
  exact zi_zretF dX5_faulty_14 rfl (by simp) rfl (by rfl)
set_option maxHeartbeats 4000000 in
set_option maxRecDepth 100000 in
theorem c_X5_byteAt (h90 : L ≤ 90) {k : Nat} (hk : k < 2 ^ 30) : zCT E 0 zm_X5_byteAt [.ref (zad E 158), .int (nI k)] (zPm Q Z L u) (some (.int (zby (Z 159) L k))) (zPm Q Z L u) := by
  refine zCT.of (by decide +kernel) (Nat.le_of_ble_eq_true rfl) ?_
  refine zi_iload1 (n := 1) dX5_byteAt_0 rfl ?_
  refine zi_iflt (n := 4) (tgt := 27) dX5_byteAt_1 rfl (by decide) (fun h1 => ?_) (fun h1 => ?_)
  · exact absurd h1 (nI_pos (by omega))
  · refine zi_iload1 (n := 5) dX5_byteAt_4 rfl ?_
    refine zi_aload0 (n := 6) dX5_byteAt_5 rfl ?_
    refine zg_X5_1 (n := 9) dX5_byteAt_6 rfl zl_X5_22 (zPm_g1 _ _ _ _) ?_
    refine zi_icge (n := 12) (tgt := 27) dX5_byteAt_9 rfl (by decide) (fun h9 => ?_) (fun h9 => ?_)
    · have e9 : ¬ k < L := by have := (nI_leI (by omega) (by omega)).mp h9; omega
      refine zi_iconst (n := 28) (-1) dX5_byteAt_27 rfl (by decide) ?_
      exact zi_iret dX5_byteAt_28 rfl (by simp [zby, e9]) (by rfl)
    · have e9 : k < L := by have := mt (nI_leI (by omega) (by omega)).mpr h9; omega
      refine zi_iload1 (n := 13) dX5_byteAt_12 rfl ?_
      refine zi_bipush (n := 15) (nI 90) dX5_byteAt_13 rfl (by decide) ?_
      refine zi_icge (n := 18) (tgt := 27) dX5_byteAt_15 rfl (by decide) (fun h15 => ?_) (fun h15 => ?_)
      · exact absurd ((nI_leI (a := 90) (by omega) (by omega)).mp h15) (by omega)
      · refine zi_aload0 (n := 19) dX5_byteAt_18 rfl ?_
        refine zg_X5_0 (n := 22) dX5_byteAt_19 rfl zl_X5_9 ?_
        refine zi_iload1 (n := 23) dX5_byteAt_22 rfl ?_
        refine zi_oald (N := 90) (n := 24) dX5_byteAt_23 rfl (by decide) (fun _ => rfl) (by decide) rfl (by omega) (zPm_gb _ _ _ _ _) ?_
        refine zi_goto (tgt := 28) dX5_byteAt_24 (by decide) ?_
        exact zi_iret dX5_byteAt_28 rfl (by simp [zby, e9]) (by rfl)
set_option maxHeartbeats 4000000 in
set_option maxRecDepth 100000 in
theorem c_X5_isFigure {x : Int32} : zCT E 0 zm_X5_isFigure [.int x] M (some (.int (zb (zfig x = true)))) M := by
  refine zCT.of (by decide +kernel) (Nat.le_of_ble_eq_true rfl) ?_
  refine zi_iload0 (n := 1) dX5_isFigure_0 rfl ?_
  refine zi_bipush (n := 3) (nI 48) dX5_isFigure_1 rfl (by decide) ?_
  refine zi_iclt (n := 6) (tgt := 16) dX5_isFigure_3 rfl (by decide) (fun h3 => ?_) (fun h3 => ?_)
  · refine zi_iconst (n := 17) (nI 0) dX5_isFigure_16 rfl (by decide) ?_
    exact zi_zretF dX5_isFigure_17 rfl (by simp only [zfig, decide_eq_true_eq]; first | exact znwit1 (by assumption) | exact znwit2 (by assumption)) rfl (by rfl)
  · refine zi_iload0 (n := 7) dX5_isFigure_6 rfl ?_
    refine zi_bipush (n := 9) (nI 57) dX5_isFigure_7 rfl (by decide) ?_
    refine zi_icgt (n := 12) (tgt := 16) dX5_isFigure_9 rfl (by decide) (fun h9 => ?_) (fun h9 => ?_)
    · refine zi_iconst (n := 17) (nI 0) dX5_isFigure_16 rfl (by decide) ?_
      exact zi_zretF dX5_isFigure_17 rfl (by simp only [zfig, decide_eq_true_eq]; first | exact znwit1 (by assumption) | exact znwit2 (by assumption)) rfl (by rfl)
    · refine zi_iconst (n := 13) (nI 1) dX5_isFigure_12 rfl (by decide) ?_
      refine zi_goto (tgt := 17) dX5_isFigure_13 (by decide) ?_
      exact zi_zretT dX5_isFigure_17 rfl (by simp only [zfig, decide_eq_true_eq]; exact zwithin h3 h9) rfl (by rfl)
set_option maxHeartbeats 4000000 in
set_option maxRecDepth 100000 in
theorem c_X5_kindTold {x : Int32} : zCT E 0 zm_X5_kindTold [.int x] M (some (.int (zkt x))) M := by
  refine zCT.of (by decide +kernel) (Nat.le_of_ble_eq_true rfl) ?_
  refine zi_iload0 (n := 1) dX5_kindTold_0 rfl ?_
  by_cases k98 : x = nI 98
  · refine zi_lookup (tgt := 56) dX5_kindTold_1 (by decide) (by rw [k98]) (by decide) ?_
    refine zi_iconst (n := 57) (nI 3) dX5_kindTold_56 rfl (by decide) ?_
    exact zi_iret dX5_kindTold_57 rfl (by rw [zkt, if_pos k98]) (by rfl)
  by_cases k100 : x = nI 100
  · refine zi_lookup (tgt := 58) dX5_kindTold_1 (by decide) (by rw [k100]) (by decide) ?_
    refine zi_iconst (n := 59) (nI 4) dX5_kindTold_58 rfl (by decide) ?_
    exact zi_iret dX5_kindTold_59 rfl (by rw [zkt, if_neg k98, if_pos k100]) (by rfl)
  by_cases k108 : x = nI 108
  · refine zi_lookup (tgt := 54) dX5_kindTold_1 (by decide) (by rw [k108]) (by decide) ?_
    refine zi_iconst (n := 55) (nI 2) dX5_kindTold_54 rfl (by decide) ?_
    exact zi_iret dX5_kindTold_55 rfl (by rw [zkt, if_neg k98, if_neg k100, if_pos k108]) (by rfl)
  by_cases k112 : x = nI 112
  · refine zi_lookup (tgt := 52) dX5_kindTold_1 (by decide) (by rw [k112]) (by decide) ?_
    refine zi_iconst (n := 53) (nI 1) dX5_kindTold_52 rfl (by decide) ?_
    exact zi_iret dX5_kindTold_53 rfl (by rw [zkt, if_neg k98, if_neg k100, if_neg k108, if_pos k112]) (by rfl)
  by_cases k115 : x = nI 115
  · refine zi_lookup (tgt := 60) dX5_kindTold_1 (by decide) (by rw [k115]) (by decide) ?_
    refine zi_iconst (n := 61) (nI 5) dX5_kindTold_60 rfl (by decide) ?_
    exact zi_iret dX5_kindTold_61 rfl (by rw [zkt, if_neg k98, if_neg k100, if_neg k108, if_neg k112, if_pos k115]) (by rfl)
  refine zi_lookup (tgt := 62) (off := 61) dX5_kindTold_1 (by decide) ((lv_osw k98 (by decide)).trans ((lv_osw k100 (by decide)).trans ((lv_osw k108 (by decide)).trans ((lv_osw k112 (by decide)).trans ((lv_osw k115 (by decide)).trans rfl))))) (by decide) ?_
  refine zi_iconst (n := 63) (nI 0) dX5_kindTold_62 rfl (by decide) ?_
  exact zi_iret dX5_kindTold_63 rfl (by rw [zkt, if_neg k98, if_neg k100, if_neg k108, if_neg k112, if_neg k115]) (by rfl)
set_option maxHeartbeats 4000000 in
set_option maxRecDepth 100000 in
theorem c_X5_readByte (h90 : L ≤ 90) (ha : u.2.1 < 2 ^ 29) {x : Int32} : zCT E 1 zm_X5_readByte [.ref (zad E 158), .int x] (zPm Q Z L u) (some (.int (zb ((zrB (Z 159) L x u).1 = true)))) (zPm Q Z L (zrB (Z 159) L x u).2) := by
  refine zCT.of (by decide +kernel) (Nat.le_of_ble_eq_true rfl) ?_
  refine zi_aload0 (n := 1) dX5_readByte_0 rfl ?_
  refine zi_aload0 (n := 2) dX5_readByte_1 rfl ?_
  refine zg_X5_3 (n := 5) dX5_readByte_2 rfl zl_X5_30 (zPm_g3 _ _ _ _) ?_
  refine zi_V1s (mj := zm_X5_byteAt) (n := 8) dX5_readByte_5 rfl zl_X5_59 zy_X5_byteAt (zrc_X5 _ _) (by decide) (Nat.le_of_ble_eq_true rfl) (c_X5_byteAt h90 (by omega)) ?_
  refine zi_iload1 (n := 9) dX5_readByte_8 rfl ?_
  refine zi_iceq (n := 12) (tgt := 18) dX5_readByte_9 rfl (by decide) (fun h9 => ?_) (fun h9 => ?_)
  · refine zi_aload0 (n := 19) dX5_readByte_18 rfl ?_
    refine zi_dup (n := 20) dX5_readByte_19 rfl rfl ?_
    refine zg_X5_3 (n := 23) dX5_readByte_20 rfl zl_X5_30 (zPm_g3 _ _ _ _) ?_
    refine zi_iconst (n := 24) (nI 1) dX5_readByte_23 rfl (by decide) ?_
    refine zi_iadd (n := 25) dX5_readByte_24 rfl ?_
    rw [nI_add]
    refine zp_X5_3 (n := 28) dX5_readByte_25 rfl zl_X5_30 (zPm_p3 _ _ _ _ _) ?_
    refine zi_iconst (n := 29) (nI 1) dX5_readByte_28 rfl (by decide) ?_
    exact zi_zret dX5_readByte_29 rfl (by simp [zrB, h9, zb]; decide) rfl (by simp [zrB, h9])
  · refine zi_aload0 (n := 13) dX5_readByte_12 rfl ?_
    refine zi_iconst (n := 14) (nI 1) dX5_readByte_13 rfl (by decide) ?_
    refine zi_V1s (mj := zm_X5_faulty) (n := 17) dX5_readByte_14 rfl zl_X5_66 zy_X5_faulty (zrc_X5 _ _) (by decide) (Nat.le_of_ble_eq_true rfl) (c_X5_faulty) ?_
    exact zi_zret dX5_readByte_17 rfl (by simp [zrB, h9, zb]) rfl (by simp [zrB, h9])
set_option maxHeartbeats 4000000 in
set_option maxRecDepth 100000 in
theorem t_X5_readNumber (h90 : L ≤ 90) (ha : u.2.1 < 2 ^ 29) {lo hi : Int32} {c : Nat} (hc : zcF (Z 159) L u.2.1 3 0 = c) (hc3 : c ≤ 3) : zG E zm_X5_readNumber 1 (some (.int (zb ((zrN (Z 159) L lo hi u).1 = true)))) (zPm Q Z L (zrN (Z 159) L lo hi u).2) 53 [some (.ref (zad E 158)), some (.int lo), some (.int hi), some (.int (nI c)), some (.int (zvF (Z 159) L u.2.1 c))] [] (zPm Q Z L u) := by
  have hc0 : ∀ k : Nat, k ≤ 3 → (nI k = 0 ↔ k = 0) := by intro k hk; rcases (show k = 0 ∨ k = 1 ∨ k = 2 ∨ k = 3 by omega) with rfl | rfl | rfl | rfl <;> decide
  refine zi_iload3 (n := 54) dX5_readNumber_53 rfl ?_
  refine zi_ifeq (n := 57) (tgt := 62) dX5_readNumber_54 rfl (by decide) (fun h54 => ?_) (fun h54 => ?_)
  · have e54 : c = 0 := (hc0 c hc3).mp h54
    refine zi_aload0 (n := 63) dX5_readNumber_62 rfl ?_
    refine zi_iconst (n := 64) (nI 1) dX5_readNumber_63 rfl (by decide) ?_
    refine zi_V1s (mj := zm_X5_faulty) (n := 67) dX5_readNumber_64 rfl zl_X5_66 zy_X5_faulty (zrc_X5 _ _) (by decide) (Nat.le_of_ble_eq_true rfl) (c_X5_faulty) ?_
    exact zi_zret dX5_readNumber_67 rfl (by first | (simp [zrN, hc, e54, zb]; done) | (simp [zrN, hc, e54, e59, zb]; done)) rfl (by first | (simp [zrN, hc, e54]; done) | (simp [zrN, hc, e54, e59]; done))
  · have e54 : ¬ c = 0 := fun zz => h54 ((hc0 c hc3).mpr zz)
    refine zi_iload3 (n := 58) dX5_readNumber_57 rfl ?_
    refine zi_iconst (n := 59) (nI 2) dX5_readNumber_58 rfl (by decide) ?_
    refine zi_icle (n := 62) (tgt := 68) dX5_readNumber_59 rfl (by decide) (fun h59 => ?_) (fun h59 => ?_)
    · have e59 : ¬ 2 < c := by have := (nI_leI (a := c) (by omega) (by omega)).mp h59; omega
      refine zi_iload4 (n := 70) dX5_readNumber_68 rfl ?_
      refine zi_iload1 (n := 71) dX5_readNumber_70 rfl ?_
      refine zi_iload2 (n := 72) dX5_readNumber_71 rfl ?_
      refine zi_SN3s (mj := zm_X6_within) (n := 75) dX5_readNumber_72 rfl zl_X5_85 zy_X6_within (by decide) (Nat.le_of_ble_eq_true rfl) (c_X6_within) ?_
      refine zi_ifne_b (n := 78) (tgt := 84) dX5_readNumber_75 rfl (by decide) (fun h75 => ?_) (fun h75 => ?_)
      · refine zi_aload0 (n := 85) dX5_readNumber_84 rfl ?_
        refine zi_iload4 (n := 87) dX5_readNumber_85 rfl ?_
        refine zp_X5_4 (n := 90) dX5_readNumber_87 rfl zl_X5_50 (zPm_p4 _ _ _ _ _) ?_
        refine zi_aload0 (n := 91) dX5_readNumber_90 rfl ?_
        refine zi_dup (n := 92) dX5_readNumber_91 rfl rfl ?_
        refine zg_X5_3 (n := 95) dX5_readNumber_92 rfl zl_X5_30 (zPm_g3 _ _ _ _) ?_
        refine zi_iload3 (n := 96) dX5_readNumber_95 rfl ?_
        refine zi_iadd (n := 97) dX5_readNumber_96 rfl ?_
        rw [nI_add]
        refine zp_X5_3 (n := 100) dX5_readNumber_97 rfl zl_X5_30 (zPm_p3 _ _ _ _ _) ?_
        refine zi_iconst (n := 101) (nI 1) dX5_readNumber_100 rfl (by decide) ?_
        exact zi_zret dX5_readNumber_101 rfl (by simp [zrN, hc, e54, e59, h75, zb]; decide) rfl (by simp [zrN, hc, e54, e59, h75])
      · refine zi_aload0 (n := 79) dX5_readNumber_78 rfl ?_
        refine zi_iconst (n := 80) (nI 2) dX5_readNumber_79 rfl (by decide) ?_
        refine zi_V1s (mj := zm_X5_faulty) (n := 83) dX5_readNumber_80 rfl zl_X5_66 zy_X5_faulty (zrc_X5 _ _) (by decide) (Nat.le_of_ble_eq_true rfl) (c_X5_faulty) ?_
        exact zi_zret dX5_readNumber_83 rfl (by simp [zrN, hc, e54, e59, h75, zb]) rfl (by simp [zrN, hc, e54, e59, h75])
    · have e59 : 2 < c := by have := mt (nI_leI (a := c) (b := 2) (by omega) (by omega)).mpr h59; omega
      refine zi_aload0 (n := 63) dX5_readNumber_62 rfl ?_
      refine zi_iconst (n := 64) (nI 1) dX5_readNumber_63 rfl (by decide) ?_
      refine zi_V1s (mj := zm_X5_faulty) (n := 67) dX5_readNumber_64 rfl zl_X5_66 zy_X5_faulty (zrc_X5 _ _) (by decide) (Nat.le_of_ble_eq_true rfl) (c_X5_faulty) ?_
      exact zi_zret dX5_readNumber_67 rfl (by first | (simp [zrN, hc, e54, zb]; done) | (simp [zrN, hc, e54, e59, zb]; done)) rfl (by first | (simp [zrN, hc, e54]; done) | (simp [zrN, hc, e54, e59]; done))
set_option maxHeartbeats 4000000 in
set_option maxRecDepth 100000 in
theorem l_X5_readNumber (h90 : L ≤ 90) (ha : u.2.1 < 2 ^ 29) {lo hi : Int32} {c : Nat} (hc : zcF (Z 159) L u.2.1 3 0 = c) : ∀ k f, f + k = 3 → zcF (Z 159) L u.2.1 k f = c → zG E zm_X5_readNumber 1 (some (.int (zb ((zrN (Z 159) L lo hi u).1 = true)))) (zPm Q Z L (zrN (Z 159) L lo hi u).2) 5 [some (.ref (zad E 158)), some (.int lo), some (.int hi), some (.int (nI f)), some (.int (zvF (Z 159) L u.2.1 f))] [] (zPm Q Z L u) := by
  have hc3 : c ≤ 3 := by rw [← hc]; exact zcF_le _ _ _ 3 0
  intro k
  induction k with
  | zero =>
    intro f hf hr
    refine zi_iload3 (n := 6) dX5_readNumber_5 rfl ?_
    refine zi_iconst (n := 7) (nI 3) dX5_readNumber_6 rfl (by decide) ?_
    refine zi_icge (n := 10) (tgt := 53) dX5_readNumber_7 rfl (by decide) (fun h7 => ?_) (fun h7 => ?_)
    · have e : f = c := hr
      subst e
      exact t_X5_readNumber h90 ha hc hc3
    · exact absurd ((nI_leI (a := 3) (by omega) (by omega)).mpr (by omega)) h7
  | succ k ih =>
    intro f hf hr
    refine zi_iload3 (n := 6) dX5_readNumber_5 rfl ?_
    refine zi_iconst (n := 7) (nI 3) dX5_readNumber_6 rfl (by decide) ?_
    refine zi_icge (n := 10) (tgt := 53) dX5_readNumber_7 rfl (by decide) (fun h7 => ?_) (fun h7 => ?_)
    · exact absurd ((nI_leI (a := 3) (by omega) (by omega)).mp h7) (by omega)
    · refine zi_aload0 (n := 11) dX5_readNumber_10 rfl ?_
      refine zi_aload0 (n := 12) dX5_readNumber_11 rfl ?_
      refine zg_X5_3 (n := 15) dX5_readNumber_12 rfl zl_X5_30 (zPm_g3 _ _ _ _) ?_
      refine zi_iload3 (n := 16) dX5_readNumber_15 rfl ?_
      refine zi_iadd (n := 17) dX5_readNumber_16 rfl ?_
      rw [nI_add]
      refine zi_V1s (mj := zm_X5_byteAt) (n := 20) dX5_readNumber_17 rfl zl_X5_59 zy_X5_byteAt (zrc_X5 _ _) (by decide) (Nat.le_of_ble_eq_true rfl) (c_X5_byteAt h90 (by omega)) ?_
      refine zi_S1s (mj := zm_X5_isFigure) (n := 23) dX5_readNumber_20 rfl zl_X5_82 zy_X5_isFigure (by decide) (Nat.le_of_ble_eq_true rfl) (c_X5_isFigure) ?_
      refine zi_ifeq_b (n := 26) (tgt := 53) dX5_readNumber_23 rfl (by decide) (fun h23 => ?_) (fun h23 => ?_)
      · have e : f = c := by rw [← hr, zcF, if_neg h23]
        subst e
        exact t_X5_readNumber h90 ha hc hc3
      · refine zi_iload4 (n := 28) dX5_readNumber_26 rfl ?_
        refine zi_bipush (n := 30) (nI 10) dX5_readNumber_28 rfl (by decide) ?_
        refine zi_imul (n := 31) dX5_readNumber_30 rfl ?_
        refine zi_aload0 (n := 32) dX5_readNumber_31 rfl ?_
        refine zi_aload0 (n := 33) dX5_readNumber_32 rfl ?_
        refine zg_X5_3 (n := 36) dX5_readNumber_33 rfl zl_X5_30 (zPm_g3 _ _ _ _) ?_
        refine zi_iload3 (n := 37) dX5_readNumber_36 rfl ?_
        refine zi_iadd (n := 38) dX5_readNumber_37 rfl ?_
        rw [nI_add]
        refine zi_V1s (mj := zm_X5_byteAt) (n := 41) dX5_readNumber_38 rfl zl_X5_59 zy_X5_byteAt (zrc_X5 _ _) (by decide) (Nat.le_of_ble_eq_true rfl) (c_X5_byteAt h90 (by omega)) ?_
        refine zi_iadd (n := 42) dX5_readNumber_41 rfl ?_
        refine zi_bipush (n := 44) (nI 48) dX5_readNumber_42 rfl (by decide) ?_
        refine zi_isub (n := 45) dX5_readNumber_44 rfl ?_
        refine zi_istore4 (n := 47) dX5_readNumber_45 rfl (by decide) rfl ?_
        refine zi_iinc3 (n := 50) (nI (f + 1)) dX5_readNumber_47 rfl (by decide) rfl (zi1 _) ?_
        refine zi_goto (tgt := 5) dX5_readNumber_50 (by decide) ?_
        exact ih (f + 1) (by omega) (by rw [← hr]; exact (if_pos h23).symm)
set_option maxHeartbeats 4000000 in
set_option maxRecDepth 100000 in
theorem c_X5_readNumber (h90 : L ≤ 90) (ha : u.2.1 < 2 ^ 29) {lo hi : Int32} : zCT E 1 zm_X5_readNumber [.ref (zad E 158), .int lo, .int hi] (zPm Q Z L u) (some (.int (zb ((zrN (Z 159) L lo hi u).1 = true)))) (zPm Q Z L (zrN (Z 159) L lo hi u).2) := by
  refine zCT.of (by decide +kernel) (Nat.le_of_ble_eq_true rfl) ?_
  refine zi_iconst (n := 1) (nI 0) dX5_readNumber_0 rfl (by decide) ?_
  refine zi_istore3 (n := 2) dX5_readNumber_1 rfl (by decide) rfl ?_
  refine zi_iconst (n := 3) (nI 0) dX5_readNumber_2 rfl (by decide) ?_
  refine zi_istore4 (n := 5) dX5_readNumber_3 rfl (by decide) rfl ?_
  exact l_X5_readNumber h90 ha rfl 3 0 rfl rfl
theorem zrB_at {B : Nat → Int32} {L : Nat} {c : Int32} {u : zP} (h : u.2.1 ≤ L) (hc : ¬ c = -1) : (zrB B L c u).2.2.1 ≤ L := by
  unfold zrB
  by_cases hb : zby B L u.2.1 = c
  · rw [if_pos hb]
    by_cases hl : u.2.1 < L
    · exact hl
    · exact absurd (by rw [← hb, zby, if_neg hl]) hc
  · rw [if_neg hb]; exact h
theorem zcF_at {B : Nat → Int32} {L a : Nat} : ∀ k f, a + f ≤ L → a + zcF B L a k f ≤ L
  | 0, f, h => h
  | k + 1, f, h => by
    unfold zcF
    split
    · rename_i hz
      refine zcF_at k (f + 1) ?_
      by_cases hl : a + f < L
      · omega
      · rw [zby, if_neg hl] at hz
        exact absurd hz (by decide)
    · exact h
theorem zrN_at {B : Nat → Int32} {L : Nat} {lo hi : Int32} {u : zP} (h : u.2.1 ≤ L) : (zrN B L lo hi u).2.2.1 ≤ L := by
  unfold zrN
  split
  · exact h
  · split
    · exact h
    · split
      · exact zcF_at 3 0 h
      · exact h
set_option maxHeartbeats 4000000 in
set_option maxRecDepth 100000 in
theorem c_X5_readLaw (h90 : L ≤ 90) (ha : u.2.1 ≤ L) : zCT E 2 zm_X5_readLaw [.ref (zad E 158)] (zPm Q Z L u) (some (.int (zb ((zrL (Z 159) L u).1 = true)))) (zPm Q Z L (zrL (Z 159) L u).2) := by
  refine zCT.of (by decide +kernel) (Nat.le_of_ble_eq_true rfl) ?_
  have a1 := zrB_at (B := Z 159) (c := nI 99) ha (by decide)
  have a2 := zrN_at (B := Z 159) (lo := nI 0) (hi := nI 9) a1
  obtain ⟨r1, e1⟩ : ∃ r1, zrB (Z 159) L (nI 99) u = r1 := ⟨_, rfl⟩
  rw [e1] at a1 a2
  obtain ⟨r2, e2⟩ : ∃ r2, zrN (Z 159) L (nI 0) (nI 9) r1.2 = r2 := ⟨_, rfl⟩
  rw [e2] at a2
  obtain ⟨r3, e3⟩ : ∃ r3, zrB (Z 159) L (nI 44) (zsu r2.2.1 0 1 r2.2.2.2.1, r2.2.2) = r3 := ⟨_, rfl⟩
  have a3 := zrB_at (B := Z 159) (c := nI 44) (u := (zsu r2.2.1 0 1 r2.2.2.2.1, r2.2.2)) a2 (by decide)
  rw [e3] at a3
  obtain ⟨r4, e4⟩ : ∃ r4, zrN (Z 159) L (nI 0) (nI 2) r3.2 = r4 := ⟨_, rfl⟩
  have a4 := zrN_at (B := Z 159) (lo := nI 0) (hi := nI 2) a3
  rw [e4] at a4
  unfold zrL
  simp only [e1, e2, e3, e4]
  refine zi_aload0 (n := 1) dX5_readLaw_0 rfl ?_
  refine zi_bipush (n := 3) (nI 99) dX5_readLaw_1 rfl (by decide) ?_
  refine zi_V1s (mj := zm_X5_readByte) (n := 6) dX5_readLaw_3 rfl zl_X5_42 zy_X5_readByte (zrc_X5 _ _) (by decide) (Nat.le_of_ble_eq_true rfl) (c_X5_readByte h90 (by omega)) ?_
  rw [e1]
  refine zi_ifeq_b (n := 9) (tgt := 19) dX5_readLaw_6 rfl (by decide) (fun h6 => ?_) (fun h6 => ?_)
  · refine zi_iconst (n := 20) (nI 0) dX5_readLaw_19 rfl (by decide) ?_
    exact zi_zretF (b := False) dX5_readLaw_20 rfl (by simp) (by first | (simp [h6, zb]; done) | (simp [h6, h16, zb]; done)) (by first | (simp [h6]; done) | (simp [h6, h16]; done))
  · refine zi_aload0 (n := 10) dX5_readLaw_9 rfl ?_
    refine zi_iconst (n := 11) (nI 0) dX5_readLaw_10 rfl (by decide) ?_
    refine zi_bipush (n := 13) (nI 9) dX5_readLaw_11 rfl (by decide) ?_
    refine zi_V2s (mj := zm_X5_readNumber) (n := 16) dX5_readLaw_13 rfl zl_X5_46 zy_X5_readNumber (zrc_X5 _ _) (by decide) (Nat.le_of_ble_eq_true rfl) (c_X5_readNumber h90 (by omega)) ?_
    rw [e2]
    refine zi_ifne_b (n := 19) (tgt := 21) dX5_readLaw_16 rfl (by decide) (fun h16 => ?_) (fun h16 => ?_)
    · refine zi_aload0 (n := 22) dX5_readLaw_21 rfl ?_
      refine zg_X5_2 (n := 25) dX5_readLaw_22 rfl zl_X5_18 ?_
      refine zi_aload0 (n := 26) dX5_readLaw_25 rfl ?_
      refine zg_X5_4 (n := 29) dX5_readLaw_26 rfl zl_X5_50 (zPm_g4 _ _ _ _) ?_
      refine zpN_X4_1 (n := 32) dX5_readLaw_29 rfl zl_X5_53 (by omega) (zPm_ps _ _ _ _ _ _ _) ?_
      refine zi_aload0 (n := 33) dX5_readLaw_32 rfl ?_
      refine zi_bipush (n := 35) (nI 44) dX5_readLaw_33 rfl (by decide) ?_
      refine zi_V1s (mj := zm_X5_readByte) (n := 38) dX5_readLaw_35 rfl zl_X5_42 zy_X5_readByte (zrc_X5 _ _) (by decide) (Nat.le_of_ble_eq_true rfl) (c_X5_readByte (u := (zsu r2.2.1 0 1 r2.2.2.2.1, r2.2.2)) h90 (show r2.2.2.1 < 2 ^ 29 by omega)) ?_
      rw [e3]
      refine zi_ifeq_b (n := 41) (tgt := 50) dX5_readLaw_38 rfl (by decide) (fun h38 => ?_) (fun h38 => ?_)
      · refine zi_iconst (n := 51) (nI 0) dX5_readLaw_50 rfl (by decide) ?_
        exact zi_zretF (b := False) dX5_readLaw_51 rfl (by simp) (by first | (simp [h6, h16, h38, zb]; done) | (simp [h6, h16, h38, h47, zb]; done)) (by first | (simp [h6, h16, h38]; done) | (simp [h6, h16, h38, h47]; done))
      · refine zi_aload0 (n := 42) dX5_readLaw_41 rfl ?_
        refine zi_iconst (n := 43) (nI 0) dX5_readLaw_42 rfl (by decide) ?_
        refine zi_iconst (n := 44) (nI 2) dX5_readLaw_43 rfl (by decide) ?_
        refine zi_V2s (mj := zm_X5_readNumber) (n := 47) dX5_readLaw_44 rfl zl_X5_46 zy_X5_readNumber (zrc_X5 _ _) (by decide) (Nat.le_of_ble_eq_true rfl) (c_X5_readNumber h90 (by omega)) ?_
        rw [e4]
        refine zi_ifne_b (n := 50) (tgt := 52) dX5_readLaw_47 rfl (by decide) (fun h47 => ?_) (fun h47 => ?_)
        · refine zi_aload0 (n := 53) dX5_readLaw_52 rfl ?_
          refine zg_X5_2 (n := 56) dX5_readLaw_53 rfl zl_X5_18 ?_
          refine zi_aload0 (n := 57) dX5_readLaw_56 rfl ?_
          refine zg_X5_4 (n := 60) dX5_readLaw_57 rfl zl_X5_50 (zPm_g4 _ _ _ _) ?_
          refine zpN_X4_2 (n := 63) dX5_readLaw_60 rfl zl_X5_56 (by omega) (zPm_ps _ _ _ _ _ _ _) ?_
          refine zi_aload0 (n := 64) dX5_readLaw_63 rfl ?_
          refine zi_bipush (n := 66) (nI 59) dX5_readLaw_64 rfl (by decide) ?_
          refine zi_V1s (mj := zm_X5_readByte) (n := 69) dX5_readLaw_66 rfl zl_X5_42 zy_X5_readByte (zrc_X5 _ _) (by decide) (Nat.le_of_ble_eq_true rfl) (c_X5_readByte (u := (zsu r4.2.1 0 2 r4.2.2.2.1, r4.2.2)) h90 (show r4.2.2.1 < 2 ^ 29 by omega)) ?_
          exact zi_zret dX5_readLaw_69 rfl rfl (by simp [h6, h16, h38, h47]) (by simp [h6, h16, h38, h47])
        · refine zi_iconst (n := 51) (nI 0) dX5_readLaw_50 rfl (by decide) ?_
          exact zi_zretF (b := False) dX5_readLaw_51 rfl (by simp) (by first | (simp [h6, h16, h38, zb]; done) | (simp [h6, h16, h38, h47, zb]; done)) (by first | (simp [h6, h16, h38]; done) | (simp [h6, h16, h38, h47]; done))
    · refine zi_iconst (n := 20) (nI 0) dX5_readLaw_19 rfl (by decide) ?_
      exact zi_zretF (b := False) dX5_readLaw_20 rfl (by simp) (by first | (simp [h6, zb]; done) | (simp [h6, h16, zb]; done)) (by first | (simp [h6]; done) | (simp [h6, h16]; done))
end ZT5
