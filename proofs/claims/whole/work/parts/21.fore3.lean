section ZF4
variable {E : zE} {Q : Nat → Nat → Nat → Int32} {Z : zS} {S : zS} {n : Nat} {M : zMem}
/-- what is over behind the first k papers' shares; how many of them ahead of p have letters -/
def zov (F : zS) (all m : Int32) : Nat → Int32
  | 0 => m
  | k + 1 => zov F all m k - m * F 4 k / all
def zahd (F : zS) (p : Nat) : Nat → Int32
  | 0 => nI 0
  | k + 1 => if k < p ∧ ¬ F 4 k ≤ 0 then zahd F p k + Int32.ofInt 1 else zahd F p k
def zink (F : zS) (n p : Nat) (m : Int32) : Int32 :=
  if zsum (F 4) n = 0 then nI 0 else if F 4 p = 0 then nI 0 else m * F 4 p / zsum (F 4) n + (if zov F (zsum (F 4) n) m n ≤ zahd F p n then nI 0 else nI 1)
set_option maxHeartbeats 4000000 in
set_option maxRecDepth 100000 in
theorem l_X2_inkOf (hn : Q 1 0 0 = nI n) (h6 : n ≤ 6) {p : Nat} (hp : p < 6) {m : Int32} (h0 : ¬ zsum (Q 1 4) n = 0) (h1 : ¬ Q 1 4 p = 0) : ∀ k i, n - i < k → i ≤ n → zG E zm_X2_inkOf 1 (some (.int (zink (Q 1) n p m))) (va_up Q 4 S, Z) 35 [some (.ref (zad E 162)), some (.int (nI p)), some (.int m), some (.int (zsum (Q 1 4) n)), some (.int (zov (Q 1) (zsum (Q 1 4) n) m i)), some (.int (zahd (Q 1) p i)), some (.int (nI i))] [] (va_up Q 4 S, Z) := by
  intro k
  induction k with
  | zero => intro i h; omega
  | succ k ih =>
    intro i h2 h3
    refine zi_iload6 (n := 37) dX2_inkOf_35 rfl ?_
    refine zi_aload0 (n := 38) dX2_inkOf_37 rfl ?_
    refine zg_X2_0 (n := 41) dX2_inkOf_38 rfl zl_X2_18 ?_
    refine zgN_X4_0 (n := 44) dX2_inkOf_41 rfl zl_X2_68 (by omega) ((zfo _ (by decide) _ _ _ _).trans hn) ?_
    refine zi_icge (n := 47) (tgt := 94) dX2_inkOf_44 rfl (by decide) (fun h44 => ?_) (fun h44 => ?_)
    · have e : i = n := by have := (nI_leI (by omega) (by omega)).mp h44; omega
      subst e
      refine zi_iload2 (n := 95) dX2_inkOf_94 rfl ?_
      refine zi_aload0 (n := 96) dX2_inkOf_95 rfl ?_
      refine zg_X2_0 (n := 99) dX2_inkOf_96 rfl zl_X2_18 ?_
      refine zgN_X4_12 (n := 102) dX2_inkOf_99 rfl zl_X2_49 (by omega) ?_
      refine zi_iload1 (n := 103) dX2_inkOf_102 rfl ?_
      refine zi_qald (n := 104) dX2_inkOf_103 rfl (by omega) (by decide) rfl (by omega) (zfo _ (by decide) _ _ _ _) ?_
      refine zi_imul (n := 105) dX2_inkOf_104 rfl ?_
      refine zi_iload3 (n := 106) dX2_inkOf_105 rfl ?_
      refine zi_idiv (n := 107) dX2_inkOf_106 rfl h0 ?_
      refine zi_iload5 (n := 109) dX2_inkOf_107 rfl ?_
      refine zi_iload4 (n := 111) dX2_inkOf_109 rfl ?_
      refine zi_icge (n := 114) (tgt := 118) dX2_inkOf_111 rfl (by decide) (fun h111 => ?_) (fun h111 => ?_)
      · refine zi_iconst (n := 119) (nI 0) dX2_inkOf_118 rfl (by decide) ?_
        refine zi_iadd (n := 120) dX2_inkOf_119 rfl ?_
        exact zi_iret dX2_inkOf_120 rfl (by simp [zink, h0, h1, h44, h111]) (by rfl)
      · refine zi_iconst (n := 115) (nI 1) dX2_inkOf_114 rfl (by decide) ?_
        refine zi_goto (tgt := 119) dX2_inkOf_115 (by decide) ?_
        refine zi_iadd (n := 120) dX2_inkOf_119 rfl ?_
        exact zi_iret dX2_inkOf_120 rfl (by simp [zink, h0, h1, h44, h111]) (by rfl)
    · have e : i < n := by have := mt (nI_leI (by omega) (by omega)).mpr h44; omega
      refine zi_iload4 (n := 49) dX2_inkOf_47 rfl ?_
      refine zi_iload2 (n := 50) dX2_inkOf_49 rfl ?_
      refine zi_aload0 (n := 51) dX2_inkOf_50 rfl ?_
      refine zg_X2_0 (n := 54) dX2_inkOf_51 rfl zl_X2_18 ?_
      refine zgN_X4_12 (n := 57) dX2_inkOf_54 rfl zl_X2_49 (by omega) ?_
      refine zi_iload6 (n := 59) dX2_inkOf_57 rfl ?_
      refine zi_qald (n := 60) dX2_inkOf_59 rfl (by omega) (by decide) rfl (by omega) (zfo _ (by decide) _ _ _ _) ?_
      refine zi_imul (n := 61) dX2_inkOf_60 rfl ?_
      refine zi_iload3 (n := 62) dX2_inkOf_61 rfl ?_
      refine zi_idiv (n := 63) dX2_inkOf_62 rfl h0 ?_
      refine zi_isub (n := 64) dX2_inkOf_63 rfl ?_
      refine zi_istore4 (n := 66) dX2_inkOf_64 rfl (by decide) rfl ?_
      refine zi_iload6 (n := 68) dX2_inkOf_66 rfl ?_
      refine zi_iload1 (n := 69) dX2_inkOf_68 rfl ?_
      refine zi_icge (n := 72) (tgt := 88) dX2_inkOf_69 rfl (by decide) (fun h69 => ?_) (fun h69 => ?_)
      · have e69 : ¬ i < p := by have := (nI_leI (by omega) (by omega)).mp h69; omega
        refine zi_iinc6 (n := 91) (nI (i + 1)) dX2_inkOf_88 rfl (by decide) rfl (zi1 _) ?_
        refine zi_goto (tgt := 35) dX2_inkOf_91 (by decide) ?_
        have f := ih (i + 1) (by omega) (by omega)
        first | (simp only [zov, zahd, e69, h82, false_and, true_and, and_true, and_false, not_true_eq_false, not_false_eq_true, if_true, if_false] at f; exact f) | (simp only [zov, zahd, e69, false_and, if_false] at f; exact f)
      · have e69 : i < p := by have := mt (nI_leI (by omega) (by omega)).mpr h69; omega
        refine zi_aload0 (n := 73) dX2_inkOf_72 rfl ?_
        refine zg_X2_0 (n := 76) dX2_inkOf_73 rfl zl_X2_18 ?_
        refine zgN_X4_12 (n := 79) dX2_inkOf_76 rfl zl_X2_49 (by omega) ?_
        refine zi_iload6 (n := 81) dX2_inkOf_79 rfl ?_
        refine zi_qald (n := 82) dX2_inkOf_81 rfl (by omega) (by decide) rfl (by omega) (zfo _ (by decide) _ _ _ _) ?_
        refine zi_ifle (n := 85) (tgt := 88) dX2_inkOf_82 rfl (by decide) (fun h82 => ?_) (fun h82 => ?_)
        · refine zi_iinc6 (n := 91) (nI (i + 1)) dX2_inkOf_88 rfl (by decide) rfl (zi1 _) ?_
          refine zi_goto (tgt := 35) dX2_inkOf_91 (by decide) ?_
          have f := ih (i + 1) (by omega) (by omega)
          first | (simp only [zov, zahd, e69, h82, false_and, true_and, and_true, and_false, not_true_eq_false, not_false_eq_true, if_true, if_false] at f; exact f) | (simp only [zov, zahd, e69, false_and, if_false] at f; exact f)
        · refine zi_iinc5 (n := 88) _ dX2_inkOf_85 rfl (by decide) rfl rfl ?_
          refine zi_iinc6 (n := 91) (nI (i + 1)) dX2_inkOf_88 rfl (by decide) rfl (zi1 _) ?_
          refine zi_goto (tgt := 35) dX2_inkOf_91 (by decide) ?_
          have f := ih (i + 1) (by omega) (by omega)
          first | (simp only [zov, zahd, e69, h82, false_and, true_and, and_true, and_false, not_true_eq_false, not_false_eq_true, if_true, if_false] at f; exact f) | (simp only [zov, zahd, e69, false_and, if_false] at f; exact f)
set_option maxHeartbeats 4000000 in
set_option maxRecDepth 100000 in
theorem c_X2_inkOf (hn : Q 1 0 0 = nI n) (h6 : n ≤ 6) {p : Nat} (hp : p < 6) {m : Int32} : zCT E 1 zm_X2_inkOf [.ref (zad E 162), .int (nI p), .int m] (va_up Q 4 S, Z) (some (.int (zink (Q 1) n p m))) (va_up Q 4 S, Z) := by
  refine zCT.of (by decide +kernel) (Nat.le_of_ble_eq_true rfl) ?_
  refine zi_aload0 (n := 1) dX2_inkOf_0 rfl ?_
  refine zg_X2_0 (n := 4) dX2_inkOf_1 rfl zl_X2_18 ?_
  refine zi_V0s (mj := zm_X4_allLetters) (n := 7) dX2_inkOf_4 rfl zl_X2_81 zy_X4_allLetters (zrc_sq _ _ (by omega)) (by decide) (Nat.le_of_ble_eq_true rfl) (cn_allLetters hn h6) ?_
  refine zi_istore3 (n := 8) dX2_inkOf_7 rfl (by decide) rfl ?_
  refine zi_iload3 (n := 9) dX2_inkOf_8 rfl ?_
  refine zi_ifeq (n := 12) (tgt := 24) dX2_inkOf_9 rfl (by decide) (fun h9 => ?_) (fun h9 => ?_)
  · refine zi_iconst (n := 25) (nI 0) dX2_inkOf_24 rfl (by decide) ?_
    exact zi_iret dX2_inkOf_25 rfl (by simp [zink, h9]) (by rfl)
  · refine zi_aload0 (n := 13) dX2_inkOf_12 rfl ?_
    refine zg_X2_0 (n := 16) dX2_inkOf_13 rfl zl_X2_18 ?_
    refine zgN_X4_12 (n := 19) dX2_inkOf_16 rfl zl_X2_49 (by omega) ?_
    refine zi_iload1 (n := 20) dX2_inkOf_19 rfl ?_
    refine zi_qald (n := 21) dX2_inkOf_20 rfl (by omega) (by decide) rfl (by omega) (zfo _ (by decide) _ _ _ _) ?_
    refine zi_ifne (n := 24) (tgt := 26) dX2_inkOf_21 rfl (by decide) (fun h21 => ?_) (fun h21 => ?_)
    · refine zi_iload2 (n := 27) dX2_inkOf_26 rfl ?_
      refine zi_istore4 (n := 29) dX2_inkOf_27 rfl (by decide) rfl ?_
      refine zi_iconst (n := 30) (nI 0) dX2_inkOf_29 rfl (by decide) ?_
      refine zi_istore5 (n := 32) dX2_inkOf_30 rfl (by decide) rfl ?_
      refine zi_iconst (n := 33) (nI 0) dX2_inkOf_32 rfl (by decide) ?_
      refine zi_istore6 (n := 35) dX2_inkOf_33 rfl (by decide) rfl ?_
      exact l_X2_inkOf hn h6 hp h9 h21 (n + 1) 0 (by omega) (by omega)
    · refine zi_iconst (n := 25) (nI 0) dX2_inkOf_24 rfl (by decide) ?_
      exact zi_iret dX2_inkOf_25 rfl (by simp [zink, h9, h21]) (by rfl)
def zpw (x : Int32) : Nat → Int64
  | 0 => (nI 1).toInt64
  | k + 1 => zpw x k * x.toInt64
set_option maxHeartbeats 4000000 in
set_option maxRecDepth 100000 in
theorem l_X2_power {x : Int32} {k : Nat} (hk : k ≤ 6) : ∀ f i, k - i < f → i ≤ k → zG E zm_X2_power 0 (some (.long (zpw x k))) M 5 [some (.int x), some (.int (nI k)), some (.long (zpw x i)), none, some (.int (nI i))] [] M := by
  intro f
  induction f with
  | zero => intro i h; omega
  | succ f ih =>
    intro i h1 h2
    refine zi_iload4 (n := 7) dX2_power_5 rfl ?_
    refine zi_iload1 (n := 8) dX2_power_7 rfl ?_
    refine zi_icge (n := 11) (tgt := 29) dX2_power_8 rfl (by decide) (fun h8 => ?_) (fun h8 => ?_)
    · have e : i = k := by have := (nI_leI (by omega) (by omega)).mp h8; omega
      subst e
      refine zi_lload2 (n := 30) dX2_power_29 rfl ?_
      exact zi_lret dX2_power_30 rfl (by rfl) (by rfl)
    · have e : i < k := by have := mt (nI_leI (by omega) (by omega)).mpr h8; omega
      refine zi_iload4 (n := 13) dX2_power_11 rfl ?_
      refine zi_bipush (n := 15) (nI 6) dX2_power_13 rfl (by decide) ?_
      refine zi_icge (n := 18) (tgt := 29) dX2_power_15 rfl (by decide) (fun h15 => ?_) (fun h15 => ?_)
      · exact absurd ((nI_leI (a := 6) (by omega) (by omega)).mp h15) (by omega)
      · refine zi_lload2 (n := 19) dX2_power_18 rfl ?_
        refine zi_iload0 (n := 20) dX2_power_19 rfl ?_
        refine zi_i2l (n := 21) dX2_power_20 rfl ?_
        refine zi_lmul (n := 22) dX2_power_21 rfl ?_
        refine zi_lstore2 (n := 23) dX2_power_22 rfl (by decide) rfl ?_
        refine zi_iinc4 (n := 26) (nI (i + 1)) dX2_power_23 rfl (by decide) rfl (zi1 _) ?_
        refine zi_goto (tgt := 5) dX2_power_26 (by decide) ?_
        exact ih (i + 1) (by omega) (by omega)
set_option maxHeartbeats 4000000 in
set_option maxRecDepth 100000 in
theorem c_X2_power {x : Int32} {k : Nat} (hk : k ≤ 6) : zCT E 0 zm_X2_power [.int x, .int (nI k)] M (some (.long (zpw x k))) M := by
  refine zCT.of (by decide +kernel) (Nat.le_of_ble_eq_true rfl) ?_
  refine zi_lconst (n := 1) ((nI 1).toInt64) dX2_power_0 rfl (by decide) ?_
  refine zi_lstore2 (n := 2) dX2_power_1 rfl (by decide) rfl ?_
  refine zi_iconst (n := 3) (nI 0) dX2_power_2 rfl (by decide) ?_
  refine zi_istore4 (n := 5) dX2_power_3 rfl (by decide) rfl ?_
  exact l_X2_power hk (k + 1) 0 (by omega) (by omega)
def zkn2 (S F : zS) (n : Nat) (r : Int32) (m : Nat) : zS := noonsC (zsu (takeC S F) 0 6 (F 0 6 ||| r)) n m
theorem zkn2_n {S F : zS} {n : Nat} {r : Int32} (hn : F 0 0 = nI n) : zsu (takeC S F) 0 6 (F 0 6 ||| r) 0 0 = nI n := by simp [zsu_at, takeC_0, hn]
set_option maxHeartbeats 4000000 in
set_option maxRecDepth 100000 in
theorem c_X2_keepsName (hn : Q 1 0 0 = nI n) (h6 : n ≤ 6) {p m : Nat} (hp : p < 6) {x : Int32} (hm : m < 2 ^ 30) : zCT E 5 zm_X2_keepsName [.ref (zad E 162), .int (nI p), .int (nI m), .int x] (va_up Q 4 S, Z) (some (.int (zb (¬ zkn2 S (Q 1) n x m 4 p ≤ 0)))) (va_up Q 4 (zkn2 S (Q 1) n x m), Z) := by
  refine zCT.of (by decide +kernel) (Nat.le_of_ble_eq_true rfl) ?_
  refine zi_aload0 (n := 1) dX2_keepsName_0 rfl ?_
  refine zg_X2_1 (n := 4) dX2_keepsName_1 rfl zl_X2_12 ?_
  refine zi_aload0 (n := 5) dX2_keepsName_4 rfl ?_
  refine zg_X2_0 (n := 8) dX2_keepsName_5 rfl zl_X2_18 ?_
  refine zi_V1v (mj := zm_X4_take) (n := 11) dX2_keepsName_8 rfl zl_X2_21 zy_X4_take (zrc_sq _ _ (by omega)) (by decide) (Nat.le_of_ble_eq_true rfl) (c_X4_take (by decide) (by decide) (by decide)) ?_
  refine zi_aload0 (n := 12) dX2_keepsName_11 rfl ?_
  refine zg_X2_1 (n := 15) dX2_keepsName_12 rfl zl_X2_12 ?_
  refine zi_dup (n := 16) dX2_keepsName_15 rfl rfl ?_
  refine zgN_X4_6 (n := 19) dX2_keepsName_16 rfl zl_X2_65 (by omega) ((zfs _ _ _ _ _ _).trans (takeC_0 (by decide))) ?_
  refine zi_iload3 (n := 20) dX2_keepsName_19 rfl ?_
  refine zi_ior (n := 21) dX2_keepsName_20 rfl ?_
  refine zpN_X4_6 (n := 24) dX2_keepsName_21 rfl zl_X2_65 (by omega) (zfp _ _ _ _ _ _ _) ?_
  refine zi_aload0 (n := 25) dX2_keepsName_24 rfl ?_
  refine zg_X2_1 (n := 28) dX2_keepsName_25 rfl zl_X2_12 ?_
  refine zi_iload2 (n := 29) dX2_keepsName_28 rfl ?_
  refine zi_V1v (mj := zm_X4_passNoons) (n := 32) dX2_keepsName_29 rfl zl_X2_25 zy_X4_passNoons (zrc_sq _ _ (by omega)) (by decide) (Nat.le_of_ble_eq_true rfl) (c_X4_passNoons (by decide) (zkn2_n hn) h6 hm) ?_
  refine zi_aload0 (n := 33) dX2_keepsName_32 rfl ?_
  refine zg_X2_1 (n := 36) dX2_keepsName_33 rfl zl_X2_12 ?_
  refine zgN_X4_12 (n := 39) dX2_keepsName_36 rfl zl_X2_49 (by omega) ?_
  refine zi_iload1 (n := 40) dX2_keepsName_39 rfl ?_
  refine zi_qald (n := 41) dX2_keepsName_40 rfl (by omega) (by decide) rfl (by omega) (zfs _ _ _ _ _ _) ?_
  refine zi_ifle (n := 44) (tgt := 48) dX2_keepsName_41 rfl (by decide) (fun h41 => ?_) (fun h41 => ?_)
  · refine zi_iconst (n := 49) (nI 0) dX2_keepsName_48 rfl (by decide) ?_
    exact zi_zretF dX2_keepsName_49 rfl (by simpa [zkn2] using h41) rfl (by rfl)
  · refine zi_iconst (n := 45) (nI 1) dX2_keepsName_44 rfl (by decide) ?_
    refine zi_goto (tgt := 49) dX2_keepsName_45 (by decide) ?_
    exact zi_zretT dX2_keepsName_49 rfl (by simpa [zkn2] using h41) rfl (by rfl)
end ZF4
