section ZMc
variable {E : zE} {Q : Nat → Nat → Nat → Int32} {Z : zS} {M M1 : zMem} {n p d L : Nat} {f F B : zF} {y : zY} {rv : Option Value}
def zRL (B : zF) (L : Nat) : Nat → Nat → zF → zY → zF × zY
  | 0, _, F, y => (F, y)
  | k + 1, n, F, y => if (y.2.2.2.2.1 = 0 ∧ y.2.2.1 = nI 2 ∧ ¬ zkb y.2.2.2.1 = -1000000) then zRL B L k (n + 1) (zRp B L n F y).1 (zRp B L n F y).2 else (F, y)
def zqA (B : zF) (L : Nat) (y : zY) : Int32 × zY := zNu B L (nI 0) (nI 9) (zMu B L (decide (y.2.2.2.2.1 = 0 ∧ y.2.2.1 = nI 2 ∧ y.2.2.2.1 = nI 99)) y)
def zqB (B : zF) (L : Nat) (y : zY) : Int32 × zY := zNu B L (nI 0) (nI 2) (zSg B L (nI 44) (zqA B L y).2)
def zqE (B : zF) (L : Nat) (y : zY) : zY := zSg B L (nI 59) (zqB B L y).2
def zqG (B : zF) (L : Nat) (y : zY) : zY := if ((zqE B L y).2.2.2.2.1 = 0 ∧ (zqE B L y).2.2.1 = nI 2 ∧ ¬ zkb (zqE B L y).2.2.2.1 = -1000000) then zqE B L y else zBd (nI 1) (zqE B L y)
def zqF (B : zF) (L : Nat) (F : zF) (y : zY) : zF := upd (upd F 1 (zqA B L y).1) 2 (zqB B L y).1
def zqR (B : zF) (L : Nat) (F : zF) (y : zY) : zF × zY := zRL B L 7 0 (zqF B L F y) (zqG B L y)
theorem zqA_le (h : y.1 ≤ L) : (zqA B L y).2.1 ≤ L := zNu_le (zMu_le h)
theorem zqB_le (h : y.1 ≤ L) : (zqB B L y).2.1 ≤ L := zNu_le (zSg_le (zqA_le h))
theorem zqE_le (h : y.1 ≤ L) : (zqE B L y).1 ≤ L := zSg_le (zqB_le h)
theorem zqG_le (h : y.1 ≤ L) : (zqG B L y).1 ≤ L := by
  unfold zqG
  split
  · exact zqE_le h
  · rw [zBd_1]; exact zqE_le h
theorem zRp_ok (hn : F 0 = nI n) (h6 : n ≤ 6) (h0 : y.2.2.2.2.1 = 0) (h : (zRp B L n F y).2.2.2.2.2.1 = 0) : (zRp B L n F y).1 0 = nI (n + 1) ∧ n + 1 ≤ 6 := by
  by_cases h1 : (zrE B L n y).2.2.2.2.1 = 0
  · have e : zRp B L n F y = (zrF B L n F y, zrE B L n y) := by unfold zRp; rw [if_pos h1]
    have h7 : ¬ n = 6 := fun q => zrE_6 q h0 h1
    rw [e]
    refine ⟨?_, by omega⟩
    show zrF B L n F y 0 = _
    unfold zrF
    unfold upd
    rw [if_pos rfl]
  · have e : zRp B L n F y = (F, zrE B L n y) := by unfold zRp; rw [if_neg h1]
    rw [e] at h
    dsimp only at h
    exact absurd h h1
theorem zRp_le (h : y.1 ≤ L) : (zRp B L n F y).2.1 ≤ L := by
  have h2 := zrE_le (B := B) (n := n) h
  by_cases h1 : (zrE B L n y).2.2.2.2.1 = 0
  · have e : zRp B L n F y = (zrF B L n F y, zrE B L n y) := by unfold zRp; rw [if_pos h1]
    rw [e]
    dsimp only
    exact h2
  · have e : zRp B L n F y = (F, zrE B L n y) := by unfold zRp; rw [if_neg h1]
    rw [e]
    dsimp only
    exact h2
set_option maxHeartbeats 400000 in
set_option maxRecDepth 100000 in
theorem l_X7_square (hL : Z 165 11 = nI L) (hB : Z 173 = B) (h90 : L ≤ 90) {x1 : Option Value} {r : zF × zY} (fin : zG E zm_X7_square 5 rv M1 103 [some (.ref (zad E 165)), x1] [] (zYm Q (va_up Z 170 r.1) r.2)) : ∀ k n (F : zF) (y : zY), 7 ≤ n + k → y.1 ≤ L → (y.2.2.2.2.1 = 0 → F 0 = nI n ∧ n ≤ 6) → zRL B L k n F y = r → zG E zm_X7_square 5 rv M1 89 [some (.ref (zad E 165)), x1] [] (zYm Q (va_up Z 170 F) y) := by
  intro k
  induction k with
  | zero =>
    intro n F y h1 h2 h3 hr
    subst hr
    refine zi_aload0 (n := 90) dX7_square_89 rfl ?_
    refine zi_V0s (mj := zm_X7_isSort) (n := 93) dX7_square_90 rfl zl_X7_132 zy_X7_isSort (zrc_X7 _ _) (by decide) (Nat.le_of_ble_eq_true rfl) (c_X7_isSort) ?_
    refine zi_ifeq_b (n := 96) (tgt := 103) dX7_square_93 rfl (by decide) (fun h93 => ?_) (fun h93 => ?_)
    · exact fin
    · exact absurd (h3 h93.1).2 (by omega)
  | succ k ih =>
    intro n F y h1 h2 h3 hr
    refine zi_aload0 (n := 90) dX7_square_89 rfl ?_
    refine zi_V0s (mj := zm_X7_isSort) (n := 93) dX7_square_90 rfl zl_X7_132 zy_X7_isSort (zrc_X7 _ _) (by decide) (Nat.le_of_ble_eq_true rfl) (c_X7_isSort) ?_
    refine zi_ifeq_b (n := 96) (tgt := 103) dX7_square_93 rfl (by decide) (fun h93 => ?_) (fun h93 => ?_)
    · rw [zRL, if_neg h93] at hr
      subst hr
      exact fin
    · rw [zRL, if_pos h93] at hr
      obtain ⟨hn, h6⟩ := h3 h93.1
      refine zi_aload0 (n := 97) dX7_square_96 rfl ?_
      refine zi_V0v (mj := zm_X7_readPaper) (n := 100) dX7_square_97 rfl zl_X7_136 zy_X7_readPaper (zrc_X7 _ _) (by decide) (Nat.le_of_ble_eq_true rfl) (c_X7_readPaper hL hB h90 h2 hn h6 h93.1) ?_
      refine zi_goto (tgt := 89) dX7_square_100 (by decide) ?_
      exact ih (n + 1) _ _ (by omega) (zRp_le h2) (fun q => zRp_ok hn h6 h93.1 q) hr
set_option maxHeartbeats 400000 in
set_option maxRecDepth 100000 in
theorem t_X7_square (hL : Z 165 11 = nI L) (hB : Z 173 = B) (h90 : L ≤ 90) (hy : y.1 ≤ L) (hF : F 0 = nI 0) {x1 : Option Value} (fin : zG E zm_X7_square 5 rv M1 103 [some (.ref (zad E 165)), x1] [] (zYm Q (va_up Z 170 (zqR B L F y).1) (zqR B L F y).2)) : zG E zm_X7_square 5 rv M1 30 [some (.ref (zad E 165)), x1] [] (zYm Q (va_up Z 170 F) y) := by
  have hF2 : zqF B L F y 0 = nI 0 := by
    unfold zqF
    exact (zu_ne (by decide)).trans ((zu_ne (by decide)).trans hF)
  have hl := l_X7_square (E := E) hL hB h90 fin 7 0 (zqF B L F y) (zqG B L y) (by omega) (zqG_le hy) (fun _ => ⟨hF2, by omega⟩) rfl
  refine zi_aload0 (n := 31) dX7_square_30 rfl ?_
  refine zi_aload0 (n := 32) dX7_square_31 rfl ?_
  refine zi_bipush (n := 34) (nI 99) dX7_square_32 rfl (by decide) ?_
  refine zi_V1s (mj := zm_X7_isLetter) (n := 37) dX7_square_34 rfl zl_X7_129 zy_X7_isLetter (zrc_X7 _ _) (by decide) (Nat.le_of_ble_eq_true rfl) (c_X7_isLetter) ?_
  refine zi_V1v (mj := zm_X7_must) (n := 40) dX7_square_37 rfl zl_X7_109 zy_X7_must (zrc_X7 _ _) (by decide) (Nat.le_of_ble_eq_true rfl) (c_X7_must (Z := va_up Z 170 F) hL hB h90 hy) ?_
  refine zi_aload0 (n := 41) dX7_square_40 rfl ?_
  refine zg_X7_6 (n := 44) dX7_square_41 rfl zl_X7_22 ?_
  refine zi_iconst (n := 45) (nI 1) dX7_square_44 rfl (by decide) ?_
  refine zi_aload0 (n := 46) dX7_square_45 rfl ?_
  refine zi_iconst (n := 47) (nI 0) dX7_square_46 rfl (by decide) ?_
  refine zi_bipush (n := 49) (nI 9) dX7_square_47 rfl (by decide) ?_
  refine zi_V2s (mj := zm_X7_number) (n := 52) dX7_square_49 rfl zl_X7_119 zy_X7_number (zrc_X7 _ _) (by decide) (Nat.le_of_ble_eq_true rfl) (c_X7_number (Z := va_up Z 170 F) hL hB h90 (zMu_le hy)) ?_
  change zG _ _ _ _ _ _ _ (.int (zqA B L y).1 :: _) (zYm Q (va_up Z 170 F) (zqA B L y).2)
  refine zi_oast (N := 36) (i := 1) (n := 53) dX7_square_52 rfl (by decide) (fun _ => rfl) (by decide) rfl (by decide) zYm_pf ?_
  refine zi_aload0 (n := 54) dX7_square_53 rfl ?_
  refine zi_bipush (n := 56) (nI 44) dX7_square_54 rfl (by decide) ?_
  refine zi_V1v (mj := zm_X7_mustSign) (n := 59) dX7_square_56 rfl zl_X7_123 zy_X7_mustSign (zrc_X7 _ _) (by decide) (Nat.le_of_ble_eq_true rfl) (c_X7_mustSign (Z := va_up Z 170 (upd F 1 (zqA B L y).1)) hL hB h90 (zqA_le hy)) ?_
  refine zi_aload0 (n := 60) dX7_square_59 rfl ?_
  refine zg_X7_6 (n := 63) dX7_square_60 rfl zl_X7_22 ?_
  refine zi_iconst (n := 64) (nI 2) dX7_square_63 rfl (by decide) ?_
  refine zi_aload0 (n := 65) dX7_square_64 rfl ?_
  refine zi_iconst (n := 66) (nI 0) dX7_square_65 rfl (by decide) ?_
  refine zi_iconst (n := 67) (nI 2) dX7_square_66 rfl (by decide) ?_
  refine zi_V2s (mj := zm_X7_number) (n := 70) dX7_square_67 rfl zl_X7_119 zy_X7_number (zrc_X7 _ _) (by decide) (Nat.le_of_ble_eq_true rfl) (c_X7_number (Z := va_up Z 170 (upd F 1 (zqA B L y).1)) hL hB h90 (zSg_le (zqA_le hy))) ?_
  change zG _ _ _ _ _ _ _ (.int (zqB B L y).1 :: _) (zYm Q (va_up Z 170 (upd F 1 (zqA B L y).1)) (zqB B L y).2)
  refine zi_oast (N := 36) (i := 2) (n := 71) dX7_square_70 rfl (by decide) (fun _ => rfl) (by decide) rfl (by decide) zYm_pf ?_
  refine zi_aload0 (n := 72) dX7_square_71 rfl ?_
  refine zi_bipush (n := 74) (nI 59) dX7_square_72 rfl (by decide) ?_
  refine zi_V1v (mj := zm_X7_mustSign) (n := 77) dX7_square_74 rfl zl_X7_123 zy_X7_mustSign (zrc_X7 _ _) (by decide) (Nat.le_of_ble_eq_true rfl) (c_X7_mustSign (Z := va_up Z 170 (zqF B L F y)) hL hB h90 (zqB_le hy)) ?_
  change zG _ _ _ _ _ _ _ _ (zYm Q (va_up Z 170 (zqF B L F y)) (zqE B L y))
  refine zi_aload0 (n := 78) dX7_square_77 rfl ?_
  refine zi_V0s (mj := zm_X7_isSort) (n := 81) dX7_square_78 rfl zl_X7_132 zy_X7_isSort (zrc_X7 _ _) (by decide) (Nat.le_of_ble_eq_true rfl) (c_X7_isSort) ?_
  refine zi_ifne_b (n := 84) (tgt := 89) dX7_square_81 rfl (by decide) (fun h81 => ?_) (fun h81 => ?_)
  · have eg : zqG B L y = zqE B L y := by unfold zqG; rw [if_pos h81]
    rw [eg] at hl
    exact hl
  · have eg : zqG B L y = zBd (nI 1) (zqE B L y) := by unfold zqG; rw [if_neg h81]
    refine zi_aload0 (n := 85) dX7_square_84 rfl ?_
    refine zi_iconst (n := 86) (nI 1) dX7_square_85 rfl (by decide) ?_
    refine zi_V1v (mj := zm_X7_bad) (n := 89) dX7_square_86 rfl zl_X7_102 zy_X7_bad (zrc_X7 _ _) (by decide) (Nat.le_of_ble_eq_true rfl) (c_X7_bad) ?_
    rw [eg] at hl
    exact hl
set_option maxHeartbeats 400000 in
set_option maxRecDepth 100000 in
theorem l0_X7_square {g : zF} (fin : zG E zm_X7_square 5 rv M1 30 [some (.ref (zad E 165)), some (.int (nI 36))] [] (zYm Q (va_up Z 170 (zl36 (fun _ => nI 0) g 36)) y)) : ∀ k i, 36 - i < k → i ≤ 36 → zG E zm_X7_square 5 rv M1 11 [some (.ref (zad E 165)), some (.int (nI i))] [] (zYm Q (va_up Z 170 (zl36 (fun _ => nI 0) g i)) y) := by
  intro k
  induction k with
  | zero => intro i h; omega
  | succ k ih =>
    intro i h1 h2
    refine zi_iload1 (n := 12) dX7_square_11 rfl ?_
    refine zi_bipush (n := 14) (nI 36) dX7_square_12 rfl (by decide) ?_
    refine zi_icge (n := 17) (tgt := 30) dX7_square_14 rfl (by decide) (fun h14 => ?_) (fun h14 => ?_)
    · have e : i = 36 := by have := (nI_leI (by omega) (by omega)).mp h14; omega
      subst e
      exact fin
    · have e : i < 36 := by have := mt (nI_leI (by omega) (by omega)).mpr h14; omega
      refine zi_aload0 (n := 18) dX7_square_17 rfl ?_
      refine zg_X7_6 (n := 21) dX7_square_18 rfl zl_X7_22 ?_
      refine zi_iload1 (n := 22) dX7_square_21 rfl ?_
      refine zi_iconst (n := 23) (nI 0) dX7_square_22 rfl (by decide) ?_
      refine zi_oast (N := 36) (i := i) (n := 24) dX7_square_23 rfl (by decide) (fun _ => rfl) (by decide) rfl e (zYm_pf.trans (by rw [show upd (zl36 (fun _ => nI 0) g i) i (nI 0) = zl36 (fun _ => nI 0) g (i + 1) from zl36_step (fun _ => nI 0) g i])) ?_
      refine zi_iinc1 (n := 27) (nI (i + 1)) dX7_square_24 rfl (by decide) rfl (zi1 _) ?_
      refine zi_goto (tgt := 11) dX7_square_27 (by decide) ?_
      exact ih (i + 1) (by omega) (by omega)
set_option maxHeartbeats 400000 in
set_option maxRecDepth 100000 in
theorem l9_X7_square {V : zS} {g : zF} : ∀ k i, 36 - i < k → i ≤ 36 → zG E zm_X7_square 5 (some (.int (V 170 0))) (Q, va_up V 169 (zl36 (V 170) g 36)) 125 [some (.ref (zad E 165)), some (.int (nI i))] [] (Q, va_up V 169 (zl36 (V 170) g i)) := by
  intro k
  induction k with
  | zero => intro i h; omega
  | succ k ih =>
    intro i h1 h2
    refine zi_iload1 (n := 126) dX7_square_125 rfl ?_
    refine zi_bipush (n := 128) (nI 36) dX7_square_126 rfl (by decide) ?_
    refine zi_icge (n := 131) (tgt := 149) dX7_square_128 rfl (by decide) (fun h128 => ?_) (fun h128 => ?_)
    · have e : i = 36 := by have := (nI_leI (by omega) (by omega)).mp h128; omega
      subst e
      refine zi_aload0 (n := 150) dX7_square_149 rfl ?_
      refine zg_X7_5 (n := 153) dX7_square_150 rfl zl_X7_19 ?_
      refine zi_iconst (n := 154) (nI 0) dX7_square_153 rfl (by decide) ?_
      refine zi_oald (N := 36) (i := 0) (n := 155) dX7_square_154 rfl (by decide) (fun _ => rfl) (by decide) rfl (by decide) ((zfz _ _ _ _ _).trans (show zl36 (V 170) g 36 0 = V 170 0 from if_pos (by decide))) ?_
      exact zi_iret dX7_square_155 rfl (by rfl) (by rfl)
    · have e : i < 36 := by have := mt (nI_leI (by omega) (by omega)).mpr h128; omega
      refine zi_aload0 (n := 132) dX7_square_131 rfl ?_
      refine zg_X7_5 (n := 135) dX7_square_132 rfl zl_X7_19 ?_
      refine zi_iload1 (n := 136) dX7_square_135 rfl ?_
      refine zi_aload0 (n := 137) dX7_square_136 rfl ?_
      refine zg_X7_6 (n := 140) dX7_square_137 rfl zl_X7_22 ?_
      refine zi_iload1 (n := 141) dX7_square_140 rfl ?_
      refine zi_oald (N := 36) (i := i) (n := 142) dX7_square_141 rfl (by decide) (fun _ => rfl) (by decide) rfl e (zfn _ _ _ _ (by decide) _) ?_
      refine zi_oast (N := 36) (i := i) (n := 143) dX7_square_142 rfl (by decide) (fun _ => rfl) (by decide) rfl e (zfqe (zl36_step _ _ i)) ?_
      refine zi_iinc1 (n := 146) (nI (i + 1)) dX7_square_143 rfl (by decide) rfl (zi1 _) ?_
      refine zi_goto (tgt := 125) dX7_square_146 (by decide) ?_
      exact ih (i + 1) (by omega) (by omega)
/-- the reading whole: what is read, and how it ended -/
def zsqR (Z : zS) (B : zF) (L s : Nat) : zF × zY := zqR B L (zl36 (fun _ => nI 0) (Z 170) 36) (zNxT B L (0, s, Z 165 14, Z 165 15, nI 0, Z 165 17))
theorem zsq_start : (zl36 (fun _ => nI 0) f 36) 0 = nI 0 := if_pos (by decide)
set_option maxHeartbeats 400000 in
set_option maxRecDepth 100000 in
theorem m_square_bad (h0 : Z 165 0 = nI 0) {c s : Nat} (hc : Z 165 12 = nI c) (hs : Z 165 13 = nI s) (hL : Z 165 11 = nI L) (hB : Z 173 = B) (h90 : L ≤ 90) (hr : ¬ (zFa (zsqR Z B L s).2).2.2.2.2.1 ≤ 0) : zCT E 5 zm_X7_square [.ref (zad E 165)] (Q, Z) (some (.int (-1000100 - (zFa (zsqR Z B L s).2).2.2.2.2.2))) (zYm Q (zsu (zsu (va_up Z 170 (zsqR Z B L s).1) 165 11 (nI 0)) 165 18 (if (zFa (zsqR Z B L s).2).2.2.2.2.1 ≤ 0 then Z 165 18 else (zFa (zsqR Z B L s).2).2.2.2.2.1)) (zFa (zsqR Z B L s).2)) := by
  refine zCT.of (by decide +kernel) (Nat.le_of_ble_eq_true rfl) ?_
  refine zi_aload0 (n := 1) dX7_square_0 rfl ?_
  refine zi_iconst (n := 2) (nI 0) dX7_square_1 rfl (by decide) ?_
  refine zp_X7_0 (n := 5) dX7_square_2 rfl zl_X7_44 (zt0 h0) ?_
  refine zG_eqM (zYm_of hc hs) ?_
  refine zi_aload0 (n := 6) dX7_square_5 rfl ?_
  refine zi_V0v (mj := zm_X7_begin) (n := 9) dX7_square_6 rfl zl_X7_126 zy_X7_begin (zrc_X7 _ _) (by decide) (Nat.le_of_ble_eq_true rfl) (c_X7_begin hL hB h90) ?_
  refine zi_iconst (n := 10) (nI 0) dX7_square_9 rfl (by decide) ?_
  refine zi_istore1 (n := 11) dX7_square_10 rfl (by decide) rfl ?_
  refine zG_eqM (M2 := zYm Q (va_up Z 170 (zl36 (fun _ => nI 0) (Z 170) 0)) (zNxT B L (0, s, Z 165 14, Z 165 15, nI 0, Z 165 17))) (by rw [zl36_0, zup_same]) ?_
  refine l0_X7_square ?_ 37 0 (by omega) (by omega)
  refine t_X7_square hL hB h90 (zNxT_le (Nat.zero_le _)) zsq_start ?_
  change zG _ _ _ _ _ _ _ _ (zYm Q (va_up Z 170 (zsqR Z B L s).1) (zsqR Z B L s).2)
  refine zi_aload0 (n := 104) dX7_square_103 rfl ?_
  refine zi_V0s (mj := zm_X7_failed) (n := 107) dX7_square_104 rfl zl_X7_139 zy_X7_failed (zrc_X7 _ _) (by decide) (Nat.le_of_ble_eq_true rfl) c_X7_failed ?_
  change zG _ _ _ _ _ _ _ _ (zYm Q (zsu (zsu (va_up Z 170 (zsqR Z B L s).1) 165 11 (nI 0)) 165 18 (if (zFa (zsqR Z B L s).2).2.2.2.2.1 ≤ 0 then Z 165 18 else (zFa (zsqR Z B L s).2).2.2.2.2.1)) (zFa (zsqR Z B L s).2))
  refine zi_ifeq_b (n := 110) (tgt := 118) dX7_square_107 rfl (by decide) (fun h107 => ?_) (fun h107 => ?_)
  · exact absurd hr h107
  · refine zi_ldc (n := 112) dX7_square_110 rfl zl_X7_142 ?_
    refine zi_aload0 (n := 113) dX7_square_112 rfl ?_
    refine zg_X7_17 (n := 116) dX7_square_113 rfl zl_X7_81 zYm_g17 ?_
    refine zi_isub (n := 117) dX7_square_116 rfl ?_
    exact zi_iret dX7_square_117 rfl (by rfl) (by rfl)
set_option maxHeartbeats 400000 in
set_option maxRecDepth 100000 in
theorem m_square_ok (h0 : Z 165 0 = nI 0) {c s : Nat} (hc : Z 165 12 = nI c) (hs : Z 165 13 = nI s) (hL : Z 165 11 = nI L) (hB : Z 173 = B) (h90 : L ≤ 90) (hr : (zFa (zsqR Z B L s).2).2.2.2.2.1 ≤ 0) : zCT E 5 zm_X7_square [.ref (zad E 165)] (Q, Z) (some (.int ((zYm Q (zsu (zsu (zsu (va_up Z 170 (zsqR Z B L s).1) 165 11 (nI 0)) 165 18 (if (zFa (zsqR Z B L s).2).2.2.2.2.1 ≤ 0 then Z 165 18 else (zFa (zsqR Z B L s).2).2.2.2.2.1)) 165 9 (nI 0)) (zFa (zsqR Z B L s).2)).2 170 0))) (Q, va_up (zYm Q (zsu (zsu (zsu (va_up Z 170 (zsqR Z B L s).1) 165 11 (nI 0)) 165 18 (if (zFa (zsqR Z B L s).2).2.2.2.2.1 ≤ 0 then Z 165 18 else (zFa (zsqR Z B L s).2).2.2.2.2.1)) 165 9 (nI 0)) (zFa (zsqR Z B L s).2)).2 169 (zl36 ((zYm Q (zsu (zsu (zsu (va_up Z 170 (zsqR Z B L s).1) 165 11 (nI 0)) 165 18 (if (zFa (zsqR Z B L s).2).2.2.2.2.1 ≤ 0 then Z 165 18 else (zFa (zsqR Z B L s).2).2.2.2.2.1)) 165 9 (nI 0)) (zFa (zsqR Z B L s).2)).2 170) ((zYm Q (zsu (zsu (zsu (va_up Z 170 (zsqR Z B L s).1) 165 11 (nI 0)) 165 18 (if (zFa (zsqR Z B L s).2).2.2.2.2.1 ≤ 0 then Z 165 18 else (zFa (zsqR Z B L s).2).2.2.2.2.1)) 165 9 (nI 0)) (zFa (zsqR Z B L s).2)).2 169) 36)) := by
  refine zCT.of (by decide +kernel) (Nat.le_of_ble_eq_true rfl) ?_
  refine zi_aload0 (n := 1) dX7_square_0 rfl ?_
  refine zi_iconst (n := 2) (nI 0) dX7_square_1 rfl (by decide) ?_
  refine zp_X7_0 (n := 5) dX7_square_2 rfl zl_X7_44 (zt0 h0) ?_
  refine zG_eqM (zYm_of hc hs) ?_
  refine zi_aload0 (n := 6) dX7_square_5 rfl ?_
  refine zi_V0v (mj := zm_X7_begin) (n := 9) dX7_square_6 rfl zl_X7_126 zy_X7_begin (zrc_X7 _ _) (by decide) (Nat.le_of_ble_eq_true rfl) (c_X7_begin hL hB h90) ?_
  refine zi_iconst (n := 10) (nI 0) dX7_square_9 rfl (by decide) ?_
  refine zi_istore1 (n := 11) dX7_square_10 rfl (by decide) rfl ?_
  refine zG_eqM (M2 := zYm Q (va_up Z 170 (zl36 (fun _ => nI 0) (Z 170) 0)) (zNxT B L (0, s, Z 165 14, Z 165 15, nI 0, Z 165 17))) (by rw [zl36_0, zup_same]) ?_
  refine l0_X7_square ?_ 37 0 (by omega) (by omega)
  refine t_X7_square hL hB h90 (zNxT_le (Nat.zero_le _)) zsq_start ?_
  change zG _ _ _ _ _ _ _ _ (zYm Q (va_up Z 170 (zsqR Z B L s).1) (zsqR Z B L s).2)
  refine zi_aload0 (n := 104) dX7_square_103 rfl ?_
  refine zi_V0s (mj := zm_X7_failed) (n := 107) dX7_square_104 rfl zl_X7_139 zy_X7_failed (zrc_X7 _ _) (by decide) (Nat.le_of_ble_eq_true rfl) c_X7_failed ?_
  change zG _ _ _ _ _ _ _ _ (zYm Q (zsu (zsu (va_up Z 170 (zsqR Z B L s).1) 165 11 (nI 0)) 165 18 (if (zFa (zsqR Z B L s).2).2.2.2.2.1 ≤ 0 then Z 165 18 else (zFa (zsqR Z B L s).2).2.2.2.2.1)) (zFa (zsqR Z B L s).2))
  refine zi_ifeq_b (n := 110) (tgt := 118) dX7_square_107 rfl (by decide) (fun h107 => ?_) (fun h107 => ?_)
  · refine zi_aload0 (n := 119) dX7_square_118 rfl ?_
    refine zi_iconst (n := 120) (nI 0) dX7_square_119 rfl (by decide) ?_
    refine zp_X7_9 (n := 123) dX7_square_120 rfl zl_X7_143 zYm_p9 ?_
    refine zi_iconst (n := 124) (nI 0) dX7_square_123 rfl (by decide) ?_
    refine zi_istore1 (n := 125) dX7_square_124 rfl (by decide) rfl ?_
    have g := l9_X7_square (E := E) (Q := Q) (V := (zYm Q (zsu (zsu (zsu (va_up Z 170 (zsqR Z B L s).1) 165 11 (nI 0)) 165 18 (if (zFa (zsqR Z B L s).2).2.2.2.2.1 ≤ 0 then Z 165 18 else (zFa (zsqR Z B L s).2).2.2.2.2.1)) 165 9 (nI 0)) (zFa (zsqR Z B L s).2)).2) (g := (zYm Q (zsu (zsu (zsu (va_up Z 170 (zsqR Z B L s).1) 165 11 (nI 0)) 165 18 (if (zFa (zsqR Z B L s).2).2.2.2.2.1 ≤ 0 then Z 165 18 else (zFa (zsqR Z B L s).2).2.2.2.2.1)) 165 9 (nI 0)) (zFa (zsqR Z B L s).2)).2 169) 37 0 (by omega) (by omega)
    rw [zl36_0, zup_same] at g
    exact g
  · exact absurd h107 (fun q => q hr)
end ZMc
