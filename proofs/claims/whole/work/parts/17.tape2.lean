section ZT6
theorem zrB_S {B : Nat → Int32} {L : Nat} {c : Int32} {u : zP} : (zrB B L c u).2.1 = u.1 := by
  unfold zrB
  split <;> rfl
theorem zrN_S {B : Nat → Int32} {L : Nat} {lo hi : Int32} {u : zP} : (zrN B L lo hi u).2.1 = u.1 := by
  unfold zrN
  split
  · rfl
  · split
    · rfl
    · split <;> rfl
/-- a paper read behind n others: stage by stage -/
def zq1 (B : Nat → Int32) (L : Nat) (u : zP) : Bool × zP := zrN B L (nI 0) (nI 9) (u.1, u.2.1 + 1, u.2.2)
def zq2 (B : Nat → Int32) (L n : Nat) (k : Int32) (u : zP) : Bool × zP := zrB B L (nI 44) (zsu (zsu u.1 1 n k) 2 n u.2.2.1, u.2)
def zq3 (B : Nat → Int32) (L : Nat) (u : zP) : Bool × zP := zrN B L (nI 0) (nI 9) u
def zq4 (B : Nat → Int32) (L n : Nat) (u : zP) : Bool × zP := zrB B L (nI 44) (zsu u.1 3 n u.2.2.1, u.2)
def zq5 (B : Nat → Int32) (L : Nat) (u : zP) : Bool × zP := zrN B L (nI 1) (nI 9) u
def zq6 (B : Nat → Int32) (L n : Nat) (u : zP) : Bool × zP := zrB B L (nI 59) (zsu (zsu u.1 4 n u.2.2.1) 0 0 (zsu u.1 4 n u.2.2.1 0 0 + nI 1), u.2)
def zthen (r : Bool × zP) (f : zP → Bool × zP) : Bool × zP := if r.1 then f r.2 else (false, r.2)
def zrP (B : Nat → Int32) (L n : Nat) (u : zP) : Bool × zP :=
  if zkt (zby B L u.2.1) = 0 then (false, zflt u (nI 1)) else if n < 6 then
    zthen (zq1 B L u) (fun v1 => zthen (zq2 B L n (zkt (zby B L u.2.1)) v1) (fun v2 => zthen (zq3 B L v2) (fun v3 => zthen (zq4 B L n v3) (fun v4 => zthen (zq5 B L v4) (fun v5 => zq6 B L n v5)))))
  else (false, zflt u (nI 3))
theorem zthen_t {r : Bool × zP} {f : zP → Bool × zP} (h : r.1 = true) : zthen r f = f r.2 := by unfold zthen; rw [if_pos h]
theorem zthen_f {r : Bool × zP} {f : zP → Bool × zP} (h : ¬ r.1 = true) : zthen r f = (false, r.2) := by unfold zthen; rw [if_neg h]
variable {E : zE} {Q : Nat → Nat → Nat → Int32} {Z : zS} {M : zMem} {L n : Nat} {u : zP}
set_option maxHeartbeats 4000000 in
set_option maxRecDepth 100000 in
theorem c_X5_readPaper (h90 : L ≤ 90) (ha : u.2.1 ≤ L) (hn : u.1 0 0 = nI n) (h6 : n ≤ 6) : zCT E 2 zm_X5_readPaper [.ref (zad E 158)] (zPm Q Z L u) (some (.int (zb ((zrP (Z 159) L n u).1 = true)))) (zPm Q Z L (zrP (Z 159) L n u).2) := by
  refine zCT.of (by decide +kernel) (Nat.le_of_ble_eq_true rfl) ?_
  obtain ⟨k, ek⟩ : ∃ k, zkt (zby (Z 159) L u.2.1) = k := ⟨_, rfl⟩
  obtain ⟨v1, e1⟩ : ∃ v1, zrN (Z 159) L (nI 0) (nI 9) (u.1, u.2.1 + 1, u.2.2) = v1 := ⟨_, rfl⟩
  obtain ⟨v2, e2⟩ : ∃ v2, zrB (Z 159) L (nI 44) (zsu (zsu v1.2.1 1 n k) 2 n v1.2.2.2.1, v1.2.2) = v2 := ⟨_, rfl⟩
  obtain ⟨v3, e3⟩ : ∃ v3, zrN (Z 159) L (nI 0) (nI 9) v2.2 = v3 := ⟨_, rfl⟩
  obtain ⟨v4, e4⟩ : ∃ v4, zrB (Z 159) L (nI 44) (zsu v3.2.1 3 n v3.2.2.2.1, v3.2.2) = v4 := ⟨_, rfl⟩
  obtain ⟨v5, e5⟩ : ∃ v5, zrN (Z 159) L (nI 1) (nI 9) v4.2 = v5 := ⟨_, rfl⟩
  obtain ⟨v6, e6⟩ : ∃ v6, zrB (Z 159) L (nI 59) (zsu (zsu v5.2.1 4 n v5.2.2.2.1) 0 0 (zsu v5.2.1 4 n v5.2.2.2.1 0 0 + nI 1), v5.2.2) = v6 := ⟨_, rfl⟩
  have hz : zrP (Z 159) L n u = if k = 0 then (false, zflt u (nI 1)) else if n < 6 then (if v1.1 then (if v2.1 then (if v3.1 then (if v4.1 then (if v5.1 then v6 else (false, v5.2)) else (false, v4.2)) else (false, v3.2)) else (false, v2.2)) else (false, v1.2)) else (false, zflt u (nI 3)) := by
    simp only [zrP, zthen, zq1, zq2, zq3, zq4, zq5, zq6, ek, e1, e2, e3, e4, e5, e6]
  rw [hz]
  have k0 : ¬ u.2.1 < L → k = 0 := by
    intro hl
    rw [← ek, zby, if_neg hl]; decide
  have aa : u.2.1 < L → v1.2.2.1 ≤ L ∧ v2.2.2.1 ≤ L ∧ v3.2.2.1 ≤ L ∧ v4.2.2.1 ≤ L ∧ v5.2.2.1 ≤ L := by
    intro hl
    have a1 := zrN_at (B := Z 159) (lo := nI 0) (hi := nI 9) (u := (u.1, u.2.1 + 1, u.2.2)) hl
    rw [e1] at a1
    have a2 := zrB_at (B := Z 159) (c := nI 44) (u := (zsu (zsu v1.2.1 1 n k) 2 n v1.2.2.2.1, v1.2.2)) a1 (by decide)
    rw [e2] at a2
    have a3 := zrN_at (B := Z 159) (lo := nI 0) (hi := nI 9) a2
    rw [e3] at a3
    have a4 := zrB_at (B := Z 159) (c := nI 44) (u := (zsu v3.2.1 3 n v3.2.2.2.1, v3.2.2)) a3 (by decide)
    rw [e4] at a4
    have a5 := zrN_at (B := Z 159) (lo := nI 1) (hi := nI 9) a4
    rw [e5] at a5
    exact ⟨a1, a2, a3, a4, a5⟩
  refine zi_aload0 (n := 1) dX5_readPaper_0 rfl ?_
  refine zi_aload0 (n := 2) dX5_readPaper_1 rfl ?_
  refine zg_X5_3 (n := 5) dX5_readPaper_2 rfl zl_X5_30 (zPm_g3 _ _ _ _) ?_
  refine zi_V1s (mj := zm_X5_byteAt) (n := 8) dX5_readPaper_5 rfl zl_X5_59 zy_X5_byteAt (zrc_X5 _ _) (by decide) (Nat.le_of_ble_eq_true rfl) (c_X5_byteAt h90 (by omega)) ?_
  refine zi_S1s (mj := zm_X5_kindTold) (n := 11) dX5_readPaper_8 rfl zl_X5_63 zy_X5_kindTold (by decide) (Nat.le_of_ble_eq_true rfl) (c_X5_kindTold) ?_
  rw [ek]
  refine zi_istore1 (n := 12) dX5_readPaper_11 rfl (by decide) rfl ?_
  refine zi_iload1 (n := 13) dX5_readPaper_12 rfl ?_
  refine zi_ifne (n := 16) (tgt := 22) dX5_readPaper_13 rfl (by decide) (fun h13 => ?_) (fun h13 => ?_)
  · have hlt : u.2.1 < L := Classical.byContradiction fun zz => h13 (k0 zz)
    obtain ⟨a1, a2, a3, a4, a5⟩ := aa hlt
    refine zi_aload0 (n := 23) dX5_readPaper_22 rfl ?_
    refine zg_X5_2 (n := 26) dX5_readPaper_23 rfl zl_X5_18 ?_
    refine zgN_X4_0 (n := 29) dX5_readPaper_26 rfl zl_X5_33 (by omega) ((zPm_gs _ _ _ _ _ _).trans hn) ?_
    refine zi_istore2 (n := 30) dX5_readPaper_29 rfl (by decide) rfl ?_
    refine zi_iload2 (n := 31) dX5_readPaper_30 rfl ?_
    refine zi_bipush (n := 33) (nI 6) dX5_readPaper_31 rfl (by decide) ?_
    refine zi_iclt (n := 36) (tgt := 42) dX5_readPaper_33 rfl (by decide) (fun h33 => ?_) (fun h33 => ?_)
    · have e33 : n < 6 := (nI_ltI (by omega) (by omega)).mp h33
      refine zi_aload0 (n := 43) dX5_readPaper_42 rfl ?_
      refine zi_dup (n := 44) dX5_readPaper_43 rfl rfl ?_
      refine zg_X5_3 (n := 47) dX5_readPaper_44 rfl zl_X5_30 (zPm_g3 _ _ _ _) ?_
      refine zi_iconst (n := 48) (nI 1) dX5_readPaper_47 rfl (by decide) ?_
      refine zi_iadd (n := 49) dX5_readPaper_48 rfl ?_
      rw [nI_add]
      refine zp_X5_3 (n := 52) dX5_readPaper_49 rfl zl_X5_30 (zPm_p3 _ _ _ _ _) ?_
      refine zi_aload0 (n := 53) dX5_readPaper_52 rfl ?_
      refine zi_iconst (n := 54) (nI 0) dX5_readPaper_53 rfl (by decide) ?_
      refine zi_bipush (n := 56) (nI 9) dX5_readPaper_54 rfl (by decide) ?_
      refine zi_V2s (mj := zm_X5_readNumber) (n := 59) dX5_readPaper_56 rfl zl_X5_46 zy_X5_readNumber (zrc_X5 _ _) (by decide) (Nat.le_of_ble_eq_true rfl) (c_X5_readNumber (u := (u.1, u.2.1 + 1, u.2.2)) h90 (show u.2.1 + 1 < 2 ^ 29 by omega)) ?_
      rw [e1]
      refine zi_ifne_b (n := 62) (tgt := 64) dX5_readPaper_59 rfl (by decide) (fun h59 => ?_) (fun h59 => ?_)
      · refine zi_aload0 (n := 65) dX5_readPaper_64 rfl ?_
        refine zg_X5_2 (n := 68) dX5_readPaper_65 rfl zl_X5_18 ?_
        refine zgN_X4_9 (n := 71) dX5_readPaper_68 rfl zl_X5_70 (by omega) ?_
        refine zi_iload2 (n := 72) dX5_readPaper_71 rfl ?_
        refine zi_iload1 (n := 73) dX5_readPaper_72 rfl ?_
        refine zi_qast (n := 74) dX5_readPaper_73 rfl (by omega) (by decide) rfl (by omega) (zPm_ps _ _ _ _ _ _ _) ?_
        refine zi_aload0 (n := 75) dX5_readPaper_74 rfl ?_
        refine zg_X5_2 (n := 78) dX5_readPaper_75 rfl zl_X5_18 ?_
        refine zgN_X4_10 (n := 81) dX5_readPaper_78 rfl zl_X5_73 (by omega) ?_
        refine zi_iload2 (n := 82) dX5_readPaper_81 rfl ?_
        refine zi_aload0 (n := 83) dX5_readPaper_82 rfl ?_
        refine zg_X5_4 (n := 86) dX5_readPaper_83 rfl zl_X5_50 (zPm_g4 _ _ _ _) ?_
        refine zi_qast (n := 87) dX5_readPaper_86 rfl (by omega) (by decide) rfl (by omega) (zPm_ps _ _ _ _ _ _ _) ?_
        refine zi_aload0 (n := 88) dX5_readPaper_87 rfl ?_
        refine zi_bipush (n := 90) (nI 44) dX5_readPaper_88 rfl (by decide) ?_
        refine zi_V1s (mj := zm_X5_readByte) (n := 93) dX5_readPaper_90 rfl zl_X5_42 zy_X5_readByte (zrc_X5 _ _) (by decide) (Nat.le_of_ble_eq_true rfl) (c_X5_readByte (u := (zsu (zsu v1.2.1 1 n k) 2 n v1.2.2.2.1, v1.2.2)) h90 (show v1.2.2.1 < 2 ^ 29 by omega)) ?_
        rw [e2]
        refine zi_ifeq_b (n := 96) (tgt := 106) dX5_readPaper_93 rfl (by decide) (fun h93 => ?_) (fun h93 => ?_)
        · refine zi_iconst (n := 107) (nI 0) dX5_readPaper_106 rfl (by decide) ?_
          exact zi_zretF (b := False) dX5_readPaper_107 rfl (by simp) (by first | (simp [h13, e33, h59, h93, zb]; done) | (simp [h13, e33, h59, h93, h103, zb]; done)) (by first | (simp [h13, e33, h59, h93]; done) | (simp [h13, e33, h59, h93, h103]; done))
        · refine zi_aload0 (n := 97) dX5_readPaper_96 rfl ?_
          refine zi_iconst (n := 98) (nI 0) dX5_readPaper_97 rfl (by decide) ?_
          refine zi_bipush (n := 100) (nI 9) dX5_readPaper_98 rfl (by decide) ?_
          refine zi_V2s (mj := zm_X5_readNumber) (n := 103) dX5_readPaper_100 rfl zl_X5_46 zy_X5_readNumber (zrc_X5 _ _) (by decide) (Nat.le_of_ble_eq_true rfl) (c_X5_readNumber (u := v2.2) h90 (show v2.2.2.1 < 2 ^ 29 by omega)) ?_
          rw [e3]
          refine zi_ifne_b (n := 106) (tgt := 108) dX5_readPaper_103 rfl (by decide) (fun h103 => ?_) (fun h103 => ?_)
          · refine zi_aload0 (n := 109) dX5_readPaper_108 rfl ?_
            refine zg_X5_2 (n := 112) dX5_readPaper_109 rfl zl_X5_18 ?_
            refine zgN_X4_11 (n := 115) dX5_readPaper_112 rfl zl_X5_76 (by omega) ?_
            refine zi_iload2 (n := 116) dX5_readPaper_115 rfl ?_
            refine zi_aload0 (n := 117) dX5_readPaper_116 rfl ?_
            refine zg_X5_4 (n := 120) dX5_readPaper_117 rfl zl_X5_50 (zPm_g4 _ _ _ _) ?_
            refine zi_qast (n := 121) dX5_readPaper_120 rfl (by omega) (by decide) rfl (by omega) (zPm_ps _ _ _ _ _ _ _) ?_
            refine zi_aload0 (n := 122) dX5_readPaper_121 rfl ?_
            refine zi_bipush (n := 124) (nI 44) dX5_readPaper_122 rfl (by decide) ?_
            refine zi_V1s (mj := zm_X5_readByte) (n := 127) dX5_readPaper_124 rfl zl_X5_42 zy_X5_readByte (zrc_X5 _ _) (by decide) (Nat.le_of_ble_eq_true rfl) (c_X5_readByte (u := (zsu v3.2.1 3 n v3.2.2.2.1, v3.2.2)) h90 (show v3.2.2.1 < 2 ^ 29 by omega)) ?_
            rw [e4]
            refine zi_ifeq_b (n := 130) (tgt := 140) dX5_readPaper_127 rfl (by decide) (fun h127 => ?_) (fun h127 => ?_)
            · refine zi_iconst (n := 141) (nI 0) dX5_readPaper_140 rfl (by decide) ?_
              exact zi_zretF (b := False) dX5_readPaper_141 rfl (by simp) (by first | (simp [h13, e33, h59, h93, h103, h127, zb]; done) | (simp [h13, e33, h59, h93, h103, h127, h137, zb]; done)) (by first | (simp [h13, e33, h59, h93, h103, h127]; done) | (simp [h13, e33, h59, h93, h103, h127, h137]; done))
            · refine zi_aload0 (n := 131) dX5_readPaper_130 rfl ?_
              refine zi_iconst (n := 132) (nI 1) dX5_readPaper_131 rfl (by decide) ?_
              refine zi_bipush (n := 134) (nI 9) dX5_readPaper_132 rfl (by decide) ?_
              refine zi_V2s (mj := zm_X5_readNumber) (n := 137) dX5_readPaper_134 rfl zl_X5_46 zy_X5_readNumber (zrc_X5 _ _) (by decide) (Nat.le_of_ble_eq_true rfl) (c_X5_readNumber (u := v4.2) h90 (show v4.2.2.1 < 2 ^ 29 by omega)) ?_
              rw [e5]
              refine zi_ifne_b (n := 140) (tgt := 142) dX5_readPaper_137 rfl (by decide) (fun h137 => ?_) (fun h137 => ?_)
              · refine zi_aload0 (n := 143) dX5_readPaper_142 rfl ?_
                refine zg_X5_2 (n := 146) dX5_readPaper_143 rfl zl_X5_18 ?_
                refine zgN_X4_12 (n := 149) dX5_readPaper_146 rfl zl_X5_79 (by omega) ?_
                refine zi_iload2 (n := 150) dX5_readPaper_149 rfl ?_
                refine zi_aload0 (n := 151) dX5_readPaper_150 rfl ?_
                refine zg_X5_4 (n := 154) dX5_readPaper_151 rfl zl_X5_50 (zPm_g4 _ _ _ _) ?_
                refine zi_qast (n := 155) dX5_readPaper_154 rfl (by omega) (by decide) rfl (by omega) (zPm_ps _ _ _ _ _ _ _) ?_
                refine zi_aload0 (n := 156) dX5_readPaper_155 rfl ?_
                refine zg_X5_2 (n := 159) dX5_readPaper_156 rfl zl_X5_18 ?_
                refine zi_dup (n := 160) dX5_readPaper_159 rfl rfl ?_
                refine zgN_X4_0 (n := 163) dX5_readPaper_160 rfl zl_X5_33 (by omega) (zPm_gs _ _ _ _ _ _) ?_
                refine zi_iconst (n := 164) (nI 1) dX5_readPaper_163 rfl (by decide) ?_
                refine zi_iadd (n := 165) dX5_readPaper_164 rfl ?_
                refine zpN_X4_0 (n := 168) dX5_readPaper_165 rfl zl_X5_33 (by omega) (zPm_ps _ _ _ _ _ _ _) ?_
                refine zi_aload0 (n := 169) dX5_readPaper_168 rfl ?_
                refine zi_bipush (n := 171) (nI 59) dX5_readPaper_169 rfl (by decide) ?_
                refine zi_V1s (mj := zm_X5_readByte) (n := 174) dX5_readPaper_171 rfl zl_X5_42 zy_X5_readByte (zrc_X5 _ _) (by decide) (Nat.le_of_ble_eq_true rfl) (c_X5_readByte (u := (zsu (zsu v5.2.1 4 n v5.2.2.2.1) 0 0 (zsu v5.2.1 4 n v5.2.2.2.1 0 0 + nI 1), v5.2.2)) h90 (show v5.2.2.1 < 2 ^ 29 by omega)) ?_
                rw [e6]
                exact zi_zret dX5_readPaper_174 rfl rfl (by simp [h13, e33, h59, h93, h103, h127, h137]) (by simp [h13, e33, h59, h93, h103, h127, h137])
              · refine zi_iconst (n := 141) (nI 0) dX5_readPaper_140 rfl (by decide) ?_
                exact zi_zretF (b := False) dX5_readPaper_141 rfl (by simp) (by first | (simp [h13, e33, h59, h93, h103, h127, zb]; done) | (simp [h13, e33, h59, h93, h103, h127, h137, zb]; done)) (by first | (simp [h13, e33, h59, h93, h103, h127]; done) | (simp [h13, e33, h59, h93, h103, h127, h137]; done))
          · refine zi_iconst (n := 107) (nI 0) dX5_readPaper_106 rfl (by decide) ?_
            exact zi_zretF (b := False) dX5_readPaper_107 rfl (by simp) (by first | (simp [h13, e33, h59, h93, zb]; done) | (simp [h13, e33, h59, h93, h103, zb]; done)) (by first | (simp [h13, e33, h59, h93]; done) | (simp [h13, e33, h59, h93, h103]; done))
      · refine zi_iconst (n := 63) (nI 0) dX5_readPaper_62 rfl (by decide) ?_
        exact zi_zretF (b := False) dX5_readPaper_63 rfl (by simp) (by first | (simp [h13, e33, h59, zb]; done)) (by first | (simp [h13, e33, h59]; done))
    · have e33 : ¬ n < 6 := fun zz => h33 (nI_lt zz (by omega))
      refine zi_aload0 (n := 37) dX5_readPaper_36 rfl ?_
      refine zi_iconst (n := 38) (nI 3) dX5_readPaper_37 rfl (by decide) ?_
      refine zi_V1s (mj := zm_X5_faulty) (n := 41) dX5_readPaper_38 rfl zl_X5_66 zy_X5_faulty (zrc_X5 _ _) (by decide) (Nat.le_of_ble_eq_true rfl) (c_X5_faulty) ?_
      exact zi_zret dX5_readPaper_41 rfl rfl (by simp [h13, e33, zb]) (by simp [h13, e33])
  · refine zi_aload0 (n := 17) dX5_readPaper_16 rfl ?_
    refine zi_iconst (n := 18) (nI 1) dX5_readPaper_17 rfl (by decide) ?_
    refine zi_V1s (mj := zm_X5_faulty) (n := 21) dX5_readPaper_18 rfl zl_X5_66 zy_X5_faulty (zrc_X5 _ _) (by decide) (Nat.le_of_ble_eq_true rfl) (c_X5_faulty) ?_
    exact zi_zret dX5_readPaper_21 rfl rfl (by simp [h13, zb]) (by simp [h13])
theorem zrP_ok {B : Nat → Int32} {L n : Nat} {u : zP} (hn : u.1 0 0 = nI n) (h : (zrP B L n u).1 = true) : n < 6 ∧ (zrP B L n u).2.1 0 0 = nI (n + 1) ∧ (zrP B L n u).2.2.1 ≤ L := by
  unfold zrP at h ⊢
  split at h
  · cases h
  · rename_i hk
    rw [if_neg hk]
    split at h
    · rename_i h6
      rw [if_pos h6]
      refine ⟨h6, ?_⟩
      have hl : u.2.1 < L := Classical.byContradiction fun zz => hk (by rw [zby, if_neg zz]; decide)
      have step : ∀ {r : Bool × zP} {f : zP → Bool × zP}, (zthen r f).1 = true → r.1 = true ∧ (f r.2).1 = true ∧ zthen r f = f r.2 := by
        intro r f hz
        by_cases hr : r.1 = true
        · rw [zthen_t hr] at hz ⊢
          exact ⟨hr, hz, rfl⟩
        · rw [zthen_f hr] at hz
          cases hz
      obtain ⟨b1, h, s1⟩ := step h
      rw [s1]
      obtain ⟨b2, h, s2⟩ := step h
      rw [s2]
      obtain ⟨b3, h, s3⟩ := step h
      rw [s3]
      obtain ⟨b4, h, s4⟩ := step h
      rw [s4]
      obtain ⟨b5, h, s5⟩ := step h
      rw [s5]
      have a1 : (zq1 B L u).2.2.1 ≤ L := zrN_at (u := (u.1, u.2.1 + 1, u.2.2)) hl
      have a2 : (zq2 B L n (zkt (zby B L u.2.1)) (zq1 B L u).2).2.2.1 ≤ L := zrB_at (u := (_, (zq1 B L u).2.2)) a1 (by decide)
      have a3 : (zq3 B L (zq2 B L n (zkt (zby B L u.2.1)) (zq1 B L u).2).2).2.2.1 ≤ L := zrN_at a2
      have a4 : (zq4 B L n (zq3 B L (zq2 B L n (zkt (zby B L u.2.1)) (zq1 B L u).2).2).2).2.2.1 ≤ L := zrB_at (u := (_, (zq3 B L (zq2 B L n (zkt (zby B L u.2.1)) (zq1 B L u).2).2).2.2)) a3 (by decide)
      have a5 : (zq5 B L (zq4 B L n (zq3 B L (zq2 B L n (zkt (zby B L u.2.1)) (zq1 B L u).2).2).2).2).2.2.1 ≤ L := zrN_at a4
      refine ⟨?_, zrB_at (u := (_, (zq5 B L (zq4 B L n (zq3 B L (zq2 B L n (zkt (zby B L u.2.1)) (zq1 B L u).2).2).2).2).2.2)) a5 (by decide)⟩
      simp only [zq6, zq5, zq4, zq3, zq2, zq1, zrB_S, zrN_S, zsu_at]
      simp [hn, nI_add]
    · cases h
/-- papers, one behind the other -/
def zrR (B : Nat → Int32) (L : Nat) : Nat → Nat → zP → Bool × zP
  | 0, _, u => (true, u)
  | f + 1, n, u => if u.2.1 < L then (if (zrP B L n u).1 then zrR B L f (n + 1) (zrP B L n u).2 else (false, (zrP B L n u).2)) else (true, u)
def zrd (B : Nat → Int32) (L : Nat) (u : zP) : Bool × zP :=
  if (zrL B L u).1 then (if (zrP B L 0 (zrL B L u).2).1 then zrR B L 90 1 (zrP B L 0 (zrL B L u).2).2 else (false, (zrP B L 0 (zrL B L u).2).2)) else (false, (zrL B L u).2)
theorem zrL_S0 {B : Nat → Int32} {L : Nat} {u : zP} : (zrL B L u).2.1 0 0 = u.1 0 0 := by
  unfold zrL
  dsimp only
  split
  · split
    · split
      · split
        · simp [zrB_S, zrN_S, zsu_at]
        · simp [zrB_S, zrN_S, zsu_at]
      · simp [zrB_S, zrN_S, zsu_at]
    · simp [zrB_S, zrN_S]
  · simp [zrB_S]
theorem zrL_at {B : Nat → Int32} {L : Nat} {u : zP} (h : u.2.1 ≤ L) : (zrL B L u).2.2.1 ≤ L := by
  have a1 := zrB_at (B := B) (c := nI 99) h (by decide)
  have a2 := zrN_at (B := B) (lo := nI 0) (hi := nI 9) a1
  unfold zrL
  dsimp only
  split
  · split
    · have a3 := zrB_at (B := B) (c := nI 44) (u := (zsu (zrN B L (nI 0) (nI 9) (zrB B L (nI 99) u).2).2.1 0 1 (zrN B L (nI 0) (nI 9) (zrB B L (nI 99) u).2).2.2.2.1, (zrN B L (nI 0) (nI 9) (zrB B L (nI 99) u).2).2.2)) a2 (by decide)
      split
      · have a4 := zrN_at (B := B) (lo := nI 0) (hi := nI 2) a3
        split
        · exact zrB_at (u := (_, _)) a4 (by decide)
        · exact a4
      · exact a3
    · exact a2
  · exact a1
set_option maxHeartbeats 4000000 in
set_option maxRecDepth 100000 in
theorem l_X5_read (h90 : L ≤ 90) {r : Bool × zP} : ∀ f i n (u : zP), i + f = 90 → u.2.1 ≤ L → u.1 0 0 = nI n → n ≤ 6 → zrR (Z 159) L f n u = r → zG E zm_X5_read 3 (some (.int (zb (r.1 = true)))) (zPm Q Z L r.2) 31 [some (.ref (zad E 158)), some (.int (nI i))] [] (zPm Q Z L u) := by
  intro f
  induction f with
  | zero =>
    intro i n u hi ha hn h6 hr
    refine zi_iload1 (n := 32) dX5_read_31 rfl ?_
    refine zi_bipush (n := 34) (nI 90) dX5_read_32 rfl (by decide) ?_
    refine zi_icge (n := 37) (tgt := 63) dX5_read_34 rfl (by decide) (fun h34 => ?_) (fun h34 => ?_)
    · refine zi_iconst (n := 64) (nI 1) dX5_read_63 rfl (by decide) ?_
      exact zi_zretT (b := True) dX5_read_64 rfl trivial (by rw [← hr]; simp [zrR, zb]) (by rw [← hr]; rfl)
    · exact absurd ((nI_leI (a := 90) (by omega) (by omega)).mpr (by omega)) h34
  | succ f ih =>
    intro i n u hi ha hn h6 hr
    refine zi_iload1 (n := 32) dX5_read_31 rfl ?_
    refine zi_bipush (n := 34) (nI 90) dX5_read_32 rfl (by decide) ?_
    refine zi_icge (n := 37) (tgt := 63) dX5_read_34 rfl (by decide) (fun h34 => ?_) (fun h34 => ?_)
    · exact absurd ((nI_leI (a := 90) (by omega) (by omega)).mp h34) (by omega)
    · refine zi_aload0 (n := 38) dX5_read_37 rfl ?_
      refine zg_X5_3 (n := 41) dX5_read_38 rfl zl_X5_30 (zPm_g3 _ _ _ _) ?_
      refine zi_aload0 (n := 42) dX5_read_41 rfl ?_
      refine zg_X5_1 (n := 45) dX5_read_42 rfl zl_X5_22 (zPm_g1 _ _ _ _) ?_
      refine zi_icge (n := 48) (tgt := 63) dX5_read_45 rfl (by decide) (fun h45 => ?_) (fun h45 => ?_)
      · have e45 : ¬ u.2.1 < L := by have := (nI_leI (by omega) (by omega)).mp h45; omega
        refine zi_iconst (n := 64) (nI 1) dX5_read_63 rfl (by decide) ?_
        exact zi_zretT (b := True) dX5_read_64 rfl trivial (by rw [← hr]; simp [zrR, e45, zb]) (by rw [← hr]; simp [zrR, e45])
      · have e45 : u.2.1 < L := by have := mt (nI_leI (a := L) (b := u.2.1) (by omega) (by omega)).mpr h45; omega
        refine zi_aload0 (n := 49) dX5_read_48 rfl ?_
        refine zi_V0s (mj := zm_X5_readPaper) (n := 52) dX5_read_49 rfl zl_X5_39 zy_X5_readPaper (zrc_X5 _ _) (by decide) (Nat.le_of_ble_eq_true rfl) (c_X5_readPaper h90 ha hn h6) ?_
        refine zi_ifne_b (n := 55) (tgt := 57) dX5_read_52 rfl (by decide) (fun h52 => ?_) (fun h52 => ?_)
        · refine zi_iinc1 (n := 60) (nI (i + 1)) dX5_read_57 rfl (by decide) rfl (zi1 _) ?_
          refine zi_goto (tgt := 31) dX5_read_60 (by decide) ?_
          obtain ⟨g6, gn, ga⟩ := zrP_ok hn h52
          exact ih (i + 1) (n + 1) _ (by omega) ga gn (by omega) (by rw [← hr, zrR, if_pos e45, if_pos h52])
        · refine zi_iconst (n := 56) (nI 0) dX5_read_55 rfl (by decide) ?_
          exact zi_zretF (b := False) dX5_read_56 rfl (by simp) (by rw [← hr]; simp [zrR, e45, h52, zb]) (by rw [← hr]; simp [zrR, e45, h52])
set_option maxHeartbeats 4000000 in
set_option maxRecDepth 100000 in
theorem c_X5_read (h90 : L ≤ 90) : zCT E 3 zm_X5_read [.ref (zad E 158)] (zPm Q Z L u) (some (.int (zb ((zrd (Z 159) L (zsu u.1 0 0 (nI 0), 0, u.2.2)).1 = true)))) (zPm Q Z L (zrd (Z 159) L (zsu u.1 0 0 (nI 0), 0, u.2.2)).2) := by
  refine zCT.of (by decide +kernel) (Nat.le_of_ble_eq_true rfl) ?_
  obtain ⟨w, hw⟩ : ∃ w : zP, (zsu u.1 0 0 (nI 0), 0, u.2.2) = w := ⟨_, rfl⟩
  have hwa : w.2.1 ≤ L := by rw [← hw]; exact Nat.zero_le _
  have hwn : (zrL (Z 159) L w).2.1 0 0 = nI 0 := by rw [zrL_S0, ← hw]; simp [zsu_at]
  have hla := zrL_at (B := Z 159) hwa
  rw [hw]
  refine zi_aload0 (n := 1) dX5_read_0 rfl ?_
  refine zi_iconst (n := 2) (nI 0) dX5_read_1 rfl (by decide) ?_
  refine zp_X5_3 (n := 5) dX5_read_2 rfl zl_X5_30 (zPm_p3 _ _ _ _ _) ?_
  refine zi_aload0 (n := 6) dX5_read_5 rfl ?_
  refine zg_X5_2 (n := 9) dX5_read_6 rfl zl_X5_18 ?_
  refine zi_iconst (n := 10) (nI 0) dX5_read_9 rfl (by decide) ?_
  refine zpN_X4_0 (n := 13) dX5_read_10 rfl zl_X5_33 (by omega) (zPm_ps _ _ _ _ _ _ _) ?_
  change zG _ _ _ _ _ 13 _ _ (zPm Q Z L (zsu u.1 0 0 (nI 0), 0, u.2.2))
  rw [hw]
  refine zi_aload0 (n := 14) dX5_read_13 rfl ?_
  refine zi_V0s (mj := zm_X5_readLaw) (n := 17) dX5_read_14 rfl zl_X5_36 zy_X5_readLaw (zrc_X5 _ _) (by decide) (Nat.le_of_ble_eq_true rfl) (c_X5_readLaw h90 hwa) ?_
  refine zi_ifeq_b (n := 20) (tgt := 27) dX5_read_17 rfl (by decide) (fun h17 => ?_) (fun h17 => ?_)
  · refine zi_iconst (n := 28) (nI 0) dX5_read_27 rfl (by decide) ?_
    exact zi_zretF (b := False) dX5_read_28 rfl (by simp) (by first | (simp [zrd, h17, zb]; done) | (simp [zrd, h17, h24, zb]; done)) (by first | (simp [zrd, h17]; done) | (simp [zrd, h17, h24]; done))
  · refine zi_aload0 (n := 21) dX5_read_20 rfl ?_
    refine zi_V0s (mj := zm_X5_readPaper) (n := 24) dX5_read_21 rfl zl_X5_39 zy_X5_readPaper (zrc_X5 _ _) (by decide) (Nat.le_of_ble_eq_true rfl) (c_X5_readPaper (n := 0) h90 hla hwn (by decide)) ?_
    refine zi_ifne_b (n := 27) (tgt := 29) dX5_read_24 rfl (by decide) (fun h24 => ?_) (fun h24 => ?_)
    · refine zi_iconst (n := 30) (nI 0) dX5_read_29 rfl (by decide) ?_
      refine zi_istore1 (n := 31) dX5_read_30 rfl (by decide) rfl ?_
      obtain ⟨g6, gn, ga⟩ := zrP_ok hwn h24
      exact l_X5_read h90 90 0 1 _ rfl ga gn (by omega) (by rw [zrd, if_pos h17, if_pos h24])
    · refine zi_iconst (n := 28) (nI 0) dX5_read_27 rfl (by decide) ?_
      exact zi_zretF (b := False) dX5_read_28 rfl (by simp) (by first | (simp [zrd, h17, zb]; done) | (simp [zrd, h17, h24, zb]; done)) (by first | (simp [zrd, h17]; done) | (simp [zrd, h17, h24]; done))
set_option maxHeartbeats 4000000 in
set_option maxRecDepth 100000 in
theorem c_X5_isFull {L : Nat} (h90 : L ≤ 90) : zCT E 0 zm_X5_isFull [.ref (zad E 158)] (zPm Q Z L u) (some (.int (zb (L = 90)))) (zPm Q Z L u) := by
  refine zCT.of (by decide +kernel) (Nat.le_of_ble_eq_true rfl) ?_
  refine zi_aload0 (n := 1) dX5_isFull_0 rfl ?_
  refine zg_X5_1 (n := 4) dX5_isFull_1 rfl zl_X5_22 (zPm_g1 _ _ _ _) ?_
  refine zi_bipush (n := 6) (nI 90) dX5_isFull_4 rfl (by decide) ?_
  refine zi_iclt (n := 9) (tgt := 13) dX5_isFull_6 rfl (by decide) (fun h6 => ?_) (fun h6 => ?_)
  · have e6 : ¬ L = 90 := by have := (nI_ltI (a := L) (b := 90) (by omega) (by omega)).mp h6; omega
    refine zi_iconst (n := 14) (nI 0) dX5_isFull_13 rfl (by decide) ?_
    exact zi_zretF dX5_isFull_14 rfl (by exact e6) rfl (by rfl)
  · have e6 : L = 90 := by have := mt (nI_ltI (a := L) (b := 90) (by omega) (by omega)).mpr h6; omega
    refine zi_iconst (n := 10) (nI 1) dX5_isFull_9 rfl (by decide) ?_
    refine zi_goto (tgt := 14) dX5_isFull_10 (by decide) ?_
    exact zi_zretT dX5_isFull_14 rfl (by exact e6) rfl (by rfl)
end ZT6
