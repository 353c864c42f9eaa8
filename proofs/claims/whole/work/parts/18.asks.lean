section ZK1
theorem zsu_other {Z : zS} {a c i : Nat} {T : Nat → Int32} {x : Int32} (h : c ≠ a) : zsu (va_up Z a T) c i x = va_up (zsu Z c i x) a T := by
  unfold zsu
  rw [va_up_ne _ _ h, zup_swap _ (Ne.symm h)]
variable {E : zE} {Q : Nat → Nat → Nat → Int32} {Z : zS} {M : zMem} {L n : Nat} {u : zP}
theorem zPm_pb (Q : Nat → Nat → Nat → Int32) (Z : zS) (L : Nat) (u : zP) (i : Nat) (x : Int32) : (((zPm Q Z L u).1, zsu (zPm Q Z L u).2 159 i x) : zMem) = zPm Q (zsu Z 159 i x) L u := by
  unfold zPm
  rw [zsu_other (by decide)]
theorem zPm_p1 (Q : Nat → Nat → Nat → Int32) (Z : zS) (L : Nat) (u : zP) (x : Nat) : (((zPm Q Z L u).1, zsu (zPm Q Z L u).2 158 1 (nI x)) : zMem) = zPm Q Z x u := (zfq _ _ _ _ _ _).trans (by rw [zTr_u1]; rfl)
set_option maxHeartbeats 4000000 in
set_option maxRecDepth 100000 in
theorem c_X5_add (h90 : L < 90) {x : Int32} : zCT E 1 zm_X5_add [.ref (zad E 158), .int x] (zPm Q Z L u) (some (.int (nI (L + 1)))) (zPm Q (zsu Z 159 L x) (L + 1) u) := by
  refine zCT.of (by decide +kernel) (Nat.le_of_ble_eq_true rfl) ?_
  refine zi_aload0 (n := 1) dX5_add_0 rfl ?_
  refine zi_V0s (mj := zm_X5_isFull) (n := 4) dX5_add_1 rfl zl_X5_26 zy_X5_isFull (zrc_X5 _ _) (by decide) (Nat.le_of_ble_eq_true rfl) (c_X5_isFull (by omega)) ?_
  refine zi_ifne_b (n := 7) (tgt := 27) dX5_add_4 rfl (by decide) (fun h4 => ?_) (fun h4 => ?_)
  · exact absurd h4 (by omega)
  · refine zi_aload0 (n := 8) dX5_add_7 rfl ?_
    refine zg_X5_0 (n := 11) dX5_add_8 rfl zl_X5_9 ?_
    refine zi_aload0 (n := 12) dX5_add_11 rfl ?_
    refine zg_X5_1 (n := 15) dX5_add_12 rfl zl_X5_22 (zPm_g1 _ _ _ _) ?_
    refine zi_iload1 (n := 16) dX5_add_15 rfl ?_
    refine zi_oast (N := 90) (n := 17) dX5_add_16 rfl (by decide) (fun _ => rfl) (by decide) rfl h90 (zPm_pb _ _ _ _ _ _) ?_
    refine zi_aload0 (n := 18) dX5_add_17 rfl ?_
    refine zi_dup (n := 19) dX5_add_18 rfl rfl ?_
    refine zg_X5_1 (n := 22) dX5_add_19 rfl zl_X5_22 (zPm_g1 _ _ _ _) ?_
    refine zi_iconst (n := 23) (nI 1) dX5_add_22 rfl (by decide) ?_
    refine zi_iadd (n := 24) dX5_add_23 rfl ?_
    rw [nI_add]
    refine zp_X5_1 (n := 27) dX5_add_24 rfl zl_X5_22 (zPm_p1 _ _ _ _ _) ?_
    refine zi_aload0 (n := 28) dX5_add_27 rfl ?_
    refine zg_X5_1 (n := 31) dX5_add_28 rfl zl_X5_22 (zPm_g1 _ _ _ _) ?_
    exact zi_iret dX5_add_31 rfl (by rfl) (by rfl)
set_option maxHeartbeats 4000000 in
set_option maxRecDepth 100000 in
theorem c_X5_clear : zCT E 0 zm_X5_clear [.ref (zad E 158)] (zPm Q Z L u) none (zPm Q Z 0 u) := by
  refine zCT.of (by decide +kernel) (Nat.le_of_ble_eq_true rfl) ?_
  refine zi_aload0 (n := 1) dX5_clear_0 rfl ?_
  refine zi_iconst (n := 2) (nI 0) dX5_clear_1 rfl (by decide) ?_
  refine zp_X5_1 (n := 5) dX5_clear_2 rfl zl_X5_22 (zPm_p1 _ _ _ _ _) ?_
  exact zi_vret dX5_clear_5 rfl (by rfl) (by rfl)
/-- the trace: how many, which -/
abbrev zTf : Type := Nat × (Nat → Int32)
def zTM (Z : zS) (w : zTf) : zS := va_up (va_up Z 164 w.2) 163 (upd (Z 163) 2 (nI w.1))
def zpush (w : zTf) (x : Int32) : zTf := if w.1 < 16 then (w.1 + 1, upd w.2 w.1 x) else w
theorem zTM_g (Q : Nat → Nat → Nat → Int32) (Z : zS) (w : zTf) : ((Q, zTM Z w) : zMem).2 163 2 = nI w.1 := by
  simp [zTM, va_up_self, upd]
theorem zTM_p (Q : Nat → Nat → Nat → Int32) (Z : zS) (w : zTf) (x : Nat) : ((((Q, zTM Z w) : zMem).1, zsu ((Q, zTM Z w) : zMem).2 163 2 (nI x)) : zMem) = (Q, zTM Z (x, w.2)) := by
  show (Q, zsu (zTM Z w) 163 2 (nI x)) = _
  unfold zTM
  rw [zsu_focus]
  congr 2
  funext k
  unfold upd
  split <;> rfl
theorem zTM_s (Q : Nat → Nat → Nat → Int32) (Z : zS) (w : zTf) (i : Nat) (x : Int32) : ((((Q, zTM Z w) : zMem).1, zsu ((Q, zTM Z w) : zMem).2 164 i x) : zMem) = (Q, zTM Z (w.1, upd w.2 i x)) := by
  show (Q, zsu (zTM Z w) 164 i x) = _
  unfold zTM
  rw [zsu_other (by decide), zsu_focus]
theorem zpush_le {w : zTf} {x : Int32} (h : w.1 ≤ 16) : (zpush w x).1 ≤ 16 := by
  unfold zpush
  split
  · assumption
  · exact h
variable {w : zTf} {p dep : Nat}
set_option maxHeartbeats 4000000 in
set_option maxRecDepth 100000 in
theorem c_X1_leaveTrace (hw : w.1 ≤ 16) {x : Int32} : zCT E 0 zm_X1_leaveTrace [.ref (zad E 163), .int x] (Q, zTM Z w) none (Q, zTM Z (zpush w x)) := by
  refine zCT.of (by decide +kernel) (Nat.le_of_ble_eq_true rfl) ?_
  refine zi_aload0 (n := 1) dX1_leaveTrace_0 rfl ?_
  refine zg_X1_2 (n := 4) dX1_leaveTrace_1 rfl zl_X1_19 (zTM_g _ _ _) ?_
  refine zi_bipush (n := 6) (nI 16) dX1_leaveTrace_4 rfl (by decide) ?_
  refine zi_icge (n := 9) (tgt := 29) dX1_leaveTrace_6 rfl (by decide) (fun h6 => ?_) (fun h6 => ?_)
  · have e6 : ¬ w.1 < 16 := by have := (nI_leI (a := 16) (by omega) (by omega)).mp h6; omega
    exact zi_vret dX1_leaveTrace_29 rfl (by rfl) (by simp [zpush, e6])
  · have e6 : w.1 < 16 := by have := mt (nI_leI (a := 16) (b := w.1) (by omega) (by omega)).mpr h6; omega
    refine zi_aload0 (n := 10) dX1_leaveTrace_9 rfl ?_
    refine zg_X1_1 (n := 13) dX1_leaveTrace_10 rfl zl_X1_11 ?_
    refine zi_aload0 (n := 14) dX1_leaveTrace_13 rfl ?_
    refine zg_X1_2 (n := 17) dX1_leaveTrace_14 rfl zl_X1_19 (zTM_g _ _ _) ?_
    refine zi_iload1 (n := 18) dX1_leaveTrace_17 rfl ?_
    refine zi_oast (N := 16) (n := 19) dX1_leaveTrace_18 rfl (by decide) (fun _ => rfl) (by decide) rfl e6 (zTM_s _ _ _ _ _) ?_
    refine zi_aload0 (n := 20) dX1_leaveTrace_19 rfl ?_
    refine zi_dup (n := 21) dX1_leaveTrace_20 rfl rfl ?_
    refine zg_X1_2 (n := 24) dX1_leaveTrace_21 rfl zl_X1_19 (zTM_g _ _ _) ?_
    refine zi_iconst (n := 25) (nI 1) dX1_leaveTrace_24 rfl (by decide) ?_
    refine zi_iadd (n := 26) dX1_leaveTrace_25 rfl ?_
    rw [nI_add]
    refine zp_X1_2 (n := 29) dX1_leaveTrace_26 rfl zl_X1_19 (zTM_p _ _ _ _) ?_
    exact zi_vret dX1_leaveTrace_29 rfl (by rfl) (by simp [zpush, e6])
set_option maxHeartbeats 4000000 in
set_option maxRecDepth 100000 in
theorem c_bf_10 : zCT E 0 zm_X1_bodyFor [.int (nI 1), .int (nI 0)] M (some (.int (nI 11))) M := by
  refine zCT.of (by decide +kernel) (Nat.le_of_ble_eq_true rfl) ?_
  refine zi_iload0 (n := 1) dX1_bodyFor_0 rfl ?_
  refine zi_tableIn (tgt := 36) dX1_bodyFor_1 (by decide) (by decide) rfl (by decide) ?_
  refine zi_iload1 (n := 37) dX1_bodyFor_36 rfl ?_
  refine zi_ifne (n := 40) (tgt := 45) dX1_bodyFor_37 rfl (by decide) (fun h37 => ?_) (fun h37 => ?_)
  · exact absurd rfl h37
  · refine zi_bipush (n := 42) (nI 11) dX1_bodyFor_40 rfl (by decide) ?_
    refine zi_goto (tgt := 47) dX1_bodyFor_42 (by decide) ?_
    exact zi_iret dX1_bodyFor_47 rfl (by rfl) (by rfl)
set_option maxHeartbeats 4000000 in
set_option maxRecDepth 100000 in
theorem c_bf_11 : zCT E 0 zm_X1_bodyFor [.int (nI 1), .int (nI 1)] M (some (.int (nI 21))) M := by
  refine zCT.of (by decide +kernel) (Nat.le_of_ble_eq_true rfl) ?_
  refine zi_iload0 (n := 1) dX1_bodyFor_0 rfl ?_
  refine zi_tableIn (tgt := 36) dX1_bodyFor_1 (by decide) (by decide) rfl (by decide) ?_
  refine zi_iload1 (n := 37) dX1_bodyFor_36 rfl ?_
  refine zi_ifne (n := 40) (tgt := 45) dX1_bodyFor_37 rfl (by decide) (fun h37 => ?_) (fun h37 => ?_)
  · refine zi_bipush (n := 47) (nI 21) dX1_bodyFor_45 rfl (by decide) ?_
    exact zi_iret dX1_bodyFor_47 rfl (by rfl) (by rfl)
  · exact absurd h37 (by decide)
set_option maxHeartbeats 4000000 in
set_option maxRecDepth 100000 in
theorem c_bf_20 : zCT E 0 zm_X1_bodyFor [.int (nI 2), .int (nI 0)] M (some (.int (nI 12))) M := by
  refine zCT.of (by decide +kernel) (Nat.le_of_ble_eq_true rfl) ?_
  refine zi_iload0 (n := 1) dX1_bodyFor_0 rfl ?_
  refine zi_tableIn (tgt := 48) dX1_bodyFor_1 (by decide) (by decide) rfl (by decide) ?_
  refine zi_iload1 (n := 49) dX1_bodyFor_48 rfl ?_
  refine zi_ifne (n := 52) (tgt := 57) dX1_bodyFor_49 rfl (by decide) (fun h49 => ?_) (fun h49 => ?_)
  · exact absurd rfl h49
  · refine zi_bipush (n := 54) (nI 12) dX1_bodyFor_52 rfl (by decide) ?_
    refine zi_goto (tgt := 59) dX1_bodyFor_54 (by decide) ?_
    exact zi_iret dX1_bodyFor_59 rfl (by rfl) (by rfl)
set_option maxHeartbeats 4000000 in
set_option maxRecDepth 100000 in
theorem c_bf_21 : zCT E 0 zm_X1_bodyFor [.int (nI 2), .int (nI 1)] M (some (.int (nI 24))) M := by
  refine zCT.of (by decide +kernel) (Nat.le_of_ble_eq_true rfl) ?_
  refine zi_iload0 (n := 1) dX1_bodyFor_0 rfl ?_
  refine zi_tableIn (tgt := 48) dX1_bodyFor_1 (by decide) (by decide) rfl (by decide) ?_
  refine zi_iload1 (n := 49) dX1_bodyFor_48 rfl ?_
  refine zi_ifne (n := 52) (tgt := 57) dX1_bodyFor_49 rfl (by decide) (fun h49 => ?_) (fun h49 => ?_)
  · refine zi_bipush (n := 59) (nI 24) dX1_bodyFor_57 rfl (by decide) ?_
    exact zi_iret dX1_bodyFor_59 rfl (by rfl) (by rfl)
  · exact absurd h49 (by decide)
set_option maxHeartbeats 4000000 in
set_option maxRecDepth 100000 in
theorem c_bf_30 : zCT E 0 zm_X1_bodyFor [.int (nI 3), .int (nI 0)] M (some (.int (nI 11))) M := by
  refine zCT.of (by decide +kernel) (Nat.le_of_ble_eq_true rfl) ?_
  refine zi_iload0 (n := 1) dX1_bodyFor_0 rfl ?_
  refine zi_tableIn (tgt := 60) dX1_bodyFor_1 (by decide) (by decide) rfl (by decide) ?_
  refine zi_iload1 (n := 61) dX1_bodyFor_60 rfl ?_
  refine zi_ifne (n := 64) (tgt := 69) dX1_bodyFor_61 rfl (by decide) (fun h61 => ?_) (fun h61 => ?_)
  · exact absurd rfl h61
  · refine zi_bipush (n := 66) (nI 11) dX1_bodyFor_64 rfl (by decide) ?_
    refine zi_goto (tgt := 71) dX1_bodyFor_66 (by decide) ?_
    exact zi_iret dX1_bodyFor_71 rfl (by rfl) (by rfl)
set_option maxHeartbeats 4000000 in
set_option maxRecDepth 100000 in
theorem c_bf_31 : zCT E 0 zm_X1_bodyFor [.int (nI 3), .int (nI 1)] M (some (.int (nI 22))) M := by
  refine zCT.of (by decide +kernel) (Nat.le_of_ble_eq_true rfl) ?_
  refine zi_iload0 (n := 1) dX1_bodyFor_0 rfl ?_
  refine zi_tableIn (tgt := 60) dX1_bodyFor_1 (by decide) (by decide) rfl (by decide) ?_
  refine zi_iload1 (n := 61) dX1_bodyFor_60 rfl ?_
  refine zi_ifne (n := 64) (tgt := 69) dX1_bodyFor_61 rfl (by decide) (fun h61 => ?_) (fun h61 => ?_)
  · refine zi_bipush (n := 71) (nI 22) dX1_bodyFor_69 rfl (by decide) ?_
    exact zi_iret dX1_bodyFor_71 rfl (by rfl) (by rfl)
  · exact absurd h61 (by decide)
set_option maxHeartbeats 4000000 in
set_option maxRecDepth 100000 in
theorem c_bf_40 : zCT E 0 zm_X1_bodyFor [.int (nI 4), .int (nI 0)] M (some (.int (nI 13))) M := by
  refine zCT.of (by decide +kernel) (Nat.le_of_ble_eq_true rfl) ?_
  refine zi_iload0 (n := 1) dX1_bodyFor_0 rfl ?_
  refine zi_tableIn (tgt := 72) dX1_bodyFor_1 (by decide) (by decide) rfl (by decide) ?_
  refine zi_iload1 (n := 73) dX1_bodyFor_72 rfl ?_
  refine zi_ifne (n := 76) (tgt := 81) dX1_bodyFor_73 rfl (by decide) (fun h73 => ?_) (fun h73 => ?_)
  · exact absurd rfl h73
  · refine zi_bipush (n := 78) (nI 13) dX1_bodyFor_76 rfl (by decide) ?_
    refine zi_goto (tgt := 83) dX1_bodyFor_78 (by decide) ?_
    exact zi_iret dX1_bodyFor_83 rfl (by rfl) (by rfl)
set_option maxHeartbeats 4000000 in
set_option maxRecDepth 100000 in
theorem c_bf_41 : zCT E 0 zm_X1_bodyFor [.int (nI 4), .int (nI 1)] M (some (.int (nI 23))) M := by
  refine zCT.of (by decide +kernel) (Nat.le_of_ble_eq_true rfl) ?_
  refine zi_iload0 (n := 1) dX1_bodyFor_0 rfl ?_
  refine zi_tableIn (tgt := 72) dX1_bodyFor_1 (by decide) (by decide) rfl (by decide) ?_
  refine zi_iload1 (n := 73) dX1_bodyFor_72 rfl ?_
  refine zi_ifne (n := 76) (tgt := 81) dX1_bodyFor_73 rfl (by decide) (fun h73 => ?_) (fun h73 => ?_)
  · refine zi_bipush (n := 83) (nI 23) dX1_bodyFor_81 rfl (by decide) ?_
    exact zi_iret dX1_bodyFor_83 rfl (by rfl) (by rfl)
  · exact absurd h73 (by decide)
set_option maxHeartbeats 4000000 in
set_option maxRecDepth 100000 in
theorem c_bf_50 : zCT E 0 zm_X1_bodyFor [.int (nI 5), .int (nI 0)] M (some (.int (nI 14))) M := by
  refine zCT.of (by decide +kernel) (Nat.le_of_ble_eq_true rfl) ?_
  refine zi_iload0 (n := 1) dX1_bodyFor_0 rfl ?_
  refine zi_tableIn (tgt := 84) dX1_bodyFor_1 (by decide) (by decide) rfl (by decide) ?_
  refine zi_iload1 (n := 85) dX1_bodyFor_84 rfl ?_
  refine zi_ifne (n := 88) (tgt := 93) dX1_bodyFor_85 rfl (by decide) (fun h85 => ?_) (fun h85 => ?_)
  · exact absurd rfl h85
  · refine zi_bipush (n := 90) (nI 14) dX1_bodyFor_88 rfl (by decide) ?_
    refine zi_goto (tgt := 95) dX1_bodyFor_90 (by decide) ?_
    exact zi_iret dX1_bodyFor_95 rfl (by rfl) (by rfl)
set_option maxHeartbeats 4000000 in
set_option maxRecDepth 100000 in
theorem c_bf_51 : zCT E 0 zm_X1_bodyFor [.int (nI 5), .int (nI 1)] M (some (.int (nI 23))) M := by
  refine zCT.of (by decide +kernel) (Nat.le_of_ble_eq_true rfl) ?_
  refine zi_iload0 (n := 1) dX1_bodyFor_0 rfl ?_
  refine zi_tableIn (tgt := 84) dX1_bodyFor_1 (by decide) (by decide) rfl (by decide) ?_
  refine zi_iload1 (n := 85) dX1_bodyFor_84 rfl ?_
  refine zi_ifne (n := 88) (tgt := 93) dX1_bodyFor_85 rfl (by decide) (fun h85 => ?_) (fun h85 => ?_)
  · refine zi_bipush (n := 95) (nI 23) dX1_bodyFor_93 rfl (by decide) ?_
    exact zi_iret dX1_bodyFor_95 rfl (by rfl) (by rfl)
  · exact absurd h85 (by decide)
set_option maxHeartbeats 4000000 in
set_option maxRecDepth 100000 in
theorem c_b10 (hw : w.1 ≤ 16) (hp : p < 6) (hd : dep + 0 ≤ 12) : zCT E 1 zm_X1_body [.ref (zad E 163), .int (nI 10), .int (nI p), .int (nI dep)] (Q, zTM Z w) (some (.int (Q 1 4 p))) (Q, zTM Z (zpush w (nI 10))) := by
  refine zCT.of (by decide +kernel) (Nat.le_of_ble_eq_true rfl) ?_
  have pl := fun (v : zTf) (x : Int32) (h : v.1 ≤ 16) => zpush_le (w := v) (x := x) h
  refine zi_iload3 (n := 1) dX1_body_0 rfl ?_
  refine zi_bipush (n := 3) (nI 12) dX1_body_1 rfl (by decide) ?_
  refine zi_icle (n := 6) (tgt := 8) dX1_body_3 rfl (by decide) (fun h3 => ?_) (fun h3 => ?_)
  · refine zi_aload0 (n := 9) dX1_body_8 rfl ?_
    refine zi_iload1 (n := 10) dX1_body_9 rfl ?_
    refine zi_V1v (mj := zm_X1_leaveTrace) (n := 13) dX1_body_10 rfl zl_X1_39 zy_X1_leaveTrace (zrc_X1 _ _) (by decide) (Nat.le_of_ble_eq_true rfl) (c_X1_leaveTrace hw) ?_
    refine zi_iload3 (n := 14) dX1_body_13 rfl ?_
    refine zi_iconst (n := 15) (nI 1) dX1_body_14 rfl (by decide) ?_
    refine zi_iadd (n := 16) dX1_body_15 rfl ?_
    rw [nI_add]
    refine zi_istore4 (n := 18) dX1_body_16 rfl (by decide) rfl ?_
    refine zi_iload1 (n := 19) dX1_body_18 rfl ?_
    refine zi_tableIn (tgt := 92) dX1_body_19 (by decide) (by decide) rfl (by decide) ?_
    refine zi_aload0 (n := 93) dX1_body_92 rfl ?_
    refine zg_X1_0 (n := 96) dX1_body_93 rfl zl_X1_15 ?_
    refine zgN_X4_12 (n := 99) dX1_body_96 rfl zl_X1_43 (by omega) ?_
    refine zi_iload2 (n := 100) dX1_body_99 rfl ?_
    refine zi_qald (n := 101) dX1_body_100 rfl (by omega) (by decide) rfl (by omega) rfl ?_
    exact zi_iret dX1_body_101 rfl (by rfl) (by rfl)
  · exact absurd (nI_le (by omega) (by omega)) h3
set_option maxHeartbeats 4000000 in
set_option maxRecDepth 100000 in
theorem c_b20 (hw : w.1 ≤ 16) (hp : p < 6) (hd : dep + 0 ≤ 12) : zCT E 1 zm_X1_body [.ref (zad E 163), .int (nI 20), .int (nI p), .int (nI dep)] (Q, zTM Z w) (some (.int (nI p))) (Q, zTM Z (zpush w (nI 20))) := by
  refine zCT.of (by decide +kernel) (Nat.le_of_ble_eq_true rfl) ?_
  have pl := fun (v : zTf) (x : Int32) (h : v.1 ≤ 16) => zpush_le (w := v) (x := x) h
  refine zi_iload3 (n := 1) dX1_body_0 rfl ?_
  refine zi_bipush (n := 3) (nI 12) dX1_body_1 rfl (by decide) ?_
  refine zi_icle (n := 6) (tgt := 8) dX1_body_3 rfl (by decide) (fun h3 => ?_) (fun h3 => ?_)
  · refine zi_aload0 (n := 9) dX1_body_8 rfl ?_
    refine zi_iload1 (n := 10) dX1_body_9 rfl ?_
    refine zi_V1v (mj := zm_X1_leaveTrace) (n := 13) dX1_body_10 rfl zl_X1_39 zy_X1_leaveTrace (zrc_X1 _ _) (by decide) (Nat.le_of_ble_eq_true rfl) (c_X1_leaveTrace hw) ?_
    refine zi_iload3 (n := 14) dX1_body_13 rfl ?_
    refine zi_iconst (n := 15) (nI 1) dX1_body_14 rfl (by decide) ?_
    refine zi_iadd (n := 16) dX1_body_15 rfl ?_
    rw [nI_add]
    refine zi_istore4 (n := 18) dX1_body_16 rfl (by decide) rfl ?_
    refine zi_iload1 (n := 19) dX1_body_18 rfl ?_
    refine zi_tableIn (tgt := 157) dX1_body_19 (by decide) (by decide) rfl (by decide) ?_
    refine zi_iload2 (n := 158) dX1_body_157 rfl ?_
    exact zi_iret dX1_body_158 rfl (by rfl) (by rfl)
  · exact absurd (nI_le (by omega) (by omega)) h3
set_option maxHeartbeats 4000000 in
set_option maxRecDepth 100000 in
theorem c_b13 (hw : w.1 ≤ 16) (hp : p < 6) (hd : dep + 1 ≤ 12) : zCT E 2 zm_X1_body [.ref (zad E 163), .int (nI 13), .int (nI p), .int (nI dep)] (Q, zTM Z w) (some (.int (Q 1 4 p - nI 100))) (Q, zTM Z (zpush (zpush w (nI 13)) (nI 10))) := by
  refine zCT.of (by decide +kernel) (Nat.le_of_ble_eq_true rfl) ?_
  have pl := fun (v : zTf) (x : Int32) (h : v.1 ≤ 16) => zpush_le (w := v) (x := x) h
  refine zi_iload3 (n := 1) dX1_body_0 rfl ?_
  refine zi_bipush (n := 3) (nI 12) dX1_body_1 rfl (by decide) ?_
  refine zi_icle (n := 6) (tgt := 8) dX1_body_3 rfl (by decide) (fun h3 => ?_) (fun h3 => ?_)
  · refine zi_aload0 (n := 9) dX1_body_8 rfl ?_
    refine zi_iload1 (n := 10) dX1_body_9 rfl ?_
    refine zi_V1v (mj := zm_X1_leaveTrace) (n := 13) dX1_body_10 rfl zl_X1_39 zy_X1_leaveTrace (zrc_X1 _ _) (by decide) (Nat.le_of_ble_eq_true rfl) (c_X1_leaveTrace hw) ?_
    refine zi_iload3 (n := 14) dX1_body_13 rfl ?_
    refine zi_iconst (n := 15) (nI 1) dX1_body_14 rfl (by decide) ?_
    refine zi_iadd (n := 16) dX1_body_15 rfl ?_
    rw [nI_add]
    refine zi_istore4 (n := 18) dX1_body_16 rfl (by decide) rfl ?_
    refine zi_iload1 (n := 19) dX1_body_18 rfl ?_
    refine zi_tableIn (tgt := 132) dX1_body_19 (by decide) (by decide) rfl (by decide) ?_
    refine zi_aload0 (n := 133) dX1_body_132 rfl ?_
    refine zi_bipush (n := 135) (nI 10) dX1_body_133 rfl (by decide) ?_
    refine zi_iload2 (n := 136) dX1_body_135 rfl ?_
    refine zi_iload4 (n := 138) dX1_body_136 rfl ?_
    refine zi_S4s (mj := zm_X1_body) (n := 141) dX1_body_138 rfl zl_X1_36 zy_X1_body (by decide) (Nat.le_of_ble_eq_true rfl) (c_b10 (pl _ _ hw) hp (by omega)) ?_
    refine zi_bipush (n := 143) (nI 100) dX1_body_141 rfl (by decide) ?_
    refine zi_isub (n := 144) dX1_body_143 rfl ?_
    exact zi_iret dX1_body_144 rfl (by rfl) (by rfl)
  · exact absurd (nI_le (by omega) (by omega)) h3
set_option maxHeartbeats 4000000 in
set_option maxRecDepth 100000 in
theorem c_b14 (hw : w.1 ≤ 16) (hp : p < 6) (hd : dep + 2 ≤ 12) : zCT E 3 zm_X1_body [.ref (zad E 163), .int (nI 14), .int (nI p), .int (nI dep)] (Q, zTM Z w) (some (.int ((Q 1 4 p - nI 100) * nI 2))) (Q, zTM Z (zpush (zpush (zpush w (nI 14)) (nI 13)) (nI 10))) := by
  refine zCT.of (by decide +kernel) (Nat.le_of_ble_eq_true rfl) ?_
  have pl := fun (v : zTf) (x : Int32) (h : v.1 ≤ 16) => zpush_le (w := v) (x := x) h
  refine zi_iload3 (n := 1) dX1_body_0 rfl ?_
  refine zi_bipush (n := 3) (nI 12) dX1_body_1 rfl (by decide) ?_
  refine zi_icle (n := 6) (tgt := 8) dX1_body_3 rfl (by decide) (fun h3 => ?_) (fun h3 => ?_)
  · refine zi_aload0 (n := 9) dX1_body_8 rfl ?_
    refine zi_iload1 (n := 10) dX1_body_9 rfl ?_
    refine zi_V1v (mj := zm_X1_leaveTrace) (n := 13) dX1_body_10 rfl zl_X1_39 zy_X1_leaveTrace (zrc_X1 _ _) (by decide) (Nat.le_of_ble_eq_true rfl) (c_X1_leaveTrace hw) ?_
    refine zi_iload3 (n := 14) dX1_body_13 rfl ?_
    refine zi_iconst (n := 15) (nI 1) dX1_body_14 rfl (by decide) ?_
    refine zi_iadd (n := 16) dX1_body_15 rfl ?_
    rw [nI_add]
    refine zi_istore4 (n := 18) dX1_body_16 rfl (by decide) rfl ?_
    refine zi_iload1 (n := 19) dX1_body_18 rfl ?_
    refine zi_tableIn (tgt := 145) dX1_body_19 (by decide) (by decide) rfl (by decide) ?_
    refine zi_aload0 (n := 146) dX1_body_145 rfl ?_
    refine zi_bipush (n := 148) (nI 13) dX1_body_146 rfl (by decide) ?_
    refine zi_iload2 (n := 149) dX1_body_148 rfl ?_
    refine zi_iload4 (n := 151) dX1_body_149 rfl ?_
    refine zi_S4s (mj := zm_X1_body) (n := 154) dX1_body_151 rfl zl_X1_36 zy_X1_body (by decide) (Nat.le_of_ble_eq_true rfl) (c_b13 (pl _ _ hw) hp (by omega)) ?_
    refine zi_iconst (n := 155) (nI 2) dX1_body_154 rfl (by decide) ?_
    refine zi_imul (n := 156) dX1_body_155 rfl ?_
    exact zi_iret dX1_body_156 rfl (by rfl) (by rfl)
  · exact absurd (nI_le (by omega) (by omega)) h3
set_option maxHeartbeats 4000000 in
set_option maxRecDepth 100000 in
theorem c_b21 (hw : w.1 ≤ 16) (hp : p < 6) (hd : dep + 1 ≤ 12) : zCT E 2 zm_X1_body [.ref (zad E 163), .int (nI 21), .int (nI p), .int (nI dep)] (Q, zTM Z w) (some (.int (nI p + Q 1 2 p))) (Q, zTM Z (zpush (zpush w (nI 21)) (nI 20))) := by
  refine zCT.of (by decide +kernel) (Nat.le_of_ble_eq_true rfl) ?_
  have pl := fun (v : zTf) (x : Int32) (h : v.1 ≤ 16) => zpush_le (w := v) (x := x) h
  refine zi_iload3 (n := 1) dX1_body_0 rfl ?_
  refine zi_bipush (n := 3) (nI 12) dX1_body_1 rfl (by decide) ?_
  refine zi_icle (n := 6) (tgt := 8) dX1_body_3 rfl (by decide) (fun h3 => ?_) (fun h3 => ?_)
  · refine zi_aload0 (n := 9) dX1_body_8 rfl ?_
    refine zi_iload1 (n := 10) dX1_body_9 rfl ?_
    refine zi_V1v (mj := zm_X1_leaveTrace) (n := 13) dX1_body_10 rfl zl_X1_39 zy_X1_leaveTrace (zrc_X1 _ _) (by decide) (Nat.le_of_ble_eq_true rfl) (c_X1_leaveTrace hw) ?_
    refine zi_iload3 (n := 14) dX1_body_13 rfl ?_
    refine zi_iconst (n := 15) (nI 1) dX1_body_14 rfl (by decide) ?_
    refine zi_iadd (n := 16) dX1_body_15 rfl ?_
    rw [nI_add]
    refine zi_istore4 (n := 18) dX1_body_16 rfl (by decide) rfl ?_
    refine zi_iload1 (n := 19) dX1_body_18 rfl ?_
    refine zi_tableIn (tgt := 159) dX1_body_19 (by decide) (by decide) rfl (by decide) ?_
    refine zi_aload0 (n := 160) dX1_body_159 rfl ?_
    refine zi_bipush (n := 162) (nI 20) dX1_body_160 rfl (by decide) ?_
    refine zi_iload2 (n := 163) dX1_body_162 rfl ?_
    refine zi_iload4 (n := 165) dX1_body_163 rfl ?_
    refine zi_S4s (mj := zm_X1_body) (n := 168) dX1_body_165 rfl zl_X1_36 zy_X1_body (by decide) (Nat.le_of_ble_eq_true rfl) (c_b20 (pl _ _ hw) hp (by omega)) ?_
    refine zi_aload0 (n := 169) dX1_body_168 rfl ?_
    refine zg_X1_0 (n := 172) dX1_body_169 rfl zl_X1_15 ?_
    refine zgN_X4_10 (n := 175) dX1_body_172 rfl zl_X1_46 (by omega) ?_
    refine zi_iload2 (n := 176) dX1_body_175 rfl ?_
    refine zi_qald (n := 177) dX1_body_176 rfl (by omega) (by decide) rfl (by omega) rfl ?_
    refine zi_iadd (n := 178) dX1_body_177 rfl ?_
    exact zi_iret dX1_body_178 rfl (by rfl) (by rfl)
  · exact absurd (nI_le (by omega) (by omega)) h3
set_option maxHeartbeats 4000000 in
set_option maxRecDepth 100000 in
theorem c_b22 (hw : w.1 ≤ 16) (hp : p < 6) (hd : dep + 2 ≤ 12) : zCT E 3 zm_X1_body [.ref (zad E 163), .int (nI 22), .int (nI p), .int (nI dep)] (Q, zTM Z w) (some (.int (nI p + Q 1 2 p - nI 1000))) (Q, zTM Z (zpush (zpush (zpush w (nI 22)) (nI 21)) (nI 20))) := by
  refine zCT.of (by decide +kernel) (Nat.le_of_ble_eq_true rfl) ?_
  have pl := fun (v : zTf) (x : Int32) (h : v.1 ≤ 16) => zpush_le (w := v) (x := x) h
  refine zi_iload3 (n := 1) dX1_body_0 rfl ?_
  refine zi_bipush (n := 3) (nI 12) dX1_body_1 rfl (by decide) ?_
  refine zi_icle (n := 6) (tgt := 8) dX1_body_3 rfl (by decide) (fun h3 => ?_) (fun h3 => ?_)
  · refine zi_aload0 (n := 9) dX1_body_8 rfl ?_
    refine zi_iload1 (n := 10) dX1_body_9 rfl ?_
    refine zi_V1v (mj := zm_X1_leaveTrace) (n := 13) dX1_body_10 rfl zl_X1_39 zy_X1_leaveTrace (zrc_X1 _ _) (by decide) (Nat.le_of_ble_eq_true rfl) (c_X1_leaveTrace hw) ?_
    refine zi_iload3 (n := 14) dX1_body_13 rfl ?_
    refine zi_iconst (n := 15) (nI 1) dX1_body_14 rfl (by decide) ?_
    refine zi_iadd (n := 16) dX1_body_15 rfl ?_
    rw [nI_add]
    refine zi_istore4 (n := 18) dX1_body_16 rfl (by decide) rfl ?_
    refine zi_iload1 (n := 19) dX1_body_18 rfl ?_
    refine zi_tableIn (tgt := 179) dX1_body_19 (by decide) (by decide) rfl (by decide) ?_
    refine zi_aload0 (n := 180) dX1_body_179 rfl ?_
    refine zi_bipush (n := 182) (nI 21) dX1_body_180 rfl (by decide) ?_
    refine zi_iload2 (n := 183) dX1_body_182 rfl ?_
    refine zi_iload4 (n := 185) dX1_body_183 rfl ?_
    refine zi_S4s (mj := zm_X1_body) (n := 188) dX1_body_185 rfl zl_X1_36 zy_X1_body (by decide) (Nat.le_of_ble_eq_true rfl) (c_b21 (pl _ _ hw) hp (by omega)) ?_
    refine zi_sipush (n := 191) (nI 1000) dX1_body_188 rfl (by decide) ?_
    refine zi_isub (n := 192) dX1_body_191 rfl ?_
    exact zi_iret dX1_body_192 rfl (by rfl) (by rfl)
  · exact absurd (nI_le (by omega) (by omega)) h3
set_option maxHeartbeats 4000000 in
set_option maxRecDepth 100000 in
theorem c_b24 (hw : w.1 ≤ 16) (hp : p < 6) (hd : dep + 2 ≤ 12) : zCT E 3 zm_X1_body [.ref (zad E 163), .int (nI 24), .int (nI p), .int (nI dep)] (Q, zTM Z w) (some (.int ((nI p + Q 1 2 p) * nI 2))) (Q, zTM Z (zpush (zpush (zpush w (nI 24)) (nI 21)) (nI 20))) := by
  refine zCT.of (by decide +kernel) (Nat.le_of_ble_eq_true rfl) ?_
  have pl := fun (v : zTf) (x : Int32) (h : v.1 ≤ 16) => zpush_le (w := v) (x := x) h
  refine zi_iload3 (n := 1) dX1_body_0 rfl ?_
  refine zi_bipush (n := 3) (nI 12) dX1_body_1 rfl (by decide) ?_
  refine zi_icle (n := 6) (tgt := 8) dX1_body_3 rfl (by decide) (fun h3 => ?_) (fun h3 => ?_)
  · refine zi_aload0 (n := 9) dX1_body_8 rfl ?_
    refine zi_iload1 (n := 10) dX1_body_9 rfl ?_
    refine zi_V1v (mj := zm_X1_leaveTrace) (n := 13) dX1_body_10 rfl zl_X1_39 zy_X1_leaveTrace (zrc_X1 _ _) (by decide) (Nat.le_of_ble_eq_true rfl) (c_X1_leaveTrace hw) ?_
    refine zi_iload3 (n := 14) dX1_body_13 rfl ?_
    refine zi_iconst (n := 15) (nI 1) dX1_body_14 rfl (by decide) ?_
    refine zi_iadd (n := 16) dX1_body_15 rfl ?_
    rw [nI_add]
    refine zi_istore4 (n := 18) dX1_body_16 rfl (by decide) rfl ?_
    refine zi_iload1 (n := 19) dX1_body_18 rfl ?_
    refine zi_tableIn (tgt := 212) dX1_body_19 (by decide) (by decide) rfl (by decide) ?_
    refine zi_aload0 (n := 213) dX1_body_212 rfl ?_
    refine zi_bipush (n := 215) (nI 21) dX1_body_213 rfl (by decide) ?_
    refine zi_iload2 (n := 216) dX1_body_215 rfl ?_
    refine zi_iload4 (n := 218) dX1_body_216 rfl ?_
    refine zi_S4s (mj := zm_X1_body) (n := 221) dX1_body_218 rfl zl_X1_36 zy_X1_body (by decide) (Nat.le_of_ble_eq_true rfl) (c_b21 (pl _ _ hw) hp (by omega)) ?_
    refine zi_iconst (n := 222) (nI 2) dX1_body_221 rfl (by decide) ?_
    refine zi_imul (n := 223) dX1_body_222 rfl ?_
    exact zi_iret dX1_body_223 rfl (by rfl) (by rfl)
  · exact absurd (nI_le (by omega) (by omega)) h3
set_option maxHeartbeats 4000000 in
set_option maxRecDepth 100000 in
theorem c_am_1 (hw : w.1 ≤ 16) (hp : p < 6) (hk : Q 1 1 p = nI 1) (hd : dep + 1 ≤ 12) : zCT E 3 zm_X1_anew [.ref (zad E 163), .int (nI p), .int (nI 1), .int (nI dep)] (Q, zTM Z w) (some (.int (nI p + Q 1 2 p))) (Q, zTM Z (zpush (zpush w (nI 21)) (nI 20))) := by
  refine zCT.of (by decide +kernel) (Nat.le_of_ble_eq_true rfl) ?_
  refine zi_aload0 (n := 1) dX1_anew_0 rfl ?_
  refine zi_aload0 (n := 2) dX1_anew_1 rfl ?_
  refine zg_X1_0 (n := 5) dX1_anew_2 rfl zl_X1_15 ?_
  refine zgN_X4_9 (n := 8) dX1_anew_5 rfl zl_X1_27 (by omega) ?_
  refine zi_iload1 (n := 9) dX1_anew_8 rfl ?_
  refine zi_qald (n := 10) dX1_anew_9 rfl (by decide) (by decide) rfl hp hk ?_
  refine zi_iload2 (n := 11) dX1_anew_10 rfl ?_
  refine zi_S2s (mj := zm_X1_bodyFor) (n := 14) dX1_anew_11 rfl zl_X1_32 zy_X1_bodyFor (by decide) (Nat.le_of_ble_eq_true rfl) c_bf_11 ?_
  refine zi_iload1 (n := 15) dX1_anew_14 rfl ?_
  refine zi_iload3 (n := 16) dX1_anew_15 rfl ?_
  refine zi_S4s (mj := zm_X1_body) (n := 19) dX1_anew_16 rfl zl_X1_36 zy_X1_body (by decide) (Nat.le_of_ble_eq_true rfl) (c_b21 hw hp (by omega)) ?_
  exact zi_iret dX1_anew_19 rfl (by rfl) (by rfl)
set_option maxHeartbeats 4000000 in
set_option maxRecDepth 100000 in
theorem c_b11_1 (hw : w.1 ≤ 16) (hp : p < 6) (hk : Q 1 1 p = nI 1) (hd : dep + 2 ≤ 12) : zCT E 4 zm_X1_body [.ref (zad E 163), .int (nI 11), .int (nI p), .int (nI dep)] (Q, zTM Z w) (some (.int (Q 1 4 p + (nI p + Q 1 2 p)))) (Q, zTM Z (zpush (zpush (zpush (zpush w (nI 11)) (nI 10)) (nI 21)) (nI 20))) := by
  refine zCT.of (by decide +kernel) (Nat.le_of_ble_eq_true rfl) ?_
  have pl := fun (v : zTf) (x : Int32) (h : v.1 ≤ 16) => zpush_le (w := v) (x := x) h
  refine zi_iload3 (n := 1) dX1_body_0 rfl ?_
  refine zi_bipush (n := 3) (nI 12) dX1_body_1 rfl (by decide) ?_
  refine zi_icle (n := 6) (tgt := 8) dX1_body_3 rfl (by decide) (fun h3 => ?_) (fun h3 => ?_)
  · refine zi_aload0 (n := 9) dX1_body_8 rfl ?_
    refine zi_iload1 (n := 10) dX1_body_9 rfl ?_
    refine zi_V1v (mj := zm_X1_leaveTrace) (n := 13) dX1_body_10 rfl zl_X1_39 zy_X1_leaveTrace (zrc_X1 _ _) (by decide) (Nat.le_of_ble_eq_true rfl) (c_X1_leaveTrace hw) ?_
    refine zi_iload3 (n := 14) dX1_body_13 rfl ?_
    refine zi_iconst (n := 15) (nI 1) dX1_body_14 rfl (by decide) ?_
    refine zi_iadd (n := 16) dX1_body_15 rfl ?_
    rw [nI_add]
    refine zi_istore4 (n := 18) dX1_body_16 rfl (by decide) rfl ?_
    refine zi_iload1 (n := 19) dX1_body_18 rfl ?_
    refine zi_tableIn (tgt := 102) dX1_body_19 (by decide) (by decide) rfl (by decide) ?_
    refine zi_aload0 (n := 103) dX1_body_102 rfl ?_
    refine zi_bipush (n := 105) (nI 10) dX1_body_103 rfl (by decide) ?_
    refine zi_iload2 (n := 106) dX1_body_105 rfl ?_
    refine zi_iload4 (n := 108) dX1_body_106 rfl ?_
    refine zi_S4s (mj := zm_X1_body) (n := 111) dX1_body_108 rfl zl_X1_36 zy_X1_body (by decide) (Nat.le_of_ble_eq_true rfl) (c_b10 (pl _ _ hw) hp (by omega)) ?_
    refine zi_aload0 (n := 112) dX1_body_111 rfl ?_
    refine zi_iload2 (n := 113) dX1_body_112 rfl ?_
    refine zi_iconst (n := 114) (nI 1) dX1_body_113 rfl (by decide) ?_
    refine zi_iload4 (n := 116) dX1_body_114 rfl ?_
    refine zi_S4s (mj := zm_X1_anew) (n := 119) dX1_body_116 rfl zl_X1_23 zy_X1_anew (by decide) (Nat.le_of_ble_eq_true rfl) (c_am_1 (pl _ _ (pl _ _ hw)) hp hk (by omega)) ?_
    refine zi_iadd (n := 120) dX1_body_119 rfl ?_
    exact zi_iret dX1_body_120 rfl (by rfl) (by rfl)
  · exact absurd (nI_le (by omega) (by omega)) h3
set_option maxHeartbeats 4000000 in
set_option maxRecDepth 100000 in
theorem c_am_2 (hw : w.1 ≤ 16) (hp : p < 6) (hk : Q 1 1 p = nI 2) (hd : dep + 2 ≤ 12) : zCT E 4 zm_X1_anew [.ref (zad E 163), .int (nI p), .int (nI 1), .int (nI dep)] (Q, zTM Z w) (some (.int ((nI p + Q 1 2 p) * nI 2))) (Q, zTM Z (zpush (zpush (zpush w (nI 24)) (nI 21)) (nI 20))) := by
  refine zCT.of (by decide +kernel) (Nat.le_of_ble_eq_true rfl) ?_
  refine zi_aload0 (n := 1) dX1_anew_0 rfl ?_
  refine zi_aload0 (n := 2) dX1_anew_1 rfl ?_
  refine zg_X1_0 (n := 5) dX1_anew_2 rfl zl_X1_15 ?_
  refine zgN_X4_9 (n := 8) dX1_anew_5 rfl zl_X1_27 (by omega) ?_
  refine zi_iload1 (n := 9) dX1_anew_8 rfl ?_
  refine zi_qald (n := 10) dX1_anew_9 rfl (by decide) (by decide) rfl hp hk ?_
  refine zi_iload2 (n := 11) dX1_anew_10 rfl ?_
  refine zi_S2s (mj := zm_X1_bodyFor) (n := 14) dX1_anew_11 rfl zl_X1_32 zy_X1_bodyFor (by decide) (Nat.le_of_ble_eq_true rfl) c_bf_21 ?_
  refine zi_iload1 (n := 15) dX1_anew_14 rfl ?_
  refine zi_iload3 (n := 16) dX1_anew_15 rfl ?_
  refine zi_S4s (mj := zm_X1_body) (n := 19) dX1_anew_16 rfl zl_X1_36 zy_X1_body (by decide) (Nat.le_of_ble_eq_true rfl) (c_b24 hw hp (by omega)) ?_
  exact zi_iret dX1_anew_19 rfl (by rfl) (by rfl)
set_option maxHeartbeats 4000000 in
set_option maxRecDepth 100000 in
theorem c_b11_2 (hw : w.1 ≤ 16) (hp : p < 6) (hk : Q 1 1 p = nI 2) (hd : dep + 3 ≤ 12) : zCT E 5 zm_X1_body [.ref (zad E 163), .int (nI 11), .int (nI p), .int (nI dep)] (Q, zTM Z w) (some (.int (Q 1 4 p + ((nI p + Q 1 2 p) * nI 2)))) (Q, zTM Z (zpush (zpush (zpush (zpush (zpush w (nI 11)) (nI 10)) (nI 24)) (nI 21)) (nI 20))) := by
  refine zCT.of (by decide +kernel) (Nat.le_of_ble_eq_true rfl) ?_
  have pl := fun (v : zTf) (x : Int32) (h : v.1 ≤ 16) => zpush_le (w := v) (x := x) h
  refine zi_iload3 (n := 1) dX1_body_0 rfl ?_
  refine zi_bipush (n := 3) (nI 12) dX1_body_1 rfl (by decide) ?_
  refine zi_icle (n := 6) (tgt := 8) dX1_body_3 rfl (by decide) (fun h3 => ?_) (fun h3 => ?_)
  · refine zi_aload0 (n := 9) dX1_body_8 rfl ?_
    refine zi_iload1 (n := 10) dX1_body_9 rfl ?_
    refine zi_V1v (mj := zm_X1_leaveTrace) (n := 13) dX1_body_10 rfl zl_X1_39 zy_X1_leaveTrace (zrc_X1 _ _) (by decide) (Nat.le_of_ble_eq_true rfl) (c_X1_leaveTrace hw) ?_
    refine zi_iload3 (n := 14) dX1_body_13 rfl ?_
    refine zi_iconst (n := 15) (nI 1) dX1_body_14 rfl (by decide) ?_
    refine zi_iadd (n := 16) dX1_body_15 rfl ?_
    rw [nI_add]
    refine zi_istore4 (n := 18) dX1_body_16 rfl (by decide) rfl ?_
    refine zi_iload1 (n := 19) dX1_body_18 rfl ?_
    refine zi_tableIn (tgt := 102) dX1_body_19 (by decide) (by decide) rfl (by decide) ?_
    refine zi_aload0 (n := 103) dX1_body_102 rfl ?_
    refine zi_bipush (n := 105) (nI 10) dX1_body_103 rfl (by decide) ?_
    refine zi_iload2 (n := 106) dX1_body_105 rfl ?_
    refine zi_iload4 (n := 108) dX1_body_106 rfl ?_
    refine zi_S4s (mj := zm_X1_body) (n := 111) dX1_body_108 rfl zl_X1_36 zy_X1_body (by decide) (Nat.le_of_ble_eq_true rfl) (c_b10 (pl _ _ hw) hp (by omega)) ?_
    refine zi_aload0 (n := 112) dX1_body_111 rfl ?_
    refine zi_iload2 (n := 113) dX1_body_112 rfl ?_
    refine zi_iconst (n := 114) (nI 1) dX1_body_113 rfl (by decide) ?_
    refine zi_iload4 (n := 116) dX1_body_114 rfl ?_
    refine zi_S4s (mj := zm_X1_anew) (n := 119) dX1_body_116 rfl zl_X1_23 zy_X1_anew (by decide) (Nat.le_of_ble_eq_true rfl) (c_am_2 (pl _ _ (pl _ _ hw)) hp hk (by omega)) ?_
    refine zi_iadd (n := 120) dX1_body_119 rfl ?_
    exact zi_iret dX1_body_120 rfl (by rfl) (by rfl)
  · exact absurd (nI_le (by omega) (by omega)) h3
set_option maxHeartbeats 4000000 in
set_option maxRecDepth 100000 in
theorem c_am_3 (hw : w.1 ≤ 16) (hp : p < 6) (hk : Q 1 1 p = nI 3) (hd : dep + 2 ≤ 12) : zCT E 4 zm_X1_anew [.ref (zad E 163), .int (nI p), .int (nI 1), .int (nI dep)] (Q, zTM Z w) (some (.int (nI p + Q 1 2 p - nI 1000))) (Q, zTM Z (zpush (zpush (zpush w (nI 22)) (nI 21)) (nI 20))) := by
  refine zCT.of (by decide +kernel) (Nat.le_of_ble_eq_true rfl) ?_
  refine zi_aload0 (n := 1) dX1_anew_0 rfl ?_
  refine zi_aload0 (n := 2) dX1_anew_1 rfl ?_
  refine zg_X1_0 (n := 5) dX1_anew_2 rfl zl_X1_15 ?_
  refine zgN_X4_9 (n := 8) dX1_anew_5 rfl zl_X1_27 (by omega) ?_
  refine zi_iload1 (n := 9) dX1_anew_8 rfl ?_
  refine zi_qald (n := 10) dX1_anew_9 rfl (by decide) (by decide) rfl hp hk ?_
  refine zi_iload2 (n := 11) dX1_anew_10 rfl ?_
  refine zi_S2s (mj := zm_X1_bodyFor) (n := 14) dX1_anew_11 rfl zl_X1_32 zy_X1_bodyFor (by decide) (Nat.le_of_ble_eq_true rfl) c_bf_31 ?_
  refine zi_iload1 (n := 15) dX1_anew_14 rfl ?_
  refine zi_iload3 (n := 16) dX1_anew_15 rfl ?_
  refine zi_S4s (mj := zm_X1_body) (n := 19) dX1_anew_16 rfl zl_X1_36 zy_X1_body (by decide) (Nat.le_of_ble_eq_true rfl) (c_b22 hw hp (by omega)) ?_
  exact zi_iret dX1_anew_19 rfl (by rfl) (by rfl)
set_option maxHeartbeats 4000000 in
set_option maxRecDepth 100000 in
theorem c_b11_3 (hw : w.1 ≤ 16) (hp : p < 6) (hk : Q 1 1 p = nI 3) (hd : dep + 3 ≤ 12) : zCT E 5 zm_X1_body [.ref (zad E 163), .int (nI 11), .int (nI p), .int (nI dep)] (Q, zTM Z w) (some (.int (Q 1 4 p + (nI p + Q 1 2 p - nI 1000)))) (Q, zTM Z (zpush (zpush (zpush (zpush (zpush w (nI 11)) (nI 10)) (nI 22)) (nI 21)) (nI 20))) := by
  refine zCT.of (by decide +kernel) (Nat.le_of_ble_eq_true rfl) ?_
  have pl := fun (v : zTf) (x : Int32) (h : v.1 ≤ 16) => zpush_le (w := v) (x := x) h
  refine zi_iload3 (n := 1) dX1_body_0 rfl ?_
  refine zi_bipush (n := 3) (nI 12) dX1_body_1 rfl (by decide) ?_
  refine zi_icle (n := 6) (tgt := 8) dX1_body_3 rfl (by decide) (fun h3 => ?_) (fun h3 => ?_)
  · refine zi_aload0 (n := 9) dX1_body_8 rfl ?_
    refine zi_iload1 (n := 10) dX1_body_9 rfl ?_
    refine zi_V1v (mj := zm_X1_leaveTrace) (n := 13) dX1_body_10 rfl zl_X1_39 zy_X1_leaveTrace (zrc_X1 _ _) (by decide) (Nat.le_of_ble_eq_true rfl) (c_X1_leaveTrace hw) ?_
    refine zi_iload3 (n := 14) dX1_body_13 rfl ?_
    refine zi_iconst (n := 15) (nI 1) dX1_body_14 rfl (by decide) ?_
    refine zi_iadd (n := 16) dX1_body_15 rfl ?_
    rw [nI_add]
    refine zi_istore4 (n := 18) dX1_body_16 rfl (by decide) rfl ?_
    refine zi_iload1 (n := 19) dX1_body_18 rfl ?_
    refine zi_tableIn (tgt := 102) dX1_body_19 (by decide) (by decide) rfl (by decide) ?_
    refine zi_aload0 (n := 103) dX1_body_102 rfl ?_
    refine zi_bipush (n := 105) (nI 10) dX1_body_103 rfl (by decide) ?_
    refine zi_iload2 (n := 106) dX1_body_105 rfl ?_
    refine zi_iload4 (n := 108) dX1_body_106 rfl ?_
    refine zi_S4s (mj := zm_X1_body) (n := 111) dX1_body_108 rfl zl_X1_36 zy_X1_body (by decide) (Nat.le_of_ble_eq_true rfl) (c_b10 (pl _ _ hw) hp (by omega)) ?_
    refine zi_aload0 (n := 112) dX1_body_111 rfl ?_
    refine zi_iload2 (n := 113) dX1_body_112 rfl ?_
    refine zi_iconst (n := 114) (nI 1) dX1_body_113 rfl (by decide) ?_
    refine zi_iload4 (n := 116) dX1_body_114 rfl ?_
    refine zi_S4s (mj := zm_X1_anew) (n := 119) dX1_body_116 rfl zl_X1_23 zy_X1_anew (by decide) (Nat.le_of_ble_eq_true rfl) (c_am_3 (pl _ _ (pl _ _ hw)) hp hk (by omega)) ?_
    refine zi_iadd (n := 120) dX1_body_119 rfl ?_
    exact zi_iret dX1_body_120 rfl (by rfl) (by rfl)
  · exact absurd (nI_le (by omega) (by omega)) h3
set_option maxHeartbeats 4000000 in
set_option maxRecDepth 100000 in
theorem c_b12 (hw : w.1 ≤ 16) (hp : p < 6) (hk : Q 1 1 p = nI 2) (hd : dep + 4 ≤ 12) : zCT E 6 zm_X1_body [.ref (zad E 163), .int (nI 12), .int (nI p), .int (nI dep)] (Q, zTM Z w) (some (.int (-(Q 1 4 p + (nI p + Q 1 2 p) * nI 2)))) (Q, zTM Z (zpush (zpush (zpush (zpush (zpush (zpush w (nI 12)) (nI 11)) (nI 10)) (nI 24)) (nI 21)) (nI 20))) := by
  refine zCT.of (by decide +kernel) (Nat.le_of_ble_eq_true rfl) ?_
  have pl := fun (v : zTf) (x : Int32) (h : v.1 ≤ 16) => zpush_le (w := v) (x := x) h
  refine zi_iload3 (n := 1) dX1_body_0 rfl ?_
  refine zi_bipush (n := 3) (nI 12) dX1_body_1 rfl (by decide) ?_
  refine zi_icle (n := 6) (tgt := 8) dX1_body_3 rfl (by decide) (fun h3 => ?_) (fun h3 => ?_)
  · refine zi_aload0 (n := 9) dX1_body_8 rfl ?_
    refine zi_iload1 (n := 10) dX1_body_9 rfl ?_
    refine zi_V1v (mj := zm_X1_leaveTrace) (n := 13) dX1_body_10 rfl zl_X1_39 zy_X1_leaveTrace (zrc_X1 _ _) (by decide) (Nat.le_of_ble_eq_true rfl) (c_X1_leaveTrace hw) ?_
    refine zi_iload3 (n := 14) dX1_body_13 rfl ?_
    refine zi_iconst (n := 15) (nI 1) dX1_body_14 rfl (by decide) ?_
    refine zi_iadd (n := 16) dX1_body_15 rfl ?_
    rw [nI_add]
    refine zi_istore4 (n := 18) dX1_body_16 rfl (by decide) rfl ?_
    refine zi_iload1 (n := 19) dX1_body_18 rfl ?_
    refine zi_tableIn (tgt := 121) dX1_body_19 (by decide) (by decide) rfl (by decide) ?_
    refine zi_aload0 (n := 122) dX1_body_121 rfl ?_
    refine zi_bipush (n := 124) (nI 11) dX1_body_122 rfl (by decide) ?_
    refine zi_iload2 (n := 125) dX1_body_124 rfl ?_
    refine zi_iload4 (n := 127) dX1_body_125 rfl ?_
    refine zi_S4s (mj := zm_X1_body) (n := 130) dX1_body_127 rfl zl_X1_36 zy_X1_body (by decide) (Nat.le_of_ble_eq_true rfl) (c_b11_2 (pl _ _ hw) hp hk (by omega)) ?_
    refine zi_ineg (n := 131) dX1_body_130 rfl ?_
    exact zi_iret dX1_body_131 rfl (by rfl) (by rfl)
  · exact absurd (nI_le (by omega) (by omega)) h3
set_option maxHeartbeats 4000000 in
set_option maxRecDepth 100000 in
theorem c_as_4 (hw : w.1 ≤ 16) (hp : p < 6) (hk : Q 1 1 p = nI 4) (hd : dep + 1 ≤ 12) : zCT E 3 zm_X1_anew [.ref (zad E 163), .int (nI p), .int (nI 0), .int (nI dep)] (Q, zTM Z w) (some (.int (Q 1 4 p - nI 100))) (Q, zTM Z (zpush (zpush w (nI 13)) (nI 10))) := by
  refine zCT.of (by decide +kernel) (Nat.le_of_ble_eq_true rfl) ?_
  refine zi_aload0 (n := 1) dX1_anew_0 rfl ?_
  refine zi_aload0 (n := 2) dX1_anew_1 rfl ?_
  refine zg_X1_0 (n := 5) dX1_anew_2 rfl zl_X1_15 ?_
  refine zgN_X4_9 (n := 8) dX1_anew_5 rfl zl_X1_27 (by omega) ?_
  refine zi_iload1 (n := 9) dX1_anew_8 rfl ?_
  refine zi_qald (n := 10) dX1_anew_9 rfl (by decide) (by decide) rfl hp hk ?_
  refine zi_iload2 (n := 11) dX1_anew_10 rfl ?_
  refine zi_S2s (mj := zm_X1_bodyFor) (n := 14) dX1_anew_11 rfl zl_X1_32 zy_X1_bodyFor (by decide) (Nat.le_of_ble_eq_true rfl) c_bf_40 ?_
  refine zi_iload1 (n := 15) dX1_anew_14 rfl ?_
  refine zi_iload3 (n := 16) dX1_anew_15 rfl ?_
  refine zi_S4s (mj := zm_X1_body) (n := 19) dX1_anew_16 rfl zl_X1_36 zy_X1_body (by decide) (Nat.le_of_ble_eq_true rfl) (c_b13 hw hp (by omega)) ?_
  exact zi_iret dX1_anew_19 rfl (by rfl) (by rfl)
set_option maxHeartbeats 4000000 in
set_option maxRecDepth 100000 in
theorem c_b23_4 (hw : w.1 ≤ 16) (hp : p < 6) (hk : Q 1 1 p = nI 4) (hd : dep + 2 ≤ 12) : zCT E 4 zm_X1_body [.ref (zad E 163), .int (nI 23), .int (nI p), .int (nI dep)] (Q, zTM Z w) (some (.int (nI p - (Q 1 4 p - nI 100)))) (Q, zTM Z (zpush (zpush (zpush (zpush w (nI 23)) (nI 20)) (nI 13)) (nI 10))) := by
  refine zCT.of (by decide +kernel) (Nat.le_of_ble_eq_true rfl) ?_
  have pl := fun (v : zTf) (x : Int32) (h : v.1 ≤ 16) => zpush_le (w := v) (x := x) h
  refine zi_iload3 (n := 1) dX1_body_0 rfl ?_
  refine zi_bipush (n := 3) (nI 12) dX1_body_1 rfl (by decide) ?_
  refine zi_icle (n := 6) (tgt := 8) dX1_body_3 rfl (by decide) (fun h3 => ?_) (fun h3 => ?_)
  · refine zi_aload0 (n := 9) dX1_body_8 rfl ?_
    refine zi_iload1 (n := 10) dX1_body_9 rfl ?_
    refine zi_V1v (mj := zm_X1_leaveTrace) (n := 13) dX1_body_10 rfl zl_X1_39 zy_X1_leaveTrace (zrc_X1 _ _) (by decide) (Nat.le_of_ble_eq_true rfl) (c_X1_leaveTrace hw) ?_
    refine zi_iload3 (n := 14) dX1_body_13 rfl ?_
    refine zi_iconst (n := 15) (nI 1) dX1_body_14 rfl (by decide) ?_
    refine zi_iadd (n := 16) dX1_body_15 rfl ?_
    rw [nI_add]
    refine zi_istore4 (n := 18) dX1_body_16 rfl (by decide) rfl ?_
    refine zi_iload1 (n := 19) dX1_body_18 rfl ?_
    refine zi_tableIn (tgt := 193) dX1_body_19 (by decide) (by decide) rfl (by decide) ?_
    refine zi_aload0 (n := 194) dX1_body_193 rfl ?_
    refine zi_bipush (n := 196) (nI 20) dX1_body_194 rfl (by decide) ?_
    refine zi_iload2 (n := 197) dX1_body_196 rfl ?_
    refine zi_iload4 (n := 199) dX1_body_197 rfl ?_
    refine zi_S4s (mj := zm_X1_body) (n := 202) dX1_body_199 rfl zl_X1_36 zy_X1_body (by decide) (Nat.le_of_ble_eq_true rfl) (c_b20 (pl _ _ hw) hp (by omega)) ?_
    refine zi_aload0 (n := 203) dX1_body_202 rfl ?_
    refine zi_iload2 (n := 204) dX1_body_203 rfl ?_
    refine zi_iconst (n := 205) (nI 0) dX1_body_204 rfl (by decide) ?_
    refine zi_iload4 (n := 207) dX1_body_205 rfl ?_
    refine zi_S4s (mj := zm_X1_anew) (n := 210) dX1_body_207 rfl zl_X1_23 zy_X1_anew (by decide) (Nat.le_of_ble_eq_true rfl) (c_as_4 (pl _ _ (pl _ _ hw)) hp hk (by omega)) ?_
    refine zi_isub (n := 211) dX1_body_210 rfl ?_
    exact zi_iret dX1_body_211 rfl (by rfl) (by rfl)
  · exact absurd (nI_le (by omega) (by omega)) h3
set_option maxHeartbeats 4000000 in
set_option maxRecDepth 100000 in
theorem c_as_5 (hw : w.1 ≤ 16) (hp : p < 6) (hk : Q 1 1 p = nI 5) (hd : dep + 2 ≤ 12) : zCT E 4 zm_X1_anew [.ref (zad E 163), .int (nI p), .int (nI 0), .int (nI dep)] (Q, zTM Z w) (some (.int ((Q 1 4 p - nI 100) * nI 2))) (Q, zTM Z (zpush (zpush (zpush w (nI 14)) (nI 13)) (nI 10))) := by
  refine zCT.of (by decide +kernel) (Nat.le_of_ble_eq_true rfl) ?_
  refine zi_aload0 (n := 1) dX1_anew_0 rfl ?_
  refine zi_aload0 (n := 2) dX1_anew_1 rfl ?_
  refine zg_X1_0 (n := 5) dX1_anew_2 rfl zl_X1_15 ?_
  refine zgN_X4_9 (n := 8) dX1_anew_5 rfl zl_X1_27 (by omega) ?_
  refine zi_iload1 (n := 9) dX1_anew_8 rfl ?_
  refine zi_qald (n := 10) dX1_anew_9 rfl (by decide) (by decide) rfl hp hk ?_
  refine zi_iload2 (n := 11) dX1_anew_10 rfl ?_
  refine zi_S2s (mj := zm_X1_bodyFor) (n := 14) dX1_anew_11 rfl zl_X1_32 zy_X1_bodyFor (by decide) (Nat.le_of_ble_eq_true rfl) c_bf_50 ?_
  refine zi_iload1 (n := 15) dX1_anew_14 rfl ?_
  refine zi_iload3 (n := 16) dX1_anew_15 rfl ?_
  refine zi_S4s (mj := zm_X1_body) (n := 19) dX1_anew_16 rfl zl_X1_36 zy_X1_body (by decide) (Nat.le_of_ble_eq_true rfl) (c_b14 hw hp (by omega)) ?_
  exact zi_iret dX1_anew_19 rfl (by rfl) (by rfl)
set_option maxHeartbeats 4000000 in
set_option maxRecDepth 100000 in
theorem c_b23_5 (hw : w.1 ≤ 16) (hp : p < 6) (hk : Q 1 1 p = nI 5) (hd : dep + 3 ≤ 12) : zCT E 5 zm_X1_body [.ref (zad E 163), .int (nI 23), .int (nI p), .int (nI dep)] (Q, zTM Z w) (some (.int (nI p - ((Q 1 4 p - nI 100) * nI 2)))) (Q, zTM Z (zpush (zpush (zpush (zpush (zpush w (nI 23)) (nI 20)) (nI 14)) (nI 13)) (nI 10))) := by
  refine zCT.of (by decide +kernel) (Nat.le_of_ble_eq_true rfl) ?_
  have pl := fun (v : zTf) (x : Int32) (h : v.1 ≤ 16) => zpush_le (w := v) (x := x) h
  refine zi_iload3 (n := 1) dX1_body_0 rfl ?_
  refine zi_bipush (n := 3) (nI 12) dX1_body_1 rfl (by decide) ?_
  refine zi_icle (n := 6) (tgt := 8) dX1_body_3 rfl (by decide) (fun h3 => ?_) (fun h3 => ?_)
  · refine zi_aload0 (n := 9) dX1_body_8 rfl ?_
    refine zi_iload1 (n := 10) dX1_body_9 rfl ?_
    refine zi_V1v (mj := zm_X1_leaveTrace) (n := 13) dX1_body_10 rfl zl_X1_39 zy_X1_leaveTrace (zrc_X1 _ _) (by decide) (Nat.le_of_ble_eq_true rfl) (c_X1_leaveTrace hw) ?_
    refine zi_iload3 (n := 14) dX1_body_13 rfl ?_
    refine zi_iconst (n := 15) (nI 1) dX1_body_14 rfl (by decide) ?_
    refine zi_iadd (n := 16) dX1_body_15 rfl ?_
    rw [nI_add]
    refine zi_istore4 (n := 18) dX1_body_16 rfl (by decide) rfl ?_
    refine zi_iload1 (n := 19) dX1_body_18 rfl ?_
    refine zi_tableIn (tgt := 193) dX1_body_19 (by decide) (by decide) rfl (by decide) ?_
    refine zi_aload0 (n := 194) dX1_body_193 rfl ?_
    refine zi_bipush (n := 196) (nI 20) dX1_body_194 rfl (by decide) ?_
    refine zi_iload2 (n := 197) dX1_body_196 rfl ?_
    refine zi_iload4 (n := 199) dX1_body_197 rfl ?_
    refine zi_S4s (mj := zm_X1_body) (n := 202) dX1_body_199 rfl zl_X1_36 zy_X1_body (by decide) (Nat.le_of_ble_eq_true rfl) (c_b20 (pl _ _ hw) hp (by omega)) ?_
    refine zi_aload0 (n := 203) dX1_body_202 rfl ?_
    refine zi_iload2 (n := 204) dX1_body_203 rfl ?_
    refine zi_iconst (n := 205) (nI 0) dX1_body_204 rfl (by decide) ?_
    refine zi_iload4 (n := 207) dX1_body_205 rfl ?_
    refine zi_S4s (mj := zm_X1_anew) (n := 210) dX1_body_207 rfl zl_X1_23 zy_X1_anew (by decide) (Nat.le_of_ble_eq_true rfl) (c_as_5 (pl _ _ (pl _ _ hw)) hp hk (by omega)) ?_
    refine zi_isub (n := 211) dX1_body_210 rfl ?_
    exact zi_iret dX1_body_211 rfl (by rfl) (by rfl)
  · exact absurd (nI_le (by omega) (by omega)) h3
set_option maxHeartbeats 4000000 in
set_option maxRecDepth 100000 in
theorem c_a10 (hw : w.1 ≤ 16) (hp : p < 6) (hk : Q 1 1 p = nI 1) (hd : dep + 2 ≤ 12) : zCT E 5 zm_X1_anew [.ref (zad E 163), .int (nI p), .int (nI 0), .int (nI dep)] (Q, zTM Z w) (some (.int (Q 1 4 p + (nI p + Q 1 2 p)))) (Q, zTM Z (zpush (zpush (zpush (zpush w (nI 11)) (nI 10)) (nI 21)) (nI 20))) := by
  refine zCT.of (by decide +kernel) (Nat.le_of_ble_eq_true rfl) ?_
  refine zi_aload0 (n := 1) dX1_anew_0 rfl ?_
  refine zi_aload0 (n := 2) dX1_anew_1 rfl ?_
  refine zg_X1_0 (n := 5) dX1_anew_2 rfl zl_X1_15 ?_
  refine zgN_X4_9 (n := 8) dX1_anew_5 rfl zl_X1_27 (by omega) ?_
  refine zi_iload1 (n := 9) dX1_anew_8 rfl ?_
  refine zi_qald (n := 10) dX1_anew_9 rfl (by decide) (by decide) rfl hp hk ?_
  refine zi_iload2 (n := 11) dX1_anew_10 rfl ?_
  refine zi_S2s (mj := zm_X1_bodyFor) (n := 14) dX1_anew_11 rfl zl_X1_32 zy_X1_bodyFor (by decide) (Nat.le_of_ble_eq_true rfl) c_bf_10 ?_
  refine zi_iload1 (n := 15) dX1_anew_14 rfl ?_
  refine zi_iload3 (n := 16) dX1_anew_15 rfl ?_
  refine zi_S4s (mj := zm_X1_body) (n := 19) dX1_anew_16 rfl zl_X1_36 zy_X1_body (by decide) (Nat.le_of_ble_eq_true rfl) (c_b11_1 hw hp hk (by omega)) ?_
  exact zi_iret dX1_anew_19 rfl (by rfl) (by rfl)
set_option maxHeartbeats 4000000 in
set_option maxRecDepth 100000 in
theorem c_a30 (hw : w.1 ≤ 16) (hp : p < 6) (hk : Q 1 1 p = nI 3) (hd : dep + 3 ≤ 12) : zCT E 6 zm_X1_anew [.ref (zad E 163), .int (nI p), .int (nI 0), .int (nI dep)] (Q, zTM Z w) (some (.int (Q 1 4 p + (nI p + Q 1 2 p - nI 1000)))) (Q, zTM Z (zpush (zpush (zpush (zpush (zpush w (nI 11)) (nI 10)) (nI 22)) (nI 21)) (nI 20))) := by
  refine zCT.of (by decide +kernel) (Nat.le_of_ble_eq_true rfl) ?_
  refine zi_aload0 (n := 1) dX1_anew_0 rfl ?_
  refine zi_aload0 (n := 2) dX1_anew_1 rfl ?_
  refine zg_X1_0 (n := 5) dX1_anew_2 rfl zl_X1_15 ?_
  refine zgN_X4_9 (n := 8) dX1_anew_5 rfl zl_X1_27 (by omega) ?_
  refine zi_iload1 (n := 9) dX1_anew_8 rfl ?_
  refine zi_qald (n := 10) dX1_anew_9 rfl (by decide) (by decide) rfl hp hk ?_
  refine zi_iload2 (n := 11) dX1_anew_10 rfl ?_
  refine zi_S2s (mj := zm_X1_bodyFor) (n := 14) dX1_anew_11 rfl zl_X1_32 zy_X1_bodyFor (by decide) (Nat.le_of_ble_eq_true rfl) c_bf_30 ?_
  refine zi_iload1 (n := 15) dX1_anew_14 rfl ?_
  refine zi_iload3 (n := 16) dX1_anew_15 rfl ?_
  refine zi_S4s (mj := zm_X1_body) (n := 19) dX1_anew_16 rfl zl_X1_36 zy_X1_body (by decide) (Nat.le_of_ble_eq_true rfl) (c_b11_3 hw hp hk (by omega)) ?_
  exact zi_iret dX1_anew_19 rfl (by rfl) (by rfl)
set_option maxHeartbeats 4000000 in
set_option maxRecDepth 100000 in
theorem c_a20 (hw : w.1 ≤ 16) (hp : p < 6) (hk : Q 1 1 p = nI 2) (hd : dep + 4 ≤ 12) : zCT E 7 zm_X1_anew [.ref (zad E 163), .int (nI p), .int (nI 0), .int (nI dep)] (Q, zTM Z w) (some (.int (-(Q 1 4 p + (nI p + Q 1 2 p) * nI 2)))) (Q, zTM Z (zpush (zpush (zpush (zpush (zpush (zpush w (nI 12)) (nI 11)) (nI 10)) (nI 24)) (nI 21)) (nI 20))) := by
  refine zCT.of (by decide +kernel) (Nat.le_of_ble_eq_true rfl) ?_
  refine zi_aload0 (n := 1) dX1_anew_0 rfl ?_
  refine zi_aload0 (n := 2) dX1_anew_1 rfl ?_
  refine zg_X1_0 (n := 5) dX1_anew_2 rfl zl_X1_15 ?_
  refine zgN_X4_9 (n := 8) dX1_anew_5 rfl zl_X1_27 (by omega) ?_
  refine zi_iload1 (n := 9) dX1_anew_8 rfl ?_
  refine zi_qald (n := 10) dX1_anew_9 rfl (by decide) (by decide) rfl hp hk ?_
  refine zi_iload2 (n := 11) dX1_anew_10 rfl ?_
  refine zi_S2s (mj := zm_X1_bodyFor) (n := 14) dX1_anew_11 rfl zl_X1_32 zy_X1_bodyFor (by decide) (Nat.le_of_ble_eq_true rfl) c_bf_20 ?_
  refine zi_iload1 (n := 15) dX1_anew_14 rfl ?_
  refine zi_iload3 (n := 16) dX1_anew_15 rfl ?_
  refine zi_S4s (mj := zm_X1_body) (n := 19) dX1_anew_16 rfl zl_X1_36 zy_X1_body (by decide) (Nat.le_of_ble_eq_true rfl) (c_b12 hw hp hk (by omega)) ?_
  exact zi_iret dX1_anew_19 rfl (by rfl) (by rfl)
set_option maxHeartbeats 4000000 in
set_option maxRecDepth 100000 in
theorem c_a41 (hw : w.1 ≤ 16) (hp : p < 6) (hk : Q 1 1 p = nI 4) (hd : dep + 2 ≤ 12) : zCT E 5 zm_X1_anew [.ref (zad E 163), .int (nI p), .int (nI 1), .int (nI dep)] (Q, zTM Z w) (some (.int (nI p - (Q 1 4 p - nI 100)))) (Q, zTM Z (zpush (zpush (zpush (zpush w (nI 23)) (nI 20)) (nI 13)) (nI 10))) := by
  refine zCT.of (by decide +kernel) (Nat.le_of_ble_eq_true rfl) ?_
  refine zi_aload0 (n := 1) dX1_anew_0 rfl ?_
  refine zi_aload0 (n := 2) dX1_anew_1 rfl ?_
  refine zg_X1_0 (n := 5) dX1_anew_2 rfl zl_X1_15 ?_
  refine zgN_X4_9 (n := 8) dX1_anew_5 rfl zl_X1_27 (by omega) ?_
  refine zi_iload1 (n := 9) dX1_anew_8 rfl ?_
  refine zi_qald (n := 10) dX1_anew_9 rfl (by decide) (by decide) rfl hp hk ?_
  refine zi_iload2 (n := 11) dX1_anew_10 rfl ?_
  refine zi_S2s (mj := zm_X1_bodyFor) (n := 14) dX1_anew_11 rfl zl_X1_32 zy_X1_bodyFor (by decide) (Nat.le_of_ble_eq_true rfl) c_bf_41 ?_
  refine zi_iload1 (n := 15) dX1_anew_14 rfl ?_
  refine zi_iload3 (n := 16) dX1_anew_15 rfl ?_
  refine zi_S4s (mj := zm_X1_body) (n := 19) dX1_anew_16 rfl zl_X1_36 zy_X1_body (by decide) (Nat.le_of_ble_eq_true rfl) (c_b23_4 hw hp hk (by omega)) ?_
  exact zi_iret dX1_anew_19 rfl (by rfl) (by rfl)
set_option maxHeartbeats 4000000 in
set_option maxRecDepth 100000 in
theorem c_a51 (hw : w.1 ≤ 16) (hp : p < 6) (hk : Q 1 1 p = nI 5) (hd : dep + 3 ≤ 12) : zCT E 6 zm_X1_anew [.ref (zad E 163), .int (nI p), .int (nI 1), .int (nI dep)] (Q, zTM Z w) (some (.int (nI p - (Q 1 4 p - nI 100) * nI 2))) (Q, zTM Z (zpush (zpush (zpush (zpush (zpush w (nI 23)) (nI 20)) (nI 14)) (nI 13)) (nI 10))) := by
  refine zCT.of (by decide +kernel) (Nat.le_of_ble_eq_true rfl) ?_
  refine zi_aload0 (n := 1) dX1_anew_0 rfl ?_
  refine zi_aload0 (n := 2) dX1_anew_1 rfl ?_
  refine zg_X1_0 (n := 5) dX1_anew_2 rfl zl_X1_15 ?_
  refine zgN_X4_9 (n := 8) dX1_anew_5 rfl zl_X1_27 (by omega) ?_
  refine zi_iload1 (n := 9) dX1_anew_8 rfl ?_
  refine zi_qald (n := 10) dX1_anew_9 rfl (by decide) (by decide) rfl hp hk ?_
  refine zi_iload2 (n := 11) dX1_anew_10 rfl ?_
  refine zi_S2s (mj := zm_X1_bodyFor) (n := 14) dX1_anew_11 rfl zl_X1_32 zy_X1_bodyFor (by decide) (Nat.le_of_ble_eq_true rfl) c_bf_51 ?_
  refine zi_iload1 (n := 15) dX1_anew_14 rfl ?_
  refine zi_iload3 (n := 16) dX1_anew_15 rfl ?_
  refine zi_S4s (mj := zm_X1_body) (n := 19) dX1_anew_16 rfl zl_X1_36 zy_X1_body (by decide) (Nat.le_of_ble_eq_true rfl) (c_b23_5 hw hp hk (by omega)) ?_
  exact zi_iret dX1_anew_19 rfl (by rfl) (by rfl)
set_option maxHeartbeats 4000000 in
set_option maxRecDepth 100000 in
theorem c_ans_10 (hp : p < 6) (hk : Q 1 1 p = nI 1) : zCT E 8 zm_X1_answer [.ref (zad E 163), .int (nI p), .int (nI 0)] (Q, zTM Z w) (some (.int (Q 1 4 p + (nI p + Q 1 2 p)))) (Q, zTM Z (zpush (zpush (zpush (zpush (0, w.2) (nI 11)) (nI 10)) (nI 21)) (nI 20))) := by
  refine zCT.of (by decide +kernel) (Nat.le_of_ble_eq_true rfl) ?_
  refine zi_aload0 (n := 1) dX1_answer_0 rfl ?_
  refine zi_iconst (n := 2) (nI 0) dX1_answer_1 rfl (by decide) ?_
  refine zp_X1_2 (n := 5) dX1_answer_2 rfl zl_X1_19 (zTM_p _ _ _ _) ?_
  refine zi_aload0 (n := 6) dX1_answer_5 rfl ?_
  refine zi_iload1 (n := 7) dX1_answer_6 rfl ?_
  refine zi_iload2 (n := 8) dX1_answer_7 rfl ?_
  refine zi_iconst (n := 9) (nI 0) dX1_answer_8 rfl (by decide) ?_
  refine zi_S4s (mj := zm_X1_anew) (n := 12) dX1_answer_9 rfl zl_X1_23 zy_X1_anew (by decide) (Nat.le_of_ble_eq_true rfl) (c_a10 (w := (0, w.2)) (Nat.zero_le 16) hp hk (by decide)) ?_
  exact zi_iret dX1_answer_12 rfl (by rfl) (by rfl)
set_option maxHeartbeats 4000000 in
set_option maxRecDepth 100000 in
theorem c_ans_11 (hp : p < 6) (hk : Q 1 1 p = nI 1) : zCT E 8 zm_X1_answer [.ref (zad E 163), .int (nI p), .int (nI 1)] (Q, zTM Z w) (some (.int (nI p + Q 1 2 p))) (Q, zTM Z (zpush (zpush (0, w.2) (nI 21)) (nI 20))) := by
  refine zCT.of (by decide +kernel) (Nat.le_of_ble_eq_true rfl) ?_
  refine zi_aload0 (n := 1) dX1_answer_0 rfl ?_
  refine zi_iconst (n := 2) (nI 0) dX1_answer_1 rfl (by decide) ?_
  refine zp_X1_2 (n := 5) dX1_answer_2 rfl zl_X1_19 (zTM_p _ _ _ _) ?_
  refine zi_aload0 (n := 6) dX1_answer_5 rfl ?_
  refine zi_iload1 (n := 7) dX1_answer_6 rfl ?_
  refine zi_iload2 (n := 8) dX1_answer_7 rfl ?_
  refine zi_iconst (n := 9) (nI 0) dX1_answer_8 rfl (by decide) ?_
  refine zi_S4s (mj := zm_X1_anew) (n := 12) dX1_answer_9 rfl zl_X1_23 zy_X1_anew (by decide) (Nat.le_of_ble_eq_true rfl) (c_am_1 (w := (0, w.2)) (Nat.zero_le 16) hp hk (by decide)) ?_
  exact zi_iret dX1_answer_12 rfl (by rfl) (by rfl)
set_option maxHeartbeats 4000000 in
set_option maxRecDepth 100000 in
theorem c_ans_20 (hp : p < 6) (hk : Q 1 1 p = nI 2) : zCT E 8 zm_X1_answer [.ref (zad E 163), .int (nI p), .int (nI 0)] (Q, zTM Z w) (some (.int (-(Q 1 4 p + (nI p + Q 1 2 p) * nI 2)))) (Q, zTM Z (zpush (zpush (zpush (zpush (zpush (zpush (0, w.2) (nI 12)) (nI 11)) (nI 10)) (nI 24)) (nI 21)) (nI 20))) := by
  refine zCT.of (by decide +kernel) (Nat.le_of_ble_eq_true rfl) ?_
  refine zi_aload0 (n := 1) dX1_answer_0 rfl ?_
  refine zi_iconst (n := 2) (nI 0) dX1_answer_1 rfl (by decide) ?_
  refine zp_X1_2 (n := 5) dX1_answer_2 rfl zl_X1_19 (zTM_p _ _ _ _) ?_
  refine zi_aload0 (n := 6) dX1_answer_5 rfl ?_
  refine zi_iload1 (n := 7) dX1_answer_6 rfl ?_
  refine zi_iload2 (n := 8) dX1_answer_7 rfl ?_
  refine zi_iconst (n := 9) (nI 0) dX1_answer_8 rfl (by decide) ?_
  refine zi_S4s (mj := zm_X1_anew) (n := 12) dX1_answer_9 rfl zl_X1_23 zy_X1_anew (by decide) (Nat.le_of_ble_eq_true rfl) (c_a20 (w := (0, w.2)) (Nat.zero_le 16) hp hk (by decide)) ?_
  exact zi_iret dX1_answer_12 rfl (by rfl) (by rfl)
set_option maxHeartbeats 4000000 in
set_option maxRecDepth 100000 in
theorem c_ans_21 (hp : p < 6) (hk : Q 1 1 p = nI 2) : zCT E 8 zm_X1_answer [.ref (zad E 163), .int (nI p), .int (nI 1)] (Q, zTM Z w) (some (.int ((nI p + Q 1 2 p) * nI 2))) (Q, zTM Z (zpush (zpush (zpush (0, w.2) (nI 24)) (nI 21)) (nI 20))) := by
  refine zCT.of (by decide +kernel) (Nat.le_of_ble_eq_true rfl) ?_
  refine zi_aload0 (n := 1) dX1_answer_0 rfl ?_
  refine zi_iconst (n := 2) (nI 0) dX1_answer_1 rfl (by decide) ?_
  refine zp_X1_2 (n := 5) dX1_answer_2 rfl zl_X1_19 (zTM_p _ _ _ _) ?_
  refine zi_aload0 (n := 6) dX1_answer_5 rfl ?_
  refine zi_iload1 (n := 7) dX1_answer_6 rfl ?_
  refine zi_iload2 (n := 8) dX1_answer_7 rfl ?_
  refine zi_iconst (n := 9) (nI 0) dX1_answer_8 rfl (by decide) ?_
  refine zi_S4s (mj := zm_X1_anew) (n := 12) dX1_answer_9 rfl zl_X1_23 zy_X1_anew (by decide) (Nat.le_of_ble_eq_true rfl) (c_am_2 (w := (0, w.2)) (Nat.zero_le 16) hp hk (by decide)) ?_
  exact zi_iret dX1_answer_12 rfl (by rfl) (by rfl)
set_option maxHeartbeats 4000000 in
set_option maxRecDepth 100000 in
theorem c_ans_30 (hp : p < 6) (hk : Q 1 1 p = nI 3) : zCT E 8 zm_X1_answer [.ref (zad E 163), .int (nI p), .int (nI 0)] (Q, zTM Z w) (some (.int (Q 1 4 p + (nI p + Q 1 2 p - nI 1000)))) (Q, zTM Z (zpush (zpush (zpush (zpush (zpush (0, w.2) (nI 11)) (nI 10)) (nI 22)) (nI 21)) (nI 20))) := by
  refine zCT.of (by decide +kernel) (Nat.le_of_ble_eq_true rfl) ?_
  refine zi_aload0 (n := 1) dX1_answer_0 rfl ?_
  refine zi_iconst (n := 2) (nI 0) dX1_answer_1 rfl (by decide) ?_
  refine zp_X1_2 (n := 5) dX1_answer_2 rfl zl_X1_19 (zTM_p _ _ _ _) ?_
  refine zi_aload0 (n := 6) dX1_answer_5 rfl ?_
  refine zi_iload1 (n := 7) dX1_answer_6 rfl ?_
  refine zi_iload2 (n := 8) dX1_answer_7 rfl ?_
  refine zi_iconst (n := 9) (nI 0) dX1_answer_8 rfl (by decide) ?_
  refine zi_S4s (mj := zm_X1_anew) (n := 12) dX1_answer_9 rfl zl_X1_23 zy_X1_anew (by decide) (Nat.le_of_ble_eq_true rfl) (c_a30 (w := (0, w.2)) (Nat.zero_le 16) hp hk (by decide)) ?_
  exact zi_iret dX1_answer_12 rfl (by rfl) (by rfl)
set_option maxHeartbeats 4000000 in
set_option maxRecDepth 100000 in
theorem c_ans_31 (hp : p < 6) (hk : Q 1 1 p = nI 3) : zCT E 8 zm_X1_answer [.ref (zad E 163), .int (nI p), .int (nI 1)] (Q, zTM Z w) (some (.int (nI p + Q 1 2 p - nI 1000))) (Q, zTM Z (zpush (zpush (zpush (0, w.2) (nI 22)) (nI 21)) (nI 20))) := by
  refine zCT.of (by decide +kernel) (Nat.le_of_ble_eq_true rfl) ?_
  refine zi_aload0 (n := 1) dX1_answer_0 rfl ?_
  refine zi_iconst (n := 2) (nI 0) dX1_answer_1 rfl (by decide) ?_
  refine zp_X1_2 (n := 5) dX1_answer_2 rfl zl_X1_19 (zTM_p _ _ _ _) ?_
  refine zi_aload0 (n := 6) dX1_answer_5 rfl ?_
  refine zi_iload1 (n := 7) dX1_answer_6 rfl ?_
  refine zi_iload2 (n := 8) dX1_answer_7 rfl ?_
  refine zi_iconst (n := 9) (nI 0) dX1_answer_8 rfl (by decide) ?_
  refine zi_S4s (mj := zm_X1_anew) (n := 12) dX1_answer_9 rfl zl_X1_23 zy_X1_anew (by decide) (Nat.le_of_ble_eq_true rfl) (c_am_3 (w := (0, w.2)) (Nat.zero_le 16) hp hk (by decide)) ?_
  exact zi_iret dX1_answer_12 rfl (by rfl) (by rfl)
set_option maxHeartbeats 4000000 in
set_option maxRecDepth 100000 in
theorem c_ans_40 (hp : p < 6) (hk : Q 1 1 p = nI 4) : zCT E 8 zm_X1_answer [.ref (zad E 163), .int (nI p), .int (nI 0)] (Q, zTM Z w) (some (.int (Q 1 4 p - nI 100))) (Q, zTM Z (zpush (zpush (0, w.2) (nI 13)) (nI 10))) := by
  refine zCT.of (by decide +kernel) (Nat.le_of_ble_eq_true rfl) ?_
  refine zi_aload0 (n := 1) dX1_answer_0 rfl ?_
  refine zi_iconst (n := 2) (nI 0) dX1_answer_1 rfl (by decide) ?_
  refine zp_X1_2 (n := 5) dX1_answer_2 rfl zl_X1_19 (zTM_p _ _ _ _) ?_
  refine zi_aload0 (n := 6) dX1_answer_5 rfl ?_
  refine zi_iload1 (n := 7) dX1_answer_6 rfl ?_
  refine zi_iload2 (n := 8) dX1_answer_7 rfl ?_
  refine zi_iconst (n := 9) (nI 0) dX1_answer_8 rfl (by decide) ?_
  refine zi_S4s (mj := zm_X1_anew) (n := 12) dX1_answer_9 rfl zl_X1_23 zy_X1_anew (by decide) (Nat.le_of_ble_eq_true rfl) (c_as_4 (w := (0, w.2)) (Nat.zero_le 16) hp hk (by decide)) ?_
  exact zi_iret dX1_answer_12 rfl (by rfl) (by rfl)
set_option maxHeartbeats 4000000 in
set_option maxRecDepth 100000 in
theorem c_ans_41 (hp : p < 6) (hk : Q 1 1 p = nI 4) : zCT E 8 zm_X1_answer [.ref (zad E 163), .int (nI p), .int (nI 1)] (Q, zTM Z w) (some (.int (nI p - (Q 1 4 p - nI 100)))) (Q, zTM Z (zpush (zpush (zpush (zpush (0, w.2) (nI 23)) (nI 20)) (nI 13)) (nI 10))) := by
  refine zCT.of (by decide +kernel) (Nat.le_of_ble_eq_true rfl) ?_
  refine zi_aload0 (n := 1) dX1_answer_0 rfl ?_
  refine zi_iconst (n := 2) (nI 0) dX1_answer_1 rfl (by decide) ?_
  refine zp_X1_2 (n := 5) dX1_answer_2 rfl zl_X1_19 (zTM_p _ _ _ _) ?_
  refine zi_aload0 (n := 6) dX1_answer_5 rfl ?_
  refine zi_iload1 (n := 7) dX1_answer_6 rfl ?_
  refine zi_iload2 (n := 8) dX1_answer_7 rfl ?_
  refine zi_iconst (n := 9) (nI 0) dX1_answer_8 rfl (by decide) ?_
  refine zi_S4s (mj := zm_X1_anew) (n := 12) dX1_answer_9 rfl zl_X1_23 zy_X1_anew (by decide) (Nat.le_of_ble_eq_true rfl) (c_a41 (w := (0, w.2)) (Nat.zero_le 16) hp hk (by decide)) ?_
  exact zi_iret dX1_answer_12 rfl (by rfl) (by rfl)
set_option maxHeartbeats 4000000 in
set_option maxRecDepth 100000 in
theorem c_ans_50 (hp : p < 6) (hk : Q 1 1 p = nI 5) : zCT E 8 zm_X1_answer [.ref (zad E 163), .int (nI p), .int (nI 0)] (Q, zTM Z w) (some (.int ((Q 1 4 p - nI 100) * nI 2))) (Q, zTM Z (zpush (zpush (zpush (0, w.2) (nI 14)) (nI 13)) (nI 10))) := by
  refine zCT.of (by decide +kernel) (Nat.le_of_ble_eq_true rfl) ?_
  refine zi_aload0 (n := 1) dX1_answer_0 rfl ?_
  refine zi_iconst (n := 2) (nI 0) dX1_answer_1 rfl (by decide) ?_
  refine zp_X1_2 (n := 5) dX1_answer_2 rfl zl_X1_19 (zTM_p _ _ _ _) ?_
  refine zi_aload0 (n := 6) dX1_answer_5 rfl ?_
  refine zi_iload1 (n := 7) dX1_answer_6 rfl ?_
  refine zi_iload2 (n := 8) dX1_answer_7 rfl ?_
  refine zi_iconst (n := 9) (nI 0) dX1_answer_8 rfl (by decide) ?_
  refine zi_S4s (mj := zm_X1_anew) (n := 12) dX1_answer_9 rfl zl_X1_23 zy_X1_anew (by decide) (Nat.le_of_ble_eq_true rfl) (c_as_5 (w := (0, w.2)) (Nat.zero_le 16) hp hk (by decide)) ?_
  exact zi_iret dX1_answer_12 rfl (by rfl) (by rfl)
set_option maxHeartbeats 4000000 in
set_option maxRecDepth 100000 in
theorem c_ans_51 (hp : p < 6) (hk : Q 1 1 p = nI 5) : zCT E 8 zm_X1_answer [.ref (zad E 163), .int (nI p), .int (nI 1)] (Q, zTM Z w) (some (.int (nI p - (Q 1 4 p - nI 100) * nI 2))) (Q, zTM Z (zpush (zpush (zpush (zpush (zpush (0, w.2) (nI 23)) (nI 20)) (nI 14)) (nI 13)) (nI 10))) := by
  refine zCT.of (by decide +kernel) (Nat.le_of_ble_eq_true rfl) ?_
  refine zi_aload0 (n := 1) dX1_answer_0 rfl ?_
  refine zi_iconst (n := 2) (nI 0) dX1_answer_1 rfl (by decide) ?_
  refine zp_X1_2 (n := 5) dX1_answer_2 rfl zl_X1_19 (zTM_p _ _ _ _) ?_
  refine zi_aload0 (n := 6) dX1_answer_5 rfl ?_
  refine zi_iload1 (n := 7) dX1_answer_6 rfl ?_
  refine zi_iload2 (n := 8) dX1_answer_7 rfl ?_
  refine zi_iconst (n := 9) (nI 0) dX1_answer_8 rfl (by decide) ?_
  refine zi_S4s (mj := zm_X1_anew) (n := 12) dX1_answer_9 rfl zl_X1_23 zy_X1_anew (by decide) (Nat.le_of_ble_eq_true rfl) (c_a51 (w := (0, w.2)) (Nat.zero_le 16) hp hk (by decide)) ?_
  exact zi_iret dX1_answer_12 rfl (by rfl) (by rfl)
end ZK1
