section ZX4b
variable {E : zE} {Q : Nat → Nat → Nat → Int32} {Z : Nat → Nat → Int32} {j : Nat} {S : zS} {n : Nat}
theorem zmodw {a s n : Nat} (ha : a < n) (hs : s < n) : (a + s) % n = if a + s < n then a + s else a + s - n := by
  split
  · rename_i h; exact Nat.mod_eq_of_lt h
  · rename_i h
    rw [Nat.mod_eq_sub_mod (by omega)]
    exact Nat.mod_eq_of_lt (by omega)
set_option maxHeartbeats 4000000 in
set_option maxRecDepth 100000 in
theorem l_X4_lenderOf (hj : j < 29) (hn : S 0 0 = nI n) (h6 : n ≤ 6) {p r : Nat} (hp : p < n) : ∀ (k : Nat) (x3 : Option Value), k < n → zlend (S 4) n p k = r → zG E zm_X4_lenderOf 0 (some (.int (nI r))) (va_up Q j S, Z) 2 [some (.ref (zad E (zsq j))), some (.int (nI p)), some (.int (nI (n - k))), x3] [] (va_up Q j S, Z) := by
  intro k
  induction k with
  | zero =>
    intro x3 hk hr
    refine zi_iload2 (n := 3) dX4_lenderOf_2 rfl ?_
    refine zi_aload0 (n := 4) dX4_lenderOf_3 rfl ?_
    refine zg_X4_0 (n := 7) dX4_lenderOf_4 rfl zl_X4_29 (by omega) ((zfs _ _ _ _ _ _).trans hn) ?_
    refine zi_icge (n := 10) (tgt := 46) dX4_lenderOf_7 rfl (by decide) (fun h7 => ?_) (fun h7 => ?_)
    · refine zi_iload1 (n := 47) dX4_lenderOf_46 rfl ?_
      exact zi_iret dX4_lenderOf_47 rfl (by rw [← hr]; rfl) (by rfl)
    · exact absurd ((nI_leI (by omega) (by omega)).mpr (by omega)) h7
  | succ k ih =>
    intro x3 hk hr
    have hs : n - (k + 1) + 1 = n - k := by omega
    have hm := zmodw (a := p) (s := n - (k + 1)) hp (by omega)
    refine zi_iload2 (n := 3) dX4_lenderOf_2 rfl ?_
    refine zi_aload0 (n := 4) dX4_lenderOf_3 rfl ?_
    refine zg_X4_0 (n := 7) dX4_lenderOf_4 rfl zl_X4_29 (by omega) ((zfs _ _ _ _ _ _).trans hn) ?_
    refine zi_icge (n := 10) (tgt := 46) dX4_lenderOf_7 rfl (by decide) (fun h7 => ?_) (fun h7 => ?_)
    · exact absurd ((nI_leI (by omega) (by omega)).mp h7) (by omega)
    · refine zi_iload1 (n := 11) dX4_lenderOf_10 rfl ?_
      refine zi_iload2 (n := 12) dX4_lenderOf_11 rfl ?_
      refine zi_iadd (n := 13) dX4_lenderOf_12 rfl ?_
      rw [nI_add]
      refine zi_istore3 (n := 14) dX4_lenderOf_13 rfl (by decide) rfl ?_
      refine zi_iload3 (n := 15) dX4_lenderOf_14 rfl ?_
      refine zi_aload0 (n := 16) dX4_lenderOf_15 rfl ?_
      refine zg_X4_0 (n := 19) dX4_lenderOf_16 rfl zl_X4_29 (by omega) ((zfs _ _ _ _ _ _).trans hn) ?_
      refine zi_iclt (n := 22) (tgt := 29) dX4_lenderOf_19 rfl (by decide) (fun h19 => ?_) (fun h19 => ?_)
      · have h19n : p + (n - (k + 1)) < n := (nI_ltI (by omega) (by omega)).mp h19
        refine zi_aload0 (n := 30) dX4_lenderOf_29 rfl ?_
        refine zg_X4_12 (n := 33) dX4_lenderOf_30 rfl zl_X4_26 (by omega) ?_
        refine zi_iload3 (n := 34) dX4_lenderOf_33 rfl ?_
        refine zi_qald (n := 35) dX4_lenderOf_34 rfl (by omega) (by decide) rfl (by omega) (zfs _ _ _ _ _ _) ?_
        refine zi_ifle (n := 38) (tgt := 40) dX4_lenderOf_35 rfl (by decide) (fun h35 => ?_) (fun h35 => ?_)
        · have hz : ¬ (0 : Int32) < S 4 ((p + (n - (k + 1))) % n) := by rw [hm]; simpa [h19n] using Int32.not_lt.mpr h35
          refine zi_iinc2 (n := 43) (nI (n - k)) dX4_lenderOf_40 rfl (by decide) rfl (by rw [zi1, hs]) ?_
          refine zi_goto (tgt := 2) dX4_lenderOf_43 (by decide) ?_
          exact ih _ (by omega) (by rw [← hr, zlend, if_neg hz])
        · have hz : (0 : Int32) < S 4 ((p + (n - (k + 1))) % n) := by rw [hm]; simpa [h19n] using Int32.not_le.mp h35
          have hr2 : (p + (n - (k + 1))) % n = r := by rw [← hr, zlend, if_pos hz]
          refine zi_iload3 (n := 39) dX4_lenderOf_38 rfl ?_
          exact zi_iret dX4_lenderOf_39 rfl (by rw [← hr2, hm]; simp [h19n]) (by rfl)
      · have h19n : ¬ p + (n - (k + 1)) < n := fun zz => h19 ((nI_ltI (by omega) (by omega)).mpr zz)
        refine zi_iload3 (n := 23) dX4_lenderOf_22 rfl ?_
        refine zi_aload0 (n := 24) dX4_lenderOf_23 rfl ?_
        refine zg_X4_0 (n := 27) dX4_lenderOf_24 rfl zl_X4_29 (by omega) ((zfs _ _ _ _ _ _).trans hn) ?_
        refine zi_isub (n := 28) dX4_lenderOf_27 rfl ?_
        rw [pk_sub (by omega)]
        refine zi_istore3 (n := 29) dX4_lenderOf_28 rfl (by decide) rfl ?_
        refine zi_aload0 (n := 30) dX4_lenderOf_29 rfl ?_
        refine zg_X4_12 (n := 33) dX4_lenderOf_30 rfl zl_X4_26 (by omega) ?_
        refine zi_iload3 (n := 34) dX4_lenderOf_33 rfl ?_
        refine zi_qald (n := 35) dX4_lenderOf_34 rfl (by omega) (by decide) rfl (by omega) (zfs _ _ _ _ _ _) ?_
        refine zi_ifle (n := 38) (tgt := 40) dX4_lenderOf_35 rfl (by decide) (fun h35 => ?_) (fun h35 => ?_)
        · have hz : ¬ (0 : Int32) < S 4 ((p + (n - (k + 1))) % n) := by rw [hm]; simpa [h19n] using Int32.not_lt.mpr h35
          refine zi_iinc2 (n := 43) (nI (n - k)) dX4_lenderOf_40 rfl (by decide) rfl (by rw [zi1, hs]) ?_
          refine zi_goto (tgt := 2) dX4_lenderOf_43 (by decide) ?_
          exact ih _ (by omega) (by rw [← hr, zlend, if_neg hz])
        · have hz : (0 : Int32) < S 4 ((p + (n - (k + 1))) % n) := by rw [hm]; simpa [h19n] using Int32.not_le.mp h35
          have hr2 : (p + (n - (k + 1))) % n = r := by rw [← hr, zlend, if_pos hz]
          refine zi_iload3 (n := 39) dX4_lenderOf_38 rfl ?_
          exact zi_iret dX4_lenderOf_39 rfl (by rw [← hr2, hm]; simp [h19n]) (by rfl)
set_option maxHeartbeats 4000000 in
set_option maxRecDepth 100000 in
theorem c_X4_lenderOf (hj : j < 29) (hn : S 0 0 = nI n) (h6 : n ≤ 6) {p : Nat} (hp : p < n) : zCT E 0 zm_X4_lenderOf [.ref (zad E (zsq j)), .int (nI p)] (va_up Q j S, Z) (some (.int (nI (zlend (S 4) n p (n - 1))))) (va_up Q j S, Z) := by
  refine zCT.of (by decide +kernel) (Nat.le_of_ble_eq_true rfl) ?_
  refine zi_iconst (n := 1) (nI 1) dX4_lenderOf_0 rfl (by decide) ?_
  refine zi_istore2 (n := 2) dX4_lenderOf_1 rfl (by decide) rfl ?_
  have f := l_X4_lenderOf (E := E) (Q := Q) (Z := Z) hj hn h6 hp (n - 1) none (by omega) rfl
  rw [show n - (n - 1) = 1 by omega] at f
  exact f
end ZX4b
