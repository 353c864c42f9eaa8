section ZSb
variable {Q : Nat → Nat → Nat → Int32} {Z : zS} {E : zE} {n p : Nat} {S : zS} {f g : zF}
theorem zRl.hd01 (h : zRl S f n) (hp : p < n) : (if hidC S p = 0 then nI 0 else nI 1) = f (6 + 5 * p + 4) := by
  have h6 := h.1
  obtain ⟨b, hb, eb⟩ := h.2.2.2.2.2.2.2.1
  have h64 : b < 64 := Nat.lt_of_lt_of_le hb (p2n h6).2
  rw [(h.2.2.2.1 p hp).2.2.2.2]
  unfold hidC
  rw [eb]
  rcases (zq_b01 b h64 p (by omega)).1 with e | e
  · rw [e, if_pos rfl]; rfl
  · rw [e, if_neg (by decide)]
theorem gcd_lt {X Y : Nat} (hX : X < 2 ^ 31) (hY : Y < 2 ^ 31) : Nat.gcd X Y < 2 ^ 31 := by
  rcases Nat.eq_zero_or_pos Y with e | e
  · subst e
    rw [Nat.gcd_zero_right]
    exact hX
  · exact Nat.lt_of_le_of_lt (Nat.gcd_le_right _ e) hY
theorem s_paper (h : zInv (Q, Z)) {x y : Int32} : zStep E zm_X6_paper zm_X7_paper [.int x, .int y] (Q, Z) := by
  obtain ⟨n, hr⟩ := h.now
  have hr : zRl (Q 1) (Z 169) n := hr
  have h0 : Z 165 0 = nI 0 := h.1
  have hn := hr.2.1
  have h6 := hr.1
  have hf := hr.f0
  by_cases c : ¬ x < 0 ∧ ¬ Q 1 0 0 ≤ x
  · obtain ⟨p, hp, rfl⟩ := hr.ix c
    rcases rgT (x := y) 4 (by decide) with ⟨k, hk, rfl⟩ | hy
    · rcases (show k = 0 ∨ k = 1 ∨ k = 2 ∨ k = 3 ∨ k = 4 by omega) with rfl | rfl | rfl | rfl | rfl
      · exact .i (x_paper_0 hn h6 hp) (m_paper_0 h0 hf h6 hp) (hr.at2 hp).symm h (by decide) (by decide)
      · exact .i (x_paper_1 hn h6 hp) (m_paper_1 h0 hf h6 hp) (hr.2.2.2.1 p hp).2.2.1.symm h (by decide) (by decide)
      · exact .i (x_paper_2 hn h6 hp) (m_paper_2 h0 hf h6 hp) (hr.lg hp).symm h (by decide) (by decide)
      · exact .i (x_paper_3 hn h6 hp) (m_paper_3 h0 hf h6 hp) (hr.near hp).1.symm h (by decide) (by decide)
      · exact .i (x_paper_4 hn h6 hp) (m_paper_4 h0 hf h6 hp) (hr.hd01 hp) h (by decide) (by decide)
    · exact .i (x_paper_what hn h6 hp hy) (m_paper_what h0 hf h6 hp hy) rfl h (by decide) (by decide)
  · exact .i (x_paper_bad c) (m_paper_bad h0 (by rw [← hr.hasI]; exact c)) rfl h (by decide) (by decide)
theorem s_stand (h : zInv (Q, Z)) {y : Int32} : zStep E zm_X6_stand zm_X7_stand [.int y] (Q, Z) := by
  obtain ⟨n, hr⟩ := h.now
  have hr : zRl (Q 1) (Z 169) n := hr
  have h0 : Z 165 0 = nI 0 := h.1
  have hn := hr.2.1
  have h6 := hr.1
  have hf := hr.f0
  by_cases s : Q 1 0 0 = 0
  · exact .i (x_stand_state s) (m_stand_state h0 (hr.st.1.mp s)) rfl h (by decide) (by decide)
  have hz : ¬ Z 169 0 ≤ 0 := mt hr.st.1.mpr s
  have h1 : 0 < n := hr.st.2 s
  rcases rgT (x := y) 6 (by decide) with ⟨k, hk, rfl⟩ | hy
  · rcases (show k = 0 ∨ k = 1 ∨ k = 2 ∨ k = 3 ∨ k = 4 ∨ k = 5 ∨ k = 6 by omega) with rfl | rfl | rfl | rfl | rfl | rfl | rfl
    · exact .i (x_stand_0 hn h6 s) (m_stand_0 h0 hf h6 hz) (hr.2.2.1 0 (by decide)).symm h (by decide) (by decide)
    · exact .i (x_stand_1 hn h6 s) (m_stand_1 h0 hf h6 hz) (hr.2.2.1 1 (by decide)).symm h (by decide) (by decide)
    · exact .i (x_stand_2 hn h6 s) (m_stand_2 h0 hf h6 hz) (hr.2.2.1 2 (by decide)).symm h (by decide) (by decide)
    · exact .i (x_stand_3 hn h6 s) (m_stand_3 h0 hf h6 hz) (hr.2.2.1 3 (by decide)).symm h (by decide) (by decide)
    · exact .i (x_stand_4 hn h6 s) (m_stand_4 h0 hf h6 hz) (hr.nml n (Nat.le_refl _)).symm h (by decide) (by decide)
    · exact .i (x_stand_5 hn h6 s) (m_stand_5 h0 hf h6 hz) hr.hdn.symm h (by decide) (by decide)
    · exact .i (x_stand_6 hn h6 s) (m_stand_6 h0 hf h6 hz) (by rw [hr.next]) h (by decide) (by decide)
  · exact .i (x_stand_what s hy) (m_stand_what h0 hz hy) rfl h (by decide) (by decide)
theorem s_ahead (h : zInv (Q, Z)) {x y w : Int32} : zStep E zm_X6_ahead zm_X7_ahead [.int x, .int y, .int w] (Q, Z) := by
  obtain ⟨n, hr⟩ := h.now
  have hr : zRl (Q 1) (Z 169) n := hr
  have h0 : Z 165 0 = nI 0 := h.1
  have hn := hr.2.1
  have h6 := hr.1
  have hf := hr.f0
  by_cases c : (¬ x < 0 ∧ ¬ Q 1 0 0 ≤ x) ∧ (nI 0 ≤ y ∧ y ≤ nI 60) ∧ (nI 0 ≤ w ∧ w ≤ nI 1)
  · obtain ⟨c1, c2, c3⟩ := c
    obtain ⟨p, hp, rfl⟩ := hr.ix c1
    obtain ⟨m, m1, m2, rfl⟩ := rg (by decide) (by decide) c2
    obtain ⟨k, k1, k2, rfl⟩ := rg (by decide) (by decide) c3
    have t := (hr.take (S := Q 4) (f := Z 171)).noons m
    rcases (show k = 0 ∨ k = 1 by omega) with rfl | rfl
    · exact .i (x_ahead_0 hn h6 hp m1 m2) (m_ahead_0 h0 hr.kd hp m1 m2) (t.lg hp).symm h.q4.z171 (by decide) (by decide)
    · exact .i (x_ahead_1 hn h6 hp m1 m2) (m_ahead_1 h0 hr.kd hp m1 m2) (t.at2 hp).symm h.q4.z171 (by decide) (by decide)
  · exact .i (x_ahead_bad c) (m_ahead_bad h0 (by rw [← hr.hasI]; exact c)) rfl h (by decide) (by decide)
theorem s_bitten (h : zInv (Q, Z)) {x y : Int32} : zStep E zm_X6_bitten zm_X7_bitten [.int x, .int y] (Q, Z) := by
  obtain ⟨n, hr⟩ := h.now
  have hr : zRl (Q 1) (Z 169) n := hr
  have h0 : Z 165 0 = nI 0 := h.1
  have hn := hr.2.1
  have h6 := hr.1
  have hf := hr.f0
  by_cases s : Q 1 0 0 = 0
  · exact .i (x_bitten_state s) (m_bitten_state h0 (hr.st.1.mp s)) rfl h (by decide) (by decide)
  have hz : ¬ Z 169 0 ≤ 0 := mt hr.st.1.mpr s
  have h1 : 0 < n := hr.st.2 s
  by_cases c : (nI 1 ≤ x ∧ x ≤ nI 60) ∧ (nI 0 ≤ y ∧ y ≤ nI 1)
  · obtain ⟨c1, c2⟩ := c
    obtain ⟨m, m1, m2, rfl⟩ := rg (by decide) (by decide) c1
    obtain ⟨k, k1, k2, rfl⟩ := rg (by decide) (by decide) c2
    obtain ⟨j, rfl⟩ : ∃ j, m = j + 1 := ⟨m - 1, by omega⟩
    have t := ((hr.take (S := Q 4) (f := Z 171)).noons j).noon
    rcases (show k = 0 ∨ k = 1 by omega) with rfl | rfl
    · exact .i (x_bitten_0 hn h6 s m1 m2) (m_bitten_0 h0 hr.kd hz m1 m2) t.2.1 h.q4.z171 (by decide) (by decide)
    · exact .i (x_bitten_1 hn h6 s m1 m2) (m_bitten_1 h0 hr.kd hz m1 m2) t.2.2 h.q4.z171 (by decide) (by decide)
  · exact .i (x_bitten_bad s c) (m_bitten_bad h0 hz c) rfl h (by decide) (by decide)
theorem s_left (h : zInv (Q, Z)) {x y : Int32} : zStep E zm_X6_left zm_X7_left [.int x, .int y] (Q, Z) := by
  obtain ⟨n, hr⟩ := h.now
  have hr : zRl (Q 1) (Z 169) n := hr
  have h0 : Z 165 0 = nI 0 := h.1
  have hn := hr.2.1
  have h6 := hr.1
  have hf := hr.f0
  by_cases s : Q 1 0 0 = 0
  · exact .i (x_left_state s) (m_left_state h0 (hr.st.1.mp s)) rfl h (by decide) (by decide)
  have hz : ¬ Z 169 0 ≤ 0 := mt hr.st.1.mpr s
  have h1 : 0 < n := hr.st.2 s
  by_cases c : (nI 0 ≤ x ∧ x ≤ nI 60) ∧ (nI 0 ≤ y ∧ y ≤ nI 2)
  · obtain ⟨c1, c2⟩ := c
    obtain ⟨m, m1, m2, rfl⟩ := rg (by decide) (by decide) c1
    obtain ⟨k, k1, k2, rfl⟩ := rg (by decide) (by decide) c2
    have t := (hr.take (S := Q 4) (f := Z 171)).noons m
    rcases (show k = 0 ∨ k = 1 ∨ k = 2 by omega) with rfl | rfl | rfl
    · exact .i (x_left_0 hn h6 s m1 m2) (m_left_0 h0 hr.kd hz m1 m2) (t.sum n (Nat.le_refl _)).symm h.q4.z171 (by decide) (by decide)
    · exact .i (x_left_1 hn h6 s m1 m2) (m_left_1 h0 hr.kd hz m1 m2) (t.nml n (Nat.le_refl _)).symm h.q4.z171 (by decide) (by decide)
    · exact .i (x_left_2 hn h6 s m1 m2) (m_left_2 h0 hr.kd hz m1 m2) (t.2.2.1 1 (by decide)).symm h.q4.z171 (by decide) (by decide)
  · exact .i (x_left_bad s c) (m_left_bad h0 hz c) rfl h (by decide) (by decide)
theorem s_when (h : zInv (Q, Z)) {x y : Int32} : zStep E zm_X6_when zm_X7_when [.int x, .int y] (Q, Z) := by
  obtain ⟨n, hr⟩ := h.now
  have hr : zRl (Q 1) (Z 169) n := hr
  have h0 : Z 165 0 = nI 0 := h.1
  have hn := hr.2.1
  have h6 := hr.1
  have hf := hr.f0
  by_cases c : (¬ x < 0 ∧ ¬ Q 1 0 0 ≤ x) ∧ (nI 0 ≤ y ∧ y ≤ nI 1)
  · obtain ⟨c1, c2⟩ := c
    obtain ⟨p, hp, rfl⟩ := hr.ix c1
    obtain ⟨k, k1, k2, rfl⟩ := rg (by decide) (by decide) c2
    have t := hr.take (S := Q 4) (f := Z 171)
    rcases (show k = 0 ∨ k = 1 by omega) with rfl | rfl
    · exact .i (x_when_0 hn h6 hp) (m_when_0 h0 hr.kd hp) (zRl.fb 60 0 t) h.q4.z171 (by decide) (by decide)
    · exact .i (x_when_1 hn h6 hp) (m_when_1 h0 hr.kd hp) (zRl.fn hp 61 0 t) h.q4.z171 (by decide) (by decide)
  · exact .i (x_when_bad c) (m_when_bad h0 (by rw [← hr.hasI]; exact c)) rfl h (by decide) (by decide)
theorem s_over (h : zInv (Q, Z)) : zStep E zm_X6_over zm_X7_over [] (Q, Z) := by
  obtain ⟨n, hr⟩ := h.now
  have hr : zRl (Q 1) (Z 169) n := hr
  have h0 : Z 165 0 = nI 0 := h.1
  have hn := hr.2.1
  have h6 := hr.1
  have hf := hr.f0
  by_cases s : Q 1 0 0 = 0
  · exact .i (x_over_state s) (m_over_state h0 (hr.st.1.mp s)) rfl h (by decide) (by decide)
  have hz : ¬ Z 169 0 ≤ 0 := mt hr.st.1.mpr s
  have h1 : 0 < n := hr.st.2 s
  have t := hr.take (S := Q 4) (f := Z 171)
  exact .i (x_over_ok hn h6 s) (m_over_ok h0 hr.kd hz) (by rw [allC_nI hn h6]; exact zRl.ov 61 0 t) h.q4.z171 (by decide) (by decide)
theorem s_spot (h : zInv (Q, Z)) {x y w : Int32} : zStep E zm_X6_spot zm_X7_spot [.int x, .int y, .int w] (Q, Z) := by
  obtain ⟨n, hr⟩ := h.now
  have hr : zRl (Q 1) (Z 169) n := hr
  have h0 : Z 165 0 = nI 0 := h.1
  have hn := hr.2.1
  have h6 := hr.1
  have hf := hr.f0
  by_cases c : (¬ x < 0 ∧ ¬ Q 1 0 0 ≤ x) ∧ (nI 1 ≤ y ∧ y ≤ nI 60) ∧ (nI 0 ≤ w ∧ w ≤ nI 1)
  · obtain ⟨c1, c2, c3⟩ := c
    obtain ⟨p, hp, rfl⟩ := hr.ix c1
    obtain ⟨m, m1, m2, rfl⟩ := rg (by decide) (by decide) c2
    obtain ⟨k, k1, k2, rfl⟩ := rg (by decide) (by decide) c3
    have t := hr.bp hp (m := m) 10 0 (nI 0) (-1) (Q 4) (Z 171) rfl
    obtain ⟨j, hj, ej, t2⟩ := hr.sp2 hp (m := m) 10 0 (nI 0) (-1) (Z 171) rfl (Or.inr ⟨rfl, rfl⟩)
    rcases (show k = 0 ∨ k = 1 by omega) with rfl | rfl
    · exact .i (x_spot_0 hn h6 hp m1 m2) (m_spot_0 h0 hr.kd hp m1 m2) t h.q4.z171 (by decide) (by decide)
    · exact .i (x_spot_1 hn h6 hp m1 m2) (m_spot_1 h0 hr.kd hp m1 m2) (by rw [t]; exact t2 _) h.q4.z171 (by decide) (by decide)
  · exact .i (x_spot_bad c) (m_spot_bad h0 (by rw [← hr.hasI]; exact c)) rfl h (by decide) (by decide)
theorem s_decoy (h : zInv (Q, Z)) {x y w : Int32} : zStep E zm_X6_decoy zm_X7_decoy [.int x, .int y, .int w] (Q, Z) := by
  obtain ⟨n, hr⟩ := h.now
  have hr : zRl (Q 1) (Z 169) n := hr
  have h0 : Z 165 0 = nI 0 := h.1
  have hn := hr.2.1
  have h6 := hr.1
  have hf := hr.f0
  by_cases c : (¬ x < 0 ∧ ¬ Q 1 0 0 ≤ x) ∧ (¬ y < 0 ∧ ¬ Q 1 0 0 ≤ y) ∧ ¬ x = y ∧ (nI 1 ≤ w ∧ w ≤ nI 40)
  · obtain ⟨c1, c2, c3, c4⟩ := c
    obtain ⟨p, hp, rfl⟩ := hr.ix c1
    obtain ⟨q, hq, rfl⟩ := hr.ix c2
    obtain ⟨m, m1, m2, rfl⟩ := rg (by decide) (by decide) c4
    have hpq : p ≠ q := fun e => c3 (by rw [e])
    exact .i (x_decoy_ok hn h6 hp hq hpq m1 m2) (m_decoy_ok h0 hr.kd hp hq hpq m1 m2) (hr.dcl hq 9 1 (Q 4) (Z 171) rfl) h.q4.z171 (by decide) (by decide)
  · exact .i (x_decoy_bad c) (m_decoy_bad h0 (by rw [← hr.hasI (x := x), ← hr.hasI (x := y)]; exact c)) rfl h (by decide) (by decide)
theorem s_hides (h : zInv (Q, Z)) {x y : Int32} : zStep E zm_X6_hides zm_X7_hides [.int x, .int y] (Q, Z) := by
  obtain ⟨n, hr⟩ := h.now
  have hr : zRl (Q 1) (Z 169) n := hr
  have h0 : Z 165 0 = nI 0 := h.1
  have hn := hr.2.1
  have h6 := hr.1
  have hf := hr.f0
  by_cases s : Q 1 0 0 = 0
  · exact .i (x_hides_state s) (m_hides_state h0 (hr.st.1.mp s)) rfl h (by decide) (by decide)
  have hz : ¬ Z 169 0 ≤ 0 := mt hr.st.1.mpr s
  have h1 : 0 < n := hr.st.2 s
  by_cases c : (nI 1 ≤ x ∧ x ≤ nI 40) ∧ (nI 0 ≤ y ∧ y ≤ nI 1)
  · obtain ⟨c1, c2⟩ := c
    obtain ⟨m, m1, m2, rfl⟩ := rg (by decide) (by decide) c1
    obtain ⟨k, k1, k2, rfl⟩ := rg (by decide) (by decide) c2
    obtain ⟨j, hj, e1, e2⟩ := hr.hides (S := Q 4) (f := Z 171) (m := m)
    rcases (show k = 0 ∨ k = 1 by omega) with rfl | rfl
    · exact .i (x_hides_0 hn h6 s m1 m2) (m_hides_0 h0 hr.kd hz m1 m2) (by rw [e1, e2]; exact zq_bc j hj) h.q4.z171 (by decide) (by decide)
    · exact .i (x_hides_1 hn h6 s m1 m2) (m_hides_1 h0 hr.kd hz m1 m2) (e1.trans e2.symm) h.q4.z171 (by decide) (by decide)
  · exact .i (x_hides_bad s c) (m_hides_bad h0 hz c) rfl h (by decide) (by decide)
theorem s_sets (h : zInv (Q, Z)) {x y : Int32} : zStep E zm_X6_sets zm_X7_sets [.int x, .int y] (Q, Z) := by
  obtain ⟨n, hr⟩ := h.now
  have hr : zRl (Q 1) (Z 169) n := hr
  have h0 : Z 165 0 = nI 0 := h.1
  have hn := hr.2.1
  have h6 := hr.1
  have hf := hr.f0
  by_cases s : Q 1 0 0 = 0
  · exact .i (x_sets_state s) (m_sets_state h0 (hr.st.1.mp s)) rfl h (by decide) (by decide)
  have hz : ¬ Z 169 0 ≤ 0 := mt hr.st.1.mpr s
  have h1 : 0 < n := hr.st.2 s
  by_cases c : (nI 0 ≤ x ∧ x ≤ nI 54) ∧ (nI 0 ≤ y ∧ y ≤ nI 2)
  · obtain ⟨c1, c2⟩ := c
    obtain ⟨k, k1, k2, rfl⟩ := rg (by decide) (by decide) c2
    obtain ⟨a1, a2, u, hu, eu, a3⟩ := hr.se (v := x) (2 ^ n) (Nat.le_refl _)
    rcases (show k = 0 ∨ k = 1 ∨ k = 2 by omega) with rfl | rfl | rfl
    · exact .i (x_sets_0 hn h6 s c1) (m_sets_0 h0 hr.kd hz c1) a1.symm h (by decide) (by decide)
    · refine .i (x_sets_1 hn h6 s c1) (m_sets_1 h0 hr.kd hz c1) ?_ h (by decide) (by decide)
      rcases a3 with ⟨u0, b1, b2, b3⟩ | ⟨u0, b1, b2⟩
      · rw [b1, b3]; exact if_pos rfl
      · rw [b1, if_neg (by decide), b2]
    · exact .i (x_sets_2 hn h6 s c1) (m_sets_2 h0 hr.kd hz c1) a2.symm h (by decide) (by decide)
  · exact .i (x_sets_bad s c) (m_sets_bad h0 hz c) rfl h (by decide) (by decide)
theorem s_share (h : zInv (Q, Z)) {x y : Int32} : zStep E zm_X6_share zm_X7_share [.int x, .int y] (Q, Z) := by
  obtain ⟨n, hr⟩ := h.now
  have hr : zRl (Q 1) (Z 169) n := hr
  have h0 : Z 165 0 = nI 0 := h.1
  have hn := hr.2.1
  have h6 := hr.1
  have hf := hr.f0
  by_cases c : (¬ x < 0 ∧ ¬ Q 1 0 0 ≤ x) ∧ (nI 0 ≤ y ∧ y ≤ nI 999)
  · obtain ⟨c1, c2⟩ := c
    obtain ⟨p, hp, rfl⟩ := hr.ix c1
    have e3 := hr.lg hp
    by_cases z : Z 169 (6 + 5 * p + 3) = 0
    · refine .i (x_share_ok hn h6 hp c2) (m_share_0 h0 hr.kd hp c2 z) ?_ h (by decide) (by decide)
      unfold zink
      rw [if_pos (show Q 1 4 p = 0 by rw [← e3]; exact z)]
      split <;> rfl
    · have z2 : ¬ Q 1 4 p = 0 := by rw [← e3]; exact z
      have sm := hr.sum n (Nat.le_refl _)
      have sA := hr.sum0 hp z2
      refine .i (x_share_ok hn h6 hp c2) (m_share_ok h0 hr.kd hp c2 z (by rw [sm]; exact sA)) ?_ h (by decide) (by decide)
      unfold zink
      rw [if_neg sA, if_neg z2, e3, sm, zov_cong (A := Q 1) (B := fun _ => lgM (Z 169)) n (fun q hq => (hr.lg hq).symm), zahd_cong (A := Q 1) (B := fun _ => lgM (Z 169)) n (fun q hq => (hr.lg hq).symm)]
  · exact .i (x_share_bad c) (m_share_bad h0 (by rw [← hr.hasI]; exact c)) rfl h (by decide) (by decide)
theorem s_turns (h : zInv (Q, Z)) {x y : Int32} : zStep E zm_X6_byTurns zm_X7_byTurns [.int x, .int y] (Q, Z) := by
  obtain ⟨n, hr⟩ := h.now
  have hr : zRl (Q 1) (Z 169) n := hr
  have h0 : Z 165 0 = nI 0 := h.1
  have hn := hr.2.1
  have h6 := hr.1
  have hf := hr.f0
  by_cases s : Q 1 0 0 = 0
  · exact .i (x_turns_state s) (m_turns_state h0 (hr.st.1.mp s)) rfl h (by decide) (by decide)
  have hz : ¬ Z 169 0 ≤ 0 := mt hr.st.1.mpr s
  have h1 : 0 < n := hr.st.2 s
  by_cases c : (nI 0 ≤ x ∧ x ≤ nI 4) ∧ (nI 1 ≤ y ∧ y ≤ nI 20)
  · obtain ⟨c1, c2⟩ := c
    obtain ⟨t, t1, t2, rfl⟩ := rg (by decide) (by decide) c1
    obtain ⟨m, m1, m2, rfl⟩ := rg (by decide) (by decide) c2
    exact .i (x_turns_ok hn h6 h1 t2 m1 m2) (m_turns_ok h0 hr.kd hz h1 t2 m1 m2) (hr.turns h1 t2 (Z 171) (Q 4)).symm h.q4.z171 (by decide) (by decide)
  · exact .i (x_turns_bad hn h6 h1 c) (m_turns_bad h0 hz c) rfl h (by decide) (by decide)
theorem s_drawn (h : zInv (Q, Z)) {x y w : Int32} : zStep E zm_X6_drawn zm_X7_drawn [.int x, .int y, .int w] (Q, Z) := by
  obtain ⟨n, hr⟩ := h.now
  have hr : zRl (Q 1) (Z 169) n := hr
  have h0 : Z 165 0 = nI 0 := h.1
  have hn := hr.2.1
  have h6 := hr.1
  have hf := hr.f0
  by_cases s : Q 1 0 0 = 0
  · exact .i (x_drawn_state s) (m_drawn_state h0 (hr.st.1.mp s)) rfl h (by decide) (by decide)
  have hz : ¬ Z 169 0 ≤ 0 := mt hr.st.1.mpr s
  have h1 : 0 < n := hr.st.2 s
  by_cases c : (nI 0 ≤ x ∧ x ≤ nI 60) ∧ (nI 1 ≤ y ∧ y ≤ nI 999999) ∧ (nI 0 ≤ w ∧ w ≤ nI 1)
  · obtain ⟨c1, c2, c3⟩ := c
    obtain ⟨m, m1, m2, rfl⟩ := rg (by decide) (by decide) c1
    obtain ⟨d, d1, d2, rfl⟩ := rg (by decide) (by decide) c2
    obtain ⟨k, k1, k2, rfl⟩ := rg (by decide) (by decide) c3
    have t := zRl.bd h1 m d (nI 0) (hr.take (S := Q 4) (f := Z 171))
    rcases (show k = 0 ∨ k = 1 by omega) with rfl | rfl
    · refine .i (x_drawn_0 hn h6 s h1 m1 m2 d1 d2) (m_drawn_0 h0 hr.kd hz h1 m1 m2 d1 d2) ?_ h.q4.z171 (by decide) (by decide)
      rw [zbdM_sum, t.2.2.1 5 (by decide), zly_at (by decide), hr.2.2.1 5 (by decide), show nI 0 = (0 : Int32) from rfl, Int32.zero_add]
    · exact .i (x_drawn_1 hn h6 s h1 m1 m2 d1 d2) (m_drawn_1 h0 hr.kd hz h1 m1 m2 d1 d2) (t.sum n (Nat.le_refl _)).symm h.q4.z171 (by decide) (by decide)
  · exact .i (x_drawn_bad s c) (m_drawn_bad h0 hz c) rfl h (by decide) (by decide)
theorem s_rain (h : zInv (Q, Z)) {x y u w : Int32} : zStepL E zm_X6_rain zm_X7_rain [.int x, .int y, .int u, .int w] (Q, Z) := by
  obtain ⟨n, hr⟩ := h.now
  have hr : zRl (Q 1) (Z 169) n := hr
  have h0 : Z 165 0 = nI 0 := h.1
  have hn := hr.2.1
  have h6 := hr.1
  have hf := hr.f0
  by_cases c : (¬ x < 0 ∧ ¬ Q 1 0 0 ≤ x) ∧ (nI 0 ≤ y ∧ y ≤ nI 60) ∧ (nI 0 ≤ u ∧ u ≤ nI 10) ∧ (nI 0 ≤ w ∧ w ≤ nI 1)
  · obtain ⟨c1, c2, c3, c4⟩ := c
    obtain ⟨p, hp, rfl⟩ := hr.ix c1
    obtain ⟨m, m1, m2, rfl⟩ := rg (by decide) (by decide) c2
    obtain ⟨k, k1, k2, rfl⟩ := rg (by decide) (by decide) c4
    obtain ⟨X, Y, hX, hY, hg, e1, e2, e3, e4, e5⟩ := hr.rain hp (m := m) (S := Q 4) (f := Z 171) c3
    have g0 : ¬ (zgcdC 200 (zckL (Q 1) n p m u (2 ^ n) 0 (nI 0).toInt64 (Q 4)).1 (zpw (nI 10) (zbN (zsh (Q 1) n)))) = (nI 0).toInt64 := by
      rw [e1, e2, e5]
      intro q
      have := (lN_eq (a := Nat.gcd X Y) (b := 0) (gcd_lt hX hY) (by decide)).mp q
      omega
    rcases (show k = 0 ∨ k = 1 by omega) with rfl | rfl
    · exact .l (x_rain_0 hn h6 hp m1 m2 c3 g0) (m_rain_0 h0 hr.kd hp m1 m2 c3 e3 e4 hX hY hg) (by rw [e1, e2, e5, e3]) h.q4.z171 (by decide) (by decide)
    · exact .l (x_rain_1 hn h6 hp m1 m2 c3 g0) (m_rain_1 h0 hr.kd hp m1 m2 c3 e3 e4 hX hY hg) (by rw [e1, e2, e5, e4]) h.q4.z171 (by decide) (by decide)
  · exact .l (x_rain_bad c) (m_rain_bad h0 (by rw [← hr.hasI]; exact c)) rfl h (by decide) (by decide)
theorem s_kind (h : zInv (Q, Z)) {x : Int32} : zStep E zm_X6_kind zm_X7_kind [.int x] (Q, Z) := by
  obtain ⟨n, hr⟩ := h.now
  have hr : zRl (Q 1) (Z 169) n := hr
  have h0 : Z 165 0 = nI 0 := h.1
  have hn := hr.2.1
  have h6 := hr.1
  have hf := hr.f0
  by_cases c : ¬ x < 0 ∧ ¬ Q 1 0 0 ≤ x
  · obtain ⟨p, hp, rfl⟩ := hr.ix c
    exact .i (x_kind_ok hn h6 hp) (m_kind_ok h0 hf h6 hp) (hr.2.2.2.1 p hp).1.symm h (by decide) (by decide)
  · exact .i (x_kind_bad c) (m_kind_bad h0 (by rw [← hr.hasI]; exact c)) rfl h (by decide) (by decide)
theorem s_status (h : zInv (Q, Z)) : zStep E zm_X6_status zm_X7_status [] (Q, Z) := by
  obtain ⟨n, hr⟩ := h.now
  have hr : zRl (Q 1) (Z 169) n := hr
  have h0 : Z 165 0 = nI 0 := h.1
  have hn := hr.2.1
  have h6 := hr.1
  have hf := hr.f0
  exact .i x_status (m_status h0) h.2.1 h (by decide) (by decide)
theorem s_fault (h : zInv (Q, Z)) : zStep E zm_X6_fault zm_X7_fault [] (Q, Z) := by
  obtain ⟨n, hr⟩ := h.now
  have hr : zRl (Q 1) (Z 169) n := hr
  have h0 : Z 165 0 = nI 0 := h.1
  have hn := hr.2.1
  have h6 := hr.1
  have hf := hr.f0
  exact .i x_fault (m_fault h0) h.2.2.1 h (by decide) (by decide)
theorem s_trace (h : zInv (Q, Z)) {x : Int32} : zStep E zm_X6_trace zm_X7_trace [.int x] (Q, Z) := by
  obtain ⟨n, hr⟩ := h.now
  have hr : zRl (Q 1) (Z 169) n := hr
  have h0 : Z 165 0 = nI 0 := h.1
  have hn := hr.2.1
  have h6 := hr.1
  have hf := hr.f0
  obtain ⟨t, t16, e1, e2, e3⟩ := h.2.2.2.2.2.2.2.2.2.2
  have e1 : Z 163 2 = nI t := e1
  have e2 : Z 165 22 = nI t := e2
  have e3 : Z 164 = Z 176 := e3
  by_cases c : nI 0 ≤ x ∧ x ≤ nI t - nI 1
  · have ht : 1 ≤ t := by
      rcases Nat.eq_zero_or_pos t with q | q
      · subst q
        exact absurd (Int32.le_trans c.1 c.2) (by decide)
      · exact q
    rw [pk_sub ht] at c
    obtain ⟨i, i1, i2, rfl⟩ := rg (by decide) (by omega) c
    exact .i (x_trace_ok e1 (by omega) t16) (m_trace_ok h0 e2 (by omega) t16) (by rw [e3]) h (by decide) (by decide)
  · exact .i (x_trace_none (by rw [e1]; exact c)) (m_trace_none h0 (by rw [e2]; exact c)) rfl h (by decide) (by decide)
theorem zcnt_alike (h : zIR Z) : ∀ k, k ≤ 8 → zcnt (fun r => !decide (Z 157 r = -1)) k = zcL (Z 166) k
  | 0, _ => rfl
  | k + 1, hk => by
    have ih := zcnt_alike h k (by omega)
    unfold zcnt zcL
    rw [ih]
    rcases (h k (by omega)).1 with ⟨a, b⟩ | ⟨m, l, hm, hl, a1, a2, a3, a4⟩
    · rw [a, b, if_neg (by decide), if_pos (by decide), show nI 0 = (0 : Int32) from rfl, Int32.add_zero]
    · have n1 : ¬ nI m = -1 := fun q => by
        have := nI_pos (n := m) (by omega)
        rw [q] at this
        exact this (by decide)
      rw [a1, a4, decide_eq_false n1, if_pos (show (!false) = true from rfl), if_neg (nI_pos (by omega))]
      rfl
theorem s_count (h : zInv (Q, Z)) {y : Int32} : zStep E zm_X6_count zm_X7_count [.int y] (Q, Z) := by
  obtain ⟨n, hr⟩ := h.now
  have hr : zRl (Q 1) (Z 169) n := hr
  have h0 : Z 165 0 = nI 0 := h.1
  have hn := hr.2.1
  have h6 := hr.1
  have hf := hr.f0
  rcases rgT (x := y) 7 (by decide) with ⟨k, hk, rfl⟩ | hy
  · obtain ⟨L, a, nu, f, fa, hL, eT, eL, eB⟩ := h.2.2.2.1
    have eT : Z 158 = zTr L a nu f fa := eT
    have eL : Z 165 11 = nI L := eL
    obtain ⟨t, a, h1, h2, h3, h4, h5, h6⟩ := h.2.2.2.2.2.2.2.2.1
    have h4 : Z 160 2 = nI a := h4
    have h5 : Z 165 9 = nI a := h5
    rcases (show k = 0 ∨ k = 1 ∨ k = 2 ∨ k = 3 ∨ k = 4 ∨ k = 5 ∨ k = 6 ∨ k = 7 by omega) with rfl | rfl | rfl | rfl | rfl | rfl | rfl | rfl
    · exact .i x_count_0 (m_count_0 h0) (zcnt_alike h.2.2.2.2.2.2.2.2.2.1 8 (Nat.le_refl _)) h (by decide) (by decide)
    · exact .i x_count_1 (m_count_1 h0) (hr.2.2.1 0 (by decide)).symm h (by decide) (by decide)
    · exact .i x_count_2 (m_count_2 h0) (hr.2.2.1 4 (by decide)).symm h (by decide) (by decide)
    · exact .i x_count_3 (m_count_3 h0) (hr.2.2.1 5 (by decide)).symm h (by decide) (by decide)
    · exact .i (x_count_4 hn hr.1) (m_count_4 h0 hf hr.1) (hr.sum n (Nat.le_refl _)).symm h (by decide) (by decide)
    · exact .i (x_count_5 hn hr.1) (m_count_5 h0 hf hr.1) hr.nmlB h (by decide) (by decide)
    · exact .i x_count_6 (m_count_6 h0) (h4.trans h5.symm) h (by decide) (by decide)
    · exact .i x_count_7 (m_count_7 h0) (by rw [eT, eL]; rfl) h (by decide) (by decide)
  · exact .i (x_count_what hy) (m_count_what h0 hy) rfl h (by decide) (by decide)
end ZSb
