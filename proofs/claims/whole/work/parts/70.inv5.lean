section ZSf
variable {Q : Nat → Nat → Nat → Int32} {Z : zS} {E : zE}
set_option maxHeartbeats 1000000 in
theorem s_square (h : zInv (Q, Z)) : zStep E zm_X6_square zm_X7_square [] (Q, Z) := by
  have h0 : Z 165 0 = nI 0 := h.1
  have hc := h
  obtain ⟨c1, c2, c3, ⟨L, a, nu, f, fa, hL, eT, eL, eB⟩, ⟨u, s, ec, es⟩, c6, c7, c8, c9, c10, c11⟩ := hc
  have eT : Z 158 = zTr L a nu f fa := eT
  have eL : Z 165 11 = nI L := eL
  have eB : Z 159 = Z 173 := eB
  have hd : zDr (zsu (Q 0) 0 0 (nI 0)) := zDr.u (S := Q 0) c6 (by omega)
  obtain ⟨y, ey⟩ : ∃ y, zNxT (Z 159) L (0, s, Z 165 14, Z 165 15, nI 0, Z 165 17) = y := ⟨_, rfl⟩
  have hat : zAt (Z 159) L 0 y := by
    rw [← ey]
    exact zNxT_at rfl
  have all := rd_all (S := zsu (Q 0) 0 0 (nI 0)) (F := zl36 (fun _ => nI 0) (Z 170) 36) (nu := nu) (f := f) (fa := fa) hat hd zs_eq (fun k hk => if_pos (by omega)) hL
  obtain ⟨R, eR⟩ : ∃ R, zqR (Z 159) L (zl36 (fun _ => nI 0) (Z 170) 36) y = R := ⟨_, rfl⟩
  rw [eR] at all
  obtain ⟨Y, eY⟩ : ∃ Y, zFa R.2 = Y := ⟨_, rfl⟩
  rw [eY] at all
  rcases all with ⟨S', b, nu', n', e, hr, hn, hd', f0⟩ | ⟨S', j, nu', w, e, ⟨f1, f2, f3⟩, hd'⟩
  · have hx := x_square_ok (E := E) (Q := Q) (Z := Z) eT hL (by rw [e])
    rw [e] at hx
    dsimp only at hx
    obtain ⟨Z1, eZ1⟩ : ∃ Z1, va_up (va_up Z 158 (zT0 (S', b, nu', f, fa))) 160 (upd (upd (Z 160) 1 (nI 0)) 2 (nI 0)) = Z1 := ⟨_, rfl⟩
    have g170 : Z1 170 = Z 170 := by rw [← eZ1]; rfl
    have g165 : Z1 165 = Z 165 := by rw [← eZ1]; rfl
    have g173 : Z1 173 = Z 159 := by rw [← eZ1]; exact eB.symm
    have eS : zsqR Z1 (Z 159) L s = R := by
      unfold zsqR
      rw [g170, g165, ey, eR]
    rw [eZ1] at hx
    have hm := m_square_ok (E := E) (Q := va_up (va_up Q 0 S') 1 (takeC (Q 1) S')) (Z := Z1) (c := u) (s := s) (L := L) (B := Z 159) (by rw [g165]; exact h0) (by rw [g165]; exact ec) (by rw [g165]; exact es) (by rw [g165]; exact eL) g173 hL (by rw [eS, eY, f0]; decide)
    rw [eS, eY, if_pos (show Y.2.2.2.2.1 ≤ 0 by rw [f0]; decide)] at hm
    refine .i hx hm (hr.2.2.1 0 (by decide)).symm ?_ (by decide) (by decide)
    subst eZ1
    refine ⟨c1, c2, c3, ⟨0, b, nu', f, fa, by omega, rfl, rfl, eB⟩, ⟨Y.1, Y.2.1, rfl, rfl⟩, hd', ⟨n', hr.take⟩, c8, ⟨0, 0, by decide, by decide, rfl, rfl, rfl, fun i hi => absurd hi (by omega)⟩, ?_, c11⟩
    show zIR (va_up (va_up (zsu (zsu (zsu (va_up (va_up (va_up Z 158 (zT0 (S', b, nu', f, fa))) 160 (upd (upd (Z 160) 1 (nI 0)) 2 (nI 0))) 170 R.1) 165 11 (nI 0)) 165 18 _) 165 9 (nI 0)) 165 _) 169 _)
    exact (((((((c10.z (by omega)).z (by omega)).z (by omega)).s (by omega)).s (by omega)).s (by omega)).z (by omega)).z (by omega)
  · have hx := x_square_bad (E := E) (Q := Q) (Z := Z) eT hL (by rw [e]; exact (show ¬ (false = true) by decide))
    rw [e] at hx
    dsimp only at hx
    obtain ⟨Z1, eZ1⟩ : ∃ Z1, zsu (va_up Z 158 (zT0 (S', j, nu', w, nI j))) 145 8 w = Z1 := ⟨_, rfl⟩
    have g170 : Z1 170 = Z 170 := by rw [← eZ1]; rfl
    have g165 : Z1 165 = Z 165 := by rw [← eZ1]; rfl
    have g173 : Z1 173 = Z 159 := by rw [← eZ1]; exact eB.symm
    have eS : zsqR Z1 (Z 159) L s = R := by
      unfold zsqR
      rw [g170, g165, ey, eR]
    rw [eZ1] at hx
    have hm := m_square_bad (E := E) (Q := va_up Q 0 S') (Z := Z1) (c := u) (s := s) (L := L) (B := Z 159) (by rw [g165]; exact h0) (by rw [g165]; exact ec) (by rw [g165]; exact es) (by rw [g165]; exact eL) g173 hL (by rw [eS, eY, f1]; exact f3)
    rw [eS, eY, if_neg (show ¬ Y.2.2.2.2.1 ≤ 0 by rw [f1]; exact f3)] at hm
    refine .i hx hm (by rw [f2]) ?_ (by decide) (by decide)
    subst eZ1
    refine ⟨c1, c2, f1.symm, ⟨0, j, nu', w, nI j, by omega, rfl, rfl, eB⟩, ⟨Y.1, Y.2.1, rfl, rfl⟩, hd', c7, c8, c9.q (by decide), ?_, c11⟩
    show zIR (va_up (zsu (zsu (va_up (zsu (va_up Z 158 (zT0 (S', j, nu', w, nI j))) 145 8 w) 170 R.1) 165 11 (nI 0)) 165 18 _) 165 _)
    exact (((((c10.z (by omega)).s (by omega)).z (by omega)).s (by omega)).s (by omega)).z (by omega)
end ZSf
