section ZRb
variable {S T F : zS} {f g : zF} {n p : Nat} {x v : Int32}
theorem zi_ring (x l r a : Int32) : (x + l) + (r - (a + l)) = x + (r - a) := by
  apply Int32.toBitVec_inj.mp
  simp only [Int32.toBitVec_add, Int32.toBitVec_sub]
  generalize x.toBitVec = x
  generalize l.toBitVec = l
  generalize r.toBitVec = r
  generalize a.toBitVec = a
  apply BitVec.eq_of_toInt_eq
  simp only [BitVec.toInt_add, BitVec.toInt_sub]
  simp only [Int.bmod_add_bmod, Int.add_bmod_bmod, Int.sub_bmod_bmod, Int.bmod_sub_bmod]
  congr 1
  omega
theorem zbdM_sum : ∀ (k X : Nat) (x : Int32) (f : zF), (zbdM n k X x f).1 = x + ((zbdM n k X x f).2 5 - f 5)
  | 0, X, x, f => by
    show x = x + (f 5 - f 5)
    rw [Int32.sub_self, Int32.add_zero]
  | k + 1, X, x, f => by
    unfold zbdM
    rw [zbdM_sum k _ _ _, noonM_5, zdrM_5]
    exact zi_ring _ _ _ _
end ZRb
