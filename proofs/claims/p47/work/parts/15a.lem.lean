theorem mxI_neg (F : Int → Int) (a : Int) {n : Int} (h : n ≤ 0) : mxI F a n = 0 := by
  unfold mxI; rw [show n.toNat = 0 by omega]; rfl
