theorem lcmp_0 (x : Int64) : lg_cmp x x = 0 := by
  have h : ¬ x > x := fun q => absurd (Int64.lt_iff_toInt_lt.mp q) (Int.lt_irrefl _)
  unfold lg_cmp
  rw [if_neg h, if_pos rfl]
