/-! WANTING: the mean width of both -/
theorem cs_meanWidthBits {PL : List (Nat × Nat)} {V : Mm_} {n u : Nat} (hu : u < 512) (hL : LV_ V n u) : Cs_ PL mX7_meanWidthBits mX8_meanWidthBits [] V u := by
  sorry
