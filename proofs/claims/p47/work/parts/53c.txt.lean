/-- what stands in the text doesn't hang on what stood there before -/
theorem wrN_sg (tp tt sg sg2 : Int → Int) (rg : Int) : ∀ (n : Nat) (j : Int), 0 ≤ j → j < wrL (n : Int) → wrN tp tt sg rg n j = wrN tp tt sg2 rg n j
  | 0, j, h1, h2 => by
    unfold wrL at h2
    rw [if_pos (by omega)] at h2
    omega
  | n + 1, j, h1, h2 => by
    have ih := wrN_sg tp tt sg sg2 rg n j h1
    unfold wrL at h2 ih
    rw [if_neg (by omega)] at h2
    show up (up (up (if (n : Int) = 0 then wrN tp tt sg rg n else up (wrN tp tt sg rg n) (4 * (n : Int) - 1) 32) (4 * (n : Int)) (48 + tp (rg + (n : Int)))) (4 * (n : Int) + 1) 47) (4 * (n : Int) + 2) (48 + tt (rg + (n : Int))) j = up (up (up (if (n : Int) = 0 then wrN tp tt sg2 rg n else up (wrN tp tt sg2 rg n) (4 * (n : Int) - 1) 32) (4 * (n : Int)) (48 + tp (rg + (n : Int)))) (4 * (n : Int) + 1) 47) (4 * (n : Int) + 2) (48 + tt (rg + (n : Int))) j
    by_cases z : (n : Int) = 0
    · simp only [if_pos z, up] at ih ⊢
      omega
    · simp only [if_neg z, up] at ih ⊢
      omega
theorem wrI_sg (tp tt sg sg2 : Int → Int) (rg : Int) {n j : Int} (h : 0 ≤ j) (h2 : j < wrL n) (h0 : 0 ≤ n) : wrI tp tt sg rg n j = wrI tp tt sg2 rg n j := by
  obtain ⟨k, rfl⟩ := Int.eq_ofNat_of_zero_le h0
  unfold wrI
  rw [Int.toNat_natCast]
  exact wrN_sg tp tt sg sg2 rg k j h h2
