theorem NI_init : NI (up (up (fun _ => 0) 5 50) 7 100) 0 0 0 0 0 50 0 100 (fun _ => 0) (fun _ => 0) (fun _ => 0) (fun _ => 0) (fun _ => 0) (fun _ => 0) (fun _ => 0) (fun _ => 0) (fun _ => 0) (fun _ => 0) (fun _ => 0) := by
  refine ⟨⟨by simp [up], by simp [up], by simp [up], by simp [up], by simp [up], by simp [up], by simp [up], by simp [up]⟩, ?_, ?_, ?_, ?_, ?_, ?_, ?_, ?_, ?_, ?_⟩
  · intro i h1 h2
    rw [up_ne _ _ (by omega), up_ne _ _ (by omega)]
  all_goals first | (intro i h1 h2; exact absurd h2 (by omega)) | (intro t k h1 h2 h3 h4; have h4 : k < 0 := h4; exact absurd h4 (by omega))
