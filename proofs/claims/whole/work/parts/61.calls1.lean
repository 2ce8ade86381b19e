theorem w_danceOf (b : Int32) : wCall 1 MX10_danceOf yX10_danceOf 2 MX11_danceOf yX11_danceOf [zr 0, zi b] := by
  intro σ τ μ ν h
  have hW := h
  obtain ⟨⟨e, ok, ab⟩, ⟨rok, hρ⟩, a3, a4, a5, a6, a7, a8, a9⟩ := h
  refine ⟨_, _, eX10_danceOf_0 σ μ b (by rw [e]; exact ok), eX11_danceOf_0 τ ν b ok, ?_⟩
  rintro r μ' t ν' ⟨p1, rfl⟩ ⟨q1, rfl⟩
  exact ⟨_, p1, by rw [q1, e], hW⟩
theorem w_state (w : Int32) : wCall 1 MX10_state yX10_state 1 MX11_state yX11_state [zr 0, zi w] := by
  intro σ τ μ ν h
  have hW := h
  obtain ⟨⟨e, ok, ab⟩, ⟨rok, hρ⟩, a3, a4, a5, a6, a7, a8, a9⟩ := h
  refine ⟨_, _, eX10_state_0 σ μ w , eX11_state_0 τ ν w , ?_⟩
  rintro r μ' t ν' ⟨p1, rfl⟩ ⟨q1, rfl⟩
  exact ⟨_, p1, by rw [q1, e], hW⟩
theorem w_in (g : Int32) : wCall 4 MX10_in yX10_in 4 MX11_in yX11_in [zr 0, zi g] := by
  intro σ τ μ ν h
  have hW := h
  obtain ⟨⟨e, ok, ab⟩, ⟨rok, hρ⟩, a3, a4, a5, a6, a7, a8, a9⟩ := h
  refine ⟨_, _, eX10_in_0 σ μ g (by rw [e]; exact ok), eX11_in_0 τ ν g ok ab, ?_⟩
  rintro r μ' t ν' ⟨p1, rfl⟩ ⟨q1, rfl⟩
  exact ⟨_, p1, by rw [q1, e], hW⟩
theorem w_lampOf (l : Int32) (what : Int32) : wCall 4 MX10_lampOf yX10_lampOf 6 MX11_lampOf yX11_lampOf [zr 0, zi l, zi what] := by
  intro σ τ μ ν h
  have hW := h
  obtain ⟨⟨e, ok, ab⟩, ⟨rok, hρ⟩, a3, a4, a5, a6, a7, a8, a9⟩ := h
  refine ⟨_, _, eX10_lampOf_0 σ μ l what (by rw [e]; exact ok) rok, eX11_lampOf_0 τ ν l what ok hρ, ?_⟩
  rintro r μ' t ν' ⟨p1, p2⟩ ⟨q1, q2⟩
  exact ⟨_, p1, by rw [q1, e], wW_b hW p2 q2 (by decide) (by decide) (fun j _ => by rw [q2 0 (by decide)])⟩
theorem w_shows (l : Int32) : wCall 6 MX10_shows yX10_shows 8 MX11_shows yX11_shows [zr 0, zi l] := by
  intro σ τ μ ν h
  have hW := h
  obtain ⟨⟨e, ok, ab⟩, ⟨rok, hρ⟩, a3, a4, a5, a6, a7, a8, a9⟩ := h
  refine ⟨_, _, eX10_shows_0 σ μ l (by rw [e]; exact ok) rok, eX11_shows_0 τ ν l ok ab hρ, ?_⟩
  rintro r μ' t ν' ⟨p1, p2⟩ ⟨q1, q2⟩
  exact ⟨_, p1, by rw [q1, e], wW_b hW p2 q2 (by decide) (by decide) (fun j _ => by rw [q2 0 (by decide)])⟩
theorem w_on (n : Int32) : wCall 6 MX10_on yX10_on 7 MX11_on yX11_on [zr 0, zi n] := by
  intro σ τ μ ν h
  have hW := h
  obtain ⟨⟨e, ok, ab⟩, ⟨rok, hρ⟩, a3, a4, a5, a6, a7, a8, a9⟩ := h
  refine ⟨_, _, eX10_on_0 σ μ n (by rw [e]; exact ok) rok, eX11_on_0 τ ν n ok ab hρ, ?_⟩
  rintro r μ' t ν' ⟨p1, p2⟩ ⟨q1, q2⟩
  exact ⟨_, p1, by rw [q1, e], wW_b hW p2 q2 (by decide) (by decide) (fun j _ => by rw [q2 0 (by decide)])⟩
theorem w_lost (l : Int32) : wCall 6 MX10_lost yX10_lost 8 MX11_lost yX11_lost [zr 0, zi l] := by
  intro σ τ μ ν h
  have hW := h
  obtain ⟨⟨e, ok, ab⟩, ⟨rok, hρ⟩, a3, a4, a5, a6, a7, a8, a9⟩ := h
  refine ⟨_, _, eX10_lost_0 σ μ l (by rw [e]; exact ok) rok, eX11_lost_0 τ ν l ok ab hρ, ?_⟩
  rintro r μ' t ν' ⟨p1, p2⟩ ⟨q1, q2⟩
  exact ⟨_, p1, by rw [q1, e], wW_b hW p2 q2 (by decide) (by decide) (fun j _ => by rw [q2 0 (by decide)])⟩
theorem w_crosses (l : Int32) (k : Int32) : wCall 6 MX10_crosses yX10_crosses 7 MX11_crosses yX11_crosses [zr 0, zi l, zi k] := by
  intro σ τ μ ν h
  have hW := h
  obtain ⟨⟨e, ok, ab⟩, ⟨rok, hρ⟩, a3, a4, a5, a6, a7, a8, a9⟩ := h
  refine ⟨_, _, eX10_crosses_0 σ μ l k (by rw [e]; exact ok) rok, eX11_crosses_0 τ ν l k ok ab hρ, ?_⟩
  rintro r μ' t ν' ⟨p1, p2⟩ ⟨q1, q2⟩
  exact ⟨_, p1, by rw [q1, e], wW_b hW p2 q2 (by decide) (by decide) (fun j _ => by rw [q2 0 (by decide)])⟩
theorem w_sized (l : Int32) : wCall 7 MX10_sized yX10_sized 9 MX11_sized yX11_sized [zr 0, zi l] := by
  intro σ τ μ ν h
  have hW := h
  obtain ⟨⟨e, ok, ab⟩, ⟨rok, hρ⟩, a3, a4, a5, a6, a7, a8, a9⟩ := h
  refine ⟨_, _, eX10_sized_0 σ μ l (by rw [e]; exact ok) rok, eX11_sized_0 τ ν l ok ab hρ, ?_⟩
  rintro r μ' t ν' ⟨p1, p2⟩ ⟨q1, q2⟩
  exact ⟨_, p1, by rw [q1, e], wW_b hW p2 q2 (by decide) (by decide) (fun j _ => by rw [q2 0 (by decide)])⟩
theorem w_aimed (l : Int32) : wCall 7 MX10_aimed yX10_aimed 9 MX11_aimed yX11_aimed [zr 0, zi l] := by
  intro σ τ μ ν h
  have hW := h
  obtain ⟨⟨e, ok, ab⟩, ⟨rok, hρ⟩, a3, a4, a5, a6, a7, a8, a9⟩ := h
  refine ⟨_, _, eX10_aimed_0 σ μ l (by rw [e]; exact ok) rok, eX11_aimed_0 τ ν l ok ab hρ, ?_⟩
  rintro r μ' t ν' ⟨p1, p2⟩ ⟨q1, q2⟩
  exact ⟨_, p1, by rw [q1, e], wW_b hW p2 q2 (by decide) (by decide) (fun j _ => by rw [q2 0 (by decide)])⟩
theorem w_stepFor (l : Int32) : wCall 7 MX10_stepFor yX10_stepFor 8 MX11_stepFor yX11_stepFor [zr 0, zi l] := by
  intro σ τ μ ν h
  have hW := h
  obtain ⟨⟨e, ok, ab⟩, ⟨rok, hρ⟩, a3, a4, a5, a6, a7, a8, a9⟩ := h
  refine ⟨_, _, eX10_stepFor_0 σ μ l (by rw [e]; exact ok) rok, eX11_stepFor_0 τ ν l ok ab hρ, ?_⟩
  rintro r μ' t ν' ⟨p1, p2⟩ ⟨q1, q2⟩
  exact ⟨_, p1, by rw [q1, e], wW_b hW p2 q2 (by decide) (by decide) (fun j _ => by rw [q2 0 (by decide)])⟩
theorem w_who : wCall 6 MX10_who yX10_who 7 MX11_who yX11_who [zr 0] := by
  intro σ τ μ ν h
  have hW := h
  obtain ⟨⟨e, ok, ab⟩, ⟨rok, hρ⟩, a3, a4, a5, a6, a7, a8, a9⟩ := h
  refine ⟨_, _, eX10_who_0 σ μ  (by rw [e]; exact ok) rok, eX11_who_0 τ ν  ok ab hρ, ?_⟩
  rintro r μ' t ν' ⟨p1, p2⟩ ⟨q1, q2⟩
  exact ⟨_, p1, by rw [q1, e], wW_b hW p2 q2 (by decide) (by decide) (fun j _ => by rw [q2 0 (by decide)])⟩
theorem w_best (n : Int32) : wCall 11 MX10_best yX10_best 13 MX11_best yX11_best [zr 0, zi n] := by
  intro σ τ μ ν h
  have hW := h
  obtain ⟨⟨e, ok, ab⟩, ⟨rok, hρ⟩, a3, a4, a5, a6, a7, a8, a9⟩ := h
  refine ⟨_, _, eX10_best_0 σ μ n (by rw [e]; exact ok) rok, eX11_best_0 τ ν n ok ab hρ, ?_⟩
  rintro r μ' t ν' ⟨p1, p2⟩ ⟨q1, q2, q3⟩
  exact ⟨_, p1, by rw [q1, e], wW_b hW p2 q2 (by decide) (by decide) (fun j hj => q3 j (by omega) (by omega) (by omega))⟩
theorem w_ways (n : Int32) : wCall 11 MX10_ways yX10_ways 13 MX11_ways yX11_ways [zr 0, zi n] := by
  intro σ τ μ ν h
  have hW := h
  obtain ⟨⟨e, ok, ab⟩, ⟨rok, hρ⟩, a3, a4, a5, a6, a7, a8, a9⟩ := h
  refine ⟨_, _, eX10_ways_0 σ μ n (by rw [e]; exact ok) rok, eX11_ways_0 τ ν n ok ab hρ, ?_⟩
  rintro r μ' t ν' ⟨p1, p2⟩ ⟨q1, q2, q3⟩
  exact ⟨_, p1, by rw [q1, e], wW_b hW p2 q2 (by decide) (by decide) (fun j hj => q3 j (by omega) (by omega) (by omega))⟩
theorem w_ith (n : Int32) (i : Int32) : wCall 11 MX10_ith yX10_ith 13 MX11_ith yX11_ith [zr 0, zi n, zi i] := by
  intro σ τ μ ν h
  have hW := h
  obtain ⟨⟨e, ok, ab⟩, ⟨rok, hρ⟩, a3, a4, a5, a6, a7, a8, a9⟩ := h
  refine ⟨_, _, eX10_ith_0 σ μ n i (by rw [e]; exact ok) rok, eX11_ith_0 τ ν n i ok ab hρ, ?_⟩
  rintro r μ' t ν' ⟨p1, p2⟩ ⟨q1, q2, q3⟩
  exact ⟨_, p1, by rw [q1, e], wW_b hW p2 q2 (by decide) (by decide) (fun j hj => q3 j (by omega) (by omega) (by omega))⟩
theorem w_game (n : Int32) : wCall 11 MX10_game yX10_game 12 MX11_game yX11_game [zr 0, zi n] := by
  intro σ τ μ ν h
  have hW := h
  obtain ⟨⟨e, ok, ab⟩, ⟨rok, hρ⟩, a3, a4, a5, a6, a7, a8, a9⟩ := h
  refine ⟨_, _, eX10_game_0 σ μ n (by rw [e]; exact ok) rok, eX11_game_0 τ ν n ok ab hρ, ?_⟩
  rintro r μ' t ν' ⟨p1, p2⟩ ⟨q1, q2, q3⟩
  exact ⟨_, p1, by rw [q1, e], wW_b hW p2 q2 (by decide) (by decide) (fun j hj => q3 j (by omega))⟩
theorem w_play (n : Int32) : wCall 11 MX10_play yX10_play 12 MX11_play yX11_play [zr 0, zi n] := by
  intro σ τ μ ν h
  have hW := h
  obtain ⟨⟨e, ok, ab⟩, ⟨rok, hρ⟩, a3, a4, a5, a6, a7, a8, a9⟩ := h
  refine ⟨_, _, eX10_play_0 σ μ n (by rw [e]; exact ok) rok, eX11_play_0 τ ν n ok ab hρ, ?_⟩
  rintro r μ' t ν' ⟨p1, p2⟩ ⟨q1, q2, q3⟩
  exact ⟨_, p1, by rw [q1, e], wW_b hW p2 q2 (by decide) (by decide) (fun j hj => q3 j (by omega))⟩
