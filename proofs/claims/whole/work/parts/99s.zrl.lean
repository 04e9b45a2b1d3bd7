-- WHAT HOLDS AT THE START
theorem zw_T : zTn zw0 := ⟨by decide, by decide, fun s h1 h2 => absurd h1 (by have h3 : s < 0 := h2; omega)⟩
theorem zw_Q : zQ zw0 := ⟨⟨by decide, by decide, fun h => absurd h (by decide)⟩, ⟨by decide, ⟨by decide, fun _ _ _ => ⟨(show (-1000 : Int) ≤ 0 by decide), (show (0 : Int) ≤ 1000 by decide)⟩⟩, fun h => absurd h (by decide)⟩, ⟨by decide, by decide, fun h => absurd h (by decide)⟩, ⟨by decide, by decide, fun h => absurd h (by decide)⟩, ⟨rfl, fun _ _ _ => rfl⟩⟩
