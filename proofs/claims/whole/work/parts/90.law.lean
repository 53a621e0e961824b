theorem law_pure (G : oG) (hL : gn G ≤ 3072) : Wp G m_L_law (fun v _ => v = some (.int 1)) 0 600000 7302250 [(0, .ref 0)] [] [] := by
  sorry
