theorem gi_cons {big ws : List Cond} {w : Cond} (h : w ∈ big) (hg : goodWord w = true) (hr : GoodIn big ws) : GoodIn big (w :: ws) := by
  intro z hz
  rcases List.mem_cons.mp hz with rfl | hz
  · exact ⟨h, good_of_word hg⟩
  · exact hr z hz
