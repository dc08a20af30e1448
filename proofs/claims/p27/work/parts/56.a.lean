/-! The law's words, and those of the methods that it calls. -/
set_option maxRecDepth 20000 in
theorem kl_in_X5 : ∀ w ∈ wsX50, w ∈ lw_tbl := fun w h => (goodIn_p wsX50 [] (by decide +kernel) (by decide +kernel) w h).1
set_option maxRecDepth 20000 in
theorem kl_in_X3 : ∀ w ∈ wsX30, w ∈ lw_tbl := fun w h => (goodIn_p wsX30 [] (by decide +kernel) (by decide +kernel) w h).1
set_option maxRecDepth 20000 in
theorem kl_in_X2 : ∀ w ∈ wsX20, w ∈ lw_tbl := fun w h => (goodIn_p wsX20 [] (by decide +kernel) (by decide +kernel) w h).1
set_option maxRecDepth 20000 in
theorem kl_in_X1 : ∀ w ∈ wsX10, w ∈ lw_tbl := fun w h => (goodIn_p wsX10 [] (by decide +kernel) (by decide +kernel) w h).1
set_option maxRecDepth 20000 in
theorem kl_in_X0 : ∀ w ∈ wsX00, w ∈ lw_tbl := fun w h => (goodIn_p wsX00 [] (by decide +kernel) (by decide +kernel) w h).1
set_option maxRecDepth 20000 in
theorem kl_in_X4 : ∀ w ∈ wsX40, w ∈ lw_tbl := fun w h => (goodIn_p wsX40 [] (by decide +kernel) (by decide +kernel) w h).1
theorem wsL_law_in0 : ∀ w ∈ wsL_law0, w ∈ lw_tbl := by
  intro w h
  unfold wsL_law0 at h
  rcases List.mem_append.mp h with h | h
  case inr => cases h
  rcases List.mem_append.mp h with h | h
  case inr => exact kl_in_X4 w h
  rcases List.mem_append.mp h with h | h
  case inr => exact kl_in_X0 w h
  rcases List.mem_append.mp h with h | h
  case inr => exact kl_in_X1 w h
  rcases List.mem_append.mp h with h | h
  case inr => exact kl_in_X2 w h
  rcases List.mem_append.mp h with h | h
  case inr => exact kl_in_X3 w h
  rcases List.mem_append.mp h with h | h
  case inr => exact kl_in_X5 w h
  rcases List.mem_append.mp h with h | h
  · exact kl_in_1 w h
  rcases List.mem_append.mp h with h | h
  · exact kl_in_2 w h
  rcases List.mem_append.mp h with h | h
  · exact kl_in_3 w h
  rcases List.mem_append.mp h with h | h
  · exact kl_in_4 w h
  rcases List.mem_append.mp h with h | h
  · exact kl_in_5 w h
  rcases List.mem_append.mp h with h | h
  · exact kl_in_6 w h
  rcases List.mem_append.mp h with h | h
  · exact kl_in_7 w h
  rcases List.mem_append.mp h with h | h
  · exact kl_in_8 w h
  rcases List.mem_append.mp h with h | h
  · exact kl_in_9 w h
  rcases List.mem_append.mp h with h | h
  · exact kl_in_10 w h
  rcases List.mem_append.mp h with h | h
  · exact kl_in_11 w h
  rcases List.mem_append.mp h with h | h
  · exact kl_in_12 w h
  rcases List.mem_append.mp h with h | h
  · exact kl_in_13 w h
  rcases List.mem_append.mp h with h | h
  · exact kl_in_14 w h
  rcases List.mem_append.mp h with h | h
  · exact kl_in_15 w h
  rcases List.mem_append.mp h with h | h
  · exact kl_in_16 w h
  exact kl_in_17 w h
theorem wsL_law_x0 : ∀ w ∈ (vx_atS RX5 283 "java/lang/IndexOutOfBoundsException" ["java/lang/RuntimeException", "java/lang/Exception"]).filter goodWord, w ∈ lw_tbl := by decide +kernel
theorem wsL_law_x1 : ∀ w ∈ (vx_atS RX5 288 "java/lang/IllegalArgumentException" ["java/lang/RuntimeException", "java/lang/Exception"]).filter goodWord, w ∈ lw_tbl := by decide +kernel
theorem wsL_law_in : ∀ w ∈ wsL_law, w ∈ lw_tbl := fun w h => (List.mem_append.mp h).elim (fun h => (List.mem_append.mp h).elim (fun h => wsL_law_in0 w h) (fun h => wsL_law_x0 w h)) (fun h => wsL_law_x1 w h)
