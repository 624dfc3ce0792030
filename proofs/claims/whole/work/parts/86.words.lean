/-! 86: single words of the law -/
theorem hw_0 : (.constantDouble RL 74 (4593671619917905920) : Cond) ∈ wsL_law := List.mem_append_left _ (List.mem_append_left _ (List.mem_append_left _ (by decide +kernel)))
