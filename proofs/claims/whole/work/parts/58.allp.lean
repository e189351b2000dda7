/-! ===== all pairs ===== -/
theorem allp : ALLP := ⟨p_net, p_ofStretch, p_due, p_law, p_friend, p_close0, p_close1, p_walk, p_safe, p_quickest, p_via, p_best, p_safest, p_worth, p_reading0, p_reading1, p_back, p_trails, p_dawdle, p_sheet, p_lose, p_put, p_cell, p_copy, p_tell, p_sing, p_as, p_trace, p_fault, p_many⟩
