theorem wL_bound : Cond.codeWith yL_bound cL_bound 9 (some .int) [(0, 13, 16, 13), (0, 13, 20, 15), (0, 13, 24, 17)] ∈ wa_T := wa_in 369 (by decide +kernel) rfl
theorem wL_share : Cond.codeWith yL_share cL_share 6 (some .int) [(0, 11, 14, 23)] ∈ wa_T := wa_in 499 (by decide +kernel) rfl
theorem wL_sum : Cond.codeWith yL_sum cL_sum 5 (some .int) [(0, 9, 12, 23)] ∈ wa_T := wa_in 523 (by decide +kernel) rfl
theorem wL_lent : Cond.codeWith yL_lent cL_lent 4 (some .int) [(0, 8, 11, 23)] ∈ wa_T := wa_in 545 (by decide +kernel) rfl
theorem wL_waits : Cond.codeWith yL_waits cL_waits 5 (some .int) [(0, 9, 12, 23)] ∈ wa_T := wa_in 553 (by decide +kernel) rfl
