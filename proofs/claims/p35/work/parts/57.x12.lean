def wm_X6_flagged : List Cond := .code yX6_flagged cX6_flagged 4 (some .int) :: (([] : List Cond))
