theorem pp_ordain : pr_ordain re_all := sorry
theorem pp_tent : pr_tent re_all := sorry
