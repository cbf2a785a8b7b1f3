theorem pp_tent : pr_tent re_all := sorry
