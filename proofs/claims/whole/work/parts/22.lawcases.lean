theorem ml_RL_13 : Cond.methodLink R_law 13 yX6_knight ∈ ex_T := ex_mem 200 (by decide +kernel) rfl
theorem ml_RL_17 : Cond.methodLink R_law 17 yX7_knight ∈ ex_T := ex_mem 806 (by decide +kernel) rfl
theorem ml_RL_18 : Cond.methodLink R_law 18 yX6_arms ∈ ex_T := ex_mem 229 (by decide +kernel) rfl
theorem ml_RL_21 : Cond.methodLink R_law 21 yX7_arms ∈ ex_T := ex_mem 820 (by decide +kernel) rfl
theorem ml_RL_22 : Cond.methodLink R_law 22 yX6_rank ∈ ex_T := ex_mem 238 (by decide +kernel) rfl
theorem ml_RL_26 : Cond.methodLink R_law 26 yX7_rank ∈ ex_T := ex_mem 828 (by decide +kernel) rfl
theorem ml_RL_27 : Cond.methodLink R_law 27 yX6_of ∈ ex_T := ex_mem 247 (by decide +kernel) rfl
theorem ml_RL_30 : Cond.methodLink R_law 30 yX7_of ∈ ex_T := ex_mem 832 (by decide +kernel) rfl
theorem ml_RL_31 : Cond.methodLink R_law 31 yX6_near ∈ ex_T := ex_mem 280 (by decide +kernel) rfl
theorem ml_RL_35 : Cond.methodLink R_law 35 yX7_near ∈ ex_T := ex_mem 848 (by decide +kernel) rfl
theorem ml_RL_36 : Cond.methodLink R_law 36 yX6_feed ∈ ex_T := ex_mem 288 (by decide +kernel) rfl
theorem ml_RL_40 : Cond.methodLink R_law 40 yX7_feed ∈ ex_T := ex_mem 852 (by decide +kernel) rfl
theorem ml_RL_41 : Cond.methodLink R_law 41 yX6_ordain ∈ ex_T := ex_mem 306 (by decide +kernel) rfl
theorem ml_RL_44 : Cond.methodLink R_law 44 yX7_ordain ∈ ex_T := ex_mem 860 (by decide +kernel) rfl
theorem ml_RL_45 : Cond.methodLink R_law 45 yX6_scrap ∈ ex_T := ex_mem 366 (by decide +kernel) rfl
theorem ml_RL_48 : Cond.methodLink R_law 48 yX7_scrap ∈ ex_T := ex_mem 856 (by decide +kernel) rfl
theorem ml_RL_49 : Cond.methodLink R_law 49 yX6_force ∈ ex_T := ex_mem 370 (by decide +kernel) rfl
theorem ml_RL_52 : Cond.methodLink R_law 52 yX7_force ∈ ex_T := ex_mem 879 (by decide +kernel) rfl
theorem ml_RL_53 : Cond.methodLink R_law 53 yX6_worth ∈ ex_T := ex_mem 382 (by decide +kernel) rfl
theorem ml_RL_56 : Cond.methodLink R_law 56 yX7_worth ∈ ex_T := ex_mem 883 (by decide +kernel) rfl
theorem ml_RL_57 : Cond.methodLink R_law 57 yX6_joust ∈ ex_T := ex_mem 396 (by decide +kernel) rfl
theorem ml_RL_60 : Cond.methodLink R_law 60 yX7_joust ∈ ex_T := ex_mem 888 (by decide +kernel) rfl
theorem ml_RL_61 : Cond.methodLink R_law 61 yX6_stroke ∈ ex_T := ex_mem 432 (by decide +kernel) rfl
theorem ml_RL_64 : Cond.methodLink R_law 64 yX7_stroke ∈ ex_T := ex_mem 896 (by decide +kernel) rfl
theorem ml_RL_65 : Cond.methodLink R_law 65 yX6_copy ∈ ex_T := ex_mem 442 (by decide +kernel) rfl
theorem ml_RL_69 : Cond.methodLink R_law 69 yX7_copy ∈ ex_T := ex_mem 910 (by decide +kernel) rfl
theorem ml_RL_70 : Cond.methodLink R_law 70 yX6_sheet ∈ ex_T := ex_mem 453 (by decide +kernel) rfl
theorem ml_RL_74 : Cond.methodLink R_law 74 yX7_sheet ∈ ex_T := ex_mem 914 (by decide +kernel) rfl
theorem ml_RL_75 : Cond.methodLink R_law 75 yX6_wins ∈ ex_T := ex_mem 498 (by decide +kernel) rfl
theorem ml_RL_78 : Cond.methodLink R_law 78 yX7_wins ∈ ex_T := ex_mem 926 (by decide +kernel) rfl
theorem ml_RL_79 : Cond.methodLink R_law 79 yX6_won ∈ ex_T := ex_mem 512 (by decide +kernel) rfl
theorem ml_RL_82 : Cond.methodLink R_law 82 yX7_won ∈ ex_T := ex_mem 934 (by decide +kernel) rfl
theorem ml_RL_83 : Cond.methodLink R_law 83 yX6_best ∈ ex_T := ex_mem 521 (by decide +kernel) rfl
theorem ml_RL_86 : Cond.methodLink R_law 86 yX7_best ∈ ex_T := ex_mem 942 (by decide +kernel) rfl
theorem ml_RL_87 : Cond.methodLink R_law 87 yX6_owes ∈ ex_T := ex_mem 538 (by decide +kernel) rfl
theorem ml_RL_90 : Cond.methodLink R_law 90 yX7_owes ∈ ex_T := ex_mem 950 (by decide +kernel) rfl
theorem ml_RL_91 : Cond.methodLink R_law 91 yX6_pay ∈ ex_T := ex_mem 557 (by decide +kernel) rfl
theorem ml_RL_94 : Cond.methodLink R_law 94 yX7_pay ∈ ex_T := ex_mem 958 (by decide +kernel) rfl
theorem ml_RL_95 : Cond.methodLink R_law 95 yX6_purse ∈ ex_T := ex_mem 566 (by decide +kernel) rfl
theorem ml_RL_98 : Cond.methodLink R_law 98 yX7_purse ∈ ex_T := ex_mem 962 (by decide +kernel) rfl
theorem ml_RL_99 : Cond.methodLink R_law 99 yX6_challenge ∈ ex_T := ex_mem 574 (by decide +kernel) rfl
theorem ml_RL_102 : Cond.methodLink R_law 102 yX7_challenge ∈ ex_T := ex_mem 966 (by decide +kernel) rfl
theorem ml_RL_103 : Cond.methodLink R_law 103 yX6_withdraw ∈ ex_T := ex_mem 594 (by decide +kernel) rfl
theorem ml_RL_106 : Cond.methodLink R_law 106 yX7_withdraw ∈ ex_T := ex_mem 970 (by decide +kernel) rfl
theorem ml_RL_107 : Cond.methodLink R_law 107 yX6_turn ∈ ex_T := ex_mem 606 (by decide +kernel) rfl
theorem ml_RL_110 : Cond.methodLink R_law 110 yX7_turn ∈ ex_T := ex_mem 974 (by decide +kernel) rfl
theorem ml_RL_111 : Cond.methodLink R_law 111 yX6_turns ∈ ex_T := ex_mem 634 (by decide +kernel) rfl
theorem ml_RL_114 : Cond.methodLink R_law 114 yX7_turns ∈ ex_T := ex_mem 990 (by decide +kernel) rfl
theorem ml_RL_115 : Cond.methodLink R_law 115 yX6_feud ∈ ex_T := ex_mem 642 (by decide +kernel) rfl
theorem ml_RL_119 : Cond.methodLink R_law 119 yX7_feud ∈ ex_T := ex_mem 994 (by decide +kernel) rfl
theorem ml_RL_120 : Cond.methodLink R_law 120 yX6_tent ∈ ex_T := ex_mem 654 (by decide +kernel) rfl
theorem ml_RL_123 : Cond.methodLink R_law 123 yX7_tent ∈ ex_T := ex_mem 998 (by decide +kernel) rfl
theorem ml_RL_124 : Cond.methodLink R_law 124 yX6_many ∈ ex_T := ex_mem 673 (by decide +kernel) rfl
theorem ml_RL_127 : Cond.methodLink R_law 127 yX7_many ∈ ex_T := ex_mem 1014 (by decide +kernel) rfl
def pr_knight (Rel : ex_WW → Prop) : Prop := ∀ w, Rel w → ∀ a0 a1 a2 a3 : Int32, ex_Ev 60 mX6_knight 0 (ex_in [.inr 0, .inl a0, .inl a1, .inl a2, .inl a3] 5) [] w (fun r1 u1 => ex_Ev 60 mX7_knight 0 (ex_in [.inr 23, .inl a0, .inl a1, .inl a2, .inl a3] 5) [] u1 (fun r2 u2 => r1 = r2 ∧ Rel u2))
def pr_arms (Rel : ex_WW → Prop) : Prop := ∀ w, Rel w → ∀ a0 a1 a2 a3 : Int32, ex_Ev 60 mX6_arms 0 (ex_in [.inr 0, .inl a0, .inl a1, .inl a2, .inl a3] 5) [] w (fun r1 u1 => ex_Ev 60 mX7_arms 0 (ex_in [.inr 23, .inl a0, .inl a1, .inl a2, .inl a3] 5) [] u1 (fun r2 u2 => r1 = r2 ∧ Rel u2))
def pr_rank (Rel : ex_WW → Prop) : Prop := ∀ w, Rel w → ∀ a0 a1 : Int32, ex_Ev 60 mX6_rank 0 (ex_in [.inr 0, .inl a0, .inl a1] 4) [] w (fun r1 u1 => ex_Ev 60 mX7_rank 0 (ex_in [.inr 23, .inl a0, .inl a1] 4) [] u1 (fun r2 u2 => r1 = r2 ∧ Rel u2))
def pr_of (Rel : ex_WW → Prop) : Prop := ∀ w, Rel w → ∀ a0 a1 : Int32, ex_Ev 60 mX6_of 0 (ex_in [.inr 0, .inl a0, .inl a1] 3) [] w (fun r1 u1 => ex_Ev 60 mX7_of 0 (ex_in [.inr 23, .inl a0, .inl a1] 3) [] u1 (fun r2 u2 => r1 = r2 ∧ Rel u2))
def pr_near (Rel : ex_WW → Prop) : Prop := ∀ w, Rel w →  ex_Ev 60 mX6_near 0 (ex_in [.inr 0] 1) [] w (fun r1 u1 => ex_Ev 60 mX7_near 0 (ex_in [.inr 23] 4) [] u1 (fun r2 u2 => r1 = r2 ∧ Rel u2))
def pr_feed (Rel : ex_WW → Prop) : Prop := ∀ w, Rel w → ∀ a0 : Int32, ex_Ev 60 mX6_feed 0 (ex_in [.inr 0, .inl a0] 2) [] w (fun r1 u1 => ex_Ev 60 mX7_feed 0 (ex_in [.inr 23, .inl a0] 4) [] u1 (fun r2 u2 => r1 = r2 ∧ Rel u2))
def pr_ordain (Rel : ex_WW → Prop) : Prop := ∀ w, Rel w →  ex_Ev 60 mX6_ordain 0 (ex_in [.inr 0] 2) [] w (fun r1 u1 => ex_Ev 60 mX7_ordain 0 (ex_in [.inr 23] 3) [] u1 (fun r2 u2 => r1 = r2 ∧ Rel u2))
def pr_scrap (Rel : ex_WW → Prop) : Prop := ∀ w, Rel w →  ex_Ev 60 mX6_scrap 0 (ex_in [.inr 0] 1) [] w (fun r1 u1 => ex_Ev 60 mX7_scrap 0 (ex_in [.inr 23] 2) [] u1 (fun r2 u2 => r1 = r2 ∧ Rel u2))
def pr_force (Rel : ex_WW → Prop) : Prop := ∀ w, Rel w → ∀ a0 : Int32, ex_Ev 60 mX6_force 0 (ex_in [.inr 0, .inl a0] 2) [] w (fun r1 u1 => ex_Ev 60 mX7_force 0 (ex_in [.inr 23, .inl a0] 2) [] u1 (fun r2 u2 => r1 = r2 ∧ Rel u2))
def pr_worth (Rel : ex_WW → Prop) : Prop := ∀ w, Rel w → ∀ a0 a1 : Int32, ex_Ev 60 mX6_worth 0 (ex_in [.inr 0, .inl a0, .inl a1] 3) [] w (fun r1 u1 => ex_Ev 60 mX7_worth 0 (ex_in [.inr 23, .inl a0, .inl a1] 3) [] u1 (fun r2 u2 => r1 = r2 ∧ Rel u2))
def pr_joust (Rel : ex_WW → Prop) : Prop := ∀ w, Rel w → ∀ a0 a1 : Int32, ex_Ev 60 mX6_joust 0 (ex_in [.inr 0, .inl a0, .inl a1] 3) [] w (fun r1 u1 => ex_Ev 60 mX7_joust 0 (ex_in [.inr 23, .inl a0, .inl a1] 4) [] u1 (fun r2 u2 => r1 = r2 ∧ Rel u2))
def pr_stroke (Rel : ex_WW → Prop) : Prop := ∀ w, Rel w → ∀ a0 a1 a2 a3 : Int32, ex_Ev 60 mX6_stroke 0 (ex_in [.inr 0, .inl a0, .inl a1, .inl a2, .inl a3] 5) [] w (fun r1 u1 => ex_Ev 60 mX7_stroke 0 (ex_in [.inr 23, .inl a0, .inl a1, .inl a2, .inl a3] 7) [] u1 (fun r2 u2 => r1 = r2 ∧ Rel u2))
def pr_copy (Rel : ex_WW → Prop) : Prop := ∀ w, Rel w → ∀ a0 a1 a2 a3 a4 a5 : Int32, ex_Ev 60 mX6_copy 0 (ex_in [.inr 0, .inl a0, .inl a1, .inl a2, .inl a3, .inl a4, .inl a5] 7) [] w (fun r1 u1 => ex_Ev 60 mX7_copy 0 (ex_in [.inr 23, .inl a0, .inl a1, .inl a2, .inl a3, .inl a4, .inl a5] 11) [] u1 (fun r2 u2 => r1 = r2 ∧ Rel u2))
def pr_sheet (Rel : ex_WW → Prop) : Prop := ∀ w, Rel w → ∀ a0 a1 a2 : Int32, ex_Ev 60 mX6_sheet 0 (ex_in [.inr 0, .inl a0, .inl a1, .inl a2] 5) [] w (fun r1 u1 => ex_Ev 60 mX7_sheet 0 (ex_in [.inr 23, .inl a0, .inl a1, .inl a2] 4) [] u1 (fun r2 u2 => r1 = r2 ∧ Rel u2))
def pr_wins (Rel : ex_WW → Prop) : Prop := ∀ w, Rel w → ∀ a0 a1 : Int32, ex_Ev 60 mX6_wins 0 (ex_in [.inr 0, .inl a0, .inl a1] 4) [] w (fun r1 u1 => ex_Ev 60 mX7_wins 0 (ex_in [.inr 23, .inl a0, .inl a1] 3) [] u1 (fun r2 u2 => r1 = r2 ∧ Rel u2))
def pr_won (Rel : ex_WW → Prop) : Prop := ∀ w, Rel w → ∀ a0 : Int32, ex_Ev 60 mX6_won 0 (ex_in [.inr 0, .inl a0] 2) [] w (fun r1 u1 => ex_Ev 60 mX7_won 0 (ex_in [.inr 23, .inl a0] 2) [] u1 (fun r2 u2 => r1 = r2 ∧ Rel u2))
def pr_best (Rel : ex_WW → Prop) : Prop := ∀ w, Rel w →  ex_Ev 60 mX6_best 0 (ex_in [.inr 0] 3) [] w (fun r1 u1 => ex_Ev 60 mX7_best 0 (ex_in [.inr 23] 4) [] u1 (fun r2 u2 => r1 = r2 ∧ Rel u2))
def pr_owes (Rel : ex_WW → Prop) : Prop := ∀ w, Rel w → ∀ a0 : Int32, ex_Ev 60 mX6_owes 0 (ex_in [.inr 0, .inl a0] 2) [] w (fun r1 u1 => ex_Ev 60 mX7_owes 0 (ex_in [.inr 23, .inl a0] 4) [] u1 (fun r2 u2 => r1 = r2 ∧ Rel u2))
def pr_pay (Rel : ex_WW → Prop) : Prop := ∀ w, Rel w → ∀ a0 a1 a2 : Int32, ex_Ev 60 mX6_pay 0 (ex_in [.inr 0, .inl a0, .inl a1, .inl a2] 5) [] w (fun r1 u1 => ex_Ev 60 mX7_pay 0 (ex_in [.inr 23, .inl a0, .inl a1, .inl a2] 4) [] u1 (fun r2 u2 => r1 = r2 ∧ Rel u2))
def pr_purse (Rel : ex_WW → Prop) : Prop := ∀ w, Rel w → ∀ a0 : Int32, ex_Ev 60 mX6_purse 0 (ex_in [.inr 0, .inl a0] 2) [] w (fun r1 u1 => ex_Ev 60 mX7_purse 0 (ex_in [.inr 23, .inl a0] 4) [] u1 (fun r2 u2 => r1 = r2 ∧ Rel u2))
def pr_challenge (Rel : ex_WW → Prop) : Prop := ∀ w, Rel w → ∀ a0 a1 : Int32, ex_Ev 60 mX6_challenge 0 (ex_in [.inr 0, .inl a0, .inl a1] 3) [] w (fun r1 u1 => ex_Ev 60 mX7_challenge 0 (ex_in [.inr 23, .inl a0, .inl a1] 5) [] u1 (fun r2 u2 => r1 = r2 ∧ Rel u2))
def pr_withdraw (Rel : ex_WW → Prop) : Prop := ∀ w, Rel w →  ex_Ev 60 mX6_withdraw 0 (ex_in [.inr 0] 1) [] w (fun r1 u1 => ex_Ev 60 mX7_withdraw 0 (ex_in [.inr 23] 1) [] u1 (fun r2 u2 => r1 = r2 ∧ Rel u2))
def pr_turn (Rel : ex_WW → Prop) : Prop := ∀ w, Rel w → ∀ a0 : Int32, ex_Ev 60 mX6_turn 0 (ex_in [.inr 0, .inl a0] 2) [] w (fun r1 u1 => ex_Ev 60 mX7_turn 0 (ex_in [.inr 23, .inl a0] 3) [] u1 (fun r2 u2 => r1 = r2 ∧ Rel u2))
def pr_turns (Rel : ex_WW → Prop) : Prop := ∀ w, Rel w →  ex_Ev 60 mX6_turns 0 (ex_in [.inr 0] 1) [] w (fun r1 u1 => ex_Ev 60 mX7_turns 0 (ex_in [.inr 23] 1) [] u1 (fun r2 u2 => r1 = r2 ∧ Rel u2))
def pr_feud (Rel : ex_WW → Prop) : Prop := ∀ w, Rel w → ∀ a0 a1 a2 : Int32, (a2 = 0 ∨ a2 = 1) → ex_Ev 60 mX6_feud 0 (ex_in [.inr 0, .inl a0, .inl a1, .inl a2] 4) [] w (fun r1 u1 => ex_Ev 60 mX7_feud 0 (ex_in [.inr 23, .inl a0, .inl a1, .inl a2] 5) [] u1 (fun r2 u2 => r1 = r2 ∧ Rel u2))
def pr_tent (Rel : ex_WW → Prop) : Prop := ∀ w, Rel w → ∀ a0 : Int32, ex_Ev 60 mX6_tent 0 (ex_in [.inr 0, .inl a0] 2) [] w (fun r1 u1 => ex_Ev 60 mX7_tent 0 (ex_in [.inr 23, .inl a0] 2) [] u1 (fun r2 u2 => r1 = r2 ∧ Rel u2))
def pr_many (Rel : ex_WW → Prop) : Prop := ∀ w, Rel w → ∀ a0 : Int32, ex_Ev 60 mX6_many 0 (ex_in [.inr 0, .inl a0] 2) [] w (fun r1 u1 => ex_Ev 60 mX7_many 0 (ex_in [.inr 23, .inl a0] 2) [] u1 (fun r2 u2 => r1 = r2 ∧ Rel u2))
set_option maxHeartbeats 4000000 in
set_option maxRecDepth 100000 in
theorem lc_0 {p : Program} {l : Launch} {e : Env} {s : State} {m : MethodId} {below : List Frame} {meth : Method} {c : Code} {b L : Nat} {xs : Nat → Int32} {ad : Nat → Nat} {D : va_G} {cI cZ : ClassId} {NC NS i : Nat} {x3 : Int32} {w : ex_WW} {Rel : ex_WW → Prop} (C : lw_K p s m meth c b L xs ad D cI cZ NC NS) (hx3 : x3 = nI i) (hi : i + 7 ≤ L) (hp : pr_knight Rel) (hw : Rel w) (k : ∀ u, Rel u → lw_Go p l e s m below meth c b ad D cI cZ NC NS 995 x3 [] u) : lw_Go p l e s m below meth c b ad D cI cZ NC NS 156 x3 [] w := by
  refine lr_a1 C dL_156 ?_
  refine lr_arg 1 C hx3 hi (by decide) (by decide) dL_157 dL_158 dL_159 dL_160 dL_161 ?_
  refine lr_arg 2 C hx3 hi (by decide) (by decide) dL_162 dL_163 dL_164 dL_165 dL_166 ?_
  refine lr_arg 3 C hx3 hi (by decide) (by decide) dL_167 dL_168 dL_169 dL_170 dL_171 ?_
  refine lr_arg 4 C hx3 hi (by decide) (by decide) dL_172 dL_173 dL_174 dL_175 dL_176 ?_
  refine lr_call (bc := 0) [.inl (xs (i + 1)), .inl (xs (i + 2)), .inl (xs (i + 3)), .inl (xs (i + 4))] C dL_177 co_X6_knight ml_RL_13 cv_X6_knight (by decide) rfl rfl rfl rfl (by decide) (Nat.le_of_ble_eq_true rfl) rfl (hp _ hw (xs (i + 1)) (xs (i + 2)) (xs (i + 3)) (xs (i + 4))) (fun r1 u1 h1 => ?_)
  refine lr_a2 C dL_180 ?_
  refine lr_arg 1 C hx3 hi (by decide) (by decide) dL_181 dL_182 dL_183 dL_184 dL_185 ?_
  refine lr_arg 2 C hx3 hi (by decide) (by decide) dL_186 dL_187 dL_188 dL_189 dL_190 ?_
  refine lr_arg 3 C hx3 hi (by decide) (by decide) dL_191 dL_192 dL_193 dL_194 dL_195 ?_
  refine lr_arg 4 C hx3 hi (by decide) (by decide) dL_196 dL_197 dL_198 dL_199 dL_200 ?_
  refine lr_call (bc := 23) [.inl (xs (i + 1)), .inl (xs (i + 2)), .inl (xs (i + 3)), .inl (xs (i + 4))] C dL_201 co_X7_knight ml_RL_17 cv_X7_knight (by decide) rfl rfl rfl rfl (by decide) (Nat.le_of_ble_eq_true rfl) rfl h1 (fun r2 u2 h2 => ?_)
  exact lr_eq 995 C h2.1 dL_204 (by decide) (k _ h2.2)
set_option maxHeartbeats 4000000 in
set_option maxRecDepth 100000 in
theorem lc_1 {p : Program} {l : Launch} {e : Env} {s : State} {m : MethodId} {below : List Frame} {meth : Method} {c : Code} {b L : Nat} {xs : Nat → Int32} {ad : Nat → Nat} {D : va_G} {cI cZ : ClassId} {NC NS i : Nat} {x3 : Int32} {w : ex_WW} {Rel : ex_WW → Prop} (C : lw_K p s m meth c b L xs ad D cI cZ NC NS) (hx3 : x3 = nI i) (hi : i + 7 ≤ L) (hp : pr_arms Rel) (hw : Rel w) (k : ∀ u, Rel u → lw_Go p l e s m below meth c b ad D cI cZ NC NS 995 x3 [] u) : lw_Go p l e s m below meth c b ad D cI cZ NC NS 209 x3 [] w := by
  refine lr_a1 C dL_209 ?_
  refine lr_arg 1 C hx3 hi (by decide) (by decide) dL_210 dL_211 dL_212 dL_213 dL_214 ?_
  refine lr_arg 2 C hx3 hi (by decide) (by decide) dL_215 dL_216 dL_217 dL_218 dL_219 ?_
  refine lr_arg 3 C hx3 hi (by decide) (by decide) dL_220 dL_221 dL_222 dL_223 dL_224 ?_
  refine lr_arg 4 C hx3 hi (by decide) (by decide) dL_225 dL_226 dL_227 dL_228 dL_229 ?_
  refine lr_call (bc := 0) [.inl (xs (i + 1)), .inl (xs (i + 2)), .inl (xs (i + 3)), .inl (xs (i + 4))] C dL_230 co_X6_arms ml_RL_18 cv_X6_arms (by decide) rfl rfl rfl rfl (by decide) (Nat.le_of_ble_eq_true rfl) rfl (hp _ hw (xs (i + 1)) (xs (i + 2)) (xs (i + 3)) (xs (i + 4))) (fun r1 u1 h1 => ?_)
  refine lr_a2 C dL_233 ?_
  refine lr_arg 1 C hx3 hi (by decide) (by decide) dL_234 dL_235 dL_236 dL_237 dL_238 ?_
  refine lr_arg 2 C hx3 hi (by decide) (by decide) dL_239 dL_240 dL_241 dL_242 dL_243 ?_
  refine lr_arg 3 C hx3 hi (by decide) (by decide) dL_244 dL_245 dL_246 dL_247 dL_248 ?_
  refine lr_arg 4 C hx3 hi (by decide) (by decide) dL_249 dL_250 dL_251 dL_252 dL_253 ?_
  refine lr_call (bc := 23) [.inl (xs (i + 1)), .inl (xs (i + 2)), .inl (xs (i + 3)), .inl (xs (i + 4))] C dL_254 co_X7_arms ml_RL_21 cv_X7_arms (by decide) rfl rfl rfl rfl (by decide) (Nat.le_of_ble_eq_true rfl) rfl h1 (fun r2 u2 h2 => ?_)
  exact lr_eq 995 C h2.1 dL_257 (by decide) (k _ h2.2)
set_option maxHeartbeats 4000000 in
set_option maxRecDepth 100000 in
theorem lc_2 {p : Program} {l : Launch} {e : Env} {s : State} {m : MethodId} {below : List Frame} {meth : Method} {c : Code} {b L : Nat} {xs : Nat → Int32} {ad : Nat → Nat} {D : va_G} {cI cZ : ClassId} {NC NS i : Nat} {x3 : Int32} {w : ex_WW} {Rel : ex_WW → Prop} (C : lw_K p s m meth c b L xs ad D cI cZ NC NS) (hx3 : x3 = nI i) (hi : i + 7 ≤ L) (hp : pr_rank Rel) (hw : Rel w) (k : ∀ u, Rel u → lw_Go p l e s m below meth c b ad D cI cZ NC NS 995 x3 [] u) : lw_Go p l e s m below meth c b ad D cI cZ NC NS 262 x3 [] w := by
  refine lr_a1 C dL_262 ?_
  refine lr_arg 1 C hx3 hi (by decide) (by decide) dL_263 dL_264 dL_265 dL_266 dL_267 ?_
  refine lr_arg 2 C hx3 hi (by decide) (by decide) dL_268 dL_269 dL_270 dL_271 dL_272 ?_
  refine lr_call (bc := 0) [.inl (xs (i + 1)), .inl (xs (i + 2))] C dL_273 co_X6_rank ml_RL_22 cv_X6_rank (by decide) rfl rfl rfl rfl (by decide) (Nat.le_of_ble_eq_true rfl) rfl (hp _ hw (xs (i + 1)) (xs (i + 2))) (fun r1 u1 h1 => ?_)
  refine lr_a2 C dL_276 ?_
  refine lr_arg 1 C hx3 hi (by decide) (by decide) dL_277 dL_278 dL_279 dL_280 dL_281 ?_
  refine lr_arg 2 C hx3 hi (by decide) (by decide) dL_282 dL_283 dL_284 dL_285 dL_286 ?_
  refine lr_call (bc := 23) [.inl (xs (i + 1)), .inl (xs (i + 2))] C dL_287 co_X7_rank ml_RL_26 cv_X7_rank (by decide) rfl rfl rfl rfl (by decide) (Nat.le_of_ble_eq_true rfl) rfl h1 (fun r2 u2 h2 => ?_)
  exact lr_eq 995 C h2.1 dL_290 (by decide) (k _ h2.2)
set_option maxHeartbeats 4000000 in
set_option maxRecDepth 100000 in
theorem lc_3 {p : Program} {l : Launch} {e : Env} {s : State} {m : MethodId} {below : List Frame} {meth : Method} {c : Code} {b L : Nat} {xs : Nat → Int32} {ad : Nat → Nat} {D : va_G} {cI cZ : ClassId} {NC NS i : Nat} {x3 : Int32} {w : ex_WW} {Rel : ex_WW → Prop} (C : lw_K p s m meth c b L xs ad D cI cZ NC NS) (hx3 : x3 = nI i) (hi : i + 7 ≤ L) (hp : pr_of Rel) (hw : Rel w) (k : ∀ u, Rel u → lw_Go p l e s m below meth c b ad D cI cZ NC NS 995 x3 [] u) : lw_Go p l e s m below meth c b ad D cI cZ NC NS 295 x3 [] w := by
  refine lr_a1 C dL_295 ?_
  refine lr_arg 1 C hx3 hi (by decide) (by decide) dL_296 dL_297 dL_298 dL_299 dL_300 ?_
  refine lr_arg 2 C hx3 hi (by decide) (by decide) dL_301 dL_302 dL_303 dL_304 dL_305 ?_
  refine lr_call (bc := 0) [.inl (xs (i + 1)), .inl (xs (i + 2))] C dL_306 co_X6_of ml_RL_27 cv_X6_of (by decide) rfl rfl rfl rfl (by decide) (Nat.le_of_ble_eq_true rfl) rfl (hp _ hw (xs (i + 1)) (xs (i + 2))) (fun r1 u1 h1 => ?_)
  refine lr_a2 C dL_309 ?_
  refine lr_arg 1 C hx3 hi (by decide) (by decide) dL_310 dL_311 dL_312 dL_313 dL_314 ?_
  refine lr_arg 2 C hx3 hi (by decide) (by decide) dL_315 dL_316 dL_317 dL_318 dL_319 ?_
  refine lr_call (bc := 23) [.inl (xs (i + 1)), .inl (xs (i + 2))] C dL_320 co_X7_of ml_RL_30 cv_X7_of (by decide) rfl rfl rfl rfl (by decide) (Nat.le_of_ble_eq_true rfl) rfl h1 (fun r2 u2 h2 => ?_)
  exact lr_eq 995 C h2.1 dL_323 (by decide) (k _ h2.2)
set_option maxHeartbeats 4000000 in
set_option maxRecDepth 100000 in
theorem lc_4 {p : Program} {l : Launch} {e : Env} {s : State} {m : MethodId} {below : List Frame} {meth : Method} {c : Code} {b L : Nat} {xs : Nat → Int32} {ad : Nat → Nat} {D : va_G} {cI cZ : ClassId} {NC NS i : Nat} {x3 : Int32} {w : ex_WW} {Rel : ex_WW → Prop} (C : lw_K p s m meth c b L xs ad D cI cZ NC NS) (hx3 : x3 = nI i) (hi : i + 7 ≤ L) (hp : pr_near Rel) (hw : Rel w) (k : ∀ u, Rel u → lw_Go p l e s m below meth c b ad D cI cZ NC NS 995 x3 [] u) : lw_Go p l e s m below meth c b ad D cI cZ NC NS 328 x3 [] w := by
  refine lr_a1 C dL_328 ?_
  refine lr_call (bc := 0) [] C dL_329 co_X6_near ml_RL_31 cv_X6_near (by decide) rfl rfl rfl rfl (by decide) (Nat.le_of_ble_eq_true rfl) rfl (hp _ hw) (fun r1 u1 h1 => ?_)
  refine lr_a2 C dL_332 ?_
  refine lr_call (bc := 23) [] C dL_333 co_X7_near ml_RL_35 cv_X7_near (by decide) rfl rfl rfl rfl (by decide) (Nat.le_of_ble_eq_true rfl) rfl h1 (fun r2 u2 h2 => ?_)
  exact lr_eq 995 C h2.1 dL_336 (by decide) (k _ h2.2)
set_option maxHeartbeats 4000000 in
set_option maxRecDepth 100000 in
theorem lc_5 {p : Program} {l : Launch} {e : Env} {s : State} {m : MethodId} {below : List Frame} {meth : Method} {c : Code} {b L : Nat} {xs : Nat → Int32} {ad : Nat → Nat} {D : va_G} {cI cZ : ClassId} {NC NS i : Nat} {x3 : Int32} {w : ex_WW} {Rel : ex_WW → Prop} (C : lw_K p s m meth c b L xs ad D cI cZ NC NS) (hx3 : x3 = nI i) (hi : i + 7 ≤ L) (hp : pr_feed Rel) (hw : Rel w) (k : ∀ u, Rel u → lw_Go p l e s m below meth c b ad D cI cZ NC NS 995 x3 [] u) : lw_Go p l e s m below meth c b ad D cI cZ NC NS 341 x3 [] w := by
  refine lr_a1 C dL_341 ?_
  refine lr_arg 1 C hx3 hi (by decide) (by decide) dL_342 dL_343 dL_344 dL_345 dL_346 ?_
  refine lr_call (bc := 0) [.inl (xs (i + 1))] C dL_347 co_X6_feed ml_RL_36 cv_X6_feed (by decide) rfl rfl rfl rfl (by decide) (Nat.le_of_ble_eq_true rfl) rfl (hp _ hw (xs (i + 1))) (fun r1 u1 h1 => ?_)
  refine lr_a2 C dL_350 ?_
  refine lr_arg 1 C hx3 hi (by decide) (by decide) dL_351 dL_352 dL_353 dL_354 dL_355 ?_
  refine lr_call (bc := 23) [.inl (xs (i + 1))] C dL_356 co_X7_feed ml_RL_40 cv_X7_feed (by decide) rfl rfl rfl rfl (by decide) (Nat.le_of_ble_eq_true rfl) rfl h1 (fun r2 u2 h2 => ?_)
  exact lr_eq 995 C h2.1 dL_359 (by decide) (k _ h2.2)
set_option maxHeartbeats 4000000 in
set_option maxRecDepth 100000 in
theorem lc_6 {p : Program} {l : Launch} {e : Env} {s : State} {m : MethodId} {below : List Frame} {meth : Method} {c : Code} {b L : Nat} {xs : Nat → Int32} {ad : Nat → Nat} {D : va_G} {cI cZ : ClassId} {NC NS i : Nat} {x3 : Int32} {w : ex_WW} {Rel : ex_WW → Prop} (C : lw_K p s m meth c b L xs ad D cI cZ NC NS) (hx3 : x3 = nI i) (hi : i + 7 ≤ L) (hp : pr_ordain Rel) (hw : Rel w) (k : ∀ u, Rel u → lw_Go p l e s m below meth c b ad D cI cZ NC NS 995 x3 [] u) : lw_Go p l e s m below meth c b ad D cI cZ NC NS 364 x3 [] w := by
  refine lr_a1 C dL_364 ?_
  refine lr_call (bc := 0) [] C dL_365 co_X6_ordain ml_RL_41 cv_X6_ordain (by decide) rfl rfl rfl rfl (by decide) (Nat.le_of_ble_eq_true rfl) rfl (hp _ hw) (fun r1 u1 h1 => ?_)
  refine lr_a2 C dL_368 ?_
  refine lr_call (bc := 23) [] C dL_369 co_X7_ordain ml_RL_44 cv_X7_ordain (by decide) rfl rfl rfl rfl (by decide) (Nat.le_of_ble_eq_true rfl) rfl h1 (fun r2 u2 h2 => ?_)
  exact lr_eq 995 C h2.1 dL_372 (by decide) (k _ h2.2)
set_option maxHeartbeats 4000000 in
set_option maxRecDepth 100000 in
theorem lc_7 {p : Program} {l : Launch} {e : Env} {s : State} {m : MethodId} {below : List Frame} {meth : Method} {c : Code} {b L : Nat} {xs : Nat → Int32} {ad : Nat → Nat} {D : va_G} {cI cZ : ClassId} {NC NS i : Nat} {x3 : Int32} {w : ex_WW} {Rel : ex_WW → Prop} (C : lw_K p s m meth c b L xs ad D cI cZ NC NS) (hx3 : x3 = nI i) (hi : i + 7 ≤ L) (hp : pr_scrap Rel) (hw : Rel w) (k : ∀ u, Rel u → lw_Go p l e s m below meth c b ad D cI cZ NC NS 995 x3 [] u) : lw_Go p l e s m below meth c b ad D cI cZ NC NS 377 x3 [] w := by
  refine lr_a1 C dL_377 ?_
  refine lr_call (bc := 0) [] C dL_378 co_X6_scrap ml_RL_45 cv_X6_scrap (by decide) rfl rfl rfl rfl (by decide) (Nat.le_of_ble_eq_true rfl) rfl (hp _ hw) (fun r1 u1 h1 => ?_)
  refine lr_a2 C dL_381 ?_
  refine lr_call (bc := 23) [] C dL_382 co_X7_scrap ml_RL_48 cv_X7_scrap (by decide) rfl rfl rfl rfl (by decide) (Nat.le_of_ble_eq_true rfl) rfl h1 (fun r2 u2 h2 => ?_)
  exact lr_eq 995 C h2.1 dL_385 (by decide) (k _ h2.2)
set_option maxHeartbeats 4000000 in
set_option maxRecDepth 100000 in
theorem lc_8 {p : Program} {l : Launch} {e : Env} {s : State} {m : MethodId} {below : List Frame} {meth : Method} {c : Code} {b L : Nat} {xs : Nat → Int32} {ad : Nat → Nat} {D : va_G} {cI cZ : ClassId} {NC NS i : Nat} {x3 : Int32} {w : ex_WW} {Rel : ex_WW → Prop} (C : lw_K p s m meth c b L xs ad D cI cZ NC NS) (hx3 : x3 = nI i) (hi : i + 7 ≤ L) (hp : pr_force Rel) (hw : Rel w) (k : ∀ u, Rel u → lw_Go p l e s m below meth c b ad D cI cZ NC NS 995 x3 [] u) : lw_Go p l e s m below meth c b ad D cI cZ NC NS 390 x3 [] w := by
  refine lr_a1 C dL_390 ?_
  refine lr_arg 1 C hx3 hi (by decide) (by decide) dL_391 dL_392 dL_393 dL_394 dL_395 ?_
  refine lr_call (bc := 0) [.inl (xs (i + 1))] C dL_396 co_X6_force ml_RL_49 cv_X6_force (by decide) rfl rfl rfl rfl (by decide) (Nat.le_of_ble_eq_true rfl) rfl (hp _ hw (xs (i + 1))) (fun r1 u1 h1 => ?_)
  refine lr_a2 C dL_399 ?_
  refine lr_arg 1 C hx3 hi (by decide) (by decide) dL_400 dL_401 dL_402 dL_403 dL_404 ?_
  refine lr_call (bc := 23) [.inl (xs (i + 1))] C dL_405 co_X7_force ml_RL_52 cv_X7_force (by decide) rfl rfl rfl rfl (by decide) (Nat.le_of_ble_eq_true rfl) rfl h1 (fun r2 u2 h2 => ?_)
  exact lr_eq 995 C h2.1 dL_408 (by decide) (k _ h2.2)
set_option maxHeartbeats 4000000 in
set_option maxRecDepth 100000 in
theorem lc_9 {p : Program} {l : Launch} {e : Env} {s : State} {m : MethodId} {below : List Frame} {meth : Method} {c : Code} {b L : Nat} {xs : Nat → Int32} {ad : Nat → Nat} {D : va_G} {cI cZ : ClassId} {NC NS i : Nat} {x3 : Int32} {w : ex_WW} {Rel : ex_WW → Prop} (C : lw_K p s m meth c b L xs ad D cI cZ NC NS) (hx3 : x3 = nI i) (hi : i + 7 ≤ L) (hp : pr_worth Rel) (hw : Rel w) (k : ∀ u, Rel u → lw_Go p l e s m below meth c b ad D cI cZ NC NS 995 x3 [] u) : lw_Go p l e s m below meth c b ad D cI cZ NC NS 413 x3 [] w := by
  refine lr_a1 C dL_413 ?_
  refine lr_arg 1 C hx3 hi (by decide) (by decide) dL_414 dL_415 dL_416 dL_417 dL_418 ?_
  refine lr_arg 2 C hx3 hi (by decide) (by decide) dL_419 dL_420 dL_421 dL_422 dL_423 ?_
  refine lr_call (bc := 0) [.inl (xs (i + 1)), .inl (xs (i + 2))] C dL_424 co_X6_worth ml_RL_53 cv_X6_worth (by decide) rfl rfl rfl rfl (by decide) (Nat.le_of_ble_eq_true rfl) rfl (hp _ hw (xs (i + 1)) (xs (i + 2))) (fun r1 u1 h1 => ?_)
  refine lr_a2 C dL_427 ?_
  refine lr_arg 1 C hx3 hi (by decide) (by decide) dL_428 dL_429 dL_430 dL_431 dL_432 ?_
  refine lr_arg 2 C hx3 hi (by decide) (by decide) dL_433 dL_434 dL_435 dL_436 dL_437 ?_
  refine lr_call (bc := 23) [.inl (xs (i + 1)), .inl (xs (i + 2))] C dL_438 co_X7_worth ml_RL_56 cv_X7_worth (by decide) rfl rfl rfl rfl (by decide) (Nat.le_of_ble_eq_true rfl) rfl h1 (fun r2 u2 h2 => ?_)
  exact lr_eq 995 C h2.1 dL_441 (by decide) (k _ h2.2)
set_option maxHeartbeats 4000000 in
set_option maxRecDepth 100000 in
theorem lc_10 {p : Program} {l : Launch} {e : Env} {s : State} {m : MethodId} {below : List Frame} {meth : Method} {c : Code} {b L : Nat} {xs : Nat → Int32} {ad : Nat → Nat} {D : va_G} {cI cZ : ClassId} {NC NS i : Nat} {x3 : Int32} {w : ex_WW} {Rel : ex_WW → Prop} (C : lw_K p s m meth c b L xs ad D cI cZ NC NS) (hx3 : x3 = nI i) (hi : i + 7 ≤ L) (hp : pr_joust Rel) (hw : Rel w) (k : ∀ u, Rel u → lw_Go p l e s m below meth c b ad D cI cZ NC NS 995 x3 [] u) : lw_Go p l e s m below meth c b ad D cI cZ NC NS 446 x3 [] w := by
  refine lr_a1 C dL_446 ?_
  refine lr_arg 1 C hx3 hi (by decide) (by decide) dL_447 dL_448 dL_449 dL_450 dL_451 ?_
  refine lr_arg 2 C hx3 hi (by decide) (by decide) dL_452 dL_453 dL_454 dL_455 dL_456 ?_
  refine lr_call (bc := 0) [.inl (xs (i + 1)), .inl (xs (i + 2))] C dL_457 co_X6_joust ml_RL_57 cv_X6_joust (by decide) rfl rfl rfl rfl (by decide) (Nat.le_of_ble_eq_true rfl) rfl (hp _ hw (xs (i + 1)) (xs (i + 2))) (fun r1 u1 h1 => ?_)
  refine lr_a2 C dL_460 ?_
  refine lr_arg 1 C hx3 hi (by decide) (by decide) dL_461 dL_462 dL_463 dL_464 dL_465 ?_
  refine lr_arg 2 C hx3 hi (by decide) (by decide) dL_466 dL_467 dL_468 dL_469 dL_470 ?_
  refine lr_call (bc := 23) [.inl (xs (i + 1)), .inl (xs (i + 2))] C dL_471 co_X7_joust ml_RL_60 cv_X7_joust (by decide) rfl rfl rfl rfl (by decide) (Nat.le_of_ble_eq_true rfl) rfl h1 (fun r2 u2 h2 => ?_)
  exact lr_eq 995 C h2.1 dL_474 (by decide) (k _ h2.2)
set_option maxHeartbeats 4000000 in
set_option maxRecDepth 100000 in
theorem lc_11 {p : Program} {l : Launch} {e : Env} {s : State} {m : MethodId} {below : List Frame} {meth : Method} {c : Code} {b L : Nat} {xs : Nat → Int32} {ad : Nat → Nat} {D : va_G} {cI cZ : ClassId} {NC NS i : Nat} {x3 : Int32} {w : ex_WW} {Rel : ex_WW → Prop} (C : lw_K p s m meth c b L xs ad D cI cZ NC NS) (hx3 : x3 = nI i) (hi : i + 7 ≤ L) (hp : pr_stroke Rel) (hw : Rel w) (k : ∀ u, Rel u → lw_Go p l e s m below meth c b ad D cI cZ NC NS 995 x3 [] u) : lw_Go p l e s m below meth c b ad D cI cZ NC NS 479 x3 [] w := by
  refine lr_a1 C dL_479 ?_
  refine lr_arg 1 C hx3 hi (by decide) (by decide) dL_480 dL_481 dL_482 dL_483 dL_484 ?_
  refine lr_arg 2 C hx3 hi (by decide) (by decide) dL_485 dL_486 dL_487 dL_488 dL_489 ?_
  refine lr_arg 3 C hx3 hi (by decide) (by decide) dL_490 dL_491 dL_492 dL_493 dL_494 ?_
  refine lr_arg 4 C hx3 hi (by decide) (by decide) dL_495 dL_496 dL_497 dL_498 dL_499 ?_
  refine lr_call (bc := 0) [.inl (xs (i + 1)), .inl (xs (i + 2)), .inl (xs (i + 3)), .inl (xs (i + 4))] C dL_500 co_X6_stroke ml_RL_61 cv_X6_stroke (by decide) rfl rfl rfl rfl (by decide) (Nat.le_of_ble_eq_true rfl) rfl (hp _ hw (xs (i + 1)) (xs (i + 2)) (xs (i + 3)) (xs (i + 4))) (fun r1 u1 h1 => ?_)
  refine lr_a2 C dL_503 ?_
  refine lr_arg 1 C hx3 hi (by decide) (by decide) dL_504 dL_505 dL_506 dL_507 dL_508 ?_
  refine lr_arg 2 C hx3 hi (by decide) (by decide) dL_509 dL_510 dL_511 dL_512 dL_513 ?_
  refine lr_arg 3 C hx3 hi (by decide) (by decide) dL_514 dL_515 dL_516 dL_517 dL_518 ?_
  refine lr_arg 4 C hx3 hi (by decide) (by decide) dL_519 dL_520 dL_521 dL_522 dL_523 ?_
  refine lr_call (bc := 23) [.inl (xs (i + 1)), .inl (xs (i + 2)), .inl (xs (i + 3)), .inl (xs (i + 4))] C dL_524 co_X7_stroke ml_RL_64 cv_X7_stroke (by decide) rfl rfl rfl rfl (by decide) (Nat.le_of_ble_eq_true rfl) rfl h1 (fun r2 u2 h2 => ?_)
  exact lr_eq 995 C h2.1 dL_527 (by decide) (k _ h2.2)
set_option maxHeartbeats 4000000 in
set_option maxRecDepth 100000 in
theorem lc_12 {p : Program} {l : Launch} {e : Env} {s : State} {m : MethodId} {below : List Frame} {meth : Method} {c : Code} {b L : Nat} {xs : Nat → Int32} {ad : Nat → Nat} {D : va_G} {cI cZ : ClassId} {NC NS i : Nat} {x3 : Int32} {w : ex_WW} {Rel : ex_WW → Prop} (C : lw_K p s m meth c b L xs ad D cI cZ NC NS) (hx3 : x3 = nI i) (hi : i + 7 ≤ L) (hp : pr_copy Rel) (hw : Rel w) (k : ∀ u, Rel u → lw_Go p l e s m below meth c b ad D cI cZ NC NS 995 x3 [] u) : lw_Go p l e s m below meth c b ad D cI cZ NC NS 532 x3 [] w := by
  refine lr_a1 C dL_532 ?_
  refine lr_arg 1 C hx3 hi (by decide) (by decide) dL_533 dL_534 dL_535 dL_536 dL_537 ?_
  refine lr_arg 2 C hx3 hi (by decide) (by decide) dL_538 dL_539 dL_540 dL_541 dL_542 ?_
  refine lr_arg 3 C hx3 hi (by decide) (by decide) dL_543 dL_544 dL_545 dL_546 dL_547 ?_
  refine lr_arg 4 C hx3 hi (by decide) (by decide) dL_548 dL_549 dL_550 dL_551 dL_552 ?_
  refine lr_arg 5 C hx3 hi (by decide) (by decide) dL_553 dL_554 dL_555 dL_556 dL_557 ?_
  refine lr_arg6 6 C hx3 hi (by decide) (by decide) dL_558 dL_559 dL_560 dL_562 dL_563 ?_
  refine lr_call (bc := 0) [.inl (xs (i + 1)), .inl (xs (i + 2)), .inl (xs (i + 3)), .inl (xs (i + 4)), .inl (xs (i + 5)), .inl (xs (i + 6))] C dL_564 co_X6_copy ml_RL_65 cv_X6_copy (by decide) rfl rfl rfl rfl (by decide) (Nat.le_of_ble_eq_true rfl) rfl (hp _ hw (xs (i + 1)) (xs (i + 2)) (xs (i + 3)) (xs (i + 4)) (xs (i + 5)) (xs (i + 6))) (fun r1 u1 h1 => ?_)
  refine lr_a2 C dL_567 ?_
  refine lr_arg 1 C hx3 hi (by decide) (by decide) dL_568 dL_569 dL_570 dL_571 dL_572 ?_
  refine lr_arg 2 C hx3 hi (by decide) (by decide) dL_573 dL_574 dL_575 dL_576 dL_577 ?_
  refine lr_arg 3 C hx3 hi (by decide) (by decide) dL_578 dL_579 dL_580 dL_581 dL_582 ?_
  refine lr_arg 4 C hx3 hi (by decide) (by decide) dL_583 dL_584 dL_585 dL_586 dL_587 ?_
  refine lr_arg 5 C hx3 hi (by decide) (by decide) dL_588 dL_589 dL_590 dL_591 dL_592 ?_
  refine lr_arg6 6 C hx3 hi (by decide) (by decide) dL_593 dL_594 dL_595 dL_597 dL_598 ?_
  refine lr_call (bc := 23) [.inl (xs (i + 1)), .inl (xs (i + 2)), .inl (xs (i + 3)), .inl (xs (i + 4)), .inl (xs (i + 5)), .inl (xs (i + 6))] C dL_599 co_X7_copy ml_RL_69 cv_X7_copy (by decide) rfl rfl rfl rfl (by decide) (Nat.le_of_ble_eq_true rfl) rfl h1 (fun r2 u2 h2 => ?_)
  exact lr_eq 995 C h2.1 dL_602 (by decide) (k _ h2.2)
set_option maxHeartbeats 4000000 in
set_option maxRecDepth 100000 in
theorem lc_13 {p : Program} {l : Launch} {e : Env} {s : State} {m : MethodId} {below : List Frame} {meth : Method} {c : Code} {b L : Nat} {xs : Nat → Int32} {ad : Nat → Nat} {D : va_G} {cI cZ : ClassId} {NC NS i : Nat} {x3 : Int32} {w : ex_WW} {Rel : ex_WW → Prop} (C : lw_K p s m meth c b L xs ad D cI cZ NC NS) (hx3 : x3 = nI i) (hi : i + 7 ≤ L) (hp : pr_sheet Rel) (hw : Rel w) (k : ∀ u, Rel u → lw_Go p l e s m below meth c b ad D cI cZ NC NS 995 x3 [] u) : lw_Go p l e s m below meth c b ad D cI cZ NC NS 607 x3 [] w := by
  refine lr_a1 C dL_607 ?_
  refine lr_arg 1 C hx3 hi (by decide) (by decide) dL_608 dL_609 dL_610 dL_611 dL_612 ?_
  refine lr_arg 2 C hx3 hi (by decide) (by decide) dL_613 dL_614 dL_615 dL_616 dL_617 ?_
  refine lr_arg 3 C hx3 hi (by decide) (by decide) dL_618 dL_619 dL_620 dL_621 dL_622 ?_
  refine lr_call (bc := 0) [.inl (xs (i + 1)), .inl (xs (i + 2)), .inl (xs (i + 3))] C dL_623 co_X6_sheet ml_RL_70 cv_X6_sheet (by decide) rfl rfl rfl rfl (by decide) (Nat.le_of_ble_eq_true rfl) rfl (hp _ hw (xs (i + 1)) (xs (i + 2)) (xs (i + 3))) (fun r1 u1 h1 => ?_)
  refine lr_a2 C dL_626 ?_
  refine lr_arg 1 C hx3 hi (by decide) (by decide) dL_627 dL_628 dL_629 dL_630 dL_631 ?_
  refine lr_arg 2 C hx3 hi (by decide) (by decide) dL_632 dL_633 dL_634 dL_635 dL_636 ?_
  refine lr_arg 3 C hx3 hi (by decide) (by decide) dL_637 dL_638 dL_639 dL_640 dL_641 ?_
  refine lr_call (bc := 23) [.inl (xs (i + 1)), .inl (xs (i + 2)), .inl (xs (i + 3))] C dL_642 co_X7_sheet ml_RL_74 cv_X7_sheet (by decide) rfl rfl rfl rfl (by decide) (Nat.le_of_ble_eq_true rfl) rfl h1 (fun r2 u2 h2 => ?_)
  exact lr_eq 995 C h2.1 dL_645 (by decide) (k _ h2.2)
set_option maxHeartbeats 4000000 in
set_option maxRecDepth 100000 in
theorem lc_14 {p : Program} {l : Launch} {e : Env} {s : State} {m : MethodId} {below : List Frame} {meth : Method} {c : Code} {b L : Nat} {xs : Nat → Int32} {ad : Nat → Nat} {D : va_G} {cI cZ : ClassId} {NC NS i : Nat} {x3 : Int32} {w : ex_WW} {Rel : ex_WW → Prop} (C : lw_K p s m meth c b L xs ad D cI cZ NC NS) (hx3 : x3 = nI i) (hi : i + 7 ≤ L) (hp : pr_wins Rel) (hw : Rel w) (k : ∀ u, Rel u → lw_Go p l e s m below meth c b ad D cI cZ NC NS 995 x3 [] u) : lw_Go p l e s m below meth c b ad D cI cZ NC NS 650 x3 [] w := by
  refine lr_a1 C dL_650 ?_
  refine lr_arg 1 C hx3 hi (by decide) (by decide) dL_651 dL_652 dL_653 dL_654 dL_655 ?_
  refine lr_arg 2 C hx3 hi (by decide) (by decide) dL_656 dL_657 dL_658 dL_659 dL_660 ?_
  refine lr_call (bc := 0) [.inl (xs (i + 1)), .inl (xs (i + 2))] C dL_661 co_X6_wins ml_RL_75 cv_X6_wins (by decide) rfl rfl rfl rfl (by decide) (Nat.le_of_ble_eq_true rfl) rfl (hp _ hw (xs (i + 1)) (xs (i + 2))) (fun r1 u1 h1 => ?_)
  refine lr_a2 C dL_664 ?_
  refine lr_arg 1 C hx3 hi (by decide) (by decide) dL_665 dL_666 dL_667 dL_668 dL_669 ?_
  refine lr_arg 2 C hx3 hi (by decide) (by decide) dL_670 dL_671 dL_672 dL_673 dL_674 ?_
  refine lr_call (bc := 23) [.inl (xs (i + 1)), .inl (xs (i + 2))] C dL_675 co_X7_wins ml_RL_78 cv_X7_wins (by decide) rfl rfl rfl rfl (by decide) (Nat.le_of_ble_eq_true rfl) rfl h1 (fun r2 u2 h2 => ?_)
  exact lr_eq 995 C h2.1 dL_678 (by decide) (k _ h2.2)
set_option maxHeartbeats 4000000 in
set_option maxRecDepth 100000 in
theorem lc_15 {p : Program} {l : Launch} {e : Env} {s : State} {m : MethodId} {below : List Frame} {meth : Method} {c : Code} {b L : Nat} {xs : Nat → Int32} {ad : Nat → Nat} {D : va_G} {cI cZ : ClassId} {NC NS i : Nat} {x3 : Int32} {w : ex_WW} {Rel : ex_WW → Prop} (C : lw_K p s m meth c b L xs ad D cI cZ NC NS) (hx3 : x3 = nI i) (hi : i + 7 ≤ L) (hp : pr_won Rel) (hw : Rel w) (k : ∀ u, Rel u → lw_Go p l e s m below meth c b ad D cI cZ NC NS 995 x3 [] u) : lw_Go p l e s m below meth c b ad D cI cZ NC NS 683 x3 [] w := by
  refine lr_a1 C dL_683 ?_
  refine lr_arg 1 C hx3 hi (by decide) (by decide) dL_684 dL_685 dL_686 dL_687 dL_688 ?_
  refine lr_call (bc := 0) [.inl (xs (i + 1))] C dL_689 co_X6_won ml_RL_79 cv_X6_won (by decide) rfl rfl rfl rfl (by decide) (Nat.le_of_ble_eq_true rfl) rfl (hp _ hw (xs (i + 1))) (fun r1 u1 h1 => ?_)
  refine lr_a2 C dL_692 ?_
  refine lr_arg 1 C hx3 hi (by decide) (by decide) dL_693 dL_694 dL_695 dL_696 dL_697 ?_
  refine lr_call (bc := 23) [.inl (xs (i + 1))] C dL_698 co_X7_won ml_RL_82 cv_X7_won (by decide) rfl rfl rfl rfl (by decide) (Nat.le_of_ble_eq_true rfl) rfl h1 (fun r2 u2 h2 => ?_)
  exact lr_eq 995 C h2.1 dL_701 (by decide) (k _ h2.2)
set_option maxHeartbeats 4000000 in
set_option maxRecDepth 100000 in
theorem lc_16 {p : Program} {l : Launch} {e : Env} {s : State} {m : MethodId} {below : List Frame} {meth : Method} {c : Code} {b L : Nat} {xs : Nat → Int32} {ad : Nat → Nat} {D : va_G} {cI cZ : ClassId} {NC NS i : Nat} {x3 : Int32} {w : ex_WW} {Rel : ex_WW → Prop} (C : lw_K p s m meth c b L xs ad D cI cZ NC NS) (hx3 : x3 = nI i) (hi : i + 7 ≤ L) (hp : pr_best Rel) (hw : Rel w) (k : ∀ u, Rel u → lw_Go p l e s m below meth c b ad D cI cZ NC NS 995 x3 [] u) : lw_Go p l e s m below meth c b ad D cI cZ NC NS 706 x3 [] w := by
  refine lr_a1 C dL_706 ?_
  refine lr_call (bc := 0) [] C dL_707 co_X6_best ml_RL_83 cv_X6_best (by decide) rfl rfl rfl rfl (by decide) (Nat.le_of_ble_eq_true rfl) rfl (hp _ hw) (fun r1 u1 h1 => ?_)
  refine lr_a2 C dL_710 ?_
  refine lr_call (bc := 23) [] C dL_711 co_X7_best ml_RL_86 cv_X7_best (by decide) rfl rfl rfl rfl (by decide) (Nat.le_of_ble_eq_true rfl) rfl h1 (fun r2 u2 h2 => ?_)
  exact lr_eq 995 C h2.1 dL_714 (by decide) (k _ h2.2)
set_option maxHeartbeats 4000000 in
set_option maxRecDepth 100000 in
theorem lc_17 {p : Program} {l : Launch} {e : Env} {s : State} {m : MethodId} {below : List Frame} {meth : Method} {c : Code} {b L : Nat} {xs : Nat → Int32} {ad : Nat → Nat} {D : va_G} {cI cZ : ClassId} {NC NS i : Nat} {x3 : Int32} {w : ex_WW} {Rel : ex_WW → Prop} (C : lw_K p s m meth c b L xs ad D cI cZ NC NS) (hx3 : x3 = nI i) (hi : i + 7 ≤ L) (hp : pr_owes Rel) (hw : Rel w) (k : ∀ u, Rel u → lw_Go p l e s m below meth c b ad D cI cZ NC NS 995 x3 [] u) : lw_Go p l e s m below meth c b ad D cI cZ NC NS 719 x3 [] w := by
  refine lr_a1 C dL_719 ?_
  refine lr_arg 1 C hx3 hi (by decide) (by decide) dL_720 dL_721 dL_722 dL_723 dL_724 ?_
  refine lr_call (bc := 0) [.inl (xs (i + 1))] C dL_725 co_X6_owes ml_RL_87 cv_X6_owes (by decide) rfl rfl rfl rfl (by decide) (Nat.le_of_ble_eq_true rfl) rfl (hp _ hw (xs (i + 1))) (fun r1 u1 h1 => ?_)
  refine lr_a2 C dL_728 ?_
  refine lr_arg 1 C hx3 hi (by decide) (by decide) dL_729 dL_730 dL_731 dL_732 dL_733 ?_
  refine lr_call (bc := 23) [.inl (xs (i + 1))] C dL_734 co_X7_owes ml_RL_90 cv_X7_owes (by decide) rfl rfl rfl rfl (by decide) (Nat.le_of_ble_eq_true rfl) rfl h1 (fun r2 u2 h2 => ?_)
  exact lr_eq 995 C h2.1 dL_737 (by decide) (k _ h2.2)
set_option maxHeartbeats 4000000 in
set_option maxRecDepth 100000 in
theorem lc_18 {p : Program} {l : Launch} {e : Env} {s : State} {m : MethodId} {below : List Frame} {meth : Method} {c : Code} {b L : Nat} {xs : Nat → Int32} {ad : Nat → Nat} {D : va_G} {cI cZ : ClassId} {NC NS i : Nat} {x3 : Int32} {w : ex_WW} {Rel : ex_WW → Prop} (C : lw_K p s m meth c b L xs ad D cI cZ NC NS) (hx3 : x3 = nI i) (hi : i + 7 ≤ L) (hp : pr_pay Rel) (hw : Rel w) (k : ∀ u, Rel u → lw_Go p l e s m below meth c b ad D cI cZ NC NS 995 x3 [] u) : lw_Go p l e s m below meth c b ad D cI cZ NC NS 742 x3 [] w := by
  refine lr_a1 C dL_742 ?_
  refine lr_arg 1 C hx3 hi (by decide) (by decide) dL_743 dL_744 dL_745 dL_746 dL_747 ?_
  refine lr_arg 2 C hx3 hi (by decide) (by decide) dL_748 dL_749 dL_750 dL_751 dL_752 ?_
  refine lr_arg 3 C hx3 hi (by decide) (by decide) dL_753 dL_754 dL_755 dL_756 dL_757 ?_
  refine lr_call (bc := 0) [.inl (xs (i + 1)), .inl (xs (i + 2)), .inl (xs (i + 3))] C dL_758 co_X6_pay ml_RL_91 cv_X6_pay (by decide) rfl rfl rfl rfl (by decide) (Nat.le_of_ble_eq_true rfl) rfl (hp _ hw (xs (i + 1)) (xs (i + 2)) (xs (i + 3))) (fun r1 u1 h1 => ?_)
  refine lr_a2 C dL_761 ?_
  refine lr_arg 1 C hx3 hi (by decide) (by decide) dL_762 dL_763 dL_764 dL_765 dL_766 ?_
  refine lr_arg 2 C hx3 hi (by decide) (by decide) dL_767 dL_768 dL_769 dL_770 dL_771 ?_
  refine lr_arg 3 C hx3 hi (by decide) (by decide) dL_772 dL_773 dL_774 dL_775 dL_776 ?_
  refine lr_call (bc := 23) [.inl (xs (i + 1)), .inl (xs (i + 2)), .inl (xs (i + 3))] C dL_777 co_X7_pay ml_RL_94 cv_X7_pay (by decide) rfl rfl rfl rfl (by decide) (Nat.le_of_ble_eq_true rfl) rfl h1 (fun r2 u2 h2 => ?_)
  exact lr_eq 995 C h2.1 dL_780 (by decide) (k _ h2.2)
set_option maxHeartbeats 4000000 in
set_option maxRecDepth 100000 in
theorem lc_19 {p : Program} {l : Launch} {e : Env} {s : State} {m : MethodId} {below : List Frame} {meth : Method} {c : Code} {b L : Nat} {xs : Nat → Int32} {ad : Nat → Nat} {D : va_G} {cI cZ : ClassId} {NC NS i : Nat} {x3 : Int32} {w : ex_WW} {Rel : ex_WW → Prop} (C : lw_K p s m meth c b L xs ad D cI cZ NC NS) (hx3 : x3 = nI i) (hi : i + 7 ≤ L) (hp : pr_purse Rel) (hw : Rel w) (k : ∀ u, Rel u → lw_Go p l e s m below meth c b ad D cI cZ NC NS 995 x3 [] u) : lw_Go p l e s m below meth c b ad D cI cZ NC NS 785 x3 [] w := by
  refine lr_a1 C dL_785 ?_
  refine lr_arg 1 C hx3 hi (by decide) (by decide) dL_786 dL_787 dL_788 dL_789 dL_790 ?_
  refine lr_call (bc := 0) [.inl (xs (i + 1))] C dL_791 co_X6_purse ml_RL_95 cv_X6_purse (by decide) rfl rfl rfl rfl (by decide) (Nat.le_of_ble_eq_true rfl) rfl (hp _ hw (xs (i + 1))) (fun r1 u1 h1 => ?_)
  refine lr_a2 C dL_794 ?_
  refine lr_arg 1 C hx3 hi (by decide) (by decide) dL_795 dL_796 dL_797 dL_798 dL_799 ?_
  refine lr_call (bc := 23) [.inl (xs (i + 1))] C dL_800 co_X7_purse ml_RL_98 cv_X7_purse (by decide) rfl rfl rfl rfl (by decide) (Nat.le_of_ble_eq_true rfl) rfl h1 (fun r2 u2 h2 => ?_)
  exact lr_eq 995 C h2.1 dL_803 (by decide) (k _ h2.2)
set_option maxHeartbeats 4000000 in
set_option maxRecDepth 100000 in
theorem lc_20 {p : Program} {l : Launch} {e : Env} {s : State} {m : MethodId} {below : List Frame} {meth : Method} {c : Code} {b L : Nat} {xs : Nat → Int32} {ad : Nat → Nat} {D : va_G} {cI cZ : ClassId} {NC NS i : Nat} {x3 : Int32} {w : ex_WW} {Rel : ex_WW → Prop} (C : lw_K p s m meth c b L xs ad D cI cZ NC NS) (hx3 : x3 = nI i) (hi : i + 7 ≤ L) (hp : pr_challenge Rel) (hw : Rel w) (k : ∀ u, Rel u → lw_Go p l e s m below meth c b ad D cI cZ NC NS 995 x3 [] u) : lw_Go p l e s m below meth c b ad D cI cZ NC NS 808 x3 [] w := by
  refine lr_a1 C dL_808 ?_
  refine lr_arg 1 C hx3 hi (by decide) (by decide) dL_809 dL_810 dL_811 dL_812 dL_813 ?_
  refine lr_arg 2 C hx3 hi (by decide) (by decide) dL_814 dL_815 dL_816 dL_817 dL_818 ?_
  refine lr_call (bc := 0) [.inl (xs (i + 1)), .inl (xs (i + 2))] C dL_819 co_X6_challenge ml_RL_99 cv_X6_challenge (by decide) rfl rfl rfl rfl (by decide) (Nat.le_of_ble_eq_true rfl) rfl (hp _ hw (xs (i + 1)) (xs (i + 2))) (fun r1 u1 h1 => ?_)
  refine lr_a2 C dL_822 ?_
  refine lr_arg 1 C hx3 hi (by decide) (by decide) dL_823 dL_824 dL_825 dL_826 dL_827 ?_
  refine lr_arg 2 C hx3 hi (by decide) (by decide) dL_828 dL_829 dL_830 dL_831 dL_832 ?_
  refine lr_call (bc := 23) [.inl (xs (i + 1)), .inl (xs (i + 2))] C dL_833 co_X7_challenge ml_RL_102 cv_X7_challenge (by decide) rfl rfl rfl rfl (by decide) (Nat.le_of_ble_eq_true rfl) rfl h1 (fun r2 u2 h2 => ?_)
  exact lr_eq 995 C h2.1 dL_836 (by decide) (k _ h2.2)
set_option maxHeartbeats 4000000 in
set_option maxRecDepth 100000 in
theorem lc_21 {p : Program} {l : Launch} {e : Env} {s : State} {m : MethodId} {below : List Frame} {meth : Method} {c : Code} {b L : Nat} {xs : Nat → Int32} {ad : Nat → Nat} {D : va_G} {cI cZ : ClassId} {NC NS i : Nat} {x3 : Int32} {w : ex_WW} {Rel : ex_WW → Prop} (C : lw_K p s m meth c b L xs ad D cI cZ NC NS) (hx3 : x3 = nI i) (hi : i + 7 ≤ L) (hp : pr_withdraw Rel) (hw : Rel w) (k : ∀ u, Rel u → lw_Go p l e s m below meth c b ad D cI cZ NC NS 995 x3 [] u) : lw_Go p l e s m below meth c b ad D cI cZ NC NS 841 x3 [] w := by
  refine lr_a1 C dL_841 ?_
  refine lr_call (bc := 0) [] C dL_842 co_X6_withdraw ml_RL_103 cv_X6_withdraw (by decide) rfl rfl rfl rfl (by decide) (Nat.le_of_ble_eq_true rfl) rfl (hp _ hw) (fun r1 u1 h1 => ?_)
  refine lr_a2 C dL_845 ?_
  refine lr_call (bc := 23) [] C dL_846 co_X7_withdraw ml_RL_106 cv_X7_withdraw (by decide) rfl rfl rfl rfl (by decide) (Nat.le_of_ble_eq_true rfl) rfl h1 (fun r2 u2 h2 => ?_)
  exact lr_eq 995 C h2.1 dL_849 (by decide) (k _ h2.2)
set_option maxHeartbeats 4000000 in
set_option maxRecDepth 100000 in
theorem lc_22 {p : Program} {l : Launch} {e : Env} {s : State} {m : MethodId} {below : List Frame} {meth : Method} {c : Code} {b L : Nat} {xs : Nat → Int32} {ad : Nat → Nat} {D : va_G} {cI cZ : ClassId} {NC NS i : Nat} {x3 : Int32} {w : ex_WW} {Rel : ex_WW → Prop} (C : lw_K p s m meth c b L xs ad D cI cZ NC NS) (hx3 : x3 = nI i) (hi : i + 7 ≤ L) (hp : pr_turn Rel) (hw : Rel w) (k : ∀ u, Rel u → lw_Go p l e s m below meth c b ad D cI cZ NC NS 995 x3 [] u) : lw_Go p l e s m below meth c b ad D cI cZ NC NS 854 x3 [] w := by
  refine lr_a1 C dL_854 ?_
  refine lr_arg 1 C hx3 hi (by decide) (by decide) dL_855 dL_856 dL_857 dL_858 dL_859 ?_
  refine lr_call (bc := 0) [.inl (xs (i + 1))] C dL_860 co_X6_turn ml_RL_107 cv_X6_turn (by decide) rfl rfl rfl rfl (by decide) (Nat.le_of_ble_eq_true rfl) rfl (hp _ hw (xs (i + 1))) (fun r1 u1 h1 => ?_)
  refine lr_a2 C dL_863 ?_
  refine lr_arg 1 C hx3 hi (by decide) (by decide) dL_864 dL_865 dL_866 dL_867 dL_868 ?_
  refine lr_call (bc := 23) [.inl (xs (i + 1))] C dL_869 co_X7_turn ml_RL_110 cv_X7_turn (by decide) rfl rfl rfl rfl (by decide) (Nat.le_of_ble_eq_true rfl) rfl h1 (fun r2 u2 h2 => ?_)
  exact lr_eq 995 C h2.1 dL_872 (by decide) (k _ h2.2)
set_option maxHeartbeats 4000000 in
set_option maxRecDepth 100000 in
theorem lc_23 {p : Program} {l : Launch} {e : Env} {s : State} {m : MethodId} {below : List Frame} {meth : Method} {c : Code} {b L : Nat} {xs : Nat → Int32} {ad : Nat → Nat} {D : va_G} {cI cZ : ClassId} {NC NS i : Nat} {x3 : Int32} {w : ex_WW} {Rel : ex_WW → Prop} (C : lw_K p s m meth c b L xs ad D cI cZ NC NS) (hx3 : x3 = nI i) (hi : i + 7 ≤ L) (hp : pr_turns Rel) (hw : Rel w) (k : ∀ u, Rel u → lw_Go p l e s m below meth c b ad D cI cZ NC NS 995 x3 [] u) : lw_Go p l e s m below meth c b ad D cI cZ NC NS 877 x3 [] w := by
  refine lr_a1 C dL_877 ?_
  refine lr_call (bc := 0) [] C dL_878 co_X6_turns ml_RL_111 cv_X6_turns (by decide) rfl rfl rfl rfl (by decide) (Nat.le_of_ble_eq_true rfl) rfl (hp _ hw) (fun r1 u1 h1 => ?_)
  refine lr_a2 C dL_881 ?_
  refine lr_call (bc := 23) [] C dL_882 co_X7_turns ml_RL_114 cv_X7_turns (by decide) rfl rfl rfl rfl (by decide) (Nat.le_of_ble_eq_true rfl) rfl h1 (fun r2 u2 h2 => ?_)
  exact lr_eq 995 C h2.1 dL_885 (by decide) (k _ h2.2)
set_option maxHeartbeats 4000000 in
set_option maxRecDepth 100000 in
theorem lc_24 {p : Program} {l : Launch} {e : Env} {s : State} {m : MethodId} {below : List Frame} {meth : Method} {c : Code} {b L : Nat} {xs : Nat → Int32} {ad : Nat → Nat} {D : va_G} {cI cZ : ClassId} {NC NS i : Nat} {x3 : Int32} {w : ex_WW} {Rel : ex_WW → Prop} (C : lw_K p s m meth c b L xs ad D cI cZ NC NS) (hx3 : x3 = nI i) (hi : i + 7 ≤ L) (hp : pr_feud Rel) (hw : Rel w) (k : ∀ u, Rel u → lw_Go p l e s m below meth c b ad D cI cZ NC NS 995 x3 [] u) : lw_Go p l e s m below meth c b ad D cI cZ NC NS 890 x3 [] w := by
  refine lr_a1 C dL_890 ?_
  refine lr_arg 1 C hx3 hi (by decide) (by decide) dL_891 dL_892 dL_893 dL_894 dL_895 ?_
  refine lr_arg 2 C hx3 hi (by decide) (by decide) dL_896 dL_897 dL_898 dL_899 dL_900 ?_
  refine lr_arg 3 C hx3 hi (by decide) (by decide) dL_901 dL_902 dL_903 dL_904 dL_905 ?_
  refine lr_if 913 C dL_906 (by decide) (fun hz => ?_) (fun hz => ?_)
  · refine lr_con 0 C dL_913 (by decide) ?_
    refine lr_call (bc := 0) [.inl (xs (i + 1)), .inl (xs (i + 2)), .inl 0] C dL_914 co_X6_feud ml_RL_115 cv_X6_feud (by decide) rfl rfl rfl rfl (by decide) (Nat.le_of_ble_eq_true rfl) rfl (hp _ hw (xs (i + 1)) (xs (i + 2)) 0 (by decide)) (fun r1 u1 h1 => ?_)
    refine lr_a2 C dL_917 ?_
    refine lr_arg 1 C hx3 hi (by decide) (by decide) dL_918 dL_919 dL_920 dL_921 dL_922 ?_
    refine lr_arg 2 C hx3 hi (by decide) (by decide) dL_923 dL_924 dL_925 dL_926 dL_927 ?_
    refine lr_arg 3 C hx3 hi (by decide) (by decide) dL_928 dL_929 dL_930 dL_931 dL_932 ?_
    refine lr_if 940 C dL_933 (by decide) (fun _ => ?_) (fun h => absurd hz h)
    refine lr_con 0 C dL_940 (by decide) ?_
    refine lr_call (bc := 23) [.inl (xs (i + 1)), .inl (xs (i + 2)), .inl 0] C dL_941 co_X7_feud ml_RL_119 cv_X7_feud (by decide) rfl rfl rfl rfl (by decide) (Nat.le_of_ble_eq_true rfl) rfl h1 (fun r2 u2 h2 => ?_)
    exact lr_eq 995 C h2.1 dL_944 (by decide) (k _ h2.2)
  · refine lr_con 1 C dL_909 (by decide) ?_
    refine lr_goto 914 C dL_910 (by decide) ?_
    refine lr_call (bc := 0) [.inl (xs (i + 1)), .inl (xs (i + 2)), .inl 1] C dL_914 co_X6_feud ml_RL_115 cv_X6_feud (by decide) rfl rfl rfl rfl (by decide) (Nat.le_of_ble_eq_true rfl) rfl (hp _ hw (xs (i + 1)) (xs (i + 2)) 1 (by decide)) (fun r1 u1 h1 => ?_)
    refine lr_a2 C dL_917 ?_
    refine lr_arg 1 C hx3 hi (by decide) (by decide) dL_918 dL_919 dL_920 dL_921 dL_922 ?_
    refine lr_arg 2 C hx3 hi (by decide) (by decide) dL_923 dL_924 dL_925 dL_926 dL_927 ?_
    refine lr_arg 3 C hx3 hi (by decide) (by decide) dL_928 dL_929 dL_930 dL_931 dL_932 ?_
    refine lr_if 940 C dL_933 (by decide) (fun h => absurd h hz) (fun _ => ?_)
    refine lr_con 1 C dL_936 (by decide) ?_
    refine lr_goto 941 C dL_937 (by decide) ?_
    refine lr_call (bc := 23) [.inl (xs (i + 1)), .inl (xs (i + 2)), .inl 1] C dL_941 co_X7_feud ml_RL_119 cv_X7_feud (by decide) rfl rfl rfl rfl (by decide) (Nat.le_of_ble_eq_true rfl) rfl h1 (fun r2 u2 h2 => ?_)
    exact lr_eq 995 C h2.1 dL_944 (by decide) (k _ h2.2)
set_option maxHeartbeats 4000000 in
set_option maxRecDepth 100000 in
theorem lc_25 {p : Program} {l : Launch} {e : Env} {s : State} {m : MethodId} {below : List Frame} {meth : Method} {c : Code} {b L : Nat} {xs : Nat → Int32} {ad : Nat → Nat} {D : va_G} {cI cZ : ClassId} {NC NS i : Nat} {x3 : Int32} {w : ex_WW} {Rel : ex_WW → Prop} (C : lw_K p s m meth c b L xs ad D cI cZ NC NS) (hx3 : x3 = nI i) (hi : i + 7 ≤ L) (hp : pr_tent Rel) (hw : Rel w) (k : ∀ u, Rel u → lw_Go p l e s m below meth c b ad D cI cZ NC NS 995 x3 [] u) : lw_Go p l e s m below meth c b ad D cI cZ NC NS 949 x3 [] w := by
  refine lr_a1 C dL_949 ?_
  refine lr_arg 1 C hx3 hi (by decide) (by decide) dL_950 dL_951 dL_952 dL_953 dL_954 ?_
  refine lr_call (bc := 0) [.inl (xs (i + 1))] C dL_955 co_X6_tent ml_RL_120 cv_X6_tent (by decide) rfl rfl rfl rfl (by decide) (Nat.le_of_ble_eq_true rfl) rfl (hp _ hw (xs (i + 1))) (fun r1 u1 h1 => ?_)
  refine lr_a2 C dL_958 ?_
  refine lr_arg 1 C hx3 hi (by decide) (by decide) dL_959 dL_960 dL_961 dL_962 dL_963 ?_
  refine lr_call (bc := 23) [.inl (xs (i + 1))] C dL_964 co_X7_tent ml_RL_123 cv_X7_tent (by decide) rfl rfl rfl rfl (by decide) (Nat.le_of_ble_eq_true rfl) rfl h1 (fun r2 u2 h2 => ?_)
  exact lr_eq 995 C h2.1 dL_967 (by decide) (k _ h2.2)
set_option maxHeartbeats 4000000 in
set_option maxRecDepth 100000 in
theorem lc_26 {p : Program} {l : Launch} {e : Env} {s : State} {m : MethodId} {below : List Frame} {meth : Method} {c : Code} {b L : Nat} {xs : Nat → Int32} {ad : Nat → Nat} {D : va_G} {cI cZ : ClassId} {NC NS i : Nat} {x3 : Int32} {w : ex_WW} {Rel : ex_WW → Prop} (C : lw_K p s m meth c b L xs ad D cI cZ NC NS) (hx3 : x3 = nI i) (hi : i + 7 ≤ L) (hp : pr_many Rel) (hw : Rel w) (k : ∀ u, Rel u → lw_Go p l e s m below meth c b ad D cI cZ NC NS 995 x3 [] u) : lw_Go p l e s m below meth c b ad D cI cZ NC NS 972 x3 [] w := by
  refine lr_a1 C dL_972 ?_
  refine lr_arg 1 C hx3 hi (by decide) (by decide) dL_973 dL_974 dL_975 dL_976 dL_977 ?_
  refine lr_call (bc := 0) [.inl (xs (i + 1))] C dL_978 co_X6_many ml_RL_124 cv_X6_many (by decide) rfl rfl rfl rfl (by decide) (Nat.le_of_ble_eq_true rfl) rfl (hp _ hw (xs (i + 1))) (fun r1 u1 h1 => ?_)
  refine lr_a2 C dL_981 ?_
  refine lr_arg 1 C hx3 hi (by decide) (by decide) dL_982 dL_983 dL_984 dL_985 dL_986 ?_
  refine lr_call (bc := 23) [.inl (xs (i + 1))] C dL_987 co_X7_many ml_RL_127 cv_X7_many (by decide) rfl rfl rfl rfl (by decide) (Nat.le_of_ble_eq_true rfl) rfl h1 (fun r2 u2 h2 => ?_)
  exact lr_eq 995 C h2.1 dL_990 (by decide) (k _ h2.2)
def pr_all (Rel : ex_WW → Prop) : Prop := pr_knight Rel ∧ pr_arms Rel ∧ pr_rank Rel ∧ pr_of Rel ∧ pr_near Rel ∧ pr_feed Rel ∧ pr_ordain Rel ∧ pr_scrap Rel ∧ pr_force Rel ∧ pr_worth Rel ∧ pr_joust Rel ∧ pr_stroke Rel ∧ pr_copy Rel ∧ pr_sheet Rel ∧ pr_wins Rel ∧ pr_won Rel ∧ pr_best Rel ∧ pr_owes Rel ∧ pr_pay Rel ∧ pr_purse Rel ∧ pr_challenge Rel ∧ pr_withdraw Rel ∧ pr_turn Rel ∧ pr_turns Rel ∧ pr_feud Rel ∧ pr_tent Rel ∧ pr_many Rel
set_option maxHeartbeats 4000000 in
set_option maxRecDepth 100000 in
theorem lw_loop {p : Program} {l : Launch} {e : Env} {s : State} {m : MethodId} {below : List Frame} {meth : Method} {c : Code} {b L : Nat} {xs : Nat → Int32} {ad : Nat → Nat} {D : va_G} {cI cZ : ClassId} {NC NS : Nat} {Rel : ex_WW → Prop} (C : lw_K p s m meth c b L xs ad D cI cZ NC NS) (hp : pr_all Rel) : ∀ (n i : Nat) (x3 : Int32) (w : ex_WW), x3 = nI i → L + 1 ≤ i + n → i ≤ L → Rel w → lw_Go p l e s m below meth c b ad D cI cZ NC NS 18 x3 [] w := by
  have hL := C.2.1
  intro n
  induction n with
  | zero => intro i x3 w _ h1 h2 _; exact absurd h1 (by omega)
  | succ n ih =>
    intro i x3 w hx3 hn hiL hw
    have back : ∀ u, i + 7 ≤ L → Rel u → lw_Go p l e s m below meth c b ad D cI cZ NC NS 995 x3 [] u := fun u h7 hu =>
      lr_inc (nI (i + 7)) C dL_995 (by rw [hx3, ← nI_add]; rfl) (lr_goto 18 C dL_998 (by decide) (ih (i + 7) _ u rfl (by omega) (by omega) hu))
    refine lr_i3 C dL_18 ?_
    refine lr_a0 C dL_19 ?_
    refine lr_len C dL_20 ?_
    refine lr_bip 7 C dL_21 (by decide) ?_
    refine lr_sub C dL_23 ?_
    have hval : (nI L - 7).toInt = (L : Int) - 7 := pk_sub_toInt (a := L) (b := 7) (by omega) (by omega)
    refine lr_gt 1001 C dL_24 (by decide) (fun _ => lr_ret C dL_1001 dL_1002) (fun hg => ?_)
    have hi : i + 7 ≤ L := by
      rw [Int32.lt_iff_toInt_lt, hval, hx3, nI_toInt (by omega)] at hg
      omega
    refine lr_a0 C dL_27 ?_
    refine lr_i3 C dL_28 ?_
    refine lr_ld (n := i) C hx3 (by omega) dL_29 ?_
    refine lr_bip 31 C dL_30 (by decide) ?_
    refine lr_and C dL_32 ?_
    generalize xs i &&& 31 = z
    by_cases h0 : z = 0
    · subst h0
      exact lr_tabIn 156 C dL_33 (by decide) (by decide) rfl (by decide) (lc_0 C hx3 hi hp.1 hw (fun u hu => back u hi hu))
    by_cases h1 : z = 1
    · subst h1
      exact lr_tabIn 209 C dL_33 (by decide) (by decide) rfl (by decide) (lc_1 C hx3 hi hp.2.1 hw (fun u hu => back u hi hu))
    by_cases h2 : z = 2
    · subst h2
      exact lr_tabIn 262 C dL_33 (by decide) (by decide) rfl (by decide) (lc_2 C hx3 hi hp.2.2.1 hw (fun u hu => back u hi hu))
    by_cases h3 : z = 3
    · subst h3
      exact lr_tabIn 295 C dL_33 (by decide) (by decide) rfl (by decide) (lc_3 C hx3 hi hp.2.2.2.1 hw (fun u hu => back u hi hu))
    by_cases h4 : z = 4
    · subst h4
      exact lr_tabIn 328 C dL_33 (by decide) (by decide) rfl (by decide) (lc_4 C hx3 hi hp.2.2.2.2.1 hw (fun u hu => back u hi hu))
    by_cases h5 : z = 5
    · subst h5
      exact lr_tabIn 341 C dL_33 (by decide) (by decide) rfl (by decide) (lc_5 C hx3 hi hp.2.2.2.2.2.1 hw (fun u hu => back u hi hu))
    by_cases h6 : z = 6
    · subst h6
      exact lr_tabIn 364 C dL_33 (by decide) (by decide) rfl (by decide) (lc_6 C hx3 hi hp.2.2.2.2.2.2.1 hw (fun u hu => back u hi hu))
    by_cases h7 : z = 7
    · subst h7
      exact lr_tabIn 377 C dL_33 (by decide) (by decide) rfl (by decide) (lc_7 C hx3 hi hp.2.2.2.2.2.2.2.1 hw (fun u hu => back u hi hu))
    by_cases h8 : z = 8
    · subst h8
      exact lr_tabIn 390 C dL_33 (by decide) (by decide) rfl (by decide) (lc_8 C hx3 hi hp.2.2.2.2.2.2.2.2.1 hw (fun u hu => back u hi hu))
    by_cases h9 : z = 9
    · subst h9
      exact lr_tabIn 413 C dL_33 (by decide) (by decide) rfl (by decide) (lc_9 C hx3 hi hp.2.2.2.2.2.2.2.2.2.1 hw (fun u hu => back u hi hu))
    by_cases h10 : z = 10
    · subst h10
      exact lr_tabIn 446 C dL_33 (by decide) (by decide) rfl (by decide) (lc_10 C hx3 hi hp.2.2.2.2.2.2.2.2.2.2.1 hw (fun u hu => back u hi hu))
    by_cases h11 : z = 11
    · subst h11
      exact lr_tabIn 479 C dL_33 (by decide) (by decide) rfl (by decide) (lc_11 C hx3 hi hp.2.2.2.2.2.2.2.2.2.2.2.1 hw (fun u hu => back u hi hu))
    by_cases h12 : z = 12
    · subst h12
      exact lr_tabIn 532 C dL_33 (by decide) (by decide) rfl (by decide) (lc_12 C hx3 hi hp.2.2.2.2.2.2.2.2.2.2.2.2.1 hw (fun u hu => back u hi hu))
    by_cases h13 : z = 13
    · subst h13
      exact lr_tabIn 607 C dL_33 (by decide) (by decide) rfl (by decide) (lc_13 C hx3 hi hp.2.2.2.2.2.2.2.2.2.2.2.2.2.1 hw (fun u hu => back u hi hu))
    by_cases h14 : z = 14
    · subst h14
      exact lr_tabIn 650 C dL_33 (by decide) (by decide) rfl (by decide) (lc_14 C hx3 hi hp.2.2.2.2.2.2.2.2.2.2.2.2.2.2.1 hw (fun u hu => back u hi hu))
    by_cases h15 : z = 15
    · subst h15
      exact lr_tabIn 683 C dL_33 (by decide) (by decide) rfl (by decide) (lc_15 C hx3 hi hp.2.2.2.2.2.2.2.2.2.2.2.2.2.2.2.1 hw (fun u hu => back u hi hu))
    by_cases h16 : z = 16
    · subst h16
      exact lr_tabIn 706 C dL_33 (by decide) (by decide) rfl (by decide) (lc_16 C hx3 hi hp.2.2.2.2.2.2.2.2.2.2.2.2.2.2.2.2.1 hw (fun u hu => back u hi hu))
    by_cases h17 : z = 17
    · subst h17
      exact lr_tabIn 719 C dL_33 (by decide) (by decide) rfl (by decide) (lc_17 C hx3 hi hp.2.2.2.2.2.2.2.2.2.2.2.2.2.2.2.2.2.1 hw (fun u hu => back u hi hu))
    by_cases h18 : z = 18
    · subst h18
      exact lr_tabIn 742 C dL_33 (by decide) (by decide) rfl (by decide) (lc_18 C hx3 hi hp.2.2.2.2.2.2.2.2.2.2.2.2.2.2.2.2.2.2.1 hw (fun u hu => back u hi hu))
    by_cases h19 : z = 19
    · subst h19
      exact lr_tabIn 785 C dL_33 (by decide) (by decide) rfl (by decide) (lc_19 C hx3 hi hp.2.2.2.2.2.2.2.2.2.2.2.2.2.2.2.2.2.2.2.1 hw (fun u hu => back u hi hu))
    by_cases h20 : z = 20
    · subst h20
      exact lr_tabIn 808 C dL_33 (by decide) (by decide) rfl (by decide) (lc_20 C hx3 hi hp.2.2.2.2.2.2.2.2.2.2.2.2.2.2.2.2.2.2.2.2.1 hw (fun u hu => back u hi hu))
    by_cases h21 : z = 21
    · subst h21
      exact lr_tabIn 841 C dL_33 (by decide) (by decide) rfl (by decide) (lc_21 C hx3 hi hp.2.2.2.2.2.2.2.2.2.2.2.2.2.2.2.2.2.2.2.2.2.1 hw (fun u hu => back u hi hu))
    by_cases h22 : z = 22
    · subst h22
      exact lr_tabIn 854 C dL_33 (by decide) (by decide) rfl (by decide) (lc_22 C hx3 hi hp.2.2.2.2.2.2.2.2.2.2.2.2.2.2.2.2.2.2.2.2.2.2.1 hw (fun u hu => back u hi hu))
    by_cases h23 : z = 23
    · subst h23
      exact lr_tabIn 877 C dL_33 (by decide) (by decide) rfl (by decide) (lc_23 C hx3 hi hp.2.2.2.2.2.2.2.2.2.2.2.2.2.2.2.2.2.2.2.2.2.2.2.1 hw (fun u hu => back u hi hu))
    by_cases h24 : z = 24
    · subst h24
      exact lr_tabIn 890 C dL_33 (by decide) (by decide) rfl (by decide) (lc_24 C hx3 hi hp.2.2.2.2.2.2.2.2.2.2.2.2.2.2.2.2.2.2.2.2.2.2.2.2.1 hw (fun u hu => back u hi hu))
    by_cases h25 : z = 25
    · subst h25
      exact lr_tabIn 949 C dL_33 (by decide) (by decide) rfl (by decide) (lc_25 C hx3 hi hp.2.2.2.2.2.2.2.2.2.2.2.2.2.2.2.2.2.2.2.2.2.2.2.2.2.1 hw (fun u hu => back u hi hu))
    by_cases h26 : z = 26
    · subst h26
      exact lr_tabIn 972 C dL_33 (by decide) (by decide) rfl (by decide) (lc_26 C hx3 hi hp.2.2.2.2.2.2.2.2.2.2.2.2.2.2.2.2.2.2.2.2.2.2.2.2.2.2 hw (fun u hu => back u hi hu))
    have q0 := lv_neT h0 (a := 0) (by decide)
    have q1 := lv_neT h1 (a := 1) (by decide)
    have q2 := lv_neT h2 (a := 2) (by decide)
    have q3 := lv_neT h3 (a := 3) (by decide)
    have q4 := lv_neT h4 (a := 4) (by decide)
    have q5 := lv_neT h5 (a := 5) (by decide)
    have q6 := lv_neT h6 (a := 6) (by decide)
    have q7 := lv_neT h7 (a := 7) (by decide)
    have q8 := lv_neT h8 (a := 8) (by decide)
    have q9 := lv_neT h9 (a := 9) (by decide)
    have q10 := lv_neT h10 (a := 10) (by decide)
    have q11 := lv_neT h11 (a := 11) (by decide)
    have q12 := lv_neT h12 (a := 12) (by decide)
    have q13 := lv_neT h13 (a := 13) (by decide)
    have q14 := lv_neT h14 (a := 14) (by decide)
    have q15 := lv_neT h15 (a := 15) (by decide)
    have q16 := lv_neT h16 (a := 16) (by decide)
    have q17 := lv_neT h17 (a := 17) (by decide)
    have q18 := lv_neT h18 (a := 18) (by decide)
    have q19 := lv_neT h19 (a := 19) (by decide)
    have q20 := lv_neT h20 (a := 20) (by decide)
    have q21 := lv_neT h21 (a := 21) (by decide)
    have q22 := lv_neT h22 (a := 22) (by decide)
    have q23 := lv_neT h23 (a := 23) (by decide)
    have q24 := lv_neT h24 (a := 24) (by decide)
    have q25 := lv_neT h25 (a := 25) (by decide)
    have q26 := lv_neT h26 (a := 26) (by decide)
    exact lr_tabOut 995 C dL_33 (by omega) (by decide) (back w hi hw)
