-- the model's world while it goes over a text: its own fields, what is read, what is named
def MW (w : ex_WW) (G R N : Nat → Int32) : ex_WW := ex_upf (ex_upf (ex_upf w 23 G) 37 R) 38 N
theorem MW_23 (w : ex_WW) (G R N : Nat → Int32) (k : Nat) (x : Int32) : ex_up (MW w G R N) 23 k x = MW w (upd G k x) R N := by
  unfold MW
  rw [xf_up_ne _ (by decide), xf_up_ne _ (by decide), xf_up]
theorem MW_37 (w : ex_WW) (G R N : Nat → Int32) (k : Nat) (x : Int32) : ex_up (MW w G R N) 37 k x = MW w G (upd R k x) N := by
  unfold MW
  rw [xf_up_ne _ (by decide), xf_up]
theorem MW_38 (w : ex_WW) (G R N : Nat → Int32) (k : Nat) (x : Int32) : ex_up (MW w G R N) 38 k x = MW w G R (upd N k x) := by
  unfold MW
  rw [xf_up]
theorem MW_id (w : ex_WW) : MW w (w 23) (w 37) (w 38) = w := by
  unfold MW
  rw [xf_id, xf_id, xf_id]
def effR (G R : Nat → Int32) (a : Nat) : Nat → Int32 := if G 23 = 0 then R else upd R a (0 - R a)
section SPG
variable {d : Nat} {w : ex_WW} {P : Int32 → ex_WW → Prop} {G R N : Nat → Int32} {c : Int32} {a : Nat}
theorem sp_close (ha : G 22 = nI a) (ha7 : a < 7) (h : P 0 (MW w (upd G 23 0) (effR G R a) N)) : ex_Ev d mX7_close 0 (ex_in [.inr 23] 1) [] (MW w G R N) P := by
  have iv := vp_in_nI ha7 (N := 7) (by decide)
  refine sg_X7_close_0 ?_
  rw [show (MW w G R N) 23 23 = G 23 from rfl, show (MW w G R N) 23 22 = nI a from ha, nI_clamp (by omega), show (MW w G R N) 37 a = R a from rfl]
  unfold effR at h
  refine ⟨fun q => ?_, fun q => ⟨iv, iv, ?_⟩⟩
  · rw [if_pos q] at h; rw [MW_23]; exact h
  · rw [if_neg q] at h; rw [MW_37, MW_23]; exact h
theorem sp_pass_18 (h : ∀ x2 : Int32, (x2 = 1 ∧ figB c = true) ∨ (x2 = 0 ∧ figB c = false) → ex_Ev (d + 1) mX7_pass 18 [some (.inr 23), some (.inl c), some (.inl x2), none] [] (MW w G R N) P) : ex_Ev (d + 1) mX7_pass 0 (ex_in [.inr 23, .inl c] 4) [] (MW w G R N) P := by
  refine sg_X7_pass_0 ⟨fun q => h 0 (Or.inr ⟨rfl, ?_⟩), fun q => ⟨fun q2 => h 0 (Or.inr ⟨rfl, ?_⟩), fun q2 => h 1 (Or.inl ⟨rfl, ?_⟩)⟩⟩
  · exact decide_eq_false (fun z => i32_not_lt z.1 q)
  · exact decide_eq_false (fun z => i32_not_lt z.2 q2)
  · exact decide_eq_true ⟨i32_le_of_not_lt q, i32_le_of_not_lt q2⟩
theorem fig_strk {c : Int32} (h : figB c = true) : strk c = 0 ∧ c ≠ 33 ∧ c ≠ 45 := by
  unfold figB at h
  have h := of_decide_eq_true h
  rw [le_toInt, le_toInt, show (48 : Int32).toInt = 48 by decide, show (57 : Int32).toInt = 57 by decide] at h
  have ne : ∀ k : Int32, 57 < k.toInt ∨ k.toInt < 48 → c ≠ k := fun k hk e => by rw [e] at h; omega
  refine ⟨?_, ne 33 (by decide), ne 45 (by decide)⟩
  unfold strk
  rw [if_neg (ne 98 (by decide)), if_neg (ne 104 (by decide)), if_neg (ne 108 (by decide)), if_neg (ne 117 (by decide)), if_neg (ne 102 (by decide))]
/-- behind an item's letter: a figure, or the sign -/
theorem sp_pass_sign (hn : G 21 = 1) (ha : G 22 = nI a) (ha7 : a < 7) (h1 : figB c = true → P 1 (MW w (upd G 21 3) (upd R a (c - 48)) N)) (h2 : c = 45 → P 1 (MW w (upd (upd G 23 1) 21 2) R N)) (h3 : figB c = false → c ≠ 45 → P 0 (MW w G R N)) : ex_Ev (d + 1) mX7_pass 0 (ex_in [.inr 23, .inl c] 4) [] (MW w G R N) P := by
  have iv := vp_in_nI ha7 (N := 7) (by decide)
  have e21 : (MW w G R N) 23 21 = 1 := hn
  refine sp_pass_18 (fun x2 hx => sg_X7_pass_18 (sp_m_strokeOf ?_))
  rw [e21]
  refine qF (by decide) ?_
  rcases hx with ⟨rfl, g⟩ | ⟨rfl, g⟩
  · refine pF (by decide) (pT rfl ?_)
    rw [show (MW w G R N) 23 22 = nI a from ha, nI_clamp (by omega), MW_37, MW_23]
    exact ⟨iv, h1 g⟩
  · refine pT rfl (sg_X7_pass_95 ?_)
    rw [e21]
    refine qT rfl ⟨fun q => sg_X7_pass_121 (pT rfl (sg_X7_pass_166 (pT e21 (h3 g q)))), fun q => ?_⟩
    rw [MW_23, MW_23]
    exact h2 q
/-- behind the sign: a figure -/
theorem sp_pass_first (hn : G 21 = 2) (ha : G 22 = nI a) (ha7 : a < 7) (h1 : figB c = true → P 1 (MW w (upd G 21 3) (upd R a (c - 48)) N)) (h3 : figB c = false → P 0 (MW w G R N)) : ex_Ev (d + 1) mX7_pass 0 (ex_in [.inr 23, .inl c] 4) [] (MW w G R N) P := by
  have iv := vp_in_nI ha7 (N := 7) (by decide)
  have e21 : (MW w G R N) 23 21 = 2 := hn
  refine sp_pass_18 (fun x2 hx => sg_X7_pass_18 (sp_m_strokeOf ?_))
  rw [e21]
  refine qF (by decide) ?_
  rcases hx with ⟨rfl, g⟩ | ⟨rfl, g⟩
  · refine pF (by decide) (pF (by decide) (qT rfl ?_))
    rw [show (MW w G R N) 23 22 = nI a from ha, nI_clamp (by omega), MW_37, MW_23]
    exact ⟨iv, h1 g⟩
  · refine pT rfl (sg_X7_pass_95 ?_)
    rw [e21]
    refine qF (by decide) (sg_X7_pass_121 (pT rfl (sg_X7_pass_166 ?_)))
    rw [e21]
    exact pF (by decide) (pT rfl (h3 g))
/-- behind one figure: another one -/
theorem sp_pass_second (hn : G 21 = 3) (ha : G 22 = nI a) (ha7 : a < 7) (g : figB c = true) (h1 : P 1 (MW w (upd G 21 4) (upd R a (10 * R a + c - 48)) N)) : ex_Ev (d + 1) mX7_pass 0 (ex_in [.inr 23, .inl c] 4) [] (MW w G R N) P := by
  have iv := vp_in_nI ha7 (N := 7) (by decide)
  have e21 : (MW w G R N) 23 21 = 3 := hn
  refine sp_pass_18 (fun x2 hx => sg_X7_pass_18 (sp_m_strokeOf ?_))
  rw [e21]
  rcases hx with ⟨rfl, _⟩ | ⟨rfl, g'⟩
  · refine qF (by decide) (pF (by decide) (pF (by decide) (qF (by decide) (sg_X7_pass_95 ?_))))
    rw [e21]
    refine qF (by decide) (sg_X7_pass_121 ?_)
    rw [e21]
    refine pF (by decide) (qT rfl ?_)
    rw [show (MW w G R N) 23 22 = nI a from ha, nI_clamp (by omega), show (MW w G R N) 37 a = R a from rfl, MW_37, MW_23]
    exact ⟨iv, iv, h1⟩
  · rw [g] at g'; cases g'
/-- where an item may begin -/
theorem sp_pass_bound (hn : G 21 = 0 ∨ G 21 = 3 ∨ G 21 = 4) (hg : G 21 = 3 → figB c = false) (ha : G 22 = nI a) (ha7 : a < 7) (hN : ∀ s, s < 6 → N s = 0 ∨ N s = 1)
    (h1 : G 21 ≠ 0 → c = 33 → P 1 (MW w (upd (upd G 23 0) 21 5) (effR G R a) N)) (h2 : (G 21 = 0 ∨ c ≠ 33) → strk c = 0 ∨ N (strk c) ≠ 0 → P 0 (MW w G R N))
    (h3 : strk c ≠ 0 → N (strk c) = 0 → P 1 (MW w (upd (upd (upd (upd G 23 0) 22 (nI (strk c))) 23 0) 21 1) (effR G R a) (upd N (strk c) 1))) : ex_Ev (d + 1) mX7_pass 0 (ex_in [.inr 23, .inl c] 4) [] (MW w G R N) P := by
  have sl := strk_lt c
  have sv := vp_in_nI sl (N := 6) (by decide)
  have n1 : ¬ (MW w G R N) 23 21 = 1 := by show ¬ G 21 = 1; rcases hn with h | h | h <;> rw [h] <;> decide
  have n2 : ¬ (MW w G R N) 23 21 = 2 := by show ¬ G 21 = 2; rcases hn with h | h | h <;> rw [h] <;> decide
  have n5 : ¬ (MW w G R N) 23 21 = 5 := by show ¬ G 21 = 5; rcases hn with h | h | h <;> rw [h] <;> decide
  have n6 : ¬ (MW w G R N) 23 21 = 6 := by show ¬ G 21 = 6; rcases hn with h | h | h <;> rw [h] <;> decide
  have s33 : c = 33 → strk c = 0 := fun e => by rw [e]; decide
  have last : ∀ x2, (G 21 = 0 ∨ c ≠ 33) → ex_Ev (d + 1) mX7_pass 217 [some (.inr 23), some (.inl c), some (.inl x2), some (.inl (nI (strk c)))] [] (MW w G R N) P := fun x2 hz => by
    refine sg_X7_pass_217 ⟨fun q => h2 hz (Or.inl ((nI_eq (by omega) (b := 0) (by decide)).mp q)), fun q => ?_⟩
    have hs : strk c ≠ 0 := fun y => q (by rw [y]; rfl)
    rw [nI_clamp (by omega), show (MW w G R N) 38 (strk c) = N (strk c) from rfl]
    refine ⟨sv, fun q2 => sp_close ha ha7 ⟨sv, ?_⟩, fun q2 => h2 hz (Or.inr q2)⟩
    rw [MW_38, MW_23, MW_23, MW_23]
    exact h3 hs q2
  have from166 : ∀ x2, ex_Ev (d + 1) mX7_pass 166 [some (.inr 23), some (.inl c), some (.inl x2), some (.inl (nI (strk c)))] [] (MW w G R N) P := fun x2 => by
    refine sg_X7_pass_166 (pF n1 (pF n2 (qF n6 (sg_X7_pass_193 ⟨fun q => last x2 (Or.inr q), fun q => ⟨fun q2 => last x2 (Or.inl q2), fun q2 => sp_close ha ha7 ?_⟩⟩))))
    rw [MW_23]
    exact h1 q2 q
  refine sp_pass_18 (fun x2 hx => sg_X7_pass_18 (sp_m_strokeOf (qF n5 ?_)))
  have from95 : ex_Ev (d + 1) mX7_pass 95 [some (.inr 23), some (.inl c), some (.inl x2), some (.inl (nI (strk c)))] [] (MW w G R N) P := by
    refine sg_X7_pass_95 (qF n1 (sg_X7_pass_121 ?_))
    rcases hx with ⟨rfl, g⟩ | ⟨rfl, g⟩
    · refine pF (by decide) (qF (fun z => ?_) (from166 _))
      have := hg z
      rw [g] at this
      cases this
    · exact pT rfl (from166 _)
  rcases hx with ⟨rfl, g⟩ | ⟨rfl, g⟩
  · exact pF (by decide) (pF n1 (qF n2 from95))
  · exact pT rfl from95
/-- behind the !: a letter -/
theorem sp_pass_last (hn : G 21 = 5) (h1 : strk c ≠ 0 → P 1 (MW w (upd G 21 6) (upd R 6 (nI (strk c))) N)) (h2 : strk c = 0 → P 0 (MW w (upd G 21 6) (upd R 6 (nI (strk c))) N)) : ex_Ev (d + 1) mX7_pass 0 (ex_in [.inr 23, .inl c] 4) [] (MW w G R N) P := by
  have sl := strk_lt c
  have e21 : (MW w G R N) 23 21 = 5 := hn
  refine sp_pass_18 (fun x2 hx => sg_X7_pass_18 (sp_m_strokeOf (qT e21 ⟨vp_in_nI (n := 6) (by decide) (by decide), ?_⟩)))
  rw [show (6 : Int32).toNatClampNeg = 6 by decide, MW_37, MW_23]
  refine ⟨fun q => h2 ?_, fun q => h1 (fun z => q (by rw [z]; decide))⟩
  have := (nI_leI (by omega) (b := 0) (by decide)).mp q
  omega
theorem sp_pass_end (hn : G 21 = 6) (h : P 0 (MW w G R N)) : ex_Ev (d + 1) mX7_pass 0 (ex_in [.inr 23, .inl c] 4) [] (MW w G R N) P := by
  have e21 : (MW w G R N) 23 21 = 6 := hn
  have from95 : ∀ x2, ex_Ev (d + 1) mX7_pass 95 [some (.inr 23), some (.inl c), some (.inl x2), some (.inl (nI (strk c)))] [] (MW w G R N) P := fun x2 => by
    refine sg_X7_pass_95 (qF (by rw [e21]; decide) (sg_X7_pass_121 ?_))
    have z : ex_Ev (d + 1) mX7_pass 166 [some (.inr 23), some (.inl c), some (.inl x2), some (.inl (nI (strk c)))] [] (MW w G R N) P := by
      refine sg_X7_pass_166 ?_
      rw [e21]
      exact pF (by decide) (pF (by decide) (qT rfl h))
    exact ⟨fun _ => z, fun _ => qF (by rw [e21]; decide) z⟩
  refine sp_pass_18 (fun x2 hx => sg_X7_pass_18 (sp_m_strokeOf (qF (by rw [e21]; decide) ⟨fun _ => from95 x2, fun _ => pF (by rw [e21]; decide) (qF (by rw [e21]; decide) (from95 x2))⟩)))
end SPG
