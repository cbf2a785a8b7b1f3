def dupB (a b : Int32) (g h : Nat → Int32) (i : Nat) : Bool := (decide (g i = a) || decide (h i = a)) && (decide (g i = b) || decide (h i = b))
section SPQ
variable {d : Nat} {w : ex_WW} {P : Int32 → ex_WW → Prop} {c i : Nat} {a b : Int32}
theorem sp_isOf (hi : i < 7) (ht : w 18 i = a ∨ w 19 i = a → P 1 w) (hf : ¬ (w 18 i = a ∨ w 19 i = a) → P 0 w) : ex_Ev d mX1_isOf 0 (ex_in [.inr 5, .inl (nI i), .inl a] 3) [] w P := by
  have iv := vp_in_nI hi (N := 7) (by decide)
  refine sg_X1_isOf_0 ?_
  rw [nI_clamp (by omega)]
  exact ⟨iv, fun q => ht (Or.inl q), fun q => ⟨iv, fun q2 => hf (fun z => z.elim q q2), fun q2 => ht (Or.inr q2)⟩⟩
def anB (a b : Int32) (g h : Nat → Int32) : Nat → Nat → Bool
  | 0, _ => false
  | m + 1, i => dupB a b g h i || anB a b g h m (i + 1)
theorem sp_c_areTwo (hc : w 5 3 = nI c) (hb : c ≤ 7) (ht : anB a b (w 18) (w 19) c 0 = true → P 1 w) (hf : anB a b (w 18) (w 19) c 0 = false → P 0 w) : ex_Ev (d + 1) mX1_areTwo 0 (ex_in [.inr 5, .inl a, .inl b] 4) [] w P := by
  refine sg_X1_areTwo_0 ?_
  have loop : ∀ m i, i + m = c → (anB a b (w 18) (w 19) m i = true → P 1 w) → (anB a b (w 18) (w 19) m i = false → P 0 w) → ex_Ev (d + 1) mX1_areTwo 2 [some (.inr 5), some (.inl a), some (.inl b), some (.inl (nI i))] [] w P := by
    intro m
    induction m with
    | zero =>
      intro i hi _ hf
      exact sg_X1_areTwo_2 (pT (by rw [hc]; exact nI_le (by omega) (by omega)) (hf rfl))
    | succ m ih =>
      intro i hi ht hf
      rw [anB] at ht hf
      have skip : dupB a b (w 18) (w 19) i = false → ex_Ev (d + 1) mX1_areTwo 2 [some (.inr 5), some (.inl a), some (.inl b), some (.inl (nI i + 1))] [] w P := fun z => by
        rw [nI_1]
        rw [z, Bool.false_or] at ht hf
        exact ih (i + 1) (by omega) ht hf
      refine sg_X1_areTwo_2 (pF (by rw [hc]; exact nI_ge (by omega) (by omega)) (sp_isOf (by omega) (fun q => t01 (sp_isOf (by omega) (fun q2 => t01 (ht ?_)) (fun q2 => f01 (skip ?_)))) (fun q => f01 (skip ?_))))
      · have : dupB a b (w 18) (w 19) i = true := by unfold dupB; simp [q, q2]
        rw [this]; rfl
      · unfold dupB
        rw [not_or] at q2
        simp [q2]
      · unfold dupB
        rw [not_or] at q
        simp [q]
  exact loop c 0 (by omega) ht hf
end SPQ
theorem pp_challenge : pr_challenge re_all := by
  intro w hw a b
  obtain ⟨n, f, o, j, c, hK, hT, hO, hJ, hC, hF⟩ := id hw
  obtain ⟨k1, k2, k3, k4, k5, k6, k7, k8⟩ := id hK
  obtain ⟨c1, c2, c3, c4, c5, c6⟩ := id hC
  have e7 : ∀ i, i < 7 → vp_in (nI i) 7 := fun i hi => vp_in_nI hi (by decide)
  -- the model's search over its rows
  have mod : ∀ (U : ex_WW) (P : Int32 → ex_WW → Prop), U 23 15 = nI c → U 34 = w 34 → U 35 = w 35 → a ≠ b → (anB a b (w 34) (w 35) c 0 = true → P (-3) U) → (anB a b (w 34) (w 35) c 0 = false → ((c < 7 → P (nI c) (ex_up (ex_up (ex_up U 34 c a) 35 c b) 23 15 (nI (c + 1)))) ∧ (c = 7 → P (-2) U))) → ex_Ev 60 mX7_challenge 13 [some (.inr 23), some (.inl a), some (.inl b), some (.inl 0), none] [] U P := by
    intro U P h15 h34 h35 hab ht hf
    have loop : ∀ m i, i + m = c → (anB a b (w 34) (w 35) m i = true → P (-3) U) → (anB a b (w 34) (w 35) m i = false → ((c < 7 → P (nI c) (ex_up (ex_up (ex_up U 34 c a) 35 c b) 23 15 (nI (c + 1)))) ∧ (c = 7 → P (-2) U))) → ex_Ev 60 mX7_challenge 13 [some (.inr 23), some (.inl a), some (.inl b), some (.inl (nI i)), none] [] U P := by
      intro m
      induction m with
      | zero =>
        intro i hi _ hf
        refine sg_X7_challenge_13 (pT (by rw [h15]; exact nI_le (by omega) (by omega)) ?_)
        rw [h15, nI_1, nI_pred, nI_clamp (by omega)]
        refine ⟨fun q => ?_, fun q => (hf rfl).2 ((nI_eq (by omega) (b := 7) (by decide)).mp q)⟩
        have hc7 : c < 7 := by
          rcases Nat.lt_or_ge c 7 with z | z
          · exact z
          · exact absurd (by rw [show c = 7 by omega]; rfl) q
        exact ⟨e7 c hc7, e7 c hc7, (hf rfl).1 hc7⟩
      | succ m ih =>
        intro i hi ht hf
        rw [anB] at ht hf
        have skip : dupB a b (w 34) (w 35) i = false → ex_Ev 60 mX7_challenge 13 [some (.inr 23), some (.inl a), some (.inl b), some (.inl (nI i + 1)), none] [] U P := fun z => by
          rw [nI_1]
          rw [z, Bool.false_or] at ht hf
          exact ih (i + 1) (by omega) ht hf
        have hit : dupB a b (w 34) (w 35) i = true → P (-3) U := fun z => ht (by rw [z]; rfl)
        have iv := e7 i (by omega)
        refine sg_X7_challenge_13 (pF (by rw [h15]; exact nI_ge (by omega) (by omega)) ?_)
        rw [nI_clamp (by omega), h34, h35]
        unfold dupB at skip hit
        refine ⟨iv, fun q1 => ⟨iv, fun q2 => skip ?_, fun q2 => ⟨iv, fun q3 => skip ?_, fun q3 => hit ?_⟩⟩, fun q1 => ⟨iv, fun q2 => ⟨iv, fun q3 => skip ?_, fun q3 => ⟨iv, fun q4 => skip ?_, fun q4 => hit ?_⟩⟩, fun q2 => hit ?_⟩⟩
        · by_cases z : w 35 i = a
          · have : ¬ w 35 i = b := fun y => hab (z.symm.trans y)
            simp [q2, this]
          · simp [q1, z]
        · simp [q1, q3]
        · simp [q2, q3]
        · simp [q3, q2]
        · exact absurd (q1.symm.trans q3) hab
        · exact absurd (q1.symm.trans q3) hab
        · simp [q1, q2]
    exact loop c 0 (by omega) ht hf
  refine sg_X6_challenge_0 (sp_hasPair k2 k1 (fun hp => t10 (sp_c_areTwo c2 c1 (fun hd => t01 ?_) (fun hd => f01 (sg_X1_isFull_0 ⟨fun hl => f01 (sg_X1_add_0 ?_), fun hl => t01 ?_⟩)))) (fun hp => f10 ?_))
  · refine sg_X7_challenge_0 (sp_areTwo (n := n) k3 k1 (fun _ => t10 (mod w _ c3 rfl rfl hp.2.2 (fun _ => ⟨rfl, hw⟩) (fun q => ?_))) (fun q => absurd hp q))
    rw [← c4, ← c5, hd] at q
    cases q
  · have hc7 : c < 7 := by
      rw [c2] at hl
      exact (nI_ltI (by omega) (b := 7) (by decide)).mp hl
    rw [c2, nI_clamp (by omega), nI_1]
    refine ⟨e7 c hc7, e7 c hc7, ?_⟩
    refine sg_X7_challenge_0 (sp_areTwo (n := n) k3 k1 (fun _ => t10 (mod _ _ c3 rfl rfl hp.2.2 (fun q => ?_) (fun _ => ⟨fun _ => ⟨rfl, ?_⟩, fun q => absurd q (by omega)⟩))) (fun q => absurd hp q))
    · rw [← c4, ← c5, hd] at q
      cases q
    · refine ⟨n, f, o, j, c + 1, re_K_of hK rfl rfl rfl rfl rfl rfl rfl rfl rfl rfl, re_T_of hT rfl rfl rfl rfl, re_O_of hO rfl rfl rfl rfl rfl rfl rfl, re_J_of hJ (Nat.le_refl _) (Nat.le_refl _) rfl rfl rfl rfl rfl rfl rfl rfl rfl rfl, ⟨by omega, rfl, rfl, ?_, ?_, fun i hi => ?_⟩, re_F_of hF (Nat.le_refl _) rfl rfl⟩
      · show upd (w 18) c a = upd (w 34) c a
        rw [c4]
      · show upd (w 19) c b = upd (w 35) c b
        rw [c5]
      · show isN n (upd (w 18) c a i) ∧ isN n (upd (w 19) c b i) ∧ upd (w 18) c a i ≠ upd (w 19) c b i
        by_cases h : i = c
        · subst h; rw [upd_at, upd_at]; exact hp
        · rw [upd_ne _ _ h, upd_ne _ _ h]; exact c6 i (by omega)
  · have hc7 : c = 7 := by
      rw [c2] at hl
      have : ¬ c < 7 := fun z => hl ((nI_ltI (by omega) (b := 7) (by decide)).mpr z)
      omega
    refine sg_X7_challenge_0 (sp_areTwo (n := n) k3 k1 (fun _ => t10 (mod w _ c3 rfl rfl hp.2.2 (fun q => ?_) (fun _ => ⟨fun q => absurd q (by omega), fun _ => ⟨rfl, hw⟩⟩))) (fun q => absurd hp q))
    rw [← c4, ← c5, hd] at q
    cases q
  · exact sg_X7_challenge_0 (sp_areTwo (n := n) k3 k1 (fun q => absurd q hp) (fun _ => f10 ⟨rfl, hw⟩))
theorem pp_withdraw : pr_withdraw re_all := by
  intro w hw
  obtain ⟨n, f, o, j, c, hK, hT, hO, hJ, hC, hF⟩ := id hw
  obtain ⟨c1, c2, c3, c4, c5, c6⟩ := id hC
  refine sg_X6_withdraw_0 (sg_X1_size_0 ⟨fun h0 => sg_X1_dropLatest_0 (sg_X1_size_0 ?_), fun h0 => ?_⟩)
  · have hc0 : 0 < c := by
      rcases Nat.eq_zero_or_pos c with q | q
      · exact absurd (by rw [c2, q]; rfl) h0
      · exact q
    have e1 : nI c - 1 = nI (c - 1) := pk_sub (b := 1) hc0
    refine sg_X7_withdraw_0 ⟨fun q => ⟨?_, ?_⟩, fun q => ?_⟩
    · show w 5 3 - 1 = w 23 15 - 1
      rw [c2, c3]
    · refine ⟨n, f, o, j, c - 1, re_K_of hK rfl rfl rfl rfl rfl rfl rfl rfl rfl rfl, re_T_of hT rfl rfl rfl rfl, re_O_of hO rfl rfl rfl rfl rfl rfl rfl, re_J_of hJ (Nat.le_refl _) (Nat.le_refl _) rfl rfl rfl rfl rfl rfl rfl rfl rfl rfl, ⟨by omega, ?_, ?_, c4, c5, fun i hi => c6 i (by omega)⟩, re_F_of hF (Nat.le_refl _) rfl rfl⟩
      · show w 5 3 - 1 = _
        rw [c2, e1]
      · show w 23 15 - 1 = _
        rw [c3, e1]
    · exfalso
      have : nI c = 0 := c3.symm.trans q
      have := (nI_eq (by omega) (b := 0) (by decide)).mp this
      omega
  · have hc0 : c = 0 := (nI_eq (by omega) (b := 0) (by decide)).mp (c2.symm.trans h0)
    exact sg_X7_withdraw_0 (qT (by rw [c3, hc0]; rfl) ⟨rfl, hw⟩)
