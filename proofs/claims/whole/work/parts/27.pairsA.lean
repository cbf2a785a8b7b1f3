-- the relation's parts, each by the cells that it looks at
theorem re_T_of {w w' : ex_WW} {f : Nat} (h : re_T w f) (e1 : w' 3 1 = w 3 1) (e2 : w' 23 5 = w 23 5) (e3 : w' 13 = w 13) (e4 : w' 28 = w 28) : re_T w' f := by
  unfold re_T at h ⊢
  rw [e1, e2, e3, e4]
  exact h
theorem re_K_of {w w' : ex_WW} {n : Nat} (h : re_K w n) (e1 : w' 1 4 = w 1 4) (e2 : w' 23 0 = w 23 0) (e3 : w' 7 = w 7) (e4 : w' 8 = w 8) (e5 : w' 9 = w 9) (e6 : w' 10 = w 10) (g3 : w' 24 = w 24) (g4 : w' 25 = w 25) (g5 : w' 26 = w 26) (g6 : w' 27 = w 27) : re_K w' n := by
  unfold re_K at h ⊢
  rw [e1, e2, e3, e4, e5, e6, g3, g4, g5, g6]
  exact h
theorem re_O_of {w w' : ex_WW} {o : Nat} (h : re_O w o) (e1 : w' 2 2 = w 2 2) (e2 : w' 23 7 = w 23 7) (e3 : w' 2 3 = w 2 3) (e4 : w' 23 8 = w 23 8) (e5 : w' 11 = w 11) (e6 : w' 29 = w 29) (e7 : w' 12 = w 12) : re_O w' o := by
  unfold re_O at h ⊢
  rw [e1, e2, e3, e4, e5, e6, e7]
  exact h
theorem re_J_of {w w' : ex_WW} {n n' o o' j : Nat} (h : re_J w n o j) (hn : n ≤ n') (ho : o ≤ o') (e1 : w' 4 6 = w 4 6) (e2 : w' 23 10 = w 23 10) (e3 : w' 14 = w 14) (e4 : w' 31 = w 31) (e5 : w' 15 = w 15) (e6 : w' 30 = w 30) (e7 : w' 16 = w 16) (e8 : w' 33 = w 33) (e9 : w' 17 = w 17) (e10 : w' 32 = w 32) : re_J w' n' o' j := by
  unfold re_J at h ⊢
  rw [e1, e2, e3, e4, e5, e6, e7, e8, e9, e10]
  obtain ⟨h1, h2, h3, h4, h5, h6, h7, h8, h9, h10, h11, h12⟩ := h
  exact ⟨h1, h2, h3, h4, h5, h6, h7, fun i hi => isN_mono (h8 i hi) ho, fun i hi => isN_mono (h9 i hi) hn, h10, h11, h12⟩
theorem re_C_of {w w' : ex_WW} {n n' c : Nat} (h : re_C w n c) (hn : n ≤ n') (e1 : w' 5 3 = w 5 3) (e2 : w' 23 15 = w 23 15) (e3 : w' 18 = w 18) (e4 : w' 34 = w 34) (e5 : w' 19 = w 19) (e6 : w' 35 = w 35) : re_C w' n' c := by
  unfold re_C at h ⊢
  rw [e1, e2, e3, e4, e5, e6]
  obtain ⟨h1, h2, h3, h4, h5, h6⟩ := h
  exact ⟨h1, h2, h3, h4, h5, fun i hi => ⟨isN_mono (h6 i hi).1 hn, isN_mono (h6 i hi).2.1 hn, (h6 i hi).2.2⟩⟩
theorem re_F_of {w w' : ex_WW} {n n' : Nat} (h : re_F w n) (hn : n ≤ n') (e1 : w' 21 = w 21) (e2 : w' 36 = w 36) : re_F w' n' := by
  unfold re_F at h ⊢
  rw [e1, e2]
  obtain ⟨fe, h1, h2, h3, h4⟩ := h
  exact ⟨fe, h1, fun i j hij => ⟨by have := (h2 i j hij).1; omega, by have := (h2 i j hij).2.1; omega, (h2 i j hij).2.2⟩, h3, h4⟩
theorem upd_at (f : Nat → Int32) (k : Nat) (x : Int32) : upd f k x k = x := if_pos rfl
theorem upd_ne (f : Nat → Int32) {k j : Nat} (x : Int32) (h : j ≠ k) : upd f k x j = f j := if_neg h
section SPC
variable {d : Nat} {w : ex_WW} {P : Int32 → ex_WW → Prop} {n k : Nat} {a b c r : Int32}
theorem sp_paint (hk : k < 14) (h : P 0 (ex_up (ex_up (ex_up w 8 k a) 9 k b) 10 k c)) : ex_Ev d mX4_paint 0 (ex_in [.inr 1, .inl (nI k), .inl a, .inl b, .inl c] 5) [] w P := by
  have ik := vp_in_nI hk (N := 14) (by decide)
  refine sg_X4_paint_0 ⟨ik, ik, ik, ?_⟩
  rw [nI_clamp (by omega)]
  exact h
theorem sp_put (hk : k < 14) (h : P 0 (ex_up (ex_up (ex_up w 25 k a) 26 k b) 27 k c)) : ex_Ev d mX7_put 0 (ex_in [.inr 23, .inl (nI k), .inl a, .inl b, .inl c] 5) [] w P := by
  have ik := vp_in_nI hk (N := 14) (by decide)
  refine sg_X7_put_0 ⟨ik, ik, ik, ?_⟩
  rw [nI_clamp (by omega)]
  exact h
theorem sp_raise (hk : k < 14) (h : P 0 (ex_up w 7 k r)) : ex_Ev d mX4_raise 0 (ex_in [.inr 1, .inl (nI k), .inl r] 3) [] w P := by
  refine sg_X4_raise_0 ⟨vp_in_nI hk (by decide), ?_⟩
  rw [nI_clamp (by omega)]
  exact h
theorem sp_rankOf (hk : k < 14) (h : P (w 7 k) w) : ex_Ev d mX4_rankOf 0 (ex_in [.inr 1, .inl (nI k)] 2) [] w P := by
  refine sg_X4_rankOf_0 ⟨vp_in_nI hk (by decide), ?_⟩
  rw [nI_clamp (by omega)]
  exact h
theorem sp_fieldOf (hk : k < 14) (h : P (w 8 k) w) : ex_Ev d mX4_fieldOf 0 (ex_in [.inr 1, .inl (nI k)] 2) [] w P := by
  refine sg_X4_fieldOf_0 ⟨vp_in_nI hk (by decide), ?_⟩
  rw [nI_clamp (by omega)]
  exact h
theorem sp_chargeOf (hk : k < 14) (h : P (w 9 k) w) : ex_Ev d mX4_chargeOf 0 (ex_in [.inr 1, .inl (nI k)] 2) [] w P := by
  refine sg_X4_chargeOf_0 ⟨vp_in_nI hk (by decide), ?_⟩
  rw [nI_clamp (by omega)]
  exact h
theorem sp_tinctureOf (hk : k < 14) (h : P (w 10 k) w) : ex_Ev d mX4_tinctureOf 0 (ex_in [.inr 1, .inl (nI k)] 2) [] w P := by
  refine sg_X4_tinctureOf_0 ⟨vp_in_nI hk (by decide), ?_⟩
  rw [nI_clamp (by omega)]
  exact h
theorem sp_enter (hn : w 1 4 = nI n) (hk : n < 14) (h : P (nI n) (ex_up (ex_up (ex_up (ex_up (ex_up w 1 4 (nI (n + 1))) 7 n r) 8 n a) 9 n b) 10 n c)) : ex_Ev (d + 1) mX4_enter 0 (ex_in [.inr 1, .inl r, .inl a, .inl b, .inl c] 6) [] w P := by
  refine sg_X4_enter_0 ?_
  rw [hn, nI_1]
  exact sp_raise hk (sp_paint hk h)
end SPC
theorem pp_knight : pr_knight re_all := by
  intro w hw r a b c
  obtain ⟨n, f, o, j, ch, hK, hT, hO, hJ, hC, hF⟩ := id hw
  obtain ⟨k1, k2, k3, k4, k5, k6, k7, k8⟩ := id hK
  refine sg_X6_knight_0 (sp_mayBeRank (fun hr => t01 (sp_mayBeArms (fun ha => t10 (sg_X4_isFull_0 ⟨fun hful => f01 ?_, fun hful => t01 ?_⟩)) (fun ha => f10 ?_))) (fun hr => f01 ?_))
  · have hn : n < 14 := by
      rw [k2, lt_toInt, nI_toInt (by omega)] at hful
      have e : (14 : Int32).toInt = 14 := by decide
      omega
    refine sp_enter k2 hn ?_
    refine sg_X7_knight_0 (sp_in (fun _ => t01 (sp_areArms (fun _ => t10 ⟨fun _ => ?_, fun h14 => ?_⟩) (fun q => absurd ha q))) (fun q => absurd ((isN_le (n := 3) (by decide)).mp hr) q))
    · have e23 : (ex_up (ex_up (ex_up (ex_up (ex_up w 1 4 (nI (n + 1))) 7 n r) 8 n a) 9 n b) 10 n c) 23 0 = nI n := k3
      have e23' : (ex_up (ex_up (ex_up (ex_up (ex_up (ex_up w 1 4 (nI (n + 1))) 7 n r) 8 n a) 9 n b) 10 n c) 24 n r) 23 0 = nI n := k3
      rw [e23, nI_clamp (by omega), e23']
      refine ⟨vp_in_nI hn (by decide), sp_put hn ⟨?_, ?_⟩⟩
      · show nI n = (w 23 0 + 1) - 1
        rw [k3, nI_1, nI_pred]
      · refine ⟨n + 1, f, o, j, ch, ?_, re_T_of hT rfl rfl rfl rfl, re_O_of hO rfl rfl rfl rfl rfl rfl rfl, re_J_of hJ (by omega) (Nat.le_refl _) rfl rfl rfl rfl rfl rfl rfl rfl rfl rfl, re_C_of hC (by omega) rfl rfl rfl rfl rfl rfl, re_F_of hF (by omega) rfl rfl⟩
        refine ⟨by omega, rfl, ?_, ?_, ?_, ?_, ?_, ?_⟩
        · show w 23 0 + 1 = _
          rw [k3, nI_1]
        · show upd (w 7) n r = upd (w 24) n r
          rw [k4]
        · show upd (w 8) n a = upd (w 25) n a
          rw [k5]
        · show upd (w 9) n b = upd (w 26) n b
          rw [k6]
        · show upd (w 10) n c = upd (w 27) n c
          rw [k7]
        · intro i hi
          show isN 4 (upd (w 7) n r i)
          by_cases h : i = n
          · subst h; rw [upd_at]; exact hr
          · rw [upd_ne _ _ h]; exact k8 i (by omega)
    · exfalso
      have : (ex_up (ex_up (ex_up (ex_up (ex_up w 1 4 (nI (n + 1))) 7 n r) 8 n a) 9 n b) 10 n c) 23 0 = nI n := k3
      rw [this] at h14
      have := congrArg Int32.toInt h14
      rw [nI_toInt (by omega)] at this
      have e : (14 : Int32).toInt = 14 := by decide
      omega
  · have hn : n = 14 := by
      rw [k2, lt_toInt, nI_toInt (by omega)] at hful
      have e : (14 : Int32).toInt = 14 := by decide
      omega
    refine sg_X7_knight_0 (sp_in (fun _ => t01 (sp_areArms (fun _ => t10 ⟨fun h14 => ?_, fun h14 => ⟨rfl, hw⟩⟩) (fun q => absurd ha q))) (fun q => absurd ((isN_le (n := 3) (by decide)).mp hr) q))
    exact absurd (by rw [k3, hn]; rfl) h14
  · exact sg_X7_knight_0 (sp_in (fun _ => t01 (sp_areArms (fun q => absurd q ha) (fun _ => f10 ⟨rfl, hw⟩))) (fun q => absurd ((isN_le (n := 3) (by decide)).mp hr) q))
  · exact sg_X7_knight_0 (sp_in (fun q => absurd ((isN_le (n := 3) (by decide)).mpr q) hr) (fun _ => f01 ⟨rfl, hw⟩))
theorem pp_arms : pr_arms re_all := by
  intro w hw k a b c
  obtain ⟨n, f, o, j, ch, hK, hT, hO, hJ, hC, hF⟩ := id hw
  obtain ⟨k1, k2, k3, k4, k5, k6, k7, k8⟩ := id hK
  refine sg_X6_arms_0 (sp_has k2 k1 (fun hk => t01 (sp_mayBeArms (fun ha => t10 ?_) (fun ha => f10 ?_))) (fun hk => f01 ?_))
  · obtain ⟨i, hi, rfl⟩ := id hk
    refine sp_paint (by omega) ?_
    refine sg_X7_arms_0 (sp_isKnight (n := n) k3 k1 (fun _ => t01 (sp_areArms (fun _ => t10 (sp_put (by omega) ⟨rfl, ?_⟩)) (fun q => absurd ha q))) (fun q => absurd hk q))
    refine ⟨n, f, o, j, ch, ?_, re_T_of hT rfl rfl rfl rfl, re_O_of hO rfl rfl rfl rfl rfl rfl rfl, re_J_of hJ (Nat.le_refl _) (Nat.le_refl _) rfl rfl rfl rfl rfl rfl rfl rfl rfl rfl, re_C_of hC (Nat.le_refl _) rfl rfl rfl rfl rfl rfl, re_F_of hF (Nat.le_refl _) rfl rfl⟩
    refine ⟨k1, k2, k3, k4, ?_, ?_, ?_, k8⟩
    · show upd (w 8) i a = upd (w 25) i a
      rw [k5]
    · show upd (w 9) i b = upd (w 26) i b
      rw [k6]
    · show upd (w 10) i c = upd (w 27) i c
      rw [k7]
  · exact sg_X7_arms_0 (sp_isKnight (n := n) k3 k1 (fun _ => t01 (sp_areArms (fun q => absurd q ha) (fun _ => f10 ⟨rfl, hw⟩))) (fun q => absurd hk q))
  · exact sg_X7_arms_0 (sp_isKnight (n := n) k3 k1 (fun q => absurd q hk) (fun _ => f01 ⟨rfl, hw⟩))
theorem pp_rank : pr_rank re_all := by
  intro w hw k r
  obtain ⟨n, f, o, j, ch, hK, hT, hO, hJ, hC, hF⟩ := id hw
  obtain ⟨k1, k2, k3, k4, k5, k6, k7, k8⟩ := id hK
  refine sg_X6_rank_0 (sp_has k2 k1 (fun hk => t01 (sp_mayBeRank (fun ha => t10 ?_) (fun ha => f10 ?_))) (fun hk => f01 ?_))
  · obtain ⟨i, hi, rfl⟩ := id hk
    refine sp_rankOf (by omega) (sp_raise (by omega) ?_)
    have iv := vp_in_nI (show i < 14 by omega) (N := 14) (by decide)
    refine sg_X7_rank_0 (sp_isKnight (n := n) k3 k1 (fun _ => t01 (sp_in (fun _ => t10 ⟨iv, iv, ?_⟩) (fun q => absurd ((isN_le (n := 3) (by decide)).mp ha) q))) (fun q => absurd hk q))
    rw [nI_clamp (by omega)]
    refine ⟨?_, ?_⟩
    · show w 7 i = w 24 i
      rw [k4]
    · refine ⟨n, f, o, j, ch, ?_, re_T_of hT rfl rfl rfl rfl, re_O_of hO rfl rfl rfl rfl rfl rfl rfl, re_J_of hJ (Nat.le_refl _) (Nat.le_refl _) rfl rfl rfl rfl rfl rfl rfl rfl rfl rfl, re_C_of hC (Nat.le_refl _) rfl rfl rfl rfl rfl rfl, re_F_of hF (Nat.le_refl _) rfl rfl⟩
      refine ⟨k1, k2, k3, ?_, k5, k6, k7, ?_⟩
      · show upd (w 7) i r = upd (w 24) i r
        rw [k4]
      · intro q hq
        show isN 4 (upd (w 7) i r q)
        by_cases h : q = i
        · subst h; rw [upd_at]; exact ha
        · rw [upd_ne _ _ h]; exact k8 q hq
  · exact sg_X7_rank_0 (sp_isKnight (n := n) k3 k1 (fun _ => t01 (sp_in (fun q => absurd ((isN_le (n := 3) (by decide)).mpr q) ha) (fun _ => f10 ⟨rfl, hw⟩))) (fun q => absurd hk q))
  · exact sg_X7_rank_0 (sp_isKnight (n := n) k3 k1 (fun q => absurd q hk) (fun _ => f01 ⟨rfl, hw⟩))
theorem pp_near : pr_near re_all := by
  intro w hw
  obtain ⟨n, f, o, j, ch, hK, hT, hO, hJ, hC, hF⟩ := id hw
  obtain ⟨k1, k2, k3, k4, k5, k6, k7, k8⟩ := id hK
  refine sg_X6_near_0 (sp_countNear k2 k1 (sp_m_near k3 k1 ⟨?_, hw⟩))
  rw [k5, k6, k7, sr_pairs _ (fun i j => by unfold nb; rw [nearB_symm])]
theorem pp_of : pr_of re_all := by
  intro w hw k wh
  obtain ⟨n, f, o, j, ch, hK, hT, hO, hJ, hC, hF⟩ := id hw
  obtain ⟨k1, k2, k3, k4, k5, k6, k7, k8⟩ := id hK
  refine sg_X6_of_0 (sp_has k2 k1 (fun hk => t10 ?_) (fun hk => f10 ?_))
  · obtain ⟨i, hi, rfl⟩ := id hk
    have iv := vp_in_nI (show i < 14 by omega) (N := 14) (by decide)
    have go : ∀ {r : Int32}, ((wh = 0 → r = w 24 i) ∧ (wh = 1 → r = w 25 i) ∧ (wh = 2 → r = w 26 i) ∧ (wh = 3 → r = w 27 i) ∧ (wh = 4 → r = if canB (w 24) (w 25) (w 26) (w 27) n i then 1 else 0) ∧ (wh = 5 → r = leastY (w 24) (w 25) (w 26) (w 27) n i) ∧ (¬ wh = 0 → ¬ wh = 1 → ¬ wh = 2 → ¬ wh = 3 → ¬ wh = 4 → ¬ wh = 5 → r = -1)) → ex_Ev 60 mX7_of 0 (ex_in [.inr 23, .inl (nI i), .inl wh] 3) [] w (fun r2 u2 => r = r2 ∧ re_all u2) := by
      intro r hr
      refine sg_X7_of_0 (sp_isKnight (n := n) k3 k1 (fun _ => t10 ?_) (fun q => absurd hk q))
      rw [nI_clamp (by omega)]
      refine ⟨fun h => ⟨iv, hr.1 h, hw⟩, fun h => ⟨iv, hr.2.1 h, hw⟩, fun h => ⟨iv, hr.2.2.1 h, hw⟩, fun h => ⟨iv, hr.2.2.2.1 h, hw⟩, fun h => ?_, fun h => sp_m_yieldsTo k3 k1 hi ⟨hr.2.2.2.2.2.1 h, hw⟩, fun a0 a1 a2 a3 a4 a5 => ⟨hr.2.2.2.2.2.2 a0 a1 a2 a3 a4 a5, hw⟩⟩
      refine sp_m_yieldsTo k3 k1 hi ⟨fun hp => ⟨?_, hw⟩, fun hp => ⟨?_, hw⟩⟩
      · rw [leastY_pos k1] at hp; rw [hr.2.2.2.2.1 h, hp]; rfl
      · rw [leastY_pos k1, Bool.not_eq_false] at hp; rw [hr.2.2.2.2.1 h, hp]; rfl
    refine ⟨fun h => ?_, fun h => ?_, fun h => ?_, fun h => ?_, fun h => ?_, fun h => ?_, fun a0 a1 a2 a3 a4 a5 => ?_⟩
    · subst h; exact sp_rankOf (by omega) (go ⟨fun _ => by rw [k4], fun q => absurd q (by decide), fun q => absurd q (by decide), fun q => absurd q (by decide), fun q => absurd q (by decide), fun q => absurd q (by decide), fun q => absurd rfl q⟩)
    · subst h; exact sp_fieldOf (by omega) (go ⟨fun q => absurd q (by decide), fun _ => by rw [k5], fun q => absurd q (by decide), fun q => absurd q (by decide), fun q => absurd q (by decide), fun q => absurd q (by decide), fun _ q => absurd rfl q⟩)
    · subst h; exact sp_chargeOf (by omega) (go ⟨fun q => absurd q (by decide), fun q => absurd q (by decide), fun _ => by rw [k6], fun q => absurd q (by decide), fun q => absurd q (by decide), fun q => absurd q (by decide), fun _ _ q => absurd rfl q⟩)
    · subst h; exact sp_tinctureOf (by omega) (go ⟨fun q => absurd q (by decide), fun q => absurd q (by decide), fun q => absurd q (by decide), fun _ => by rw [k7], fun q => absurd q (by decide), fun q => absurd q (by decide), fun _ _ _ q => absurd rfl q⟩)
    · subst h
      refine sp_canRide k2 k1 hi (fun hc => t01 (go ⟨fun q => absurd q (by decide), fun q => absurd q (by decide), fun q => absurd q (by decide), fun q => absurd q (by decide), fun _ => ?_, fun q => absurd q (by decide), fun _ _ _ _ q => absurd rfl q⟩)) (fun hc => f01 (go ⟨fun q => absurd q (by decide), fun q => absurd q (by decide), fun q => absurd q (by decide), fun q => absurd q (by decide), fun _ => ?_, fun q => absurd q (by decide), fun _ _ _ _ q => absurd rfl q⟩))
      · rw [k4, k5, k6, k7] at hc; rw [hc]; rfl
      · rw [k4, k5, k6, k7] at hc; rw [hc]; rfl
    · subst h; exact sp_leastYieldedTo k2 k1 hi (go ⟨fun q => absurd q (by decide), fun q => absurd q (by decide), fun q => absurd q (by decide), fun q => absurd q (by decide), fun q => absurd q (by decide), fun _ => by rw [k4, k5, k6, k7], fun _ _ _ _ _ q => absurd rfl q⟩)
    · exact go ⟨fun q => absurd q a0, fun q => absurd q a1, fun q => absurd q a2, fun q => absurd q a3, fun q => absurd q a4, fun q => absurd q a5, fun _ _ _ _ _ _ => rfl⟩
  · exact sg_X7_of_0 (sp_isKnight (n := n) k3 k1 (fun q => absurd q hk) (fun _ => f10 ⟨rfl, hw⟩))
