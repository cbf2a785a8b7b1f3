section SPO
variable {d : Nat} {w : ex_WW} {P : Int32 → ex_WW → Prop} {n c t M : Nat} {p : Nat → Nat}
theorem sp_isTurn (hc : c < 7) (ht : t ≤ 100) (hp : ∀ i, i < c → w 39 i = nI (p i) ∧ p i ≤ 100) (htc : w 39 c = nI t) (hy : okP (shB (w 34) (w 35)) c p t = true → P 1 w) (hn : okP (shB (w 34) (w 35)) c p t = false → P 0 w) : ex_Ev d mX7_isTurn 0 (ex_in [.inr 23, .inl (nI c)] 6) [] w P := by
  have e2 : (2 : Int32).toInt = 2 := by decide
  have em : (-2 : Int32).toInt = -2 := by decide
  refine sg_X7_isTurn_0 ?_
  have loop : ∀ m i, i + m = c → (∀ k, k < i → shB (w 34) (w 35) k c = true → apB (p k) t = true) → ex_Ev d mX7_isTurn 2 [some (.inr 23), some (.inl (nI c)), some (.inl (nI i)), none, none, none] [] w P := by
    intro m
    induction m with
    | zero =>
      intro i hi h
      refine sg_X7_isTurn_2 (pT (nI_le (by omega) (by omega)) (hy ?_))
      rw [okP_iff]
      exact fun k hk => h k (by omega)
    | succ m ih =>
      intro i hi h
      obtain ⟨ep, bp⟩ := hp i (by omega)
      have ex : (nI (p i) - nI t).toInt = (p i : Int) - t := pk_sub_toInt (by omega) (by omega)
      have iv := vp_in_nI (show i < 7 by omega) (N := 7) (by decide)
      have cv := vp_in_nI hc (N := 7) (by decide)
      have next : (shB (w 34) (w 35) i c = true → apB (p i) t = true) → ex_Ev d mX7_isTurn 2 [some (.inr 23), some (.inl (nI c)), some (.inl (nI i + 1)), none, none, none] [] w P := fun z => by
        rw [nI_1]
        refine ih (i + 1) (by omega) (fun k hk hs => ?_)
        by_cases e : k = i
        · subst e; exact z hs
        · exact h k (by omega) hs
      have last : ∀ x3 x4 : Int32, (x4 = 0 ∧ shB (w 34) (w 35) i c = false) ∨ (¬ x4 = 0 ∧ shB (w 34) (w 35) i c = true) → ex_Ev d mX7_isTurn 84 [some (.inr 23), some (.inl (nI c)), some (.inl (nI i)), some (.inl x3), some (.inl x4), none] [] w P := by
        intro x3 x4 hx
        refine sg_X7_isTurn_84 ⟨vp_in_nI (by omega) (by decide), vp_in_nI (by omega) (by decide), ?_⟩
        rw [nI_clamp (by omega), nI_clamp (by omega), ep, htc, le_toInt, le_toInt, ex, e2, em]
        rcases hx with ⟨h0, hs⟩ | ⟨h0, hs⟩
        · exact pT h0 (next (fun z => by rw [hs] at z; cases z))
        · refine pF h0 ⟨fun q => next (fun _ => ap_iff.mpr (Or.inl q)), fun q => ⟨fun q2 => next (fun _ => ap_iff.mpr (Or.inr q2)), fun q2 => hn ?_⟩⟩
          cases hk : okP (shB (w 34) (w 35)) c p t with
          | false => rfl
          | true =>
            exfalso
            rw [okP_iff] at hk
            rcases ap_iff.mp (hk i (by omega) hs) with z | z
            · exact q z
            · exact q2 z
      have mid1 : (w 34 i = w 34 c ∨ w 34 i = w 35 c) → ex_Ev d mX7_isTurn 43 [some (.inr 23), some (.inl (nI c)), some (.inl (nI i)), some (.inl 1), none, none] [] w P := fun q => by
        refine sg_X7_isTurn_43 (t10 (last 1 1 (Or.inr ⟨by decide, ?_⟩)))
        unfold shB
        rcases q with q | q <;> simp [q]
      refine sg_X7_isTurn_2 (pF (nI_ge (by omega) (by omega)) ?_)
      rw [nI_clamp (by omega), nI_clamp (by omega)]
      refine ⟨iv, cv, fun q => mid1 (Or.inl q), fun q => ⟨iv, cv, fun q2 => sg_X7_isTurn_43 (f10 ⟨iv, cv, ?_⟩), fun q2 => mid1 (Or.inr q2)⟩⟩
      rw [nI_clamp (by omega), nI_clamp (by omega)]
      refine ⟨fun q3 => last 0 1 (Or.inr ⟨by decide, ?_⟩), fun q3 => ⟨iv, cv, fun q4 => last 0 0 (Or.inl ⟨rfl, ?_⟩), fun q4 => last 0 1 (Or.inr ⟨by decide, ?_⟩)⟩⟩
      · unfold shB; simp [q3]
      · unfold shB; simp [q, q2, q3, q4]
      · unfold shB; simp [q4]
  exact loop c 0 (by omega) (fun k hk => absurd hk (by omega))
theorem sp_findPlan (h15 : w 23 15 = nI n) (hn7 : n ≤ 7) (hM : M ≤ 50) (ht : ∀ q X, E1 (shB (w 34) (w 35)) n M = some q → (∀ i, i < n → X i = nI (q i)) → P 1 (ex_upf w 39 X)) (hf : ∀ X, E1 (shB (w 34) (w 35)) n M = none → P 0 (ex_upf w 39 X)) : ex_Ev (d + 1) mX7_findPlan 0 (ex_in [.inr 23, .inl (nI M)] 3) [] w P := by
  have nine : ∀ c Y, c < n → ex_Ev (d + 1) mX7_findPlan 21 [some (.inr 23), some (.inl (nI M)), some (.inl (nI c))] [] (ex_upf w 39 Y) P → ex_Ev (d + 1) mX7_findPlan 9 [some (.inr 23), some (.inl (nI M)), some (.inl (nI c))] [] (ex_upf w 39 Y) P := fun c Y hc h =>
    sg_X7_findPlan_9 (pF (nI_pos (by omega)) (pF (by rw [show (ex_upf w 39 Y) 23 15 = nI n from h15]; exact nI_ge (by omega) (by omega)) h))
  have main : ∀ (m c : Nat) (p : Nat → Nat) (Y : Nat → Int32), c + m = n → (∀ i, i < c → Y i = nI (p i) ∧ p i ≤ 100) → (0 < m → Y c = nI 0) →
      (∀ q X, ext (okP (shB (w 34) (w 35))) 1 (M + 1) m c p = some q → (∀ i, i < n → X i = nI (q i)) → P 1 (ex_upf w 39 X)) →
      (∀ X : Nat → Int32, ext (okP (shB (w 34) (w 35))) 1 (M + 1) m c p = none → (∀ i, i < c → X i = nI (p i)) → (c = 0 → P 0 (ex_upf w 39 X)) ∧ (0 < c → ex_Ev (d + 1) mX7_findPlan 9 [some (.inr 23), some (.inl (nI M)), some (.inl (nI (c - 1)))] [] (ex_upf w 39 (upd X (c - 1) (nI (p (c - 1) + 1)))) P)) →
      ex_Ev (d + 1) mX7_findPlan 9 [some (.inr 23), some (.inl (nI M)), some (.inl (nI c))] [] (ex_upf w 39 Y) P := by
    intro m
    induction m with
    | zero =>
      intro c p Y hc hY _ hS _
      refine sg_X7_findPlan_9 (pF (nI_pos (by omega)) (pT (by rw [show (ex_upf w 39 Y) 23 15 = nI n from h15]; exact nI_le (by omega) (by omega)) ?_))
      exact sg_X7_findPlan_95 (pF (nI_pos (by omega)) (hS p Y rfl (fun i hi => (hY i (by omega)).1)))
    | succ m ih =>
      intro c p Y hc hY hY0 hS hF
      have inner : ∀ r t (Z : Nat → Int32), t + r = M + 1 → (∀ i, i < c → Z i = nI (p i)) → Z c = nI t → lvl (ext (okP (shB (w 34) (w 35))) 1 (M + 1) m (c + 1)) (okP (shB (w 34) (w 35)) c p) c 1 p r t = ext (okP (shB (w 34) (w 35))) 1 (M + 1) (m + 1) c p → ex_Ev (d + 1) mX7_findPlan 21 [some (.inr 23), some (.inl (nI M)), some (.inl (nI c))] [] (ex_upf w 39 Z) P := by
        intro r
        induction r with
        | zero =>
          intro t Z htr hZ hZc he
          have he' : ext (okP (shB (w 34) (w 35))) 1 (M + 1) (m + 1) c p = none := he.symm
          have z39 : (ex_upf w 39 Z) 39 c = nI t := hZc
          refine sg_X7_findPlan_21 ⟨vp_in_nI (by omega) (by decide), ?_⟩
          rw [nI_clamp (by omega), z39]
          refine pT (nI_lt (by omega) (by omega)) (sg_X7_findPlan_52 ⟨vp_in_nI (by omega) (by decide), ?_⟩)
          rw [nI_clamp (by omega), z39]
          refine pT (nI_lt (by omega) (by omega)) ?_
          have back := hF Z he' hZ
          by_cases h0 : c = 0
          · subst h0
            refine pT (by decide) (sg_X7_findPlan_9 (pT (by decide) (sg_X7_findPlan_95 (pT (by decide) (back.1 rfl)))))
          · have e1 : nI c + (-1) = nI (c - 1) := by
              have := pk_m1 (c - 1)
              rw [show c - 1 + 1 = c by omega] at this
              exact this
            rw [e1, nI_clamp (by omega)]
            refine pF (nI_pos (by omega)) ⟨vp_in_nI (by omega) (by decide), vp_in_nI (by omega) (by decide), ?_⟩
            rw [xf_at, xf_up, hZ (c - 1) (by omega), nI_1]
            exact back.2 (by omega)
        | succ r ihr =>
          intro t Z htr hZ hZc he
          have z39 : (ex_upf w 39 Z) 39 c = nI t := hZc
          rw [lvl] at he
          refine sg_X7_findPlan_21 ⟨vp_in_nI (by omega) (by decide), ?_⟩
          rw [nI_clamp (by omega), z39]
          refine pF (nI_nlt (by omega) (by omega)) (sp_isTurn (w := ex_upf w 39 Z) (p := p) (t := t) (by omega) (by omega) (fun i hi => ⟨hZ i hi, (hY i hi).2⟩) hZc (fun hok => t10 ?_) (fun hok => f10 ?_))
          · have hok' : okP (shB (w 34) (w 35)) c p t = true := hok
            rw [if_pos hok'] at he
            refine sg_X7_findPlan_52 ⟨vp_in_nI (by omega) (by decide), ?_⟩
            rw [nI_clamp (by omega), z39]
            refine pF (nI_nlt (by omega) (by omega)) ?_
            rw [nI_1, nI_clamp (by omega), xf_up]
            refine ⟨vp_in_nI (by omega) (by decide), ?_⟩
            refine ih (c + 1) (pset p c t) (upd Z (c + 1) 0) (by omega) (fun i hi => ?_) (fun _ => upd_at _ _ _) (fun q X e hX => ?_) (fun X e hX => ⟨fun z => absurd z (by omega), fun _ => ?_⟩)
            · rw [upd_ne _ _ (by omega)]
              by_cases e : i = c
              · subst e; rw [pset_at]; exact ⟨hZc, by omega⟩
              · rw [pset_ne _ _ e]; exact ⟨hZ i (by omega), (hY i (by omega)).2⟩
            · rw [e] at he
              exact hS q X he.symm hX
            · rw [e] at he
              rw [show c + 1 - 1 = c by omega, pset_at]
              refine nine c _ (by omega) (ihr (t + 1) _ (by omega) (fun i hi => ?_) (upd_at _ _ _) he)
              rw [upd_ne _ _ (by omega), hX i (by omega), pset_ne _ _ (by omega)]
          · have hok' : okP (shB (w 34) (w 35)) c p t = false := hok
            rw [hok'] at he
            rw [z39, xf_up, nI_1]
            refine ⟨vp_in_nI (by omega) (by decide), vp_in_nI (by omega) (by decide), ihr (t + 1) _ (by omega) (fun i hi => ?_) (upd_at _ _ _) he⟩
            rw [upd_ne _ _ (by omega)]
            exact hZ i hi
      exact nine c Y (by omega) (inner (M + 1) 0 Y (by omega) (fun i hi => (hY i hi).1) (hY0 (by omega)) rfl)
  refine sg_X7_findPlan_0 ⟨vp_in_nI (n := 0) (by decide) (by decide), ?_⟩
  rw [show (0 : Int32).toNatClampNeg = 0 from by decide, ex_up_eq]
  exact main n 0 (fun _ => 0) (upd (w 39) 0 0) (by omega) (fun i hi => absurd hi (by omega)) (fun _ => upd_at _ _ _) (fun q X e hX => ht q X e hX) (fun X e _ => ⟨fun _ => hf X e, fun z => absurd z (by omega)⟩)
theorem sp_makePlan (h15 : w 23 15 = nI n) (hn7 : n ≤ 7) (h : ∀ M q X, E1 (shB (w 34) (w 35)) n M = some q → (∀ j, j < M → E1 (shB (w 34) (w 35)) n j = none) → (∀ i, i < n → X i = nI (q i)) → P (nI M) (ex_upf w 39 X)) : ex_Ev (d + 2) mX7_makePlan 0 (ex_in [.inr 23] 2) [] w P := by
  obtain ⟨q6, e6⟩ := E2_ever (sh := shB (w 34) (w 35)) hn7
  obtain ⟨q12, e12⟩ := E2_some e6
  refine sg_X7_makePlan_0 ?_
  have loop : ∀ m M (Y : Nat → Int32), M + m = 13 → (∀ j, j < M → E1 (shB (w 34) (w 35)) n j = none) → ex_Ev (d + 2) mX7_makePlan 2 [some (.inr 23), some (.inl (nI M))] [] (ex_upf w 39 Y) P := by
    intro m
    induction m with
    | zero =>
      intro M Y hM hj
      exfalso
      have := hj 12 (by omega)
      rw [show (12 : Nat) = 2 * 6 from rfl, e12] at this
      cases this
    | succ m ih =>
      intro M Y hM hj
      refine sg_X7_makePlan_2 (sp_findPlan (n := n) (M := M) h15 hn7 (by omega) (fun q X e hX => t10 ?_) (fun X e => f10 ?_))
      · rw [xf_two]
        exact h M q X e hj hX
      · rw [xf_two, nI_1]
        refine ih (M + 1) X (by omega) (fun j hj' => ?_)
        by_cases z : j = M
        · subst z; exact e
        · exact hj j (by omega)
  have := loop 13 0 (w 39) (by omega) (fun j hj => absurd hj (by omega))
  rw [xf_id] at this
  exact this
end SPO
/-- the two least bounds, the two plans -/
theorem plans_same {sh : Nat → Nat → Bool} {n k M : Nat} {q q1 : Nat → Nat} (e2 : E2 sh n k = some q) (l2 : ∀ j, j < k → E2 sh n j = none) (e1 : E1 sh n M = some q1) (l1 : ∀ j, j < M → E1 sh n j = none) : M = 2 * k ∧ ∀ i, i < n → q i = q1 i := by
  obtain ⟨qa, ea⟩ := E2_some e2
  have h1 : M ≤ 2 * k := by
    rcases Nat.lt_or_ge (2 * k) M with z | z
    · have := l1 _ z; rw [ea] at this; cases this
    · exact z
  have h2 : M % 2 = 0 := by
    rcases (show M % 2 = 0 ∨ M % 2 = 1 by omega) with z | z
    · exact z
    · exfalso
      have e : M = 2 * (M / 2) + 1 := by omega
      rw [e] at e1
      obtain ⟨qb, eb⟩ := E1_even e1
      have := l1 (2 * (M / 2)) (by omega)
      rw [eb] at this
      cases this
  have e : M = 2 * (M / 2) := by omega
  rw [e] at e1
  obtain ⟨qc, ec, hc⟩ := E_same e1
  have h3 : k ≤ M / 2 := by
    rcases Nat.lt_or_ge (M / 2) k with z | z
    · have := l2 _ z; rw [ec] at this; cases this
    · exact z
  have hk : M / 2 = k := by omega
  rw [hk, e2] at ec
  cases ec
  exact ⟨by omega, hc⟩
theorem re_plan {w : ex_WW} {X Y : Nat → Int32} (hw : re_all w) : re_all (ex_upf (ex_upf w 20 X) 39 Y) := by
  obtain ⟨n, f, o, j, ch, hK, hT, hO, hJ, hC, hF⟩ := hw
  exact ⟨n, f, o, j, ch, re_K_of hK rfl rfl rfl rfl rfl rfl rfl rfl rfl rfl, re_T_of hT rfl rfl rfl rfl, re_O_of hO rfl rfl rfl rfl rfl rfl rfl, re_J_of hJ (Nat.le_refl _) (Nat.le_refl _) rfl rfl rfl rfl rfl rfl rfl rfl rfl rfl, re_C_of hC (Nat.le_refl _) rfl rfl rfl rfl rfl rfl, re_F_of hF (Nat.le_refl _) rfl rfl⟩
theorem re_plan0 {w : ex_WW} {X : Nat → Int32} (hw : re_all w) : re_all (ex_upf w 20 X) := by
  obtain ⟨n, f, o, j, ch, hK, hT, hO, hJ, hC, hF⟩ := hw
  exact ⟨n, f, o, j, ch, re_K_of hK rfl rfl rfl rfl rfl rfl rfl rfl rfl rfl, re_T_of hT rfl rfl rfl rfl, re_O_of hO rfl rfl rfl rfl rfl rfl rfl, re_J_of hJ (Nat.le_refl _) (Nat.le_refl _) rfl rfl rfl rfl rfl rfl rfl rfl rfl rfl, re_C_of hC (Nat.le_refl _) rfl rfl rfl rfl rfl rfl, re_F_of hF (Nat.le_refl _) rfl rfl⟩
theorem pp_turn : pr_turn re_all := by
  intro w hw v
  obtain ⟨n, f, o, j, c, hK, hT, hO, hJ, hC, hF⟩ := id hw
  obtain ⟨c1, c2, c3, c4, c5, c6⟩ := id hC
  refine sg_X6_turn_0 (sg_X1_size_0 ?_)
  rw [c2]
  refine sp_isWithin (fun hv => t10 ?_) (fun hv => f10 ?_)
  · obtain ⟨x, hx, rfl⟩ := (isN_dec (n := c) (by omega)).mpr hv
    have pl := sp_plan (d := 55 - c) (w := w) (n := c) (P := fun _ u6 => ex_Ev 59 mX1_plannedTurn 0 (ex_in [.inr 5, .inl (nI x)] 2) [] u6 (fun r7 u8 => ex_Ev 60 mX7_turn 0 (ex_in [.inr 23, .inl (nI x)] 3) [] u8 (fun r2 u2 => r7 = r2 ∧ re_all u2))) c2 c1 (fun k q X hk e2 l2 hX => ?_)
    · rw [show 55 - c + c + 4 = 59 by omega] at pl
      exact pl
    · refine sg_X1_plannedTurn_0 ⟨vp_in_nI (by omega) (by decide), ?_⟩
      rw [nI_clamp (by omega), xf_at, hX x hx]
      refine sg_X7_turn_0 (sp_in_o (o := c) c3 (by omega) (fun _ => t10 ?_) (fun z => absurd ⟨x, hx, rfl⟩ z))
      refine sp_makePlan (w := ex_upf w 20 X) (n := c) c3 c1 (fun M q1 Y e1 l1 hY => ⟨vp_in_nI (by omega) (by decide), ?_⟩)
      rw [nI_clamp (by omega), xf_at, hY x hx]
      have e1' : E1 (shB (w 18) (w 19)) c M = some q1 := by rw [c4, c5]; exact e1
      have l1' : ∀ j, j < M → E1 (shB (w 18) (w 19)) c j = none := by rw [c4, c5]; exact l1
      refine ⟨?_, re_plan hw⟩
      rw [(plans_same e2 l2 e1' l1').2 x hx]
  · refine sg_X7_turn_0 (sp_in_o (o := c) c3 (by omega) (fun z => ?_) (fun _ => f10 ⟨rfl, hw⟩))
    exact absurd ((isN_dec (n := c) (by omega)).mp z) hv
theorem pp_turns : pr_turns re_all := by
  intro w hw
  obtain ⟨n, f, o, j, c, hK, hT, hO, hJ, hC, hF⟩ := id hw
  obtain ⟨c1, c2, c3, c4, c5, c6⟩ := id hC
  refine sg_X6_turns_0 ?_
  have pl := sp_plan (d := 55 - c) (w := w) (n := c) (P := fun _ u2 => ex_Ev 59 mX1_plannedLength 0 (ex_in [.inr 5] 3) [] u2 (fun r3 u4 => ex_Ev 60 mX7_turns 0 (ex_in [.inr 23] 1) [] u4 (fun r2 u2 => r3 = r2 ∧ re_all u2))) c2 c1 (fun k q X hk e2 l2 hX => ?_)
  · rw [show 55 - c + c + 4 = 59 by omega] at pl
    exact pl
  · have s2 := ext_sound (okP_loc _) c 0 _ q e2
    refine sp_plannedLength (w := ex_upf w 20 X) (n := c) (q := q) c2 c1 (fun i hi => ⟨hX i hi, ?_⟩) ?_
    · obtain ⟨-, v, hv, ev⟩ := s2.2 i (by omega) (by omega)
      omega
    · rcases Nat.eq_zero_or_pos c with h0 | h0
      · subst h0
        exact sg_X7_turns_0 (qT c3 ⟨rfl, re_plan0 hw⟩)
      · refine sg_X7_turns_0 (qF (fun z => ?_) (sp_makePlan (w := ex_upf w 20 X) (n := c) c3 c1 (fun M q1 Y e1 l1 hY => ⟨?_, re_plan hw⟩)))
        · have : nI c = 0 := c3.symm.trans z
          have := (nI_eq (by omega) (b := 0) (by decide)).mp this
          omega
        · have e1' : E1 (shB (w 18) (w 19)) c M = some q1 := by rw [c4, c5]; exact e1
          have l1' : ∀ j, j < M → E1 (shB (w 18) (w 19)) c j = none := by rw [c4, c5]; exact l1
          rw [mxF_plan h0 e2 l2, (plans_same e2 l2 e1' l1').1, nI_1]
