section SPJ
variable {d : Nat} {w : ex_WW} {P : Int32 → ex_WW → Prop} {j s c : Nat} {a b k v : Int32}
theorem m26 (x y : Nat) : nI x * 2 + nI y = nI (x * 2 + y) := by rw [show nI x * (2 : Int32) = nI (x * 2) from pk_mul x 2, nI_add]
theorem m66 (x y : Nat) : nI x * 6 + nI y = nI (x * 6 + y) := by rw [show nI x * (6 : Int32) = nI (x * 6) from pk_mul x 6, nI_add]
theorem m62 (x y : Nat) : (6 : Int32) * (2 * nI x + nI y) = nI (6 * (2 * x + y)) := by rw [show (2 : Int32) * nI x = nI (2 * x) from pk_mul 2 x, nI_add]; exact pk_mul 6 _
theorem sp_j_has (hn : w 4 6 = nI j) (hb : j ≤ 30) (ht : isN j a ∧ isN 2 b → P 1 w) (hf : ¬ (isN j a ∧ isN 2 b) → P 0 w) : ex_Ev d mX2_has 0 (ex_in [.inr 4, .inl a, .inl b] 3) [] w P := by
  refine sg_X2_has_0 ⟨fun h => hf ?_, fun h => ⟨fun h2 => hf ?_, fun h2 => ⟨fun h3 => hf ?_, fun h3 => ⟨fun h4 => hf ?_, fun h4 => ht ?_⟩⟩⟩⟩
  · rw [isN_iff (n := j) (by omega)]; exact fun q => q.1.1 h
  · rw [isN_iff (n := j) (by omega), ← hn]; exact fun q => q.1.2 h2
  · rw [isN_iff (n := 2) (by omega)]; exact fun q => q.2.1 h3
  · rw [isN_iff (n := 2) (by omega)]; exact fun q => q.2.2 h4
  · rw [isN_iff (n := j) (by omega), isN_iff (n := 2) (by omega), ← hn]; exact ⟨⟨h, h2⟩, h3, h4⟩
theorem sp_isJoust (hn : w 23 10 = nI j) (hb : j ≤ 30) (ht : isN j k → P 1 w) (hf : ¬ isN j k → P 0 w) : ex_Ev (d + 1) mX7_isJoust 0 (ex_in [.inr 23, .inl k] 2) [] w P :=
  sg_X7_isJoust_0 (sp_in_o (o := j) hn (by omega) (fun h => ⟨Or.inr rfl, ht h⟩) (fun h => ⟨Or.inl rfl, hf h⟩))
theorem sp_isSide (ht : isN 2 k → P 1 w) (hf : ¬ isN 2 k → P 0 w) : ex_Ev (d + 1) mX7_isSide 0 (ex_in [.inl k] 1) [] w P :=
  sg_X7_isSide_0 (sp_in (fun h => ⟨Or.inr rfl, ht ((isN_le (n := 1) (by decide)).mpr h)⟩) (fun h => ⟨Or.inl rfl, hf (fun q => h ((isN_le (n := 1) (by decide)).mp q))⟩))
theorem sp_sheetOf {x y : Nat} (h : P (nI (x * 2 + y)) w) : ex_Ev d mX2_sheetOf 0 (ex_in [.inl (nI x), .inl (nI y)] 2) [] w P := by
  refine sg_X2_sheetOf_0 ?_
  rw [m26]
  exact h
theorem sp_sheetAt {x y : Nat} (h : P (nI (6 * (2 * x + y))) w) : ex_Ev d mX7_sheetAt 0 (ex_in [.inl (nI x), .inl (nI y)] 2) [] w P := by
  refine sg_X7_sheetAt_0 ?_
  rw [m62]
  exact h
theorem sp_strokeIn (hs : s < 60) (hc : c < 6) (h : P (w 17 (s * 6 + c)) w) : ex_Ev d mX2_strokeIn 0 (ex_in [.inr 4, .inl (nI s), .inl (nI c)] 3) [] w P := by
  refine sg_X2_strokeIn_0 ?_
  rw [m66, nI_clamp (by omega)]
  exact ⟨vp_in_nI (by omega) (by decide), h⟩
theorem sp_tell (hs : s < 60) (hc : c < 6) (h : P (w 17 (s * 6 + c)) (ex_up w 17 (s * 6 + c) v)) : ex_Ev (d + 1) mX2_tell 0 (ex_in [.inr 4, .inl (nI s), .inl (nI c), .inl v] 5) [] w P := by
  refine sg_X2_tell_0 (sp_strokeIn hs hc ?_)
  rw [m66, nI_clamp (by omega)]
  exact ⟨vp_in_nI (by omega) (by decide), h⟩
def fillS (g : Nat → Int32) (lo : Nat) : Nat → Nat → Int32
  | 0 => g
  | i + 1 => upd (fillS g lo i) (lo + i) 6
theorem fillS_val (g : Nat → Int32) (lo k : Nat) : ∀ m, fillS g lo m k = if lo ≤ k ∧ k < lo + m then 6 else g k := by
  intro m
  induction m with
  | zero => rw [fillS, if_neg (by omega)]
  | succ m ih =>
    rw [fillS]
    by_cases h : k = lo + m
    · subst h; rw [upd_at, if_pos (by omega)]
    · rw [upd_ne _ _ h, ih]
      by_cases h2 : lo ≤ k ∧ k < lo + m
      · rw [if_pos h2, if_pos (by omega)]
      · rw [if_neg h2, if_neg (by omega)]
theorem fillS_app (g : Nat → Int32) (lo a b : Nat) : fillS (fillS g lo a) (lo + a) b = fillS g lo (a + b) := by
  funext k
  rw [fillS_val, fillS_val, fillS_val]
  by_cases h : lo + a ≤ k ∧ k < lo + a + b
  · rw [if_pos h, if_pos (by omega)]
  · rw [if_neg h]
    by_cases h2 : lo ≤ k ∧ k < lo + a
    · rw [if_pos h2, if_pos (by omega)]
    · rw [if_neg h2, if_neg (by omega)]
theorem sp_openSheet (hs : s < 60) (h : P 0 (ex_upf (ex_up w 15 s k) 17 (fillS (w 17) (s * 6) 6))) : ex_Ev (d + 2) mX2_openSheet 0 (ex_in [.inr 4, .inl (nI s), .inl k] 4) [] w P := by
  refine sg_X2_openSheet_0 ⟨vp_in_nI hs (by decide), ?_⟩
  rw [nI_clamp (by omega)]
  have loop : ∀ m i, i + m = 6 → ex_Ev (d + 2) mX2_openSheet 9 [some (.inr 4), some (.inl (nI s)), some (.inl k), some (.inl (nI i))] [] (ex_upf (ex_up w 15 s k) 17 (fillS (w 17) (s * 6) i)) P := by
    intro m
    induction m with
    | zero =>
      intro i hi
      refine sg_X2_openSheet_9 (pT (by rw [show i = 6 by omega]; decide) ?_)
      rw [show i = 6 by omega]
      exact h
    | succ m ih =>
      intro i hi
      refine sg_X2_openSheet_9 (pF (fun q => nI_ge (a := i) (b := 6) (by omega) (by decide) q) (sp_tell hs (by omega) ?_))
      rw [xf_up, nI_1]
      exact ih (i + 1) (by omega)
  have := loop 6 0 rfl
  rw [show fillS (w 17) (s * 6) 0 = (ex_up w 15 s k) 17 from rfl, xf_id] at this
  exact this
theorem sp_begin (hj : w 4 6 = nI j) (hb : j < 30) (h : P (nI j) (ex_upf (ex_up (ex_up (ex_up (ex_up w 4 6 (nI (j + 1))) 14 j v) 15 (j * 2) a) 15 (j * 2 + 1) b) 17 (fillS (w 17) (12 * j) 12))) : ex_Ev (d + 3) mX2_begin 0 (ex_in [.inr 4, .inl a, .inl b, .inl v] 5) [] w P := by
  refine sg_X2_begin_0 ?_
  rw [hj, nI_clamp (by omega), nI_1]
  refine ⟨vp_in_nI hb (by decide), sp_sheetOf (x := j) (y := 0) (sp_openSheet (by omega) (sp_sheetOf (x := j) (y := 1) (sp_openSheet (by omega) ?_)))⟩
  have e : ex_upf (ex_up (ex_upf (ex_up (ex_up (ex_up w 4 6 (nI (j + 1))) 14 j v) 15 (j * 2 + 0) a) 17 (fillS ((ex_up (ex_up w 4 6 (nI (j + 1))) 14 j v) 17) ((j * 2 + 0) * 6) 6)) 15 (j * 2 + 1) b) 17 (fillS ((ex_upf (ex_up (ex_up (ex_up w 4 6 (nI (j + 1))) 14 j v) 15 (j * 2 + 0) a) 17 (fillS ((ex_up (ex_up w 4 6 (nI (j + 1))) 14 j v) 17) ((j * 2 + 0) * 6) 6)) 17) ((j * 2 + 1) * 6) 6) = ex_upf (ex_up (ex_up (ex_up (ex_up w 4 6 (nI (j + 1))) 14 j v) 15 (j * 2) a) 15 (j * 2 + 1) b) 17 (fillS (w 17) (12 * j) 12) := by
    rw [xf_up_ne _ (by decide), xf_two, xf_at]
    rw [show (ex_up (ex_up w 4 6 (nI (j + 1))) 14 j v) 17 = w 17 from rfl, show (j * 2 + 0) * 6 = 12 * j by omega, show (j * 2 + 1) * 6 = 12 * j + 6 by omega, fillS_app]
    rfl
  rw [e]
  exact h
end SPJ
theorem nI_lt_lit {a : Nat} (ha : a < 2 ^ 31) (b : Nat) (hb : b < 2 ^ 31) : nI a < nI b ↔ a < b := nI_ltI ha hb
theorem neg2_not {k : Nat} (hk : k < 2 ^ 31) : ¬ nI k = -2 := fun q => by
  have := congrArg Int32.toInt q
  rw [nI_toInt hk] at this
  have e : (-2 : Int32).toInt = -2 := by decide
  omega
theorem upd_zero {g : Nat → Int32} {k : Nat} (h : g k = 0) : upd g k 0 = g := by
  funext i
  by_cases hi : i = k
  · subst hi; rw [upd_at, h]
  · rw [upd_ne _ _ hi]
theorem pp_joust : pr_joust re_all := by
  intro w hw a b
  obtain ⟨n, f, o, j, ch, hK, hT, hO, hJ, hC, hF⟩ := id hw
  obtain ⟨k1, k2, k3, k4, k5, k6, k7, k8⟩ := id hK
  obtain ⟨o1, o2, o3, o4, o5, o6⟩ := id hO
  obtain ⟨j1, j2, j3, j4, j5, j6, j7, j8, j9, j10, j11, j12⟩ := id hJ
  refine sg_X6_joust_0 (sp_hasPair k2 k1 (fun hp => t10 (sg_X3_inForce_0 ⟨fun hf => ?_, fun hf => ?_⟩)) (fun hp => f10 ?_))
  · obtain ⟨⟨x, hx, rfl⟩, ⟨y, hy, rfl⟩, hxy⟩ := id hp
    have hfo : isN o (w 2 3) := o5.resolve_left hf
    have hpos : 0 ≤ w 23 8 := by
      rw [← o4]
      obtain ⟨q, hq, e⟩ := hfo
      rw [e]; exact nI_pos' (by omega)
    have cx : canB (w 24) (w 25) (w 26) (w 27) n x = canB (w 7) (w 8) (w 9) (w 10) n x := by rw [k4, k5, k6, k7]
    have cy : canB (w 24) (w 25) (w 26) (w 27) n y = canB (w 7) (w 8) (w 9) (w 10) n y := by rw [k4, k5, k6, k7]
    refine sp_canRide k2 k1 hx (fun hcx => t01 (sp_canRide k2 k1 hy (fun hcy => t10 (sg_X2_isFull_0 ⟨fun hl => f01 (sg_X3_inForce_0 ?_), fun hl => t01 ?_⟩)) (fun hcy => f10 ?_))) (fun hcx => f01 ?_)
    · have hj : j < 30 := by
        rw [j2] at hl
        exact (nI_ltI (by omega) (b := 30) (by decide)).mp hl
      refine sp_begin j2 hj ?_
      generalize hU : ex_upf (ex_up (ex_up (ex_up (ex_up w 4 6 (nI (j + 1))) 14 j (w 2 3)) 15 (j * 2) (nI x)) 15 (j * 2 + 1) (nI y)) 17 (fillS (w 17) (12 * j) 12) = U
      have u23 : U 23 = w 23 := by rw [← hU]; rfl
      have u24 : U 24 = w 24 := by rw [← hU]; rfl
      have u25 : U 25 = w 25 := by rw [← hU]; rfl
      have u26 : U 26 = w 26 := by rw [← hU]; rfl
      have u27 : U 27 = w 27 := by rw [← hU]; rfl
      have u32 : U 32 = w 32 := by rw [← hU]; rfl
      refine sg_X7_joust_0 (sp_areTwo (n := n) (by rw [u23]; exact k3) k1 (fun _ => t10 ⟨fun _ => ?_, fun q => absurd (by rw [u23]; exact hpos) q⟩) (fun q => absurd hp q))
      refine sp_m_yieldsTo (n := n) (by rw [u23]; exact k3) k1 hx (pF ?_ ?_)
      · rw [leastY_pos k1, u24, u25, u26, u27, cx, hcx]; decide
      refine sp_m_yieldsTo (n := n) (by rw [u23]; exact k3) k1 hy (pT ?_ ?_)
      · have := mt (leastY_pos (r := U 24) (f := U 25) (c := U 26) (t := U 27) (k := y) k1).mp (by rw [u24, u25, u26, u27, cy, hcy]; decide)
        rw [le_toInt] at this; rw [lt_toInt]; omega
      have e10 : U 23 10 = nI j := by rw [u23]; exact j3
      rw [e10]
      have d2 : (2 : Int32) * nI j = nI (2 * j) := pk_mul 2 j
      have d12 : (12 : Int32) * nI j = nI (12 * j) := pk_mul 12 j
      refine qF (fun q => ?_) ?_
      · have := (nI_eq (by omega) (b := 30) (by decide)).mp (show nI j = nI 30 from q)
        omega
      rw [d2, nI_1, nI_clamp (by omega), nI_clamp (by omega), nI_clamp (by omega)]
      refine ⟨vp_in_nI (by omega) (by decide), vp_in_nI (by omega) (by decide), vp_in_nI (by omega) (by decide), vp_in_nI (by omega) (by decide), vp_in_nI (by omega) (by decide), ?_⟩
      generalize hX : ex_up (ex_up (ex_up (ex_up (ex_up U 30 (2 * j) (nI x)) 30 (2 * j + 1) (nI y)) 31 j (U 23 8)) 33 (2 * j) 0) 33 (2 * j + 1) 0 = X
      have x32 : X 32 = w 32 := by rw [← hX]; exact u32
      have x23 : X 23 = w 23 := by rw [← hX]; exact u23
      have loop : ∀ m i, i + m = 12 → ex_Ev 60 mX7_joust 119 [some (.inr 23), some (.inl (nI x)), some (.inl (nI y)), some (.inl (nI i))] [] (ex_upf X 32 (fillS (w 32) (12 * j) i)) (fun r2 u2 => nI j = r2 ∧ re_all u2) := by
        intro m
        induction m with
        | zero =>
          intro i hi
          have hi12 : i = 12 := by omega
          subst hi12
          have e1 : (ex_upf X 32 (fillS (w 32) (12 * j) 12)) 23 10 = nI j := by
            show X 23 10 = nI j
            rw [x23]; exact j3
          refine sg_X7_joust_119 (pT (by decide) ⟨?_, ?_⟩)
          · show nI j = (ex_upf X 32 (fillS (w 32) (12 * j) 12)) 23 10 + 1 - 1
            rw [e1, nI_1, nI_pred]
          · rw [e1, nI_1]
            subst hX
            subst hU
            refine ⟨n, f, o, j + 1, ch, re_K_of hK rfl rfl rfl rfl rfl rfl rfl rfl rfl rfl, re_T_of hT rfl rfl rfl rfl, re_O_of hO rfl rfl rfl rfl rfl rfl rfl, ?_, re_C_of hC (Nat.le_refl _) rfl rfl rfl rfl rfl rfl, re_F_of hF (Nat.le_refl _) rfl rfl⟩
            refine ⟨by omega, rfl, rfl, ?_, ?_, ?_, ?_, ?_, ?_, ?_, ?_, ?_⟩
            · show upd (w 14) j (w 2 3) = upd (w 31) j (w 23 8)
              rw [j4, o4]
            · show upd (upd (w 15) (j * 2) (nI x)) (j * 2 + 1) (nI y) = upd (upd (w 30) (2 * j) (nI x)) (2 * j + 1) (nI y)
              rw [j5, Nat.mul_comm]
            · show w 16 = upd (upd (w 33) (2 * j) 0) (2 * j + 1) 0
              rw [← j6, upd_zero (j11 (2 * j) (by omega)), upd_zero (j11 (2 * j + 1) (by omega))]
            · show fillS (w 17) (12 * j) 12 = fillS (w 32) (12 * j) 12
              rw [j7]
            · intro i hi
              show isN o (upd (w 14) j (w 2 3) i)
              by_cases h : i = j
              · subst h; rw [upd_at]; exact hfo
              · rw [upd_ne _ _ h]; exact j8 i (by omega)
            · intro i hi
              show isN n (upd (upd (w 15) (j * 2) (nI x)) (j * 2 + 1) (nI y) i)
              by_cases h : i = j * 2 + 1
              · subst h; rw [upd_at]; exact ⟨y, hy, rfl⟩
              · rw [upd_ne _ _ h]
                by_cases h2 : i = j * 2
                · subst h2; rw [upd_at]; exact ⟨x, hx, rfl⟩
                · rw [upd_ne _ _ h2]; exact j9 i (by omega)
            · intro i hi
              show isN 41 (w 16 i)
              by_cases h : i < 2 * j
              · exact j10 i h
              · rw [j11 i (by omega)]; exact ⟨0, by decide, rfl⟩
            · intro i hi
              exact j11 i (by omega)
            · intro i hi
              show isN 7 (fillS (w 17) (12 * j) 12 i)
              rw [fillS_val]
              by_cases h : 12 * j ≤ i ∧ i < 12 * j + 12
              · rw [if_pos h]; exact ⟨6, by decide, rfl⟩
              · rw [if_neg h]; exact j12 i (by omega)
        | succ m ih =>
          intro i hi
          have e1 : (ex_upf X 32 (fillS (w 32) (12 * j) i)) 23 10 = nI j := by
            show X 23 10 = nI j
            rw [x23]; exact j3
          refine sg_X7_joust_119 (pF (fun q => nI_ge (a := i) (b := 12) (by omega) (by decide) q) ?_)
          rw [e1, d12, nI_add, nI_clamp (by omega), xf_up, nI_1]
          exact ⟨vp_in_nI (by omega) (by decide), ih (i + 1) (by omega)⟩
      have := loop 12 0 rfl
      rw [show fillS (w 32) (12 * j) 0 = w 32 from rfl, ← x32, xf_id] at this
      exact this
    · have hj : j = 30 := by
        rw [j2] at hl
        have : ¬ j < 30 := fun q => hl ((nI_ltI (by omega) (b := 30) (by decide)).mpr q)
        omega
      refine sg_X7_joust_0 (sp_areTwo (n := n) k3 k1 (fun _ => t10 ⟨fun _ => ?_, fun q => absurd hpos q⟩) (fun q => absurd hp q))
      refine sp_m_yieldsTo (n := n) k3 k1 hx (pF ?_ ?_)
      · rw [leastY_pos k1, cx, hcx]; decide
      refine sp_m_yieldsTo (n := n) k3 k1 hy (pT ?_ ?_)
      · have := mt (leastY_pos (r := w 24) (f := w 25) (c := w 26) (t := w 27) (k := y) k1).mp (by rw [cy, hcy]; decide)
        rw [le_toInt] at this; rw [lt_toInt]; omega
      exact qT (by rw [j3, hj]; rfl) ⟨rfl, hw⟩
    · refine sg_X7_joust_0 (sp_areTwo (n := n) k3 k1 (fun _ => t10 ⟨fun _ => ?_, fun q => absurd hpos q⟩) (fun q => absurd hp q))
      refine sp_m_yieldsTo (n := n) k3 k1 hx (pF ?_ ?_)
      · rw [leastY_pos k1, cx, hcx]; decide
      refine sp_m_yieldsTo (n := n) k3 k1 hy (pF ?_ ⟨rfl, hw⟩)
      have := (leastY_pos (r := w 24) (f := w 25) (c := w 26) (t := w 27) (k := y) k1).mpr (by rw [cy, hcy])
      exact i32_not_lt this
    · refine sg_X7_joust_0 (sp_areTwo (n := n) k3 k1 (fun _ => t10 ⟨fun _ => ?_, fun q => absurd hpos q⟩) (fun q => absurd hp q))
      exact sp_m_yieldsTo (n := n) k3 k1 hx (pT ((leastY_pos k1).mpr (by rw [cx, hcx])) ⟨rfl, hw⟩)
  · refine sg_X7_joust_0 (sp_areTwo (n := n) k3 k1 (fun _ => t10 ⟨fun q => ?_, fun _ => ⟨rfl, hw⟩⟩) (fun q => absurd hp q))
    exact absurd q (by rw [← o4, hf]; decide)
  · exact sg_X7_joust_0 (sp_areTwo (n := n) k3 k1 (fun q => absurd q hp) (fun _ => f10 ⟨rfl, hw⟩))
