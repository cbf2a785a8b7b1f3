-- sums of numbers, as loops make them
def siF (f : Nat → Int32) : Nat → Nat → Int32 → Int32
  | 0, _, acc => acc
  | m + 1, i, acc => siF f m (i + 1) (acc + f i)
theorem siF_congr {f g : Nat → Int32} : ∀ m i acc, (∀ c, i ≤ c → c < i + m → f c = g c) → siF f m i acc = siF g m i acc := by
  intro m
  induction m with
  | zero => intro i acc _; rfl
  | succ m ih =>
    intro i acc h
    rw [siF, siF, h i (Nat.le_refl _) (by omega)]
    exact ih (i + 1) _ (fun c a b => h c (by omega) (by omega))
def raG (st rd rk : Nat → Int32) (s : Nat) : Int32 := if 0 < sr (cS st 4) (oth s * 6) 6 then 10 + 10 * rk (rd s).toNatClampNeg else 0
def owG (st rd rk pd : Nat → Int32) (s : Nat) : Int32 := if 0 < raG st rd rk s - pd s then raG st rd rk s - pd s else 0
def raF (w : ex_WW) (s : Nat) : Int32 := raG (w 32) (w 30) (w 24) s
def owF (w : ex_WW) (s : Nat) : Int32 := owG (w 32) (w 30) (w 24) (w 33) s
section SPM
variable {d : Nat} {w : ex_WW} {P : Int32 → ex_WW → Prop} {n o j s : Nat} {k : Int32}
theorem cnt_b (g : Nat → Int32) (v : Int32) (lo : Nat) : sr (cS g v) lo 6 ≤ 6 := by
  have := sr_le (cS g v) 1 6 lo (fun i => by unfold cS; split <;> omega)
  omega
theorem sp_ransomOf_g (hs : s < 60) (ho : oth s < 60) (hr : isN 14 (w 15 s)) (h : P (raG (w 17) (w 15) (w 7) s) w) : ex_Ev (d + 2) mX2_ransomOf 0 (ex_in [.inr 4, .inl (nI s)] 3) [] w P := by
  have cb := cnt_b (w 17) 4 (oth s * 6)
  unfold raG at h
  refine sg_X2_ransomOf_0 ?_
  rw [oth_x s hs]
  refine sp_countOf ho ⟨fun q => ?_, fun q => ⟨vp_in_nI hs (by decide), ?_⟩⟩
  · have : sr (cS (w 17) 4) (oth s * 6) 6 ≤ 0 := (nI_leI (by omega) (b := 0) (by decide)).mp q
    rw [if_neg (by omega)] at h
    exact h
  · have : ¬ sr (cS (w 17) 4) (oth s * 6) 6 ≤ 0 := fun z => q (nI_le z (b := 0) (by decide))
    rw [nI_clamp (by omega)]
    obtain ⟨r, hr, er⟩ := hr
    rw [if_pos (by omega), er, nI_clamp (by omega)] at h
    rw [er]
    exact sp_rankOf hr h
theorem sp_owedOf_g (hs : s < 60) (ho : oth s < 60) (hr : isN 14 (w 15 s)) (h : P (owG (w 17) (w 15) (w 7) (w 16) s) w) : ex_Ev (d + 3) mX2_owedOf 0 (ex_in [.inr 4, .inl (nI s)] 2) [] w P := by
  unfold owG at h
  refine sg_X2_owedOf_0 (sp_ransomOf_g hs ho hr ⟨vp_in_nI hs (by decide), ?_⟩)
  rw [nI_clamp (by omega)]
  refine sg_J9_max_7cf53_0 ⟨fun q => ?_, fun q => ?_⟩
  · rw [if_pos q] at h; exact h
  · rw [if_neg q] at h; exact h
theorem sp_m_owedOf_g {x y : Nat} (hx : x < 30) (hy : y < 2) (hr : isN 14 (w 30 (x * 2 + y))) (h : P (owG (w 32) (w 30) (w 24) (w 33) (x * 2 + y)) w) : ex_Ev (d + 2) mX7_owedOf 0 (ex_in [.inr 23, .inl (nI x), .inl (nI y)] 6) [] w P := by
  have cb := cnt_b (w 32) 4 ((x * 2 + (1 - y)) * 6)
  have e1 : (1 : Int32) - nI y = nI (1 - y) := pk_sub (a := 1) (by omega)
  have e2 : (2 : Int32) * nI x + nI y = nI (x * 2 + y) := by rw [show (2 : Int32) * nI x = nI (2 * x) from pk_mul 2 x, nI_add, Nat.mul_comm]
  refine sg_X7_owedOf_0 ?_
  rw [e1, e2]
  refine sp_strokeMany hx (by omega) ?_
  rw [nI_clamp (show x * 2 + y < 2 ^ 31 by omega)]
  have iv := vp_in_nI (show x * 2 + y < 60 by omega) (N := 60) (by decide)
  have fin : ∀ z : Int32, z = raG (w 32) (w 30) (w 24) (x * 2 + y) - w 33 (x * 2 + y) → ((0 ≤ z → P z w) ∧ (¬ 0 ≤ z → P 0 w)) := by
    intro z hz
    unfold owG at h
    rw [← hz] at h
    refine ⟨fun q => ?_, fun q => ?_⟩
    · by_cases h0 : 0 < z
      · rw [if_pos h0] at h; exact h
      · rw [if_neg h0] at h
        have : z = 0 := Int32.toInt_inj.mp (by rw [le_toInt, ti_0] at q; rw [lt_toInt, ti_0] at h0; rw [ti_0]; omega)
        rw [this]; exact h
    · rw [if_neg (fun z' => q (by rw [lt_toInt] at z'; rw [le_toInt]; omega))] at h; exact h
  refine ⟨fun q => ⟨iv, fin _ ?_⟩, fun q => ?_⟩
  · have : sr (cS (w 32) 4) ((x * 2 + (1 - y)) * 6) 6 ≤ 0 := (nI_leI (by omega) (b := 0) (by decide)).mp q
    have e : raG (w 32) (w 30) (w 24) (x * 2 + y) = 0 := if_neg (by rw [oth_xy hy]; omega)
    rw [e]
  · have : ¬ sr (cS (w 32) 4) ((x * 2 + (1 - y)) * 6) 6 ≤ 0 := fun z => q (nI_le z (b := 0) (by decide))
    have e : raG (w 32) (w 30) (w 24) (x * 2 + y) = 10 + 10 * w 24 (w 30 (x * 2 + y)).toNatClampNeg := if_pos (by rw [oth_xy hy]; omega)
    refine ⟨iv, isN_in hr (Nat.le_refl _) (by decide), iv, fin _ ?_⟩
    rw [e]
theorem sp_owedOf (hK : re_K w n) (hJ : re_J w n o j) (hs : s < 2 * j) (h : P (owF w s) w) : ex_Ev (d + 3) mX2_owedOf 0 (ex_in [.inr 4, .inl (nI s)] 2) [] w P := by
  have hj := hJ.1
  have ho := oth_lt hs
  refine sp_owedOf_g (by omega) (by omega) (isN_mono (hJ.2.2.2.2.2.2.2.2.1 s hs) hK.1) ?_
  rw [hJ.2.2.2.2.2.2.1, hJ.2.2.2.2.1, hJ.2.2.2.2.2.1, hK.2.2.2.1]
  exact h
theorem sp_m_owedOf {x y : Nat} (hK : re_K w n) (hJ : re_J w n o j) (hx : x < j) (hy : y < 2) (h : P (owF w (x * 2 + y)) w) : ex_Ev (d + 2) mX7_owedOf 0 (ex_in [.inr 23, .inl (nI x), .inl (nI y)] 6) [] w P := by
  have hj := hJ.1
  refine sp_m_owedOf_g (by omega) hy (isN_mono (n := n) ?_ hK.1) h
  rw [← hJ.2.2.2.2.1]
  exact hJ.2.2.2.2.2.2.2.2.1 _ (by omega)
def obF (w : ex_WW) (k : Int32) (s : Nat) : Int32 := if w 30 s = k then owF w s else 0
theorem sp_owedBy (hK : re_K w n) (hJ : re_J w n o j) (h : P (siF (obF w k) (2 * j) 0 0) w) : ex_Ev (d + 4) mX2_owedBy 0 (ex_in [.inr 4, .inl k] 4) [] w P := by
  have hj := hJ.1
  have e2 : w 4 6 * 2 = nI (j * 2) := by rw [hJ.2.1]; exact pk_mul j 2
  have e15 := hJ.2.2.2.2.1
  refine sg_X2_owedBy_0 ?_
  have loop : ∀ m i acc, i + m = 2 * j → P (siF (obF w k) m i acc) w → ex_Ev (d + 4) mX2_owedBy 4 [some (.inr 4), some (.inl k), some (.inl acc), some (.inl (nI i))] [] w P := by
    intro m
    induction m with
    | zero =>
      intro i acc hi h
      exact sg_X2_owedBy_4 (pT (by rw [e2]; exact nI_le (by omega) (by omega)) h)
    | succ m ih =>
      intro i acc hi h
      rw [siF] at h
      refine sg_X2_owedBy_4 (pF (by rw [e2]; exact nI_ge (by omega) (by omega)) ⟨vp_in_nI (by omega) (by decide), ?_⟩)
      rw [nI_clamp (by omega), e15, nI_1]
      refine ⟨fun q => ih (i + 1) acc (by omega) ?_, fun q => sp_owedOf hK hJ (by omega) (ih (i + 1) _ (by omega) ?_)⟩
      · rw [show obF w k i = 0 from if_neg q, Int32.add_zero] at h
        exact h
      · rw [show obF w k i = owF w i from if_pos q] at h
        exact h
  exact loop (2 * j) 0 0 (by omega) h
theorem sp_owedInAll (hK : re_K w n) (hJ : re_J w n o j) (h : P (siF (owF w) (2 * j) 0 0) w) : ex_Ev (d + 4) mX2_owedInAll 0 (ex_in [.inr 4] 3) [] w P := by
  have hj := hJ.1
  have e2 : w 4 6 * 2 = nI (j * 2) := by rw [hJ.2.1]; exact pk_mul j 2
  refine sg_X2_owedInAll_0 ?_
  have loop : ∀ m i acc, i + m = 2 * j → P (siF (owF w) m i acc) w → ex_Ev (d + 4) mX2_owedInAll 4 [some (.inr 4), some (.inl acc), some (.inl (nI i))] [] w P := by
    intro m
    induction m with
    | zero =>
      intro i acc hi h
      exact sg_X2_owedInAll_4 (pT (by rw [e2]; exact nI_le (by omega) (by omega)) h)
    | succ m ih =>
      intro i acc hi h
      rw [siF] at h
      refine sg_X2_owedInAll_4 (pF (by rw [e2]; exact nI_ge (by omega) (by omega)) (sp_owedOf hK hJ (by omega) ?_))
      rw [nI_1]
      exact ih (i + 1) _ (by omega) h
  exact loop (2 * j) 0 0 (by omega) h
theorem sp_paidInAll (hJ : re_J w n o j) (h : P (siF (w 33) (2 * j) 0 0) w) : ex_Ev d mX2_paidInAll 0 (ex_in [.inr 4] 3) [] w P := by
  have hj := hJ.1
  have e2 : w 4 6 * 2 = nI (j * 2) := by rw [hJ.2.1]; exact pk_mul j 2
  refine sg_X2_paidInAll_0 ?_
  have loop : ∀ m i acc, i + m = 2 * j → P (siF (w 33) m i acc) w → ex_Ev d mX2_paidInAll 4 [some (.inr 4), some (.inl acc), some (.inl (nI i))] [] w P := by
    intro m
    induction m with
    | zero =>
      intro i acc hi h
      exact sg_X2_paidInAll_4 (pT (by rw [e2]; exact nI_le (by omega) (by omega)) h)
    | succ m ih =>
      intro i acc hi h
      rw [siF] at h
      refine sg_X2_paidInAll_4 (pF (by rw [e2]; exact nI_ge (by omega) (by omega)) ⟨vp_in_nI (by omega) (by decide), ?_⟩)
      rw [nI_clamp (by omega), hJ.2.2.2.2.2.1, nI_1]
      exact ih (i + 1) _ (by omega) h
  exact loop (2 * j) 0 0 (by omega) h
theorem div2 {i : Nat} (hi : i < 60) : nI i / 2 = nI (i / 2) := pk_div (a := i) (d := 2) (by omega) (by decide) (by decide)
theorem rem2 {i : Nat} (hi : i < 60) : nI i - nI (i / 2) * 2 = nI (i % 2) := by
  rw [← div2 hi]
  exact pk_rem (a := i) (d := 2) (by omega) (by decide) (by decide)
end SPM
theorem pp_owes : pr_owes re_all := by
  intro w hw k
  obtain ⟨n, f, o, j, ch, hK, hT, hO, hJ, hC, hF⟩ := id hw
  obtain ⟨k1, k2, k3, k4, k5, k6, k7, k8⟩ := id hK
  have hj := hJ.1
  refine sg_X6_owes_0 (sp_has k2 k1 (fun hk => t01 (sp_owedBy hK hJ ?_)) (fun hk => f01 ?_))
  · refine sg_X7_owes_0 (sp_isKnight k3 k1 (fun _ => t10 ?_) (fun q => absurd hk q))
    have e2 : (2 : Int32) * w 23 10 = nI (2 * j) := by rw [hJ.2.2.1]; exact pk_mul 2 j
    have loop : ∀ m i acc, i + m = 2 * j → siF (obF w k) m i acc = siF (obF w k) (2 * j) 0 0 → ex_Ev 60 mX7_owes 14 [some (.inr 23), some (.inl k), some (.inl acc), some (.inl (nI i))] [] w (fun r2 u2 => siF (obF w k) (2 * j) 0 0 = r2 ∧ re_all u2) := by
      intro m
      induction m with
      | zero =>
        intro i acc hi h
        exact sg_X7_owes_14 (pT (by rw [e2]; exact nI_le (by omega) (by omega)) ⟨h.symm, hw⟩)
      | succ m ih =>
        intro i acc hi h
        rw [siF] at h
        refine sg_X7_owes_14 (pF (by rw [e2]; exact nI_ge (by omega) (by omega)) ⟨vp_in_nI (by omega) (by decide), ?_⟩)
        rw [nI_clamp (by omega), div2 (by omega), rem2 (by omega), nI_1]
        refine ⟨fun q => ih (i + 1) _ (by omega) ?_, fun q => sp_m_owedOf (x := i / 2) (y := i % 2) hK hJ (by omega) (by omega) ?_⟩
        · rw [show obF w k i = 0 from if_neg q] at h
          exact h
        · rw [show i / 2 * 2 + i % 2 = i by omega]
          refine ih (i + 1) _ (by omega) ?_
          rw [show obF w k i = owF w i from if_pos q] at h
          exact h
    exact loop (2 * j) 0 0 (by omega) rfl
  · exact sg_X7_owes_0 (sp_isKnight k3 k1 (fun q => absurd q hk) (fun _ => f10 ⟨rfl, hw⟩))
def gaF (w : ex_WW) (k : Int32) (s : Nat) : Int32 := if w 30 s = k then w 33 (oth s) - w 33 s else 0
theorem pp_purse : pr_purse re_all := by
  intro w hw k
  obtain ⟨n, f, o, j, ch, hK, hT, hO, hJ, hC, hF⟩ := id hw
  obtain ⟨k1, k2, k3, k4, k5, k6, k7, k8⟩ := id hK
  have hj := hJ.1
  have e15 := hJ.2.2.2.2.1
  have e16 := hJ.2.2.2.2.2.1
  have mod : isN n k → ex_Ev 60 mX7_purse 0 (ex_in [.inr 23, .inl k] 4) [] w (fun r2 u2 => siF (gaF w k) (2 * j) 0 0 = r2 ∧ re_all u2) := by
    intro hk
    refine sg_X7_purse_0 (sp_isKnight k3 k1 (fun _ => t10 ?_) (fun q => absurd hk q))
    have e2 : (2 : Int32) * w 23 10 = nI (2 * j) := by rw [hJ.2.2.1]; exact pk_mul 2 j
    have loop : ∀ m i acc, i + m = 2 * j → siF (gaF w k) m i acc = siF (gaF w k) (2 * j) 0 0 → ex_Ev 60 mX7_purse 15 [some (.inr 23), some (.inl k), some (.inl acc), some (.inl (nI i))] [] w (fun r2 u2 => siF (gaF w k) (2 * j) 0 0 = r2 ∧ re_all u2) := by
      intro m
      induction m with
      | zero =>
        intro i acc hi h
        exact sg_X7_purse_15 (pT (by rw [e2]; exact nI_le (by omega) (by omega)) ⟨h.symm, hw⟩)
      | succ m ih =>
        intro i acc hi h
        rw [siF] at h
        refine sg_X7_purse_15 (pF (by rw [e2]; exact nI_ge (by omega) (by omega)) ⟨vp_in_nI (by omega) (by decide), ?_⟩)
        have e1 : nI i - 1 = nI (i - 1) ∨ i = 0 := by
          rcases Nat.eq_zero_or_pos i with q | q
          · exact Or.inr q
          · exact Or.inl (pk_sub (b := 1) q)
        rw [nI_clamp (show i < 2 ^ 31 by omega), div2 (by omega), rem2 (by omega), nI_1, nI_clamp (show i + 1 < 2 ^ 31 by omega)]
        refine ⟨fun q => ih (i + 1) _ (by omega) ?_, fun q => ⟨fun q2 => ?_, fun q2 => ?_⟩⟩
        · rw [show gaF w k i = 0 from if_neg q] at h
          exact h
        · have h2 : i % 2 = 1 := by
            have : ¬ i % 2 = 0 := fun z => q2 (by rw [z]; rfl)
            omega
          have e1 : nI i - 1 = nI (i - 1) := pk_sub (b := 1) (by omega)
          rw [e1, nI_clamp (by omega)]
          refine ⟨vp_in_nI (by omega) (by decide), vp_in_nI (by omega) (by decide), ih (i + 1) _ (by omega) ?_⟩
          rw [show gaF w k i = w 33 (oth i) - w 33 i from if_pos q, show oth i = i - 1 from if_neg (by omega)] at h
          exact h
        · have h2 : i % 2 = 0 := (nI_eq (by omega) (b := 0) (by decide)).mp q2
          refine ⟨vp_in_nI (by omega) (by decide), vp_in_nI (by omega) (by decide), ih (i + 1) _ (by omega) ?_⟩
          rw [show gaF w k i = w 33 (oth i) - w 33 i from if_pos q, show oth i = i + 1 from if_pos h2] at h
          exact h
    exact loop (2 * j) 0 0 (by omega) rfl
  refine sg_X6_purse_0 (sp_has k2 k1 (fun hk => t01 (sg_X2_gainOf_0 ?_)) (fun hk => f01 ?_))
  · have e2 : w 4 6 * 2 = nI (j * 2) := by rw [hJ.2.1]; exact pk_mul j 2
    have loop : ∀ m i acc, i + m = 2 * j → siF (gaF w k) m i acc = siF (gaF w k) (2 * j) 0 0 → ex_Ev 59 mX2_gainOf 4 [some (.inr 4), some (.inl k), some (.inl acc), some (.inl (nI i))] [] w (fun r3 u4 => ex_Ev 60 mX7_purse 0 (ex_in [.inr 23, .inl k] 4) [] u4 (fun r2 u2 => r3 = r2 ∧ re_all u2)) := by
      intro m
      induction m with
      | zero =>
        intro i acc hi h
        refine sg_X2_gainOf_4 (pT (by rw [e2]; exact nI_le (by omega) (by omega)) ?_)
        rw [show acc = siF (gaF w k) (2 * j) 0 0 from h]
        exact mod hk
      | succ m ih =>
        intro i acc hi h
        rw [siF] at h
        have ho := oth_lt (show i < 2 * j by omega)
        refine sg_X2_gainOf_4 (pF (by rw [e2]; exact nI_ge (by omega) (by omega)) ⟨vp_in_nI (by omega) (by decide), ?_⟩)
        rw [oth_x i (by omega), nI_clamp (show i < 2 ^ 31 by omega), nI_clamp (show oth i < 2 ^ 31 by omega), e15, e16, nI_1]
        refine ⟨fun q => ih (i + 1) acc (by omega) ?_, fun q => ⟨vp_in_nI (by omega) (by decide), vp_in_nI (by omega) (by decide), ih (i + 1) _ (by omega) ?_⟩⟩
        · rw [show gaF w k i = 0 from if_neg q, Int32.add_zero] at h
          exact h
        · rw [show gaF w k i = w 33 (oth i) - w 33 i from if_pos q] at h
          exact h
    exact loop (2 * j) 0 0 (by omega) rfl
  · exact sg_X7_purse_0 (sp_isKnight k3 k1 (fun q => absurd q hk) (fun _ => f10 ⟨rfl, hw⟩))
theorem raF_b {w : ex_WW} {n o j s : Nat} (hK : re_K w n) (hJ : re_J w n o j) (hs : s < 2 * j) : 0 ≤ (raF w s).toInt ∧ (raF w s).toInt ≤ 40 := by
  unfold raF raG
  split
  · obtain ⟨r, hr, er⟩ := hJ.2.2.2.2.2.2.2.2.1 s hs
    have hn := hK.1
    rw [hJ.2.2.2.2.1] at er
    rw [er, nI_clamp (by omega), ← hK.2.2.2.1]
    obtain ⟨q, hq, e⟩ := hK.2.2.2.2.2.2.2 r hr
    rw [e, show (10 : Int32) + 10 * nI q = nI (10 + 10 * q) by rw [show (10 : Int32) * nI q = nI (10 * q) from pk_mul 10 q]; exact nI_add 10 _, nI_toInt (by omega)]
    omega
  · rw [ti_0]; omega
theorem pp_pay : pr_pay re_all := by
  intro w hw a b v
  obtain ⟨n, f, o, j, ch, hK, hT, hO, hJ, hC, hF⟩ := id hw
  obtain ⟨j1, j2, j3, j4, j5, j6, j7, j8, j9, j10, j11, j12⟩ := id hJ
  have k4 := hK.2.2.2.1
  have no : ¬ (isN j a ∧ isN 2 b ∧ (1 ≤ v ∧ v ≤ 100)) → ex_Ev 60 mX7_pay 0 (ex_in [.inr 23, .inl a, .inl b, .inl v] 4) [] w (fun r2 u2 => -1 = r2 ∧ re_all u2) := fun h =>
    sg_X7_pay_0 (sp_isJoust j3 j1 (fun h1 => t01 (sp_isSide (fun h2 => t01 (sp_in (fun h3 => absurd ⟨h1, h2, h3⟩ h) (fun _ => f10 ⟨rfl, hw⟩))) (fun _ => f01 ⟨rfl, hw⟩))) (fun _ => f01 ⟨rfl, hw⟩))
  refine sg_X6_pay_0 (sp_j_has j2 j1 (fun h => t01 (sp_isWithin (fun hv => t10 ?_) (fun hv => f10 (no (fun q => hv q.2.2))))) (fun h => f01 (no (fun q => h ⟨q.1, q.2.1⟩))))
  obtain ⟨⟨x, hx, rfl⟩, ⟨y, hy, rfl⟩⟩ := id h
  generalize hs0 : x * 2 + y = s
  have hs : s < 2 * j := by omega
  have hos := oth_lt hs
  have e2 : (2 : Int32) * nI x + nI y = nI s := by rw [show (2 : Int32) * nI x = nI (2 * x) from pk_mul 2 x, nI_add, Nat.mul_comm, hs0]
  have hr15 : isN 14 (w 15 s) := isN_mono (j9 s hs) hK.1
  have hr30 : isN 14 (w 30 s) := by rw [← j5]; exact hr15
  refine sp_sheetOf ?_
  rw [hs0]
  refine sp_owedOf hK hJ hs ⟨fun hle => ?_, fun hle => ?_⟩
  · have iv := vp_in_nI (show s < 60 by omega) (N := 60) (by decide)
    refine sg_X2_putDown_0 ⟨iv, iv, ?_⟩
    rw [nI_clamp (show s < 2 ^ 31 by omega)]
    refine sp_owedOf_g (by omega) (by omega) hr15 ?_
    show ex_Ev 60 mX7_pay 0 (ex_in [.inr 23, .inl (nI x), .inl (nI y), .inl v] 4) [] (ex_up w 16 s (w 16 s + v)) (fun r2 u2 => owG (w 17) (w 15) (w 7) (upd (w 16) s (w 16 s + v)) s = r2 ∧ re_all u2)
    rw [j7, j5, k4, show upd (w 16) s (w 16 s + v) = upd (w 33) s (w 33 s + v) by rw [j6]]
    refine sg_X7_pay_0 (sp_isJoust (j := j) j3 j1 (fun _ => t01 (sp_isSide (fun _ => t01 (sp_in (fun _ => t10 (sp_m_owedOf_g (by omega) hy (by rw [hs0]; exact hr30) ?_)) (fun q => absurd hv q))) (fun q => absurd h.2 q))) (fun q => absurd h.1 q))
    rw [hs0, e2, nI_clamp (show s < 2 ^ 31 by omega)]
    refine pT hle ⟨iv, iv, sp_m_owedOf_g (by omega) hy (by rw [hs0]; exact hr30) ?_⟩
    rw [hs0]
    refine ⟨rfl, ?_⟩
    obtain ⟨pp, hpp, epp⟩ := j10 s hs
    have rb := raF_b hK hJ hs
    have ep33 : (w 33 s).toInt = pp := by rw [← j6, epp, nI_toInt (by omega)]
    have hv' := hv
    rw [le_toInt, le_toInt, ti_1, show (100 : Int32).toInt = 100 by decide] at hv'
    have hd : (raF w s - w 33 s).toInt = (raF w s).toInt - pp := by rw [ti_sub (by omega) (by omega), ep33]
    have hnew : isN 41 (w 16 s + v) := by
      have hle2 : v.toInt ≤ (raF w s).toInt - pp := by
        rw [le_toInt] at hle
        unfold owF owG at hle
        change v.toInt ≤ (if 0 < raF w s - w 33 s then raF w s - w 33 s else 0).toInt at hle
        by_cases q : 0 < raF w s - w 33 s
        · rw [if_pos q, hd] at hle; exact hle
        · rw [if_neg q, ti_0] at hle; omega
      refine ⟨pp + v.toInt.toNat, by omega, Int32.toInt_inj.mp ?_⟩
      rw [epp, ti_add (by rw [nI_toInt (by omega)]; omega) (by rw [nI_toInt (by omega)]; omega), nI_toInt (by omega), nI_toInt (by omega)]
      omega
    refine ⟨n, f, o, j, ch, re_K_of hK rfl rfl rfl rfl rfl rfl rfl rfl rfl rfl, re_T_of hT rfl rfl rfl rfl, re_O_of hO rfl rfl rfl rfl rfl rfl rfl, ?_, re_C_of hC (Nat.le_refl _) rfl rfl rfl rfl rfl rfl, re_F_of hF (Nat.le_refl _) rfl rfl⟩
    refine ⟨j1, j2, j3, j4, j5, ?_, j7, j8, j9, ?_, ?_, j12⟩
    · show upd (w 16) s (w 16 s + v) = upd (w 33) s (w 33 s + v)
      rw [j6]
    · intro i hi
      show isN 41 (upd (w 16) s (w 16 s + v) i)
      by_cases hi2 : i = s
      · subst hi2; rw [upd_at]; exact hnew
      · rw [upd_ne _ _ hi2]; exact j10 i hi
    · intro i hi
      show upd (w 16) s (w 16 s + v) i = 0
      rw [upd_ne _ _ (by omega)]; exact j11 i hi
  · refine sg_X7_pay_0 (sp_isJoust j3 j1 (fun _ => t01 (sp_isSide (fun _ => t01 (sp_in (fun _ => t10 (sp_m_owedOf hK hJ hx hy (pF ?_ ⟨rfl, hw⟩))) (fun q => absurd hv q))) (fun q => absurd h.2 q))) (fun q => absurd h.1 q))
    rw [hs0]
    exact hle
