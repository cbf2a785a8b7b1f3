def wb (w : ex_WW) (k : Int32) (s : Nat) : Nat := if w 30 s = k ∧ TT w (oth s) true < TT w s false then 1 else 0
def jb (w : ex_WW) (k : Int32) (s : Nat) : Nat := if w 30 s = k then 1 else 0
def wnF (w : ex_WW) (j : Nat) (k : Int32) : Nat := sr (wb w k) 0 (2 * j)
def joF (w : ex_WW) (j : Nat) (k : Int32) : Nat := sr (jb w k) 0 (2 * j)
theorem wnF_b (w : ex_WW) (j : Nat) (k : Int32) (hj : j ≤ 30) : wnF w j k ≤ 60 := by
  have := sr_le (wb w k) 1 (2 * j) 0 (fun i => by unfold wb; split <;> omega)
  unfold wnF
  omega
theorem joF_b (w : ex_WW) (j : Nat) (k : Int32) (hj : j ≤ 30) : joF w j k ≤ 60 := by
  have := sr_le (jb w k) 1 (2 * j) 0 (fun i => by unfold jb; split <;> omega)
  unfold joF
  omega
section SPN
variable {d : Nat} {w : ex_WW} {P : Int32 → ex_WW → Prop} {n o j : Nat} {k : Int32}
theorem sp_countSureWins (hO : re_O w o) (hJ : re_J w n o j) (h : P (nI (wnF w j k)) w) : ex_Ev (d + 4) mX2_countSureWins 0 (ex_in [.inr 4, .inl k] 4) [] w P := by
  have hj := hJ.1
  have e2 : w 4 6 * 2 = nI (j * 2) := by rw [hJ.2.1]; exact pk_mul j 2
  have e15 := hJ.2.2.2.2.1
  refine sg_X2_countSureWins_0 ?_
  have loop : ∀ m i acc, i + m = 2 * j → P (nI (acc + sr (wb w k) i m)) w → ex_Ev (d + 4) mX2_countSureWins 4 [some (.inr 4), some (.inl k), some (.inl (nI acc)), some (.inl (nI i))] [] w P := by
    intro m
    induction m with
    | zero =>
      intro i acc hi h
      exact sg_X2_countSureWins_4 (pT (by rw [e2]; exact nI_le (by omega) (by omega)) h)
    | succ m ih =>
      intro i acc hi h
      rw [sr] at h
      have zero : wb w k i = 0 → ex_Ev (d + 4) mX2_countSureWins 4 [some (.inr 4), some (.inl k), some (.inl (nI acc)), some (.inl (nI i + 1))] [] w P := fun z => by
        rw [nI_1]
        refine ih (i + 1) acc (by omega) ?_
        rw [z, Nat.zero_add] at h
        exact h
      refine sg_X2_countSureWins_4 (pF (by rw [e2]; exact nI_ge (by omega) (by omega)) ⟨vp_in_nI (by omega) (by decide), ?_⟩)
      rw [nI_clamp (by omega), e15]
      refine ⟨fun q => zero (if_neg (fun z => q z.1)), fun q => sp_winsSurely hO hJ (by omega) (fun hw => t01 ?_) (fun hw => f01 (zero (if_neg (fun z => hw z.2))))⟩
      rw [nI_1, nI_1]
      refine ih (i + 1) (acc + 1) (by omega) ?_
      rw [show wb w k i = 1 from if_pos ⟨q, hw⟩, ← Nat.add_assoc] at h
      exact h
  refine loop (2 * j) 0 0 (by omega) ?_
  rw [Nat.zero_add]
  exact h
theorem sp_countJousts (hJ : re_J w n o j) (h : P (nI (joF w j k)) w) : ex_Ev d mX2_countJousts 0 (ex_in [.inr 4, .inl k] 4) [] w P := by
  have hj := hJ.1
  have e2 : w 4 6 * 2 = nI (j * 2) := by rw [hJ.2.1]; exact pk_mul j 2
  have e15 := hJ.2.2.2.2.1
  refine sg_X2_countJousts_0 ?_
  have loop : ∀ m i acc, i + m = 2 * j → P (nI (acc + sr (jb w k) i m)) w → ex_Ev d mX2_countJousts 4 [some (.inr 4), some (.inl k), some (.inl (nI acc)), some (.inl (nI i))] [] w P := by
    intro m
    induction m with
    | zero =>
      intro i acc hi h
      exact sg_X2_countJousts_4 (pT (by rw [e2]; exact nI_le (by omega) (by omega)) h)
    | succ m ih =>
      intro i acc hi h
      rw [sr] at h
      refine sg_X2_countJousts_4 (pF (by rw [e2]; exact nI_ge (by omega) (by omega)) ⟨vp_in_nI (by omega) (by decide), ?_⟩)
      rw [nI_clamp (by omega), e15, nI_1, nI_1]
      refine ⟨fun q => ih (i + 1) acc (by omega) ?_, fun q => ih (i + 1) (acc + 1) (by omega) ?_⟩
      · rw [show jb w k i = 0 from if_neg q, Nat.zero_add] at h
        exact h
      · rw [show jb w k i = 1 from if_pos q, ← Nat.add_assoc] at h
        exact h
  refine loop (2 * j) 0 0 (by omega) ?_
  rw [Nat.zero_add]
  exact h
theorem sp_wonBy {a0 b0 : Int32} (hw : re_all w) (hO : re_O w o) (hJ : re_J w n o j) (h : ∀ a b, P (nI (wnF w j k)) (Wm w a b)) : ex_Ev (d + 3) mX7_wonBy 0 (ex_in [.inr 23, .inl k] 4) [] (Wm w a0 b0) P := by
  have hj := hJ.1
  have hO' : ∀ a b, re_O (Wm w a b) o := fun a b => re_O_of hO rfl rfl rfl rfl rfl rfl rfl
  have hJ' : ∀ a b, re_J (Wm w a b) n o j := fun a b => re_J_of hJ (Nat.le_refl _) (Nat.le_refl _) rfl rfl rfl rfl rfl rfl rfl rfl rfl rfl
  refine sg_X7_wonBy_0 ?_
  have loop : ∀ m i acc a1 b1, i + m = 2 * j → (∀ a b, P (nI (acc + sr (wb w k) i m)) (Wm w a b)) → ex_Ev (d + 3) mX7_wonBy 4 [some (.inr 23), some (.inl k), some (.inl (nI acc)), some (.inl (nI i))] [] (Wm w a1 b1) P := by
    intro m
    induction m with
    | zero =>
      intro i acc a1 b1 hi h
      have e2 : (2 : Int32) * (Wm w a1 b1) 23 10 = nI (2 * j) := by rw [show (Wm w a1 b1) 23 10 = nI j from hJ.2.2.1]; exact pk_mul 2 j
      exact sg_X7_wonBy_4 (pT (by rw [e2]; exact nI_le (by omega) (by omega)) (h a1 b1))
    | succ m ih =>
      intro i acc a1 b1 hi h
      have e2 : (2 : Int32) * (Wm w a1 b1) 23 10 = nI (2 * j) := by rw [show (Wm w a1 b1) 23 10 = nI j from hJ.2.2.1]; exact pk_mul 2 j
      simp only [sr] at h
      have zero : wb w k i = 0 → ∀ a2 b2, ex_Ev (d + 3) mX7_wonBy 4 [some (.inr 23), some (.inl k), some (.inl (nI acc + 0)), some (.inl (nI i + 1))] [] (Wm w a2 b2) P := fun z a2 b2 => by
        rw [nI_1, Int32.add_zero]
        refine ih (i + 1) acc a2 b2 (by omega) (fun a b => ?_)
        have := h a b
        rw [z, Nat.zero_add] at this
        exact this
      refine sg_X7_wonBy_4 (pF (by rw [e2]; exact nI_ge (by omega) (by omega)) ⟨vp_in_nI (by omega) (by decide), ?_⟩)
      rw [nI_clamp (by omega), show nI i / 2 = nI (i / 2) from pk_div (a := i) (d := 2) (by omega) (by decide) (by decide)]
      rw [show nI i - nI (i / 2) * 2 = nI (i % 2) by rw [← show nI i / 2 = nI (i / 2) from pk_div (a := i) (d := 2) (by omega) (by decide) (by decide)]; exact pk_rem (a := i) (d := 2) (by omega) (by decide) (by decide)]
      have es : i / 2 * 2 + i % 2 = i := by omega
      refine ⟨fun q => zero (if_neg (fun z => q z.1)) a1 b1, fun q => sp_isGreater (best := false) (x := i / 2) (y := i % 2) (re_Wm hw) (hO' _ _) (hJ' _ _) (by omega) (by omega) rfl (fun sc mo hg => t01 ?_) (fun sc mo hg => f01 ?_)⟩
      · rw [es] at hg
        rw [Wm_two, nI_1, nI_1]
        refine ih (i + 1) (acc + 1) sc mo (by omega) (fun a b => ?_)
        have := h a b
        rw [show wb w k i = 1 from if_pos ⟨q, hg⟩, ← Nat.add_assoc] at this
        exact this
      · rw [es] at hg
        rw [Wm_two]
        exact zero (if_neg (fun z => hg z.2)) sc mo
  refine loop (2 * j) 0 0 a0 b0 (by omega) (fun a b => ?_)
  rw [Nat.zero_add]
  exact h a b
theorem sp_joustsOf (hJ : re_J w n o j) (h : P (nI (joF w j k)) w) : ex_Ev d mX7_joustsOf 0 (ex_in [.inr 23, .inl k] 4) [] w P := by
  have hj := hJ.1
  have e2 : (2 : Int32) * w 23 10 = nI (2 * j) := by rw [hJ.2.2.1]; exact pk_mul 2 j
  refine sg_X7_joustsOf_0 ?_
  have loop : ∀ m i acc, i + m = 2 * j → P (nI (acc + sr (jb w k) i m)) w → ex_Ev d mX7_joustsOf 4 [some (.inr 23), some (.inl k), some (.inl (nI acc)), some (.inl (nI i))] [] w P := by
    intro m
    induction m with
    | zero =>
      intro i acc hi h
      exact sg_X7_joustsOf_4 (pT (by rw [e2]; exact nI_le (by omega) (by omega)) h)
    | succ m ih =>
      intro i acc hi h
      rw [sr] at h
      refine sg_X7_joustsOf_4 (pF (by rw [e2]; exact nI_ge (by omega) (by omega)) ⟨vp_in_nI (by omega) (by decide), ?_⟩)
      rw [nI_clamp (by omega), nI_1, nI_1, Int32.add_zero]
      refine ⟨fun q => ih (i + 1) acc (by omega) ?_, fun q => ih (i + 1) (acc + 1) (by omega) ?_⟩
      · rw [show jb w k i = 0 from if_neg q, Nat.zero_add] at h
        exact h
      · rw [show jb w k i = 1 from if_pos q, ← Nat.add_assoc] at h
        exact h
  refine loop (2 * j) 0 0 (by omega) ?_
  rw [Nat.zero_add]
  exact h
def betB (w : ex_WW) (j a b : Nat) : Bool := decide (wnF w j (nI b) < wnF w j (nI a)) || (decide (wnF w j (nI a) = wnF w j (nI b)) && decide (joF w j (nI a) < joF w j (nI b)))
def bsF (w : ex_WW) (j : Nat) : Nat → Nat → Nat → Nat
  | 0, _, b => b
  | m + 1, i, b => bsF w j m (i + 1) (if betB w j i b then i else b)
theorem sp_isBetter {a b : Nat} (hO : re_O w o) (hJ : re_J w n o j) (ht : betB w j a b = true → P 1 w) (hf : betB w j a b = false → P 0 w) : ex_Ev (d + 5) mX2_isBetter 0 (ex_in [.inr 4, .inl (nI a), .inl (nI b)] 5) [] w P := by
  have hj := hJ.1
  have b1 := wnF_b w j (nI a) hj
  have b2 := wnF_b w j (nI b) hj
  have b3 := joF_b w j (nI a) hj
  have b4 := joF_b w j (nI b) hj
  refine sg_X2_isBetter_0 (sp_countSureWins hO hJ (sp_countSureWins hO hJ ⟨fun q => sp_countJousts hJ (sp_countJousts hJ ⟨fun q2 => hf ?_, fun q2 => ht ?_⟩), fun q => ⟨fun q2 => hf ?_, fun q2 => ht ?_⟩⟩)) <;> rw [nI_eq (by omega) (by omega)] at q <;> rw [nI_leI (by omega) (by omega)] at q2 <;> unfold betB <;> simp <;> omega
end SPN
theorem pp_won : pr_won re_all := by
  intro w hw k
  obtain ⟨n, f, o, j, ch, hK, hT, hO, hJ, hC, hF⟩ := id hw
  obtain ⟨k1, k2, k3, k4, k5, k6, k7, k8⟩ := id hK
  refine sg_X6_won_0 (sp_has k2 k1 (fun hk => t01 (sp_countSureWins hO hJ ?_)) (fun hk => f01 ?_))
  · refine sg_X7_won_0 (sp_isKnight k3 k1 (fun _ => t01 ?_) (fun q => absurd hk q))
    have := sp_wonBy (d := 56) (k := k) (a0 := w 23 24) (b0 := w 23 25) (P := fun r2 u2 => nI (wnF w j k) = r2 ∧ re_all u2) hw hO hJ (fun a b => ⟨rfl, re_Wm hw⟩)
    rw [Wm_id] at this
    exact this
  · exact sg_X7_won_0 (sp_isKnight k3 k1 (fun q => absurd q hk) (fun _ => f01 ⟨rfl, hw⟩))
theorem pp_best : pr_best re_all := by
  intro w hw
  obtain ⟨n, f, o, j, ch, hK, hT, hO, hJ, hC, hF⟩ := id hw
  obtain ⟨k1, k2, k3, k4, k5, k6, k7, k8⟩ := id hK
  have hj := hJ.1
  have hJ' : ∀ a b, re_J (Wm w a b) n o j := fun a b => re_J_of hJ (Nat.le_refl _) (Nat.le_refl _) rfl rfl rfl rfl rfl rfl rfl rfl rfl rfl
  refine sg_X6_best_0 (sg_X4_size_0 ?_)
  rw [k2]
  refine ⟨fun h0 => ?_, fun h0 => ?_⟩
  · have hn : 0 < n := by
      rcases Nat.eq_zero_or_pos n with q | q
      · exact absurd (by rw [q]; rfl) h0
      · exact q
    have mod : ex_Ev 60 mX7_best 0 (ex_in [.inr 23] 4) [] w (fun r2 u2 => nI (bsF w j (n - 1) 1 0) = r2 ∧ re_all u2) := by
      refine sg_X7_best_0 ?_
      have loop : ∀ m i b a1 b1, i + m = n → 1 ≤ i → b < n → bsF w j m i b = bsF w j (n - 1) 1 0 → ex_Ev 60 mX7_best 5 [some (.inr 23), some (.inl (nI b)), some (.inl (nI i)), none] [] (Wm w a1 b1) (fun r2 u2 => nI (bsF w j (n - 1) 1 0) = r2 ∧ re_all u2) := by
        intro m
        induction m with
        | zero =>
          intro i b a1 b1 hi h1 hb h
          refine sg_X7_best_5 (pT (by rw [show (Wm w a1 b1) 23 0 = nI n from k3]; exact nI_le (by omega) (by omega)) ⟨?_, re_Wm hw⟩)
          rw [← h]; rfl
        | succ m ih =>
          intro i b a1 b1 hi h1 hb h
          rw [bsF] at h
          have b1' := wnF_b w j (nI i) hj
          have b2' := wnF_b w j (nI b) hj
          have b3' := joF_b w j (nI i) hj
          have b4' := joF_b w j (nI b) hj
          have yes : betB w j i b = true → ∀ a b', ex_Ev 60 mX7_best 62 [some (.inr 23), some (.inl (nI b)), some (.inl (nI i)), some (.inl 1)] [] (Wm w a b') (fun r2 u2 => nI (bsF w j (n - 1) 1 0) = r2 ∧ re_all u2) := fun z a b' => by
            refine sg_X7_best_62 (t01 ?_)
            rw [nI_1]
            refine ih (i + 1) i a b' (by omega) (by omega) (by omega) ?_
            rw [z] at h
            exact h
          have nope : betB w j i b = false → ∀ a b', ex_Ev 60 mX7_best 62 [some (.inr 23), some (.inl (nI b)), some (.inl (nI i)), some (.inl 0)] [] (Wm w a b') (fun r2 u2 => nI (bsF w j (n - 1) 1 0) = r2 ∧ re_all u2) := fun z a b' => by
            refine sg_X7_best_62 (f01 ?_)
            rw [nI_1]
            refine ih (i + 1) b a b' (by omega) (by omega) hb ?_
            rw [z] at h
            exact h
          refine sg_X7_best_5 (pF (by rw [show (Wm w a1 b1) 23 0 = nI n from k3]; exact nI_ge (by omega) (by omega)) (pF (nI_pos (by omega)) ?_))
          refine sp_wonBy hw hO hJ (fun a2 b2 => sp_wonBy hw hO hJ (fun a3 b3 => ⟨fun q => yes ?_ _ _, fun q => sp_wonBy hw hO hJ (fun a4 b4 => sp_wonBy hw hO hJ (fun a5 b5 => ⟨fun q2 => nope ?_ _ _, fun q2 => sp_joustsOf (hJ' _ _) (sp_joustsOf (hJ' _ _) ⟨fun q3 => nope ?_ _ _, fun q3 => yes ?_ _ _⟩)⟩))⟩))
          · rw [nI_ltI (by omega) (by omega)] at q
            unfold betB; simp; omega
          · rw [nI_ltI (by omega) (by omega)] at q
            rw [nI_eq (by omega) (by omega)] at q2
            unfold betB; simp; omega
          · rw [nI_ltI (by omega) (by omega)] at q
            rw [nI_eq (by omega) (by omega)] at q2
            have q3' : joF w j (nI b) ≤ joF w j (nI i) := (nI_leI (by omega) (by omega)).mp q3
            unfold betB; simp; omega
          · rw [nI_ltI (by omega) (by omega)] at q
            rw [nI_eq (by omega) (by omega)] at q2
            have q3'' : ¬ nI (joF w j (nI b)) ≤ nI (joF w j (nI i)) := q3
            have q3' : ¬ joF w j (nI b) ≤ joF w j (nI i) := fun z => q3'' (nI_le z (by omega))
            unfold betB; simp; omega
      refine sg_X7_best_5 (pF (by rw [k3]; exact nI_ge (a := 0) hn (by omega)) (pT (by decide) (sg_X7_best_62 (t01 ?_))))
      have := loop (n - 1) 1 0 (w 23 24) (w 23 25) (by omega) (by omega) hn rfl
      rw [Wm_id] at this
      exact this
    have loop : ∀ m i b, i + m = n → b < n → bsF w j m i b = bsF w j (n - 1) 1 0 → ex_Ev 60 mX6_best 17 [some (.inr 0), some (.inl (nI b)), some (.inl (nI i))] [] w (fun r1 u1 => ex_Ev 60 mX7_best 0 (ex_in [.inr 23] 4) [] u1 (fun r2 u2 => r1 = r2 ∧ re_all u2)) := by
      intro m
      induction m with
      | zero =>
        intro i b hi hb h
        refine sg_X6_best_17 (sg_X4_size_0 (pT (by rw [k2]; exact nI_le (by omega) (by omega)) ?_))
        rw [show b = bsF w j (n - 1) 1 0 from h]
        exact mod
      | succ m ih =>
        intro i b hi hb h
        rw [bsF] at h
        refine sg_X6_best_17 (sg_X4_size_0 (pF (by rw [k2]; exact nI_ge (by omega) (by omega)) (sp_isBetter hO hJ (fun z => t01 ?_) (fun z => f01 ?_))))
        · rw [z] at h; rw [nI_1]; exact ih (i + 1) i (by omega) (by omega) h
        · rw [z] at h; rw [nI_1]; exact ih (i + 1) b (by omega) hb h
    exact loop (n - 1) 1 0 (by omega) hn rfl
  · have hn : n = 0 := (nI_eq (by omega) (b := 0) (by decide)).mp h0
    exact sg_X7_best_0 (sg_X7_best_5 (pT (by rw [k3, hn]; decide) ⟨rfl, hw⟩))
