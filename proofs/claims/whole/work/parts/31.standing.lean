-- numbers that stay small
theorem bm32 {z : Int} (h1 : -2147483648 ≤ z) (h2 : z < 2147483648) : z.bmod (2 ^ 32) = z := by
  rw [Int.bmod_def]
  split
  · omega
  · omega
theorem ti_add {a b : Int32} (h1 : -2147483648 ≤ a.toInt + b.toInt) (h2 : a.toInt + b.toInt < 2147483648) : (a + b).toInt = a.toInt + b.toInt := by
  rw [Int32.toInt_add, bm32 h1 h2]
theorem ti_sub {a b : Int32} (h1 : -2147483648 ≤ a.toInt - b.toInt) (h2 : a.toInt - b.toInt < 2147483648) : (a - b).toInt = a.toInt - b.toInt := by
  rw [Int32.toInt_sub, bm32 h1 h2]
theorem ti_mul {a b : Int32} (h1 : -2147483648 ≤ a.toInt * b.toInt) (h2 : a.toInt * b.toInt < 2147483648) : (a * b).toInt = a.toInt * b.toInt := by
  rw [Int32.toInt_mul, bm32 h1 h2]
theorem ti_div {a b : Int32} (h1 : -2147483648 ≤ a.toInt.tdiv b.toInt) (h2 : a.toInt.tdiv b.toInt < 2147483648) : (a / b).toInt = a.toInt.tdiv b.toInt := by
  rw [Int32.toInt_div, bm32 h1 h2]
theorem ti_0 : (0 : Int32).toInt = 0 := by decide
theorem ti_1 : (1 : Int32).toInt = 1 := by decide
theorem ti_6 : (6 : Int32).toInt = 6 := by decide
theorem ti_7 : (7 : Int32).toInt = 7 := by decide
theorem neg_msb (x : Int32) : x < 0 ↔ x.toBitVec.msb = true := by
  rw [lt_toInt, ti_0, ← Int32.toInt_toBitVec, BitVec.toInt_neg_iff, BitVec.msb_eq_decide]
  simp
  omega
theorem xor7_neg (x : Int32) : 0 ≤ x ^^^ 7 ↔ 0 ≤ x := by
  have h : (x ^^^ 7) < 0 ↔ x < 0 := by
    rw [neg_msb, neg_msb, Int32.toBitVec_xor, BitVec.msb_xor, show (7 : Int32).toBitVec.msb = false by decide, Bool.xor_false]
  constructor
  · intro q
    exact i32_le_of_not_lt (fun z => i32_not_lt q (h.mpr z))
  · intro q
    exact i32_le_of_not_lt (fun z => i32_not_lt q (h.mp z))
section SPS
variable {d : Nat} {w : ex_WW} {P : Int32 → ex_WW → Prop}
theorem sp_floorDiv7 {x : Int32} (hx : -100000 ≤ x.toInt ∧ x.toInt ≤ 100000) (h : ∀ r : Int32, r.toInt = x.toInt / 7 → P r w) : ex_Ev d mJ9_floorDiv_7cf53 0 (ex_in [.inl x, .inl 7] 3) [] w P := by
  have e7 := ti_7
  have ht : x.toInt.tdiv 7 = if 0 ≤ x.toInt then x.toInt / 7 else -((-x.toInt) / 7) := by
    split
    · next h0 => exact Int.tdiv_eq_ediv_of_nonneg h0
    · next h0 =>
      have : x.toInt.tdiv 7 = -((-x.toInt).tdiv 7) := by rw [Int.neg_tdiv, Int.neg_neg]
      rw [this, Int.tdiv_eq_ediv_of_nonneg (by omega)]
  have hd : (x / 7).toInt = x.toInt.tdiv 7 := by
    have := ti_div (a := x) (b := 7) (by rw [e7, ht]; split <;> omega) (by rw [e7, ht]; split <;> omega)
    rw [this, e7]
  refine sg_J9_floorDiv_7cf53_0 ⟨by decide, fun hp => ?_, fun hp => ⟨fun he => ?_, fun he => ?_⟩⟩
  · rw [xor7_neg, le_toInt, ti_0] at hp
    refine h _ ?_
    rw [hd, ht, if_pos hp]
  · rw [xor7_neg, le_toInt, ti_0] at hp
    refine h _ ?_
    have hm : ((x / 7) * 7).toInt = (x / 7).toInt * 7 := by
      have := ti_mul (a := x / 7) (b := 7) (by rw [e7, hd, ht, if_neg hp]; omega) (by rw [e7, hd, ht, if_neg hp]; omega)
      rw [this, e7]
    rw [he] at hm
    rw [hd, ht, if_neg hp] at hm ⊢
    omega
  · rw [xor7_neg, le_toInt, ti_0] at hp
    have hm : ((x / 7) * 7).toInt = (x / 7).toInt * 7 := by
      have := ti_mul (a := x / 7) (b := 7) (by rw [e7, hd, ht, if_neg hp]; omega) (by rw [e7, hd, ht, if_neg hp]; omega)
      rw [this, e7]
    have hne : ¬ (x / 7).toInt * 7 = x.toInt := fun q => he (Int32.toInt_inj.mp (hm.trans q))
    refine h _ ?_
    rw [ti_sub (by rw [hd, ht, if_neg hp, ti_1]; omega) (by rw [hd, ht, if_neg hp, ti_1]; omega), ti_1]
    rw [hd, ht, if_neg hp] at hne ⊢
    omega
-- what a stroke brings, what a gap may bring, what a sheet brings
def sgI (wo : Nat → Int32) (tie : Int32) (t : Nat) : Int := 7 * (wo t).toInt + (if t ≠ 0 ∧ nI t = tie then 1 else 0)
def exI (wo : Nat → Int32) (tie : Int32) (best : Bool) : Nat → Nat → Int → Int
  | 0, _, acc => acc
  | m + 1, i, acc => exI wo tie best m (i + 1) (if best then max acc (sgI wo tie i) else min acc (sgI wo tie i))
def gapI (wo : Nat → Int32) (tie : Int32) (best : Bool) : Int := exI wo tie best 5 1 0
def stI (wo : Nat → Int32) (tie : Int32) (best : Bool) (x : Int32) : Int := if x = 6 then gapI wo tie best else sgI wo tie x.toNatClampNeg
def totI (wo : Nat → Int32) (tie : Int32) (best : Bool) (g : Nat → Int32) : Nat → Nat → Int → Int
  | 0, _, acc => acc
  | m + 1, i, acc => totI wo tie best g m (i + 1) (acc + stI wo tie best (g i))
def okW (wo : Nat → Int32) : Prop := wo 0 = 0 ∧ ∀ t, t < 6 → -99 ≤ (wo t).toInt ∧ (wo t).toInt ≤ 99
theorem sgI_b {wo : Nat → Int32} {tie : Int32} (h : okW wo) {t : Nat} (ht : t < 6) : -693 ≤ sgI wo tie t ∧ sgI wo tie t ≤ 694 := by
  have := h.2 t ht
  unfold sgI
  split <;> omega
theorem sgI_0 {wo : Nat → Int32} {tie : Int32} (h : okW wo) : sgI wo tie 0 = 0 := by
  unfold sgI
  rw [h.1, if_neg (by simp)]
  decide
theorem exI_b {wo : Nat → Int32} {tie : Int32} (h : okW wo) (best : Bool) : ∀ m i acc, i + m ≤ 6 → -693 ≤ acc ∧ acc ≤ 694 → -693 ≤ exI wo tie best m i acc ∧ exI wo tie best m i acc ≤ 694 := by
  intro m
  induction m with
  | zero => intro i acc _ ha; exact ha
  | succ m ih =>
    intro i acc hi ha
    rw [exI]
    have := sgI_b (tie := tie) h (t := i) (by omega)
    refine ih (i + 1) _ (by omega) ?_
    cases best <;> simp <;> omega
theorem gapI_b {wo : Nat → Int32} {tie : Int32} (h : okW wo) (best : Bool) : -693 ≤ gapI wo tie best ∧ gapI wo tie best ≤ 694 := exI_b h best 5 1 0 (by decide) (by decide)
theorem stI_b {wo : Nat → Int32} {tie : Int32} (h : okW wo) (best : Bool) {x : Int32} (hx : isN 7 x) : -693 ≤ stI wo tie best x ∧ stI wo tie best x ≤ 694 := by
  unfold stI
  by_cases h6 : x = 6
  · rw [if_pos h6]; exact gapI_b h best
  · rw [if_neg h6]
    obtain ⟨t, ht, rfl⟩ := hx
    rw [nI_clamp (by omega)]
    refine sgI_b h ?_
    rcases Nat.lt_or_ge t 6 with q | q
    · exact q
    · exact absurd (by rw [show t = 6 by omega]; rfl) h6
theorem totI_b {wo : Nat → Int32} {tie : Int32} (h : okW wo) (best : Bool) {g : Nat → Int32} : ∀ (m i : Nat) (acc : Int), (∀ c, i ≤ c → c < i + m → isN 7 (g c)) → acc - 700 * (m : Int) ≤ totI wo tie best g m i acc ∧ totI wo tie best g m i acc ≤ acc + 700 * (m : Int) := by
  intro m
  induction m with
  | zero => intro i acc _; simp [totI]
  | succ m ih =>
    intro i acc hg
    rw [totI]
    have h1 := stI_b (tie := tie) h best (hg i (Nat.le_refl _) (by omega))
    have h2 := ih (i + 1) (acc + stI wo tie best (g i)) (fun c a b => hg c (by omega) (by omega))
    push_cast
    omega
theorem sp_standingOf {k t : Nat} {wo : Nat → Int32} {tie : Int32} (hk : k < 6) (ht : t < 6) (hw : ∀ t, t < 6 → w 11 (k * 6 + t) = wo t) (htie : w 12 k = tie) (ho : okW wo) (h : ∀ x : Int32, x.toInt = sgI wo tie t → P x w) : ex_Ev d mX3_standingOf 0 (ex_in [.inr 2, .inl (nI k), .inl (nI t)] 4) [] w P := by
  have hb := ho.2 t ht
  have iv := vp_in_nI (show k * 6 + t < 36 by omega) (N := 36) (by decide)
  have e7 := ti_7
  have em : (wo t * 7).toInt = (wo t).toInt * 7 := by
    have := ti_mul (a := wo t) (b := 7) (by rw [e7]; omega) (by rw [e7]; omega)
    rw [this, e7]
  refine sg_X3_standingOf_0 ?_
  rw [m66, nI_clamp (by omega), nI_clamp (by omega), hw t ht, htie]
  refine ⟨fun h0 => ⟨iv, h _ ?_⟩, fun h0 => ⟨vp_in_nI hk (by decide), fun h1 => ⟨iv, h _ ?_⟩, fun h1 => ⟨iv, h _ ?_⟩⟩⟩
  · have t0 : t = 0 := (nI_eq (by omega) (b := 0) (by decide)).mp h0
    unfold sgI
    rw [Int32.add_zero, em, if_neg (by simp [t0])]
    omega
  · unfold sgI
    rw [Int32.add_zero, em, if_neg (fun q => h1 q.2)]
    omega
  · unfold sgI
    have t0 : t ≠ 0 := fun q => h0 (by rw [q]; rfl)
    rw [ti_add (by rw [em, ti_1]; omega) (by rw [em, ti_1]; omega), em, ti_1, if_pos ⟨t0, h1⟩]
    omega
theorem sp_min {x y : Int32} (h : ∀ r : Int32, r.toInt = min x.toInt y.toInt → P r w) : ex_Ev d mJ9_min_7cf53 0 (ex_in [.inl x, .inl y] 2) [] w P := by
  refine sg_J9_min_7cf53_0 ⟨fun q => h _ ?_, fun q => h _ ?_⟩ <;> rw [lt_toInt] at q <;> omega
theorem sp_max {x y : Int32} (h : ∀ r : Int32, r.toInt = max x.toInt y.toInt → P r w) : ex_Ev d mJ9_max_7cf53 0 (ex_in [.inl x, .inl y] 2) [] w P := by
  refine sg_J9_max_7cf53_0 ⟨fun q => h _ ?_, fun q => h _ ?_⟩ <;> rw [lt_toInt] at q <;> omega
theorem sp_leastO {k : Nat} {wo : Nat → Int32} {tie : Int32} (hk : k < 6) (hw : ∀ t, t < 6 → w 11 (k * 6 + t) = wo t) (htie : w 12 k = tie) (ho : okW wo) (h : ∀ x : Int32, x.toInt = gapI wo tie false → P x w) : ex_Ev (d + 1) mX3_leastStanding 0 (ex_in [.inr 2, .inl (nI k)] 4) [] w P := by
  refine sg_X3_leastStanding_0 ?_
  have loop : ∀ m i (acc : Int32), i + m = 6 → (∀ x : Int32, x.toInt = exI wo tie false m i acc.toInt → P x w) → ex_Ev (d + 1) mX3_leastStanding 4 [some (.inr 2), some (.inl (nI k)), some (.inl acc), some (.inl (nI i))] [] w P := by
    intro m
    induction m with
    | zero =>
      intro i acc hi h
      exact sg_X3_leastStanding_4 (pT (by rw [show i = 6 by omega]; decide) (h acc rfl))
    | succ m ih =>
      intro i acc hi h
      refine sg_X3_leastStanding_4 (pF (fun q => nI_ge (a := i) (b := 6) (by omega) (by decide) q) (sp_standingOf hk (by omega) hw htie ho (fun x hx => sp_min (fun r hr => ?_))))
      rw [nI_1]
      refine ih (i + 1) r (by omega) (fun x' hx' => h x' ?_)
      rw [exI, hx', hr, hx]
      simp
  exact loop 5 1 0 rfl (fun x hx => h x (by rw [hx, ti_0]; rfl))
theorem sp_greatestO {k : Nat} {wo : Nat → Int32} {tie : Int32} (hk : k < 6) (hw : ∀ t, t < 6 → w 11 (k * 6 + t) = wo t) (htie : w 12 k = tie) (ho : okW wo) (h : ∀ x : Int32, x.toInt = gapI wo tie true → P x w) : ex_Ev (d + 1) mX3_greatestStanding 0 (ex_in [.inr 2, .inl (nI k)] 4) [] w P := by
  refine sg_X3_greatestStanding_0 ?_
  have loop : ∀ m i (acc : Int32), i + m = 6 → (∀ x : Int32, x.toInt = exI wo tie true m i acc.toInt → P x w) → ex_Ev (d + 1) mX3_greatestStanding 4 [some (.inr 2), some (.inl (nI k)), some (.inl acc), some (.inl (nI i))] [] w P := by
    intro m
    induction m with
    | zero =>
      intro i acc hi h
      exact sg_X3_greatestStanding_4 (pT (by rw [show i = 6 by omega]; decide) (h acc rfl))
    | succ m ih =>
      intro i acc hi h
      refine sg_X3_greatestStanding_4 (pF (fun q => nI_ge (a := i) (b := 6) (by omega) (by decide) q) (sp_standingOf hk (by omega) hw htie ho (fun x hx => sp_max (fun r hr => ?_))))
      rw [nI_1]
      refine ih (i + 1) r (by omega) (fun x' hx' => h x' ?_)
      rw [exI, hx', hr, hx]
      simp
  exact loop 5 1 0 rfl (fun x hx => h x (by rw [hx, ti_0]; rfl))
theorem sp_standingWith {s k : Nat} {wo : Nat → Int32} {tie gp : Int32} {best : Bool} (hs : s < 60) (hl : w 14 (s / 2) = nI k) (hk : k < 6) (hw : ∀ t, t < 6 → w 11 (k * 6 + t) = wo t) (htie : w 12 k = tie) (ho : okW wo) (hg : gp.toInt = gapI wo tie best) (hst : ∀ c, c < 6 → isN 7 (w 17 (s * 6 + c)))
    (h : ∀ x : Int32, x.toInt = totI wo tie best (fun c => w 17 (s * 6 + c)) 6 0 0 → P x w) : ex_Ev (d + 1) mX2_standingWith 0 (ex_in [.inr 4, .inl (nI s), .inl gp] 7) [] w P := by
  refine sg_X2_standingWith_0 ?_
  have e2 : nI s / 2 = nI (s / 2) := pk_div (a := s) (d := 2) (by omega) (by decide) (by decide)
  rw [e2, nI_clamp (by omega), hl]
  refine ⟨vp_in_nI (by omega) (by decide), ?_⟩
  have loop : ∀ (m i : Nat) (acc : Int32), i + m = 6 → -700 * (i : Int) ≤ acc.toInt ∧ acc.toInt ≤ 700 * (i : Int) → (∀ x : Int32, x.toInt = totI wo tie best (fun c => w 17 (s * 6 + c)) m i acc.toInt → P x w) → ex_Ev (d + 1) mX2_standingWith 15 [some (.inr 4), some (.inl (nI s)), some (.inl gp), some (.inl (nI k)), some (.inl acc), some (.inl (nI i)), none] [] w P := by
    intro m
    induction m with
    | zero =>
      intro i acc hi _ h
      exact sg_X2_standingWith_15 (pT (by rw [show i = 6 by omega]; decide) (h acc rfl))
    | succ m ih =>
      intro i acc hi hb h
      have hs7 := hst i (by omega)
      have hsb := stI_b (tie := tie) ho best hs7
      refine sg_X2_standingWith_15 (pF (fun q => nI_ge (a := i) (b := 6) (by omega) (by decide) q) (sp_strokeIn hs (by omega) ⟨fun h6 => ?_, fun h6 => ?_⟩))
      · obtain ⟨t, ht, et⟩ := hs7
        have ht6 : t < 6 := by
          rcases Nat.lt_or_ge t 6 with q | q
          · exact q
          · exact absurd (by rw [et, show t = 6 by omega]; rfl) h6
        rw [et]
        refine sp_standingOf hk ht6 hw htie ho (fun x hx => ?_)
        have est : stI wo tie best (w 17 (s * 6 + i)) = sgI wo tie t := by
          unfold stI
          rw [if_neg h6, et, nI_clamp (by omega)]
        have ea : (acc + x).toInt = acc.toInt + sgI wo tie t := by
          rw [ti_add (by omega) (by omega), hx]
        rw [nI_1]
        refine ih (i + 1) (acc + x) (by omega) (by push_cast; omega) (fun x' hx' => h x' ?_)
        rw [totI, hx', ea, est]
      · have est : stI wo tie best (w 17 (s * 6 + i)) = gapI wo tie best := by
          unfold stI
          rw [if_pos h6]
        have ea : (acc + gp).toInt = acc.toInt + gapI wo tie best := by
          rw [ti_add (by omega) (by omega), hg]
        rw [nI_1]
        refine ih (i + 1) (acc + gp) (by omega) (by push_cast; omega) (fun x' hx' => h x' ?_)
        rw [totI, hx', ea, est]
  exact loop 6 0 0 rfl (by decide) (fun x hx => h x (by rw [hx, ti_0]))
end SPS
