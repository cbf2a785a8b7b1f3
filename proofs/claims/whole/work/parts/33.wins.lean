def oth (s : Nat) : Nat := if s % 2 = 0 then s + 1 else s - 1
theorem oth_x : ∀ s, s < 60 → nI s ^^^ 1 = nI (oth s) := by decide +kernel
theorem oth_lt {s j : Nat} (h : s < 2 * j) : oth s < 2 * j := by unfold oth; split <;> omega
theorem oth_div (s : Nat) : oth s / 2 = s / 2 := by unfold oth; split <;> omega
def TT (w : ex_WW) (s : Nat) (best : Bool) : Int := totI (fun t => w 29 (7 * (w 31 (s / 2)).toNatClampNeg + t)) (w 29 (7 * (w 31 (s / 2)).toNatClampNeg + 6)) best (fun c => w 32 (s * 6 + c)) 6 0 0
/-- what the sheets of a joust are scored by -/
theorem re_sheet {w : ex_WW} {n o j s : Nat} (hO : re_O w o) (hJ : re_J w n o j) (hs : s < 2 * j) : ∃ k, k < 6 ∧ w 14 (s / 2) = nI k ∧ w 31 (s / 2) = nI k ∧ (w 31 (s / 2)).toNatClampNeg = k ∧ (∀ t, t < 6 → w 11 (k * 6 + t) = w 29 (7 * k + t)) ∧ w 12 k = w 29 (7 * k + 6) ∧ isN 6 (w 29 (7 * k + 6)) ∧ okW (fun t => w 29 (7 * k + t)) ∧ (∀ c, c < 6 → isN 7 (w 17 (s * 6 + c))) := by
  obtain ⟨o1, o2, o3, o4, o5, o6⟩ := hO
  obtain ⟨j1, j2, j3, j4, j5, j6, j7, j8, j9, j10, j11, j12⟩ := hJ
  obtain ⟨k, hk, e⟩ := j8 (s / 2) (by omega)
  obtain ⟨p1, p2, p3, p4⟩ := o6 k hk
  have e31 : w 31 (s / 2) = nI k := by rw [← j4]; exact e
  refine ⟨k, by omega, e, e31, by rw [e31, nI_clamp (by omega)], fun t ht => (p1 t ht).1, p3, by rw [← p3]; exact p4, ⟨?_, fun t ht => ?_⟩, fun c hc => j12 _ (by omega)⟩
  · have := (p1 0 (by decide)).1
    show w 29 (7 * k + 0) = 0
    rw [← this]
    exact p2
  · have := p1 t ht
    show -99 ≤ (w 29 (7 * k + t)).toInt ∧ (w 29 (7 * k + t)).toInt ≤ 99
    rw [← this.1]
    exact this.2
section SPW
variable {d : Nat} {w : ex_WW} {P : Int32 → ex_WW → Prop} {n o j s : Nat}
theorem TT_b (hO : re_O w o) (hJ : re_J w n o j) (hs : s < 2 * j) (best : Bool) : -5000 ≤ TT w s best ∧ TT w s best ≤ 5000 := by
  obtain ⟨k, hk, e1, e2, e3, e4, e5, e6, e7, e8⟩ := re_sheet hO hJ hs
  unfold TT
  rw [e3]
  have := totI_b (tie := w 29 (7 * k + 6)) e7 best (g := fun c => w 32 (s * 6 + c)) 6 0 0 (fun c _ hc => by show isN 7 (w 32 _); rw [← hJ.2.2.2.2.2.2.1]; exact e8 c (by omega))
  omega
theorem sp_leastS (hO : re_O w o) (hJ : re_J w n o j) (hs : s < 2 * j) (h : ∀ x : Int32, x.toInt = TT w s false → P x w) : ex_Ev (d + 2) mX2_leastStanding 0 (ex_in [.inr 4, .inl (nI s)] 2) [] w P := by
  obtain ⟨k, hk, e1, e2, e3, e4, e5, e6, e7, e8⟩ := re_sheet hO hJ hs
  have hj := hJ.1
  refine sg_X2_leastStanding_0 ?_
  rw [show nI s / 2 = nI (s / 2) from pk_div (a := s) (d := 2) (by omega) (by decide) (by decide), nI_clamp (by omega), e1]
  refine ⟨vp_in_nI (by omega) (by decide), sp_leastO hk e4 e5 e7 (fun x hx => sp_standingWith (by omega) e1 hk e4 e5 e7 hx e8 (fun x' hx' => h x' ?_))⟩
  rw [hx']
  unfold TT
  rw [e3, ← hJ.2.2.2.2.2.2.1]
theorem sp_greatestS (hO : re_O w o) (hJ : re_J w n o j) (hs : s < 2 * j) (h : ∀ x : Int32, x.toInt = TT w s true → P x w) : ex_Ev (d + 2) mX2_greatestStanding 0 (ex_in [.inr 4, .inl (nI s)] 2) [] w P := by
  obtain ⟨k, hk, e1, e2, e3, e4, e5, e6, e7, e8⟩ := re_sheet hO hJ hs
  have hj := hJ.1
  refine sg_X2_greatestStanding_0 ?_
  rw [show nI s / 2 = nI (s / 2) from pk_div (a := s) (d := 2) (by omega) (by decide) (by decide), nI_clamp (by omega), e1]
  refine ⟨vp_in_nI (by omega) (by decide), sp_greatestO hk e4 e5 e7 (fun x hx => sp_standingWith (by omega) e1 hk e4 e5 e7 hx e8 (fun x' hx' => h x' ?_))⟩
  rw [hx']
  unfold TT
  rw [e3, ← hJ.2.2.2.2.2.2.1]
theorem sp_winsSurely (hO : re_O w o) (hJ : re_J w n o j) (hs : s < 2 * j) (ht : TT w (oth s) true < TT w s false → P 1 w) (hf : ¬ TT w (oth s) true < TT w s false → P 0 w) : ex_Ev (d + 3) mX2_winsSurely 0 (ex_in [.inr 4, .inl (nI s)] 2) [] w P := by
  have hj := hJ.1
  refine sg_X2_winsSurely_0 (sp_leastS hO hJ hs (fun a ha => ?_))
  rw [oth_x s (by omega)]
  refine sp_greatestS hO hJ (oth_lt hs) (fun b hb => ⟨fun q => hf ?_, fun q => ht ?_⟩) <;> rw [le_toInt] at q <;> omega
theorem sp_mayWin (hO : re_O w o) (hJ : re_J w n o j) (hs : s < 2 * j) (ht : TT w (oth s) false < TT w s true → P 1 w) (hf : ¬ TT w (oth s) false < TT w s true → P 0 w) : ex_Ev (d + 3) mX2_mayWin 0 (ex_in [.inr 4, .inl (nI s)] 2) [] w P := by
  have hj := hJ.1
  refine sg_X2_mayWin_0 (sp_greatestS hO hJ hs (fun a ha => ?_))
  rw [oth_x s (by omega)]
  refine sp_leastS hO hJ (oth_lt hs) (fun b hb => ⟨fun q => hf ?_, fun q => ht ?_⟩) <;> rw [le_toInt] at q <;> omega
theorem sp_reckonS {x y : Nat} {best : Bool} {bb : Int32} (hO : re_O w o) (hJ : re_J w n o j) (hx : x < j) (hy : y < 2) (hbb : bb = if best then 1 else 0) (h : ∀ sc mo : Int32, 7 * sc.toInt + mo.toInt = TT w (x * 2 + y) best → 0 ≤ mo.toInt → mo.toInt ≤ 6 → P 0 (Wm w sc mo)) : ex_Ev (d + 1) mX7_reckon 0 (ex_in [.inr 23, .inl (nI x), .inl (nI y), .inl bb] 10) [] w P := by
  obtain ⟨k, hk, e1, e2, e3, e4, e5, e6, e7, e8⟩ := re_sheet (s := x * 2 + y) hO hJ (by omega)
  have hj := hJ.1
  have ed : (x * 2 + y) / 2 = x := by omega
  rw [ed] at e1 e2 e3
  refine sp_reckon (by omega) hy e2 hk (fun t ht => rfl) rfl e6 e7 (fun c hc => by rw [← hJ.2.2.2.2.2.2.1]; exact e8 c hc) hbb (fun sc mo h1 h2 h3 => h sc mo ?_ h2 h3)
  rw [h1]
  unfold TT
  rw [ed, e3]
theorem oth_xy {x y : Nat} (hy : y < 2) : oth (x * 2 + y) = x * 2 + (1 - y) := by
  unfold oth
  rcases (show y = 0 ∨ y = 1 by omega) with rfl | rfl
  · rw [if_pos (by omega)]
  · rw [if_neg (by omega)]; omega
theorem sp_isGreater {x y : Nat} {best : Bool} {bb : Int32} (hw : re_all w) (hO : re_O w o) (hJ : re_J w n o j) (hx : x < j) (hy : y < 2) (hbb : bb = if best then 1 else 0) (ht : ∀ sc mo : Int32, TT w (oth (x * 2 + y)) (!best) < TT w (x * 2 + y) best → P 1 (Wm w sc mo)) (hf : ∀ sc mo : Int32, ¬ TT w (oth (x * 2 + y)) (!best) < TT w (x * 2 + y) best → P 0 (Wm w sc mo)) : ex_Ev (d + 2) mX7_isGreater 0 (ex_in [.inr 23, .inl (nI x), .inl (nI y), .inl bb] 6) [] w P := by
  have hO' : ∀ a b, re_O (Wm w a b) o := fun a b => re_O_of hO rfl rfl rfl rfl rfl rfl rfl
  have hJ' : ∀ a b, re_J (Wm w a b) n o j := fun a b => re_J_of hJ (Nat.le_refl _) (Nat.le_refl _) rfl rfl rfl rfl rfl rfl rfl rfl rfl rfl
  have e1 : (1 : Int32) - nI y = nI (1 - y) := pk_sub (a := 1) (by omega)
  refine sg_X7_isGreater_0 (sp_reckonS hO hJ hx hy hbb (fun sc mo h1 h2 h3 => ?_))
  rw [e1]
  have fin : ∀ sc' mo' : Int32, 7 * sc'.toInt + mo'.toInt = TT (Wm w sc mo) (x * 2 + (1 - y)) (!best) → 0 ≤ mo'.toInt → mo'.toInt ≤ 6 → (((Wm w sc mo) 23 24 = (Wm (Wm w sc mo) sc' mo') 23 24 → (((Wm w sc mo) 23 25 ≤ (Wm (Wm w sc mo) sc' mo') 23 25 → P 0 (Wm (Wm w sc mo) sc' mo')) ∧ (¬ (Wm w sc mo) 23 25 ≤ (Wm (Wm w sc mo) sc' mo') 23 25 → P 1 (Wm (Wm w sc mo) sc' mo')))) ∧ (¬ (Wm w sc mo) 23 24 = (Wm (Wm w sc mo) sc' mo') 23 24 → (((Wm w sc mo) 23 24 ≤ (Wm (Wm w sc mo) sc' mo') 23 24 → P 0 (Wm (Wm w sc mo) sc' mo')) ∧ (¬ (Wm w sc mo) 23 24 ≤ (Wm (Wm w sc mo) sc' mo') 23 24 → P 1 (Wm (Wm w sc mo) sc' mo'))))) := by
    intro sc' mo' g1 g2 g3
    rw [Wm_two]
    rw [show (Wm w sc mo) 23 24 = sc from rfl, show (Wm w sc' mo') 23 24 = sc' from rfl, show (Wm w sc mo) 23 25 = mo from rfl, show (Wm w sc' mo') 23 25 = mo' from rfl]
    have g1' : 7 * sc'.toInt + mo'.toInt = TT w (oth (x * 2 + y)) (!best) := by rw [oth_xy hy]; exact g1
    refine ⟨fun q => ⟨fun q2 => hf _ _ ?_, fun q2 => ht _ _ ?_⟩, fun q => ⟨fun q2 => hf _ _ ?_, fun q2 => ht _ _ ?_⟩⟩
    · rw [le_toInt] at q2; rw [q] at h1; omega
    · rw [le_toInt] at q2; rw [q] at h1; omega
    · have q' : ¬ sc.toInt = sc'.toInt := fun z => q (Int32.toInt_inj.mp z)
      rw [le_toInt] at q2; omega
    · have q' : ¬ sc.toInt = sc'.toInt := fun z => q (Int32.toInt_inj.mp z)
      rw [le_toInt] at q2; omega
  subst hbb
  cases best with
  | false => exact qT rfl (sp_reckonS (best := true) (hO' _ _) (hJ' _ _) hx (by omega) rfl (fun sc' mo' g1 g2 g3 => fin sc' mo' g1 g2 g3))
  | true => exact qF (by decide) (sp_reckonS (best := false) (hO' _ _) (hJ' _ _) hx (by omega) rfl (fun sc' mo' g1 g2 g3 => fin sc' mo' g1 g2 g3))
end SPW
theorem pp_wins : pr_wins re_all := by
  intro w hw a b
  obtain ⟨n, f, o, j, ch, hK, hT, hO, hJ, hC, hF⟩ := id hw
  obtain ⟨j1, j2, j3, j4, j5, j6, j7, j8, j9, j10, j11, j12⟩ := id hJ
  refine sg_X6_wins_0 (sp_j_has j2 j1 (fun h => t10 ?_) (fun h => f10 ?_))
  · obtain ⟨⟨x, hx, rfl⟩, ⟨y, hy, rfl⟩⟩ := id h
    have hs : x * 2 + y < 2 * j := by omega
    refine sp_sheetOf (sp_winsSurely hO hJ hs (fun h1 => t01 ?_) (fun h1 => f01 (sp_mayWin hO hJ hs (fun h2 => t01 ?_) (fun h2 => f01 ?_))))
    · exact sg_X7_wins_0 (sp_isJoust j3 j1 (fun _ => t01 (sp_isSide (fun _ => t10 (sp_isGreater (best := false) hw hO hJ hx hy rfl (fun sc mo _ => t01 ⟨rfl, re_Wm hw⟩) (fun sc mo q => absurd h1 q))) (fun q => absurd h.2 q))) (fun q => absurd h.1 q))
    · refine sg_X7_wins_0 (sp_isJoust j3 j1 (fun _ => t01 (sp_isSide (fun _ => t10 (sp_isGreater (best := false) hw hO hJ hx hy rfl (fun sc mo q => absurd q h1) (fun sc mo _ => f01 ?_))) (fun q => absurd h.2 q))) (fun q => absurd h.1 q))
      exact sp_isGreater (best := true) (re_Wm hw) (re_O_of hO rfl rfl rfl rfl rfl rfl rfl) (re_J_of hJ (Nat.le_refl _) (Nat.le_refl _) rfl rfl rfl rfl rfl rfl rfl rfl rfl rfl) hx hy rfl (fun sc mo _ => t01 ⟨rfl, re_Wm (re_Wm hw)⟩) (fun sc mo q => absurd h2 q)
    · refine sg_X7_wins_0 (sp_isJoust j3 j1 (fun _ => t01 (sp_isSide (fun _ => t10 (sp_isGreater (best := false) hw hO hJ hx hy rfl (fun sc mo q => absurd q h1) (fun sc mo _ => f01 ?_))) (fun q => absurd h.2 q))) (fun q => absurd h.1 q))
      exact sp_isGreater (best := true) (re_Wm hw) (re_O_of hO rfl rfl rfl rfl rfl rfl rfl) (re_J_of hJ (Nat.le_refl _) (Nat.le_refl _) rfl rfl rfl rfl rfl rfl rfl rfl rfl rfl) hx hy rfl (fun sc mo q => absurd q h2) (fun sc mo _ => f01 ⟨rfl, re_Wm (re_Wm hw)⟩)
  · refine sg_X7_wins_0 (sp_isJoust j3 j1 (fun h1 => t01 (sp_isSide (fun h2 => absurd ⟨h1, h2⟩ h) (fun _ => f10 ⟨rfl, hw⟩))) (fun _ => f01 ⟨rfl, hw⟩))
-- counts of strokes
def cS (g : Nat → Int32) (v : Int32) (c : Nat) : Nat := if g c = v then 1 else 0
section SPX
variable {d : Nat} {w : ex_WW} {P : Int32 → ex_WW → Prop} {s : Nat} {v : Int32}
theorem sp_countOf (hs : s < 60) (h : P (nI (sr (cS (w 17) v) (s * 6) 6)) w) : ex_Ev (d + 1) mX2_countOf 0 (ex_in [.inr 4, .inl (nI s), .inl v] 5) [] w P := by
  refine sg_X2_countOf_0 ?_
  have loop : ∀ m i acc, i + m = 6 → P (nI (acc + sr (cS (w 17) v) (s * 6 + i) m)) w → ex_Ev (d + 1) mX2_countOf 5 [some (.inr 4), some (.inl (nI s)), some (.inl v), some (.inl (nI acc)), some (.inl (nI i))] [] w P := by
    intro m
    induction m with
    | zero =>
      intro i acc hi h
      exact sg_X2_countOf_5 (pT (by rw [show i = 6 by omega]; decide) h)
    | succ m ih =>
      intro i acc hi h
      rw [sr] at h
      refine sg_X2_countOf_5 (pF (fun q => nI_ge (a := i) (b := 6) (by omega) (by decide) q) (sp_strokeIn hs (by omega) ⟨fun q => ?_, fun q => ?_⟩))
      · rw [nI_1]
        refine ih (i + 1) acc (by omega) ?_
        rw [show cS (w 17) v (s * 6 + i) = 0 from if_neg q, Nat.zero_add] at h
        exact h
      · rw [nI_1, nI_1]
        refine ih (i + 1) (acc + 1) (by omega) ?_
        rw [show cS (w 17) v (s * 6 + i) = 1 from if_pos q, ← Nat.add_assoc] at h
        exact h
  refine loop 6 0 0 rfl ?_
  rw [Nat.zero_add]
  exact h
theorem sp_strokeMany {x y : Nat} (hx : x < 30) (hy : y < 2) (h : P (nI (sr (cS (w 32) v) ((x * 2 + y) * 6) 6)) w) : ex_Ev (d + 1) mX7_strokeMany 0 (ex_in [.inr 23, .inl (nI x), .inl (nI y), .inl v] 6) [] w P := by
  refine sg_X7_strokeMany_0 ?_
  have loop : ∀ m i acc, i + m = 6 → P (nI (acc + sr (cS (w 32) v) ((x * 2 + y) * 6 + i) m)) w → ex_Ev (d + 1) mX7_strokeMany 6 [some (.inr 23), some (.inl (nI x)), some (.inl (nI y)), some (.inl v), some (.inl (nI acc)), some (.inl (nI i))] [] w P := by
    intro m
    induction m with
    | zero =>
      intro i acc hi h
      exact sg_X7_strokeMany_6 (pT (by rw [show i = 6 by omega]; decide) h)
    | succ m ih =>
      intro i acc hi h
      rw [sr] at h
      refine sg_X7_strokeMany_6 (pF (fun q => nI_ge (a := i) (b := 6) (by omega) (by decide) q) (sp_sheetAt ?_))
      rw [nI_add, nI_clamp (by omega), show 6 * (2 * x + y) + i = (x * 2 + y) * 6 + i by omega]
      refine ⟨vp_in_nI (by omega) (by decide), fun q => ?_, fun q => ?_⟩
      · rw [nI_1, Int32.add_zero]
        refine ih (i + 1) acc (by omega) ?_
        rw [show cS (w 32) v ((x * 2 + y) * 6 + i) = 0 from if_neg q, Nat.zero_add] at h
        exact h
      · rw [nI_1, nI_1]
        refine ih (i + 1) (acc + 1) (by omega) ?_
        rw [show cS (w 32) v ((x * 2 + y) * 6 + i) = 1 from if_pos q, ← Nat.add_assoc] at h
        exact h
  refine loop 6 0 0 rfl ?_
  rw [Nat.zero_add]
  exact h
end SPX
theorem pp_sheet : pr_sheet re_all := by
  intro w hw a b v
  obtain ⟨n, f, o, j, ch, hK, hT, hO, hJ, hC, hF⟩ := id hw
  obtain ⟨j1, j2, j3, j4, j5, j6, j7, j8, j9, j10, j11, j12⟩ := id hJ
  refine sg_X6_sheet_0 (sp_j_has j2 j1 (fun h => t10 ?_) (fun h => f10 ?_))
  · obtain ⟨⟨x, hx, rfl⟩, ⟨y, hy, rfl⟩⟩ := id h
    have hs : x * 2 + y < 2 * j := by omega
    have low : ∀ (best : Bool) (r T : Int32), T.toInt = TT w (x * 2 + y) best → r.toInt = T.toInt / 7 → ∀ bb : Int32, bb = (if best then 1 else 0) → ex_Ev 59 mX7_reckon 0 (ex_in [.inr 23, .inl (nI x), .inl (nI y), .inl bb] 10) [] w (fun _ u => r = u 23 24 ∧ re_all u) := by
      intro best r T hT' hr bb hbb
      refine sp_reckonS (best := best) hO hJ hx hy hbb (fun sc mo h1 h2 h3 => ⟨?_, re_Wm hw⟩)
      show r = sc
      apply Int32.toInt_inj.mp
      omega
    refine sp_sheetOf ⟨fun h0 => sp_leastS hO hJ hs (fun T hT' => sg_X3_scoreIn_0 (sp_floorDiv7 (by have := TT_b hO hJ hs false; omega) (fun r hr => ?_))), fun h0 => sp_greatestS hO hJ hs (fun T hT' => sg_X3_scoreIn_0 (sp_floorDiv7 (by have := TT_b hO hJ hs true; omega) (fun r hr => ?_))), fun h0 => sp_countOf (by omega) ?_, fun a0 a1 a2 => sp_isWithin (fun hv => t01 (sp_countOf (by omega) ?_)) (fun hv => f01 ?_)⟩
    · subst h0
      exact sg_X7_sheet_0 (sp_isJoust j3 j1 (fun _ => t01 (sp_isSide (fun _ => t01 (sp_in (fun _ => t10 (pF (by decide) (qF (by decide) (low false r T hT' hr 0 rfl)))) (fun q => absurd (by decide) q))) (fun q => absurd h.2 q))) (fun q => absurd h.1 q))
    · subst h0
      exact sg_X7_sheet_0 (sp_isJoust j3 j1 (fun _ => t01 (sp_isSide (fun _ => t01 (sp_in (fun _ => t10 (pF (by decide) (qT rfl (low true r T hT' hr 1 rfl)))) (fun q => absurd (by decide) q))) (fun q => absurd h.2 q))) (fun q => absurd h.1 q))
    · subst h0
      exact sg_X7_sheet_0 (sp_isJoust j3 j1 (fun _ => t01 (sp_isSide (fun _ => t01 (sp_in (fun _ => t10 (pT (by decide) (qT rfl (sp_strokeMany (by omega) hy ⟨by rw [j7], hw⟩)))) (fun q => absurd (by decide) q))) (fun q => absurd h.2 q))) (fun q => absurd h.1 q))
    · have e3 : (3 : Int32).toInt = 3 := by decide
      have e8 : (8 : Int32).toInt = 8 := by decide
      have e2 : (2 : Int32).toInt = 2 := by decide
      have hv' := hv
      rw [le_toInt, le_toInt, e3, e8] at hv'
      have hin : 0 ≤ v ∧ v ≤ 8 := by rw [le_toInt, le_toInt, ti_0, e8]; omega
      have h2 : 2 ≤ v := by rw [le_toInt, e2]; omega
      exact sg_X7_sheet_0 (sp_isJoust j3 j1 (fun _ => t01 (sp_isSide (fun _ => t01 (sp_in (fun _ => t10 (pT h2 (qF a2 (sp_strokeMany (by omega) hy ⟨by rw [j7], hw⟩)))) (fun q => absurd hin q))) (fun q => absurd h.2 q))) (fun q => absurd h.1 q))
    · have e3 : (3 : Int32).toInt = 3 := by decide
      have e8 : (8 : Int32).toInt = 8 := by decide
      refine sg_X7_sheet_0 (sp_isJoust j3 j1 (fun _ => t01 (sp_isSide (fun _ => t01 (sp_in (fun q => ?_) (fun _ => f10 ⟨rfl, hw⟩))) (fun q => absurd h.2 q))) (fun q => absurd h.1 q))
      exfalso
      apply hv
      rw [le_toInt, le_toInt, ti_0, e8] at q
      rw [le_toInt, le_toInt, e3, e8]
      have b0 : ¬ v.toInt = 0 := fun z => a0 (Int32.toInt_inj.mp (by rw [z]; decide))
      have b1 : ¬ v.toInt = 1 := fun z => a1 (Int32.toInt_inj.mp (by rw [z]; decide))
      have b2 : ¬ v.toInt = 2 := fun z => a2 (Int32.toInt_inj.mp (by rw [z]; decide))
      omega
  · exact sg_X7_sheet_0 (sp_isJoust j3 j1 (fun h1 => t01 (sp_isSide (fun h2 => absurd ⟨h1, h2⟩ h) (fun _ => f01 ⟨rfl, hw⟩))) (fun _ => f01 ⟨rfl, hw⟩))
