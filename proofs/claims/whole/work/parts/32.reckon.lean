def Wm (w : ex_WW) (a b : Int32) : ex_WW := ex_up (ex_up w 23 24 a) 23 25 b
theorem Wm_two (w : ex_WW) (a b c e : Int32) : Wm (Wm w a b) c e = Wm w c e := by
  unfold Wm
  funext i
  by_cases h : i = 23
  · subst h
    show upd (upd (upd (upd (w 23) 24 a) 25 b) 24 c) 25 e = upd (upd (w 23) 24 c) 25 e
    funext k
    unfold upd
    by_cases h1 : k = 25
    · simp [h1]
    · by_cases h2 : k = 24
      · simp [h2]
      · simp [h1, h2]
  · simp [ex_up, h]
theorem Wm_id (w : ex_WW) : Wm w (w 23 24) (w 23 25) = w := by
  unfold Wm
  funext i
  by_cases h : i = 23
  · subst h
    show upd (upd (w 23) 24 (w 23 24)) 25 (w 23 25) = w 23
    rw [upd_id]
    exact upd_id (w 23) 25
  · simp [ex_up, h]
theorem re_Wm {w : ex_WW} {a b : Int32} (hw : re_all w) : re_all (Wm w a b) := by
  obtain ⟨n, f, o, j, ch, hK, hT, hO, hJ, hC, hF⟩ := hw
  exact ⟨n, f, o, j, ch, re_K_of hK rfl rfl rfl rfl rfl rfl rfl rfl rfl rfl, re_T_of hT rfl rfl rfl rfl, re_O_of hO rfl rfl rfl rfl rfl rfl rfl, re_J_of hJ (Nat.le_refl _) (Nat.le_refl _) rfl rfl rfl rfl rfl rfl rfl rfl rfl rfl, re_C_of hC (Nat.le_refl _) rfl rfl rfl rfl rfl rfl, re_F_of hF (Nat.le_refl _) rfl rfl⟩
def tiI (tie : Int32) (t : Nat) : Int := if t ≠ 0 ∧ nI t = tie then 1 else 0
theorem sgI_ti (wo : Nat → Int32) (tie : Int32) (t : Nat) : sgI wo tie t = 7 * (wo t).toInt + tiI tie t := rfl
theorem tiI_b (tie : Int32) (t : Nat) : 0 ≤ tiI tie t ∧ tiI tie t ≤ 1 := by unfold tiI; split <;> omega
section SPR
variable {d : Nat} {w : ex_WW} {P : Int32 → ex_WW → Prop} {x y k : Nat} {best : Bool} {wo : Nat → Int32} {tie bb : Int32}
theorem sp_reckon_gap {W : ex_WW} {c : Nat} (hk : k < 6) (hw : ∀ t, t < 6 → W 29 (7 * k + t) = wo t) (ht : isN 6 tie) (ho : okW wo) (hbb : bb = if best then 1 else 0) :
    ∀ (m i s : Nat), i + m = 6 → 1 ≤ i → s < 6 → (∀ s', s' < 6 → sgI wo tie s' = exI wo tie best m i (sgI wo tie s) → ex_Ev (d + 1) mX7_reckon 175 [some (.inr 23), some (.inl (nI x)), some (.inl (nI y)), some (.inl bb), some (.inl (nI (7 * k))), some (.inl tie), some (.inl (nI c)), some (.inl (nI s')), none, none] [] W P) →
      ex_Ev (d + 1) mX7_reckon 71 [some (.inr 23), some (.inl (nI x)), some (.inl (nI y)), some (.inl bb), some (.inl (nI (7 * k))), some (.inl tie), some (.inl (nI c)), some (.inl (nI s)), some (.inl (nI i)), none] [] W P := by
  intro m
  induction m with
  | zero =>
    intro i s hi h1 hs h
    exact sg_X7_reckon_71 (pT (by rw [show i = 6 by omega]; decide) (h s hs rfl))
  | succ m ih =>
    intro i s hi h1 hs h
    have bi := ho.2 i (by omega)
    have bs := ho.2 s hs
    have go : ∀ x9 : Int32, (x9.toInt < 0 ↔ sgI wo tie i < sgI wo tie s) → (0 < x9.toInt ↔ sgI wo tie s < sgI wo tie i) → ex_Ev (d + 1) mX7_reckon 143 [some (.inr 23), some (.inl (nI x)), some (.inl (nI y)), some (.inl bb), some (.inl (nI (7 * k))), some (.inl tie), some (.inl (nI c)), some (.inl (nI s)), some (.inl (nI i)), some (.inl x9)] [] W P := by
      intro x9 hl hg
      have next : ∀ s', s' < 6 → sgI wo tie s' = (if best then max (sgI wo tie s) (sgI wo tie i) else min (sgI wo tie s) (sgI wo tie i)) → ex_Ev (d + 1) mX7_reckon 169 [some (.inr 23), some (.inl (nI x)), some (.inl (nI y)), some (.inl bb), some (.inl (nI (7 * k))), some (.inl tie), some (.inl (nI c)), some (.inl (nI s')), some (.inl (nI i)), some (.inl x9)] [] W P := by
        intro s' hs' e
        refine sg_X7_reckon_169 ?_
        rw [nI_1]
        refine ih (i + 1) s' (by omega) (by omega) hs' (fun s'' h1 h2 => h s'' h1 ?_)
        rw [h2, e, exI]
      subst hbb
      cases best with
      | false =>
        refine sg_X7_reckon_143 (pT rfl ⟨fun q => next s hs ?_, fun q => next i (by omega) ?_⟩)
        · rw [le_toInt, ti_0] at q
          simp; omega
        · rw [le_toInt, ti_0] at q
          simp; omega
      | true =>
        refine sg_X7_reckon_143 (pF (by decide) ⟨fun q => next s hs ?_, fun q => next i (by omega) ?_⟩)
        · rw [le_toInt, ti_0] at q
          simp; omega
        · rw [le_toInt, ti_0] at q
          simp; omega
    refine sg_X7_reckon_71 (pF (fun q => nI_ge (a := i) (b := 6) (by omega) (by decide) q) ?_)
    rw [nI_add, nI_add, nI_clamp (by omega), nI_clamp (by omega), hw i (by omega), hw s hs]
    have ed : (wo i - wo s).toInt = (wo i).toInt - (wo s).toInt := ti_sub (by omega) (by omega)
    have t1 := tiI_b tie i
    have t2 := tiI_b tie s
    have same : wo i - wo s = 0 → (wo i).toInt = (wo s).toInt := fun q => by
      have := congrArg Int32.toInt q
      rw [ed, ti_0] at this
      omega
    have tI : ∀ t, t ≠ 0 → nI t = tie → tiI tie t = 1 := fun t a b => if_pos ⟨a, b⟩
    have tN : ∀ t, ¬ nI t = tie → tiI tie t = 0 := fun t b => if_neg (fun q => b q.2)
    refine ⟨vp_in_nI (by omega) (by decide), vp_in_nI (by omega) (by decide), fun hne => go _ ?_ ?_, fun he => ⟨fun a1 => ⟨fun a2 => go _ ?_ ?_, fun a2 => ⟨fun a3 => go _ ?_ ?_, fun a3 => go _ ?_ ?_⟩⟩, fun a1 => ⟨fun a2 => go _ ?_ ?_, fun a2 => ⟨fun a3 => go _ ?_ ?_, fun a3 => go _ ?_ ?_⟩⟩⟩⟩
    · have : ¬ (wo i).toInt - (wo s).toInt = 0 := fun q => hne (Int32.toInt_inj.mp (by rw [ed, ti_0]; exact q))
      rw [ed, sgI_ti, sgI_ti]; omega
    · have : ¬ (wo i).toInt - (wo s).toInt = 0 := fun q => hne (Int32.toInt_inj.mp (by rw [ed, ti_0]; exact q))
      rw [ed, sgI_ti, sgI_ti]; omega
    · rw [sgI_ti, sgI_ti, same he, tN i a1, tN s a2, show ((0 : Int32) - 0).toInt = 0 by decide]; omega
    · rw [sgI_ti, sgI_ti, same he, tN i a1, tN s a2, show ((0 : Int32) - 0).toInt = 0 by decide]; omega
    · have z : tie = 0 := by
        obtain ⟨q, hq, rfl⟩ := ht
        have := (nI_leI (by omega) (b := 0) (by decide)).mp a3
        rw [show q = 0 by omega]; rfl
      have s0 : s = 0 := (nI_eq (by omega) (b := 0) (by decide)).mp (a2.trans z)
      have e0 : tiI tie s = 0 := if_neg (fun q => q.1 s0)
      rw [sgI_ti, sgI_ti, same he, tN i a1, e0, show ((0 : Int32) - 0).toInt = 0 by decide]; omega
    · have z : tie = 0 := by
        obtain ⟨q, hq, rfl⟩ := ht
        have := (nI_leI (by omega) (b := 0) (by decide)).mp a3
        rw [show q = 0 by omega]; rfl
      have s0 : s = 0 := (nI_eq (by omega) (b := 0) (by decide)).mp (a2.trans z)
      have e0 : tiI tie s = 0 := if_neg (fun q => q.1 s0)
      rw [sgI_ti, sgI_ti, same he, tN i a1, e0, show ((0 : Int32) - 0).toInt = 0 by decide]; omega
    · have s0 : s ≠ 0 := fun q => a3 (by rw [← a2, q]; decide)
      rw [sgI_ti, sgI_ti, same he, tN i a1, tI s s0 a2, show ((0 : Int32) - 1).toInt = -1 by decide]; omega
    · have s0 : s ≠ 0 := fun q => a3 (by rw [← a2, q]; decide)
      rw [sgI_ti, sgI_ti, same he, tN i a1, tI s s0 a2, show ((0 : Int32) - 1).toInt = -1 by decide]; omega
    · rw [sgI_ti, sgI_ti, same he, tI i (by omega) a1, tN s a2, show ((1 : Int32) - 0).toInt = 1 by decide]; omega
    · rw [sgI_ti, sgI_ti, same he, tI i (by omega) a1, tN s a2, show ((1 : Int32) - 0).toInt = 1 by decide]; omega
    · exfalso
      have := (nI_leI (by omega) (b := 0) (by decide)).mp (show nI i ≤ nI 0 by rw [a1]; exact a3)
      omega
    · exfalso
      have := (nI_leI (by omega) (b := 0) (by decide)).mp (show nI i ≤ nI 0 by rw [a1]; exact a3)
      omega
    · have s0 : s ≠ 0 := fun q => a3 (by rw [← a2, q]; decide)
      rw [sgI_ti, sgI_ti, same he, tI i (by omega) a1, tI s s0 a2, show ((1 : Int32) - 1).toInt = 0 by decide]; omega
    · have s0 : s ≠ 0 := fun q => a3 (by rw [← a2, q]; decide)
      rw [sgI_ti, sgI_ti, same he, tI i (by omega) a1, tI s s0 a2, show ((1 : Int32) - 1).toInt = 0 by decide]; omega
theorem sp_reckon (hx : x < 30) (hy : y < 2) (hl : w 31 x = nI k) (hk : k < 6) (hw : ∀ t, t < 6 → w 29 (7 * k + t) = wo t) (htie : w 29 (7 * k + 6) = tie) (ht : isN 6 tie) (ho : okW wo) (hst : ∀ c, c < 6 → isN 7 (w 32 ((x * 2 + y) * 6 + c))) (hbb : bb = if best then 1 else 0)
    (h : ∀ sc mo : Int32, 7 * sc.toInt + mo.toInt = totI wo tie best (fun c => w 32 ((x * 2 + y) * 6 + c)) 6 0 0 → 0 ≤ mo.toInt → mo.toInt ≤ 6 → P 0 (Wm w sc mo)) : ex_Ev (d + 1) mX7_reckon 0 (ex_in [.inr 23, .inl (nI x), .inl (nI y), .inl bb] 10) [] w P := by
  have m7 : (7 : Int32) * nI k = nI (7 * k) := pk_mul 7 k
  refine sg_X7_reckon_0 ?_
  rw [nI_clamp (by omega), hl, m7, show nI (7 * k) + 6 = nI (7 * k + 6) from nI_add (7 * k) 6, nI_clamp (by omega), htie]
  refine ⟨vp_in_nI hx (by decide), vp_in_nI (by omega) (by decide), ?_⟩
  have loop : ∀ (m i : Nat) (sc mo : Int32), i + m = 6 → -99 * (i : Int) ≤ sc.toInt ∧ sc.toInt ≤ 99 * (i : Int) → 0 ≤ mo.toInt ∧ mo.toInt ≤ (i : Int) → (7 * sc.toInt + mo.toInt) + 0 = 7 * sc.toInt + mo.toInt → totI wo tie best (fun c => w 32 ((x * 2 + y) * 6 + c)) m i (7 * sc.toInt + mo.toInt) = totI wo tie best (fun c => w 32 ((x * 2 + y) * 6 + c)) 6 0 0 → ex_Ev (d + 1) mX7_reckon 36 [some (.inr 23), some (.inl (nI x)), some (.inl (nI y)), some (.inl bb), some (.inl (nI (7 * k))), some (.inl tie), some (.inl (nI i)), none, none, none] [] (Wm w sc mo) P := by
    intro m
    induction m with
    | zero =>
      intro i sc mo hi _ hm _ he
      refine sg_X7_reckon_36 (pT (by rw [show i = 6 by omega]; decide) ?_)
      exact h sc mo he hm.1 (by omega)
    | succ m ih =>
      intro i sc mo hi hs hm _ he
      have h7 := hst i (by omega)
      have add : ∀ s, s < 6 → sgI wo tie s = stI wo tie best (w 32 ((x * 2 + y) * 6 + i)) → ex_Ev (d + 1) mX7_reckon 175 [some (.inr 23), some (.inl (nI x)), some (.inl (nI y)), some (.inl bb), some (.inl (nI (7 * k))), some (.inl tie), some (.inl (nI i)), some (.inl (nI s)), none, none] [] (Wm w sc mo) P := by
        intro s hs6 hse
        have bs := ho.2 s hs6
        have e1 : (sc + wo s).toInt = sc.toInt + (wo s).toInt := ti_add (by omega) (by omega)
        have fin : ∀ mo' : Int32, mo'.toInt = mo.toInt + tiI tie s → ex_Ev (d + 1) mX7_reckon 36 [some (.inr 23), some (.inl (nI x)), some (.inl (nI y)), some (.inl bb), some (.inl (nI (7 * k))), some (.inl tie), some (.inl (nI (i + 1))), none, none, none] [] (Wm w (sc + wo s) mo') P := by
          intro mo' hmo
          have tb := tiI_b tie s
          refine ih (i + 1) _ _ (by omega) (by rw [e1]; push_cast; omega) (by rw [hmo]; push_cast; omega) (by omega) ?_
          rw [← he, totI]
          congr 1
          rw [e1, hmo, ← hse, sgI_ti]
          omega
        have eW : ∀ b', ex_up (ex_up (Wm w sc mo) 23 24 ((Wm w sc mo) 23 24 + wo s)) 23 25 b' = Wm w (sc + wo s) b' := fun b' => by
          rw [show (Wm w sc mo) 23 24 = sc from rfl]
          exact Wm_two w sc mo (sc + wo s) b'
        refine sg_X7_reckon_175 ?_
        rw [nI_add, nI_clamp (by omega), show (Wm w sc mo) 29 (7 * k + s) = wo s from hw s hs6, nI_1]
        refine ⟨vp_in_nI (by omega) (by decide), fun a1 => ?_, fun a1 => ⟨fun a2 => ?_, fun a2 => ?_⟩⟩
        · have z : tie = 0 := by
            obtain ⟨q, hq, rfl⟩ := ht
            have := (nI_leI (by omega) (b := 0) (by decide)).mp a1
            rw [show q = 0 by omega]; rfl
          have e0 : tiI tie s = 0 := if_neg (fun q => q.1 ((nI_eq (by omega) (b := 0) (by decide)).mp (q.2.trans z)))
          rw [eW]
          refine fin _ ?_
          rw [show (Wm w sc mo) 23 25 = mo from rfl, Int32.add_zero, e0]; omega
        · have e0 : tiI tie s = 0 := if_neg (fun q => a2 q.2)
          rw [eW]
          refine fin _ ?_
          rw [show (Wm w sc mo) 23 25 = mo from rfl, Int32.add_zero, e0]; omega
        · have s0 : s ≠ 0 := fun q => a1 (by rw [← a2, q]; decide)
          have e0 : tiI tie s = 1 := if_pos ⟨s0, a2⟩
          rw [eW]
          refine fin _ ?_
          rw [show (Wm w sc mo) 23 25 = mo from rfl, ti_add (by rw [ti_1]; omega) (by rw [ti_1]; omega), e0, ti_1]
      refine sg_X7_reckon_36 (pF (fun q => nI_ge (a := i) (b := 6) (by omega) (by decide) q) (sp_sheetAt ?_))
      rw [nI_add, nI_clamp (by omega), show 6 * (2 * x + y) + i = (x * 2 + y) * 6 + i by omega, show (Wm w sc mo) 32 ((x * 2 + y) * 6 + i) = w 32 ((x * 2 + y) * 6 + i) from rfl]
      refine ⟨vp_in_nI (by omega) (by decide), fun h6 => ?_, fun h6 => ?_⟩
      · obtain ⟨t, ht7, et⟩ := h7
        have ht6 : t < 6 := by
          rcases Nat.lt_or_ge t 6 with q | q
          · exact q
          · exact absurd (by rw [et, show t = 6 by omega]; rfl) h6
        rw [et]
        refine add t ht6 ?_
        unfold stI
        rw [if_neg h6, et, nI_clamp (by omega)]
      · refine sp_reckon_gap (W := Wm w sc mo) hk hw ht ho hbb 5 1 0 rfl (by decide) (by decide) (fun s' hs' e => add s' hs' ?_)
        rw [e, sgI_0 ho]
        unfold stI
        rw [if_pos h6]
        rfl
  have := loop 6 0 0 0 rfl (by decide) (by decide) rfl (by rw [ti_0]; rfl)
  exact this
end SPR
