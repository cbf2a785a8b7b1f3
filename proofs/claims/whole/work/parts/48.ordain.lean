-- worths of one or two figures
def sm (x : Int32) : Prop := -99 ≤ x.toInt ∧ x.toInt ≤ 99
theorem fig_n {c : Int32} (h : figB c = true) : ∃ k, k < 10 ∧ c = nI (48 + k) := by
  unfold figB at h
  have h := of_decide_eq_true h
  have h0 : (0 : Int32) ≤ c := by
    have := h.1
    rw [le_toInt] at this ⊢
    rw [show (48 : Int32).toInt = 48 by decide] at this
    rw [show (0 : Int32).toInt = 0 by decide]
    omega
  obtain ⟨j, hj, rfl⟩ := (isN_le (n := 57) (by decide)).mpr ⟨h0, h.2⟩
  have h1 : 48 ≤ j := (nI_leI (a := 48) (by decide) (by omega)).mp h.1
  exact ⟨j - 48, by omega, by rw [show 48 + (j - 48) = j by omega]⟩
theorem fig_sub (k : Nat) : nI (48 + k) - 48 = nI k := by
  rw [show (48 : Int32) = nI 48 from rfl, pk_sub (by omega), show 48 + k - 48 = k by omega]
theorem sm_n {v : Nat} (h : v < 100) : sm (nI v) ∧ sm (0 - nI v) := by
  have e : (0 - nI v).toInt = ((0 : Nat) : Int) - v := pk_sub_toInt (a := 0) (by decide) (by omega)
  refine ⟨⟨?_, ?_⟩, ⟨?_, ?_⟩⟩
  · rw [nI_toInt (by omega)]; omega
  · rw [nI_toInt (by omega)]; omega
  · rw [e]; omega
  · rw [e]; omega
theorem fig_one {c : Int32} (h : figB c = true) : sm (c - 48) ∧ sm (0 - (c - 48)) := by
  obtain ⟨k, hk, rfl⟩ := fig_n h
  rw [fig_sub]
  exact sm_n (by omega)
theorem fig_two {c e : Int32} (h : figB c = true) (g : figB e = true) : sm ((c - 48) * 10 + e - 48) ∧ sm (0 - ((c - 48) * 10 + e - 48)) := by
  obtain ⟨k, hk, rfl⟩ := fig_n h
  obtain ⟨l, hl, rfl⟩ := fig_n g
  have e1 : (nI (48 + k) - 48) * 10 + nI (48 + l) - 48 = nI (k * 10 + l) := by
    rw [fig_sub, show nI k * (10 : Int32) = nI (k * 10) from pk_mul k 10, nI_add, show k * 10 + (48 + l) = 48 + (k * 10 + l) by omega, fig_sub]
  rw [e1]
  exact sm_n (by omega)
theorem itm_sm {L : Nat → Int32} {f i j : Nat} {v : Int32} (h : itm L f i = .inr (j, v)) : sm v := by
  unfold itm at h
  by_cases hn : ltr L f (i + 1) = 45
  · simp only [hn, decide_true, if_true] at h
    split at h
    · rename_i a
      split at h
      · rename_i b
        cases h; exact (fig_two a b).2
      · cases h; exact (fig_one a).2
    · cases h
  · simp only [hn, decide_false, Bool.false_eq_true, if_false] at h
    split at h
    · rename_i a
      split at h
      · rename_i b
        cases h; exact (fig_two a b).1
      · cases h; exact (fig_one a).1
    · cases h
theorem its_sm {L : Nat → Int32} {f j : Nat} {D' : Nat → Int32} : ∀ m i nm D, (∀ s, sm (D s)) → D 0 = 0 → its L f m i nm D = .inr (j, D') → (∀ s, sm (D' s)) ∧ D' 0 = 0 := by
  intro m
  induction m with
  | zero =>
    intro i nm D h1 h2 h
    rw [its] at h
    cases h
    exact ⟨h1, h2⟩
  | succ m ih =>
    intro i nm D h1 h2 h
    rw [its] at h
    split at h
    · cases h
      exact ⟨h1, h2⟩
    · rename_i hs
      rw [not_or] at hs
      cases e : itm L f i with
      | inl k => rw [e] at h; cases h
      | inr q =>
        obtain ⟨k, v⟩ := q
        rw [e] at h
        refine ih k _ _ (fun s => ?_) ?_ h
        · by_cases z : s = strk (ltr L f i)
          · rw [z, upd_at]; exact itm_sm e
          · rw [upd_ne _ _ z]; exact h1 s
        · rw [upd_ne _ _ (fun z => hs.1 z.symm)]; exact h2
theorem txt_sm {L : Nat → Int32} {f t : Nat} {D : Nat → Int32} (h : txt L f = .inr (D, t)) : (∀ s, sm (D s)) ∧ D 0 = 0 ∧ t < 6 := by
  unfold txt at h
  cases e : its L f 6 0 (fun _ => false) (fun _ => 0) with
  | inl j => rw [e] at h; cases h
  | inr q =>
    obtain ⟨i, D'⟩ := q
    rw [e] at h
    have g := its_sm 6 0 _ _ (fun s => (sm_n (v := 0) (by decide)).1) rfl e
    simp only at h
    split at h
    · cases h
    · split at h
      · split at h
        · cases h
        · split at h
          · cases h; exact ⟨g.1, g.2, strk_lt _⟩
          · cases h
      · split at h
        · cases h; exact ⟨g.1, g.2, by decide⟩
        · cases h
section SPO
variable {d : Nat} {w : ex_WW} {P : Int32 → ex_WW → Prop} {f o : Nat}
theorem sp_goOver (hf : f ≤ 60) (h5 : w 23 5 = nI f)
    (hbad : ∀ j G R N, txt (w 28) f = .inl j → (∀ k, k ≠ 21 → k ≠ 22 → k ≠ 23 → G k = w 23 k) → P (nI j) (MW w G R N))
    (hgood : ∀ D t G R N, txt (w 28) f = .inr (D, t) → (∀ k, k ≠ 21 → k ≠ 22 → k ≠ 23 → G k = w 23 k) → (∀ s, s < 6 → R s = D s) → R 6 = nI t → P (-1) (MW w G R N)) : ex_Ev (d + 2) mX7_goOver 0 (ex_in [.inr 23] 2) [] w P := by
  refine sg_X7_goOver_0 ?_
  have l2 : ∀ m i R N, i + m = 6 → (∀ s, s < 7 → R s = 0) → (∀ s, s < i → N s = 0) → ex_Ev (d + 2) mX7_goOver 23 [some (.inr 23), some (.inl (nI i))] [] (MW w (w 23) R N) P := by
    intro m
    induction m with
    | zero =>
      intro i R N hi hR hN
      refine sg_X7_goOver_23 (pT (by rw [show i = 6 by omega]; decide) ?_)
      rw [MW_23, MW_23, MW_23]
      refine sp_over hf h5 hbad hgood 6 0 (fun _ => false) (fun _ => 0) _ _ _ 0 (fun k a b c => by rw [upd_ne _ _ c, upd_ne _ _ b, upd_ne _ _ a]) rfl (by decide) (Or.inl rfl) ⟨fun _ => rfl, fun _ => rfl⟩ (fun z => ?_) (by omega) (fun s hs => ?_) (hR 6 (by decide)) (fun s hs => ?_) (by omega) rfl
      · exact absurd (show (0 : Int32) = 3 from z) (by decide)
      · rw [show effR (upd (upd (upd (w 23) 21 0) 22 0) 23 0) R 0 = R from if_pos rfl]
        exact hR s (by omega)
      · exact hN s (by omega)
    | succ m ih =>
      intro i R N hi hR hN
      refine sg_X7_goOver_23 (pF (fun q => nI_ge (a := i) (b := 6) (by omega) (by decide) q) ⟨vp_in_nI (by omega) (by decide), ?_⟩)
      rw [nI_clamp (by omega), nI_1, MW_38]
      refine ih (i + 1) R _ (by omega) hR (fun s hs => ?_)
      by_cases e : s = i
      · rw [e, upd_at]
      · rw [upd_ne _ _ e]; exact hN s (by omega)
  have l1 : ∀ m i R, i + m = 7 → (∀ s, s < i → R s = 0) → ex_Ev (d + 2) mX7_goOver 2 [some (.inr 23), some (.inl (nI i))] [] (MW w (w 23) R (w 38)) P := by
    intro m
    induction m with
    | zero =>
      intro i R hi hR
      exact sg_X7_goOver_2 (pT (by rw [show i = 7 by omega]; decide) (l2 6 0 R (w 38) rfl (fun s hs => hR s (by omega)) (fun s hs => absurd hs (by omega))))
    | succ m ih =>
      intro i R hi hR
      refine sg_X7_goOver_2 (pF (fun q => nI_ge (a := i) (b := 7) (by omega) (by decide) q) ⟨vp_in_nI (by omega) (by decide), ?_⟩)
      rw [nI_clamp (by omega), nI_1, MW_37]
      refine ih (i + 1) _ (by omega) (fun s hs => ?_)
      by_cases e : s = i
      · rw [e, upd_at]
      · rw [upd_ne _ _ e]; exact hR s (by omega)
  have := l1 7 0 (w 37) rfl (fun s hs => absurd hs (by omega))
  rw [MW_id] at this
  exact this
theorem sp_keep {x1 : Int32} (ho : w 23 7 = nI o) (ho6 : o < 6) (h : ∀ W, (∀ k, k < 7 * o → W k = w 29 k) → (∀ s, s < 7 → W (7 * o + s) = w 37 s) → P (nI o) (ex_up (ex_up (ex_up (ex_upf w 29 W) 23 5 0) 23 8 (nI o)) 23 7 (nI (o + 1)))) : ex_Ev (d + 1) mX7_ordain 28 [some (.inr 23), some (.inl x1), some (.inl 0)] [] w P := by
  have loop : ∀ m i W, i + m = 7 → (∀ k, k < 7 * o → W k = w 29 k) → (∀ s, s < i → W (7 * o + s) = w 37 s) → ex_Ev (d + 1) mX7_ordain 28 [some (.inr 23), some (.inl x1), some (.inl (nI i))] [] (ex_upf w 29 W) P := by
    intro m
    induction m with
    | zero =>
      intro i W hi h1 h2
      refine sg_X7_ordain_28 (pT (by rw [show i = 7 by omega]; decide) ?_)
      rw [show (ex_upf w 29 W) 23 7 = nI o from ho, nI_1]
      exact h W h1 (fun s hs => h2 s (by omega))
    | succ m ih =>
      intro i W hi h1 h2
      refine sg_X7_ordain_28 (pF (fun q => nI_ge (a := i) (b := 7) (by omega) (by decide) q) ⟨vp_in_nI (by omega) (by decide), ?_⟩)
      rw [show (ex_upf w 29 W) 23 7 = nI o from ho, show (7 : Int32) * nI o + nI i = nI (7 * o + i) by rw [show (7 : Int32) * nI o = nI (7 * o) from pk_mul 7 o, nI_add]]
      refine ⟨vp_in_nI (by omega) (by decide), ?_⟩
      rw [nI_clamp (by omega), nI_clamp (by omega), nI_1, xf_up, show (ex_upf w 29 W) 37 i = w 37 i from rfl]
      refine ih (i + 1) _ (by omega) (fun k hk => ?_) (fun s hs => ?_)
      · rw [upd_ne _ _ (by omega)]; exact h1 k hk
      · by_cases e : s = i
        · rw [e, upd_at]
        · rw [upd_ne _ _ (by omega)]; exact h2 s (by omega)
  have := loop 7 0 (w 29) rfl (fun k _ => rfl) (fun s hs => absurd hs (by omega))
  rw [xf_id] at this
  exact this
end SPO
set_option maxHeartbeats 2000000 in
theorem pp_ordain : pr_ordain re_all := by
  intro w hw
  obtain ⟨n, f, o, j, ch, hK, hT, hO, hJ, hC, hF⟩ := id hw
  obtain ⟨t1, t2, t3, t4⟩ := id hT
  obtain ⟨o1, o2, o3, o4, o5, o6⟩ := id hO
  refine sg_X6_ordain_0 (sg_X3_isFull_0 ?_)
  rw [o2]
  refine ⟨fun q => f01 ?_, fun q => t01 ?_⟩
  · have ho : o < 6 := (nI_ltI (a := o) (b := 6) (by omega) (by decide)).mp q
    have n6 : ¬ nI o = 6 := fun z => by
      have := (nI_eq (a := o) (b := 6) (by omega) (by decide)).mp z
      omega
    refine sp_readInto t2 t1 o2 ho (fun e A' B' C' hx he a1 b1 c1 => ?_) (fun D t A' B' C' hx a1 b1 b2 c1 c2 => ?_)
    · refine pF (fun z => ?_) ?_
      · have := congrArg Int32.toInt z
        rw [nI_toInt (by omega), show (-1 : Int32).toInt = -1 by decide] at this
        omega
      · have v28 : (PW w A' B' C') 28 = w 13 := t4.symm
        refine sg_X7_ordain_0 (qF (by rw [show (PW w A' B' C') 23 7 = nI o from o3]; exact n6) (sp_goOver (f := f) t1 t3 (fun e' G R N hx' hG => ?_) (fun D t G R N hx' hG hR hR6 => ?_)))
        · rw [v28, hx] at hx'
          cases hx'
          refine pF (nI_pos (by omega)) ⟨rfl, ?_⟩
          have g : ∀ k, k ≠ 21 → k ≠ 22 → k ≠ 23 → G k = w 23 k := hG
          refine ⟨n, f, o, j, ch, re_K_of hK rfl (g 0 (by decide) (by decide) (by decide)) rfl rfl rfl rfl rfl rfl rfl rfl, ⟨t1, a1, (g 5 (by decide) (by decide) (by decide)).trans t3, t4⟩, ⟨o1, o2, (g 7 (by decide) (by decide) (by decide)).trans o3, o4.trans (g 8 (by decide) (by decide) (by decide)).symm, o5, fun k hk => ?_⟩, re_J_of hJ (Nat.le_refl _) (Nat.le_refl _) rfl (g 10 (by decide) (by decide) (by decide)) rfl rfl rfl rfl rfl rfl rfl rfl, re_C_of hC (Nat.le_refl _) rfl (g 15 (by decide) (by decide) (by decide)) rfl rfl rfl rfl, re_F_of hF (Nat.le_refl _) rfl rfl⟩
          obtain ⟨p1, p2, p3, p4⟩ := o6 k hk
          refine ⟨fun s hs => ?_, ?_, ?_, ?_⟩
          · rw [show (MW (PW w A' B' C') G R N) 11 (k * 6 + s) = B' (k * 6 + s) from rfl, b1 _ (by omega)]
            exact p1 s hs
          · rw [show (MW (PW w A' B' C') G R N) 11 (k * 6) = B' (k * 6) from rfl, b1 _ (by omega)]
            exact p2
          · rw [show (MW (PW w A' B' C') G R N) 12 k = C' k from rfl, c1 _ (by omega)]
            exact p3
          · rw [show (MW (PW w A' B' C') G R N) 12 k = C' k from rfl, c1 _ (by omega)]
            exact p4
        · rw [v28, hx] at hx'
          cases hx'
    · refine pT rfl (sg_X5_wipe_0 (sg_X3_keepDraft_0 ?_))
      rw [PW_3, show (PW w (upd A' 1 0) B' C') 2 2 = nI o from o2, nI_1]
      generalize hu : ex_up (ex_up (PW w (upd A' 1 0) B' C') 2 3 (nI o)) 2 2 (nI (o + 1)) = u
      have v28 : u 28 = w 13 := by rw [← hu]; exact t4.symm
      have v23 : u 23 = w 23 := by rw [← hu]; rfl
      refine sg_X7_ordain_0 (qF (by rw [v23, o3]; exact n6) (sp_goOver (f := f) t1 (by rw [v23]; exact t3) (fun e' G R N hx' hG => ?_) (fun D t G R N hx' hG hR hR6 => ?_)))
      · rw [v28, hx] at hx'
        cases hx'
      · rw [v28, hx] at hx'
        cases hx'
        rw [v23] at hG
        obtain ⟨s1, s2, s3⟩ := txt_sm hx
        refine pT (by decide) (sp_keep (w := MW u G R N) (o := o) ((hG 7 (by decide) (by decide) (by decide)).trans o3) ho (fun W w1 w2 => ⟨rfl, ?_⟩))
        have w1' : ∀ k, k < 7 * o → W k = w 29 k := fun k hk => (w1 k hk).trans (by rw [← hu]; rfl)
        have w2' : ∀ s, s < 7 → W (7 * o + s) = R s := w2
        subst hu
        refine ⟨n, 0, o + 1, j, ch, re_K_of hK rfl (hG 0 (by decide) (by decide) (by decide)) rfl rfl rfl rfl rfl rfl rfl rfl, ⟨by decide, rfl, rfl, t4⟩, ⟨ho, rfl, rfl, rfl, Or.inr ⟨o, by omega, rfl⟩, fun k hk => ?_⟩, re_J_of hJ (Nat.le_refl _) (by omega) rfl (hG 10 (by decide) (by decide) (by decide)) rfl rfl rfl rfl rfl rfl rfl rfl, re_C_of hC (Nat.le_refl _) rfl (hG 15 (by decide) (by decide) (by decide)) rfl rfl rfl rfl, re_F_of hF (Nat.le_refl _) rfl rfl⟩
        show (∀ s, s < 6 → B' (k * 6 + s) = W (7 * k + s) ∧ -99 ≤ (B' (k * 6 + s)).toInt ∧ (B' (k * 6 + s)).toInt ≤ 99) ∧ B' (k * 6) = 0 ∧ C' k = W (7 * k + 6) ∧ isN 6 (C' k)
        by_cases hk' : k = o
        · subst hk'
          refine ⟨fun s hs => ⟨?_, ?_⟩, ?_, ?_, ?_⟩
          · rw [b2 s hs, w2' s (by omega), hR s hs]
          · rw [b2 s hs]; exact s1 s
          · rw [show k * 6 = k * 6 + 0 from rfl, b2 0 (by decide)]; exact s2
          · rw [c2, w2' 6 (by decide), hR6]
          · rw [c2]; exact ⟨_, s3, rfl⟩
        · obtain ⟨p1, p2, p3, p4⟩ := o6 k (by omega)
          refine ⟨fun s hs => ?_, ?_, ?_, ?_⟩
          · rw [b1 _ (by omega), w1' _ (by omega)]; exact p1 s hs
          · rw [b1 _ (by omega)]; exact p2
          · rw [c1 _ (by omega), w1' _ (by omega)]; exact p3
          · rw [c1 _ (by omega)]; exact p4
  · have ho : o = 6 := by
      have : ¬ o < 6 := fun z => q (nI_lt z (b := 6) (by decide))
      omega
    exact sg_X7_ordain_0 (qT (by rw [o3, ho]; rfl) ⟨rfl, hw⟩)
