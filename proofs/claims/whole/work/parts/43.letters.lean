-- letters of a text, what they name
def ltr (L : Nat → Int32) (f i : Nat) : Int32 := if i < f then L i else 0
def strk (c : Int32) : Nat := if c = 98 then 1 else if c = 104 then 2 else if c = 108 then 3 else if c = 117 then 4 else if c = 102 then 5 else 0
def figB (c : Int32) : Bool := decide (48 ≤ c ∧ c ≤ 57)
theorem strk_lt (c : Int32) : strk c < 6 := by unfold strk; (repeat' split) <;> omega
theorem strk_in {L : Nat → Int32} {f i : Nat} (h : strk (ltr L f i) ≠ 0) : i < f := by
  rcases Nat.lt_or_ge i f with z | z
  · exact z
  · exact absurd (by unfold ltr; rw [if_neg (by omega)]; decide) h
theorem fig_in {L : Nat → Int32} {f i : Nat} (h : figB (ltr L f i) = true) : i < f := by
  rcases Nat.lt_or_ge i f with z | z
  · exact z
  · have e : ltr L f i = 0 := if_neg (by omega)
    rw [e] at h
    exact absurd h (by decide)
theorem lit_in {L : Nat → Int32} {f i : Nat} {c : Int32} (hc : c ≠ 0) (h : ltr L f i = c) : i < f := by
  rcases Nat.lt_or_ge i f with z | z
  · exact z
  · exact absurd (by rw [← h]; exact if_neg (by omega)) hc
/-- an item behind its letter: the place of the letter that can't stand there, or what follows and the worth -/
def itm (L : Nat → Int32) (f i : Nat) : Nat ⊕ (Nat × Int32) :=
  let neg := decide (ltr L f (i + 1) = 45)
  let j := if neg then i + 2 else i + 1
  let sg := fun x : Int32 => if neg then 0 - x else x
  if figB (ltr L f j) then (if figB (ltr L f (j + 1)) then .inr (j + 2, sg ((ltr L f j - 48) * 10 + ltr L f (j + 1) - 48)) else .inr (j + 1, sg (ltr L f j - 48))) else .inl j
section SPL
variable {d : Nat} {w : ex_WW} {P : Int32 → ex_WW → Prop} {f i : Nat} {c : Int32}
theorem sp_strokeBy (h : P (nI (strk c)) w) : ex_Ev d mX5_strokeBy 0 (ex_in [.inl c] 1) [] w P := by
  refine sg_X5_strokeBy_0 ⟨fun q => ?_, fun q => ?_, fun q => ?_, fun q => ?_, fun q => ?_, fun a b c' e g => ?_⟩
  · subst q; exact h
  · subst q; exact h
  · subst q; exact h
  · subst q; exact h
  · subst q; exact h
  · have : strk c = 0 := by unfold strk; rw [if_neg a, if_neg c', if_neg e, if_neg g, if_neg b]
    rw [this] at h
    exact h
theorem sp_m_strokeOf (h : P (nI (strk c)) w) : ex_Ev d mX7_strokeOf 0 (ex_in [.inl c] 1) [] w P := by
  refine sg_X7_strokeOf_0 ⟨fun a => ⟨fun b => ⟨fun c' => ⟨fun e => ⟨fun g => ?_, fun g => ?_⟩, fun e => ?_⟩, fun c' => ?_⟩, fun b => ?_⟩, fun a => ?_⟩
  · have : strk c = 0 := by unfold strk; rw [if_neg a, if_neg b, if_neg c', if_neg e, if_neg g]
    rw [this] at h
    exact h
  · subst g; exact h
  · subst e; exact h
  · subst c'; exact h
  · subst b; exact h
  · subst a; exact h
theorem sp_isFigure (ht : figB c = true → P 1 w) (hf : figB c = false → P 0 w) : ex_Ev d mX5_isFigure 0 (ex_in [.inl c] 1) [] w P := by
  refine sg_X5_isFigure_0 ⟨fun q => hf ?_, fun q => ⟨fun q2 => hf ?_, fun q2 => ht ?_⟩⟩
  · unfold figB
    exact decide_eq_false (fun z => i32_not_lt z.1 q)
  · unfold figB
    exact decide_eq_false (fun z => i32_not_lt z.2 q2)
  · unfold figB
    exact decide_eq_true ⟨i32_le_of_not_lt q, i32_le_of_not_lt q2⟩
theorem sp_letter (h1 : w 3 1 = nI f) (h2 : w 3 2 = nI i) (hf : f ≤ 60) (hi : i ≤ f) (h : P (ltr (w 13) f i) w) : ex_Ev d mX5_letter 0 (ex_in [.inr 3] 1) [] w P := by
  refine sg_X5_letter_0 ?_
  rw [h1, h2]
  refine pF (nI_pos (by omega)) ⟨fun q => ?_, fun q => ?_⟩
  · have : f ≤ i := (nI_leI (by omega) (by omega)).mp q
    rw [show ltr (w 13) f i = 0 from if_neg (by omega)] at h
    exact h
  · have : ¬ f ≤ i := fun z => q (nI_le z (by omega))
    rw [nI_clamp (by omega)]
    rw [show ltr (w 13) f i = w 13 i from if_pos (by omega)] at h
    exact ⟨vp_in_nI (by omega) (by decide), h⟩
theorem sp_draftWorth {o s : Nat} {v : Int32} (h2 : w 2 2 = nI o) (ho : o < 6) (hs : s < 6) (h : P 0 (ex_up w 11 (o * 6 + s) v)) : ex_Ev d mX3_draftWorth 0 (ex_in [.inr 2, .inl (nI s), .inl v] 3) [] w P := by
  refine sg_X3_draftWorth_0 ?_
  rw [h2, m66, nI_clamp (by omega)]
  exact ⟨vp_in_nI (by omega) (by decide), h⟩
theorem sp_draftTie {o : Nat} {v : Int32} (h2 : w 2 2 = nI o) (ho : o < 6) (h : P 0 (ex_up w 12 o v)) : ex_Ev d mX3_draftTie 0 (ex_in [.inr 2, .inl v] 2) [] w P := by
  refine sg_X3_draftTie_0 ?_
  rw [h2, nI_clamp (by omega)]
  exact ⟨vp_in_nI ho (by decide), h⟩
end SPL
-- the world while a text is read: the rows of the text, of worths and of ties
def PW (w : ex_WW) (A B C : Nat → Int32) : ex_WW := ex_upf (ex_upf (ex_upf w 3 A) 11 B) 12 C
theorem PW_3 (w : ex_WW) (A B C : Nat → Int32) (k : Nat) (x : Int32) : ex_up (PW w A B C) 3 k x = PW w (upd A k x) B C := by
  unfold PW
  rw [xf_up_ne _ (by decide), xf_up_ne _ (by decide), xf_up]
theorem PW_11 (w : ex_WW) (A B C : Nat → Int32) (k : Nat) (x : Int32) : ex_up (PW w A B C) 11 k x = PW w A (upd B k x) C := by
  unfold PW
  rw [xf_up_ne _ (by decide), xf_up]
theorem PW_12 (w : ex_WW) (A B C : Nat → Int32) (k : Nat) (x : Int32) : ex_up (PW w A B C) 12 k x = PW w A B (upd C k x) := by
  unfold PW
  rw [xf_up]
theorem PW_id (w : ex_WW) : PW w (w 3) (w 11) (w 12) = w := by
  unfold PW
  rw [xf_id, show (w 11) = w 11 from rfl, xf_id, xf_id]
section SPI
variable {d : Nat} {w : ex_WW} {P : Int32 → ex_WW → Prop} {f i o : Nat} {A B C : Nat → Int32}
set_option maxHeartbeats 1000000 in
theorem sp_readItem (h1 : A 1 = nI f) (h2 : A 2 = nI i) (hf : f ≤ 60) (h22 : w 2 2 = nI o) (ho : o < 6) (hs : strk (ltr (w 13) f i) ≠ 0)
    (hbad : ∀ j, itm (w 13) f i = .inl j → j ≤ f → P 0 (PW w (upd (upd A 3 (A 3 ||| (1 <<< (nI (strk (ltr (w 13) f i)) &&& 31)))) 2 (nI j)) B C))
    (hgood : ∀ j v, itm (w 13) f i = .inr (j, v) → j ≤ f → P 1 (PW w (upd (upd A 3 (A 3 ||| (1 <<< (nI (strk (ltr (w 13) f i)) &&& 31)))) 2 (nI j)) (upd B (o * 6 + strk (ltr (w 13) f i)) v) C)) : ex_Ev (d + 1) mX5_readItem 0 (ex_in [.inr 3, .inr 2] 5) [] (PW w A B C) P := by
  have hi := strk_in hs
  have hsl := strk_lt (ltr (w 13) f i)
  generalize hs0 : strk (ltr (w 13) f i) = s at hs hbad hgood hsl
  generalize hA : upd A 3 (A 3 ||| (1 <<< (nI s &&& 31))) = A1 at hbad hgood
  have a1 : A1 1 = nI f := by rw [← hA]; exact h1
  refine sg_X5_readItem_0 (sp_letter (w := PW w A B C) (i := i) h1 h2 hf (by omega) (sp_strokeBy ?_))
  rw [show (PW w A B C) 13 = w 13 from rfl, hs0, show (PW w A B C) 3 3 = A 3 from rfl, PW_3, hA]
  have e2 : (PW w A B C) 3 2 = nI i := h2
  rw [e2, nI_1, PW_3]
  have at_ : ∀ j, (upd A1 2 (nI j)) 1 = nI f := fun j => a1
  have at2 : ∀ j, (upd A1 2 (nI j)) 2 = nI j := fun j => upd_at _ _ _
  refine sp_letter (w := PW w (upd A1 2 (nI (i + 1))) B C) (at_ (i + 1)) (at2 (i + 1)) hf (by omega) ?_
  rw [show (PW w (upd A1 2 (nI (i + 1))) B C) 13 = w 13 from rfl]
  -- what is left from the first figure's place on
  have step : ∀ j, (PW w (upd A1 2 (nI j)) B C) 3 2 + 1 = nI (j + 1) := fun j => by
    rw [show (PW w (upd A1 2 (nI j)) B C) 3 2 = nI j from at2 j, nI_1]
  refine ⟨fun hm => ?_, fun hm => ?_⟩
  · have it : itm (w 13) f i = if figB (ltr (w 13) f (i + 1)) then (if figB (ltr (w 13) f (i + 1 + 1)) then .inr (i + 1 + 2, (ltr (w 13) f (i + 1) - 48) * 10 + ltr (w 13) f (i + 1 + 1) - 48) else .inr (i + 1 + 1, ltr (w 13) f (i + 1) - 48)) else .inl (i + 1) := by
      unfold itm
      simp [hm]
    refine sp_letter (w := PW w (upd A1 2 (nI (i + 1))) B C) (at_ (i + 1)) (at2 (i + 1)) hf (by omega) (sp_isFigure (fun g1 => t10 ?_) (fun g1 => f10 (hbad (i + 1) (by rw [it]; rw [show figB (ltr (w 13) f (i + 1)) = false from g1]; rfl) (by omega))))
    have g1' : figB (ltr (w 13) f (i + 1)) = true := g1
    have j1 := fig_in g1'
    refine sp_letter (w := PW w (upd A1 2 (nI (i + 1))) B C) (at_ (i + 1)) (at2 (i + 1)) hf (by omega) ?_
    rw [step, PW_3, upd_two]
    refine sp_letter (w := PW w (upd A1 2 (nI (i + 1 + 1))) B C) (at_ (i + 1 + 1)) (at2 (i + 1 + 1)) hf (by omega) (sp_isFigure (fun g2 => t01 ?_) (fun g2 => f01 ?_))
    · have g2' : figB (ltr (w 13) f (i + 1 + 1)) = true := g2
      have j2 := fig_in g2'
      refine sp_letter (w := PW w (upd A1 2 (nI (i + 1 + 1))) B C) (at_ (i + 1 + 1)) (at2 (i + 1 + 1)) hf (by omega) ?_
      rw [step, PW_3, upd_two]
      refine sp_draftWorth (o := o) h22 ho hsl ?_
      rw [PW_11]
      exact hgood (i + 1 + 2) _ (by rw [it, g1', if_pos rfl, g2', if_pos rfl]; rfl) (by omega)
    · have g2' : figB (ltr (w 13) f (i + 1 + 1)) = false := g2
      refine sp_draftWorth (o := o) h22 ho hsl ?_
      rw [PW_11]
      exact hgood (i + 1 + 1) _ (by rw [it, g1', if_pos rfl, g2']; rfl) (by omega)
  · have j0 := lit_in (by decide) hm
    have it : itm (w 13) f i = if figB (ltr (w 13) f (i + 2)) then (if figB (ltr (w 13) f (i + 2 + 1)) then .inr (i + 2 + 2, 0 - ((ltr (w 13) f (i + 2) - 48) * 10 + ltr (w 13) f (i + 2 + 1) - 48)) else .inr (i + 2 + 1, 0 - (ltr (w 13) f (i + 2) - 48))) else .inl (i + 2) := by
      unfold itm
      simp [hm]
    rw [step, PW_3, upd_two, show i + 1 + 1 = i + 2 from rfl]
    refine sp_letter (w := PW w (upd A1 2 (nI (i + 2))) B C) (at_ (i + 2)) (at2 (i + 2)) hf (by omega) (sp_isFigure (fun g1 => t10 ?_) (fun g1 => f10 (hbad (i + 2) (by rw [it]; rw [show figB (ltr (w 13) f (i + 2)) = false from g1]; rfl) (by omega))))
    have g1' : figB (ltr (w 13) f (i + 2)) = true := g1
    have j1 := fig_in g1'
    refine sp_letter (w := PW w (upd A1 2 (nI (i + 2))) B C) (at_ (i + 2)) (at2 (i + 2)) hf (by omega) ?_
    rw [step, PW_3, upd_two]
    refine sp_letter (w := PW w (upd A1 2 (nI (i + 2 + 1))) B C) (at_ (i + 2 + 1)) (at2 (i + 2 + 1)) hf (by omega) (sp_isFigure (fun g2 => t01 ?_) (fun g2 => f01 ?_))
    · have g2' : figB (ltr (w 13) f (i + 2 + 1)) = true := g2
      have j2 := fig_in g2'
      refine sp_letter (w := PW w (upd A1 2 (nI (i + 2 + 1))) B C) (at_ (i + 2 + 1)) (at2 (i + 2 + 1)) hf (by omega) ?_
      rw [step, PW_3, upd_two]
      refine sp_draftWorth (o := o) h22 ho hsl ?_
      rw [PW_11]
      exact hgood (i + 2 + 2) _ (by rw [it, g1', if_pos rfl, g2', if_pos rfl]; rfl) (by omega)
    · have g2' : figB (ltr (w 13) f (i + 2 + 1)) = false := g2
      refine sp_draftWorth (o := o) h22 ho hsl ?_
      rw [PW_11]
      exact hgood (i + 2 + 1) _ (by rw [it, g1', if_pos rfl, g2']; rfl) (by omega)
end SPI
