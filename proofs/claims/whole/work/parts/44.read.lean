/-- the items from a place on: the place of a fault, or where they end and the worths -/
def its (L : Nat → Int32) (f : Nat) : Nat → Nat → (Nat → Bool) → (Nat → Int32) → Nat ⊕ (Nat × (Nat → Int32))
  | 0, i, _, D => .inr (i, D)
  | m + 1, i, nm, D => if strk (ltr L f i) = 0 ∨ nm (strk (ltr L f i)) = true then .inr (i, D) else (match itm L f i with
    | .inl j => .inl j
    | .inr (j, v) => its L f m j (fun s => if s = strk (ltr L f i) then true else nm s) (upd D (strk (ltr L f i)) v))
/-- a text: the place of its fault, or its worths and the stroke behind its ! -/
def txt (L : Nat → Int32) (f : Nat) : Nat ⊕ ((Nat → Int32) × Nat) := match its L f 6 0 (fun _ => false) (fun _ => 0) with
  | .inl j => .inl j
  | .inr (i, D) => if i = 0 then .inl 0 else if ltr L f i = 33 then (if strk (ltr L f (i + 1)) = 0 then .inl (i + 1) else if i + 2 = f then .inr (D, strk (ltr L f (i + 1))) else .inl (i + 2)) else if i = f then .inr (D, 0) else .inl i
theorem itm_gt {L : Nat → Int32} {f i j : Nat} {v : Int32} (h : itm L f i = .inr (j, v)) : i < j := by
  unfold itm at h
  by_cases hn : ltr L f (i + 1) = 45
  · simp [hn] at h
    split at h
    · split at h
      · cases h; omega
      · cases h; omega
    · cases h
  · simp [hn] at h
    split at h
    · split at h
      · cases h; omega
      · cases h; omega
    · cases h
section SPD
variable {d : Nat} {w : ex_WW} {P : Int32 → ex_WW → Prop} {f o : Nat} {C B0 : Nat → Int32}
def okR (f o i : Nat) (nm : Nat → Bool) (D A B B0 : Nat → Int32) : Prop := A 1 = nI f ∧ A 2 = nI i ∧ i ≤ f ∧ (∀ s, s < 6 → bt (A 3) s = nm s) ∧ (∀ s, s < 6 → B (o * 6 + s) = D s) ∧ ∀ k, k < o * 6 → B k = B0 k
theorem sp_startsItem {i : Nat} {nm : Nat → Bool} {D A B : Nat → Int32} (hf : f ≤ 60) (hR : okR f o i nm D A B B0) (ht : ¬ (strk (ltr (w 13) f i) = 0 ∨ nm (strk (ltr (w 13) f i)) = true) → P 1 (PW w A B C)) (hn : strk (ltr (w 13) f i) = 0 ∨ nm (strk (ltr (w 13) f i)) = true → P 0 (PW w A B C)) : ex_Ev (d + 1) mX5_startsItem 0 (ex_in [.inr 3] 2) [] (PW w A B C) P := by
  obtain ⟨h1, h2, hi, h3, h4, h5⟩ := hR
  have sl := strk_lt (ltr (w 13) f i)
  refine sg_X5_startsItem_0 (sp_letter (w := PW w A B C) (i := i) h1 h2 hf hi (sp_strokeBy ?_))
  rw [show (PW w A B C) 13 = w 13 from rfl, show (PW w A B C) 3 3 = A 3 from rfl, bit_0 (by omega), h3 _ sl]
  refine ⟨fun q => hn (Or.inl ((nI_eq (by omega) (b := 0) (by decide)).mp q)), fun q => ⟨fun q2 => hn (Or.inr ?_), fun q2 => ht (fun z => ?_)⟩⟩
  · rw [Bool.not_eq_false] at q2; exact q2
  · rcases z with z | z
    · exact q (by rw [z]; rfl)
    · rw [z] at q2; cases q2
theorem sp_readItems {A B : Nat → Int32} (hf : f ≤ 60) (h22 : w 2 2 = nI o) (ho : o < 6) (hR : okR f o 0 (fun _ => false) (fun _ => 0) A B B0)
    (hbad : ∀ j A' B', its (w 13) f 6 0 (fun _ => false) (fun _ => 0) = .inl j → A' 2 = nI j → j ≤ f → A' 1 = nI f → (∀ k, k < o * 6 → B' k = B0 k) → P 0 (PW w A' B' C))
    (hgood : ∀ i nm D A' B', its (w 13) f 6 0 (fun _ => false) (fun _ => 0) = .inr (i, D) → okR f o i nm D A' B' B0 → P (if i = 0 then 0 else 1) (PW w A' B' C)) : ex_Ev (d + 2) mX5_readItems 0 (ex_in [.inr 3, .inr 2] 3) [] (PW w A B C) P := by
  refine sg_X5_readItems_0 ?_
  have loop : ∀ m i k nm D A B, k + m = 6 → (k = 0 ↔ i = 0) → okR f o i nm D A B B0 → its (w 13) f m i nm D = its (w 13) f 6 0 (fun _ => false) (fun _ => 0) → ex_Ev (d + 2) mX5_readItems 2 [some (.inr 3), some (.inr 2), some (.inl (nI k))] [] (PW w A B C) P := by
    intro m
    induction m with
    | zero =>
      intro i k nm D A B hk hki hR he
      have g := hgood i nm D A B he.symm hR
      rw [if_neg (by omega)] at g
      refine sg_X5_readItems_2 (pT (by rw [show k = 6 by omega]; decide) (pF (by rw [show k = 6 by omega]; decide) g))
    | succ m ih =>
      intro i k nm D A B hk hki hR he
      rw [its] at he
      refine sg_X5_readItems_2 (pF (fun q => nI_ge (a := k) (b := 6) (by omega) (by decide) q) (sp_startsItem hf hR (fun hs => t01 ?_) (fun hs => f01 ?_)))
      · rw [if_neg hs] at he
        rw [not_or] at hs
        obtain ⟨h1, h2, hi, h3, h4, h5⟩ := hR
        have sl := strk_lt (ltr (w 13) f i)
        refine sp_readItem (o := o) h1 h2 hf h22 ho hs.1 (fun j e hj => f10 ?_) (fun j v e hj => t10 ?_)
        · rw [e] at he
          exact hbad j (upd (upd A 3 (A 3 ||| (1 <<< (nI (strk (ltr (w 13) f i)) &&& 31)))) 2 (nI j)) B he.symm (upd_at _ _ _) hj h1 h5
        · rw [e] at he
          rw [nI_1]
          have gt := itm_gt e
          refine ih j (k + 1) _ _ _ _ (by omega) (by omega) ⟨h1, upd_at _ _ _, hj, fun s hs6 => ?_, fun s hs6 => ?_, fun x hx => ?_⟩ he
          · show bt (upd (upd A 3 _) 2 _ 3) s = _
            rw [upd_ne _ _ (by decide), upd_at, bit_or (by omega) (by omega), h3 s hs6]
            by_cases z : s = strk (ltr (w 13) f i)
            · simp [z]
            · simp [z]
          · by_cases z : s = strk (ltr (w 13) f i)
            · rw [z, upd_at, upd_at]
            · rw [upd_ne _ _ (by omega), upd_ne _ _ z]; exact h4 s hs6
          · rw [upd_ne _ _ (by omega)]; exact h5 x hx
      · rw [if_pos hs] at he
        have g := hgood i nm D A B he.symm hR
        refine ⟨fun q => ?_, fun q => ?_⟩
        · have : k ≤ 0 := (nI_leI (by omega) (b := 0) (by decide)).mp q
          rw [if_pos (by omega)] at g; exact g
        · have : ¬ k ≤ 0 := fun z => q (nI_le z (b := 0) (by decide))
          rw [if_neg (by omega)] at g; exact g
  exact loop 6 0 0 _ _ A B rfl (by omega) hR rfl
theorem sp_readTie {i : Nat} {A B : Nat → Int32} (hf : f ≤ 60) (h22 : w 2 2 = nI o) (ho : o < 6) (h1 : A 1 = nI f) (h2 : A 2 = nI i) (hi : i ≤ f)
    (hno : ltr (w 13) f i ≠ 33 → P 1 (PW w A B C)) (hbad : ltr (w 13) f i = 33 → strk (ltr (w 13) f (i + 1)) = 0 → i + 1 ≤ f → P 0 (PW w (upd A 2 (nI (i + 1))) B C))
    (hgood : ltr (w 13) f i = 33 → strk (ltr (w 13) f (i + 1)) ≠ 0 → i + 2 ≤ f → P 1 (PW w (upd A 2 (nI (i + 2))) B (upd C o (nI (strk (ltr (w 13) f (i + 1))))))) : ex_Ev (d + 1) mX5_readTie 0 (ex_in [.inr 3, .inr 2] 3) [] (PW w A B C) P := by
  refine sg_X5_readTie_0 (sp_letter (w := PW w A B C) (i := i) h1 h2 hf hi ⟨fun q => ?_, fun q => hno q⟩)
  have q' : ltr (w 13) f i = 33 := q
  have hi1 := lit_in (by decide) q'
  rw [show (PW w A B C) 3 2 = nI i from h2, nI_1, PW_3]
  refine sp_letter (w := PW w (upd A 2 (nI (i + 1))) B C) (i := i + 1) h1 (upd_at A 2 (nI (i + 1))) hf (by omega) (sp_strokeBy ?_)
  rw [show (PW w (upd A 2 (nI (i + 1))) B C) 13 = w 13 from rfl]
  have sl := strk_lt (ltr (w 13) f (i + 1))
  refine ⟨fun z => ?_, fun z => hbad q' ((nI_eq (by omega) (b := 0) (by decide)).mp z) (by omega)⟩
  have hs : strk (ltr (w 13) f (i + 1)) ≠ 0 := fun y => z (by rw [y]; rfl)
  have hi2 := strk_in hs
  refine sp_draftTie (o := o) h22 ho ?_
  rw [PW_12, show (PW w (upd A 2 (nI (i + 1))) B (upd C o (nI (strk (ltr (w 13) f (i + 1)))))) 3 2 = nI (i + 1) from upd_at A 2 _, nI_1, PW_3, upd_two]
  exact hgood q' hs (by omega)
end SPD
