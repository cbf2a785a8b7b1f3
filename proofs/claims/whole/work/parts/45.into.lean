section SPE
variable {d : Nat} {w : ex_WW} {P : Int32 → ex_WW → Prop} {f o : Nat} {B0 : Nat → Int32}
theorem sp_clearDraft {A B C : Nat → Int32} (h22 : w 2 2 = nI o) (ho : o < 6) (hB : ∀ k, k < o * 6 → B k = B0 k) (h : ∀ B', (∀ s, s < 6 → B' (o * 6 + s) = 0) → (∀ k, k < o * 6 → B' k = B0 k) → P 0 (PW w A B' (upd C o 0))) : ex_Ev (d + 1) mX3_clearDraft 0 (ex_in [.inr 2] 2) [] (PW w A B C) P := by
  refine sg_X3_clearDraft_0 ?_
  have loop : ∀ m i B, i + m = 6 → (∀ s, s < i → B (o * 6 + s) = 0) → (∀ k, k < o * 6 → B k = B0 k) → ex_Ev (d + 1) mX3_clearDraft 2 [some (.inr 2), some (.inl (nI i))] [] (PW w A B C) P := by
    intro m
    induction m with
    | zero =>
      intro i B hi h1 h2
      refine sg_X3_clearDraft_2 (pT (by rw [show i = 6 by omega]; decide) (sp_draftTie (o := o) h22 ho ?_))
      rw [PW_12]
      exact h B (fun s hs => h1 s (by omega)) h2
    | succ m ih =>
      intro i B hi h1 h2
      refine sg_X3_clearDraft_2 (pF (fun q => nI_ge (a := i) (b := 6) (by omega) (by decide) q) (sp_draftWorth (o := o) h22 ho (by omega) ?_))
      rw [PW_11, nI_1]
      refine ih (i + 1) _ (by omega) (fun s hs => ?_) (fun k hk => ?_)
      · by_cases e : s = i
        · rw [e, upd_at]
        · rw [upd_ne _ _ (by omega)]; exact h1 s (by omega)
      · rw [upd_ne _ _ (by omega)]; exact h2 k hk
  exact loop 6 0 B rfl (fun s hs => absurd hs (by omega)) hB
theorem sp_readInto (h31 : w 3 1 = nI f) (hf : f ≤ 60) (h22 : w 2 2 = nI o) (ho : o < 6)
    (hbad : ∀ j A' B' C', txt (w 13) f = .inl j → j ≤ f → A' 1 = nI f → (∀ k, k < o * 6 → B' k = w 11 k) → (∀ k, k < o → C' k = w 12 k) → P (nI j) (PW w A' B' C'))
    (hgood : ∀ D t A' B' C', txt (w 13) f = .inr (D, t) → A' 1 = nI f → (∀ k, k < o * 6 → B' k = w 11 k) → (∀ s, s < 6 → B' (o * 6 + s) = D s) → (∀ k, k < o → C' k = w 12 k) → C' o = nI t → P (-1) (PW w A' B' C')) : ex_Ev (d + 3) mX5_readInto 0 (ex_in [.inr 3, .inr 2] 3) [] w P := by
  refine sg_X5_readInto_0 ?_
  have e0 : ex_up (ex_up w 3 2 0) 3 3 0 = PW w (upd (upd (w 3) 2 0) 3 0) (w 11) (w 12) := by
    have := PW_id w
    rw [← PW_3, ← PW_3, PW_id]
  rw [e0]
  generalize hA : upd (upd (w 3) 2 0) 3 0 = A
  have a1 : A 1 = nI f := by rw [← hA]; exact h31
  have a2 : A 2 = nI 0 := by rw [← hA]; rfl
  have a3 : A 3 = 0 := by rw [← hA]; rfl
  have cU : ∀ k, k < o → (upd (w 12) o 0) k = w 12 k := fun k hk => upd_ne _ _ (by omega)
  refine sp_clearDraft (B0 := w 11) h22 ho (fun k hk => rfl) (fun B1 z1 z2 => ?_)
  refine sp_readItems (B0 := w 11) hf h22 ho ⟨a1, a2, by omega, fun s hs => by rw [a3]; exact b_0 s, z1, z2⟩ (fun j A' B' e h2 hj h1 h5 => f01 ?_) (fun i nm D A' B' e hR => ?_)
  · rw [show (PW w A' B' (upd (w 12) o 0)) 3 2 = nI j from h2]
    refine hbad j A' B' _ ?_ hj h1 h5 cU
    unfold txt
    rw [e]
  · obtain ⟨h1, h2, hi, h3, h4, h5⟩ := hR
    by_cases i0 : i = 0
    · rw [if_pos i0]
      refine f01 ?_
      rw [show (PW w A' B' (upd (w 12) o 0)) 3 2 = nI i from h2, i0]
      refine hbad 0 A' B' _ ?_ (by omega) h1 h5 cU
      unfold txt
      rw [e]
      simp [i0]
    · rw [if_neg i0]
      refine t01 (sp_readTie (o := o) hf h22 ho h1 h2 hi (fun hno => t01 ?_) (fun hb hs0 hle => f01 ?_) (fun hb hs0 hle => t01 ?_))
      · rw [show (PW w A' B' (upd (w 12) o 0)) 3 2 = nI i from h2, show (PW w A' B' (upd (w 12) o 0)) 3 1 = nI f from h1]
        refine ⟨fun q => ?_, fun q => ?_⟩
        · refine hbad i A' B' _ ?_ hi h1 h5 cU
          unfold txt
          rw [e]
          have : i ≠ f := fun y => q (by rw [y])
          simp [i0, hno, this]
        · have : i = f := (nI_eq (by omega) (by omega)).mp q
          refine hgood D 0 A' B' _ ?_ h1 h5 h4 cU (upd_at _ _ _)
          unfold txt
          rw [e]
          subst this
          simp [i0, hno]
      · rw [show (PW w (upd A' 2 (nI (i + 1))) B' (upd (w 12) o 0)) 3 2 = nI (i + 1) from upd_at A' 2 _]
        refine hbad (i + 1) _ B' _ ?_ hle h1 h5 cU
        unfold txt
        rw [e]
        simp [i0, hb, hs0]
      · rw [show (PW w (upd A' 2 (nI (i + 2))) B' (upd (upd (w 12) o 0) o (nI (strk (ltr (w 13) f (i + 1)))))) 3 2 = nI (i + 2) from upd_at A' 2 _, show (PW w (upd A' 2 (nI (i + 2))) B' (upd (upd (w 12) o 0) o (nI (strk (ltr (w 13) f (i + 1)))))) 3 1 = nI f from h1, upd_two]
        have cU2 : ∀ k, k < o → (upd (w 12) o (nI (strk (ltr (w 13) f (i + 1))))) k = w 12 k := fun k hk => upd_ne _ _ (by omega)
        refine ⟨fun q => ?_, fun q => ?_⟩
        · refine hbad (i + 2) _ B' _ ?_ hle h1 h5 cU2
          unfold txt
          rw [e]
          have : i + 2 ≠ f := fun y => q (by rw [y])
          simp [i0, hb, hs0, this]
        · have : i + 2 = f := (nI_eq (by omega) (by omega)).mp q
          refine hgood D (strk (ltr (w 13) f (i + 1))) _ B' _ ?_ h1 h5 h4 cU2 (upd_at _ _ _)
          unfold txt
          rw [e]
          simp [i0, hb, hs0, this]
end SPE
