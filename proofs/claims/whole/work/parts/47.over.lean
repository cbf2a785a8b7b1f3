def cnN (nm : Nat → Bool) : Nat := (if nm 1 then 1 else 0) + (if nm 2 then 1 else 0) + (if nm 3 then 1 else 0) + (if nm 4 then 1 else 0) + (if nm 5 then 1 else 0)
theorem cnN_le (nm : Nat → Bool) : cnN nm ≤ 5 := by unfold cnN; (repeat' split) <;> omega
theorem cnN_add {nm : Nat → Bool} {s : Nat} (h0 : s ≠ 0) (h6 : s < 6) (hs : nm s = false) : cnN (fun x => if x = s then true else nm x) = cnN nm + 1 := by
  rcases (show s = 1 ∨ s = 2 ∨ s = 3 ∨ s = 4 ∨ s = 5 by omega) with rfl | rfl | rfl | rfl | rfl <;> simp [cnN, hs] <;> omega
section SPH
variable {d : Nat} {w : ex_WW} {P : Int32 → ex_WW → Prop} {f : Nat}
set_option maxHeartbeats 4000000 in
theorem sp_over (hf : f ≤ 60) (h5 : w 23 5 = nI f)
    (hbad : ∀ j G R N, txt (w 28) f = .inl j → (∀ k, k ≠ 21 → k ≠ 22 → k ≠ 23 → G k = w 23 k) → P (nI j) (MW w G R N))
    (hgood : ∀ D t G R N, txt (w 28) f = .inr (D, t) → (∀ k, k ≠ 21 → k ≠ 22 → k ≠ 23 → G k = w 23 k) → (∀ s, s < 6 → R s = D s) → R 6 = nI t → P (-1) (MW w G R N)) :
    ∀ (m i : Nat) (nm : Nat → Bool) (D G R N : Nat → Int32) (a : Nat), (∀ k, k ≠ 21 → k ≠ 22 → k ≠ 23 → G k = w 23 k) → G 22 = nI a → a < 6 → (G 21 = 0 ∨ G 21 = 3 ∨ G 21 = 4) → (G 21 = 0 ↔ i = 0) → (G 21 = 3 → figB (ltr (w 28) f i) = false) → i ≤ f → (∀ s, s < 6 → effR G R a s = D s) → R 6 = 0 → (∀ s, s < 6 → N s = if nm s then 1 else 0) → 6 ≤ cnN nm + m → its (w 28) f m i nm D = its (w 28) f 6 0 (fun _ => false) (fun _ => 0) → ex_Ev (d + 2) mX7_goOver 59 [some (.inr 23), some (.inl (nI i))] [] (MW w G R N) P := by
  intro m
  induction m with
  | zero =>
    intro i nm D G R N a _ _ _ _ _ _ _ _ _ _ hc
    have := cnN_le nm
    omega
  | succ m ih =>
    intro i nm D G R N a hG ha ha6 h21 h0 h3 hi hD hR6 hN hc he
    have eff6 : effR G R a 6 = 0 := by
      unfold effR
      split
      · exact hR6
      · rw [upd_ne _ _ (by omega)]; exact hR6
    -- a turn of the loop, and its end
    have more : ∀ (G R N : Nat → Int32) (i : Nat), G 5 = nI f → i < f → ex_Ev (d + 1) mX7_pass 0 (ex_in [.inr 23, .inl (ltr (w 28) f i)] 4) [] (MW w G R N) (fun r3 u4 => ((¬ r3 = 0 → ex_Ev (d + 2) mX7_goOver 59 [some (.inr 23), some (.inl (nI (i + 1)))] [] u4 P) ∧ (r3 = 0 → P (nI i) u4))) → ex_Ev (d + 2) mX7_goOver 59 [some (.inr 23), some (.inl (nI i))] [] (MW w G R N) P := by
      intro G R N i g5 hi h
      refine sg_X7_goOver_59 (pF (by rw [show (MW w G R N) 23 5 = nI f from g5]; exact nI_ge hi (by omega)) ⟨vp_in_nI (by omega) (by decide), ?_⟩)
      rw [nI_clamp (by omega), show (MW w G R N) 28 i = ltr (w 28) f i from (if_pos hi).symm, nI_1]
      exact h
    have stop : ∀ (G R N : Nat → Int32), G 5 = nI f → (G 21 = 0 ∨ G 21 = 1 ∨ G 21 = 2 ∨ G 21 = 5) → P (nI f) (MW w G R N) → ex_Ev (d + 2) mX7_goOver 59 [some (.inr 23), some (.inl (nI f))] [] (MW w G R N) P := by
      intro G R N g5 hn h
      refine sg_X7_goOver_59 (pT (by rw [show (MW w G R N) 23 5 = nI f from g5]; exact nI_le (Nat.le_refl _) (by omega)) ?_)
      rw [show (MW w G R N) 23 5 = nI f from g5, show (MW w G R N) 23 21 = G 21 from rfl]
      refine ⟨fun _ => h, fun a0 => ⟨fun _ => h, fun a1 => ⟨fun _ => h, fun a2 => ⟨fun a5 => ?_, fun _ => h⟩⟩⟩⟩
      rcases hn with z | z | z | z
      · exact absurd z a0
      · exact absurd z a1
      · exact absurd z a2
      · exact absurd z a5
    have fine : ∀ (G R N : Nat → Int32) (a : Nat), G 5 = nI f → (G 21 = 3 ∨ G 21 = 4 ∨ G 21 = 6) → G 22 = nI a → a < 7 → P (-1) (MW w (upd G 23 0) (effR G R a) N) → ex_Ev (d + 2) mX7_goOver 59 [some (.inr 23), some (.inl (nI f))] [] (MW w G R N) P := by
      intro G R N a g5 hn ga ga7 h
      refine sg_X7_goOver_59 (pT (by rw [show (MW w G R N) 23 5 = nI f from g5]; exact nI_le (Nat.le_refl _) (by omega)) ?_)
      rw [show (MW w G R N) 23 21 = G 21 from rfl]
      have no : ∀ k : Int32, k = 0 ∨ k = 1 ∨ k = 2 ∨ k = 5 → ¬ G 21 = k := by
        intro k hk e
        rw [e] at hn
        rcases hk with rfl | rfl | rfl | rfl <;> revert hn <;> decide
      exact pF (no 0 (by simp)) (pF (no 1 (by simp)) (pF (no 2 (by simp)) (qF (no 5 (by simp)) (sp_close ga ga7 h))))
    have g5 : G 5 = nI f := (hG 5 (by decide) (by decide) (by decide)).trans h5
    rw [its] at he
    rcases Nat.lt_or_ge i f with hif | hif
    · refine more G R N i g5 hif (sp_pass_bound h21 h3 ha (by omega) (fun s hs => by rw [hN s hs]; split <;> simp) (fun z1 z2 => t10 ?_) (fun z1 z2 => f10 ?_) (fun z1 z2 => t10 ?_))
      · -- the !
        have hi0 : i ≠ 0 := fun z => z1 (h0.mpr z)
        rw [if_pos (Or.inl (by rw [z2]; decide))] at he
        have fr : ∀ k, k ≠ 21 → k ≠ 22 → k ≠ 23 → (upd (upd G 23 0) 21 5) k = w 23 k := fun k a b c => by rw [upd_ne _ _ a, upd_ne _ _ c]; exact hG k a b c
        have T : txt (w 28) f = if strk (ltr (w 28) f (i + 1)) = 0 then .inl (i + 1) else if i + 2 = f then .inr (D, strk (ltr (w 28) f (i + 1))) else .inl (i + 2) := by
          unfold txt
          rw [← he]
          simp [hi0, z2]
        rcases Nat.lt_or_ge (i + 1) f with h1f | h1f
        · refine more _ _ _ (i + 1) g5 h1f (sp_pass_last (upd_at _ _ _) (fun hs => t10 ?_) (fun hs => f10 (hbad (i + 1) _ _ _ (by rw [T, if_pos hs]) (fun k a b c => by rw [upd_ne _ _ a]; exact fr k a b c))))
          rw [if_neg hs] at T
          rcases Nat.lt_or_ge (i + 2) f with h2f | h2f
          · refine more _ _ _ (i + 2) g5 h2f (sp_pass_end (upd_at _ _ _) (f10 (hbad (i + 2) _ _ _ (by rw [T, if_neg (by omega)]) (fun k a b c => by rw [upd_ne _ _ a]; exact fr k a b c))))
          · have e2 : i + 2 = f := by omega
            rw [if_pos e2] at T
            rw [show i + 1 + 1 = f by omega]
            refine fine _ _ _ a g5 (Or.inr (Or.inr (upd_at _ _ _))) ha (by omega) ?_
            have el : effR (upd (upd (upd G 23 0) 21 5) 21 6) (upd (effR G R a) 6 (nI (strk (ltr (w 28) f (i + 1))))) a = upd (effR G R a) 6 (nI (strk (ltr (w 28) f (i + 1)))) := if_pos rfl
            rw [el]
            refine hgood D _ _ _ _ T (fun k a b c => by rw [upd_ne _ _ c, upd_ne _ _ a]; exact fr k a b c) (fun s hs6 => by rw [upd_ne _ _ (by omega)]; exact hD s hs6) (upd_at _ _ _)
        · rw [show i + 1 = f by omega]
          refine stop _ _ _ g5 (Or.inr (Or.inr (Or.inr (upd_at _ _ _)))) (hbad f _ _ _ ?_ fr)
          rw [T, if_pos (by rw [show ltr (w 28) f (i + 1) = 0 from if_neg (by omega)]; decide), show i + 1 = f by omega]
      · -- no letter that may stand here
        have sl := strk_lt (ltr (w 28) f i)
        have st : strk (ltr (w 28) f i) = 0 ∨ nm (strk (ltr (w 28) f i)) = true := by
          rcases z2 with z | z
          · exact Or.inl z
          · refine Or.inr ?_
            rw [hN _ sl] at z
            cases e : nm (strk (ltr (w 28) f i)) with
            | true => rfl
            | false => rw [e] at z; exact absurd rfl z
        rw [if_pos st] at he
        refine hbad i _ _ _ ?_ hG
        unfold txt
        rw [← he]
        by_cases hi0 : i = 0
        · simp [hi0]
        · have : ltr (w 28) f i ≠ 33 := z1.resolve_left (fun z => hi0 (h0.mp z))
          simp [hi0, this]
          omega
      · -- an item
        have sl := strk_lt (ltr (w 28) f i)
        have hnm : nm (strk (ltr (w 28) f i)) = false := by
          cases e : nm (strk (ltr (w 28) f i)) with
          | false => rfl
          | true => rw [hN _ sl, e] at z2; exact absurd z2 (by decide)
        rw [if_neg (by rw [not_or]; exact ⟨z1, by rw [hnm]; decide⟩)] at he
        generalize hs0 : strk (ltr (w 28) f i) = s at z1 z2 sl hnm he ⊢
        have cadd := cnN_add z1 sl hnm
        generalize hR1 : effR G R a = R1 at hD eff6 ⊢
        generalize hG1 : upd (upd (upd G 23 0) 22 (nI s)) 23 0 = G1
        have fr1 : ∀ k, k ≠ 21 → k ≠ 22 → k ≠ 23 → G1 k = w 23 k := fun k a b c => by rw [← hG1, upd_ne _ _ c, upd_ne _ _ b, upd_ne _ _ c]; exact hG k a b c
        have g22 : G1 22 = nI s := by rw [← hG1]; rfl
        have g23 : G1 23 = 0 := by rw [← hG1]; rfl
        have g15 : G1 5 = nI f := (fr1 5 (by decide) (by decide) (by decide)).trans h5
        have bad : ∀ j, itm (w 28) f i = .inl j → txt (w 28) f = .inl j := fun j e => by
          rw [e] at he
          unfold txt
          rw [← he]
        have N1 : ∀ x, x < 6 → upd N s 1 x = if (if x = s then true else nm x) then 1 else 0 := fun x hx => by
          by_cases e : x = s
          · rw [e, upd_at, if_pos rfl, if_pos rfl]
          · rw [upd_ne _ _ e, if_neg e]; exact hN x hx
        -- behind the first figure
        have after : ∀ (j : Nat) (b : Int32) (G2 : Nat → Int32), (∀ k, k ≠ 21 → k ≠ 22 → k ≠ 23 → G2 k = w 23 k) → G2 22 = nI s → G2 23 = b → G2 21 = 3 → i < j → j < f → figB (ltr (w 28) f j) = true → (b = 0 ∨ b = 1) → (∀ v2, figB (ltr (w 28) f (j + 1)) = true → v2 = (ltr (w 28) f j - 48) * 10 + ltr (w 28) f (j + 1) - 48 → itm (w 28) f i = .inr (j + 2, if b = 0 then v2 else 0 - v2)) → (figB (ltr (w 28) f (j + 1)) = false → itm (w 28) f i = .inr (j + 1, if b = 0 then ltr (w 28) f j - 48 else 0 - (ltr (w 28) f j - 48))) → ex_Ev (d + 2) mX7_goOver 59 [some (.inr 23), some (.inl (nI (j + 1)))] [] (MW w G2 (upd R1 s (ltr (w 28) f j - 48)) (upd N s 1)) P := by
          intro j b G2 fr2 b22 b23 b21 hij hjf hfig hb one two
          have b5 : G2 5 = nI f := (fr2 5 (by decide) (by decide) (by decide)).trans h5
          have effv : ∀ (G3 : Nat → Int32) (v : Int32), G3 23 = b → ∀ x, x < 6 → effR G3 (upd R1 s v) s x = upd D s (if b = 0 then v else 0 - v) x := by
            intro G3 v hb3 x hx
            unfold effR
            rw [hb3]
            by_cases e : x = s
            · rw [e]
              split
              · rw [upd_at, upd_at]
              · rw [upd_at, upd_at, upd_at]
            · rw [upd_ne _ _ e, ← hD x hx]
              split
              · exact upd_ne _ _ e
              · rw [upd_ne _ _ e, upd_ne _ _ e]
          cases g2 : figB (ltr (w 28) f (j + 1)) with
          | true =>
            have hj1 := fig_in g2
            refine more _ _ _ (j + 1) b5 hj1 (sp_pass_second b21 b22 (by omega) g2 (t10 ?_))
            rw [upd_at, upd_two]
            have ev : 10 * (ltr (w 28) f j - 48) + ltr (w 28) f (j + 1) - 48 = (ltr (w 28) f j - 48) * 10 + ltr (w 28) f (j + 1) - 48 := by rw [Int32.mul_comm]
            rw [ev]
            have it := one _ g2 rfl
            rw [it] at he
            exact ih (j + 2) _ _ _ _ _ s (fun k a b c => by rw [upd_ne _ _ a]; exact fr2 k a b c) b22 sl (Or.inr (Or.inr (upd_at _ _ _))) ⟨fun z => by rw [upd_at] at z; exact absurd z (by decide), fun z => by omega⟩ (fun z => by rw [upd_at] at z; exact absurd z (by decide)) (by omega) (effv (upd G2 21 4) _ b23) (by rw [upd_ne _ _ (by omega)]; exact eff6) N1 (by rw [cadd]; omega) he
          | false =>
            have it := two g2
            rw [it] at he
            exact ih (j + 1) _ _ _ _ _ s fr2 b22 sl (Or.inr (Or.inl b21)) ⟨fun z => by rw [b21] at z; exact absurd z (by decide), fun z => by omega⟩ (fun _ => g2) (by omega) (effv G2 _ b23) (by rw [upd_ne _ _ (by omega)]; exact eff6) N1 (by rw [cadd]; omega) he
        have frS : ∀ (x : Int32) k, k ≠ 21 → k ≠ 22 → k ≠ 23 → (upd G1 21 x) k = w 23 k := fun x k a b c => by rw [upd_ne _ _ a]; exact fr1 k a b c
        rcases Nat.lt_or_ge (i + 1) f with h1f | h1f
        · refine more (upd G1 21 1) R1 (upd N s 1) (i + 1) g15 h1f (sp_pass_sign (upd_at _ _ _) g22 (by omega) (fun g1 => t10 ?_) (fun hm => t10 ?_) (fun g1 hm => f10 (hbad (i + 1) _ _ _ (bad (i + 1) ?_) (frS 1))))
          · have hm : ¬ ltr (w 28) f (i + 1) = 45 := (fig_strk g1).2.2
            rw [upd_two]
            refine after (i + 1) 0 (upd G1 21 3) (frS 3) g22 g23 (upd_at _ _ _) (by omega) h1f g1 (Or.inl rfl) (fun v2 g2 ev => ?_) (fun g2 => ?_)
            · unfold itm; simp [hm, g1, g2, ev]
            · unfold itm; simp [hm, g1, g2]
          · have frM : ∀ (x : Int32) k, k ≠ 21 → k ≠ 22 → k ≠ 23 → (upd (upd (upd G1 21 1) 23 1) 21 x) k = w 23 k := fun x k a b c => by rw [upd_ne _ _ a, upd_ne _ _ c, upd_ne _ _ a]; exact fr1 k a b c
            rcases Nat.lt_or_ge (i + 2) f with h2f | h2f
            · refine more _ _ _ (i + 2) g15 h2f (sp_pass_first (upd_at _ _ _) g22 (by omega) (fun g1 => t10 ?_) (fun g1 => f10 (hbad (i + 2) _ _ _ (bad (i + 2) ?_) (frM 2))))
              · rw [upd_two]
                refine after (i + 2) 1 (upd (upd (upd G1 21 1) 23 1) 21 3) (frM 3) g22 rfl (upd_at _ _ _) (by omega) h2f g1 (Or.inr rfl) (fun v2 g2 ev => ?_) (fun g2 => ?_)
                · unfold itm; simp [hm, g1, g2, ev]
                · unfold itm; simp [hm, g1, g2]
              · unfold itm; simp [hm, g1]
            · rw [show i + 1 + 1 = f by omega]
              have z0 : figB (ltr (w 28) f (i + 2)) = false := by rw [show ltr (w 28) f (i + 2) = 0 from if_neg (by omega)]; decide
              refine stop _ _ _ g15 (Or.inr (Or.inr (Or.inl (upd_at _ _ _)))) (hbad f _ _ _ (bad f ?_) (frM 2))
              unfold itm; simp [hm, z0]; omega
          · unfold itm; simp [hm, g1]
        · rw [show i + 1 = f by omega]
          have z0 : ltr (w 28) f (i + 1) = 0 := if_neg (by omega)
          refine stop (upd G1 21 1) R1 (upd N s 1) g15 (Or.inr (Or.inl (upd_at _ _ _))) (hbad f _ _ _ (bad f ?_) (frS 1))
          unfold itm
          rw [z0]
          simp [show figB 0 = false by decide, show ¬ (0 : Int32) = 45 by decide, z0]
          omega
    · have hif' : i = f := by omega
      have z0 : ltr (w 28) f i = 0 := if_neg (by omega)
      rw [if_pos (Or.inl (by rw [z0]; decide))] at he
      rcases h21 with h | h
      · have i0 := h0.mp h
        rw [hif']
        refine stop G R N g5 (Or.inl h) (hbad f _ _ _ ?_ hG)
        unfold txt
        rw [← he]
        simp [i0]; omega
      · have i0 : i ≠ 0 := fun z => by
          have := h0.mpr z
          rw [this] at h
          rcases h with h | h <;> exact absurd h (by decide)
        rw [hif']
        refine fine G R N a g5 (h.elim Or.inl (fun y => Or.inr (Or.inl y))) ha (by omega) (hgood D 0 _ _ _ ?_ (fun k a b c => by rw [upd_ne _ _ c]; exact hG k a b c) hD eff6)
        unfold txt
        rw [← he]
        simp [i0, z0]
        omega
end SPH
