def shB (g h : Nat → Int32) (i k : Nat) : Bool := decide (g i = g k ∨ h i = g k ∨ g i = h k ∨ h i = h k)
theorem ap_iff {x y : Nat} : apB x y = true ↔ (2 : Int) ≤ (x : Int) - y ∨ (x : Int) - y ≤ -2 := by
  unfold apB
  simp
  omega
section SPT
variable {d : Nat} {w : ex_WW} {P : Int32 → ex_WW → Prop} {n c t : Nat} {p : Nat → Nat}
theorem sp_abs {x : Int32} (h : ∀ r : Int32, (r = x ∧ 0 ≤ x.toInt) ∨ (r = 0 - x ∧ x.toInt < 0) → P r w) : ex_Ev d mJ9_abs_0f7a4 0 (ex_in [.inl x] 1) [] w P := by
  refine sg_J9_abs_0f7a4_0 ⟨fun q => h _ (Or.inl ⟨rfl, ?_⟩), fun q => h _ (Or.inr ⟨rfl, ?_⟩)⟩ <;> rw [le_toInt, ti_0] at q <;> omega
theorem sp_isFree (hc : c < 7) (ht : t ≤ 100) (hp : ∀ i, i < c → w 20 i = nI (p i) ∧ p i ≤ 100) (hy : okP (shB (w 18) (w 19)) c p t = true → P 1 w) (hn : okP (shB (w 18) (w 19)) c p t = false → P 0 w) : ex_Ev (d + 1) mX1_isFree 0 (ex_in [.inr 5, .inl (nI c), .inl (nI t)] 5) [] w P := by
  have e2 : (2 : Int32).toInt = 2 := by decide
  refine sg_X1_isFree_0 ?_
  have loop : ∀ m i, i + m = c → (∀ k, k < i → shB (w 18) (w 19) k c = true → apB (p k) t = true) → ex_Ev (d + 1) mX1_isFree 2 [some (.inr 5), some (.inl (nI c)), some (.inl (nI t)), some (.inl (nI i)), none] [] w P := by
    intro m
    induction m with
    | zero =>
      intro i hi h
      refine sg_X1_isFree_2 (pT (nI_le (by omega) (by omega)) (hy ?_))
      rw [okP_iff]
      exact fun k hk => h k (by omega)
    | succ m ih =>
      intro i hi h
      have iv := vp_in_nI hc (N := 7) (by decide)
      have next : (shB (w 18) (w 19) i c = true → apB (p i) t = true) → ex_Ev (d + 1) mX1_isFree 2 [some (.inr 5), some (.inl (nI c)), some (.inl (nI t)), some (.inl (nI i + 1)), none] [] w P := fun z => by
        rw [nI_1]
        refine ih (i + 1) (by omega) (fun k hk hs => ?_)
        by_cases e : k = i
        · subst e; exact z hs
        · exact h k (by omega) hs
      have yes : shB (w 18) (w 19) i c = true → ex_Ev (d + 1) mX1_isFree 42 [some (.inr 5), some (.inl (nI c)), some (.inl (nI t)), some (.inl (nI i)), some (.inl 1)] [] w P := fun hs => by
        obtain ⟨ep, bp⟩ := hp i (by omega)
        have ex : (nI (p i) - nI t).toInt = (p i : Int) - t := pk_sub_toInt (by omega) (by omega)
        refine sg_X1_isFree_42 (t01 ⟨vp_in_nI (by omega) (by decide), ?_⟩)
        rw [nI_clamp (by omega), ep]
        refine sp_abs (fun r hr => ?_)
        have er : r.toInt = if 0 ≤ (p i : Int) - t then (p i : Int) - t else -((p i : Int) - t) := by
          rcases hr with ⟨rfl, h0⟩ | ⟨rfl, h0⟩
          · rw [ex] at h0 ⊢; rw [if_pos h0]
          · rw [ti_sub (by rw [ti_0, ex]; omega) (by rw [ti_0, ex]; omega), ti_0, ex]
            rw [ex] at h0
            rw [if_neg (by omega)]
            omega
        refine ⟨fun q => next (fun _ => ?_), fun q => hn ?_⟩
        · rw [le_toInt, e2, er] at q
          rw [ap_iff]
          split at q <;> omega
        · rw [le_toInt, e2, er] at q
          cases hk : okP (shB (w 18) (w 19)) c p t with
          | false => rfl
          | true =>
            exfalso
            rw [okP_iff] at hk
            have := hk i (by omega) hs
            rw [ap_iff] at this
            split at q <;> omega
      refine sg_X1_isFree_2 (pF (nI_ge (by omega) (by omega)) ⟨iv, ?_⟩)
      rw [nI_clamp (by omega)]
      refine sp_isOf (by omega) (fun q => t10 (yes ?_)) (fun q => f10 ⟨iv, sp_isOf (by omega) (fun q2 => t01 (yes ?_)) (fun q2 => f01 (sg_X1_isFree_42 (f01 (next (fun hs => ?_)))))⟩)
      · unfold shB
        rcases q with q | q <;> simp [q]
      · unfold shB
        rcases q2 with q2 | q2 <;> simp [q2]
      · exfalso
        unfold shB at hs
        rw [not_or] at q q2
        simp [q, q2] at hs
  exact loop c 0 (by omega) (fun k hk => absurd hk (by omega))
theorem sp_settle {h : Nat} (hh : h ≤ 6) (hn7 : n ≤ 7) : ∀ (m c : Nat) (w : ex_WW) (p : Nat → Nat) (P : Int32 → ex_WW → Prop), w 5 3 = nI n → c + m = n → (∀ i, i < c → w 20 i = nI (p i) ∧ p i ≤ 100) →
    (∀ q X, ext (okP (shB (w 18) (w 19))) 2 (h + 1) m c p = some q → (∀ i, i < n → X i = nI (q i)) → P 1 (ex_upf w 20 X)) → (∀ X, ext (okP (shB (w 18) (w 19))) 2 (h + 1) m c p = none → (∀ i, i < c → X i = w 20 i) → P 0 (ex_upf w 20 X)) → ex_Ev (d + m + 3) mX1_settle 0 (ex_in [.inr 5, .inl (nI c), .inl (nI (2 * h))] 4) [] w P := by
  intro m
  induction m with
  | zero =>
    intro c w p P h5 hc hp ht hf
    refine sg_X1_settle_0 (pF (by rw [h5]; exact nI_nlt (by omega) (by omega)) ?_)
    have := ht p (w 20) rfl (fun i hi => (hp i (by omega)).1)
    rw [xf_id] at this
    exact this
  | succ m ih =>
    intro c w p P h5 hc hp ht hf
    refine sg_X1_settle_0 (pT (by rw [h5]; exact nI_lt (by omega) (by omega)) ?_)
    have loop : ∀ r k (Y : Nat → Int32), k + r = h + 1 → (∀ i, i < c → Y i = w 20 i) → (lvl (ext (okP (shB (w 18) (w 19))) 2 (h + 1) m (c + 1)) (okP (shB (w 18) (w 19)) c p) c 2 p r (2 * k) = ext (okP (shB (w 18) (w 19))) 2 (h + 1) (m + 1) c p) → ex_Ev (d + (m + 1) + 3) mX1_settle 12 [some (.inr 5), some (.inl (nI c)), some (.inl (nI (2 * h))), some (.inl (nI (2 * k)))] [] (ex_upf w 20 Y) P := by
      intro r
      induction r with
      | zero =>
        intro k Y hk hY he
        refine sg_X1_settle_12 (pT (nI_lt (by omega) (by omega)) (hf Y ?_ hY))
        rw [← he]
        rfl
      | succ r ihr =>
        intro k Y hk hY he
        rw [lvl] at he
        have next : ∀ Y' : Nat → Int32, (∀ i, i < c → Y' i = w 20 i) → lvl (ext (okP (shB (w 18) (w 19))) 2 (h + 1) m (c + 1)) (okP (shB (w 18) (w 19)) c p) c 2 p r (2 * k + 2) = ext (okP (shB (w 18) (w 19))) 2 (h + 1) (m + 1) c p → ex_Ev (d + (m + 1) + 3) mX1_settle 12 [some (.inr 5), some (.inl (nI c)), some (.inl (nI (2 * h))), some (.inl (nI (2 * k) + 2))] [] (ex_upf w 20 Y') P := fun Y' hY' e' => by
          rw [show nI (2 * k) + 2 = nI (2 * (k + 1)) from nI_add (2 * k) 2]
          exact ihr (k + 1) Y' (by omega) hY' e'
        refine sg_X1_settle_12 (pF (nI_nlt (by omega) (by omega)) ?_)
        refine sp_isFree (w := ex_upf w 20 Y) (p := p) (by omega) (by omega) (fun i hi => ⟨?_, (hp i hi).2⟩) (fun hok => t01 ⟨vp_in_nI (by omega) (by decide), ?_⟩) (fun hok => f01 (next Y hY ?_))
        · rw [xf_at, hY i hi]; exact (hp i hi).1
        · have hok' : okP (shB (w 18) (w 19)) c p (2 * k) = true := hok
          rw [if_pos hok'] at he
          rw [nI_clamp (by omega), xf_up, nI_1]
          refine ih (c + 1) (ex_upf w 20 (upd Y c (nI (2 * k)))) (pset p c (2 * k)) _ h5 (by omega) (fun i hi => ?_) (fun q X e hX => t01 ?_) (fun X e hX => f01 ?_)
          · rw [xf_at]
            by_cases e : i = c
            · subst e; rw [upd_at, pset_at]; exact ⟨rfl, by omega⟩
            · rw [upd_ne _ _ e, pset_ne _ _ e, hY i (by omega)]; exact hp i (by omega)
          · rw [xf_two]
            have e' : ext (okP (shB (w 18) (w 19))) 2 (h + 1) m (c + 1) (pset p c (2 * k)) = some q := e
            rw [e'] at he
            exact ht q X he.symm hX
          · rw [xf_two]
            have e' : ext (okP (shB (w 18) (w 19))) 2 (h + 1) m (c + 1) (pset p c (2 * k)) = none := e
            rw [e'] at he
            refine next X (fun i hi => ?_) he
            rw [hX i (by omega), xf_at, upd_ne _ _ (by omega)]
            exact hY i hi
        · have hok' : okP (shB (w 18) (w 19)) c p (2 * k) = false := hok
          rw [hok'] at he
          exact he
    have := loop (h + 1) 0 (w 20) (by omega) (fun _ _ => rfl) rfl
    rw [xf_id] at this
    exact this
end SPT
