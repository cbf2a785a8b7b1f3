-- the model's world while it chooses and searches: who has a tent, the ring
def CW (w : ex_WW) (H Y : Nat → Int32) : ex_WW := ex_upf (ex_upf w 40 H) 41 Y
theorem CW_40 (w : ex_WW) (H Y : Nat → Int32) (k : Nat) (x : Int32) : ex_up (CW w H Y) 40 k x = CW w (upd H k x) Y := by
  unfold CW
  rw [xf_up_ne _ (by decide), xf_up]
theorem CW_41 (w : ex_WW) (H Y : Nat → Int32) (k : Nat) (x : Int32) : ex_up (CW w H Y) 41 k x = CW w H (upd Y k x) := by
  unfold CW
  rw [xf_up]
theorem CW_23 (w : ex_WW) (H Y : Nat → Int32) (k : Nat) (x : Int32) : ex_up (CW w H Y) 23 k x = CW (ex_up w 23 k x) H Y := by
  unfold CW
  rw [xf_up_ne _ (by decide), xf_up_ne _ (by decide)]
theorem CW_id (w : ex_WW) : CW w (w 40) (w 41) = w := by
  unfold CW
  rw [xf_id, xf_id]
section SPR
variable {d : Nat} {w : ex_WW} {P : Int32 → ex_WW → Prop} {n : Nat} {g : Nat → Nat}
theorem sp_choose_47 (h0 : w 23 0 = nI n) (hn : n ≤ 14) (hg : ∀ i, i < n → w 24 i = nI (g i) ∧ g i < 4) (h29 : w 23 29 = nI (min n 7))
    (h : ∀ S m H (Y : Nat → Int32), sele g n (min n 7) S → (0 < n → frst g n m ∧ S m = true ∧ Y 0 = nI m) → (∀ i, i < n → H i = if S i then 1 else 0) → P 0 (CW w H Y)) :
    ∀ r t S m H (Y : Nat → Int32), t + r = min n 7 → sele g n t S → (0 < t → frst g n m ∧ S m = true ∧ Y 0 = nI m) → (∀ i, i < n → H i = if S i then 1 else 0) → ex_Ev d mX7_chooseTents 47 [some (.inr 23), some (.inl (nI t)), none, none] [] (CW w H Y) P := by
  intro r
  induction r with
  | zero =>
    intro t S m H Y ht hS hm hH
    refine sg_X7_chooseTents_47 (pT ?_ ?_)
    · rw [show (CW w H Y) 23 29 = nI (min n 7) from h29]
      exact nI_le (by omega) (by omega)
    · rw [show t = min n 7 by omega] at hS hm
      exact h S m H Y hS (fun z => hm (by omega)) hH
  | succ r ih =>
    intro t S m H Y ht hS hm hH
    refine sg_X7_chooseTents_47 (pF ?_ ?_)
    · rw [show (CW w H Y) 23 29 = nI (min n 7) from h29]
      exact nI_ge (by omega) (by omega)
    -- the best of those looked at
    have inn : ∀ r k (x2 : Int32), k + r = n → ((x2 = -1 ∧ ∀ i, i < k → S i = true) ∨ ∃ b, x2 = nI b ∧ b < k ∧ S b = false ∧ ∀ i, i < k → S i = false → i = b ∨ befr g b i) → ex_Ev d mX7_chooseTents 59 [some (.inr 23), some (.inl (nI t)), some (.inl x2), some (.inl (nI k))] [] (CW w H Y) P := by
      intro r
      induction r with
      | zero =>
        intro k x2 hk hx
        rcases hx with ⟨rfl, hx⟩ | ⟨b, rfl, hb, hS0, hx⟩
        · exfalso
          have c14 := cnB_14 hn hS.1
          have := cnB_all n (fun i hi => hx i (by omega))
          have := hS.2.2
          omega
        · refine sg_X7_chooseTents_59 (pT ?_ ⟨vp_in_nI (by omega) (by decide), ?_⟩)
          · rw [show (CW w H Y) 23 0 = nI n from h0]
            exact nI_le (by omega) (by omega)
          rw [nI_clamp (by omega), show (0 : Int32).toNatClampNeg = 0 from by decide, CW_40, nI_1]
          have S' : sele g n (t + 1) (insB S b) := by
            refine ⟨fun i hi => ?_, fun i hi j hj hbe => ?_, ?_⟩
            · rcases insB_iff.mp hi with z | z
              · omega
              · exact hS.1 i z
            · rw [insB_iff]
              rcases insB_iff.mp hi with z | z
              · subst z
                cases e : S j with
                | true => exact Or.inr rfl
                | false =>
                  refine Or.inl ?_
                  rcases hx j (by omega) e with y | y
                  · exact y
                  · exfalso
                    unfold befr at hbe y
                    omega
              · exact Or.inr (hS.2.1 i z j hj hbe)
            · have := cnB_add hS0 14 (by omega)
              rw [hS.2.2] at this
              exact this
          have H' : ∀ i, i < n → upd H b 1 i = if insB S b i then 1 else 0 := fun i hi => by
            unfold insB
            by_cases e : i = b
            · rw [e, upd_at, if_pos rfl, if_pos rfl]
            · rw [upd_ne _ _ e, if_neg e]; exact hH i hi
          have i8 := vp_in_nI (n := 0) (N := 8) (by decide) (by decide)
          refine ⟨fun t0 => ⟨i8, i8, ?_⟩, fun t0 => ⟨i8, ?_⟩⟩
          · have tp : t ≠ 0 := fun y => t0 (by rw [y]; rfl)
            obtain ⟨a, b', c⟩ := hm (by omega)
            rw [CW_41]
            exact ih (t + 1) (insB S b) m _ _ (by omega) S' (fun _ => ⟨a, insB_iff.mpr (Or.inr b'), by rw [upd_at]; exact c⟩) H'
          · have tz : t = 0 := (nI_eq (by omega) (b := 0) (by decide)).mp t0
            rw [CW_41]
            have no : ∀ i, i < n → S i = false := fun i hi => cnB_zero 14 (hS.2.2.trans tz) i (by omega)
            exact ih (t + 1) (insB S b) b _ _ (by omega) S' (fun _ => ⟨⟨by omega, fun i hi => hx i (by omega) (no i hi)⟩, insB_iff.mpr (Or.inl rfl), upd_at _ _ _⟩) H'
      | succ r ihr =>
        intro k x2 hk hx
        have i14 := vp_in_nI (n := k) (N := 14) (by omega) (by decide)
        refine sg_X7_chooseTents_59 (pF ?_ ⟨i14, ?_⟩)
        · rw [show (CW w H Y) 23 0 = nI n from h0]
          exact nI_ge (by omega) (by omega)
        rw [nI_clamp (by omega), show (CW w H Y) 40 k = H k from rfl, hH k (by omega)]
        have go : ∀ x2' : Int32, ((x2' = -1 ∧ ∀ i, i < k + 1 → S i = true) ∨ ∃ b, x2' = nI b ∧ b < k + 1 ∧ S b = false ∧ ∀ i, i < k + 1 → S i = false → i = b ∨ befr g b i) → ex_Ev d mX7_chooseTents 101 [some (.inr 23), some (.inl (nI t)), some (.inl x2'), some (.inl (nI k))] [] (CW w H Y) P := fun x2' hx' => by
          refine sg_X7_chooseTents_101 ?_
          rw [nI_1]
          exact ihr (k + 1) x2' (by omega) hx'
        refine ⟨fun z => go x2 ?_, fun z => ?_⟩
        · have sk : S k = true := by
            cases e : S k with
            | true => rfl
            | false => rw [e] at z; exact absurd rfl z
          rcases hx with ⟨e, hx⟩ | ⟨b, e, hb, hS0, hx⟩
          · refine Or.inl ⟨e, fun i hi => ?_⟩
            by_cases y : i = k
            · rw [y]; exact sk
            · exact hx i (by omega)
          · refine Or.inr ⟨b, e, by omega, hS0, fun i hi hi0 => ?_⟩
            by_cases y : i = k
            · rw [y, sk] at hi0; cases hi0
            · exact hx i (by omega) hi0
        · have sk : S k = false := by
            cases e : S k with
            | false => rfl
            | true => rw [e] at z; exact absurd z (by decide)
          rcases hx with ⟨e, hx⟩ | ⟨b, e, hb, hS0, hx⟩
          · subst e
            refine pT (by decide) (go (nI k) (Or.inr ⟨k, rfl, by omega, sk, fun i hi hi0 => ?_⟩))
            by_cases y : i = k
            · exact Or.inl y
            · have := hx i (by omega)
              rw [hi0] at this
              cases this
          · subst e
            refine pF (nI_pos (by omega)) ⟨i14, vp_in_nI (by omega) (by decide), ?_⟩
            obtain ⟨gk, lk⟩ := hg k (by omega)
            obtain ⟨gb, lb⟩ := hg b (by omega)
            rw [nI_clamp (by omega), show (CW w H Y) 24 k = nI (g k) from gk, show (CW w H Y) 24 b = nI (g b) from gb, nI_leI (by omega) (by omega)]
            refine ⟨fun y => go (nI b) (Or.inr ⟨b, rfl, by omega, hS0, fun i hi hi0 => ?_⟩), fun y => go (nI k) (Or.inr ⟨k, rfl, by omega, sk, fun i hi hi0 => ?_⟩)⟩
            · by_cases e : i = k
              · subst e
                refine Or.inr ?_
                unfold befr
                omega
              · exact hx i (by omega) hi0
            · by_cases e : i = k
              · exact Or.inl e
              · refine Or.inr ?_
                rcases hx i (by omega) hi0 with u | u
                · subst u; unfold befr; omega
                · unfold befr at u ⊢; omega
    exact inn n 0 (-1) (by omega) (Or.inl ⟨rfl, fun i hi => absurd hi (by omega)⟩)
theorem sp_choose (h0 : w 23 0 = nI n) (hn : n ≤ 14) (hg : ∀ i, i < n → w 24 i = nI (g i) ∧ g i < 4)
    (h : ∀ S m H (Y : Nat → Int32), sele g n (min n 7) S → (0 < n → frst g n m ∧ S m = true ∧ Y 0 = nI m) → (∀ i, i < n → H i = if S i then 1 else 0) → P 0 (CW (ex_up w 23 29 (nI (min n 7))) H Y)) : ex_Ev d mX7_chooseTents 0 (ex_in [.inr 23] 4) [] w P := by
  refine sg_X7_chooseTents_0 ?_
  have loop : ∀ r k H, k + r = n → (∀ i, i < k → H i = 0) → ex_Ev d mX7_chooseTents 2 [some (.inr 23), some (.inl (nI k)), none, none] [] (CW w H (w 41)) P := by
    intro r
    induction r with
    | zero =>
      intro k H hk hH
      have last := sp_choose_47 (d := d) (P := P) (w := ex_up w 23 29 (nI (min n 7))) (n := n) (g := g) h0 hn hg rfl h (min n 7) 0 (fun _ => false) 0 H (w 41) (by omega) ⟨fun i e => (by cases e), fun i e => (by cases e), cnB_none 14 (fun _ _ => rfl)⟩ (fun z => absurd z (by omega)) (fun i hi => hH i (by omega))
      refine sg_X7_chooseTents_2 (pT ?_ ?_)
      · rw [show (CW w H (w 41)) 23 0 = nI n from h0]
        exact nI_le (by omega) (by omega)
      rw [show (CW w H (w 41)) 23 0 = nI n from h0, CW_23, CW_23, show (7 : Int32) = nI 7 from rfl, nI_leI (by decide) (by omega)]
      refine ⟨fun q => ?_, fun q => ?_⟩
      · rw [show min n 7 = 7 by omega] at last
        exact last
      · rw [show min n 7 = n by omega] at last
        exact last
    | succ r ih =>
      intro k H hk hH
      refine sg_X7_chooseTents_2 (pF ?_ ⟨vp_in_nI (by omega) (by decide), ?_⟩)
      · rw [show (CW w H (w 41)) 23 0 = nI n from h0]
        exact nI_ge (by omega) (by omega)
      rw [nI_clamp (by omega), nI_1, CW_40]
      refine ih (k + 1) _ (by omega) (fun i hi => ?_)
      by_cases e : i = k
      · rw [e, upd_at]
      · rw [upd_ne _ _ e]; exact hH i (by omega)
  have := loop n 0 (w 40) (by omega) (fun i hi => absurd hi (by omega))
  rw [CW_id] at this
  exact this
end SPR
