-- how many of a set
def cnB (S : Nat → Bool) : Nat → Nat
  | 0 => 0
  | n + 1 => cnB S n + (if S n then 1 else 0)
theorem cnB_congr {S S' : Nat → Bool} : ∀ n, (∀ i, i < n → S i = S' i) → cnB S n = cnB S' n := by
  intro n
  induction n with
  | zero => intro _; rfl
  | succ n ih => intro h; rw [cnB, cnB, ih (fun i hi => h i (by omega)), h n (by omega)]
theorem cnB_le (S : Nat → Bool) : ∀ n, cnB S n ≤ n := by
  intro n
  induction n with
  | zero => exact Nat.le_refl _
  | succ n ih => rw [cnB]; split <;> omega
theorem cnB_add {S : Nat → Bool} {k : Nat} (hs : S k = false) : ∀ n, k < n → cnB (fun i => if i = k then true else S i) n = cnB S n + 1 := by
  intro n
  induction n with
  | zero => intro h; omega
  | succ n ih =>
    intro h
    by_cases e : k = n
    · subst e
      rw [cnB, cnB, hs, cnB_congr (S := fun i => if i = k then true else S i) (S' := S) k (fun i hi => if_neg (by omega))]
      simp
    · rw [cnB, cnB, ih (by omega), if_neg (show ¬ n = k by omega)]
      omega
theorem cnB_mono {S S' : Nat → Bool} : ∀ n, (∀ i, i < n → S i = true → S' i = true) → cnB S n ≤ cnB S' n := by
  intro n
  induction n with
  | zero => intro _; exact Nat.le_refl _
  | succ n ih =>
    intro h
    have a := ih (fun i hi => h i (by omega))
    have b := h n (by omega)
    rw [cnB, cnB]
    cases e : S n with
    | false => simp; omega
    | true => rw [b e]; omega
theorem cnB_eq {S S' : Nat → Bool} : ∀ n, (∀ i, i < n → S i = true → S' i = true) → cnB S n = cnB S' n → ∀ i, i < n → S i = S' i := by
  intro n
  induction n with
  | zero => intro _ _ i hi; omega
  | succ n ih =>
    intro h he i hi
    have a := cnB_mono n (fun i hi => h i (by omega))
    have b := h n (by omega)
    rw [cnB, cnB] at he
    have en : S n = S' n := by
      cases e : S n with
      | true => rw [b e]
      | false =>
        cases e' : S' n with
        | false => rfl
        | true => rw [e, e'] at he; simp at he; omega
    by_cases z : i = n
    · rw [z]; exact en
    · refine ih (fun i hi => h i (by omega)) ?_ i (by omega)
      rw [en] at he
      omega
theorem cnB_all {S : Nat → Bool} : ∀ n, (∀ i, i < n → S i = true) → cnB S n = n := by
  intro n
  induction n with
  | zero => intro _; rfl
  | succ n ih => intro h; rw [cnB, ih (fun i hi => h i (by omega)), h n (by omega)]; simp
theorem cnB_none {S : Nat → Bool} : ∀ n, (∀ i, i < n → S i = false) → cnB S n = 0 := by
  intro n
  induction n with
  | zero => intro _; rfl
  | succ n ih => intro h; rw [cnB, ih (fun i hi => h i (by omega)), h n (by omega)]; simp
theorem cnB_zero {S : Nat → Bool} : ∀ n, cnB S n = 0 → ∀ i, i < n → S i = false := by
  intro n
  induction n with
  | zero => intro _ i hi; omega
  | succ n ih =>
    intro h i hi
    rw [cnB] at h
    by_cases z : i = n
    · cases e : S n with
      | false => rw [z]; exact e
      | true => rw [e] at h; simp at h
    · exact ih (by omega) i (by omega)
theorem cnB_far {S : Nat → Bool} {n : Nat} (h : ∀ i, S i = true → i < n) : ∀ k, cnB S (n + k) = cnB S n := by
  intro k
  induction k with
  | zero => rfl
  | succ k ih =>
    have : S (n + k) = false := by
      cases e : S (n + k) with
      | false => rfl
      | true => exact absurd (h _ e) (by omega)
    rw [show n + (k + 1) = (n + k) + 1 from rfl, cnB, ih, this]
    simp
theorem cnB_14 {S : Nat → Bool} {n : Nat} (hn : n ≤ 14) (h : ∀ i, S i = true → i < n) : cnB S 14 = cnB S n := by
  have := cnB_far h (14 - n)
  rw [show n + (14 - n) = 14 by omega] at this
  exact this
-- those who get tents: the greater rank first, then the lesser number
def befr (g : Nat → Nat) (i j : Nat) : Prop := g j < g i ∨ (g i = g j ∧ i < j)
def sele (g : Nat → Nat) (n t : Nat) (S : Nat → Bool) : Prop := (∀ i, S i = true → i < n) ∧ (∀ i, S i = true → ∀ j, j < n → befr g j i → S j = true) ∧ cnB S 14 = t
def frst (g : Nat → Nat) (n m : Nat) : Prop := m < n ∧ ∀ i, i < n → i = m ∨ befr g m i
theorem frst_uniq {g : Nat → Nat} {n m m' : Nat} (h : frst g n m) (h' : frst g n m') : m = m' := by
  have a := h.2 m' h'.1
  have b := h'.2 m h.1
  unfold befr at a b
  omega
theorem sele_uniq {g : Nat → Nat} {n t : Nat} {S S' : Nat → Bool} (hn : n ≤ 14) (h : sele g n t S) (h' : sele g n t S') : S = S' := by
  have key : ∀ A B : Nat → Bool, sele g n t A → sele g n t B → (∀ i, A i = true → B i = true) → A = B := by
    intro A B hA hB hs
    have e := cnB_eq 14 (fun i _ => hs i) (hA.2.2.trans hB.2.2.symm)
    funext i
    by_cases hi : i < 14
    · exact e i hi
    · have no : ∀ C, sele g n t C → C i = false := fun C hC => by
        cases z : C i with
        | false => rfl
        | true => exact absurd (hC.1 i z) (by omega)
      rw [no A hA, no B hB]
  by_cases hs : ∀ i, S i = true → S' i = true
  · exact key S S' h h' hs
  · refine (key S' S h' h (fun b hb => ?_)).symm
    rw [Classical.not_forall] at hs
    obtain ⟨a, ha⟩ := hs
    rw [Classical.not_imp] at ha
    rcases (show b = a ∨ befr g b a ∨ befr g a b by unfold befr; omega) with z | z | z
    · rw [z]; exact ha.1
    · exact h.2.1 a ha.1 b (h'.1 b hb) z
    · exact absurd (h'.2.1 b hb a (h.1 a ha.1) z) ha.2
def insB (S : Nat → Bool) (k : Nat) : Nat → Bool := fun i => if i = k then true else S i
theorem insB_iff {S : Nat → Bool} {k i : Nat} : insB S k i = true ↔ i = k ∨ S i = true := by
  unfold insB
  by_cases e : i = k <;> simp [e]
-- what holds with t tents, s the ranks behind and k knights of the rank below them looked at
def pInv (g : Nat → Nat) (n s k t : Nat) (S : Nat → Bool) (m : Nat) (W : Int32) (Y : Nat → Int32) : Prop := t ≤ 7 ∧ cnB S 14 = t ∧ (∀ i, S i = true → i < n) ∧ (t < 7 → ∀ i, i < n → (S i = true ↔ s ≤ g i ∨ (g i + 1 = s ∧ i < k))) ∧ (∀ i, S i = true → ∀ j, j < n → befr g j i → S j = true) ∧ (0 < t → frst g n m ∧ S m = true ∧ Y 0 = nI m) ∧ (∀ i, i < 32 → (bt W i = true ↔ S i = true ∧ i ≠ m))
theorem pInv_down {g : Nat → Nat} {n q k t m : Nat} {S : Nat → Bool} {W : Int32} {Y : Nat → Int32} (h : pInv g n (q + 1) k t S m W Y) (hk : n ≤ k ∨ 7 ≤ t) : pInv g n q 0 t S m W Y := by
  obtain ⟨i1, i2, i3, i4, i5, i6, i7⟩ := h
  refine ⟨i1, i2, i3, fun ht i hi => ?_, i5, i6, i7⟩
  rw [i4 ht i hi]
  omega
theorem pInv_pass {g : Nat → Nat} {n q k t m : Nat} {S : Nat → Bool} {W : Int32} {Y : Nat → Int32} (h : pInv g n (q + 1) k t S m W Y) (hk : g k ≠ q) : pInv g n (q + 1) (k + 1) t S m W Y := by
  obtain ⟨i1, i2, i3, i4, i5, i6, i7⟩ := h
  refine ⟨i1, i2, i3, fun ht i hi => ?_, i5, i6, i7⟩
  rw [i4 ht i hi]
  by_cases e : i = k
  · subst e; omega
  · omega
theorem pInv_take {g : Nat → Nat} {n q k t m : Nat} {S : Nat → Bool} {W : Int32} {Y : Nat → Int32} (h : pInv g n (q + 1) k t S m W Y) (hk : g k = q) (hkn : k < n) (hn : n ≤ 14) (ht : t < 7) (m' : Nat) (W' : Int32) (Y' : Nat → Int32)
    (hm : (0 < t → m' = m ∧ Y' 0 = Y 0) ∧ (t = 0 → m' = k ∧ Y' 0 = nI k)) (hW : ∀ i, i < 32 → (bt W' i = true ↔ insB S k i = true ∧ i ≠ m')) : pInv g n (q + 1) (k + 1) (t + 1) (insB S k) m' W' Y' := by
  obtain ⟨i1, i2, i3, i4, i5, i6, i7⟩ := h
  have c := i4 ht
  have hk0 : S k = false := by
    cases e : S k with
    | false => rfl
    | true =>
      have := (c k hkn).mp e
      omega
  refine ⟨by omega, ?_, fun i hi => ?_, fun _ i hi => ?_, fun i hi j hj hb => ?_, fun _ => ?_, hW⟩
  · have := cnB_add hk0 14 (by omega)
    rw [i2] at this
    exact this
  · rcases insB_iff.mp hi with z | z
    · omega
    · exact i3 i z
  · rw [insB_iff, c i hi]
    by_cases e : i = k
    · subst e; omega
    · omega
  · rw [insB_iff]
    refine Or.inr ((c j hj).mpr ?_)
    unfold befr at hb
    rcases insB_iff.mp hi with z | z
    · subst z; omega
    · have := (c i (i3 i z)).mp z
      omega
  · rcases Nat.eq_zero_or_pos t with z | z
    · obtain ⟨e1, e2⟩ := hm.2 z
      subst e1
      have no : ∀ i, i < n → S i = false := fun i hi => cnB_zero 14 (by omega) i (by omega)
      refine ⟨⟨hkn, fun i hi => ?_⟩, insB_iff.mpr (Or.inl rfl), e2⟩
      have : ¬ (q + 1 ≤ g i ∨ (g i + 1 = q + 1 ∧ i < m')) := fun y => by
        have := (c i hi).mpr y
        rw [no i hi] at this
        cases this
      unfold befr
      omega
    · obtain ⟨e1, e2⟩ := hm.1 z
      obtain ⟨a, b, e⟩ := i6 z
      subst e1
      exact ⟨a, insB_iff.mpr (Or.inr b), e2.trans e⟩
section SPQ
variable {d : Nat} {w : ex_WW} {P : Int32 → ex_WW → Prop} {n : Nat} {g : Nat → Nat}
/-- the class's choice: from the knights by rank and number to the search -/
theorem sp_pitch_sel (h14 : w 1 4 = nI n) (hn : n ≤ 14) (hg : ∀ i, i < n → w 7 i = nI (g i) ∧ g i < 4)
    (h0 : n = 0 → ∀ Y, P 0 (ex_upf w 22 Y))
    (hs : ∀ S m W (Y : Nat → Int32) x4, 0 < n → sele g n (min n 7) S → frst g n m → S m = true → Y 0 = nI m → (∀ i, i < 32 → (bt W i = true ↔ S i = true ∧ i ≠ m)) → ex_Ev (d + 1) mX0_pitch 78 [some (.inr 6), some (.inr 1), some (.inl W), some (.inl (nI (min n 7))), some (.inl x4), none] [] (ex_upf w 22 Y) P) : ex_Ev (d + 1) mX0_pitch 0 (ex_in [.inr 6, .inr 1] 6) [] w P := by
  have fin : ∀ t S m W Y (x4 : Int32), x4 < 0 → pInv g n 0 0 t S m W Y → ex_Ev (d + 1) mX0_pitch 7 [some (.inr 6), some (.inr 1), some (.inl W), some (.inl (nI t)), some (.inl x4), none] [] (ex_upf w 22 Y) P := by
    intro t S m W Y x4 hx ⟨i1, i2, i3, i4, i5, i6, i7⟩
    refine sg_X0_pitch_7 (pT hx ?_)
    have et : t = min n 7 := by
      have c14 := cnB_14 hn i3
      have cle := cnB_le S n
      rcases Nat.lt_or_ge t 7 with z | z
      · have := cnB_all n (fun i hi => (i4 z i hi).mpr (Or.inl (by omega)))
        omega
      · omega
    rcases Nat.eq_zero_or_pos n with z | z
    · have t0 : t = 0 := by omega
      rw [t0]
      exact sg_X0_pitch_78 (pT rfl (h0 z Y))
    · have tp : 0 < t := by omega
      obtain ⟨a, b, c⟩ := i6 tp
      rw [et]
      exact hs S m W Y x4 z ⟨i3, i5, i2.trans et⟩ a b c i7
  have inn : ∀ q, q < 4 → (∀ t S m W Y, pInv g n q 0 t S m W Y → ex_Ev (d + 1) mX0_pitch 7 [some (.inr 6), some (.inr 1), some (.inl W), some (.inl (nI t)), some (.inl (nI q + (-1))), none] [] (ex_upf w 22 Y) P) → ∀ r k t S m W Y, k + r = n → pInv g n (q + 1) k t S m W Y → ex_Ev (d + 1) mX0_pitch 15 [some (.inr 6), some (.inr 1), some (.inl W), some (.inl (nI t)), some (.inl (nI q)), some (.inl (nI k))] [] (ex_upf w 22 Y) P := by
    intro q hq next r
    induction r with
    | zero =>
      intro k t S m W Y hk hI
      refine sg_X0_pitch_15 (sg_X4_size_0 (pT ?_ (next t S m W Y (pInv_down hI (Or.inl (by omega))))))
      rw [show (ex_upf w 22 Y) 1 4 = nI n from h14]
      exact nI_le (by omega) (by omega)
    | succ r ih =>
      intro k t S m W Y hk hI
      obtain ⟨ek, bk⟩ := hg k (by omega)
      have i1 := hI.1
      refine sg_X0_pitch_15 (sg_X4_size_0 (pF ?_ ⟨fun q7 => next t S m W Y (pInv_down hI (Or.inr ((nI_leI (a := 7) (by decide) (by omega)).mp q7))), fun q7 => ?_⟩))
      · rw [show (ex_upf w 22 Y) 1 4 = nI n from h14]
        exact nI_ge (by omega) (by omega)
      have ht : t < 7 := by
        rcases Nat.lt_or_ge t 7 with z | z
        · exact z
        · exact absurd (nI_le (a := 7) z (by omega)) q7
      refine sp_rankOf (w := ex_upf w 22 Y) (by omega) ?_
      rw [show (ex_upf w 22 Y) 7 k = nI (g k) from ek, nI_1, nI_1]
      refine ⟨fun z => ih (k + 1) t S m W Y (by omega) (pInv_pass hI (fun y => z (by rw [y]))), fun z => ?_⟩
      have hgk : g k = q := (nI_eq (by omega) (by omega)).mp z
      have W32 := hI.2.2.2.2.2.2
      refine ⟨fun t0 => ?_, fun t0 => ⟨vp_in_nI (n := 0) (by decide) (by decide), ?_⟩⟩
      · have tp : t ≠ 0 := fun y => t0 (by rw [y]; rfl)
        have hm : S m = true := (hI.2.2.2.2.2.1 (by omega)).2.1
        have hkm : k ≠ m := fun y => by
          rw [← y] at hm
          have := (hI.2.2.2.1 ht k (by omega)).mp hm
          omega
        refine ih (k + 1) (t + 1) (insB S k) m _ Y (by omega) (pInv_take hI hgk (by omega) hn ht m _ Y ⟨fun _ => ⟨rfl, rfl⟩, fun y => absurd y tp⟩ (fun i hi => ?_))
        rw [bit_or (by omega) hi, Bool.or_eq_true, W32 i hi, insB_iff, decide_eq_true_iff]
        by_cases e : i = k
        · subst e; simp [hkm]
        · simp [e]
      · have tz : t = 0 := (nI_eq (by omega) (b := 0) (by decide)).mp t0
        rw [show (0 : Int32).toNatClampNeg = 0 from by decide, xf_up]
        refine ih (k + 1) (t + 1) (insB S k) k _ _ (by omega) (pInv_take hI hgk (by omega) hn ht k _ _ ⟨fun y => absurd y (by omega), fun _ => ⟨rfl, upd_at _ _ _⟩⟩ (fun i hi => ?_))
        have no : ∀ i, i < 32 → S i = false := fun i hi => by
          cases e : S i with
          | false => rfl
          | true =>
            have := hI.2.2.1 i e
            have c := cnB_zero 14 (hI.2.1.trans tz) i (by omega)
            rw [c] at e
            cases e
        rw [W32 i hi, insB_iff, no i hi]
        simp
  have out : ∀ q t S m W Y, q < 4 → pInv g n (q + 1) 0 t S m W Y → ex_Ev (d + 1) mX0_pitch 7 [some (.inr 6), some (.inr 1), some (.inl W), some (.inl (nI t)), some (.inl (nI q)), none] [] (ex_upf w 22 Y) P := by
    intro q
    induction q with
    | zero =>
      intro t S m W Y hq hI
      exact sg_X0_pitch_7 (pF (nI_pos (by omega)) (inn 0 (by omega) (fun t S m W Y h => fin t S m W Y _ (by decide) h) n 0 t S m W Y (by omega) hI))
    | succ q ih =>
      intro t S m W Y hq hI
      exact sg_X0_pitch_7 (pF (nI_pos (by omega)) (inn (q + 1) (by omega) (fun t S m W Y h => by rw [pk_m1]; exact ih t S m W Y (by omega) h) n 0 t S m W Y (by omega) hI))
  refine sg_X0_pitch_0 ?_
  have := out 3 0 (fun _ => false) 0 0 (w 22) (by decide) ⟨by omega, cnB_none 14 (fun _ _ => rfl), fun i h => (by cases h), fun _ i hi => ⟨fun h => (by cases h), fun h => ?_⟩, fun i h => (by cases h), fun h => absurd h (by omega), fun i hi => ?_⟩
  · rw [xf_id] at this
    exact this
  · have := (hg i hi).2
    omega
  · rw [b_0]
    simp
end SPQ
