theorem sr_mono {f g : Nat → Nat} : ∀ (n lo : Nat), (∀ i, lo ≤ i → i < lo + n → f i ≤ g i) → sr f lo n ≤ sr g lo n := by
  intro n
  induction n with
  | zero => intro lo _; exact Nat.le_refl _
  | succ n ih =>
    intro lo h
    rw [sr, sr]
    have := h lo (Nat.le_refl _) (by omega)
    have := ih (lo + 1) (fun i a b => h i (by omega) (by omega))
    omega
theorem sr_ge {f : Nat → Nat} : ∀ (n lo k : Nat), lo ≤ k → k < lo + n → f k ≤ sr f lo n := by
  intro n
  induction n with
  | zero => intro lo k a b; omega
  | succ n ih =>
    intro lo k a b
    rw [sr]
    by_cases e : k = lo
    · subst e; omega
    · have := ih (lo + 1) k (by omega) (by omega)
      omega
theorem sr_one {f : Nat → Nat} : ∀ (n lo : Nat), (∀ i, f i ≤ 1) → (∀ i k, lo ≤ i → i < lo + n → lo ≤ k → k < lo + n → f i = 1 → f k = 1 → i = k) → sr f lo n ≤ 1 := by
  intro n
  induction n with
  | zero => intro lo _ _; simp [sr]
  | succ n ih =>
    intro lo h1 h2
    rw [sr]
    by_cases e : f lo = 1
    · rw [sr_zero n (lo + 1) (fun i a b => ?_)]
      · omega
      · have := h1 i
        rcases (show f i = 0 ∨ f i = 1 by omega) with z | z
        · exact z
        · have := h2 lo i (by omega) (by omega) (by omega) (by omega) e z
          omega
    · have := h1 lo
      have := ih (lo + 1) h1 (fun i k a b c e => h2 i k (by omega) (by omega) (by omega) (by omega))
      omega
theorem sr_swap (g : Nat → Nat → Nat) (V : Nat) : ∀ n, sr (fun i => sr (g i) 0 V) 0 n = sr (fun v => sr (fun i => g i v) 0 n) 0 V := by
  intro n
  induction n with
  | zero => exact (sr_zero V 0 (fun i _ _ => rfl)).symm
  | succ n ih =>
    rw [sr_back, ih, Nat.zero_add]
    have : sr (fun v => sr (fun i => g i v) 0 (n + 1)) 0 V = sr (fun v => sr (fun i => g i v) 0 n + g n v) 0 V := sr_congr _ _ (fun v _ _ => by rw [sr_back, Nat.zero_add])
    rw [this, sr_add]
def ofB (g h : Nat → Int32) (a : Int32) (i : Nat) : Nat := if g i = a ∨ h i = a then 1 else 0
/-- turns of one knight are apart: so many turns it needs -/
theorem busy_bound {g h : Nat → Int32} {a : Int32} {n k : Nat} {q : Nat → Nat} (e : E2 (shB g h) n k = some q) : sr (ofB g h a) 0 n ≤ k + 1 := by
  obtain ⟨-, hb⟩ := ext_sound (okP_loc (shB g h)) n 0 _ q e
  have s1 : sr (ofB g h a) 0 n ≤ sr (fun i => sr (fun v => if (g i = a ∨ h i = a) ∧ q i = 2 * v then 1 else 0) 0 (k + 1)) 0 n := by
    refine sr_mono n 0 (fun i _ hi => ?_)
    obtain ⟨-, v, hv, ev⟩ := hb i (by omega) hi
    refine Nat.le_trans ?_ (sr_ge (k + 1) 0 v (by omega) (by omega))
    unfold ofB
    by_cases z : g i = a ∨ h i = a
    · rw [if_pos z, if_pos ⟨z, ev⟩]; exact Nat.le_refl _
    · rw [if_neg z]; omega
  rw [sr_swap] at s1
  have s2 : sr (fun v => sr (fun i => if (g i = a ∨ h i = a) ∧ q i = 2 * v then 1 else 0) 0 n) 0 (k + 1) ≤ sr (fun _ => 1) 0 (k + 1) := by
    refine sr_mono (k + 1) 0 (fun v _ _ => sr_one n 0 (fun i => by split <;> omega) (fun i j _ hi _ hj h1 h2 => ?_))
    have t1 : (g i = a ∨ h i = a) ∧ q i = 2 * v := by
      by_cases z : (g i = a ∨ h i = a) ∧ q i = 2 * v
      · exact z
      · rw [if_neg z] at h1; omega
    have t2 : (g j = a ∨ h j = a) ∧ q j = 2 * v := by
      by_cases z : (g j = a ∨ h j = a) ∧ q j = 2 * v
      · exact z
      · rw [if_neg z] at h2; omega
    have clash : ∀ x y, x < y → y < n → ((g x = a ∨ h x = a) ∧ q x = 2 * v) → ((g y = a ∨ h y = a) ∧ q y = 2 * v) → False := by
      intro x y hxy hy u1 u2
      have o := (hb y (by omega) (by omega)).1
      rw [okP_iff] at o
      have := o x hxy (by
        unfold shB
        rcases u1.1 with z1 | z1 <;> rcases u2.1 with z2 | z2 <;> simp [z1, z2])
      rw [ap_iff, u1.2, u2.2] at this
      omega
    rcases Nat.lt_trichotomy i j with z | z | z
    · exact (clash i j z (by omega) t1 t2).elim
    · exact z
    · exact (clash j i z (by omega) t2 t1).elim
  have s3 : sr (fun _ => 1) 0 (k + 1) ≤ (k + 1) * 1 := sr_le _ 1 (k + 1) 0 (fun _ => Nat.le_refl _)
  omega
section SPP
variable {d : Nat} {w : ex_WW} {P : Int32 → ex_WW → Prop} {n : Nat}
theorem sp_countOfBusiest (h5 : w 5 3 = nI n) (hn : n ≤ 7) (h : ∀ B, 1 ≤ B → B ≤ 7 → (B = 1 ∨ ∃ a, sr (ofB (w 18) (w 19) a) 0 n = B) → P (nI B) w) : ex_Ev (d + 1) mX1_countOfBusiest 0 (ex_in [.inr 5] 5) [] w P := by
  have cb : ∀ a m lo, sr (ofB (w 18) (w 19) a) lo m ≤ m := fun a m lo => by
    have := sr_le (ofB (w 18) (w 19) a) 1 m lo (fun i => by unfold ofB; split <;> omega)
    omega
  refine sg_X1_countOfBusiest_0 ?_
  have outer : ∀ m k B, k + m = 14 → 1 ≤ B → B ≤ 7 → (B = 1 ∨ ∃ a, sr (ofB (w 18) (w 19) a) 0 n = B) → ex_Ev (d + 1) mX1_countOfBusiest 4 [some (.inr 5), some (.inl (nI B)), some (.inl (nI k)), none, none] [] w P := by
    intro m
    induction m with
    | zero =>
      intro k B hk h1 h2 h3
      exact sg_X1_countOfBusiest_4 (pT (by rw [show k = 14 by omega]; decide) (h B h1 h2 h3))
    | succ m ih =>
      intro k B hk h1 h2 h3
      refine sg_X1_countOfBusiest_4 (pF (fun q => nI_ge (a := k) (b := 14) (by omega) (by decide) q) ?_)
      have inner : ∀ m' i acc, i + m' = n → acc + sr (ofB (w 18) (w 19) (nI k)) i m' = sr (ofB (w 18) (w 19) (nI k)) 0 n → ex_Ev (d + 1) mX1_countOfBusiest 15 [some (.inr 5), some (.inl (nI B)), some (.inl (nI k)), some (.inl (nI acc)), some (.inl (nI i))] [] w P := by
        intro m'
        induction m' with
        | zero =>
          intro i acc hi he
          rw [sr, Nat.add_zero] at he
          have := cb (nI k) n 0
          refine sg_X1_countOfBusiest_15 (pT (by rw [h5]; exact nI_le (by omega) (by omega)) ?_)
          rw [nI_1]
          refine sg_J9_max_7cf53_0 ⟨fun q => ?_, fun q => ?_⟩
          · rw [nI_ltI (by omega) (by omega)] at q
            exact ih (k + 1) acc (by omega) (by omega) (by omega) (Or.inr ⟨nI k, he.symm⟩)
          · exact ih (k + 1) B (by omega) h1 h2 h3
        | succ m' ihi =>
          intro i acc hi he
          rw [sr] at he
          refine sg_X1_countOfBusiest_15 (pF (by rw [h5]; exact nI_ge (by omega) (by omega)) (sp_isOf (by omega) (fun q => t01 ?_) (fun q => f01 ?_)))
          · rw [nI_1, nI_1]
            refine ihi (i + 1) (acc + 1) (by omega) ?_
            rw [show ofB (w 18) (w 19) (nI k) i = 1 from if_pos q] at he
            omega
          · rw [nI_1]
            refine ihi (i + 1) acc (by omega) ?_
            rw [show ofB (w 18) (w 19) (nI k) i = 0 from if_neg q] at he
            omega
      exact inner n 0 0 (by omega) (by omega)
  exact outer 14 0 1 rfl (by decide) (by decide) (Or.inl rfl)
theorem sp_plan (h5 : w 5 3 = nI n) (hn : n ≤ 7) (h : ∀ (k : Nat) (q : Nat → Nat) (X : Nat → Int32), k ≤ 6 → E2 (shB (w 18) (w 19)) n k = some q → (∀ j, j < k → E2 (shB (w 18) (w 19)) n j = none) → (∀ i, i < n → X i = nI (q i)) → P 0 (ex_upf w 20 X)) : ex_Ev (d + n + 4) mX1_plan 0 (ex_in [.inr 5] 2) [] w P := by
  refine sg_X1_plan_0 (sp_countOfBusiest h5 hn (fun B b1 b2 b3 => ?_))
  have e0 : (2 : Int32) * (nI B - 1) = nI (2 * (B - 1)) := by rw [show nI B - 1 = nI (B - 1) from pk_sub (b := 1) b1]; exact pk_mul 2 _
  rw [e0]
  obtain ⟨q6, e6⟩ := E2_ever (sh := shB (w 18) (w 19)) hn
  have low : ∀ j, j < B - 1 → E2 (shB (w 18) (w 19)) n j = none := by
    intro j hj
    cases e : E2 (shB (w 18) (w 19)) n j with
    | none => rfl
    | some q =>
      exfalso
      rcases b3 with b3 | ⟨a, b3⟩
      · omega
      · have := busy_bound (a := a) e
        omega
  have loop : ∀ m k (Y : Nat → Int32), k + m = 7 → (∀ j, j < k → E2 (shB (w 18) (w 19)) n j = none) → ex_Ev (d + n + 4) mX1_plan 9 [some (.inr 5), some (.inl (nI (2 * k)))] [] (ex_upf w 20 Y) P := by
    intro m
    induction m with
    | zero =>
      intro k Y hk hj
      exfalso
      have := hj 6 (by omega)
      rw [e6] at this
      cases this
    | succ m ih =>
      intro k Y hk hj
      refine sg_X1_plan_9 (pF (nI_nlt (a := 12) (by omega) (by decide)) ?_)
      refine sp_settle (d := d) (n := n) (h := k) (by omega) hn n 0 (ex_upf w 20 Y) (fun _ => 0) _ h5 (by omega) (fun i hi => absurd hi (by omega)) (fun q X e hX => t01 ?_) (fun X e hX => f01 ?_)
      · rw [xf_two]
        exact h k q X (by omega) e hj hX
      · rw [xf_two, show nI (2 * k) + 2 = nI (2 * (k + 1)) from nI_add (2 * k) 2]
        refine ih (k + 1) X (by omega) (fun j hj' => ?_)
        by_cases z : j = k
        · subst z; exact e
        · exact hj j (by omega)
  have := loop (7 - (B - 1)) (B - 1) (w 20) (by omega) low
  rw [xf_id] at this
  exact this
def mxF (q : Nat → Nat) : Nat → Nat → Nat → Nat
  | 0, _, acc => acc
  | m + 1, i, acc => mxF q m (i + 1) (max acc (q i + 1))
theorem mxF_le {q : Nat → Nat} {b : Nat} : ∀ m i acc, acc ≤ b → (∀ k, i ≤ k → k < i + m → q k + 1 ≤ b) → mxF q m i acc ≤ b := by
  intro m
  induction m with
  | zero => intro i acc h _; exact h
  | succ m ih =>
    intro i acc h hq
    rw [mxF]
    have := hq i (by omega) (by omega)
    exact ih (i + 1) _ (by omega) (fun k a b => hq k (by omega) (by omega))
theorem mxF_ge {q : Nat → Nat} : ∀ m i acc, acc ≤ mxF q m i acc ∧ ∀ k, i ≤ k → k < i + m → q k + 1 ≤ mxF q m i acc := by
  intro m
  induction m with
  | zero => intro i acc; exact ⟨Nat.le_refl _, fun k a b => absurd b (by omega)⟩
  | succ m ih =>
    intro i acc
    rw [mxF]
    have := ih (i + 1) (max acc (q i + 1))
    refine ⟨by omega, fun k a b => ?_⟩
    by_cases e : k = i
    · subst e; omega
    · exact this.2 k (by omega) (by omega)
theorem sp_plannedLength {q : Nat → Nat} (h5 : w 5 3 = nI n) (hn : n ≤ 7) (hq : ∀ i, i < n → w 20 i = nI (q i) ∧ q i ≤ 100) (h : P (nI (mxF q n 0 0)) w) : ex_Ev (d + 1) mX1_plannedLength 0 (ex_in [.inr 5] 3) [] w P := by
  refine sg_X1_plannedLength_0 ?_
  have loop : ∀ m i acc, i + m = n → acc ≤ 101 → mxF q m i acc = mxF q n 0 0 → ex_Ev (d + 1) mX1_plannedLength 4 [some (.inr 5), some (.inl (nI acc)), some (.inl (nI i))] [] w P := by
    intro m
    induction m with
    | zero =>
      intro i acc hi _ he
      refine sg_X1_plannedLength_4 (pT (by rw [h5]; exact nI_le (by omega) (by omega)) ?_)
      rw [show acc = mxF q n 0 0 from he]
      exact h
    | succ m ih =>
      intro i acc hi hb he
      obtain ⟨e, b⟩ := hq i (by omega)
      rw [mxF] at he
      refine sg_X1_plannedLength_4 (pF (by rw [h5]; exact nI_ge (by omega) (by omega)) ⟨vp_in_nI (by omega) (by decide), ?_⟩)
      rw [nI_clamp (by omega), e, nI_1, nI_1]
      refine sg_J9_max_7cf53_0 ⟨fun z => ?_, fun z => ?_⟩
      · rw [nI_ltI (by omega) (by omega)] at z
        refine ih (i + 1) _ (by omega) (by omega) ?_
        rw [← he, show max acc (q i + 1) = q i + 1 by omega]
      · rw [nI_ltI (by omega) (by omega)] at z
        refine ih (i + 1) _ (by omega) hb ?_
        rw [← he, show max acc (q i + 1) = acc by omega]
  exact loop n 0 0 (by omega) (by omega) rfl
end SPP
/-- a plan at the least bound reaches it -/
theorem mxF_plan {sh : Nat → Nat → Bool} {n k : Nat} {q : Nat → Nat} (hn : 0 < n) (e : E2 sh n k = some q) (hl : ∀ j, j < k → E2 sh n j = none) : mxF q n 0 0 = 2 * k + 1 := by
  obtain ⟨ha, hb⟩ := ext_sound (okP_loc sh) n 0 _ q e
  have up : mxF q n 0 0 ≤ 2 * k + 1 := mxF_le n 0 0 (by omega) (fun i _ hi => by
    obtain ⟨-, v, hv, ev⟩ := hb i (by omega) hi
    omega)
  rcases Nat.lt_or_ge (mxF q n 0 0) (2 * k + 1) with z | z
  · exfalso
    have ge := mxF_ge (q := q) n 0 0
    have h0 := ge.2 0 (by omega) (by omega)
    have hk : 0 < k := by omega
    have : isExt (okP sh) 2 (k - 1 + 1) n 0 (fun _ => 0) q := by
      refine ⟨fun i hi => absurd hi (by omega), fun i h1 h2 => ?_⟩
      obtain ⟨o, v, hv, ev⟩ := hb i h1 h2
      have := ge.2 i h1 h2
      exact ⟨o, v, by omega, ev⟩
    obtain ⟨q', e', -⟩ := ext_least (okP_loc sh) (by decide : 0 < 2) n 0 _ _ this
    have := hl (k - 1) (by omega)
    unfold E2 at this
    rw [e'] at this
    cases this
  · omega
