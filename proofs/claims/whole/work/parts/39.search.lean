-- a search level by level: the first candidate that goes, the levels behind it likewise
def pset (p : Nat → Nat) (c t : Nat) : Nat → Nat := fun i => if i = c then t else p i
theorem pset_at (p : Nat → Nat) (c t : Nat) : pset p c t c = t := if_pos rfl
theorem pset_ne (p : Nat → Nat) {c i : Nat} (t : Nat) (h : i ≠ c) : pset p c t i = p i := if_neg h
def lvl (f : (Nat → Nat) → Option (Nat → Nat)) (ok : Nat → Bool) (c step : Nat) (p : Nat → Nat) : Nat → Nat → Option (Nat → Nat)
  | 0, _ => none
  | r + 1, t => if ok t then (match f (pset p c t) with
    | some q => some q
    | none => lvl f ok c step p r (t + step)) else lvl f ok c step p r (t + step)
def ext (ok : Nat → (Nat → Nat) → Nat → Bool) (step R : Nat) : Nat → Nat → (Nat → Nat) → Option (Nat → Nat)
  | 0, _, p => some p
  | m + 1, c, p => lvl (ext ok step R m (c + 1)) (ok c p) c step p R 0
def okLoc (ok : Nat → (Nat → Nat) → Nat → Bool) : Prop := ∀ c p q t, (∀ i, i < c → p i = q i) → ok c p t = ok c q t
/-- q is a plan from level c on, m levels, over p -/
def isExt (ok : Nat → (Nat → Nat) → Nat → Bool) (step R m c : Nat) (p q : Nat → Nat) : Prop := (∀ i, i < c → q i = p i) ∧ ∀ i, c ≤ i → i < c + m → ok i q (q i) = true ∧ ∃ k, k < R ∧ q i = step * k
/-- not greater, by the first level at which they differ -/
def lexLe (m c : Nat) (q q' : Nat → Nat) : Prop := (∀ i, c ≤ i → i < c + m → q i = q' i) ∨ ∃ i, c ≤ i ∧ i < c + m ∧ q i < q' i ∧ ∀ k, c ≤ k → k < i → q k = q' k
theorem lvl_sound {ok : Nat → (Nat → Nat) → Nat → Bool} (hok : okLoc ok) {step R m c : Nat} {p : Nat → Nat} {f : (Nat → Nat) → Option (Nat → Nat)} (hf : ∀ p' q, f p' = some q → isExt ok step R m (c + 1) p' q) : ∀ r k q, k + r = R → lvl f (ok c p) c step p r (step * k) = some q → isExt ok step R (m + 1) c p q := by
  intro r
  induction r with
  | zero => intro k q _ h; simp [lvl] at h
  | succ r ih =>
    intro k q hk h
    have next : lvl f (ok c p) c step p r (step * k + step) = some q → isExt ok step R (m + 1) c p q := fun z => ih (k + 1) q (by omega) (by rw [show step * (k + 1) = step * k + step from Nat.mul_succ step k]; exact z)
    rw [lvl] at h
    by_cases ho : ok c p (step * k) = true
    · rw [if_pos ho] at h
      cases hq : f (pset p c (step * k)) with
      | none => rw [hq] at h; exact next h
      | some q' =>
        rw [hq] at h
        cases h
        obtain ⟨a, b⟩ := hf _ _ hq
        have qc : q c = step * k := by rw [a c (by omega), pset_at]
        have qp : ∀ i, i < c → q i = p i := fun i hi => by rw [a i (by omega), pset_ne _ _ (by omega)]
        refine ⟨qp, fun i h1 h2 => ?_⟩
        by_cases hi : i = c
        · subst hi
          refine ⟨?_, k, by omega, qc⟩
          rw [qc, hok i q p (step * k) qp]
          exact ho
        · exact b i (by omega) (by omega)
    · rw [if_neg ho] at h
      exact next h
theorem ext_sound {ok : Nat → (Nat → Nat) → Nat → Bool} (hok : okLoc ok) {step R : Nat} : ∀ m c p q, ext ok step R m c p = some q → isExt ok step R m c p q := by
  intro m
  induction m with
  | zero =>
    intro c p q h
    cases h
    exact ⟨fun _ _ => rfl, fun i h1 h2 => absurd h2 (by omega)⟩
  | succ m ih =>
    intro c p q h
    exact lvl_sound hok (fun p' q' z => ih (c + 1) p' q' z) R 0 q (by omega) h
theorem lvl_least {ok : Nat → (Nat → Nat) → Nat → Bool} (hok : okLoc ok) {step R m c : Nat} {p : Nat → Nat} (hs : 0 < step) {f : (Nat → Nat) → Option (Nat → Nat)} (hf : ∀ p' q', isExt ok step R m (c + 1) p' q' → ∃ q, f p' = some q ∧ lexLe m (c + 1) q q') (hfs : ∀ p' q, f p' = some q → isExt ok step R m (c + 1) p' q) {q' : Nat → Nat} (hq' : isExt ok step R (m + 1) c p q') : ∀ r k, k + r = R → step * k ≤ q' c → ∃ q, lvl f (ok c p) c step p r (step * k) = some q ∧ lexLe (m + 1) c q q' := by
  obtain ⟨ha, hb⟩ := hq'
  obtain ⟨hc1, kk, hkk, hc2⟩ := hb c (Nat.le_refl _) (by omega)
  intro r
  induction r with
  | zero =>
    intro k hk hle
    exfalso
    rw [hc2] at hle
    have := Nat.le_of_mul_le_mul_left hle hs
    omega
  | succ r ih =>
    intro k hk hle
    by_cases he : step * k = q' c
    · -- the candidate of q' itself
      have ho : ok c p (step * k) = true := by rw [he, ← hok c q' p (q' c) ha]; exact hc1
      have hx : isExt ok step R m (c + 1) (pset p c (step * k)) q' := by
        refine ⟨fun i hi => ?_, fun i h1 h2 => hb i (by omega) (by omega)⟩
        by_cases h : i = c
        · rw [h, pset_at, he]
        · rw [pset_ne _ _ h]; exact ha i (by omega)
      obtain ⟨q, e, l⟩ := hf _ _ hx
      refine ⟨q, ?_, ?_⟩
      · rw [lvl, if_pos ho, e]
      · have qc : q c = q' c := by rw [(hfs _ _ e).1 c (by omega), pset_at, he]
        rcases l with l | ⟨i, l1, l2, l3, l4⟩
        · refine Or.inl (fun i h1 h2 => ?_)
          by_cases h : i = c
          · rw [h, qc]
          · exact l i (by omega) (by omega)
        · refine Or.inr ⟨i, by omega, by omega, l3, fun k h1 h2 => ?_⟩
          by_cases h : k = c
          · rw [h, qc]
          · exact l4 k (by omega) h2
    · have hlt : step * k < q' c := by omega
      have hle2 : step * (k + 1) ≤ q' c := by
        rw [hc2] at hlt ⊢
        exact Nat.mul_le_mul_left step (Nat.lt_of_mul_lt_mul_left hlt)
      obtain ⟨q, e, l⟩ := ih (k + 1) (by omega) hle2
      rw [Nat.mul_succ] at e
      rw [lvl]
      by_cases ho : ok c p (step * k) = true
      · rw [if_pos ho]
        cases hq : f (pset p c (step * k)) with
        | none => exact ⟨q, e, l⟩
        | some q2 =>
          refine ⟨q2, rfl, Or.inr ⟨c, Nat.le_refl _, by omega, ?_, fun k h1 h2 => absurd h2 (by omega)⟩⟩
          rw [(hfs _ _ hq).1 c (by omega), pset_at]
          exact hlt
      · rw [if_neg ho]
        exact ⟨q, e, l⟩
theorem ext_least {ok : Nat → (Nat → Nat) → Nat → Bool} (hok : okLoc ok) {step R : Nat} (hs : 0 < step) : ∀ m c p q', isExt ok step R m c p q' → ∃ q, ext ok step R m c p = some q ∧ lexLe m c q q' := by
  intro m
  induction m with
  | zero => intro c p q' _; exact ⟨p, rfl, Or.inl (fun i h1 h2 => absurd h2 (by omega))⟩
  | succ m ih =>
    intro c p q' h
    exact lvl_least hok hs (fun p' q'' z => ih (c + 1) p' q'' z) (fun p' q z => ext_sound hok m (c + 1) p' q z) h R 0 (by omega) (by omega)
-- plans of turns
def apB (x y : Nat) : Bool := decide (x + 2 ≤ y) || decide (y + 2 ≤ x)
def okP (sh : Nat → Nat → Bool) (c : Nat) (p : Nat → Nat) (t : Nat) : Bool := (List.range c).all (fun i => !sh i c || apB (p i) t)
theorem okP_iff {sh : Nat → Nat → Bool} {c : Nat} {p : Nat → Nat} {t : Nat} : okP sh c p t = true ↔ ∀ i, i < c → sh i c = true → apB (p i) t = true := by
  unfold okP
  rw [List.all_eq_true]
  constructor
  · intro h i hi hs
    have := h i (List.mem_range.mpr hi)
    rw [hs] at this
    simpa using this
  · intro h i hi
    cases hs : sh i c with
    | false => rfl
    | true => simp [h i (List.mem_range.mp hi) hs]
theorem okP_loc (sh : Nat → Nat → Bool) : okLoc (okP sh) := by
  intro c p q t h
  apply Bool.eq_iff_iff.mpr
  rw [okP_iff, okP_iff]
  constructor
  · intro a i hi hs; rw [← h i hi]; exact a i hi hs
  · intro a i hi hs; rw [h i hi]; exact a i hi hs
def E1 (sh : Nat → Nat → Bool) (n M : Nat) : Option (Nat → Nat) := ext (okP sh) 1 (M + 1) n 0 (fun _ => 0)
def E2 (sh : Nat → Nat → Bool) (n h : Nat) : Option (Nat → Nat) := ext (okP sh) 2 (h + 1) n 0 (fun _ => 0)
theorem E21 {sh : Nat → Nat → Bool} {n h : Nat} {q : Nat → Nat} (e : isExt (okP sh) 2 (h + 1) n 0 (fun _ => 0) q) : isExt (okP sh) 1 (2 * h + 1) n 0 (fun _ => 0) q := by
  refine ⟨fun i hi => absurd hi (by omega), fun i h1 h2 => ?_⟩
  obtain ⟨a, k, hk, b⟩ := e.2 i h1 h2
  exact ⟨a, q i, by omega, by omega⟩
theorem E12 {sh : Nat → Nat → Bool} {n M : Nat} {q : Nat → Nat} (e : isExt (okP sh) 1 (M + 1) n 0 (fun _ => 0) q) : isExt (okP sh) 2 (M / 2 + 1) n 0 (fun _ => 0) (fun i => 2 * (q i / 2)) := by
  refine ⟨fun i hi => absurd hi (by omega), fun i h1 h2 => ?_⟩
  obtain ⟨a, k, hk, b⟩ := e.2 i h1 h2
  refine ⟨?_, q i / 2, by omega, rfl⟩
  rw [okP_iff] at a ⊢
  intro z hz hs
  have := a z hz hs
  unfold apB at this ⊢
  simp at this ⊢
  omega
/-- at an even bound both searches find the same plan -/
theorem E_same {sh : Nat → Nat → Bool} {n h : Nat} {q : Nat → Nat} (e : E1 sh n (2 * h) = some q) : ∃ q2, E2 sh n h = some q2 ∧ ∀ i, i < n → q2 i = q i := by
  have s1 := ext_sound (okP_loc sh) n 0 _ q e
  have r1 := E12 s1
  rw [show 2 * h / 2 = h by omega] at r1
  obtain ⟨q2, e2, l2⟩ := ext_least (okP_loc sh) (by decide : 0 < 2) n 0 _ _ r1
  have s2 := ext_sound (okP_loc sh) n 0 _ q2 e2
  obtain ⟨q1, e1, l1⟩ := ext_least (okP_loc sh) (by decide : 0 < 1) n 0 _ _ (E21 s2)
  have : some q1 = some q := e1.symm.trans e
  cases this
  refine ⟨q2, e2, ?_⟩
  rcases l1 with l1 | ⟨i, a1, a2, a3, a4⟩
  · intro i hi; exact (l1 i (by omega) (by omega)).symm
  · exfalso
    rcases l2 with l2 | ⟨k, b1, b2, b3, b4⟩
    · have := l2 i (by omega) (by omega)
      simp at this
      omega
    · simp at b3
      rcases Nat.lt_trichotomy i k with z | z | z
      · have := b4 i (by omega) z
        simp at this
        omega
      · subst z; omega
      · have := a4 k (by omega) z
        omega
theorem E1_even {sh : Nat → Nat → Bool} {n h : Nat} {q : Nat → Nat} (e : E1 sh n (2 * h + 1) = some q) : ∃ q2, E1 sh n (2 * h) = some q2 := by
  have r1 := E12 (ext_sound (okP_loc sh) n 0 _ q e)
  rw [show (2 * h + 1) / 2 = h by omega] at r1
  obtain ⟨q1, e1, -⟩ := ext_least (okP_loc sh) (by decide : 0 < 1) n 0 _ _ (E21 r1)
  exact ⟨q1, e1⟩
theorem E2_some {sh : Nat → Nat → Bool} {n h : Nat} {q : Nat → Nat} (e : E2 sh n h = some q) : ∃ q1, E1 sh n (2 * h) = some q1 := by
  obtain ⟨q1, e1, -⟩ := ext_least (okP_loc sh) (by decide : 0 < 1) n 0 _ _ (E21 (ext_sound (okP_loc sh) n 0 _ q e))
  exact ⟨q1, e1⟩
theorem E2_ever {sh : Nat → Nat → Bool} {n : Nat} (hn : n ≤ 7) : ∃ q, E2 sh n 6 = some q := by
  have : isExt (okP sh) 2 7 n 0 (fun _ => 0) (fun i => 2 * i) := by
    refine ⟨fun i hi => absurd hi (by omega), fun i h1 h2 => ⟨?_, i, by omega, rfl⟩⟩
    rw [okP_iff]
    intro z hz _
    unfold apB
    simp
    omega
  obtain ⟨q, e, -⟩ := ext_least (okP_loc sh) (by decide : 0 < 2) n 0 _ _ this
  exact ⟨q, e⟩
