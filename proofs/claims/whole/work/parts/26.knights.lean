-- sums over a stretch, as loops make them
def sr (f : Nat → Nat) : Nat → Nat → Nat
  | _, 0 => 0
  | lo, n + 1 => f lo + sr f (lo + 1) n
theorem sr_back (f : Nat → Nat) : ∀ (n lo : Nat), sr f lo (n + 1) = sr f lo n + f (lo + n) := by
  intro n
  induction n with
  | zero => intro lo; simp [sr]
  | succ n ih =>
    intro lo
    rw [sr, ih (lo + 1), sr, show lo + 1 + n = lo + (n + 1) by omega]
    omega
theorem sr_congr {f g : Nat → Nat} : ∀ (n lo : Nat), (∀ i, lo ≤ i → i < lo + n → f i = g i) → sr f lo n = sr g lo n := by
  intro n
  induction n with
  | zero => intro lo _; rfl
  | succ n ih =>
    intro lo h
    rw [sr, sr, h lo (Nat.le_refl _) (by omega), ih (lo + 1) (fun i h1 h2 => h i (by omega) (by omega))]
theorem sr_add (f g : Nat → Nat) : ∀ (n lo : Nat), sr (fun i => f i + g i) lo n = sr f lo n + sr g lo n := by
  intro n
  induction n with
  | zero => intro lo; rfl
  | succ n ih => intro lo; rw [sr, sr, sr, ih]; omega
theorem sr_le (f : Nat → Nat) (m : Nat) : ∀ (n lo : Nat), (∀ i, f i ≤ m) → sr f lo n ≤ n * m := by
  intro n
  induction n with
  | zero => intro lo _; simp [sr]
  | succ n ih =>
    intro lo h
    rw [sr]
    have := ih (lo + 1) h
    have := h lo
    rw [Nat.succ_mul]
    omega
/-- a count of pairs, by the lesser first or by the greater first -/
theorem sr_pairs (b : Nat → Nat → Nat) (hb : ∀ i j, b i j = b j i) : ∀ n, sr (fun i => sr (b i) (i + 1) (n - (i + 1))) 0 n = sr (fun a => sr (b a) 0 a) 0 n := by
  intro n
  induction n with
  | zero => rfl
  | succ n ih =>
    rw [sr_back, sr_back, ← ih]
    simp only [Nat.zero_add]
    have e1 : sr (fun i => sr (b i) (i + 1) (n + 1 - (i + 1))) 0 n = sr (fun i => sr (b i) (i + 1) (n - (i + 1)) + b i n) 0 n := by
      apply sr_congr
      intro i _ hi
      rw [show n + 1 - (i + 1) = (n - (i + 1)) + 1 by omega, sr_back, show i + 1 + (n - (i + 1)) = n by omega]
    rw [e1, sr_add, show n + 1 - (n + 1) = 0 by omega]
    have e2 : sr (fun i => b i n) 0 n = sr (b n) 0 n := sr_congr _ _ (fun i _ _ => hb i n)
    rw [e2]
    rfl
theorem isN_mono {n m : Nat} {x : Int32} (h : isN n x) (hm : n ≤ m) : isN m x := by
  obtain ⟨j, hj, rfl⟩ := h
  exact ⟨j, by omega, rfl⟩
-- arms
def nearB (f c t : Nat → Int32) (a b : Nat) : Bool := (decide (f a = f b) && decide (c a = c b)) || (decide (f a = f b) && decide (t a = t b)) || (decide (c a = c b) && decide (t a = t b))
def yieldB (r f c t : Nat → Int32) (a b : Nat) : Bool := decide (a ≠ b) && nearB f c t a b && (if r a = r b then decide (b < a) else decide (r a < r b))
def lyF (r f c t : Nat → Int32) (k : Nat) : Nat → Nat → Int32
  | 0, _ => -2
  | m + 1, o => if yieldB r f c t k o then nI o else lyF r f c t k m (o + 1)
def leastY (r f c t : Nat → Int32) (n k : Nat) : Int32 := lyF r f c t k n 0
def canB (r f c t : Nat → Int32) (n k : Nat) : Bool := decide (leastY r f c t n k = -2)
theorem nearB_symm (f c t : Nat → Int32) (a b : Nat) : nearB f c t a b = nearB f c t b a := by
  unfold nearB
  rw [decide_eq_decide.mpr (eq_comm (a := f a)), decide_eq_decide.mpr (eq_comm (a := c a)), decide_eq_decide.mpr (eq_comm (a := t a))]
theorem lyF_val (r f c t : Nat → Int32) (k : Nat) : ∀ m o, o + m ≤ 14 → lyF r f c t k m o = -2 ∨ ∃ j, j < 14 ∧ lyF r f c t k m o = nI j := by
  intro m
  induction m with
  | zero => intro o _; exact Or.inl rfl
  | succ m ih =>
    intro o h
    rw [lyF]
    split
    · exact Or.inr ⟨o, by omega, rfl⟩
    · exact ih (o + 1) (by omega)
theorem leastY_val {r f c t : Nat → Int32} {n k : Nat} (hn : n ≤ 14) : leastY r f c t n k = -2 ∨ ∃ j, j < 14 ∧ leastY r f c t n k = nI j := lyF_val r f c t k n 0 (by omega)
theorem leastY_pos {r f c t : Nat → Int32} {n k : Nat} (hn : n ≤ 14) : 0 ≤ leastY r f c t n k ↔ canB r f c t n k = false := by
  unfold canB
  rcases leastY_val (r := r) (f := f) (c := c) (t := t) (k := k) hn with h | ⟨j, hj, h⟩
  · rw [h]; decide
  · rw [h]
    have h1 : ¬ nI j = -2 := fun q => by
      have := congrArg Int32.toInt q
      rw [nI_toInt (by omega)] at this
      have e : (-2 : Int32).toInt = -2 := by decide
      omega
    simp [h1, nI_pos' (show j < 2 ^ 31 by omega)]
section SPB
variable {d : Nat} {w : ex_WW} {P : Int32 → ex_WW → Prop} {n a b k : Nat}
theorem sp_areNear (ha : a < 14) (hb : b < 14) (ht : nearB (w 8) (w 9) (w 10) a b = true → P 1 w) (hf : nearB (w 8) (w 9) (w 10) a b = false → P 0 w) : ex_Ev d mX4_areNear 0 (ex_in [.inr 1, .inl (nI a), .inl (nI b)] 4) [] w P := by
  have ia := vp_in_nI ha (N := 14) (by decide)
  have ib := vp_in_nI hb (N := 14) (by decide)
  refine sg_X4_areNear_0 ?_
  rw [nI_clamp (by omega), nI_clamp (by omega)]
  unfold nearB at ht hf
  refine ⟨ia, ib, fun h1 => ⟨ia, ib, fun h2 => ⟨ia, ib, fun h3 => hf (by simp [h1, h2, h3]), fun h3 => hf (by simp [h1, h2, h3])⟩, fun h2 => ⟨ia, ib, fun h3 => hf (by simp [h1, h2, h3]), fun h3 => ht (by simp [h1, h2, h3])⟩⟩, fun h1 => ⟨ia, ib, fun h2 => ⟨ia, ib, fun h3 => hf (by simp [h1, h2, h3]), fun h3 => ht (by simp [h1, h2, h3])⟩, fun h2 => ⟨ia, ib, fun h3 => ht (by simp [h1, h2, h3]), fun h3 => ht (by simp [h1, h2, h3])⟩⟩⟩
theorem sp_m_areNear (ha : a < 14) (hb : b < 14) (ht : nearB (w 25) (w 26) (w 27) a b = true → P 1 w) (hf : nearB (w 25) (w 26) (w 27) a b = false → P 0 w) : ex_Ev d mX7_areNear 0 (ex_in [.inr 23, .inl (nI a), .inl (nI b)] 4) [] w P := by
  have ia := vp_in_nI ha (N := 14) (by decide)
  have ib := vp_in_nI hb (N := 14) (by decide)
  refine sg_X7_areNear_0 ?_
  rw [nI_clamp (by omega), nI_clamp (by omega)]
  unfold nearB at ht hf
  refine ⟨ia, ib, fun h1 => ⟨ia, ib, fun h2 => ⟨ia, ib, fun h3 => hf (by simp [h1, h2, h3]), fun h3 => hf (by simp [h1, h2, h3])⟩, fun h2 => ⟨ia, ib, fun h3 => hf (by simp [h1, h2, h3]), fun h3 => ht (by simp [h1, h2, h3])⟩⟩, fun h1 => ⟨ia, ib, fun h2 => ⟨ia, ib, fun h3 => hf (by simp [h1, h2, h3]), fun h3 => ht (by simp [h1, h2, h3])⟩, fun h2 => ⟨ia, ib, fun h3 => ht (by simp [h1, h2, h3]), fun h3 => ht (by simp [h1, h2, h3])⟩⟩⟩
theorem sp_yieldsTo (ha : a < 14) (hb : b < 14) (ht : yieldB (w 7) (w 8) (w 9) (w 10) a b = true → P 1 w) (hf : yieldB (w 7) (w 8) (w 9) (w 10) a b = false → P 0 w) : ex_Ev (d + 1) mX4_yieldsTo 0 (ex_in [.inr 1, .inl (nI a), .inl (nI b)] 3) [] w P := by
  have ia := vp_in_nI ha (N := 14) (by decide)
  have ib := vp_in_nI hb (N := 14) (by decide)
  unfold yieldB at ht hf
  refine sg_X4_yieldsTo_0 ⟨fun h => hf ?_, fun h => sp_areNear ha hb (fun hn => t10 ?_) (fun hn => f10 (hf (by simp [hn])))⟩
  · rw [nI_eq (by omega) (by omega)] at h; simp [h]
  · rw [nI_eq (by omega) (by omega)] at h
    rw [nI_clamp (by omega), nI_clamp (by omega)]
    refine ⟨ia, ib, fun h2 => ⟨ia, ib, fun h3 => hf ?_, fun h3 => ht ?_⟩, fun h2 => ⟨fun h3 => hf ?_, fun h3 => ht ?_⟩⟩
    · simp [h, hn, h2, i32_not_lt h3]
    · simp [h, hn, h2]; rw [le_toInt] at h3; rw [lt_toInt]; omega
    · rw [nI_leI (by omega) (by omega)] at h3; simp [h, hn, h2]; omega
    · rw [nI_leI (by omega) (by omega)] at h3; simp [h, hn, h2]; omega
theorem sp_doesYield (ha : a < 14) (hb : b < 14) (ht : yieldB (w 24) (w 25) (w 26) (w 27) a b = true → P 1 w) (hf : yieldB (w 24) (w 25) (w 26) (w 27) a b = false → P 0 w) : ex_Ev (d + 1) mX7_doesYield 0 (ex_in [.inr 23, .inl (nI a), .inl (nI b)] 3) [] w P := by
  have ia := vp_in_nI ha (N := 14) (by decide)
  have ib := vp_in_nI hb (N := 14) (by decide)
  unfold yieldB at ht hf
  refine sg_X7_doesYield_0 ⟨fun h => hf ?_, fun h => sp_m_areNear ha hb (fun hn => t01 ?_) (fun hn => f01 (hf (by simp [hn])))⟩
  · rw [nI_eq (by omega) (by omega)] at h; simp [h]
  · rw [nI_eq (by omega) (by omega)] at h
    rw [nI_clamp (by omega), nI_clamp (by omega)]
    refine ⟨ia, ib, fun h2 => ⟨fun h3 => hf ?_, fun h3 => ht ?_⟩, fun h2 => ⟨ia, ib, fun h3 => hf ?_, fun h3 => ht ?_⟩⟩
    · rw [nI_leI (by omega) (by omega)] at h3; simp [h, hn, h2]; omega
    · rw [nI_leI (by omega) (by omega)] at h3; simp [h, hn, h2]; omega
    · simp [h, hn, h2, i32_not_lt h3]
    · simp [h, hn, h2]; rw [le_toInt] at h3; rw [lt_toInt]; omega
theorem sp_leastYieldedTo (hn : w 1 4 = nI n) (hb : n ≤ 14) (hk : k < n) (h : P (leastY (w 7) (w 8) (w 9) (w 10) n k) w) : ex_Ev (d + 2) mX4_leastYieldedTo 0 (ex_in [.inr 1, .inl (nI k)] 3) [] w P := by
  refine sg_X4_leastYieldedTo_0 ?_
  have loop : ∀ m o, o + m = n → P (lyF (w 7) (w 8) (w 9) (w 10) k m o) w → ex_Ev (d + 2) mX4_leastYieldedTo 2 [some (.inr 1), some (.inl (nI k)), some (.inl (nI o))] [] w P := by
    intro m
    induction m with
    | zero =>
      intro o ho h
      exact sg_X4_leastYieldedTo_2 (pT (by rw [hn]; exact nI_le (by omega) (by omega)) h)
    | succ m ih =>
      intro o ho h
      rw [lyF] at h
      refine sg_X4_leastYieldedTo_2 (pF (by rw [hn]; exact nI_ge (by omega) (by omega)) (sp_yieldsTo (by omega) (by omega) (fun hy => t01 ?_) (fun hy => f01 ?_)))
      · rw [hy] at h; exact h
      · rw [hy] at h; rw [nI_1]; exact ih (o + 1) (by omega) h
  exact loop n 0 (by omega) h
theorem sp_m_yieldsTo (hn : w 23 0 = nI n) (hb : n ≤ 14) (hk : k < n) (h : P (leastY (w 24) (w 25) (w 26) (w 27) n k) w) : ex_Ev (d + 2) mX7_yieldsTo 0 (ex_in [.inr 23, .inl (nI k)] 3) [] w P := by
  refine sg_X7_yieldsTo_0 ?_
  have loop : ∀ m o, o + m = n → P (lyF (w 24) (w 25) (w 26) (w 27) k m o) w → ex_Ev (d + 2) mX7_yieldsTo 2 [some (.inr 23), some (.inl (nI k)), some (.inl (nI o))] [] w P := by
    intro m
    induction m with
    | zero =>
      intro o ho h
      exact sg_X7_yieldsTo_2 (pT (by rw [hn]; exact nI_le (by omega) (by omega)) h)
    | succ m ih =>
      intro o ho h
      rw [lyF] at h
      refine sg_X7_yieldsTo_2 (pF (by rw [hn]; exact nI_ge (by omega) (by omega)) (sp_doesYield (by omega) (by omega) (fun hy => t01 ?_) (fun hy => f01 ?_)))
      · rw [hy] at h; exact h
      · rw [hy] at h; rw [nI_1]; exact ih (o + 1) (by omega) h
  exact loop n 0 (by omega) h
theorem sp_canRide (hn : w 1 4 = nI n) (hb : n ≤ 14) (hk : k < n) (ht : canB (w 7) (w 8) (w 9) (w 10) n k = true → P 1 w) (hf : canB (w 7) (w 8) (w 9) (w 10) n k = false → P 0 w) : ex_Ev (d + 3) mX4_canRide 0 (ex_in [.inr 1, .inl (nI k)] 2) [] w P :=
  sg_X4_canRide_0 (sp_leastYieldedTo hn hb hk ⟨fun h => hf (by unfold canB; simpa using h), fun h => ht (by unfold canB; simpa using h)⟩)
def nb (f c t : Nat → Int32) (a b : Nat) : Nat := if nearB f c t a b then 1 else 0
theorem sp_countNear (hn : w 1 4 = nI n) (hb : n ≤ 14) (h : P (nI (sr (fun i => sr (nb (w 8) (w 9) (w 10) i) (i + 1) (n - (i + 1))) 0 n)) w) : ex_Ev (d + 1) mX4_countNear 0 (ex_in [.inr 1] 4) [] w P := by
  refine sg_X4_countNear_0 ?_
  have inner : ∀ i, i < n → ∀ m o acc, o + m = n → ex_Ev (d + 1) mX4_countNear 4 [some (.inr 1), some (.inl (nI (acc + sr (nb (w 8) (w 9) (w 10) i) o m))), some (.inl (nI (i + 1))), none] [] w P → ex_Ev (d + 1) mX4_countNear 16 [some (.inr 1), some (.inl (nI acc)), some (.inl (nI i)), some (.inl (nI o))] [] w P := by
    intro i hi m
    induction m with
    | zero =>
      intro o acc ho h
      refine sg_X4_countNear_16 (pT (by rw [hn]; exact nI_le (by omega) (by omega)) ?_)
      rw [nI_1]; exact h
    | succ m ih =>
      intro o acc ho h
      rw [sr] at h
      refine sg_X4_countNear_16 (pF (by rw [hn]; exact nI_ge (by omega) (by omega)) (sp_areNear (by omega) (by omega) (fun hy => t01 ?_) (fun hy => f01 ?_)))
      · rw [nI_1, nI_1]
        refine ih (o + 1) (acc + 1) (by omega) ?_
        unfold nb at h ⊢
        rw [hy, if_pos rfl, ← Nat.add_assoc] at h
        exact h
      · rw [nI_1]
        refine ih (o + 1) acc (by omega) ?_
        unfold nb at h ⊢
        rw [hy, if_neg (by decide), Nat.zero_add] at h
        exact h
  have outer : ∀ m i acc, i + m = n → P (nI (acc + sr (fun i => sr (nb (w 8) (w 9) (w 10) i) (i + 1) (n - (i + 1))) i m)) w → ex_Ev (d + 1) mX4_countNear 4 [some (.inr 1), some (.inl (nI acc)), some (.inl (nI i)), none] [] w P := by
    intro m
    induction m with
    | zero =>
      intro i acc hi h
      exact sg_X4_countNear_4 (pT (by rw [hn]; exact nI_le (by omega) (by omega)) h)
    | succ m ih =>
      intro i acc hi h
      refine sg_X4_countNear_4 (pF (by rw [hn]; exact nI_ge (by omega) (by omega)) ?_)
      rw [nI_1]
      refine inner i (by omega) (n - (i + 1)) (i + 1) acc (by omega) (ih (i + 1) _ (by omega) ?_)
      rw [sr, ← Nat.add_assoc] at h
      exact h
  refine outer n 0 0 (by omega) ?_
  rw [Nat.zero_add]
  exact h
theorem sp_m_near (hn : w 23 0 = nI n) (hb : n ≤ 14) (h : P (nI (sr (fun a => sr (nb (w 25) (w 26) (w 27) a) 0 a) 0 n)) w) : ex_Ev (d + 1) mX7_near 0 (ex_in [.inr 23] 4) [] w P := by
  refine sg_X7_near_0 ?_
  have inner : ∀ i, i < n → ∀ m o acc, o + m = i → ex_Ev (d + 1) mX7_near 4 [some (.inr 23), some (.inl (nI (acc + sr (nb (w 25) (w 26) (w 27) i) o m))), some (.inl (nI (i + 1))), none] [] w P → ex_Ev (d + 1) mX7_near 14 [some (.inr 23), some (.inl (nI acc)), some (.inl (nI i)), some (.inl (nI o))] [] w P := by
    intro i hi m
    induction m with
    | zero =>
      intro o acc ho h
      refine sg_X7_near_14 (pT (nI_le (by omega) (by omega)) ?_)
      rw [nI_1]; exact h
    | succ m ih =>
      intro o acc ho h
      rw [sr] at h
      refine sg_X7_near_14 (pF (nI_ge (by omega) (by omega)) (sp_m_areNear (by omega) (by omega) (fun hy => t01 ?_) (fun hy => f01 ?_)))
      · rw [nI_1, nI_1]
        refine ih (o + 1) (acc + 1) (by omega) ?_
        unfold nb at h ⊢
        rw [hy, if_pos rfl, ← Nat.add_assoc] at h
        exact h
      · rw [nI_1, Int32.add_zero]
        refine ih (o + 1) acc (by omega) ?_
        unfold nb at h ⊢
        rw [hy, if_neg (by decide), Nat.zero_add] at h
        exact h
  have outer : ∀ m i acc, i + m = n → P (nI (acc + sr (fun a => sr (nb (w 25) (w 26) (w 27) a) 0 a) i m)) w → ex_Ev (d + 1) mX7_near 4 [some (.inr 23), some (.inl (nI acc)), some (.inl (nI i)), none] [] w P := by
    intro m
    induction m with
    | zero =>
      intro i acc hi h
      exact sg_X7_near_4 (pT (by rw [hn]; exact nI_le (by omega) (by omega)) h)
    | succ m ih =>
      intro i acc hi h
      refine sg_X7_near_4 (pF (by rw [hn]; exact nI_ge (by omega) (by omega)) ?_)
      refine inner i (by omega) i 0 acc (by omega) (ih (i + 1) _ (by omega) ?_)
      rw [sr, ← Nat.add_assoc] at h
      exact h
  refine outer n 0 0 (by omega) ?_
  rw [Nat.zero_add]
  exact h
def cb1 (r f c t : Nat → Int32) (n k : Nat) : Nat := if canB r f c t n k then 1 else 0
theorem sp_countRiders (hn : w 1 4 = nI n) (hb : n ≤ 14) (h : P (nI (sr (cb1 (w 7) (w 8) (w 9) (w 10) n) 0 n)) w) : ex_Ev (d + 4) mX4_countRiders 0 (ex_in [.inr 1] 3) [] w P := by
  refine sg_X4_countRiders_0 ?_
  have loop : ∀ m i acc, i + m = n → P (nI (acc + sr (cb1 (w 7) (w 8) (w 9) (w 10) n) i m)) w → ex_Ev (d + 4) mX4_countRiders 4 [some (.inr 1), some (.inl (nI acc)), some (.inl (nI i))] [] w P := by
    intro m
    induction m with
    | zero =>
      intro i acc hi h
      exact sg_X4_countRiders_4 (pT (by rw [hn]; exact nI_le (by omega) (by omega)) h)
    | succ m ih =>
      intro i acc hi h
      rw [sr] at h
      refine sg_X4_countRiders_4 (pF (by rw [hn]; exact nI_ge (by omega) (by omega)) (sp_canRide hn hb (by omega) (fun hy => t01 ?_) (fun hy => f01 ?_)))
      · rw [nI_1, nI_1]
        refine ih (i + 1) (acc + 1) (by omega) ?_
        rw [show cb1 (w 7) (w 8) (w 9) (w 10) n i = 1 from if_pos hy, ← Nat.add_assoc] at h
        exact h
      · rw [nI_1]
        refine ih (i + 1) acc (by omega) ?_
        rw [show cb1 (w 7) (w 8) (w 9) (w 10) n i = 0 from if_neg (by rw [hy]; decide), Nat.zero_add] at h
        exact h
  refine loop n 0 0 (by omega) ?_
  rw [Nat.zero_add]
  exact h
theorem sp_riding (hn : w 23 0 = nI n) (hb : n ≤ 14) (h : P (nI (sr (cb1 (w 24) (w 25) (w 26) (w 27) n) 0 n)) w) : ex_Ev (d + 3) mX7_riding 0 (ex_in [.inr 23] 3) [] w P := by
  refine sg_X7_riding_0 ?_
  have loop : ∀ m i acc, i + m = n → P (nI (acc + sr (cb1 (w 24) (w 25) (w 26) (w 27) n) i m)) w → ex_Ev (d + 3) mX7_riding 4 [some (.inr 23), some (.inl (nI acc)), some (.inl (nI i))] [] w P := by
    intro m
    induction m with
    | zero =>
      intro i acc hi h
      exact sg_X7_riding_4 (pT (by rw [hn]; exact nI_le (by omega) (by omega)) h)
    | succ m ih =>
      intro i acc hi h
      rw [sr] at h
      refine sg_X7_riding_4 (pF (by rw [hn]; exact nI_ge (by omega) (by omega)) (sp_m_yieldsTo hn hb (by omega) ⟨fun hy => ?_, fun hy => ?_⟩))
      · rw [leastY_pos hb] at hy
        rw [nI_1, Int32.add_zero]
        refine ih (i + 1) acc (by omega) ?_
        rw [show cb1 (w 24) (w 25) (w 26) (w 27) n i = 0 from if_neg (by rw [hy]; decide), Nat.zero_add] at h
        exact h
      · rw [leastY_pos hb, Bool.not_eq_false] at hy
        rw [nI_1, nI_1]
        refine ih (i + 1) (acc + 1) (by omega) ?_
        rw [show cb1 (w 24) (w 25) (w 26) (w 27) n i = 1 from if_pos hy, ← Nat.add_assoc] at h
        exact h
  refine loop n 0 0 (by omega) ?_
  rw [Nat.zero_add]
  exact h
end SPB
