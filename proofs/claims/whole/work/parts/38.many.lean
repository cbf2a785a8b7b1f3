def ush (x : Int32) (k : Int32) : Int32 := (Int32.toUInt32 x >>> (Int32.toUInt32 k &&& Int32.toUInt32 31)).toInt32
def bcA (x : Int32) : Int32 := x - (ush x 1 &&& 1431655765)
def bcB (x : Int32) : Int32 := (x &&& 858993459) + (ush x 2 &&& 858993459)
def bcC (x : Int32) : Int32 := (x + ush x 4) &&& 252645135
def bcD (x : Int32) : Int32 := x + ush x 8
def bcE (x : Int32) : Int32 := (x + ush x 16) &&& 63
def bcF (x : Int32) : Int32 := bcE (bcD (bcC (bcB (bcA x))))
def tb1 (m j : Nat) : Nat := if m.testBit j then 1 else 0
theorem bc_all : ∀ a, a < 128 → ∀ b, b < 128 → bcF (nI (128 * a + b)) = nI (sr (tb1 (128 * a + b)) 0 14) := by decide +kernel
theorem bc_of {m : Nat} (h : m < 16384) : bcF (nI m) = nI (sr (tb1 m) 0 14) := by
  have := bc_all (m / 128) (by omega) (m % 128) (by omega)
  rw [show 128 * (m / 128) + m % 128 = m by omega] at this
  exact this
theorem sr_square (b : Nat → Nat → Nat) (hb : ∀ i j, b i j = b j i) (h0 : ∀ i, b i i = 0) : ∀ N, sr (fun i => sr (b i) 0 N) 0 N = 2 * sr (fun a => sr (b a) 0 a) 0 N := by
  intro N
  induction N with
  | zero => rfl
  | succ N ih =>
    have e1 : sr (fun i => sr (b i) 0 (N + 1)) 0 N = sr (fun i => sr (b i) 0 N + b i N) 0 N := sr_congr _ _ (fun i _ _ => by rw [sr_back, Nat.zero_add])
    have e2 : sr (fun i => b i N) 0 N = sr (b N) 0 N := sr_congr _ _ (fun i _ _ => hb i N)
    rw [sr_back, sr_back (fun a => sr (b a) 0 a), e1, sr_add, ih, e2, Nat.zero_add, sr_back (b N), Nat.zero_add, h0]
    omega
theorem sr_zero {f : Nat → Nat} : ∀ (n lo : Nat), (∀ i, lo ≤ i → i < lo + n → f i = 0) → sr f lo n = 0 := by
  intro n
  induction n with
  | zero => intro lo _; rfl
  | succ n ih =>
    intro lo h
    rw [sr, h lo (Nat.le_refl _) (by omega), ih (lo + 1) (fun i a b => h i (by omega) (by omega))]
theorem sr_split (f : Nat → Nat) (lo a : Nat) : ∀ b, sr f lo (a + b) = sr f lo a + sr f (lo + a) b := by
  intro b
  induction b with
  | zero => simp [sr]
  | succ b ih => rw [show a + (b + 1) = (a + b) + 1 by omega, sr_back, ih, sr_back, Nat.add_assoc lo a b]; omega
theorem nI_self (x : Int32) : nI x.toBitVec.toNat = x := by
  apply Int32.toBitVec_inj.mp
  show BitVec.ofNat 32 x.toBitVec.toNat = x.toBitVec
  simp
def fN (fe : Nat → Nat → Bool) (i j : Nat) : Nat := if fe i j then 1 else 0
theorem row_of {x : Int32} {f : Nat → Bool} (h : ∀ j, j < 32 → x.toBitVec.getLsbD j = f j) (hf : ∀ j, 14 ≤ j → f j = false) : ∃ m, m < 16384 ∧ x = nI m ∧ sr (tb1 m) 0 14 = sr (fun j => if f j then 1 else 0) 0 14 := by
  refine ⟨x.toBitVec.toNat, ?_, (nI_self x).symm, sr_congr _ _ (fun j _ hj => ?_)⟩
  · apply Nat.lt_pow_two_of_testBit (n := 14)
    intro i hi
    by_cases h32 : i < 32
    · rw [BitVec.testBit_toNat, h i h32, hf i hi]
    · rw [BitVec.testBit_toNat]; exact BitVec.getLsbD_of_ge _ _ (by omega)
  · unfold tb1
    rw [BitVec.testBit_toNat, h j (by omega)]
section SPV
variable {d : Nat} {w : ex_WW} {P : Int32 → ex_WW → Prop} {n o j : Nat}
theorem sp_bitCount {x : Int32} (h : P (bcF x) w) : ex_Ev d mJ6_bitCount_0f7a4 0 (ex_in [.inl x] 1) [] w P := sg_J6_bitCount_0f7a4_0 h
theorem sp_countFeuds {fe : Nat → Nat → Bool} (hn : n ≤ 14) (f1 : ∀ i j, fe i j = fe j i) (f2 : ∀ i j, fe i j = true → i < n ∧ j < n ∧ i ≠ j) (f3 : ∀ i, i < 14 → ∀ j, j < 32 → (w 21 i).toBitVec.getLsbD j = fe i j) (h : P (nI (sr (fun a => sr (fN fe a) 0 a) 0 n)) w) : ex_Ev (d + 1) mX0_countFeuds 0 (ex_in [.inr 6] 3) [] w P := by
  refine sg_X0_countFeuds_0 ?_
  have big : ∀ i k, n ≤ i ∨ n ≤ k → fe i k = false := fun i k hik => by
    cases q : fe i k with
    | false => rfl
    | true => have := f2 i k q; omega
  have tot : sr (fun i => sr (fN fe i) 0 14) 0 14 = 2 * sr (fun a => sr (fN fe a) 0 a) 0 n := by
    rw [sr_square (fN fe) (fun i j => by unfold fN; rw [f1]) (fun i => by unfold fN; cases q : fe i i with | false => rfl | true => exact absurd rfl (f2 i i q).2.2) 14]
    have e : sr (fun a => sr (fN fe a) 0 a) 0 14 = sr (fun a => sr (fN fe a) 0 a) 0 n := by
      rw [show 14 = n + (14 - n) by omega, sr_split, sr_zero (14 - n) (0 + n) (fun i hi _ => sr_zero _ _ (fun k _ _ => by unfold fN; rw [big i k (Or.inl (by omega))]; rfl))]
      rfl
    rw [e]
  have loop : ∀ m i acc, i + m = 14 → acc + sr (fun i => sr (fN fe i) 0 14) i m = 2 * sr (fun a => sr (fN fe a) 0 a) 0 n → acc ≤ 14 * i → ex_Ev (d + 1) mX0_countFeuds 4 [some (.inr 6), some (.inl (nI acc)), some (.inl (nI i))] [] w P := by
    intro m
    induction m with
    | zero =>
      intro i acc hi he _
      refine sg_X0_countFeuds_4 (pT (by rw [show i = 14 by omega]; decide) ?_)
      rw [sr, Nat.add_zero] at he
      rw [he, show nI (2 * sr (fun a => sr (fN fe a) 0 a) 0 n) / 2 = nI (2 * sr (fun a => sr (fN fe a) 0 a) 0 n / 2) from pk_div (d := 2) (by omega) (by decide) (by decide), Nat.mul_div_cancel_left _ (by decide)]
      exact h
    | succ m ih =>
      intro i acc hi he hb
      obtain ⟨x, hx, ex, es⟩ := row_of (f3 i (by omega)) (fun k hk => big i k (Or.inr (by omega)))
      refine sg_X0_countFeuds_4 (pF (fun q => nI_ge (a := i) (b := 14) (by omega) (by decide) q) ⟨vp_in_nI (by omega) (by decide), ?_⟩)
      rw [nI_clamp (by omega)]
      refine sp_bitCount ?_
      rw [ex, bc_of hx, es, nI_add, nI_1]
      rw [sr] at he
      have le := sr_le (fun k => if fe i k then 1 else 0) 1 14 0 (fun k => by split <;> omega)
      exact ih (i + 1) _ (by omega) (by rw [← he, Nat.add_assoc]; rfl) (by omega)
  refine loop 14 0 0 rfl ?_ (by omega)
  rw [Nat.zero_add]
  exact tot
theorem sp_m_feuds {fe : Nat → Nat → Bool} (hn : n ≤ 14) (h0 : w 23 0 = nI n) (f4 : ∀ i j, i < 14 → j < 14 → w 36 (14 * i + j) = if fe i j then 1 else 0) (h : P (nI (sr (fun a => sr (fN fe a) 0 a) 0 n)) w) : ex_Ev d mX7_feuds 0 (ex_in [.inr 23] 4) [] w P := by
  refine sg_X7_feuds_0 ?_
  have inner : ∀ i, i < n → ∀ m o acc, o + m = i → ex_Ev d mX7_feuds 4 [some (.inr 23), some (.inl (nI (acc + sr (fN fe i) o m))), some (.inl (nI (i + 1))), none] [] w P → ex_Ev d mX7_feuds 14 [some (.inr 23), some (.inl (nI acc)), some (.inl (nI i)), some (.inl (nI o))] [] w P := by
    intro i hi m
    induction m with
    | zero =>
      intro o acc ho h
      refine sg_X7_feuds_14 (pT (nI_le (by omega) (by omega)) ?_)
      rw [nI_1]; exact h
    | succ m ih =>
      intro o acc ho h
      rw [sr] at h
      refine sg_X7_feuds_14 (pF (nI_ge (by omega) (by omega)) ?_)
      rw [show (14 : Int32) * nI i + nI o = nI (14 * i + o) by rw [show (14 : Int32) * nI i = nI (14 * i) from pk_mul 14 i, nI_add], nI_clamp (by omega), f4 i o (by omega) (by omega), nI_1, nI_1, Int32.add_zero]
      refine ⟨vp_in_nI (by omega) (by decide), fun q => ih (o + 1) acc (by omega) ?_, fun q => ih (o + 1) (acc + 1) (by omega) ?_⟩
      · cases hf : fe i o with
        | true => rw [hf] at q; exact absurd q (by decide)
        | false => rw [show fN fe i o = 0 by unfold fN; rw [hf]; rfl, Nat.zero_add] at h; exact h
      · cases hf : fe i o with
        | false => rw [hf] at q; exact absurd rfl q
        | true => rw [show fN fe i o = 1 by unfold fN; rw [hf]; rfl, ← Nat.add_assoc] at h; exact h
  have outer : ∀ m i acc, i + m = n → P (nI (acc + sr (fun a => sr (fN fe a) 0 a) i m)) w → ex_Ev d mX7_feuds 4 [some (.inr 23), some (.inl (nI acc)), some (.inl (nI i)), none] [] w P := by
    intro m
    induction m with
    | zero =>
      intro i acc hi h
      exact sg_X7_feuds_4 (pT (by rw [h0]; exact nI_le (by omega) (by omega)) h)
    | succ m ih =>
      intro i acc hi h
      refine sg_X7_feuds_4 (pF (by rw [h0]; exact nI_ge (by omega) (by omega)) ?_)
      refine inner i (by omega) i 0 acc (by omega) (ih (i + 1) _ (by omega) ?_)
      rw [sr, ← Nat.add_assoc] at h
      exact h
  refine outer n 0 0 (by omega) ?_
  rw [Nat.zero_add]
  exact h
theorem sp_sumOf_owed (hK : re_K w n) (hJ : re_J w n o j) (h : P (siF (owF w) (2 * j) 0 0) w) : ex_Ev (d + 3) mX7_sumOf 0 (ex_in [.inr 23, .inl 1] 4) [] w P := by
  have hj := hJ.1
  have e2 : (2 : Int32) * w 23 10 = nI (2 * j) := by rw [hJ.2.2.1]; exact pk_mul 2 j
  refine sg_X7_sumOf_0 ?_
  have loop : ∀ m i acc, i + m = 2 * j → P (siF (owF w) m i acc) w → ex_Ev (d + 3) mX7_sumOf 4 [some (.inr 23), some (.inl 1), some (.inl acc), some (.inl (nI i))] [] w P := by
    intro m
    induction m with
    | zero =>
      intro i acc hi h
      exact sg_X7_sumOf_4 (pT (by rw [e2]; exact nI_le (by omega) (by omega)) h)
    | succ m ih =>
      intro i acc hi h
      rw [siF] at h
      refine sg_X7_sumOf_4 (pF (by rw [e2]; exact nI_ge (by omega) (by omega)) (pF (by decide) ?_))
      rw [div2 (by omega), rem2 (by omega), nI_1]
      refine sp_m_owedOf (x := i / 2) (y := i % 2) hK hJ (by omega) (by omega) ?_
      rw [show i / 2 * 2 + i % 2 = i by omega]
      exact ih (i + 1) _ (by omega) h
  exact loop (2 * j) 0 0 (by omega) h
theorem sp_sumOf_paid (hJ : re_J w n o j) (h : P (siF (w 33) (2 * j) 0 0) w) : ex_Ev (d + 1) mX7_sumOf 0 (ex_in [.inr 23, .inl 0] 4) [] w P := by
  have hj := hJ.1
  have e2 : (2 : Int32) * w 23 10 = nI (2 * j) := by rw [hJ.2.2.1]; exact pk_mul 2 j
  refine sg_X7_sumOf_0 ?_
  have loop : ∀ m i acc, i + m = 2 * j → P (siF (w 33) m i acc) w → ex_Ev (d + 1) mX7_sumOf 4 [some (.inr 23), some (.inl 0), some (.inl acc), some (.inl (nI i))] [] w P := by
    intro m
    induction m with
    | zero =>
      intro i acc hi h
      exact sg_X7_sumOf_4 (pT (by rw [e2]; exact nI_le (by omega) (by omega)) h)
    | succ m ih =>
      intro i acc hi h
      rw [siF] at h
      refine sg_X7_sumOf_4 (pF (by rw [e2]; exact nI_ge (by omega) (by omega)) (pT rfl ⟨vp_in_nI (by omega) (by decide), ?_⟩))
      rw [nI_clamp (by omega), nI_1]
      exact ih (i + 1) _ (by omega) h
  exact loop (2 * j) 0 0 (by omega) h
end SPV
theorem pp_many : pr_many re_all := by
  intro w hw v
  obtain ⟨n, f, o, j, ch, hK, hT, hO, hJ, hC, hF⟩ := id hw
  obtain ⟨k1, k2, k3, k4, k5, k6, k7, k8⟩ := id hK
  obtain ⟨fe, f1, f2, f3, f4⟩ := id hF
  have go : ∀ {r : Int32}, ((v = 0 → r = w 23 0) ∧ (v = 1 → r = w 23 7) ∧ (v = 2 → r = w 23 8) ∧ (v = 3 → r = w 23 10) ∧ (v = 4 → r = w 23 15) ∧ (v = 5 → r = nI (sr (fun a => sr (fN fe a) 0 a) 0 n)) ∧ (v = 6 → r = w 23 5) ∧ (v = 7 → r = nI (sr (cb1 (w 24) (w 25) (w 26) (w 27) n) 0 n)) ∧ (v = 8 → r = siF (owF w) (2 * j) 0 0) ∧ (v = 9 → r = siF (w 33) (2 * j) 0 0) ∧ (¬ v = 0 → ¬ v = 1 → ¬ v = 2 → ¬ v = 3 → ¬ v = 4 → ¬ v = 5 → ¬ v = 6 → ¬ v = 7 → ¬ v = 8 → ¬ v = 9 → r = -1)) → ex_Ev 60 mX7_many 0 (ex_in [.inr 23, .inl v] 2) [] w (fun r2 u2 => r = r2 ∧ re_all u2) := by
    intro r hr
    exact sg_X7_many_0 ⟨fun h => ⟨hr.1 h, hw⟩, fun h => ⟨hr.2.1 h, hw⟩, fun h => ⟨hr.2.2.1 h, hw⟩, fun h => ⟨hr.2.2.2.1 h, hw⟩, fun h => ⟨hr.2.2.2.2.1 h, hw⟩, fun h => sp_m_feuds k1 k3 f4 ⟨hr.2.2.2.2.2.1 h, hw⟩, fun h => ⟨hr.2.2.2.2.2.2.1 h, hw⟩, fun h => sp_riding k3 k1 ⟨hr.2.2.2.2.2.2.2.1 h, hw⟩, fun h => sp_sumOf_owed hK hJ ⟨hr.2.2.2.2.2.2.2.2.1 h, hw⟩, fun h => sp_sumOf_paid hJ ⟨hr.2.2.2.2.2.2.2.2.2.1 h, hw⟩, fun a0 a1 a2 a3 a4 a5 a6 a7 a8 a9 => ⟨hr.2.2.2.2.2.2.2.2.2.2 a0 a1 a2 a3 a4 a5 a6 a7 a8 a9, hw⟩⟩
  have no : ∀ {A : Prop} (x y : Int32), ¬ x = y → (x = y → A) := fun x y h q => absurd q h
  refine sg_X6_many_0 ⟨fun h => sg_X4_size_0 ?_, fun h => sg_X3_size_0 ?_, fun h => sg_X3_inForce_0 ?_, fun h => sg_X2_size_0 ?_, fun h => sg_X1_size_0 ?_, fun h => sp_countFeuds k1 f1 f2 f3 ?_, fun h => sg_X5_length_0 ?_, fun h => sp_countRiders k2 k1 ?_, fun h => sp_owedInAll hK hJ ?_, fun h => sp_paidInAll hJ ?_, fun a0 a1 a2 a3 a4 a5 a6 a7 a8 a9 => ?_⟩
  all_goals refine go ?_
  · subst h; simp [k2, k3]
  · subst h; simp [hO.2.1, hO.2.2.1]
  · subst h; simp [hO.2.2.2.1]
  · subst h; simp [hJ.2.1, hJ.2.2.1]
  · subst h; simp [hC.2.1, hC.2.2.1]
  · subst h; simp
  · subst h; simp [hT.2.1, hT.2.2.1]
  · subst h; simp [k4, k5, k6, k7]
  · subst h; simp
  · subst h; simp
  · exact ⟨no _ _ a0, no _ _ a1, no _ _ a2, no _ _ a3, no _ _ a4, no _ _ a5, no _ _ a6, no _ _ a7, no _ _ a8, no _ _ a9, fun _ _ _ _ _ _ _ _ _ _ => rfl⟩
