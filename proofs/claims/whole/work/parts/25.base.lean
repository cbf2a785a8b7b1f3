def isN (n : Nat) (x : Int32) : Prop := ∃ j, j < n ∧ x = nI j
theorem t01 {A B : Prop} (h : B) : ((1 : Int32) = 0 → A) ∧ (¬ (1 : Int32) = 0 → B) := ⟨fun q => absurd q (by decide), fun _ => h⟩
theorem f01 {A B : Prop} (h : A) : ((0 : Int32) = 0 → A) ∧ (¬ (0 : Int32) = 0 → B) := ⟨fun _ => h, fun q => absurd rfl q⟩
theorem t10 {A B : Prop} (h : A) : (¬ (1 : Int32) = 0 → A) ∧ ((1 : Int32) = 0 → B) := ⟨fun _ => h, fun q => absurd q (by decide)⟩
theorem f10 {A B : Prop} (h : B) : (¬ (0 : Int32) = 0 → A) ∧ ((0 : Int32) = 0 → B) := ⟨fun q => absurd rfl q, fun _ => h⟩
theorem pT {c A B : Prop} (hc : c) (h : A) : (c → A) ∧ (¬ c → B) := ⟨fun _ => h, fun q => absurd hc q⟩
theorem pF {c A B : Prop} (hc : ¬ c) (h : B) : (c → A) ∧ (¬ c → B) := ⟨fun q => absurd q hc, fun _ => h⟩
theorem qT {c A B : Prop} (hc : c) (h : B) : (¬ c → A) ∧ (c → B) := ⟨fun q => absurd hc q, fun _ => h⟩
theorem qF {c A B : Prop} (hc : ¬ c) (h : A) : (¬ c → A) ∧ (c → B) := ⟨fun _ => h, fun q => absurd q hc⟩
theorem lt_toInt (a b : Int32) : a < b ↔ a.toInt < b.toInt := Int32.lt_iff_toInt_lt
theorem le_toInt (a b : Int32) : a ≤ b ↔ a.toInt ≤ b.toInt := Int32.le_iff_toInt_le
theorem i32_le_of_not_lt {a b : Int32} (h : ¬ a < b) : b ≤ a := by rw [lt_toInt] at h; rw [le_toInt]; omega
theorem i32_not_lt {a b : Int32} (h : b ≤ a) : ¬ a < b := by rw [le_toInt] at h; rw [lt_toInt]; omega
theorem i32_not_le {a b : Int32} (h : b < a) : ¬ a ≤ b := by rw [lt_toInt] at h; rw [le_toInt]; omega
theorem isN_iff {n : Nat} (hn : n < 2 ^ 31) {x : Int32} : isN n x ↔ ¬ x < 0 ∧ ¬ nI n ≤ x := by
  constructor
  · rintro ⟨j, hj, rfl⟩
    exact ⟨nI_pos (by omega), nI_ge hj hn⟩
  · rintro ⟨h1, h2⟩
    rcases pk_ix x hn with h | h | h
    · exact absurd h h1
    · exact absurd h h2
    · exact h
theorem isN_dec {n : Nat} (hn : n < 2 ^ 30) {x : Int32} : isN n x ↔ 0 ≤ x ∧ x ≤ nI n - 1 := by
  have e : (nI n - 1).toInt = (n : Int) - 1 := pk_sub_toInt (a := n) (b := 1) hn (by omega)
  rw [isN_iff (by omega), lt_toInt, le_toInt, le_toInt, le_toInt, e, nI_toInt (by omega), Int32.toInt_zero]
  omega
theorem isN_le {n : Nat} (hn : n < 2 ^ 29) {x : Int32} : isN (n + 1) x ↔ 0 ≤ x ∧ x ≤ nI n := by
  rw [isN_dec (n := n + 1) (by omega), nI_pred]
theorem isN_in {n N : Nat} {x : Int32} (h : isN n x) (hN : n ≤ N) (h2 : N < 2 ^ 31) : vp_in x N := by
  obtain ⟨j, hj, rfl⟩ := h
  exact vp_in_nI (by omega) h2
section SPA
variable {d : Nat} {w : ex_WW} {P : Int32 → ex_WW → Prop} {x lo hi a b k : Int32} {n : Nat}
theorem sp_isWithin (ht : lo ≤ x ∧ x ≤ hi → P 1 w) (hf : ¬ (lo ≤ x ∧ x ≤ hi) → P 0 w) : ex_Ev d mX6_isWithin 0 (ex_in [.inl x, .inl lo, .inl hi] 3) [] w P :=
  sg_X6_isWithin_0 ⟨fun h => hf (fun q => i32_not_lt q.1 h), fun h => ⟨fun h2 => hf (fun q => i32_not_lt q.2 h2), fun h2 => ht ⟨i32_le_of_not_lt h, i32_le_of_not_lt h2⟩⟩⟩
theorem sp_in (ht : lo ≤ x ∧ x ≤ hi → P 1 w) (hf : ¬ (lo ≤ x ∧ x ≤ hi) → P 0 w) : ex_Ev d mX7_in 0 (ex_in [.inl x, .inl lo, .inl hi] 3) [] w P :=
  sg_X7_in_0 ⟨fun h => hf (fun q => i32_not_lt q.1 h), fun h => ⟨fun h2 => hf (fun q => i32_not_lt q.2 h2), fun h2 => ht ⟨i32_le_of_not_lt h, i32_le_of_not_lt h2⟩⟩⟩
theorem sp_mayBeRank (ht : isN 4 x → P 1 w) (hf : ¬ isN 4 x → P 0 w) : ex_Ev (d + 1) mX4_mayBeRank 0 (ex_in [.inl x] 1) [] w P :=
  sg_X4_mayBeRank_0 (sp_isWithin (fun h => ⟨Or.inr rfl, ht ((isN_le (n := 3) (by decide)).mpr h)⟩) (fun h => ⟨Or.inl rfl, hf (fun q => h ((isN_le (n := 3) (by decide)).mp q))⟩))
def isArms (a b c : Int32) : Prop := isN 6 a ∧ isN 10 b ∧ isN 6 c
theorem sp_mayBeArms (ht : isArms a b x → P 1 w) (hf : ¬ isArms a b x → P 0 w) : ex_Ev (d + 1) mX4_mayBeArms 0 (ex_in [.inl a, .inl b, .inl x] 3) [] w P :=
  sg_X4_mayBeArms_0 (sp_isWithin (fun h => t01 (sp_isWithin (fun h2 => t01 (sp_isWithin (fun h3 => t01 (ht ⟨(isN_le (n := 5) (by decide)).mpr h, (isN_le (n := 9) (by decide)).mpr h2, (isN_le (n := 5) (by decide)).mpr h3⟩)) (fun h3 => f01 (hf (fun q => h3 ((isN_le (n := 5) (by decide)).mp q.2.2)))))) (fun h2 => f01 (hf (fun q => h2 ((isN_le (n := 9) (by decide)).mp q.2.1)))))) (fun h => f01 (hf (fun q => h ((isN_le (n := 5) (by decide)).mp q.1)))))
theorem sp_areArms (ht : isArms a b x → P 1 w) (hf : ¬ isArms a b x → P 0 w) : ex_Ev (d + 1) mX7_areArms 0 (ex_in [.inl a, .inl b, .inl x] 3) [] w P :=
  sg_X7_areArms_0 (sp_in (fun h => t01 (sp_in (fun h2 => t01 (sp_in (fun h3 => t01 (ht ⟨(isN_le (n := 5) (by decide)).mpr h, (isN_le (n := 9) (by decide)).mpr h2, (isN_le (n := 5) (by decide)).mpr h3⟩)) (fun h3 => f01 (hf (fun q => h3 ((isN_le (n := 5) (by decide)).mp q.2.2)))))) (fun h2 => f01 (hf (fun q => h2 ((isN_le (n := 9) (by decide)).mp q.2.1)))))) (fun h => f01 (hf (fun q => h ((isN_le (n := 5) (by decide)).mp q.1)))))
theorem sp_has (hn : w 1 4 = nI n) (hb : n ≤ 14) (ht : isN n k → P 1 w) (hf : ¬ isN n k → P 0 w) : ex_Ev d mX4_has 0 (ex_in [.inr 1, .inl k] 2) [] w P := by
  refine sg_X4_has_0 ⟨fun h => hf ?_, fun h => ⟨fun h2 => hf ?_, fun h2 => ht ?_⟩⟩
  · rw [isN_iff (by omega)]; exact fun q => q.1 h
  · rw [isN_iff (by omega), ← hn]; exact fun q => q.2 h2
  · rw [isN_iff (by omega), ← hn]; exact ⟨h, h2⟩
theorem sp_isKnight (hn : w 23 0 = nI n) (hb : n ≤ 14) (ht : isN n k → P 1 w) (hf : ¬ isN n k → P 0 w) : ex_Ev (d + 1) mX7_isKnight 0 (ex_in [.inr 23, .inl k] 2) [] w P := by
  refine sg_X7_isKnight_0 (sp_in (fun h => ⟨Or.inr rfl, ht ?_⟩) (fun h => ⟨Or.inl rfl, hf ?_⟩)) <;> rw [hn] at h <;> rw [isN_dec (by omega)] <;> exact h
theorem sp_hasPair (hn : w 1 4 = nI n) (hb : n ≤ 14) (ht : isN n a ∧ isN n b ∧ a ≠ b → P 1 w) (hf : ¬ (isN n a ∧ isN n b ∧ a ≠ b) → P 0 w) : ex_Ev (d + 1) mX4_hasPair 0 (ex_in [.inr 1, .inl a, .inl b] 3) [] w P :=
  sg_X4_hasPair_0 (sp_has hn hb (fun h => t01 (sp_has hn hb (fun h2 => t01 ⟨fun h3 => hf (fun q => q.2.2 h3), fun h3 => ht ⟨h, h2, h3⟩⟩) (fun h2 => f01 (hf (fun q => h2 q.2.1))))) (fun h => f01 (hf (fun q => h q.1))))
theorem sp_areTwo (hn : w 23 0 = nI n) (hb : n ≤ 14) (ht : isN n a ∧ isN n b ∧ a ≠ b → P 1 w) (hf : ¬ (isN n a ∧ isN n b ∧ a ≠ b) → P 0 w) : ex_Ev (d + 2) mX7_areTwo 0 (ex_in [.inr 23, .inl a, .inl b] 3) [] w P :=
  sg_X7_areTwo_0 (sp_isKnight hn hb (fun h => t01 (sp_isKnight hn hb (fun h2 => t01 ⟨fun h3 => hf (fun q => q.2.2 h3), fun h3 => ht ⟨h, h2, h3⟩⟩) (fun h2 => f01 (hf (fun q => h2 q.2.1))))) (fun h => f01 (hf (fun q => h q.1))))
end SPA
-- the worlds that the two sides share
def re_K (w : ex_WW) (n : Nat) : Prop := n ≤ 14 ∧ w 1 4 = nI n ∧ w 23 0 = nI n ∧ w 7 = w 24 ∧ w 8 = w 25 ∧ w 9 = w 26 ∧ w 10 = w 27 ∧ ∀ i, i < n → isN 4 (w 7 i)
def re_T (w : ex_WW) (f : Nat) : Prop := f ≤ 60 ∧ w 3 1 = nI f ∧ w 23 5 = nI f ∧ w 13 = w 28
def re_O (w : ex_WW) (o : Nat) : Prop := o ≤ 6 ∧ w 2 2 = nI o ∧ w 23 7 = nI o ∧ w 2 3 = w 23 8 ∧ (w 2 3 = -2 ∨ isN o (w 2 3)) ∧ ∀ k, k < o → ((∀ s, s < 6 → w 11 (k * 6 + s) = w 29 (7 * k + s) ∧ -99 ≤ (w 11 (k * 6 + s)).toInt ∧ (w 11 (k * 6 + s)).toInt ≤ 99) ∧ w 11 (k * 6) = 0 ∧ w 12 k = w 29 (7 * k + 6) ∧ isN 6 (w 12 k))
def re_J (w : ex_WW) (n o j : Nat) : Prop := j ≤ 30 ∧ w 4 6 = nI j ∧ w 23 10 = nI j ∧ w 14 = w 31 ∧ w 15 = w 30 ∧ w 16 = w 33 ∧ w 17 = w 32 ∧ (∀ i, i < j → isN o (w 14 i)) ∧ (∀ i, i < 2 * j → isN n (w 15 i)) ∧ (∀ i, i < 2 * j → isN 41 (w 16 i)) ∧ (∀ i, 2 * j ≤ i → w 16 i = 0) ∧ ∀ i, i < 12 * j → isN 7 (w 17 i)
def re_C (w : ex_WW) (n c : Nat) : Prop := c ≤ 7 ∧ w 5 3 = nI c ∧ w 23 15 = nI c ∧ w 18 = w 34 ∧ w 19 = w 35 ∧ ∀ i, i < c → isN n (w 18 i) ∧ isN n (w 19 i) ∧ w 18 i ≠ w 19 i
def re_F (w : ex_WW) (n : Nat) : Prop := ∃ fe : Nat → Nat → Bool, (∀ i j, fe i j = fe j i) ∧ (∀ i j, fe i j = true → i < n ∧ j < n ∧ i ≠ j) ∧ (∀ i, i < 14 → ∀ j, j < 32 → (w 21 i).toBitVec.getLsbD j = fe i j) ∧ ∀ i j, i < 14 → j < 14 → w 36 (14 * i + j) = if fe i j then 1 else 0
def re_all (w : ex_WW) : Prop := ∃ n f o j c, re_K w n ∧ re_T w f ∧ re_O w o ∧ re_J w n o j ∧ re_C w n c ∧ re_F w n
theorem re_start : re_all ex_w0 := by
  refine ⟨0, 0, 0, 0, 0, ⟨by decide, rfl, rfl, rfl, rfl, rfl, rfl, fun i h => absurd h (by omega)⟩, ⟨by decide, rfl, rfl, rfl⟩, ⟨by decide, rfl, rfl, rfl, Or.inl rfl, fun i h => absurd h (by omega)⟩, ⟨by decide, rfl, rfl, rfl, rfl, rfl, rfl, fun i h => absurd h (by omega), fun i h => absurd h (by omega), fun i h => absurd h (by omega), fun i h => rfl, fun i h => absurd h (by omega)⟩, ⟨by decide, rfl, rfl, rfl, rfl, fun i h => absurd h (by omega)⟩, ⟨fun _ _ => false, fun _ _ => rfl, fun _ _ h => (by cases h), fun i _ j _ => ?_, fun i j _ _ => rfl⟩⟩
  show ((0 : Int32)).toBitVec.getLsbD j = false
  simp
