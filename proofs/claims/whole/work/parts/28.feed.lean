def bt (x : Int32) (i : Nat) : Bool := x.toBitVec.getLsbD i
theorem b_ext {x y : Int32} (h : ∀ i, i < 32 → bt x i = bt y i) : x = y := Int32.toBitVec_inj.mp (BitVec.eq_of_getLsbD_eq (fun i hi => h i hi))
theorem b_or (x y : Int32) (i : Nat) : bt (x ||| y) i = (bt x i || bt y i) := by unfold bt; rw [Int32.toBitVec_or, BitVec.getLsbD_or]
theorem b_and (x y : Int32) (i : Nat) : bt (x &&& y) i = (bt x i && bt y i) := by unfold bt; rw [Int32.toBitVec_and, BitVec.getLsbD_and]
theorem b_xor (x y : Int32) (i : Nat) : bt (x ^^^ y) i = (bt x i ^^ bt y i) := by unfold bt; rw [Int32.toBitVec_xor, BitVec.getLsbD_xor]
theorem b_big {x : Int32} {i : Nat} (h : 32 ≤ i) : bt x i = false := BitVec.getLsbD_of_ge _ _ h
theorem b_255 (i : Nat) : bt 255 i = decide (i < 8) := by
  rcases Nat.lt_or_ge i 32 with h | h
  · exact (by decide +kernel : ∀ i, i < 32 → bt 255 i = decide (i < 8)) i h
  · rw [b_big h, decide_eq_false (by omega)]
theorem b_65535 (i : Nat) : bt 65535 i = decide (i < 16) := by
  rcases Nat.lt_or_ge i 32 with h | h
  · exact (by decide +kernel : ∀ i, i < 32 → bt 65535 i = decide (i < 16)) i h
  · rw [b_big h, decide_eq_false (by omega)]
theorem b_m1 : ∀ i, i < 32 → bt (-1) i = true := by decide +kernel
theorem b_0 (i : Nat) : bt 0 i = false := BitVec.getLsbD_zero
theorem s_l : ∀ n, n < 32 → ((nI n &&& 31).toBitVec.smod 32).toNat = n := by decide +kernel
theorem s_u : ∀ n, n < 32 → (((nI n).toUInt32 &&& Int32.toUInt32 31).toBitVec % 32).toNat = n := by decide +kernel
theorem b_shl (n : Nat) (hn : n < 32) (x : Int32) {i : Nat} (hi : i < 32) : bt (x <<< (nI n &&& 31)) i = (decide (n ≤ i) && bt x (i - n)) := by
  unfold bt
  rw [Int32.toBitVec_shiftLeft]
  show (x.toBitVec <<< ((nI n &&& 31).toBitVec.smod 32).toNat).getLsbD i = _
  rw [s_l n hn, BitVec.getLsbD_shiftLeft]
  rcases Nat.lt_or_ge i n with h | h
  · simp [h, Nat.not_le.mpr h]
  · simp [hi, h, Nat.not_lt.mpr h]
theorem b_ushr (n : Nat) (hn : n < 32) (x : Int32) (i : Nat) : bt ((x.toUInt32 >>> ((nI n).toUInt32 &&& Int32.toUInt32 31)).toInt32) i = bt x (n + i) := by
  show (x.toUInt32 >>> ((nI n).toUInt32 &&& Int32.toUInt32 31)).toBitVec.getLsbD i = x.toUInt32.toBitVec.getLsbD (n + i)
  rw [UInt32.toBitVec_shiftRight]
  show (x.toUInt32.toBitVec >>> (((nI n).toUInt32 &&& Int32.toUInt32 31).toBitVec % 32).toNat).getLsbD i = _
  rw [s_u n hn, BitVec.getLsbD_ushiftRight]
theorem b_sshr (n : Nat) (hn : n < 32) (x : Int32) {i : Nat} (hi : i < 32) : bt (x >>> (nI n &&& 31)) i = if n + i < 32 then bt x (n + i) else bt x 31 := by
  unfold bt
  rw [Int32.toBitVec_shiftRight]
  show (x.toBitVec.sshiftRight ((nI n &&& 31).toBitVec.smod 32).toNat).getLsbD i = _
  rw [s_l n hn, BitVec.getLsbD_sshiftRight, BitVec.msb_eq_getLsbD_last]
  simp [hi]
theorem b_shl8 (x : Int32) {i : Nat} (hi : i < 32) : bt (x <<< ((8 : Int32) &&& 31)) i = (decide (8 ≤ i) && bt x (i - 8)) := b_shl 8 (by omega) x hi
theorem b_shl16 (x : Int32) {i : Nat} (hi : i < 32) : bt (x <<< ((16 : Int32) &&& 31)) i = (decide (16 ≤ i) && bt x (i - 16)) := b_shl 16 (by omega) x hi
theorem b_shl24 (x : Int32) {i : Nat} (hi : i < 32) : bt (x <<< ((24 : Int32) &&& 31)) i = (decide (24 ≤ i) && bt x (i - 24)) := b_shl 24 (by omega) x hi
theorem b_sshr8 (x : Int32) {i : Nat} (hi : i < 32) : bt (x >>> ((8 : Int32) &&& 31)) i = if 8 + i < 32 then bt x (8 + i) else bt x 31 := b_sshr 8 (by omega) x hi

-- cells of the world, one row at a time
theorem xf_at (w : ex_WW) (c : Nat) (g : Nat → Int32) : ex_upf w c g c = g := if_pos rfl
theorem xf_ne (w : ex_WW) {c i : Nat} (g : Nat → Int32) (h : i ≠ c) : ex_upf w c g i = w i := if_neg h
theorem xf_up (w : ex_WW) (c k : Nat) (g : Nat → Int32) (x : Int32) : ex_up (ex_upf w c g) c k x = ex_upf w c (upd g k x) := by
  funext i
  unfold ex_up ex_upf
  by_cases h : i = c
  · simp [h]
  · simp [h]
theorem xf_id (w : ex_WW) (c : Nat) : ex_upf w c (w c) = w := by
  funext i
  unfold ex_upf
  by_cases h : i = c
  · simp [h]
  · simp [h]
theorem xf_two (w : ex_WW) (c : Nat) (g g' : Nat → Int32) : ex_upf (ex_upf w c g) c g' = ex_upf w c g' := by
  funext i
  unfold ex_upf
  by_cases h : i = c
  · simp [h]
  · simp [h]
theorem xf_comm (w : ex_WW) {c c' : Nat} (h : c ≠ c') (g g' : Nat → Int32) : ex_upf (ex_upf w c g) c' g' = ex_upf (ex_upf w c' g') c g := by
  funext i
  unfold ex_upf
  by_cases h1 : i = c
  · by_cases h2 : i = c'
    · exact absurd (h1.symm.trans h2) h
    · subst h1; simp [h]
  · by_cases h2 : i = c'
    · subst h2; simp [h1]
    · simp [h1, h2]
theorem xf_up_ne (w : ex_WW) {c c' : Nat} (h : c ≠ c') (k : Nat) (g : Nat → Int32) (x : Int32) : ex_up (ex_upf w c g) c' k x = ex_upf (ex_up w c' k x) c g := by
  rw [ex_up_eq, ex_up_eq, xf_ne _ _ (Ne.symm h), xf_comm _ h]
theorem upd_id (f : Nat → Int32) (k : Nat) : upd f k (f k) = f := by
  funext j
  unfold upd
  by_cases h : j = k
  · simp [h]
  · simp [h]
theorem upd_two (f : Nat → Int32) (k : Nat) (x y : Int32) : upd (upd f k x) k y = upd f k y := by
  funext j
  unfold upd
  by_cases h : j = k
  · simp [h]
  · simp [h]
-- the letters of a number
def leT (v : Int32) (i : Nat) : Int32 := (v >>> ((8 * nI i) &&& 31)) &&& 255
theorem leT_u (v : Int32) (i : Nat) (hi : i < 4) : ((Int32.toUInt32 v >>> (Int32.toUInt32 (8 * nI i) &&& Int32.toUInt32 31)).toInt32) &&& 255 = leT v i := by
  unfold leT
  rw [show (8 : Int32) * nI i = nI (8 * i) from pk_mul 8 i]
  apply b_ext
  intro j hj
  rw [b_and, b_and, b_ushr (8 * i) (by omega), b_sshr (8 * i) (by omega) v hj, b_255]
  by_cases h : j < 8
  · rw [if_pos (by omega)]
  · simp [h]
def cF (v : Int32) : Nat → Nat → Nat
  | 0, i => i
  | m + 1, i => if leT v i = 0 then i else cF v m (i + 1)
theorem cF_le (v : Int32) : ∀ m i, cF v m i ≤ i + m := by
  intro m
  induction m with
  | zero => intro i; exact Nat.le_refl _
  | succ m ih =>
    intro i
    rw [cF]
    split
    · omega
    · have := ih (i + 1); omega
def upL (v : Int32) (f : Nat) (g : Nat → Int32) : Nat → Nat → Int32
  | 0 => g
  | i + 1 => upd (upL v f g i) (f + i) (leT v i)
theorem le_nI_lit {a : Nat} (b : Nat) {x : Int32} (hx : x = nI b) (ha : a < 2 ^ 31) (hb : b < 2 ^ 31) : nI a ≤ x ↔ a ≤ b := by rw [hx]; exact nI_leI ha hb
section SPF
variable {d : Nat} {w : ex_WW} {P : Int32 → ex_WW → Prop} {f : Nat} {v : Int32}
theorem sp_letterIn {i : Nat} (hi : i < 4) (h : P (leT v i) w) : ex_Ev d mX5_letterIn 0 (ex_in [.inl v, .inl (nI i)] 2) [] w P := by
  refine sg_X5_letterIn_0 ?_
  rw [leT_u v i hi]
  exact h
theorem sp_countLetters (h : P (nI (cF v 4 0)) w) : ex_Ev (d + 1) mX5_countLetters 0 (ex_in [.inl v] 2) [] w P := by
  refine sg_X5_countLetters_0 ?_
  have loop : ∀ m i, i + m = 4 → P (nI (cF v m i)) w → ex_Ev (d + 1) mX5_countLetters 2 [some (.inl v), some (.inl (nI i))] [] w P := by
    intro m
    induction m with
    | zero =>
      intro i hi h
      exact sg_X5_countLetters_2 (pT (by rw [show i = 4 by omega]; decide) h)
    | succ m ih =>
      intro i hi h
      rw [cF] at h
      refine sg_X5_countLetters_2 (pF (fun q => ?_) (sp_letterIn (by omega) ⟨fun h0 => ?_, fun h0 => ?_⟩))
      · exact nI_ge (a := i) (b := 4) (by omega) (by decide) q
      · rw [if_pos h0] at h; exact h
      · rw [if_neg h0] at h; rw [nI_1]; exact ih (i + 1) (by omega) h
  exact loop 4 0 rfl h
theorem sp_append (hf : w 3 1 = nI f) (hb : f ≤ 60) (ht : f + cF v 4 0 ≤ 60 → P 1 (ex_upf (ex_up w 3 1 (nI (f + cF v 4 0))) 13 (upL v f (w 13) (cF v 4 0)))) (hn : ¬ f + cF v 4 0 ≤ 60 → P 0 w) : ex_Ev (d + 2) mX5_append 0 (ex_in [.inr 3, .inl v] 4) [] w P := by
  have hc := cF_le v 4 0
  refine sg_X5_append_0 (sp_countLetters ?_)
  rw [hf, nI_add]
  refine ⟨fun h => ?_, fun h => hn (fun q => h (nI_le q (b := 60) (by decide)))⟩
  have h60 : f + cF v 4 0 ≤ 60 := (nI_leI (by omega) (b := 60) (by decide)).mp h
  have loop : ∀ m i, i + m = cF v 4 0 → ex_Ev (d + 2) mX5_append 20 [some (.inr 3), some (.inl v), some (.inl (nI (cF v 4 0))), some (.inl (nI i))] [] (ex_upf w 13 (upL v f (w 13) i)) P := by
    intro m
    induction m with
    | zero =>
      intro i hi
      refine sg_X5_append_20 (pT (nI_le (by omega) (by omega)) ?_)
      rw [xf_ne _ _ (show 3 ≠ 13 by decide), hf, nI_add, xf_up_ne _ (by decide)]
      rw [show i = cF v 4 0 by omega]
      exact ht h60
    | succ m ih =>
      intro i hi
      refine sg_X5_append_20 (pF (nI_ge (by omega) (by omega)) (sp_letterIn (by omega) ?_))
      rw [xf_ne _ _ (show 3 ≠ 13 by decide), hf, nI_add, nI_clamp (by omega), xf_up, nI_1]
      exact ⟨vp_in_nI (by omega) (by decide), ih (i + 1) (by omega)⟩
  have := loop (cF v 4 0) 0 (by omega)
  rw [show upL v f (w 13) 0 = w 13 from rfl, xf_id] at this
  exact this
theorem sp_m_feed (hf : w 23 5 = nI f) (hb : f ≤ 60) (ht : f + cF v 4 0 ≤ 60 → P (nI (f + cF v 4 0)) (ex_upf (ex_up w 23 5 (nI (f + cF v 4 0))) 28 (upL v f (w 28) (cF v 4 0)))) (hn : ¬ f + cF v 4 0 ≤ 60 → P (-2) w) : ex_Ev d mX7_feed 0 (ex_in [.inr 23, .inl v] 4) [] w P := by
  have hc := cF_le v 4 0
  refine sg_X7_feed_0 ?_
  have put : f + cF v 4 0 ≤ 60 → ∀ m i, i + m = cF v 4 0 → ex_Ev d mX7_feed 42 [some (.inr 23), some (.inl v), some (.inl (nI (cF v 4 0))), some (.inl (nI i))] [] (ex_upf (ex_up w 23 5 (nI (f + i))) 28 (upL v f (w 28) i)) P := by
    intro h60 m
    induction m with
    | zero =>
      intro i hi
      refine sg_X7_feed_42 (pT (nI_le (by omega) (by omega)) ?_)
      rw [xf_ne _ _ (show 23 ≠ 28 by decide)]
      rw [show i = cF v 4 0 by omega]
      exact ht h60
    | succ m ih =>
      intro i hi
      refine sg_X7_feed_42 (pF (nI_ge (by omega) (by omega)) ?_)
      have e1 : (ex_upf (ex_up w 23 5 (nI (f + i))) 28 (upL v f (w 28) i)) 23 5 = nI (f + i) := rfl
      rw [e1, nI_clamp (by omega), xf_up]
      have e2 : (ex_upf (ex_up w 23 5 (nI (f + i))) 28 (upd (upL v f (w 28) i) (f + i) ((v >>> ((8 * nI i) &&& 31)) &&& 255))) 23 5 = nI (f + i) := rfl
      rw [e2, xf_up_ne _ (by decide), nI_1, nI_1]
      have e3 : ex_up (ex_up w 23 5 (nI (f + i))) 23 5 (nI (f + i + 1)) = ex_up w 23 5 (nI (f + (i + 1))) := by
        rw [ex_up_eq, ex_up_eq, ex_up_eq, xf_two, xf_at, upd_two]
        rfl
      rw [e3]
      exact ⟨vp_in_nI (by omega) (by decide), ih (i + 1) (by omega)⟩
  have fin : (((w 23 5 + nI (cF v 4 0)) ≤ 60 → ex_Ev d mX7_feed 42 [some (.inr 23), some (.inl v), some (.inl (nI (cF v 4 0))), some (.inl 0)] [] w P) ∧ (¬ (w 23 5 + nI (cF v 4 0)) ≤ 60 → P (-2) w)) := by
    rw [hf, nI_add]
    refine ⟨fun h => ?_, fun h => hn (fun q => h (nI_le q (b := 60) (by decide)))⟩
    have := put ((nI_leI (by omega) (b := 60) (by decide)).mp h) (cF v 4 0) 0 (by omega)
    rw [show upL v f (w 28) 0 = w 28 from rfl, show f + 0 = f from rfl, ← hf] at this
    have e : ex_up w 23 5 (w 23 5) = w := by rw [ex_up_eq, upd_id, xf_id]
    rw [e, xf_id] at this
    exact this
  have loop : ∀ m i, i + m = 4 → cF v m i = cF v 4 0 → ex_Ev d mX7_feed 2 [some (.inr 23), some (.inl v), some (.inl (nI i)), none] [] w P := by
    intro m
    induction m with
    | zero =>
      intro i hi h
      refine sg_X7_feed_2 (pT (by rw [show i = 4 by omega]; decide) ?_)
      rw [show i = cF v 4 0 from h]
      exact fin
    | succ m ih =>
      intro i hi h
      rw [cF] at h
      refine sg_X7_feed_2 (pF (fun q => nI_ge (a := i) (b := 4) (by omega) (by decide) q) ⟨fun h0 => ?_, fun h0 => ?_⟩)
      · rw [if_pos (show leT v i = 0 from h0)] at h
        rw [h]
        exact fin
      · rw [if_neg (show ¬ leT v i = 0 from h0)] at h
        rw [nI_1]
        exact ih (i + 1) (by omega) h
  exact loop 4 0 rfl rfl
theorem sp_o_has {o : Nat} {k : Int32} (hn : w 2 2 = nI o) (hb : o ≤ 6) (ht : isN o k → P 1 w) (hf : ¬ isN o k → P 0 w) : ex_Ev d mX3_has 0 (ex_in [.inr 2, .inl k] 2) [] w P := by
  refine sg_X3_has_0 ⟨fun h => hf ?_, fun h => ⟨fun h2 => hf ?_, fun h2 => ht ?_⟩⟩
  · rw [isN_iff (by omega)]; exact fun q => q.1 h
  · rw [isN_iff (by omega), ← hn]; exact fun q => q.2 h2
  · rw [isN_iff (by omega), ← hn]; exact ⟨h, h2⟩
theorem sp_in_o {o : Nat} {k x : Int32} (hn : x = nI o) (hb : o ≤ 60) (ht : isN o k → P 1 w) (hf : ¬ isN o k → P 0 w) : ex_Ev d mX7_in 0 (ex_in [.inl k, .inl 0, .inl (x - 1)] 3) [] w P := by
  refine sp_in (fun h => ht ?_) (fun h => hf ?_) <;> rw [hn] at h <;> rw [isN_dec (by omega)] <;> exact h
end SPF
theorem pp_feed : pr_feed re_all := by
  intro w hw v
  obtain ⟨n, f, o, j, ch, hK, hT, hO, hJ, hC, hF⟩ := id hw
  obtain ⟨k1, k2, k3, k4⟩ := id hT
  refine sg_X6_feed_0 (sp_append k2 k1 (fun h60 => t01 (sg_X5_length_0 ?_)) (fun h60 => f01 ?_))
  · refine sp_m_feed (f := f) k3 k1 (fun _ => ⟨rfl, ?_⟩) (fun q => absurd h60 q)
    refine ⟨n, f + cF v 4 0, o, j, ch, re_K_of hK rfl rfl rfl rfl rfl rfl rfl rfl rfl rfl, ⟨h60, rfl, rfl, ?_⟩, re_O_of hO rfl rfl rfl rfl rfl rfl rfl, re_J_of hJ (Nat.le_refl _) (Nat.le_refl _) rfl rfl rfl rfl rfl rfl rfl rfl rfl rfl, re_C_of hC (Nat.le_refl _) rfl rfl rfl rfl rfl rfl, re_F_of hF (Nat.le_refl _) rfl rfl⟩
    show upL v f (w 13) (cF v 4 0) = upL v f (w 28) (cF v 4 0)
    rw [k4]
  · exact sp_m_feed (f := f) k3 k1 (fun q => absurd q h60) (fun _ => ⟨rfl, hw⟩)
theorem pp_scrap : pr_scrap re_all := by
  intro w hw
  obtain ⟨n, f, o, j, ch, hK, hT, hO, hJ, hC, hF⟩ := id hw
  obtain ⟨k1, k2, k3, k4⟩ := id hT
  refine sg_X6_scrap_0 (sg_X5_wipe_0 (sg_X7_scrap_0 ⟨?_, ?_⟩))
  · show w 3 1 = w 23 5
    rw [k2, k3]
  · exact ⟨n, 0, o, j, ch, re_K_of hK rfl rfl rfl rfl rfl rfl rfl rfl rfl rfl, ⟨by decide, rfl, rfl, k4⟩, re_O_of hO rfl rfl rfl rfl rfl rfl rfl, re_J_of hJ (Nat.le_refl _) (Nat.le_refl _) rfl rfl rfl rfl rfl rfl rfl rfl rfl rfl, re_C_of hC (Nat.le_refl _) rfl rfl rfl rfl rfl rfl, re_F_of hF (Nat.le_refl _) rfl rfl⟩
theorem pp_force : pr_force re_all := by
  intro w hw k
  obtain ⟨n, f, o, j, ch, hK, hT, hO, hJ, hC, hF⟩ := id hw
  obtain ⟨k1, k2, k3, k4, k5, k6⟩ := id hO
  refine sg_X6_force_0 (sp_o_has k2 k1 (fun hk => t10 (sg_X3_putInForce_0 ?_)) (fun hk => f10 ?_))
  · refine sg_X7_force_0 (sp_in_o (o := o) k3 (by omega) (fun _ => t10 ⟨rfl, ?_⟩) (fun q => absurd hk q))
    exact ⟨n, f, o, j, ch, re_K_of hK rfl rfl rfl rfl rfl rfl rfl rfl rfl rfl, re_T_of hT rfl rfl rfl rfl, ⟨k1, k2, k3, rfl, Or.inr hk, k6⟩, re_J_of hJ (Nat.le_refl _) (Nat.le_refl _) rfl rfl rfl rfl rfl rfl rfl rfl rfl rfl, re_C_of hC (Nat.le_refl _) rfl rfl rfl rfl rfl rfl, re_F_of hF (Nat.le_refl _) rfl rfl⟩
  · exact sg_X7_force_0 (sp_in_o (o := o) k3 (by omega) (fun q => absurd q hk) (fun _ => f10 ⟨rfl, hw⟩))
theorem pp_worth : pr_worth re_all := by
  intro w hw k s
  obtain ⟨n, f, o, j, ch, hK, hT, hO, hJ, hC, hF⟩ := id hw
  obtain ⟨k1, k2, k3, k4, k5, k6⟩ := id hO
  refine sg_X6_worth_0 (sp_o_has k2 k1 (fun hk => t10 ?_) (fun hk => f10 ?_))
  · obtain ⟨i, hi, rfl⟩ := id hk
    have m7 : ∀ t, t < 7 → 7 * nI i + nI t = nI (7 * i + t) := fun t _ => by rw [show (7 : Int32) * nI i = nI (7 * i) from pk_mul 7 i, nI_add]
    have m6 : ∀ t, t < 6 → nI i * 6 + nI t = nI (i * 6 + t) := fun t _ => by rw [show nI i * (6 : Int32) = nI (i * 6) from pk_mul i 6, nI_add]
    refine ⟨fun h6 => sp_isWithin (fun hs => t01 ?_) (fun hs => f01 ?_), fun h6 => ?_⟩
    · obtain ⟨t, ht, rfl⟩ := (isN_le (n := 5) (by decide)).mpr hs
      refine sg_X3_worthOf_0 ?_
      rw [m6 t (by omega), nI_clamp (by omega)]
      refine ⟨vp_in_nI (by omega) (by decide), ?_⟩
      refine sg_X7_worth_0 (sp_in_o (o := o) k3 (by omega) (fun _ => t01 (sp_in (fun _ => t01 ?_) (fun q => absurd ((isN_le (n := 6) (by decide)).mp ⟨t, by omega, rfl⟩) q))) (fun q => absurd hk q))
      rw [m7 t (by omega), nI_clamp (by omega)]
      exact ⟨vp_in_nI (by omega) (by decide), ((k6 i hi).1 t (by omega)).1, hw⟩
    · refine sg_X7_worth_0 (sp_in_o (o := o) k3 (by omega) (fun _ => t01 (sp_in (fun q => ?_) (fun _ => f01 ⟨rfl, hw⟩))) (fun q => absurd hk q))
      exfalso
      obtain ⟨t, ht, e⟩ := (isN_le (n := 6) (by decide)).mpr q
      refine hs ((isN_le (n := 5) (by decide)).mp ⟨t, ?_, e⟩)
      rcases Nat.lt_or_ge t 6 with h | h
      · exact h
      · exact absurd (by rw [e, show t = 6 by omega]; rfl) h6
    · subst h6
      refine sg_X3_tieOf_0 ?_
      rw [nI_clamp (by omega)]
      refine ⟨vp_in_nI (by omega) (by decide), ?_⟩
      refine sg_X7_worth_0 (sp_in_o (o := o) k3 (by omega) (fun _ => t01 (sp_in (fun _ => t01 ?_) (fun q => absurd (by decide) q))) (fun q => absurd hk q))
      rw [show (6 : Int32) = nI 6 from rfl, m7 6 (by omega), nI_clamp (by omega)]
      exact ⟨vp_in_nI (by omega) (by decide), (k6 i hi).2.2.1, hw⟩
  · exact sg_X7_worth_0 (sp_in_o (o := o) k3 (by omega) (fun q => absurd q hk) (fun _ => f01 ⟨rfl, hw⟩))
