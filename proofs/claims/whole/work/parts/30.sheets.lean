theorem re_J_strokes {w w' : ex_WW} {n o j : Nat} (h : re_J w n o j) (e1 : w' 4 6 = w 4 6) (e2 : w' 23 10 = w 23 10) (e3 : w' 14 = w 14) (e4 : w' 31 = w 31) (e5 : w' 15 = w 15) (e6 : w' 30 = w 30) (e7 : w' 16 = w 16) (e8 : w' 33 = w 33) (e9 : w' 17 = w' 32) (e10 : ∀ i, i < 12 * j → isN 7 (w' 17 i)) : re_J w' n o j := by
  unfold re_J at h ⊢
  rw [e1, e2, e3, e4, e5, e6, e7, e8]
  obtain ⟨h1, h2, h3, h4, h5, h6, h7, h8, h9, h10, h11, h12⟩ := h
  exact ⟨h1, h2, h3, h4, h5, h6, e9, h8, h9, h10, h11, e10⟩
theorem pp_stroke : pr_stroke re_all := by
  intro w hw a b c v
  obtain ⟨n, f, o, j, ch, hK, hT, hO, hJ, hC, hF⟩ := id hw
  obtain ⟨j1, j2, j3, j4, j5, j6, j7, j8, j9, j10, j11, j12⟩ := id hJ
  have no : ¬ (isN j a ∧ isN 2 b ∧ isN 6 c ∧ isN 7 v) → ex_Ev 60 mX7_stroke 0 (ex_in [.inr 23, .inl a, .inl b, .inl c, .inl v] 7) [] w (fun r2 u2 => -1 = r2 ∧ re_all u2) := by
    intro h
    exact sg_X7_stroke_0 (sp_isJoust j3 j1 (fun h1 => t01 (sp_isSide (fun h2 => t01 (sp_in (fun h3 => t01 (sp_in (fun h4 => absurd ⟨h1, h2, (isN_le (n := 5) (by decide)).mpr h3, (isN_le (n := 6) (by decide)).mpr h4⟩ h) (fun _ => f10 ⟨rfl, hw⟩))) (fun _ => f01 ⟨rfl, hw⟩))) (fun _ => f01 ⟨rfl, hw⟩))) (fun _ => f01 ⟨rfl, hw⟩))
  refine sg_X6_stroke_0 (sp_j_has j2 j1 (fun h12 => t01 (sp_isWithin (fun h3 => t01 (sp_isWithin (fun h4 => t10 ?_) (fun h4 => f10 (no (fun q => h4 ((isN_le (n := 6) (by decide)).mp q.2.2.2)))))) (fun h3 => f01 (no (fun q => h3 ((isN_le (n := 5) (by decide)).mp q.2.2.1)))))) (fun h12 => f01 (no (fun q => h12 ⟨q.1, q.2.1⟩))))
  have hc := (isN_le (n := 5) (by decide)).mpr h3
  have hv := (isN_le (n := 6) (by decide)).mpr h4
  obtain ⟨⟨x, hx, rfl⟩, ⟨y, hy, rfl⟩⟩ := id h12
  obtain ⟨z, hz, rfl⟩ := id hc
  refine sp_sheetOf (sp_tell (by omega) (by omega) ?_)
  refine sg_X7_stroke_0 (sp_isJoust (j := j) j3 j1 (fun _ => t01 (sp_isSide (fun _ => t01 (sp_in (fun _ => t01 (sp_in (fun _ => t10 (sp_sheetAt ?_)) (fun q => absurd h4 q))) (fun q => absurd h3 q))) (fun q => absurd h12.2 q))) (fun q => absurd h12.1 q))
  rw [nI_add, nI_clamp (by omega)]
  have iv := vp_in_nI (show 6 * (2 * x + y) + z < 360 by omega) (N := 360) (by decide)
  refine ⟨iv, iv, ?_, ?_⟩
  · show w 17 ((x * 2 + y) * 6 + z) = w 32 (6 * (2 * x + y) + z)
    rw [j7, show (x * 2 + y) * 6 + z = 6 * (2 * x + y) + z by omega]
  · refine ⟨n, f, o, j, ch, re_K_of hK rfl rfl rfl rfl rfl rfl rfl rfl rfl rfl, re_T_of hT rfl rfl rfl rfl, re_O_of hO rfl rfl rfl rfl rfl rfl rfl, re_J_strokes hJ rfl rfl rfl rfl rfl rfl rfl rfl ?_ ?_, re_C_of hC (Nat.le_refl _) rfl rfl rfl rfl rfl rfl, re_F_of hF (Nat.le_refl _) rfl rfl⟩
    · show upd (w 17) ((x * 2 + y) * 6 + z) v = upd (w 32) (6 * (2 * x + y) + z) v
      rw [j7, show (x * 2 + y) * 6 + z = 6 * (2 * x + y) + z by omega]
    · intro i hi
      show isN 7 (upd (w 17) ((x * 2 + y) * 6 + z) v i)
      by_cases h : i = (x * 2 + y) * 6 + z
      · rw [h, upd_at]; exact hv
      · rw [upd_ne _ _ h]; exact j12 i hi
-- copies
def cpB (g : Nat → Int32) (a b n i : Nat) : Nat → Int32 := fun k => if b + n - i ≤ k ∧ k < b + n then g (a + (k - b)) else g k
theorem cpB_all (g : Nat → Int32) (a b n : Nat) : cpB g a b n n = va_cpy g g a b n := by
  funext k
  unfold cpB va_cpy
  by_cases h : b ≤ k ∧ k < b + n
  · rw [if_pos h, if_pos (by omega)]
  · rw [if_neg h, if_neg (by omega)]
theorem cpB_0 (g : Nat → Int32) (a b n : Nat) : cpB g a b n 0 = g := by
  funext k
  unfold cpB
  rw [if_neg (by omega)]
theorem cpB_step (g : Nat → Int32) {a b n i : Nat} (hi : i < n) (hab : a < b) : upd (cpB g a b n i) (b + (n - 1 - i)) (cpB g a b n i (a + (n - 1 - i))) = cpB g a b n (i + 1) := by
  funext k
  have e : cpB g a b n i (a + (n - 1 - i)) = g (a + (n - 1 - i)) := by unfold cpB; rw [if_neg (by omega)]
  rw [e]
  by_cases h : k = b + (n - 1 - i)
  · subst h
    rw [upd_at]
    unfold cpB
    rw [if_pos (by omega), show b + (n - 1 - i) - b = n - 1 - i by omega]
  · rw [upd_ne _ _ h]
    unfold cpB
    by_cases h2 : b + n - i ≤ k ∧ k < b + n
    · rw [if_pos h2, if_pos (by omega)]
    · rw [if_neg h2, if_neg (by omega)]
theorem cpA_0 (g : Nat → Int32) (a b : Nat) : va_cpy g g a b 0 = g := by
  funext k
  unfold va_cpy
  rw [if_neg (by omega)]
theorem cpA_step (g : Nat → Int32) {a b i : Nat} (hab : b ≤ a) : upd (va_cpy g g a b i) (b + i) (va_cpy g g a b i (a + i)) = va_cpy g g a b (i + 1) := by
  funext k
  have e : va_cpy g g a b i (a + i) = g (a + i) := by unfold va_cpy; rw [if_neg (by omega)]
  rw [e]
  by_cases h : k = b + i
  · subst h
    rw [upd_at]
    unfold va_cpy
    rw [if_pos (by omega), show b + i - b = i by omega]
  · rw [upd_ne _ _ h]
    unfold va_cpy
    by_cases h2 : b ≤ k ∧ k < b + i
    · rw [if_pos h2, if_pos (by omega)]
    · rw [if_neg h2, if_neg (by omega)]
theorem isN_sub6 {x c : Int32} {t : Nat} (ht : t ≤ 6) (hx : x = nI t) : (0 ≤ c ∧ c ≤ 6 - x) ↔ isN (7 - t) c := by
  subst hx
  rw [show (6 : Int32) - nI t = nI (6 - t) from pk_sub (a := 6) ht, show 7 - t = (6 - t) + 1 by omega, isN_le (by omega)]
set_option maxHeartbeats 1000000 in
theorem pp_copy : pr_copy re_all := by
  intro w hw a b c fr to n0
  obtain ⟨n, f, o, j, ch, hK, hT, hO, hJ, hC, hF⟩ := id hw
  obtain ⟨j1, j2, j3, j4, j5, j6, j7, j8, j9, j10, j11, j12⟩ := id hJ
  have no : ¬ (isN j a ∧ isN j b ∧ isN 2 c ∧ (0 ≤ n0 ∧ n0 ≤ 6) ∧ (0 ≤ fr ∧ fr ≤ 6 - n0) ∧ (0 ≤ to ∧ to ≤ 6 - n0)) → ex_Ev 60 mX7_copy 0 (ex_in [.inr 23, .inl a, .inl b, .inl c, .inl fr, .inl to, .inl n0] 11) [] w (fun r2 u2 => -1 = r2 ∧ re_all u2) := by
    intro h
    exact sg_X7_copy_0 (sp_isJoust j3 j1 (fun h1 => t01 (sp_isJoust j3 j1 (fun h2 => t01 (sp_isSide (fun h3 => t01 (sp_in (fun h4 => t01 (sp_in (fun h5 => t01 (sp_in (fun h6 => absurd ⟨h1, h2, h3, h4, h5, h6⟩ h) (fun _ => f10 ⟨rfl, hw⟩))) (fun _ => f01 ⟨rfl, hw⟩))) (fun _ => f01 ⟨rfl, hw⟩))) (fun _ => f01 ⟨rfl, hw⟩))) (fun _ => f01 ⟨rfl, hw⟩))) (fun _ => f01 ⟨rfl, hw⟩))
  refine sg_X6_copy_0 (sp_j_has j2 j1 (fun h1 => t01 (sp_j_has j2 j1 (fun h2 => t10 (sp_isWithin (fun h4 => t01 (sp_isWithin (fun h5 => t01 (sp_isWithin (fun h6 => t10 ?_) (fun h6 => f10 (no (fun q => h6 q.2.2.2.2.2))))) (fun h5 => f01 (no (fun q => h5 q.2.2.2.2.1))))) (fun h4 => f01 (no (fun q => h4 q.2.2.2.1))))) (fun h2 => f10 (no (fun q => h2 ⟨q.2.1, q.2.2.1⟩))))) (fun h1 => f01 (no (fun q => h1 ⟨q.1, q.2.2.1⟩))))
  obtain ⟨⟨x, hx, rfl⟩, ⟨s, hs, rfl⟩⟩ := id h1
  obtain ⟨⟨y, hy, rfl⟩, -⟩ := id h2
  obtain ⟨t, ht, rfl⟩ := (isN_le (n := 6) (by decide)).mpr h4
  obtain ⟨u, hu, rfl⟩ := (isN_sub6 (show t ≤ 6 by omega) rfl).mp h5
  obtain ⟨v, hv, rfl⟩ := (isN_sub6 (show t ≤ 6 by omega) rfl).mp h6
  refine sp_sheetOf (sp_sheetOf (sg_X2_carryOver_0 ?_))
  rw [m66, m66, nI_clamp (by omega), nI_clamp (by omega), nI_clamp (by omega)]
  refine ⟨nI_pos (by omega), nI_pos (by omega), nI_pos (by omega), by omega, by omega, ?_⟩
  refine sg_X7_copy_0 (sp_isJoust (j := j) j3 j1 (fun _ => t01 (sp_isJoust (j := j) j3 j1 (fun _ => t01 (sp_isSide (fun _ => t01 (sp_in (fun _ => t01 (sp_in (fun _ => t01 (sp_in (fun _ => t10 (sp_sheetAt (sp_sheetAt ?_))) (fun q => absurd h6 q))) (fun q => absurd h5 q))) (fun q => absurd h4 q))) (fun q => absurd h1.2 q))) (fun q => absurd h2.1 q))) (fun q => absurd h1.1 q))
  rw [nI_add, nI_add]
  generalize hA : 6 * (2 * x + s) + u = A
  generalize hB : 6 * (2 * y + s) + v = B
  rw [show (x * 2 + s) * 6 + u = A by omega, show (y * 2 + s) * 6 + v = B by omega]
  generalize hU : ex_upf w 17 (va_cpy (w 17) (w 17) A B t) = U
  have u32 : U 32 = w 32 := by rw [← hU]; rfl
  have fin : ex_Ev 60 mX7_copy 87 [some (.inr 23), some (.inl (nI x)), some (.inl (nI y)), some (.inl (nI s)), some (.inl (nI u)), some (.inl (nI v)), some (.inl (nI t)), some (.inl (nI A)), some (.inl (nI B)), some (.inl (nI t)), none] [] (ex_upf U 32 (va_cpy (w 32) (w 32) A B t)) (fun r2 u2 => nI t = r2 ∧ re_all u2) := by
    refine sg_X7_copy_87 (pT (nI_le (Nat.le_refl _) (by omega)) ⟨rfl, ?_⟩)
    subst hU
    refine ⟨n, f, o, j, ch, re_K_of hK rfl rfl rfl rfl rfl rfl rfl rfl rfl rfl, re_T_of hT rfl rfl rfl rfl, re_O_of hO rfl rfl rfl rfl rfl rfl rfl, re_J_strokes hJ rfl rfl rfl rfl rfl rfl rfl rfl ?_ ?_, re_C_of hC (Nat.le_refl _) rfl rfl rfl rfl rfl rfl, re_F_of hF (Nat.le_refl _) rfl rfl⟩
    · show va_cpy (w 17) (w 17) A B t = va_cpy (w 32) (w 32) A B t
      rw [j7]
    · intro i hi
      show isN 7 (va_cpy (w 17) (w 17) A B t i)
      unfold va_cpy
      by_cases h : B ≤ i ∧ i < B + t
      · rw [if_pos h]; exact j12 _ (by omega)
      · rw [if_neg h]; exact j12 i hi
  by_cases hBA : B ≤ A
  · have loop : ∀ m i, i + m = t → ex_Ev 60 mX7_copy 87 [some (.inr 23), some (.inl (nI x)), some (.inl (nI y)), some (.inl (nI s)), some (.inl (nI u)), some (.inl (nI v)), some (.inl (nI t)), some (.inl (nI A)), some (.inl (nI B)), some (.inl (nI i)), none] [] (ex_upf U 32 (va_cpy (w 32) (w 32) A B i)) (fun r2 u2 => nI t = r2 ∧ re_all u2) := by
      intro m
      induction m with
      | zero => intro i hi; rw [show i = t by omega]; exact fin
      | succ m ih =>
        intro i hi
        refine sg_X7_copy_87 (pF (nI_ge (by omega) (by omega)) (pT (nI_le hBA (by omega)) ?_))
        rw [nI_add, nI_add, nI_clamp (by omega), nI_clamp (by omega), xf_at, xf_up, cpA_step _ hBA, nI_1]
        exact ⟨vp_in_nI (by omega) (by decide), vp_in_nI (by omega) (by decide), ih (i + 1) (by omega)⟩
    have := loop t 0 (by omega)
    rw [cpA_0, ← u32, xf_id] at this
    exact this
  · have loop : ∀ m i, i + m = t → ex_Ev 60 mX7_copy 87 [some (.inr 23), some (.inl (nI x)), some (.inl (nI y)), some (.inl (nI s)), some (.inl (nI u)), some (.inl (nI v)), some (.inl (nI t)), some (.inl (nI A)), some (.inl (nI B)), some (.inl (nI i)), none] [] (ex_upf U 32 (cpB (w 32) A B t i)) (fun r2 u2 => nI t = r2 ∧ re_all u2) := by
      intro m
      induction m with
      | zero => intro i hi; rw [show i = t by omega, cpB_all]; exact fin
      | succ m ih =>
        intro i hi
        refine sg_X7_copy_87 (pF (nI_ge (by omega) (by omega)) (pF (nI_ge (by omega) (by omega)) ?_))
        rw [show nI t - 1 - nI i = nI (t - 1 - i) by rw [show (1 : Int32) = nI 1 from rfl, pk_sub (by omega), pk_sub (by omega)]]
        rw [nI_add, nI_add, nI_clamp (by omega), nI_clamp (by omega), xf_at, xf_up, cpB_step _ (by omega) (by omega), nI_1]
        exact ⟨vp_in_nI (by omega) (by decide), vp_in_nI (by omega) (by decide), ih (i + 1) (by omega)⟩
    have := loop t 0 (by omega)
    rw [cpB_0, ← u32, xf_id] at this
    exact this
