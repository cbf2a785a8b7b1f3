-- one bit of a number
theorem b_one : ∀ b, b < 32 → ∀ i, i < 32 → bt ((1 : Int32) <<< (nI b &&& 31)) i = decide (i = b) := by decide +kernel
theorem bit_0 {x : Int32} {b : Nat} (hb : b < 32) : (x &&& ((1 : Int32) <<< (nI b &&& 31))) = 0 ↔ bt x b = false := by
  constructor
  · intro h
    have : bt (x &&& ((1 : Int32) <<< (nI b &&& 31))) b = bt 0 b := by rw [h]
    rw [b_and, b_one b hb b hb, b_0, decide_eq_true rfl, Bool.and_true] at this
    exact this
  · intro h
    apply b_ext
    intro i hi
    rw [b_and, b_one b hb i hi, b_0]
    by_cases e : i = b
    · subst e; rw [h]; rfl
    · simp [e]
theorem bit_or {x : Int32} {b i : Nat} (hb : b < 32) (hi : i < 32) : bt (x ||| ((1 : Int32) <<< (nI b &&& 31))) i = (bt x i || decide (i = b)) := by rw [b_or, b_one b hb i hi]
theorem bit_not {x : Int32} {b i : Nat} (hb : b < 32) (hi : i < 32) : bt (x &&& (((1 : Int32) <<< (nI b &&& 31)) ^^^ (-1))) i = (bt x i && !decide (i = b)) := by rw [b_and, b_xor, b_one b hb i hi, b_m1 i hi, Bool.xor_true]
def fe2 (fe : Nat → Nat → Bool) (a b : Nat) (v : Bool) (i j : Nat) : Bool := if (i = a ∧ j = b) ∨ (i = b ∧ j = a) then v else fe i j
section SPU
variable {d : Nat} {w : ex_WW} {P : Int32 → ex_WW → Prop} {a b : Nat}
theorem sp_areInFeud {fe : Nat → Nat → Bool} (ha : a < 14) (hb : b < 14) (hf : ∀ i, i < 14 → ∀ j, j < 32 → bt (w 21 i) j = fe i j) (h : P (if fe a b then 1 else 0) w) : ex_Ev d mX0_areInFeud 0 (ex_in [.inr 6, .inl (nI a), .inl (nI b)] 3) [] w P := by
  refine sg_X0_areInFeud_0 ⟨vp_in_nI ha (by decide), ?_⟩
  rw [nI_clamp (by omega), bit_0 (by omega), hf a ha b (by omega)]
  refine ⟨fun q => ?_, fun q => ?_⟩
  · rw [q] at h; exact h
  · rw [Bool.not_eq_false] at q; rw [q] at h; exact h
end SPU
theorem pp_feud : pr_feud re_all := by
  intro w hw p q v hv
  obtain ⟨n, f, o, j, ch, hK, hT, hO, hJ, hC, hF⟩ := id hw
  obtain ⟨k1, k2, k3, k4, k5, k6, k7, k8⟩ := id hK
  obtain ⟨fe, f1, f2, f3, f4⟩ := id hF
  refine sg_X6_feud_0 (sp_hasPair k2 k1 (fun hp => t10 ?_) (fun hp => f10 ?_))
  · obtain ⟨⟨a, ha, rfl⟩, ⟨b, hb, rfl⟩, hab⟩ := id hp
    have hne : a ≠ b := fun z => hab (by rw [z])
    have d14 : ∀ x y, (14 : Int32) * nI x + nI y = nI (14 * x + y) := fun x y => by rw [show (14 : Int32) * nI x = nI (14 * x) from pk_mul 14 x, nI_add]
    have rest : ∀ (U : ex_WW) (fe' : Nat → Nat → Bool) (r : Int32), U 23 0 = nI n → U 36 = w 36 → (∀ i j, fe' i j = fe' j i) → (∀ i j, fe' i j = true → i < n ∧ j < n ∧ i ≠ j) → (∀ i, i < 14 → ∀ j, j < 32 → (U 21 i).toBitVec.getLsbD j = fe' i j) → (∀ i j, fe' i j = fe2 fe a b (decide (v = 1)) i j) → (∀ X : Nat → Int32, (∀ g : Nat → Nat → Bool, True) → re_F (ex_upf U 36 X) n → re_all (ex_upf U 36 X)) → (r = if (if fe a b then (1 : Int32) else 0) = v then 0 else 1) → ex_Ev 60 mX7_feud 0 (ex_in [.inr 23, .inl (nI a), .inl (nI b), .inl v] 5) [] U (fun r2 u2 => r = r2 ∧ re_all u2) := by
      intro U fe' r u23 u36 g1 g2 g3 g4 hall hr
      refine sg_X7_feud_0 (sp_areTwo (n := n) u23 k1 (fun _ => t10 ?_) (fun z => absurd hp z))
      have iv : ∀ x y, x < n → y < n → vp_in (nI (14 * x + y)) 196 := fun x y hx hy => vp_in_nI (by omega) (by decide)
      rw [d14, d14, nI_clamp (by omega), nI_clamp (by omega), u36, f4 a b (by omega) (by omega)]
      have eW : ex_up (ex_up U 36 (14 * a + b) v) 36 (14 * b + a) v = ex_upf U 36 (upd (upd (w 36) (14 * a + b) v) (14 * b + a) v) := by
        rw [ex_up_eq U, xf_up, u36]
      rw [eW]
      have good : re_all (ex_upf U 36 (upd (upd (w 36) (14 * a + b) v) (14 * b + a) v)) := by
        refine hall _ (fun _ => trivial) ⟨fe', g1, g2, g3, fun i k hi hk => ?_⟩
        rw [xf_at, g4]
        unfold fe2
        have hv2 : v = if decide (v = 1) then 1 else 0 := by rcases hv with z | z <;> rw [z] <;> decide
        by_cases e1 : 14 * i + k = 14 * b + a
        · rw [e1, upd_at, if_pos (Or.inr ⟨by omega, by omega⟩)]
          exact hv2
        · rw [upd_ne _ _ e1]
          by_cases e2 : 14 * i + k = 14 * a + b
          · rw [e2, upd_at, if_pos (Or.inl ⟨by omega, by omega⟩)]
            exact hv2
          · rw [upd_ne _ _ e2, if_neg (show ¬ ((i = a ∧ k = b) ∨ (i = b ∧ k = a)) by omega)]
            exact f4 i k hi hk
      refine ⟨iv a b ha hb, iv a b ha hb, hv, iv b a hb ha, hv, fun z => ⟨?_, good⟩, fun z => ⟨?_, good⟩⟩
      · rw [hr, if_neg z]
      · rw [hr, if_pos z]
    have allOf : ∀ (U : ex_WW), (∀ c, c ≠ 21 → U c = w c) → ∀ X : Nat → Int32, (∀ g : Nat → Nat → Bool, True) → re_F (ex_upf U 36 X) n → re_all (ex_upf U 36 X) := by
      intro U hU X _ hF'
      have e : ∀ c, c ≠ 21 → c ≠ 36 → ex_upf U 36 X c = w c := fun c z1 z2 => by rw [xf_ne _ _ z2, hU c z1]
      refine ⟨n, f, o, j, ch, re_K_of hK ?_ ?_ ?_ ?_ ?_ ?_ ?_ ?_ ?_ ?_, re_T_of hT ?_ ?_ ?_ ?_, re_O_of hO ?_ ?_ ?_ ?_ ?_ ?_ ?_, re_J_of hJ (Nat.le_refl _) (Nat.le_refl _) ?_ ?_ ?_ ?_ ?_ ?_ ?_ ?_ ?_ ?_, re_C_of hC (Nat.le_refl _) ?_ ?_ ?_ ?_ ?_ ?_, hF'⟩ <;> rw [e _ (by decide) (by decide)]
    refine sp_areInFeud (by omega) (by omega) f3 ⟨fun z => ?_, fun z => ?_⟩
    · have ia := vp_in_nI (show a < 14 by omega) (N := 14) (by decide)
      have ib := vp_in_nI (show b < 14 by omega) (N := 14) (by decide)
      have frame : ∀ X Y : Int32, ∀ c, c ≠ 21 → (ex_up (ex_up w 21 a X) 21 b Y) c = w c := fun X Y c hc => by simp [ex_up, hc]
      have sym : ∀ (vb : Bool) i k, fe2 fe a b vb i k = fe2 fe a b vb k i := by
        intro vb i k
        unfold fe2
        by_cases e : (i = a ∧ k = b) ∨ (i = b ∧ k = a)
        · rw [if_pos e, if_pos (by omega)]
        · rw [if_neg e, if_neg (by omega)]; exact f1 i k
      have bnd : ∀ (vb : Bool) i k, fe2 fe a b vb i k = true → i < n ∧ k < n ∧ i ≠ k := by
        intro vb i k e
        unfold fe2 at e
        by_cases e2 : (i = a ∧ k = b) ∨ (i = b ∧ k = a)
        · omega
        · rw [if_neg e2] at e; exact f2 i k e
      refine sg_X0_setFeud_0 ⟨fun z0 => ⟨ia, ia, ib, ib, ?_⟩, fun z0 => ⟨ia, ia, ib, ib, ?_⟩⟩
      · rw [nI_clamp (by omega), nI_clamp (by omega)]
        have e21 : ∀ X, (ex_up w 21 a X) 21 b = w 21 b := fun X => by show upd (w 21) a X b = w 21 b; exact upd_ne _ _ (Ne.symm hne)
        rw [e21]
        refine rest _ (fe2 fe a b false) 1 ?_ ?_ (sym false) (bnd false) ?_ (fun i k => by rw [show decide (v = 1) = false by rw [z0]; decide]) (allOf _ (frame _ _)) (by rw [if_neg z])
        · rw [frame _ _ 23 (by decide)]; exact k3
        · exact frame _ _ 36 (by decide)
        · intro i hi k hk
          show bt (upd (upd (w 21) a _) b _ i) k = _
          unfold fe2
          by_cases e1 : i = b
          · subst e1
            rw [upd_at, bit_not (by omega) hk, show bt (w 21 i) k = fe i k from f3 i hi k hk]
            by_cases e2 : k = a
            · simp [e2]
            · simp [e2, Ne.symm hne]
          · rw [upd_ne _ _ e1]
            by_cases e2 : i = a
            · subst e2
              rw [upd_at, bit_not (by omega) hk, show bt (w 21 i) k = fe i k from f3 i hi k hk]
              by_cases e3 : k = b
              · simp [e3]
              · simp [e3, e1]
            · rw [upd_ne _ _ e2, show bt (w 21 i) k = fe i k from f3 i hi k hk]
              simp [e1, e2]
      · have hv1 : v = 1 := hv.resolve_left z0
        rw [nI_clamp (by omega), nI_clamp (by omega)]
        have e21 : ∀ X, (ex_up w 21 a X) 21 b = w 21 b := fun X => by show upd (w 21) a X b = w 21 b; exact upd_ne _ _ (Ne.symm hne)
        rw [e21]
        refine rest _ (fe2 fe a b true) 1 ?_ ?_ (sym true) (bnd true) ?_ (fun i k => by rw [show decide (v = 1) = true by rw [hv1]; decide]) (allOf _ (frame _ _)) (by rw [if_neg z])
        · rw [frame _ _ 23 (by decide)]; exact k3
        · exact frame _ _ 36 (by decide)
        · intro i hi k hk
          show bt (upd (upd (w 21) a _) b _ i) k = _
          unfold fe2
          by_cases e1 : i = b
          · subst e1
            rw [upd_at, bit_or (by omega) hk, show bt (w 21 i) k = fe i k from f3 i hi k hk]
            by_cases e2 : k = a
            · simp [e2]
            · simp [e2, Ne.symm hne]
          · rw [upd_ne _ _ e1]
            by_cases e2 : i = a
            · subst e2
              rw [upd_at, bit_or (by omega) hk, show bt (w 21 i) k = fe i k from f3 i hi k hk]
              by_cases e3 : k = b
              · simp [e3]
              · simp [e3, e1]
            · rw [upd_ne _ _ e2, show bt (w 21 i) k = fe i k from f3 i hi k hk]
              simp [e1, e2]
    · refine rest w fe 0 k3 rfl f1 f2 f3 (fun i k => ?_) (allOf w (fun _ _ => rfl)) (by rw [if_pos z])
      have hvb : decide (v = 1) = fe a b := by
        rw [← z]
        cases fe a b <;> decide
      unfold fe2
      by_cases e : (i = a ∧ k = b) ∨ (i = b ∧ k = a)
      · rw [if_pos e, hvb]
        rcases e with ⟨rfl, rfl⟩ | ⟨rfl, rfl⟩
        · rfl
        · exact f1 _ _
      · rw [if_neg e]
  · exact sg_X7_feud_0 (sp_areTwo (n := n) k3 k1 (fun z => absurd z hp) (fun _ => f10 ⟨rfl, hw⟩))
