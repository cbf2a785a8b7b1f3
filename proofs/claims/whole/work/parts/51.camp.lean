-- the search for the ring
def okC (S : Nat → Bool) (fe : Nat → Nat → Bool) (c : Nat) (p : Nat → Nat) (t : Nat) : Bool := decide (S t = true ∧ fe (p (c - 1)) t = false ∧ ∀ i, i < c → p i ≠ t)
theorem okC_iff {S : Nat → Bool} {fe : Nat → Nat → Bool} {c t : Nat} {p : Nat → Nat} : okC S fe c p t = true ↔ S t = true ∧ fe (p (c - 1)) t = false ∧ ∀ i, i < c → p i ≠ t := by
  unfold okC
  exact decide_eq_true_iff
def extC (S : Nat → Bool) (fe : Nat → Nat → Bool) : Nat → Nat → (Nat → Nat) → Option (Nat → Nat)
  | 0, c, p => if fe (p (c - 1)) (p 0) then none else some p
  | m + 1, c, p => lvl (extC S fe m (c + 1)) (okC S fe c p) c 1 p 14 0
theorem lvl_no {f : (Nat → Nat) → Option (Nat → Nat)} {ok : Nat → Bool} {c : Nat} {p : Nat → Nat} : ∀ r t, (∀ s, t ≤ s → ok s = false) → lvl f ok c 1 p r t = none := by
  intro r
  induction r with
  | zero => intro t _; rfl
  | succ r ih =>
    intro t h
    rw [lvl, h t (Nat.le_refl _)]
    exact ih (t + 1) (fun s hs => h s (by omega))
section SPS
variable {S : Nat → Bool} {fe : Nat → Nat → Bool} {T : Nat}
theorem sp_seat (hT : T ≤ 7) (hS14 : ∀ i, S i = true → i < 14) : ∀ (m c e : Nat) (w : ex_WW) (p : Nat → Nat) (W : Int32) (P : Int32 → ex_WW → Prop), m + 1 ≤ e → 1 ≤ c → c + m = T → (∀ i, i < 14 → ∀ j, j < 32 → bt (w 21 i) j = fe i j) → (∀ i, i < c → w 22 i = nI (p i) ∧ p i < 14) → (∀ i, i < 32 → (bt W i = true ↔ S i = true ∧ ∀ k, k < c → p k ≠ i)) → cnB (bt W) 14 = m →
    (∀ q X, extC S fe m c p = some q → (∀ i, i < T → X i = nI (q i)) → P 1 (ex_upf w 22 X)) → (∀ X, extC S fe m c p = none → (∀ i, i < c → X i = w 22 i) → P 0 (ex_upf w 22 X)) → ex_Ev e mX0_seat 0 (ex_in [.inr 6, .inl (nI c), .inl W] 5) [] w P := by
  intro m
  induction m with
  | zero =>
    intro c e w p W P he hc hcm hfe hp hW hcn hs hf
    obtain ⟨d, rfl⟩ : ∃ d, e = d + 1 := ⟨e - 1, by omega⟩
    have W0 : W = 0 := by
      apply b_ext
      intro i hi
      rw [b_0]
      cases z : bt W i with
      | false => rfl
      | true =>
        have := cnB_zero 14 hcn i (hS14 i ((hW i hi).mp z).1)
        rw [z] at this
        exact this
    have ec : nI c - 1 = nI (c - 1) := pk_sub (b := 1) hc
    refine sg_X0_seat_0 (pT W0 ?_)
    rw [ec, nI_clamp (by omega), show (0 : Int32).toNatClampNeg = 0 from by decide, (hp (c - 1) (by omega)).1, (hp 0 (by omega)).1]
    refine ⟨vp_in_nI (by omega) (by decide), vp_in_nI (n := 0) (by decide) (by decide), sp_areInFeud (fe := fe) (hp (c - 1) (by omega)).2 (hp 0 (by omega)).2 hfe ?_⟩
    cases z : fe (p (c - 1)) (p 0) with
    | true =>
      refine t10 ?_
      have := hf (w 22) (by rw [extC, z]; rfl) (fun _ _ => rfl)
      rw [xf_id] at this
      exact this
    | false =>
      refine f10 ?_
      have := hs p (w 22) (by rw [extC, z]; rfl) (fun i hi => (hp i (by omega)).1)
      rw [xf_id] at this
      exact this
  | succ m ih =>
    intro c e w p W P he hc hcm hfe hp hW hcn hs hf
    obtain ⟨d, rfl⟩ : ∃ d, e = d + 1 := ⟨e - 1, by omega⟩
    have W0 : ¬ W = 0 := fun z => by
      have := cnB_none (S := bt W) 14 (fun i _ => by rw [z]; exact b_0 i)
      omega
    have ec : nI c - 1 = nI (c - 1) := pk_sub (b := 1) hc
    obtain ⟨ep, bp⟩ := hp (c - 1) (by omega)
    refine sg_X0_seat_0 (pF W0 (pT (nI_lt (b := 7) (by omega) (by decide)) ?_))
    rw [ec, nI_clamp (by omega), ep, nI_clamp (by omega)]
    refine ⟨vp_in_nI (by omega) (by decide), vp_in_nI bp (by decide), ?_⟩
    have x3 : ∀ k, k < 14 → (bt (W &&& (w 21 (p (c - 1)) ^^^ (-1))) k = true ↔ okC S fe c p k = true) := fun k hk => by
      rw [okC_iff, b_and, b_xor, b_m1 k (by omega), Bool.xor_true, hfe _ bp k (by omega), Bool.and_eq_true, hW k (by omega), Bool.not_eq_true']
      constructor
      · rintro ⟨⟨a, b⟩, c⟩; exact ⟨a, c, b⟩
      · rintro ⟨a, c, b⟩; exact ⟨⟨a, b⟩, c⟩
    generalize hx3 : W &&& (w 21 (p (c - 1)) ^^^ (-1)) = x at x3 ⊢
    have loop : ∀ r k (Y : Nat → Int32), k + r = 14 → (∀ i, i < c → Y i = w 22 i) → lvl (extC S fe m (c + 1)) (okC S fe c p) c 1 p r k = extC S fe (m + 1) c p → ex_Ev (d + 1) mX0_seat 58 [some (.inr 6), some (.inl (nI c)), some (.inl W), some (.inl x), some (.inl (nI k))] [] (ex_upf w 22 Y) P := by
      intro r
      induction r with
      | zero =>
        intro k Y hk hY he
        exact sg_X0_seat_58 (pT (by rw [show k = 14 by omega]; decide) (hf Y he.symm hY))
      | succ r ihr =>
        intro k Y hk hY he
        rw [lvl] at he
        refine sg_X0_seat_58 (pF (fun q => nI_ge (a := k) (b := 14) (by omega) (by decide) q) ?_)
        rw [bit_0 (by omega), nI_1, nI_1, nI_clamp (by omega), xf_up]
        refine ⟨fun z => ?_, fun z => ⟨vp_in_nI (by omega) (by decide), ?_⟩⟩
        · rw [if_neg (fun y => by rw [(x3 k (by omega)).mpr y] at z; cases z)] at he
          exact ihr (k + 1) Y (by omega) hY he
        · rw [Bool.not_eq_false] at z
          have ok := (x3 k (by omega)).mp z
          rw [if_pos ok] at he
          obtain ⟨ok1, ok2, ok3⟩ := okC_iff.mp ok
          have Wk : bt W k = true := (hW k (by omega)).mpr ⟨ok1, ok3⟩
          have W' : ∀ i, i < 32 → bt (W &&& (((1 : Int32) <<< (nI k &&& 31)) ^^^ (-1))) i = (bt W i && !decide (i = k)) := fun i hi => bit_not (by omega) hi
          refine ih (c + 1) d (ex_upf w 22 (upd Y c (nI k))) (pset p c k) _ _ (by omega) (by omega) (by omega) hfe (fun i hi => ?_) (fun i hi => ?_) ?_ (fun q X e hX => t01 ?_) (fun X e hX => f01 ?_)
          · rw [xf_at]
            by_cases y : i = c
            · rw [y, upd_at, pset_at]; exact ⟨rfl, by omega⟩
            · rw [upd_ne _ _ y, pset_ne _ _ y, hY i (by omega)]; exact hp i (by omega)
          · rw [W' i hi, Bool.and_eq_true, hW i hi, Bool.not_eq_true', decide_eq_false_iff_not]
            constructor
            · rintro ⟨⟨a, b⟩, y⟩
              refine ⟨a, fun j hj => ?_⟩
              by_cases u : j = c
              · rw [u, pset_at]; exact fun v => y v.symm
              · rw [pset_ne _ _ u]; exact b j (by omega)
            · rintro ⟨a, b⟩
              refine ⟨⟨a, fun j hj => ?_⟩, fun v => ?_⟩
              · have := b j (by omega)
                rw [pset_ne _ _ (by omega)] at this
                exact this
              · have := b c (by omega)
                rw [pset_at] at this
                exact this v.symm
          · have a := cnB_add (S := bt (W &&& (((1 : Int32) <<< (nI k &&& 31)) ^^^ (-1)))) (k := k) (by rw [W' k (by omega)]; simp) 14 (by omega)
            have b := cnB_congr (S := fun i => if i = k then true else bt (W &&& (((1 : Int32) <<< (nI k &&& 31)) ^^^ (-1))) i) (S' := bt W) 14 (fun i hi => by
              by_cases y : i = k
              · rw [if_pos y, y, Wk]
              · rw [if_neg y, W' i (by omega)]; simp [y])
            omega
          · rw [xf_two]
            rw [e] at he
            exact hs q X he.symm hX
          · rw [xf_two]
            rw [e] at he
            refine ihr (k + 1) X (by omega) (fun i hi => ?_) he
            rw [hX i (by omega), xf_at, upd_ne _ _ (by omega)]
            exact hY i hi
    have := loop 14 0 (w 22) (by omega) (fun _ _ => rfl) rfl
    rw [xf_id] at this
    exact this
variable {d n c t : Nat} {w : ex_WW} {P : Int32 → ex_WW → Prop} {g p : Nat → Nat}
theorem sp_pitch (h14 : w 1 4 = nI n) (hn : n ≤ 14) (hg : ∀ i, i < n → w 7 i = nI (g i) ∧ g i < 4) (hfe : ∀ i, i < 14 → ∀ j, j < 32 → bt (w 21 i) j = fe i j) (hd : 7 ≤ d)
    (h0 : n = 0 → ∀ Y, P 0 (ex_upf w 22 Y))
    (hs : ∀ S m q (X : Nat → Int32), 0 < n → sele g n (min n 7) S → frst g n m → extC S fe (min n 7 - 1) 1 (fun _ => m) = some q → (∀ i, i < min n 7 → X i = nI (q i)) → P (nI (min n 7)) (ex_upf w 22 X))
    (hf : ∀ S m X, 0 < n → sele g n (min n 7) S → frst g n m → extC S fe (min n 7 - 1) 1 (fun _ => m) = none → P 0 (ex_upf w 22 X)) : ex_Ev (d + 1) mX0_pitch 0 (ex_in [.inr 6, .inr 1] 6) [] w P := by
  refine sp_pitch_sel h14 hn hg h0 (fun S m W Y x4 hn0 hS hm hSm hY hW => ?_)
  have tz : ¬ nI (min n 7) = 0 := fun z => by
    have := (nI_eq (by omega) (b := 0) (by decide)).mp z
    omega
  refine sg_X0_pitch_78 (pF tz ?_)
  have mn := hm.1
  refine sp_seat (S := S) (fe := fe) (T := min n 7) (by omega) (fun i hi => by have := hS.1 i hi; omega) (min n 7 - 1) 1 d (ex_upf w 22 Y) (fun _ => m) W _ (by omega) (by omega) (by omega) hfe (fun i hi => ?_) (fun i hi => ?_) ?_ (fun q X e hX => t01 ?_) (fun X e hX => f01 ?_)
  · rw [xf_at, show i = 0 by omega]
    exact ⟨hY, by omega⟩
  · rw [hW i hi]
    constructor
    · rintro ⟨a, b⟩; exact ⟨a, fun k _ v => b v.symm⟩
    · rintro ⟨a, b⟩; exact ⟨a, fun v => b 0 (by omega) v.symm⟩
  · have a := cnB_add (S := bt W) (k := m) (by
      cases z : bt W m with
      | false => rfl
      | true => exact absurd rfl ((hW m (by omega)).mp z).2) 14 (by omega)
    have b := cnB_congr (S := fun i => if i = m then true else bt W i) (S' := S) 14 (fun i hi => by
      by_cases y : i = m
      · rw [if_pos y, y, hSm]
      · rw [if_neg y]
        apply Bool.eq_iff_iff.mpr
        rw [hW i (by omega)]
        simp [y])
    have := hS.2.2
    omega
  · rw [xf_two]
    exact hs S m q X hn0 hS hm e hX
  · rw [xf_two]
    exact hf S m X hn0 hS hm e
theorem sp_mayStand (hc1 : 1 ≤ c) (hcT : c < T) (hT : T ≤ 7) (ht : t < 14) (h29 : w 23 29 = nI T) (h41 : ∀ i, i < c → w 41 i = nI (p i) ∧ p i < 14) (hct : w 41 c = nI t) (h40 : w 40 t = if S t then 1 else 0) (h36 : ∀ i j, i < 14 → j < 14 → w 36 (14 * i + j) = if fe i j then 1 else 0) (sym : ∀ i j, fe i j = fe j i)
    (hy : okC S fe c p t = true → (c + 1 < T ∨ fe t (p 0) = false) → P 1 w) (hn : (okC S fe c p t = true → c + 1 = T ∧ fe t (p 0) = true) → P 0 w) : ex_Ev d mX7_mayStand 0 (ex_in [.inr 23, .inl (nI c)] 4) [] w P := by
  have d14 : ∀ x y, (14 : Int32) * nI x + nI y = nI (14 * x + y) := fun x y => by rw [show (14 : Int32) * nI x = nI (14 * x) from pk_mul 14 x, nI_add]
  have ec : nI c - 1 = nI (c - 1) := pk_sub (b := 1) hc1
  obtain ⟨ep, bp⟩ := h41 (c - 1) (by omega)
  obtain ⟨e0, b0⟩ := h41 0 (by omega)
  refine sg_X7_mayStand_0 ?_
  rw [nI_clamp (by omega), hct, nI_clamp (by omega), h40, ec, nI_clamp (by omega), ep, d14, nI_clamp (by omega), h36 t _ ht bp]
  refine ⟨vp_in_nI (by omega) (by decide), vp_in_nI ht (by decide), fun z => hn (fun y => ?_), fun z => ⟨vp_in_nI (by omega) (by decide), vp_in_nI (by omega) (by decide), fun z2 => ?_, fun z2 => hn (fun y => ?_)⟩⟩
  · rw [(okC_iff.mp y).1] at z
    exact absurd z (by decide)
  · have s1 : S t = true := by
      cases e : S t with
      | true => rfl
      | false => rw [e] at z; exact absurd rfl z
    have s2 : fe (p (c - 1)) t = false := by
      rw [sym]
      cases e : fe t (p (c - 1)) with
      | false => rfl
      | true => rw [e] at z2; exact absurd z2 (by decide)
    have loop : ∀ m i, i + m = c → (∀ k, k < i → p k ≠ t) → ex_Ev d mX7_mayStand 41 [some (.inr 23), some (.inl (nI c)), some (.inl (nI t)), some (.inl (nI i))] [] w P := by
      intro m
      induction m with
      | zero =>
        intro i hi hk
        have ok : okC S fe c p t = true := okC_iff.mpr ⟨s1, s2, fun k hk' => hk k (by omega)⟩
        refine sg_X7_mayStand_41 (pT (nI_le (by omega) (by omega)) ?_)
        rw [h29, show nI T - 1 = nI (T - 1) from pk_sub (b := 1) (by omega), show (0 : Int32).toNatClampNeg = 0 from by decide, e0, d14, nI_clamp (by omega), h36 t _ ht b0]
        refine ⟨fun q => hy ok (Or.inl ?_), fun q => ⟨vp_in_nI (n := 0) (by decide) (by decide), vp_in_nI (by omega) (by decide), fun q2 => hn (fun _ => ⟨?_, ?_⟩), fun q2 => hy ok (Or.inr ?_)⟩⟩
        · have := (nI_ltI (by omega) (by omega)).mp q
          omega
        · rcases Nat.lt_or_ge c (T - 1) with z | z
          · exact absurd (nI_lt z (by omega)) q
          · omega
        · cases e : fe t (p 0) with
          | true => rfl
          | false => rw [e] at q2; exact absurd rfl q2
        · cases e : fe t (p 0) with
          | false => rfl
          | true => rw [e] at q2; exact absurd q2 (by decide)
      | succ m ih =>
        intro i hi hk
        obtain ⟨ei, bi⟩ := h41 i (by omega)
        refine sg_X7_mayStand_41 (pF (nI_ge (by omega) (by omega)) ⟨vp_in_nI (by omega) (by decide), ?_⟩)
        rw [nI_clamp (by omega), ei, nI_1]
        refine ⟨fun q => ih (i + 1) (by omega) (fun k hk' => ?_), fun q => hn (fun y => ?_)⟩
        · by_cases e : k = i
          · rw [e]; exact fun v => q (by rw [v])
          · exact hk k (by omega)
        · have := (nI_eq (by omega) (by omega)).mp q
          exact absurd this ((okC_iff.mp y).2.2 i (by omega))
    exact loop c 0 (by omega) (fun k hk => absurd hk (by omega))
  · have := (okC_iff.mp y).2.1
    rw [sym] at this
    rw [this] at z2
    exact absurd rfl z2
theorem sp_findCamp (h0 : w 23 0 = nI n) (hn : n ≤ 14) (hg : ∀ i, i < n → w 24 i = nI (g i) ∧ g i < 4) (h36 : ∀ i j, i < 14 → j < 14 → w 36 (14 * i + j) = if fe i j then 1 else 0) (sym : ∀ i j, fe i j = fe j i) (irr : ∀ i, fe i i = false)
    (hz : n = 0 → ∀ H Y, P 0 (CW (ex_up w 23 29 (nI (min n 7))) H Y))
    (hs : ∀ S m q H (X : Nat → Int32), 0 < n → sele g n (min n 7) S → frst g n m → extC S fe (min n 7 - 1) 1 (fun _ => m) = some q → (∀ i, i < min n 7 → X i = nI (q i)) → P 1 (CW (ex_up w 23 29 (nI (min n 7))) H X))
    (hf : ∀ S m H X, 0 < n → sele g n (min n 7) S → frst g n m → extC S fe (min n 7 - 1) 1 (fun _ => m) = none → P 0 (CW (ex_up w 23 29 (nI (min n 7))) H X)) : ex_Ev (d + 1) mX7_findCamp 0 (ex_in [.inr 23] 2) [] w P := by
  refine sg_X7_findCamp_0 (sp_choose (g := g) h0 hn hg (fun S m H Y hS hm hH => ⟨vp_in_nI (n := 1) (by decide) (by decide), ?_⟩))
  rw [show (1 : Int32).toNatClampNeg = 1 from by decide, CW_41]
  generalize hv : ex_up w 23 29 (nI (min n 7)) = v at hz hs hf ⊢
  have v29 : v 23 29 = nI (min n 7) := by rw [← hv]; rfl
  have v0 : v 23 0 = nI n := by rw [← hv]; exact h0
  have v36 : ∀ i j, i < 14 → j < 14 → v 36 (14 * i + j) = if fe i j then 1 else 0 := by rw [← hv]; exact h36
  generalize hTT : min n 7 = T at *
  rcases Nat.eq_zero_or_pos n with n0 | n0
  · refine sg_X7_findCamp_13 (pF (by decide) (pT ?_ (sg_X7_findCamp_109 (pT ?_ (hz n0 _ _)))))
    · rw [show (CW v H (upd Y 1 0)) 23 29 = nI T from v29, show T = 0 by omega]; decide
    · rw [show (CW v H (upd Y 1 0)) 23 29 = nI T from v29, show T = 0 by omega]; decide
  obtain ⟨hm1, hm2, hm3⟩ := hm n0
  have nine : ∀ c Z, 1 ≤ c → c < T → ex_Ev (d + 1) mX7_findCamp 25 [some (.inr 23), some (.inl (nI c))] [] (CW v H Z) P → ex_Ev (d + 1) mX7_findCamp 13 [some (.inr 23), some (.inl (nI c))] [] (CW v H Z) P := fun c Z h1 hc h =>
    sg_X7_findCamp_13 (pF (fun q => nI_ge (a := 0) (b := c) (by omega) (by omega) q) (pF (by rw [show (CW v H Z) 23 29 = nI T from v29]; exact nI_ge (by omega) (by omega)) h))
  have main : ∀ (m c : Nat) (p : Nat → Nat) (Z : Nat → Int32), 1 ≤ c → c + m = T → (∀ i, i < c → Z i = nI (p i) ∧ p i < 14) → (0 < m → Z c = nI 0) → (m = 0 → fe (p (c - 1)) (p 0) = false) →
      (∀ q X, extC S fe m c p = some q → (∀ i, i < T → X i = nI (q i)) → P 1 (CW v H X)) →
      (∀ X : Nat → Int32, extC S fe m c p = none → (∀ i, i < c → X i = nI (p i)) → (c = 1 → ∀ X', P 0 (CW v H X')) ∧ (1 < c → ex_Ev (d + 1) mX7_findCamp 13 [some (.inr 23), some (.inl (nI (c - 1)))] [] (CW v H (upd X (c - 1) (nI (p (c - 1) + 1)))) P)) →
      ex_Ev (d + 1) mX7_findCamp 13 [some (.inr 23), some (.inl (nI c))] [] (CW v H Z) P := by
    intro m
    induction m with
    | zero =>
      intro c p Z hc1 hc hZ _ hl hS' _
      have e29 : (CW v H Z) 23 29 = nI T := v29
      refine sg_X7_findCamp_13 (pF (fun q => nI_ge (a := 0) (b := c) (by omega) (by omega) q) (pT (by rw [e29]; exact nI_le (by omega) (by omega)) (sg_X7_findCamp_109 (pF (by rw [e29]; exact fun q => nI_ge (a := 0) (b := T) (by omega) (by omega) q) (pF (fun q => nI_ge (a := 0) (b := c) (by omega) (by omega) q) ?_)))))
      exact hS' p Z (by rw [extC, hl rfl]; rfl) (fun i hi => (hZ i (by omega)).1)
    | succ m ih =>
      intro c p Z hc1 hc hZ hZ0 _ hS' hF
      have inner : ∀ r t (Z : Nat → Int32), t + r = n → (∀ i, i < c → Z i = nI (p i)) → Z c = nI t → lvl (extC S fe m (c + 1)) (okC S fe c p) c 1 p (14 - t) t = extC S fe (m + 1) c p → ex_Ev (d + 1) mX7_findCamp 25 [some (.inr 23), some (.inl (nI c))] [] (CW v H Z) P := by
        intro r
        induction r with
        | zero =>
          intro t Z htr hZ' hZc he
          have he' : extC S fe (m + 1) c p = none := by
            rw [← he]
            refine lvl_no _ _ (fun s hs => ?_)
            cases e : okC S fe c p s with
            | false => rfl
            | true =>
              have := hS.1 s (okC_iff.mp e).1
              omega
          have z0 : (CW v H Z) 23 0 = nI n := v0
          have z41 : (CW v H Z) 41 c = nI t := hZc
          refine sg_X7_findCamp_25 ⟨vp_in_nI (by omega) (by decide), ?_⟩
          rw [nI_clamp (by omega), z41, z0]
          refine pT (nI_le (by omega) (by omega)) (sg_X7_findCamp_59 ⟨vp_in_nI (by omega) (by decide), ?_⟩)
          have e1 : nI c + (-1) = nI (c - 1) := by
            have := pk_m1 (c - 1)
            rw [show c - 1 + 1 = c by omega] at this
            exact this
          rw [nI_clamp (by omega), z41, z0, e1, nI_clamp (by omega)]
          have back := hF Z he' hZ'
          have vc := vp_in_nI (n := c - 1) (N := 8) (by omega) (by decide)
          refine pT (nI_le (by omega) (by omega)) ⟨vc, ?_⟩
          by_cases h1 : c = 1
          · rw [show c - 1 = 0 by omega]
            refine pT (by decide) ⟨vp_in_nI (n := 0) (by decide) (by decide), ?_⟩
            rw [CW_41]
            refine sg_X7_findCamp_13 (pT (by decide) (sg_X7_findCamp_109 (pF ?_ (pT (by decide) (back.1 h1 _)))))
            rw [show (CW v H (upd Z 0 (CW v H Z 41 0 + 0))) 23 29 = nI T from v29]
            exact fun q => nI_ge (a := 0) (b := T) (by omega) (by omega) q
          · refine pF (fun q => nI_ge (a := 0) (b := c - 1) (by omega) (by omega) q) ⟨vc, ?_⟩
            rw [CW_41, show (CW v H Z) 41 (c - 1) = nI (p (c - 1)) from hZ' (c - 1) (by omega), nI_1]
            exact back.2 (by omega)
        | succ r ihr =>
          intro t Z htr hZ' hZc he
          have z0 : (CW v H Z) 23 0 = nI n := v0
          have z41 : (CW v H Z) 41 c = nI t := hZc
          rw [show 14 - t = (14 - (t + 1)) + 1 by omega, lvl] at he
          refine sg_X7_findCamp_25 ⟨vp_in_nI (by omega) (by decide), ?_⟩
          rw [nI_clamp (by omega), z41, z0]
          refine pF (nI_ge (by omega) (by omega)) (sp_mayStand (S := S) (fe := fe) (T := T) (p := p) (c := c) (t := t) (w := CW v H Z) hc1 (by omega) (by omega) (by omega) v29 (fun i hi => ⟨hZ' i hi, (hZ i hi).2⟩) hZc (hH t (by omega)) v36 sym (fun ok cl => t10 ?_) (fun no => f10 ?_))
          · rw [if_pos ok] at he
            refine sg_X7_findCamp_59 ⟨vp_in_nI (by omega) (by decide), ?_⟩
            rw [nI_clamp (by omega), z41, z0]
            refine pF (nI_ge (by omega) (by omega)) ?_
            rw [nI_1, nI_clamp (by omega), CW_41]
            refine ⟨vp_in_nI (by omega) (by decide), ?_⟩
            refine ih (c + 1) (pset p c t) (upd Z (c + 1) 0) (by omega) (by omega) (fun i hi => ?_) (fun _ => upd_at _ _ _) (fun m0 => ?_) (fun q X e hX => ?_) (fun X e hX => ⟨fun z => absurd z (by omega), fun _ => ?_⟩)
            · rw [upd_ne _ _ (by omega)]
              by_cases e : i = c
              · subst e; rw [pset_at]; exact ⟨hZc, by omega⟩
              · rw [pset_ne _ _ e]; exact ⟨hZ' i (by omega), (hZ i (by omega)).2⟩
            · rw [show c + 1 - 1 = c by omega, pset_at, pset_ne _ _ (by omega)]
              rcases cl with z | z
              · omega
              · exact z
            · rw [e] at he
              exact hS' q X he.symm hX
            · rw [e] at he
              rw [show c + 1 - 1 = c by omega, pset_at]
              refine nine c _ hc1 (by omega) (ihr (t + 1) _ (by omega) (fun i hi => ?_) (upd_at _ _ _) he)
              rw [upd_ne _ _ (by omega), hX i (by omega), pset_ne _ _ (by omega)]
          · have he2 : lvl (extC S fe m (c + 1)) (okC S fe c p) c 1 p (14 - (t + 1)) (t + 1) = extC S fe (m + 1) c p := by
              by_cases ok : okC S fe c p t = true
              · obtain ⟨a, b⟩ := no ok
                have m0 : m = 0 := by omega
                subst m0
                rw [if_pos ok] at he
                have : extC S fe 0 (c + 1) (pset p c t) = none := by
                  rw [extC, show c + 1 - 1 = c by omega, pset_at, pset_ne _ _ (by omega), b]
                  rfl
                rw [this] at he
                exact he
              · rw [if_neg ok] at he
                exact he
            rw [z41, CW_41, nI_1]
            refine ⟨vp_in_nI (by omega) (by decide), vp_in_nI (by omega) (by decide), ihr (t + 1) _ (by omega) (fun i hi => ?_) (upd_at _ _ _) he2⟩
            rw [upd_ne _ _ (by omega)]
            exact hZ' i hi
      exact nine c Z hc1 (by omega) (inner n 0 Z (by omega) (fun i hi => (hZ i hi).1) (hZ0 (by omega)) rfl)
  have mn := hm1.1
  refine main (T - 1) 1 (fun _ => m) (upd Y 1 0) (by omega) (by omega) (fun i hi => ?_) (fun _ => upd_at _ _ _) (fun _ => irr m) (fun q X e hX => hs S m q H X n0 hS hm1 e hX) (fun X e hX => ⟨fun _ X' => hf S m H X' n0 hS hm1 e, fun z => absurd z (by omega)⟩)
  rw [upd_ne _ _ (by omega), show i = 0 by omega]
  exact ⟨hm3, by omega⟩
end SPS
theorem re_camp {w : ex_WW} {X H Y : Nat → Int32} {x : Int32} (hw : re_all w) : re_all (CW (ex_up (ex_upf w 22 X) 23 29 x) H Y) := by
  obtain ⟨n, f, o, j, ch, hK, hT, hO, hJ, hC, hF⟩ := hw
  exact ⟨n, f, o, j, ch, re_K_of hK rfl rfl rfl rfl rfl rfl rfl rfl rfl rfl, re_T_of hT rfl rfl rfl rfl, re_O_of hO rfl rfl rfl rfl rfl rfl rfl, re_J_of hJ (Nat.le_refl _) (Nat.le_refl _) rfl rfl rfl rfl rfl rfl rfl rfl rfl rfl, re_C_of hC (Nat.le_refl _) rfl rfl rfl rfl rfl rfl, re_F_of hF (Nat.le_refl _) rfl rfl⟩
theorem pp_tent : pr_tent re_all := by
  intro w hw v
  obtain ⟨n, f, o, j, c, hK, hT, hO, hJ, hC, hF⟩ := id hw
  obtain ⟨k1, k2, k3, k4, k5, k6, k7, k8⟩ := id hK
  obtain ⟨fe, f1, f2, f3, f4⟩ := id hF
  have irr : ∀ i, fe i i = false := fun i => by
    cases e : fe i i with
    | false => rfl
    | true => exact absurd rfl (f2 i i e).2.2
  have hg : ∀ i, i < n → w 7 i = nI ((w 7 i).toNatClampNeg) ∧ (w 7 i).toNatClampNeg < 4 := fun i hi => by
    obtain ⟨x, hx, e⟩ := k8 i hi
    rw [e, nI_clamp (by omega)]
    exact ⟨rfl, hx⟩
  generalize hgg : (fun i => (w 7 i).toNatClampNeg) = g
  have hg' : ∀ i, i < n → w 7 i = nI (g i) ∧ g i < 4 := by rw [← hgg]; exact hg
  have hg2 : ∀ i, i < n → w 24 i = nI (g i) ∧ g i < 4 := by rw [← k4]; exact hg'
  refine sg_X6_tent_0 (sp_isWithin (fun hv => t10 ?_) (fun hv => f10 ?_))
  · obtain ⟨x, hx, rfl⟩ := (isN_le (n := 6) (by decide)).mpr hv
    have i7 := vp_in_nI (n := x) (N := 7) (by omega) (by decide)
    have i8 := vp_in_nI (n := x) (N := 8) (by omega) (by decide)
    refine sp_pitch (n := n) (g := g) (fe := fe) k2 k1 hg' f3 (by decide) (fun n0 Y => ?_) (fun S m q X n0 hS hm e hX => ?_) (fun S m X n0 hS hm e => ?_)
    · refine pT (nI_le (a := 0) (b := x) (by omega) (by omega)) ?_
      refine sg_X7_tent_0 (sp_in (fun _ => t10 ?_) (fun z => absurd hv z))
      refine sp_findCamp (w := ex_upf w 22 Y) (n := n) (g := g) (fe := fe) k3 k1 hg2 f4 f1 irr (fun _ H Y => f01 ⟨rfl, re_camp hw⟩) (fun S m q H X n0' => absurd n0' (by omega)) (fun S m H X n0' => absurd n0' (by omega))
    · refine ⟨fun z => ?_, fun z => ?_⟩
      · have hx7 := (nI_leI (by omega) (by omega)).mp z
        refine sg_X7_tent_0 (sp_in (fun _ => t10 ?_) (fun z => absurd hv z))
        refine sp_findCamp (w := ex_upf w 22 X) (n := n) (g := g) (fe := fe) k3 k1 hg2 f4 f1 irr (fun n0' => absurd n0' (by omega)) (fun S' m' q' H X' _ hS' hm' e' hX' => t01 (pT ?_ ⟨rfl, re_camp hw⟩)) (fun S' m' H X' _ hS' hm' e' => f01 ⟨rfl, re_camp hw⟩)
        exact nI_le hx7 (by omega)
      · have hx7 : x < min n 7 := by
          rcases Nat.lt_or_ge x (min n 7) with y | y
          · exact y
          · exact absurd (nI_le y (by omega)) z
        refine sg_X0_knightAt_0 ⟨i7, ?_⟩
        rw [nI_clamp (by omega), xf_at, hX x hx7]
        refine sg_X7_tent_0 (sp_in (fun _ => t10 ?_) (fun z => absurd hv z))
        refine sp_findCamp (w := ex_upf w 22 X) (n := n) (g := g) (fe := fe) k3 k1 hg2 f4 f1 irr (fun n0' => absurd n0' (by omega)) (fun S' m' q' H X' _ hS' hm' e' hX' => t01 (pF ?_ ⟨i8, ?_⟩)) (fun S' m' H X' _ hS' hm' e' => ?_)
        · exact nI_ge hx7 (by omega)
        · rw [nI_clamp (by omega)]
          refine ⟨?_, re_camp hw⟩
          rw [← sele_uniq k1 hS hS', ← frst_uniq hm hm', e] at e'
          cases e'
          exact (hX' x hx7).symm
        · rw [← sele_uniq k1 hS hS', ← frst_uniq hm hm', e] at e'
          cases e'
    · refine pT (nI_le (a := 0) (b := x) (by omega) (by omega)) ?_
      refine sg_X7_tent_0 (sp_in (fun _ => t10 ?_) (fun z => absurd hv z))
      refine sp_findCamp (w := ex_upf w 22 X) (n := n) (g := g) (fe := fe) k3 k1 hg2 f4 f1 irr (fun n0' => absurd n0' (by omega)) (fun S' m' q' H X' _ hS' hm' e' hX' => ?_) (fun S' m' H X' _ hS' hm' e' => f01 ⟨rfl, re_camp hw⟩)
      rw [← sele_uniq k1 hS hS', ← frst_uniq hm hm', e] at e'
      cases e'
  · exact sg_X7_tent_0 (sp_in (fun z => absurd z hv) (fun _ => f10 ⟨rfl, hw⟩))
