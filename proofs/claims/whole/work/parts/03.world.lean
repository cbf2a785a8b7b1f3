abbrev ex_kinds : List (Nat ⊕ (Nat × Bool)) := [.inl 6, .inl 4, .inl 3, .inl 5, .inl 2, .inl 1, .inl 0, .inr (14, false), .inr (14, false), .inr (14, false), .inr (14, false), .inr (36, false), .inr (6, false), .inr (60, false), .inr (30, false), .inr (60, false), .inr (60, false), .inr (360, false), .inr (7, false), .inr (7, false), .inr (7, false), .inr (14, false), .inr (7, false), .inl 7, .inr (14, false), .inr (14, false), .inr (14, false), .inr (14, false), .inr (60, false), .inr (42, false), .inr (60, false), .inr (30, false), .inr (360, false), .inr (60, false), .inr (7, false), .inr (7, false), .inr (196, true), .inr (7, false), .inr (6, true), .inr (8, false), .inr (14, true), .inr (8, false)]
abbrev ex_rfs : List (List (Option Nat)) := [[some 1, some 2, some 3, some 4, some 5, some 6], [some 7, some 8, some 9, some 10, none], [some 11, some 12, none, none], [some 13, none, none, none], [some 1, some 2, some 14, some 15, some 16, some 17, none], [some 18, some 19, some 20, none], [some 21, some 22], [], [], [], [], [], [], [], [], [], [], [], [], [], [], [], [], [none, some 24, some 25, some 26, some 27, none, some 28, none, none, some 29, none, some 30, some 31, some 32, some 33, none, some 34, some 35, some 36, some 37, some 38, none, none, none, none, none, some 39, some 40, some 41, none], [], [], [], [], [], [], [], [], [], [], [], [], [], [], [], [], [], []]
abbrev ex_nfs : List Nat := [2, 4, 7, 4, 5, 4, 6, 30]
abbrev ex_AV : Type := Int32 ⊕ Nat
abbrev ex_MD : Type := MethodName × ByteArray × Nat × Option FieldType
abbrev ex_WW : Type := Nat → Nat → Int32
def ex_tr (ad : Nat → Nat) : ex_AV → Value
  | .inl x => .int x
  | .inr c => .ref (ad c)
def ex_kind (c : Nat) : Nat ⊕ (Nat × Bool) := ex_kinds.getD c (.inl 0)
def ex_rf (c k : Nat) : Option Nat := (ex_rfs.getD c []).getD k none
def ex_nf (ci : Nat) : Nat := ex_nfs.getD ci 0
def ex_fv (ad : Nat → Nat) (c k : Nat) (f : Nat → Int32) : Value := match ex_rf c k with
  | some j => .ref (ad j)
  | none => .int (f k)
def ex_ent (ad : Nat → Nat) (cI cZ : ClassId) (c : Nat) (f : Nat → Int32) : va_E := match ex_kind c with
  | .inl ci => .inr (ci, (List.range (ex_nf ci)).map (fun k => ex_fv ad c k f))
  | .inr (n, b) => .inl (cond b cZ cI, n, .inl f)
def ex_cells (ad : Nat → Nat) (cI cZ : ClassId) (w : ex_WW) : va_W := (List.range 42).map (fun c => (ad c, ex_ent ad cI cZ c (w c)))
def ex_up (w : ex_WW) (c k : Nat) (x : Int32) : ex_WW := fun i => if i = c then upd (w c) k x else w i
def ex_upf (w : ex_WW) (c : Nat) (f : Nat → Int32) : ex_WW := fun i => if i = c then f else w i
theorem ex_up_eq (w : ex_WW) (c k : Nat) (x : Int32) : ex_up w c k x = ex_upf w c (upd (w c) k x) := rfl
theorem ex_cells_at (ad : Nat → Nat) (cI cZ : ClassId) (w : ex_WW) {c : Nat} (h : c < 42) : (ex_cells ad cI cZ w)[c]? = some (ad c, ex_ent ad cI cZ c (w c)) := by
  simp [ex_cells, List.getElem?_map, List.getElem?_range h]
theorem ex_cells_set (ad : Nat → Nat) (cI cZ : ClassId) (w : ex_WW) {c : Nat} (h : c < 42) (f : Nat → Int32) : (ex_cells ad cI cZ w).set c (ad c, ex_ent ad cI cZ c f) = ex_cells ad cI cZ (ex_upf w c f) := by
  apply List.ext_getElem?
  intro i
  by_cases hi : i = c
  · subst hi
    rw [ex_cells_at _ _ _ _ h, List.getElem?_set_self (by simpa [ex_cells] using h)]
    simp [ex_upf]
  · rw [List.getElem?_set_ne (fun q => hi q.symm)]
    by_cases h2 : i < 42
    · rw [ex_cells_at _ _ _ _ h2, ex_cells_at _ _ _ _ h2]
      simp [ex_upf, hi]
    · rw [List.getElem?_eq_none (by simp [ex_cells]; omega), List.getElem?_eq_none (by simp [ex_cells]; omega)]
theorem ex_ent_arr {ad : Nat → Nat} {cI cZ : ClassId} {c n : Nat} {b : Bool} (f : Nat → Int32) (h : ex_kind c = .inr (n, b)) : ex_ent ad cI cZ c f = .inl (cond b cZ cI, n, .inl f) := by
  unfold ex_ent
  rw [h]
theorem ex_ent_obj {ad : Nat → Nat} {cI cZ : ClassId} {c ci : Nat} (f : Nat → Int32) (h : ex_kind c = .inl ci) : ex_ent ad cI cZ c f = .inr (ci, (List.range (ex_nf ci)).map (fun k => ex_fv ad c k f)) := by
  unfold ex_ent
  rw [h]
theorem ex_fs_set {ad : Nat → Nat} {c k N : Nat} (f : Nat → Int32) (x : Int32) (hr : ex_rf c k = none) : ((List.range N).map (fun k => ex_fv ad c k f)).set k (.int x) = (List.range N).map (fun j => ex_fv ad c j (upd f k x)) := by
  apply List.ext_getElem?
  intro i
  by_cases hN : i < N
  · by_cases hi : i = k
    · subst hi
      rw [List.getElem?_set_self (by simpa using hN)]
      simp [List.getElem?_map, List.getElem?_range hN, ex_fv, hr, upd]
    · rw [List.getElem?_set_ne (fun q => hi q.symm)]
      simp only [List.getElem?_map, List.getElem?_range hN, Option.map_some, ex_fv]
      cases ex_rf c i <;> simp [upd, hi]
  · rw [List.getElem?_eq_none (by simp; omega), List.getElem?_eq_none (by simp; omega)]
def ex_A (ad : Nat → Nat) : Nat → Prop := fun q => ∃ c, c < 42 ∧ q = ad c
def ex_inj (ad : Nat → Nat) : Prop := ∀ i j, i < 42 → j < 42 → ad i = ad j → i = j
theorem ex_cells_mem {ad : Nat → Nat} {cI cZ : ClassId} {w : ex_WW} {k : Nat} {q : Nat × va_E} (h : (ex_cells ad cI cZ w)[k]? = some q) : k < 42 ∧ q = (ad k, ex_ent ad cI cZ k (w k)) := by
  have hk : k < 42 := by
    have := (List.getElem?_eq_some_iff.mp h).1
    simpa [ex_cells] using this
  rw [ex_cells_at _ _ _ _ hk] at h
  exact ⟨hk, (Option.some.inj h).symm⟩
theorem ex_cells_D {ad : Nat → Nat} {cI cZ : ClassId} {w : ex_WW} (hi : ex_inj ad) : va_D (ex_A ad) (ex_cells ad cI cZ w) := by
  refine ⟨fun i j p q h1 h2 h3 => ?_, fun k q h => ?_⟩
  · obtain ⟨a1, a2⟩ := ex_cells_mem h1
    obtain ⟨b1, b2⟩ := ex_cells_mem h2
    subst a2
    subst b2
    exact hi i j a1 b1 h3
  · obtain ⟨a1, a2⟩ := ex_cells_mem h
    exact ⟨k, a1, by rw [a2]⟩
-- locals
def ex_lv (ad : Nat → Nat) (ls : List (Option ex_AV)) : List (Nat × Value) := (List.range ls.length).filterMap (fun j => match ls[j]? with
  | some (some x) => some (j, ex_tr ad x)
  | _ => none)
theorem ex_lv_mem {ad : Nat → Nat} {ls : List (Option ex_AV)} {q : Nat × Value} : q ∈ ex_lv ad ls ↔ ∃ x, ls[q.1]? = some (some x) ∧ q.2 = ex_tr ad x := by
  unfold ex_lv
  rw [List.mem_filterMap]
  constructor
  · rintro ⟨j, hj, h⟩
    split at h
    · next x hx =>
      cases h
      exact ⟨x, hx, rfl⟩
    · cases h
  · rintro ⟨x, hx, he⟩
    refine ⟨q.1, List.mem_range.mpr (List.getElem?_eq_some_iff.mp hx).1, ?_⟩
    rw [hx]
    simp only
    rw [← he]
theorem ex_tr_cat (ad : Nat → Nat) (x : ex_AV) : (ex_tr ad x).category = 1 := by cases x <;> rfl
theorem ex_lv_get {ad : Nat → Nat} {a : Array Slot} {n : Nat} {ls : List (Option ex_AV)} (h : lv_has a n (ex_lv ad ls)) {j : Nat} {x : ex_AV} (hx : ls[j]? = some (some x)) : a[j]? = some (.val (ex_tr ad x)) := h.2.2 (j, ex_tr ad x) (ex_lv_mem.mpr ⟨x, hx, rfl⟩)
theorem ex_lv_store {ad : Nat → Nat} {a : Array Slot} {n i : Nat} {ls : List (Option ex_AV)} {x : ex_AV} (h : lv_has a n ((i, ex_tr ad x) :: (ex_lv ad ls).filter (fun q => !(q.1 == i) && !(q.1 + 1 == i && q.2.category == 2)))) : lv_has a n (ex_lv ad (ls.set i (some x))) := by
  refine ⟨h.1, h.2.1, fun q hq => ?_⟩
  obtain ⟨y, hy, he⟩ := ex_lv_mem.mp hq
  by_cases hj : q.1 = i
  · have hlt : q.1 < ls.length := by
      have := (List.getElem?_eq_some_iff.mp hy).1
      simpa using this
    have hi : i < ls.length := by omega
    rw [hj, List.getElem?_set_self hi] at hy
    cases hy
    have := h.2.2 (i, ex_tr ad x) List.mem_cons_self
    rw [he, hj]
    exact this
  · rw [List.getElem?_set_ne (fun z => hj z.symm)] at hy
    refine h.2.2 q (List.mem_cons_of_mem _ (List.mem_filter.mpr ⟨ex_lv_mem.mpr ⟨y, hy, he⟩, ?_⟩))
    rw [he, ex_tr_cat]
    simp [hj]
-- the words that every method's contract takes, its room
def ex_T : List Cond := lw_tbl.filter goodWord
def ex_ws (M : ex_MD) : List Cond := .code M.1 M.2.1 M.2.2.1 M.2.2.2 :: ex_T
def ex_room (d : Nat) : Room := { frames := d, cells := 0, slots := 0, locals := 60 * d }
theorem ex_T_good : ∀ w ∈ ex_T, w ∈ lw_tbl ∧ ((w.onTables && w.keeps) = true ∨ ∃ ty, w = .arrayClass ty) := fun w h => ⟨(List.mem_filter.mp h).1, good_of_word (List.mem_filter.mp h).2⟩
theorem ex_ws_in {big : List Cond} {M : ex_MD} (hb : ∀ w ∈ ex_T, w ∈ big) (hc : Cond.code M.1 M.2.1 M.2.2.1 M.2.2.2 ∈ ex_T) : GoodIn big (ex_ws M) := by
  intro w hw
  have h : w ∈ ex_T := by
    rcases List.mem_cons.mp hw with h | h
    · rw [h]; exact hc
    · exact h
  exact ⟨hb w h, (ex_T_good w h).2⟩
theorem ex_mem {w : Cond} (i : Nat) (h : lw_tbl[i]? = some w) (hg : goodWord w = true) : w ∈ ex_T := List.mem_filter.mpr ⟨List.mem_of_getElem? h, hg⟩
-- a method's start, its end, its walk
def ex_K (D : va_G) (cI cZ : ClassId) (U : State) : Prop := va_K D ex_cl [(cI, .int), (cZ, .boolean)] U ∧ va_Nw (.methodLinkNest RX4 24 yX6_isWithin RX6) U
theorem ex_K.moved {D : va_G} {cI cZ : ClassId} {u U : State} (h : ex_K D cI cZ u) (hW : u.WarmedH U.vm) : ex_K D cI cZ U := ⟨va_K.moved hW.alike h.1, va_Nw.warmM hW h.2⟩
def ex_B (ad : Nat → Nat) (D : va_G) (cI cZ : ClassId) (u : ex_WW) (t : State) : Prop := va_P D ex_cl (ex_cells ad cI cZ u) t.heap
def ex_Q (M : ex_MD) (ad : Nat → Nat) (D : va_G) (cI cZ : ClassId) (P : Int32 → ex_WW → Prop) : Array Value → State → Outcome → State → Prop := match M.2.2.2 with
  | none => va_Qv (fun u => P 0 u) (ex_B ad D cI cZ) (ex_A ad)
  | some _ => va_Qi P (ex_B ad D cI cZ) (ex_A ad)
def ex_C (M : ex_MD) (p : Program) (s : State) (m : MethodId) (args : Array Value) (meth : Method) (c : Code) (ad : Nat → Nat) (D : va_G) (cI cZ : ClassId) : Prop :=
  p.tables.exec = Jvm.exec ∧ c.code = M.2.1 ∧ c.maxLocals = M.2.2.1 ∧ meth.sig.returnType = M.2.2.2 ∧ meth.locks = false ∧ s.vm.findClass M.1.cls = some m.cls ∧ (∀ w ∈ ex_ws M, w.before args s = true) ∧ ex_K D cI cZ s ∧ ex_inj ad
def ex_Ev (d : Nat) (M : ex_MD) (pc : Nat) (ls : List (Option ex_AV)) (st : List ex_AV) (w : ex_WW) (P : Int32 → ex_WW → Prop) : Prop :=
  ∀ (p : Program) (l : Launch) (e : Env) (s : State) (m : MethodId) (args : Array Value) (below : List Frame) (meth : Method) (c : Code) (H : Heap) (locs : List Loc) (ad : Nat → Nat) (D : va_G) (cI cZ : ClassId) (a : Array Slot),
    ex_C M p s m args meth c ad D cI cZ → va_P D ex_cl (ex_cells ad cI cZ w) H → va_S (ex_A ad) s.heap H locs → lv_has a M.2.2.1 (ex_lv ad ls) →
    W p l e (ex_room d) s m args below meth c H locs 0 0 (MQ below (ex_Q M ad D cI cZ P) args s 0 0 (ex_A ad)) (F0 m pc a (st.map (ex_tr ad)))
