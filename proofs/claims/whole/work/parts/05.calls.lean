-- calls: a method's walk is its contract
def ex_in (As : List ex_AV) (n : Nat) : List (Option ex_AV) := As.map some ++ List.replicate (n - As.length) none
theorem ex_sl (ad : Nat → Nat) (As : List ex_AV) : lg_sl (As.map (ex_tr ad)) = As.map (fun x => Slot.val (ex_tr ad x)) := by
  induction As with
  | nil => rfl
  | cons x r ih =>
    unfold lg_sl at ih ⊢
    rw [List.map_cons, List.flatMap_cons, ih, ex_tr_cat]
    rfl
theorem ex_args (ad : Nat → Nat) (As : List ex_AV) : ∀ (i j : Nat) (x : ex_AV), As[j]? = some x → (i + j, ex_tr ad x) ∈ lv_args i (As.map (ex_tr ad)) := by
  induction As with
  | nil => intro i j x h; simp at h
  | cons y r ih =>
    intro i j x h
    rw [List.map_cons]
    unfold lv_args
    rw [ex_tr_cat]
    cases j with
    | zero =>
      simp at h
      subst h
      exact List.mem_cons_self
    | succ j =>
      simp at h
      have := ih (i + 1) j x h
      refine List.mem_cons_of_mem _ ?_
      simpa [Nat.add_assoc, Nat.add_comm 1 j] using this
theorem ex_entry (ad : Nat → Nat) (As : List ex_AV) {n : Nat} (h : As.length ≤ n) : lv_has ((lg_sl (As.map (ex_tr ad)) ++ List.replicate (n - (lg_sl (As.map (ex_tr ad))).length) Slot.unset).toArray) n (ex_lv ad (ex_in As n)) := by
  have h0 := lv_entry (As.map (ex_tr ad)) (n := n) (by rw [ex_sl]; simpa using h)
  refine ⟨h0.1, h0.2.1, fun q hq => ?_⟩
  obtain ⟨x, hx, he⟩ := ex_lv_mem.mp hq
  obtain ⟨j, v⟩ := q
  simp only at hx he
  subst he
  unfold ex_in at hx
  have hA : As[j]? = some x := by
    by_cases hj : j < As.length
    · rw [List.getElem?_append_left (by simpa using hj)] at hx
      simpa using hx
    · rw [List.getElem?_append_right (by simpa using Nat.le_of_not_lt hj)] at hx
      have := List.mem_of_getElem? hx
      simp at this
  have := ex_args ad As 0 j x hA
  rw [Nat.zero_add] at this
  exact h0.2.2 _ this
def ex_Pc (ad : Nat → Nat) (D : va_G) (cI cZ : ClassId) (w : ex_WW) (As : List ex_AV) : Array Value → State → Prop := va_Pc (As.map (ex_tr ad)) (fun U => va_P D ex_cl (ex_cells ad cI cZ w) U.heap ∧ ex_K D cI cZ U)
theorem ex_met {l : Launch} {d : Nat} {M : ex_MD} {As : List ex_AV} {w : ex_WW} {P : Int32 → ex_WW → Prop} {ad : Nat → Nat} {D : va_G} {cI cZ : ClassId} (hp : plainFor M.1 = true) (hn : As.length ≤ M.2.2.1) (hi : ex_inj ad) (h : ex_Ev d M 0 (ex_in As M.2.2.1) [] w P) :
    Met l M.1 (ex_ws M) (ex_room d) (ex_Pc ad D cI cZ w As) (ex_Q M ad D cI cZ P) 0 0 (ex_A ad) := by
  refine MetFree.of_bodySF (code := M.2.1) (maxLocals := M.2.2.1) (ret := M.2.2.2) hp ?_ ?_
  · intro args s m h hn
    obtain ⟨meth, c, h1, h2, h3, h4, h5, h6, -, -⟩ := Cond.code_spec hn (atoms_spec (ws := ex_ws M) h _ List.mem_cons_self)
    exact ⟨meth, c, h1, h2, h3, h4, h5, h6⟩
  · intro p e s m args below meth c s₁ B hml hv _
    have hh0 : s₁.heap = s.heap := by rw [B.state]; rfl
    obtain ⟨rfl, hP, hK⟩ := hv
    have key := h p l e s m _ below meth c s.heap [] ad D cI cZ _ ⟨B.exec, B.bytes, hml, B.returns, B.notSynchronized, findClass_of_methodNamed B.named, atoms_spec (ws := ex_ws M) B.pre, hK, hi⟩ hP va_S.rf (ex_entry ad As hn)
    obtain ⟨t, a1, o, b1, b2, b3⟩ := key s₁ hh0 (Stand.of_body B)
    rw [lg_entry_eq]
    exact ⟨t, o, a1, b1, b2, ⟨b3.1, b3.2⟩⟩
theorem ex_blind {ad : Nat → Nat} {D : va_G} {cI cZ : ClassId} {w : ex_WW} {As : List ex_AV} : FrameBlind (ex_Pc ad D cI cZ w As) := by
  intro a U g mk q
  obtain ⟨q0, qP, qK, qN⟩ := q
  exact ⟨q0, qP, va_K.moved (u := U) (U := U.calling g mk a) (Vm.Alike.refl U.vm) qK, va_Nw.same rfl rfl qN⟩
/-- what a call needs of the tables -/
def ex_CO (M' : ex_MD) (n : Nat) : Prop := plainFor M'.1 = true ∧ Cond.initialized M'.1.cls ∈ ex_T ∧ Cond.code M'.1 M'.2.1 M'.2.2.1 M'.2.2.2 ∈ ex_T ∧ (M'.1.cls ≠ "java/lang/invoke/MethodHandle" ∧ M'.1.cls ≠ "java/lang/invoke/VarHandle" ∧ (parseMethodDescriptor M'.1.desc).map (fun d => d.parameters.length) = some n) ∧ M'.2.2.1 ≤ 41
theorem ex_cats (ad : Nat → Nat) (st : List ex_AV) : ((st.map (ex_tr ad)).map fun v => v.category).sum = st.length := by
  induction st with
  | nil => rfl
  | cons x r ih =>
    rw [List.map_cons, List.map_cons, List.sum_cons, ih, ex_tr_cat, List.length_cons]
    omega
theorem ex_callB {d n i : Nat} {s : State} {args : Array Value} {M M' : ex_MD} (hts : ∀ w ∈ ex_ws M, w.before args s = true) (hc : ex_CO M' n) (hl : Cond.methodLink M.1.cls i M'.1 ∈ ex_T) : CallB (ex_room (d + 1)) s args M.1.cls i M'.1 M'.2.1 M'.2.2.1 M'.2.2.2 (ex_ws M') (ex_room d) 0 0 n := by
  obtain ⟨h1, h2, h3, h4, h5⟩ := hc
  refine callB_of (Ts := ex_ws M) n hts (ex_ws_in (fun w h => List.mem_cons_of_mem _ h) h3) rfl rfl rfl (hts _ (List.mem_cons_of_mem _ h2)) (hts _ (List.mem_cons_of_mem _ hl)) h4 ⟨Nat.le_refl _, ?_⟩
  show 8 + (M'.2.2.1 + 11) + 60 * d ≤ 60 * (d + 1)
  omega
theorem ex_preS {ad : Nat → Nat} {D : va_G} {cI cZ : ClassId} {w : ex_WW} {As : List ex_AV} {s : State} {H : Heap} (hP : va_P D ex_cl (ex_cells ad cI cZ w) H) (hK : ex_K D cI cZ s) : PreS s H (ex_Pc ad D cI cZ w As) (As.map (ex_tr ad)) :=
  ⟨ex_blind, fun U hU hW => ⟨rfl, by rw [hU]; exact hP, hK.moved hW⟩⟩
section EVC
variable {d : Nat} {M M' : ex_MD} {pc n i : Nat} {ls : List (Option ex_AV)} {st : List ex_AV} {w : ex_WW} {P P' : Int32 → ex_WW → Prop}
theorem ex_goI {p : Program} {l : Launch} {e : Env} {s : State} {m : MethodId} {args : Array Value} {below : List Frame} {meth : Method} {c : Code} {H : Heap} {locs : List Loc} {ad : Nat → Nat} {D : va_G} {cI cZ : ClassId} {a : Array Slot} {st0 : List Value} {ty : FieldType} {av : Array Value} (hr : M'.2.2.2 = some ty)
    (C : ex_C M p s m args meth c ad D cI cZ) (hS : va_S (ex_A ad) s.heap H locs) (hl : lv_has a M.2.2.1 (ex_lv ad ls))
    (hR : va_Run p l e (ex_room d) s m args below meth c H locs 0 0 0 0 (F0 m pc a st0) (st.map (ex_tr ad)) (ex_Q M' ad D cI cZ P' av) (ex_A ad)) (k : ∀ r u, P' r u → ex_Ev d M (pc + 3) ls (.inl r :: st) u P) :
    W p l e (ex_room d) s m args below meth c H locs 0 0 (MQ below (ex_Q M ad D cI cZ P) args s 0 0 (ex_A ad)) (F0 m pc a st0) := by
  have hQ : ex_Q M' ad D cI cZ P' = va_Qi P' (ex_B ad D cI cZ) (ex_A ad) := by unfold ex_Q; rw [hr]
  rw [hQ] at hR
  refine va_calli hR hS (fun _ _ h => h) (fun _ h => h) (fun r u t H1 locs1 ht hvm hp hB hz hk hS1 => ?_)
  unfold ex_B at hB
  rw [ht] at hB
  exact k r u hp p l e s m args below meth c H1 locs1 ad D cI cZ a C hB hS1 hl
theorem ex_goV {p : Program} {l : Launch} {e : Env} {s : State} {m : MethodId} {args : Array Value} {below : List Frame} {meth : Method} {c : Code} {H : Heap} {locs : List Loc} {ad : Nat → Nat} {D : va_G} {cI cZ : ClassId} {a : Array Slot} {st0 : List Value} {av : Array Value} (hr : M'.2.2.2 = none)
    (C : ex_C M p s m args meth c ad D cI cZ) (hS : va_S (ex_A ad) s.heap H locs) (hl : lv_has a M.2.2.1 (ex_lv ad ls))
    (hR : va_Run p l e (ex_room d) s m args below meth c H locs 0 0 0 0 (F0 m pc a st0) (st.map (ex_tr ad)) (ex_Q M' ad D cI cZ P' av) (ex_A ad)) (k : ∀ u, P' 0 u → ex_Ev d M (pc + 3) ls st u P) :
    W p l e (ex_room d) s m args below meth c H locs 0 0 (MQ below (ex_Q M ad D cI cZ P) args s 0 0 (ex_A ad)) (F0 m pc a st0) := by
  have hQ : ex_Q M' ad D cI cZ P' = va_Qv (fun u => P' 0 u) (ex_B ad D cI cZ) (ex_A ad) := by unfold ex_Q; rw [hr]
  rw [hQ] at hR
  refine va_callv hR hS (fun _ _ h => h) (fun _ h => h) (fun u t H1 locs1 ht hvm hp hB hz hk hS1 => ?_)
  unfold ex_B at hB
  rw [ht] at hB
  exact k u hp p l e s m args below meth c H1 locs1 ad D cI cZ a C hB hS1 hl
theorem ex_runS {As : List ex_AV} {p : Program} {l : Launch} {e : Env} {s : State} {m : MethodId} {args : Array Value} {below : List Frame} {meth : Method} {c : Code} {H : Heap} {locs : List Loc} {ad : Nat → Nat} {D : va_G} {cI cZ : ClassId} {a : Array Slot}
    (hd : decode M.2.1 pc = .ok (.invokestatic i, 3)) (hc : ex_CO M' n) (hl : Cond.methodLink M.1.cls i M'.1 ∈ ex_T) (hs : Cond.static M'.1 ∈ ex_T) (hn : As.length = n) (hm : n ≤ M'.2.2.1) (hst : st.length ≤ 8)
    (C : ex_C M p s m args meth c ad D cI cZ) (hP : va_P D ex_cl (ex_cells ad cI cZ w) H) (hlv : lv_has a M.2.2.1 (ex_lv ad ls)) (h : ex_Ev d M' 0 (ex_in As M'.2.2.1) [] w P') :
    va_Run p l e (ex_room (d + 1)) s m args below meth c H locs 0 0 0 0 (F0 m pc a ((As.reverse ++ st).map (ex_tr ad))) (st.map (ex_tr ad)) (ex_Q M' ad D cI cZ P' (As.map (ex_tr ad)).toArray) (ex_A ad) := by
  obtain ⟨hx, hb, hml, hr, hlk, hown, hts, hK, hi⟩ := C
  refine va_runS (As := As.map (ex_tr ad)) (Ts := ex_ws M) ⟨hx, hb, hml, hown, hts⟩ (ex_met hc.1 (by omega) hi h) ⟨ex_callB (n := n) hts hc hl, hts _ (List.mem_cons_of_mem _ hs)⟩ (ex_preS hP hK) rfl (by simpa using hn) hlv.1 ?_ (lv_room (by rw [ex_cats]; exact hst)) hd ⟨Nat.le_refl _, Nat.le_refl _⟩
  show (As.reverse ++ st).map (ex_tr ad) = _
  simp
theorem ex_runSN {As : List ex_AV} {p : Program} {l : Launch} {e : Env} {s : State} {m : MethodId} {args : Array Value} {below : List Frame} {meth : Method} {c : Code} {H : Heap} {locs : List Loc} {ad : Nat → Nat} {D : va_G} {cI cZ : ClassId} {a : Array Slot}
    (hd : decode M.2.1 pc = .ok (.invokestatic i, 3)) (hc : ex_CO M' n) (hl : M.1.cls = RX4 ∧ i = 24 ∧ M'.1 = yX6_isWithin) (hs : Cond.static M'.1 ∈ ex_T) (hn : As.length = n) (hm : n ≤ M'.2.2.1) (hst : st.length ≤ 8)
    (C : ex_C M p s m args meth c ad D cI cZ) (hP : va_P D ex_cl (ex_cells ad cI cZ w) H) (hlv : lv_has a M.2.2.1 (ex_lv ad ls)) (h : ex_Ev d M' 0 (ex_in As M'.2.2.1) [] w P') :
    va_Run p l e (ex_room (d + 1)) s m args below meth c H locs 0 0 0 0 (F0 m pc a ((As.reverse ++ st).map (ex_tr ad))) (st.map (ex_tr ad)) (ex_Q M' ad D cI cZ P' (As.map (ex_tr ad)).toArray) (ex_A ad) := by
  obtain ⟨hx, hb, hml, hr, hlk, hown, hts, hK, hi⟩ := C
  have hcn : va_CN (ex_room (d + 1)) s args M.1.cls i M'.1 RX6 M'.2.1 M'.2.2.1 M'.2.2.2 (ex_ws M') (ex_room d) 0 0 n := by
    obtain ⟨h1, h2, h3, h4, h5⟩ := hc
    refine va_cnB (Ts := ex_ws M) n hts (ex_ws_in (fun w h => List.mem_cons_of_mem _ h) h3) rfl rfl rfl ?_ (hts _ (List.mem_cons_of_mem _ h2)) h4 ⟨Nat.le_refl _, ?_⟩
    · rw [hl.1, hl.2.1, hl.2.2]
      exact hK.2
    · show 8 + (M'.2.2.1 + 11) + 60 * d ≤ 60 * (d + 1)
      omega
  refine va_runSN (As := As.map (ex_tr ad)) (Ts := ex_ws M) ⟨hx, hb, hml, hown, hts⟩ (ex_met hc.1 (by omega) hi h) ⟨hcn, hts _ (List.mem_cons_of_mem _ hs), trivial⟩ (ex_preS hP hK) rfl (by simpa using hn) hlv.1 ?_ (lv_room (by rw [ex_cats]; exact hst)) hd ⟨Nat.le_refl _, Nat.le_refl _⟩
  show (As.reverse ++ st).map (ex_tr ad) = _
  simp
def ex_CV (C : String) (y : MethodName) : Prop := Cond.instanceMethod y ∈ ex_T ∧ Cond.selects C y y ∈ ex_T
theorem ex_runV {As : List ex_AV} {b ci : Nat} {p : Program} {l : Launch} {e : Env} {s : State} {m : MethodId} {args : Array Value} {below : List Frame} {meth : Method} {c : Code} {H : Heap} {locs : List Loc} {ad : Nat → Nat} {D : va_G} {cI cZ : ClassId} {a : Array Slot}
    (hd : decode M.2.1 pc = .ok (.invokevirtual i, 3)) (hc : ex_CO M' n) (hl : Cond.methodLink M.1.cls i M'.1 ∈ ex_T) (hv : ex_CV M'.1.cls M'.1) (hbc : b < 42) (hbk : ex_kind b = .inl ci) (hcl : (ex_cl[ci]?).map (fun q => q.1) = some M'.1.cls) (hn : As.length = n) (hm : n + 1 ≤ M'.2.2.1) (hst : st.length ≤ 8)
    (C : ex_C M p s m args meth c ad D cI cZ) (hP : va_P D ex_cl (ex_cells ad cI cZ w) H) (hlv : lv_has a M.2.2.1 (ex_lv ad ls)) (h : ex_Ev d M' 0 (ex_in (.inr b :: As) M'.2.2.1) [] w P') :
    va_Run p l e (ex_room (d + 1)) s m args below meth c H locs 0 0 0 0 (F0 m pc a ((As.reverse ++ .inr b :: st).map (ex_tr ad))) (st.map (ex_tr ad)) (ex_Q M' ad D cI cZ P' ((.inr b :: As : List ex_AV).map (ex_tr ad)).toArray) (ex_A ad) := by
  obtain ⟨hx, hb, hml, hr, hlk, hown, hts, hK, hi⟩ := C
  have he := ex_cells_at ad cI cZ w hbc
  rw [ex_ent_obj _ hbk] at he
  obtain ⟨q, hq, hq1⟩ := Option.map_eq_some_iff.mp hcl
  have hrec := va_recv hK.1 hP hq he
  rw [hq1] at hrec
  refine va_runV (As := As.map (ex_tr ad)) (b := ad b) (C := M'.1.cls) (Ts := ex_ws M) ⟨hx, hb, hml, hown, hts⟩ (ex_met (As := .inr b :: As) hc.1 (by simp; omega) hi h) ⟨ex_callB (n := n) hts hc hl, hts _ (List.mem_cons_of_mem _ hv.1), hts _ (List.mem_cons_of_mem _ hv.2)⟩ ⟨ex_blind, hrec, fun U hU hW => ⟨rfl, by rw [hU]; exact hP, hK.moved hW⟩⟩ rfl (by simpa using hn) hlv.1 ?_ (lv_room (by rw [ex_cats]; exact hst)) hd ⟨Nat.le_refl _, Nat.le_refl _⟩
  show (As.reverse ++ .inr b :: st).map (ex_tr ad) = _
  simp [ex_tr]
/-- the calls, an answer that is a number -/
theorem ev_callS {ty : FieldType} (As : List ex_AV) {st0 : List ex_AV} (hd : decode M.2.1 pc = .ok (.invokestatic i, 3)) (hc : ex_CO M' n) (hl : Cond.methodLink M.1.cls i M'.1 ∈ ex_T) (hs : Cond.static M'.1 ∈ ex_T) (hr : M'.2.2.2 = some ty) (hn : As.length = n) (hm : n ≤ M'.2.2.1) (hst : st.length ≤ 8) (h0 : st0 = As.reverse ++ st)
    (h : ex_Ev d M' 0 (ex_in As M'.2.2.1) [] w P') (k : ∀ r u, P' r u → ex_Ev (d + 1) M (pc + 3) ls (.inl r :: st) u P) : ex_Ev (d + 1) M pc ls st0 w P := by
  subst h0
  intro p l e s m args below meth c H locs ad D cI cZ a C hP hS hlv
  exact ex_goI hr C hS hlv (ex_runS hd hc hl hs hn hm hst C hP hlv h) k
theorem ev_callSN {ty : FieldType} (As : List ex_AV) {st0 : List ex_AV} (hd : decode M.2.1 pc = .ok (.invokestatic i, 3)) (hc : ex_CO M' n) (hl : M.1.cls = RX4 ∧ i = 24 ∧ M'.1 = yX6_isWithin) (hs : Cond.static M'.1 ∈ ex_T) (hr : M'.2.2.2 = some ty) (hn : As.length = n) (hm : n ≤ M'.2.2.1) (hst : st.length ≤ 8) (h0 : st0 = As.reverse ++ st)
    (h : ex_Ev d M' 0 (ex_in As M'.2.2.1) [] w P') (k : ∀ r u, P' r u → ex_Ev (d + 1) M (pc + 3) ls (.inl r :: st) u P) : ex_Ev (d + 1) M pc ls st0 w P := by
  subst h0
  intro p l e s m args below meth c H locs ad D cI cZ a C hP hS hlv
  exact ex_goI hr C hS hlv (ex_runSN hd hc hl hs hn hm hst C hP hlv h) k
theorem ev_callV {ty : FieldType} {ci : Nat} (b : Nat) (As : List ex_AV) {st0 : List ex_AV} (hd : decode M.2.1 pc = .ok (.invokevirtual i, 3)) (hc : ex_CO M' n) (hl : Cond.methodLink M.1.cls i M'.1 ∈ ex_T) (hv : ex_CV M'.1.cls M'.1) (hbc : b < 42) (hbk : ex_kind b = .inl ci) (hcl : (ex_cl[ci]?).map (fun q => q.1) = some M'.1.cls) (hr : M'.2.2.2 = some ty) (hn : As.length = n) (hm : n + 1 ≤ M'.2.2.1) (hst : st.length ≤ 8) (h0 : st0 = As.reverse ++ .inr b :: st)
    (h : ex_Ev d M' 0 (ex_in (.inr b :: As) M'.2.2.1) [] w P') (k : ∀ r u, P' r u → ex_Ev (d + 1) M (pc + 3) ls (.inl r :: st) u P) : ex_Ev (d + 1) M pc ls st0 w P := by
  subst h0
  intro p l e s m args below meth c H locs ad D cI cZ a C hP hS hlv
  exact ex_goI hr C hS hlv (ex_runV hd hc hl hv hbc hbk hcl hn hm hst C hP hlv h) k
/-- the call, no answer -/
theorem ev_callVv {ci : Nat} (b : Nat) (As : List ex_AV) {st0 : List ex_AV} (hd : decode M.2.1 pc = .ok (.invokevirtual i, 3)) (hc : ex_CO M' n) (hl : Cond.methodLink M.1.cls i M'.1 ∈ ex_T) (hv : ex_CV M'.1.cls M'.1) (hbc : b < 42) (hbk : ex_kind b = .inl ci) (hcl : (ex_cl[ci]?).map (fun q => q.1) = some M'.1.cls) (hr : M'.2.2.2 = none) (hn : As.length = n) (hm : n + 1 ≤ M'.2.2.1) (hst : st.length ≤ 8) (h0 : st0 = As.reverse ++ .inr b :: st)
    (h : ex_Ev d M' 0 (ex_in (.inr b :: As) M'.2.2.1) [] w P') (k : ∀ u, P' 0 u → ex_Ev (d + 1) M (pc + 3) ls st u P) : ex_Ev (d + 1) M pc ls st0 w P := by
  subst h0
  intro p l e s m args below meth c H locs ad D cI cZ a C hP hS hlv
  exact ex_goV hr C hS hlv (ex_runV hd hc hl hv hbc hbk hcl hn hm hst C hP hlv h) k
theorem ev_copy {c0 c1 n0 n1 : Nat} {sp dp k : Int32} (hd : decode M.2.1 pc = .ok (.invokestatic i, 3)) (hl : Cond.methodLink M.1.cls i arraycopyName ∈ ex_T) (hw : Cond.native arraycopyName ∈ ex_T ∧ Cond.static arraycopyName ∈ ex_T ∧ Cond.initialized "java/lang/System" ∈ ex_T) (h0 : c0 < 42) (h1 : c1 < 42) (hk0 : ex_kind c0 = .inr (n0, false)) (hk1 : ex_kind c1 = .inr (n1, false))
    (g1 : ¬ sp < 0) (g2 : ¬ dp < 0) (g3 : ¬ k < 0) (g4 : sp.toNatClampNeg + k.toNatClampNeg ≤ n0) (g5 : dp.toNatClampNeg + k.toNatClampNeg ≤ n1) (hst : st.length ≤ 8)
    (kk : ex_Ev (d + 1) M (pc + 3) ls st (ex_upf w c1 (va_cpy (w c0) (w c1) sp.toNatClampNeg dp.toNatClampNeg k.toNatClampNeg)) P) : ex_Ev (d + 1) M pc ls (.inl k :: .inl dp :: .inr c1 :: .inl sp :: .inr c0 :: st) w P := by
  intro p l e s m args below meth c H locs ad D cI cZ a C hP hS hlv
  have he0 := ex_cells_at ad cI cZ w h0
  rw [ex_ent_arr _ hk0] at he0
  have he1 := ex_cells_at ad cI cZ w h1
  rw [ex_ent_arr _ hk1] at he1
  have hts := C.2.2.2.2.2.2.1
  refine va_copyi C.1 C.2.1 (C.2.2.1.trans hlv.1.symm) C.2.2.2.2.2.1 (hts _ (List.mem_cons_of_mem _ hl)) (hts _ (List.mem_cons_of_mem _ hw.1)) (hts _ (List.mem_cons_of_mem _ hw.2.1)) (hts _ (List.mem_cons_of_mem _ hw.2.2)) C.2.2.2.2.2.2.2.1.1 hP (ex_cells_D C.2.2.2.2.2.2.2.2) hS c0 c1 0 0 he0 he1 rfl rfl rfl g1 g2 g3 g4 g5 (fun _ _ => rfl) (Nat.succ_le_succ (Nat.zero_le _)) ?_ hd (fun H1 locs1 hP1 hD1 hS1 => ?_)
  · rw [ex_cats]
    have : nativeFrameWords "java/lang/System" "arraycopy" 5 + 11 ≤ 40 := by decide +kernel
    show st.length + _ ≤ 60 * (d + 1)
    omega
  · rw [← ex_ent_arr (ad := ad) (cI := cI) (cZ := cZ) _ hk1, ex_cells_set _ _ _ _ h1] at hP1
    exact kk p l e s m args below meth c H1 locs1 ad D cI cZ a C hP1 hS1 hlv
/-- switches -/
theorem ev_tableIn {dflt lo hi : Int} {offs : Array Int} {len : Nat} {x : Int32} {off : Int} (tgt : Nat) (hd : decode M.2.1 pc = .ok (.tableswitch dflt lo hi offs, len)) (h1 : ¬ x.toInt < lo) (h2 : ¬ hi < x.toInt) (ho : offs[(x.toInt - lo).toNat]? = some off) (ht : (pc : Int) + off = (tgt : Int)) (k : ex_Ev d M tgt ls st w P) : ex_Ev d M pc ls (.inl x :: st) w P :=
  fun p l e s m args below meth c H locs ad D cI cZ a C hP hS hl => lv_tableIn C.1 C.2.1 hd h1 h2 ho ht (k p l e s m args below meth c H locs ad D cI cZ a C hP hS hl)
theorem ev_tableOut {dflt lo hi : Int} {offs : Array Int} {len : Nat} {x : Int32} (tgt : Nat) (hd : decode M.2.1 pc = .ok (.tableswitch dflt lo hi offs, len)) (h : x.toInt < lo ∨ hi < x.toInt) (ht : (pc : Int) + dflt = (tgt : Int)) (k : ex_Ev d M tgt ls st w P) : ex_Ev d M pc ls (.inl x :: st) w P :=
  fun p l e s m args below meth c H locs ad D cI cZ a C hP hS hl => lv_tableOut C.1 C.2.1 hd h ht (k p l e s m args below meth c H locs ad D cI cZ a C hP hS hl)
theorem ev_lookup {dflt : Int} {ps : Array (Int × Int)} {len : Nat} {x : Int32} {off : Int} (tgt : Nat) (hd : decode M.2.1 pc = .ok (.lookupswitch dflt ps, len)) (hp : (ps.toList.zip (ps.toList.drop 1)).all (fun (a, next) => a.1 < next.1) = true) (ho : Op.lookupswitch.offset ps.toList dflt x.toInt = off) (ht : (pc : Int) + off = (tgt : Int)) (k : ex_Ev d M tgt ls st w P) : ex_Ev d M pc ls (.inl x :: st) w P :=
  fun p l e s m args below meth c H locs ad D cI cZ a C hP hS hl => lv_lookup C.1 C.2.1 hd hp ho ht (k p l e s m args below meth c H locs ad D cI cZ a C hP hS hl)
end EVC
