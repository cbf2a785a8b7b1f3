section LWR
variable {p : Program} {l : Launch} {e : Env} {s : State} {m : MethodId} {below : List Frame} {meth : Method} {c : Code} {b L : Nat} {xs : Nat → Int32} {ad : Nat → Nat} {D : va_G} {cI cZ : ClassId} {NC NS pc i : Nat} {x3 : Int32} {st : List Value} {w : ex_WW}
def lw_K (p : Program) (s : State) (m : MethodId) (meth : Method) (c : Code) (b L : Nat) (xs : Nat → Int32) (ad : Nat → Nat) (D : va_G) (cI cZ : ClassId) (NC NS : Nat) : Prop := lw_At p s m meth c b L xs ∧ L ≤ 3584 ∧ ex_K D cI cZ s ∧ ex_inj ad ∧ (∀ k, k < 42 → s.heap.size ≤ ad k) ∧ NC ≤ 600000 ∧ NS ≤ 7302250
def lw_Go (p : Program) (l : Launch) (e : Env) (s : State) (m : MethodId) (below : List Frame) (meth : Method) (c : Code) (b : Nat) (ad : Nat → Nat) (D : va_G) (cI cZ : ClassId) (NC NS : Nat) (pc : Nat) (x3 : Int32) (st : List Value) (w : ex_WW) : Prop :=
  ∀ (H : Heap) (locs : List Loc) (a : Array Slot), va_P D ex_cl (ex_cells ad cI cZ w) H → va_S (fun q : Nat => s.heap.size ≤ q) s.heap H locs → lv_has a 4 [(0, .ref b), (1, .ref (ad 0)), (2, .ref (ad 23)), (3, .int x3)] →
    W p l e room_1 s m #[Value.ref b] below meth c H locs NC NS (lw_Z below #[Value.ref b] s) (F0 m pc a st)
theorem lr_a0 (C : lw_K p s m meth c b L xs ad D cI cZ NC NS) (hd : decode code pc = .ok (.aload_n 0, 1)) (k : lw_Go p l e s m below meth c b ad D cI cZ NC NS (pc + 1) x3 (.ref b :: st) w) : lw_Go p l e s m below meth c b ad D cI cZ NC NS pc x3 st w :=
  fun H locs a hP hS hl => lv_aload_n C.1.1 C.1.2.1 hd rfl (lv_at hl 0 rfl) (k H locs a hP hS hl)
theorem lr_a1 (C : lw_K p s m meth c b L xs ad D cI cZ NC NS) (hd : decode code pc = .ok (.aload_n 1, 1)) (k : lw_Go p l e s m below meth c b ad D cI cZ NC NS (pc + 1) x3 (.ref (ad 0) :: st) w) : lw_Go p l e s m below meth c b ad D cI cZ NC NS pc x3 st w :=
  fun H locs a hP hS hl => lv_aload_n C.1.1 C.1.2.1 hd rfl (lv_at hl 1 rfl) (k H locs a hP hS hl)
theorem lr_a2 (C : lw_K p s m meth c b L xs ad D cI cZ NC NS) (hd : decode code pc = .ok (.aload_n 2, 1)) (k : lw_Go p l e s m below meth c b ad D cI cZ NC NS (pc + 1) x3 (.ref (ad 23) :: st) w) : lw_Go p l e s m below meth c b ad D cI cZ NC NS pc x3 st w :=
  fun H locs a hP hS hl => lv_aload_n C.1.1 C.1.2.1 hd rfl (lv_at hl 2 rfl) (k H locs a hP hS hl)
theorem lr_i3 (C : lw_K p s m meth c b L xs ad D cI cZ NC NS) (hd : decode code pc = .ok (.iload_n 3, 1)) (k : lw_Go p l e s m below meth c b ad D cI cZ NC NS (pc + 1) x3 (.int x3 :: st) w) : lw_Go p l e s m below meth c b ad D cI cZ NC NS pc x3 st w :=
  fun H locs a hP hS hl => lv_iload_n C.1.1 C.1.2.1 hd rfl (lv_at hl 3 rfl) (k H locs a hP hS hl)
theorem lr_con {n : Int} (v : Int32) (C : lw_K p s m meth c b L xs ad D cI cZ NC NS) (hd : decode code pc = .ok (.iconst n, 1)) (hv : Int32.ofInt n = v) (k : lw_Go p l e s m below meth c b ad D cI cZ NC NS (pc + 1) x3 (.int v :: st) w) : lw_Go p l e s m below meth c b ad D cI cZ NC NS pc x3 st w :=
  fun H locs a hP hS hl => lv_iconst C.1.1 C.1.2.1 hd hv (k H locs a hP hS hl)
theorem lr_bip {n : Int} (v : Int32) (C : lw_K p s m meth c b L xs ad D cI cZ NC NS) (hd : decode code pc = .ok (.bipush n, 2)) (hv : (Int8.ofInt n).toInt32 = v) (k : lw_Go p l e s m below meth c b ad D cI cZ NC NS (pc + 2) x3 (.int v :: st) w) : lw_Go p l e s m below meth c b ad D cI cZ NC NS pc x3 st w :=
  fun H locs a hP hS hl => lv_bipush C.1.1 C.1.2.1 hd hv (k H locs a hP hS hl)
theorem lr_add {x y : Int32} (C : lw_K p s m meth c b L xs ad D cI cZ NC NS) (hd : decode code pc = .ok (.iadd, 1)) (k : lw_Go p l e s m below meth c b ad D cI cZ NC NS (pc + 1) x3 (.int (x + y) :: st) w) : lw_Go p l e s m below meth c b ad D cI cZ NC NS pc x3 (.int y :: .int x :: st) w :=
  fun H locs a hP hS hl => lv_iadd C.1.1 C.1.2.1 hd (k H locs a hP hS hl)
theorem lr_sub {x y : Int32} (C : lw_K p s m meth c b L xs ad D cI cZ NC NS) (hd : decode code pc = .ok (.isub, 1)) (k : lw_Go p l e s m below meth c b ad D cI cZ NC NS (pc + 1) x3 (.int (x - y) :: st) w) : lw_Go p l e s m below meth c b ad D cI cZ NC NS pc x3 (.int y :: .int x :: st) w :=
  fun H locs a hP hS hl => lv_isub C.1.1 C.1.2.1 hd (k H locs a hP hS hl)
theorem lr_and {x y : Int32} (C : lw_K p s m meth c b L xs ad D cI cZ NC NS) (hd : decode code pc = .ok (.iand, 1)) (k : lw_Go p l e s m below meth c b ad D cI cZ NC NS (pc + 1) x3 (.int (x &&& y) :: st) w) : lw_Go p l e s m below meth c b ad D cI cZ NC NS pc x3 (.int y :: .int x :: st) w :=
  fun H locs a hP hS hl => lv_iand C.1.1 C.1.2.1 hd (k H locs a hP hS hl)
theorem lr_len (C : lw_K p s m meth c b L xs ad D cI cZ NC NS) (hd : decode code pc = .ok (.arraylength, 1)) (k : lw_Go p l e s m below meth c b ad D cI cZ NC NS (pc + 1) x3 (.int (nI L) :: st) w) : lw_Go p l e s m below meth c b ad D cI cZ NC NS pc x3 (.ref b :: st) w := by
  intro H locs a hP hS hl
  obtain ⟨hx, hb, hr, hml, hown, hts, hX, hbl, hlocks, hgv⟩ := C.1
  exact va_slen hx hb hX hbl (Nat.not_le.mpr hbl) hS hd (k H locs a hP hS hl)
theorem lr_ld {n : Nat} {x : Int32} (C : lw_K p s m meth c b L xs ad D cI cZ NC NS) (hx : x = nI n) (hn : n < L) (hd : decode code pc = .ok (.iaload, 1)) (k : lw_Go p l e s m below meth c b ad D cI cZ NC NS (pc + 1) x3 (.int (xs n) :: st) w) : lw_Go p l e s m below meth c b ad D cI cZ NC NS pc x3 (.int x :: .ref b :: st) w := by
  intro H locs a hP hS hl
  have hL := C.2.1
  obtain ⟨hx', hb, hr, hml, hown, hts, hX, hbl, hlocks, hgv⟩ := C.1
  subst hx
  refine va_sld hx' hb hX hbl (Nat.not_le.mpr hbl) hS (vp_in_nI hn (by omega)) hd ?_
  rw [nI_clamp (by omega)]
  exact k H locs a hP hS hl
theorem lr_arg (j : Nat) {n : Int} (C : lw_K p s m meth c b L xs ad D cI cZ NC NS) (hx3 : x3 = nI i) (hi : i + 7 ≤ L) (hj : j < 7) (hv : Int32.ofInt n = nI j) (h1 : decode code pc = .ok (.aload_n 0, 1)) (h2 : decode code (pc + 1) = .ok (.iload_n 3, 1)) (h3 : decode code (pc + 2) = .ok (.iconst n, 1)) (h4 : decode code (pc + 3) = .ok (.iadd, 1)) (h5 : decode code (pc + 4) = .ok (.iaload, 1))
    (k : lw_Go p l e s m below meth c b ad D cI cZ NC NS (pc + 5) x3 (.int (xs (i + j)) :: st) w) : lw_Go p l e s m below meth c b ad D cI cZ NC NS pc x3 st w :=
  lr_a0 C h1 (lr_i3 C h2 (lr_con _ C h3 hv (lr_add C h4 (lr_ld C (by rw [hx3, nI_add]) (by omega) h5 k))))
theorem lr_arg6 (j : Nat) {n : Int} (C : lw_K p s m meth c b L xs ad D cI cZ NC NS) (hx3 : x3 = nI i) (hi : i + 7 ≤ L) (hj : j < 7) (hv : (Int8.ofInt n).toInt32 = nI j) (h1 : decode code pc = .ok (.aload_n 0, 1)) (h2 : decode code (pc + 1) = .ok (.iload_n 3, 1)) (h3 : decode code (pc + 2) = .ok (.bipush n, 2)) (h4 : decode code (pc + 4) = .ok (.iadd, 1)) (h5 : decode code (pc + 5) = .ok (.iaload, 1))
    (k : lw_Go p l e s m below meth c b ad D cI cZ NC NS (pc + 6) x3 (.int (xs (i + j)) :: st) w) : lw_Go p l e s m below meth c b ad D cI cZ NC NS pc x3 st w :=
  lr_a0 C h1 (lr_i3 C h2 (lr_bip _ C h3 hv (lr_add C h4 (lr_ld C (by rw [hx3, nI_add]) (by omega) h5 k))))
theorem lr_goto {off : Int} (tgt : Nat) (C : lw_K p s m meth c b L xs ad D cI cZ NC NS) (hd : decode code pc = .ok (.goto off, 3)) (ht : (pc : Int) + off = (tgt : Int)) (k : lw_Go p l e s m below meth c b ad D cI cZ NC NS tgt x3 st w) : lw_Go p l e s m below meth c b ad D cI cZ NC NS pc x3 st w :=
  fun H locs a hP hS hl => lv_goto C.1.1 C.1.2.1 hd ht (k H locs a hP hS hl)
theorem lr_eq {x y : Int32} {off : Int} (tgt : Nat) (C : lw_K p s m meth c b L xs ad D cI cZ NC NS) (he : x = y) (hd : decode code pc = .ok (.if_icmp .eq off, 3)) (ht : (pc : Int) + off = (tgt : Int)) (k : lw_Go p l e s m below meth c b ad D cI cZ NC NS tgt x3 st w) : lw_Go p l e s m below meth c b ad D cI cZ NC NS pc x3 (.int y :: .int x :: st) w :=
  fun H locs a hP hS hl => lv_icmp_eq C.1.1 C.1.2.1 hd ht (fun _ => k H locs a hP hS hl) (fun h => absurd he h)
theorem lr_if {x : Int32} {off : Int} (tgt : Nat) (C : lw_K p s m meth c b L xs ad D cI cZ NC NS) (hd : decode code pc = .ok (.ifCond .eq off, 3)) (ht : (pc : Int) + off = (tgt : Int)) (k : x = 0 → lw_Go p l e s m below meth c b ad D cI cZ NC NS tgt x3 st w) (kf : ¬ x = 0 → lw_Go p l e s m below meth c b ad D cI cZ NC NS (pc + 3) x3 st w) : lw_Go p l e s m below meth c b ad D cI cZ NC NS pc x3 (.int x :: st) w :=
  fun H locs a hP hS hl => lv_if_eq C.1.1 C.1.2.1 hd ht (fun h => k h H locs a hP hS hl) (fun h => kf h H locs a hP hS hl)
theorem lr_gt {x y : Int32} {off : Int} (tgt : Nat) (C : lw_K p s m meth c b L xs ad D cI cZ NC NS) (hd : decode code pc = .ok (.if_icmp .gt off, 3)) (ht : (pc : Int) + off = (tgt : Int)) (k : y < x → lw_Go p l e s m below meth c b ad D cI cZ NC NS tgt x3 st w) (kf : ¬ y < x → lw_Go p l e s m below meth c b ad D cI cZ NC NS (pc + 3) x3 st w) : lw_Go p l e s m below meth c b ad D cI cZ NC NS pc x3 (.int y :: .int x :: st) w :=
  fun H locs a hP hS hl => lv_icmp_gt C.1.1 C.1.2.1 hd ht (fun h => k h H locs a hP hS hl) (fun h => kf h H locs a hP hS hl)
theorem lr_tabIn {dflt lo hi : Int} {offs : Array Int} {len : Nat} {x : Int32} {off : Int} (tgt : Nat) (C : lw_K p s m meth c b L xs ad D cI cZ NC NS) (hd : decode code pc = .ok (.tableswitch dflt lo hi offs, len)) (h1 : ¬ x.toInt < lo) (h2 : ¬ hi < x.toInt) (ho : offs[(x.toInt - lo).toNat]? = some off) (ht : (pc : Int) + off = (tgt : Int)) (k : lw_Go p l e s m below meth c b ad D cI cZ NC NS tgt x3 st w) : lw_Go p l e s m below meth c b ad D cI cZ NC NS pc x3 (.int x :: st) w :=
  fun H locs a hP hS hl => lv_tableIn C.1.1 C.1.2.1 hd h1 h2 ho ht (k H locs a hP hS hl)
theorem lr_tabOut {dflt lo hi : Int} {offs : Array Int} {len : Nat} {x : Int32} (tgt : Nat) (C : lw_K p s m meth c b L xs ad D cI cZ NC NS) (hd : decode code pc = .ok (.tableswitch dflt lo hi offs, len)) (h : x.toInt < lo ∨ hi < x.toInt) (ht : (pc : Int) + dflt = (tgt : Int)) (k : lw_Go p l e s m below meth c b ad D cI cZ NC NS tgt x3 st w) : lw_Go p l e s m below meth c b ad D cI cZ NC NS pc x3 (.int x :: st) w :=
  fun H locs a hP hS hl => lv_tableOut C.1.1 C.1.2.1 hd h ht (k H locs a hP hS hl)
theorem lr_inc (v : Int32) {n : Int} (C : lw_K p s m meth c b L xs ad D cI cZ NC NS) (hd : decode code pc = .ok (.iinc 3 n, 3)) (hv : x3 + Int32.ofInt n = v) (k : lw_Go p l e s m below meth c b ad D cI cZ NC NS (pc + 3) v st w) : lw_Go p l e s m below meth c b ad D cI cZ NC NS pc x3 st w :=
  fun H locs a hP hS hl => lv_iinc C.1.1 C.1.2.1 hd hl (k := 3) rfl hv (by decide) rfl (fun a' hl' => k H locs a' hP hS (lv_sub hl' [1, 2, 3, 0] rfl))
theorem lr_ret (C : lw_K p s m meth c b L xs ad D cI cZ NC NS) (hd : decode code pc = .ok (.iconst 1, 1)) (hd2 : decode code (pc + 1) = .ok (.ireturn, 1)) : lw_Go p l e s m below meth c b ad D cI cZ NC NS pc x3 [] w := by
  intro H locs a hP hS hl
  obtain ⟨⟨hx, hb, hr, hml, hown, hts, hX, hbl, hlocks, hgv⟩, hL, hK, hi, hA, hc1, hc2⟩ := C
  refine lv_iconst (v := 1) hx hb hd (by decide) ?_
  refine va_forget (fun q hq => hS.2.2 q hq) ?_
  refine W.widen (k := 600000) (n := 7302250) hc1 hc2 ?_
  exact lw_ret hx hb hr hlocks hd2
theorem lr_call {M' : ex_MD} {n idx ci bc : Nat} {ty : FieldType} {P' : Int32 → ex_WW → Prop} (As : List ex_AV) {st0 : List Value} (C : lw_K p s m meth c b L xs ad D cI cZ NC NS) (hd : decode code pc = .ok (.invokevirtual idx, 3)) (hc : ex_CO M' n) (hl : Cond.methodLink R_law idx M'.1 ∈ ex_T) (hv : ex_CV M'.1.cls M'.1) (hbc : bc < 42) (hbk : ex_kind bc = .inl ci) (hcl : (ex_cl[ci]?).map (fun q => q.1) = some M'.1.cls) (hr : M'.2.2.2 = some ty) (hn : As.length = n) (hm : n + 1 ≤ M'.2.2.1) (hst : (st.map fun v => v.category).sum ≤ 8) (h0 : st0 = (As.map (ex_tr ad)).reverse ++ .ref (ad bc) :: st)
    (h : ex_Ev 60 M' 0 (ex_in (.inr bc :: As) M'.2.2.1) [] w P') (k : ∀ r u, P' r u → lw_Go p l e s m below meth c b ad D cI cZ NC NS (pc + 3) x3 (.int r :: st) u) : lw_Go p l e s m below meth c b ad D cI cZ NC NS pc x3 st0 w := by
  subst h0
  intro H locs a hP hS hlv
  obtain ⟨⟨hx, hb, hret, hml, hown, hts, hX, hbl, hlocks, hgv⟩, hL, hK, hi, hA, hc1, hc2⟩ := C
  have htT : ∀ q ∈ ex_T, q.before #[Value.ref b] s = true := fun q hq => hts q (ex_T_good q hq).1
  have he := ex_cells_at ad cI cZ w hbc
  rw [ex_ent_obj _ hbk] at he
  obtain ⟨q, hq, hq1⟩ := Option.map_eq_some_iff.mp hcl
  have hrec := va_recv hK.1 hP hq he
  rw [hq1] at hrec
  have hCB : CallB room_1 s #[Value.ref b] R_law idx M'.1 M'.2.1 M'.2.2.1 M'.2.2.2 (ex_ws M') (ex_room 60) 0 0 n := by
    obtain ⟨h1, h2, h3, h4, h5⟩ := hc
    refine callB_of (Ts := lw_tbl) n hts (ex_ws_in (fun w h => (ex_T_good w h).1) h3) rfl rfl rfl (htT _ h2) (htT _ hl) h4 ⟨by decide, ?_⟩
    show 8 + (M'.2.2.1 + 11) + 60 * 60 ≤ 84000
    omega
  have hR := va_runV (p := p) (l := l) (e := e) (R := room_1) (s := s) (m := m) (args := #[Value.ref b]) (below := below) (meth := meth) (c := c) (H := H) (locs := locs) (cells := NC) (slots := NS) (As := As.map (ex_tr ad)) (b := ad bc) (C := M'.1.cls) (Ts := lw_tbl) (g := F0 m pc a ((As.map (ex_tr ad)).reverse ++ .ref (ad bc) :: st)) (rest := st) ⟨hx, hb, hml, hown, hts⟩ (ex_met (l := l) (D := D) (cI := cI) (cZ := cZ) (As := .inr bc :: As) hc.1 (by simp; omega) hi h) ⟨hCB, htT _ hv.1, htT _ hv.2⟩ ⟨ex_blind, hrec, fun U hU hW => ⟨rfl, by rw [hU]; exact hP, hK.moved hW⟩⟩ rfl (by simpa using hn) hlv.1 rfl (lv_room hst) hd ⟨hc1, hc2⟩
  have hQ : ex_Q M' ad D cI cZ P' = va_Qi P' (ex_B ad D cI cZ) (ex_A ad) := by unfold ex_Q; rw [hr]
  rw [hQ] at hR
  refine va_calli hR hS (fun q _ hq => ?_) (fun q hq => ?_) (fun r u t H1 locs1 ht hvm hp hB hz hk hS1 => ?_)
  · obtain ⟨k, hk, rfl⟩ := hq
    exact hA k hk
  · obtain ⟨k, hk, rfl⟩ := hq
    exact hA k hk
  · unfold ex_B at hB
    rw [ht] at hB
    exact k r u hp H1 locs1 a hB hS1 hlv
end LWR
