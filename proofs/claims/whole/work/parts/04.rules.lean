section EVR
variable {d : Nat} {M : ex_MD} {pc : Nat} {ls : List (Option ex_AV)} {st : List ex_AV} {w : ex_WW} {P : Int32 → ex_WW → Prop}
theorem ev_mono {P' : Int32 → ex_WW → Prop} (h : ex_Ev d M pc ls st w P) (hp : ∀ r u, P r u → P' r u) : ex_Ev d M pc ls st w P' := by
  intro p l e s m args below meth c H locs ad D cI cZ a C hP hS hl T hT X
  obtain ⟨t, a1, o, b1, b2, b3, L, b4⟩ := h p l e s m args below meth c H locs ad D cI cZ a C hP hS hl T hT X
  refine ⟨t, a1, o, b1, b2, ?_, L, b4⟩
  unfold ex_Q at b3 ⊢
  cases hr : M.2.2.2 with
  | none =>
    rw [hr] at b3
    obtain ⟨⟨u, h1, h2, h3⟩, h4⟩ := b3
    exact ⟨⟨u, h1, hp _ _ h2, h3⟩, h4⟩
  | some ty =>
    rw [hr] at b3
    obtain ⟨⟨r, u, h1, h2, h3⟩, h4⟩ := b3
    exact ⟨⟨r, u, h1, hp _ _ h2, h3⟩, h4⟩
theorem ev_iconst {n : Int} (v : Int32) (hd : decode M.2.1 pc = .ok (.iconst n, 1)) (hv : Int32.ofInt n = v) (k : ex_Ev d M (pc + 1) ls (.inl v :: st) w P) : ex_Ev d M pc ls st w P :=
  fun p l e s m args below meth c H locs ad D cI cZ a C hP hS hl => lv_iconst C.1 C.2.1 hd hv (k p l e s m args below meth c H locs ad D cI cZ a C hP hS hl)
theorem ev_bipush {n : Int} (v : Int32) (hd : decode M.2.1 pc = .ok (.bipush n, 2)) (hv : (Int8.ofInt n).toInt32 = v) (k : ex_Ev d M (pc + 2) ls (.inl v :: st) w P) : ex_Ev d M pc ls st w P :=
  fun p l e s m args below meth c H locs ad D cI cZ a C hP hS hl => lv_bipush C.1 C.2.1 hd hv (k p l e s m args below meth c H locs ad D cI cZ a C hP hS hl)
theorem ev_sipush {n : Int} (v : Int32) (hd : decode M.2.1 pc = .ok (.sipush n, 3)) (hv : (Int16.ofInt n).toInt32 = v) (k : ex_Ev d M (pc + 3) ls (.inl v :: st) w P) : ex_Ev d M pc ls st w P :=
  fun p l e s m args below meth c H locs ad D cI cZ a C hP hS hl => lv_sipush C.1 C.2.1 hd hv (k p l e s m args below meth c H locs ad D cI cZ a C hP hS hl)
theorem ev_ldc {i : Nat} (v : Int32) (hd : decode M.2.1 pc = .ok (.ldc i, 2)) (hc : Cond.constant M.1.cls i v ∈ ex_T) (k : ex_Ev d M (pc + 2) ls (.inl v :: st) w P) : ex_Ev d M pc ls st w P :=
  fun p l e s m args below meth c H locs ad D cI cZ a C hP hS hl => lv_ldc C.1 C.2.1 C.2.2.2.2.2.1 (C.2.2.2.2.2.2.1 _ (List.mem_cons_of_mem _ hc)) hd (k p l e s m args below meth c H locs ad D cI cZ a C hP hS hl)
theorem ev_ldcw {i : Nat} (v : Int32) (hd : decode M.2.1 pc = .ok (.ldc_w i, 3)) (hc : Cond.constant M.1.cls i v ∈ ex_T) (k : ex_Ev d M (pc + 3) ls (.inl v :: st) w P) : ex_Ev d M pc ls st w P :=
  fun p l e s m args below meth c H locs ad D cI cZ a C hP hS hl => lv_ldcw C.1 C.2.1 C.2.2.2.2.2.1 (C.2.2.2.2.2.2.1 _ (List.mem_cons_of_mem _ hc)) hd (k p l e s m args below meth c H locs ad D cI cZ a C hP hS hl)
theorem ev_iload_n {k : Fin 4} {x : Int32} (hd : decode M.2.1 pc = .ok (.iload_n k, 1)) (hx : ls[(k : Nat)]? = some (some (.inl x))) (kk : ex_Ev d M (pc + 1) ls (.inl x :: st) w P) : ex_Ev d M pc ls st w P :=
  fun p l e s m args below meth c H locs ad D cI cZ a C hP hS hl => lv_iload_n C.1 C.2.1 hd rfl (ex_lv_get hl hx) (kk p l e s m args below meth c H locs ad D cI cZ a C hP hS hl)
theorem ev_iload {i : Nat} {x : Int32} (hd : decode M.2.1 pc = .ok (.iload i, 2)) (hx : ls[i]? = some (some (.inl x))) (kk : ex_Ev d M (pc + 2) ls (.inl x :: st) w P) : ex_Ev d M pc ls st w P :=
  fun p l e s m args below meth c H locs ad D cI cZ a C hP hS hl => lv_iload C.1 C.2.1 hd (ex_lv_get hl hx) (kk p l e s m args below meth c H locs ad D cI cZ a C hP hS hl)
theorem ev_aload_n {k : Fin 4} {x : Nat} (hd : decode M.2.1 pc = .ok (.aload_n k, 1)) (hx : ls[(k : Nat)]? = some (some (.inr x))) (kk : ex_Ev d M (pc + 1) ls (.inr x :: st) w P) : ex_Ev d M pc ls st w P :=
  fun p l e s m args below meth c H locs ad D cI cZ a C hP hS hl => lv_aload_n C.1 C.2.1 hd rfl (ex_lv_get hl hx) (kk p l e s m args below meth c H locs ad D cI cZ a C hP hS hl)
theorem ev_aload {i : Nat} {x : Nat} (hd : decode M.2.1 pc = .ok (.aload i, 2)) (hx : ls[i]? = some (some (.inr x))) (kk : ex_Ev d M (pc + 2) ls (.inr x :: st) w P) : ex_Ev d M pc ls st w P :=
  fun p l e s m args below meth c H locs ad D cI cZ a C hP hS hl => lv_aload C.1 C.2.1 hd (ex_lv_get hl hx) (kk p l e s m args below meth c H locs ad D cI cZ a C hP hS hl)
theorem ev_istore_n {k : Fin 4} {x : Int32} (hd : decode M.2.1 pc = .ok (.istore_n k, 1)) (hn : (k : Nat) < M.2.2.1) (kk : ex_Ev d M (pc + 1) (ls.set (k : Nat) (some (.inl x))) st w P) : ex_Ev d M pc ls (.inl x :: st) w P :=
  fun p l e s m args below meth c H locs ad D cI cZ a C hP hS hl => lv_istore_n C.1 C.2.1 hd rfl hl hn rfl (fun a' hl' => kk p l e s m args below meth c H locs ad D cI cZ a' C hP hS (ex_lv_store (x := .inl x) hl'))
theorem ev_istore {i : Nat} {x : Int32} (hd : decode M.2.1 pc = .ok (.istore i, 2)) (hn : i < M.2.2.1) (kk : ex_Ev d M (pc + 2) (ls.set i (some (.inl x))) st w P) : ex_Ev d M pc ls (.inl x :: st) w P :=
  fun p l e s m args below meth c H locs ad D cI cZ a C hP hS hl => lv_istore C.1 C.2.1 hd hl hn rfl (fun a' hl' => kk p l e s m args below meth c H locs ad D cI cZ a' C hP hS (ex_lv_store (x := .inl x) hl'))
theorem ev_iinc {i : Nat} {n : Int} {x : Int32} (v : Int32) (hd : decode M.2.1 pc = .ok (.iinc i n, 3)) (hx : ls[i]? = some (some (.inl x))) (hv : x + Int32.ofInt n = v) (hn : i < M.2.2.1) (kk : ex_Ev d M (pc + 3) (ls.set i (some (.inl v))) st w P) : ex_Ev d M pc ls st w P := by
  intro p l e s m args below meth c H locs ad D cI cZ a C hP hS hl
  obtain ⟨j, hj⟩ := List.getElem?_of_mem (ex_lv_mem (ad := ad) (q := (i, ex_tr ad (.inl x))).mpr ⟨_, hx, rfl⟩)
  exact lv_iinc C.1 C.2.1 hd hl hj hv hn rfl (fun a' hl' => kk p l e s m args below meth c H locs ad D cI cZ a' C hP hS (ex_lv_store (x := .inl v) hl'))
theorem ev_iadd {x y : Int32} (hd : decode M.2.1 pc = .ok (.iadd, 1)) (k : ex_Ev d M (pc + 1) ls (.inl (x + y) :: st) w P) : ex_Ev d M pc ls (.inl y :: .inl x :: st) w P :=
  fun p l e s m args below meth c H locs ad D cI cZ a C hP hS hl => lv_iadd C.1 C.2.1 hd (k p l e s m args below meth c H locs ad D cI cZ a C hP hS hl)
theorem ev_isub {x y : Int32} (hd : decode M.2.1 pc = .ok (.isub, 1)) (k : ex_Ev d M (pc + 1) ls (.inl (x - y) :: st) w P) : ex_Ev d M pc ls (.inl y :: .inl x :: st) w P :=
  fun p l e s m args below meth c H locs ad D cI cZ a C hP hS hl => lv_isub C.1 C.2.1 hd (k p l e s m args below meth c H locs ad D cI cZ a C hP hS hl)
theorem ev_imul {x y : Int32} (hd : decode M.2.1 pc = .ok (.imul, 1)) (k : ex_Ev d M (pc + 1) ls (.inl (x * y) :: st) w P) : ex_Ev d M pc ls (.inl y :: .inl x :: st) w P :=
  fun p l e s m args below meth c H locs ad D cI cZ a C hP hS hl => lv_imul C.1 C.2.1 hd (k p l e s m args below meth c H locs ad D cI cZ a C hP hS hl)
theorem ev_iand {x y : Int32} (hd : decode M.2.1 pc = .ok (.iand, 1)) (k : ex_Ev d M (pc + 1) ls (.inl (x &&& y) :: st) w P) : ex_Ev d M pc ls (.inl y :: .inl x :: st) w P :=
  fun p l e s m args below meth c H locs ad D cI cZ a C hP hS hl => lv_iand C.1 C.2.1 hd (k p l e s m args below meth c H locs ad D cI cZ a C hP hS hl)
theorem ev_ior {x y : Int32} (hd : decode M.2.1 pc = .ok (.ior, 1)) (k : ex_Ev d M (pc + 1) ls (.inl (x ||| y) :: st) w P) : ex_Ev d M pc ls (.inl y :: .inl x :: st) w P :=
  fun p l e s m args below meth c H locs ad D cI cZ a C hP hS hl => lv_ior C.1 C.2.1 hd (k p l e s m args below meth c H locs ad D cI cZ a C hP hS hl)
theorem ev_ixor {x y : Int32} (hd : decode M.2.1 pc = .ok (.ixor, 1)) (k : ex_Ev d M (pc + 1) ls (.inl (x ^^^ y) :: st) w P) : ex_Ev d M pc ls (.inl y :: .inl x :: st) w P :=
  fun p l e s m args below meth c H locs ad D cI cZ a C hP hS hl => lv_ixor C.1 C.2.1 hd (k p l e s m args below meth c H locs ad D cI cZ a C hP hS hl)
theorem ev_ishl {x y : Int32} (hd : decode M.2.1 pc = .ok (.ishl, 1)) (k : ex_Ev d M (pc + 1) ls (.inl (x <<< (y &&& 31)) :: st) w P) : ex_Ev d M pc ls (.inl y :: .inl x :: st) w P :=
  fun p l e s m args below meth c H locs ad D cI cZ a C hP hS hl => lv_ishl C.1 C.2.1 hd (k p l e s m args below meth c H locs ad D cI cZ a C hP hS hl)
theorem ev_ishr {x y : Int32} (hd : decode M.2.1 pc = .ok (.ishr, 1)) (k : ex_Ev d M (pc + 1) ls (.inl (x >>> (y &&& 31)) :: st) w P) : ex_Ev d M pc ls (.inl y :: .inl x :: st) w P :=
  fun p l e s m args below meth c H locs ad D cI cZ a C hP hS hl => lv_ishr C.1 C.2.1 hd (k p l e s m args below meth c H locs ad D cI cZ a C hP hS hl)
theorem ev_iushr {x y : Int32} (hd : decode M.2.1 pc = .ok (.iushr, 1)) (k : ex_Ev d M (pc + 1) ls (.inl ((x.toUInt32 >>> (y.toUInt32 &&& Int32.toUInt32 31)).toInt32) :: st) w P) : ex_Ev d M pc ls (.inl y :: .inl x :: st) w P :=
  fun p l e s m args below meth c H locs ad D cI cZ a C hP hS hl => lv_iushr C.1 C.2.1 hd rfl (k p l e s m args below meth c H locs ad D cI cZ a C hP hS hl)
theorem ev_ineg {x : Int32} (hd : decode M.2.1 pc = .ok (.ineg, 1)) (k : ex_Ev d M (pc + 1) ls (.inl (0 - x) :: st) w P) : ex_Ev d M pc ls (.inl x :: st) w P :=
  fun p l e s m args below meth c H locs ad D cI cZ a C hP hS hl => lv_ineg C.1 C.2.1 hd (k p l e s m args below meth c H locs ad D cI cZ a C hP hS hl)
theorem ev_idiv {x y : Int32} (hd : decode M.2.1 pc = .ok (.idiv, 1)) (hy : ¬ y = 0) (k : ex_Ev d M (pc + 1) ls (.inl (x / y) :: st) w P) : ex_Ev d M pc ls (.inl y :: .inl x :: st) w P :=
  fun p l e s m args below meth c H locs ad D cI cZ a C hP hS hl => lv_idiv C.1 C.2.1 hd hy (k p l e s m args below meth c H locs ad D cI cZ a C hP hS hl)
theorem ev_irem {x y : Int32} (hd : decode M.2.1 pc = .ok (.irem, 1)) (hy : ¬ y = 0) (k : ex_Ev d M (pc + 1) ls (.inl (x - x / y * y) :: st) w P) : ex_Ev d M pc ls (.inl y :: .inl x :: st) w P :=
  fun p l e s m args below meth c H locs ad D cI cZ a C hP hS hl => lv_irem C.1 C.2.1 hd hy (k p l e s m args below meth c H locs ad D cI cZ a C hP hS hl)
theorem ev_dup {v : ex_AV} (hd : decode M.2.1 pc = .ok (.dup, 1)) (k : ex_Ev d M (pc + 1) ls (v :: v :: st) w P) : ex_Ev d M pc ls (v :: st) w P :=
  fun p l e s m args below meth c H locs ad D cI cZ a C hP hS hl => lv_dup C.1 C.2.1 hd (ex_tr_cat ad v) (k p l e s m args below meth c H locs ad D cI cZ a C hP hS hl)
theorem ev_dup2 {v v2 : ex_AV} (hd : decode M.2.1 pc = .ok (.dup2, 1)) (k : ex_Ev d M (pc + 1) ls (v :: v2 :: v :: v2 :: st) w P) : ex_Ev d M pc ls (v :: v2 :: st) w P :=
  fun p l e s m args below meth c H locs ad D cI cZ a C hP hS hl => lv_dup2_11 C.1 C.2.1 hd (ex_tr_cat ad v) (ex_tr_cat ad v2) (k p l e s m args below meth c H locs ad D cI cZ a C hP hS hl)
theorem ev_dup_x1 {v v2 : ex_AV} (hd : decode M.2.1 pc = .ok (.dup_x1, 1)) (k : ex_Ev d M (pc + 1) ls (v :: v2 :: v :: st) w P) : ex_Ev d M pc ls (v :: v2 :: st) w P :=
  fun p l e s m args below meth c H locs ad D cI cZ a C hP hS hl => lv_dup_x1 C.1 C.2.1 hd (ex_tr_cat ad v) (ex_tr_cat ad v2) (k p l e s m args below meth c H locs ad D cI cZ a C hP hS hl)
theorem ev_pop {v : ex_AV} (hd : decode M.2.1 pc = .ok (.pop, 1)) (k : ex_Ev d M (pc + 1) ls st w P) : ex_Ev d M pc ls (v :: st) w P :=
  fun p l e s m args below meth c H locs ad D cI cZ a C hP hS hl => lv_pop C.1 C.2.1 hd (ex_tr_cat ad v) (k p l e s m args below meth c H locs ad D cI cZ a C hP hS hl)
theorem ev_goto {off : Int} (tgt : Nat) (hd : decode M.2.1 pc = .ok (.goto off, 3)) (ht : (pc : Int) + off = (tgt : Int)) (k : ex_Ev d M tgt ls st w P) : ex_Ev d M pc ls st w P :=
  fun p l e s m args below meth c H locs ad D cI cZ a C hP hS hl => lv_goto C.1 C.2.1 hd ht (k p l e s m args below meth c H locs ad D cI cZ a C hP hS hl)
theorem ev_if_eq {x : Int32} {off : Int} (tgt : Nat) (hd : decode M.2.1 pc = .ok (.ifCond .eq off, 3)) (ht : (pc : Int) + off = (tgt : Int)) (kt : x = 0 → ex_Ev d M tgt ls st w P) (kf : ¬ x = 0 → ex_Ev d M (pc + 3) ls st w P) : ex_Ev d M pc ls (.inl x :: st) w P :=
  fun p l e s m args below meth c H locs ad D cI cZ a C hP hS hl => lv_if_eq C.1 C.2.1 hd ht (fun h => kt h p l e s m args below meth c H locs ad D cI cZ a C hP hS hl) (fun h => kf h p l e s m args below meth c H locs ad D cI cZ a C hP hS hl)
theorem ev_icmp_eq {x y : Int32} {off : Int} (tgt : Nat) (hd : decode M.2.1 pc = .ok (.if_icmp .eq off, 3)) (ht : (pc : Int) + off = (tgt : Int)) (kt : x = y → ex_Ev d M tgt ls st w P) (kf : ¬ x = y → ex_Ev d M (pc + 3) ls st w P) : ex_Ev d M pc ls (.inl y :: .inl x :: st) w P :=
  fun p l e s m args below meth c H locs ad D cI cZ a C hP hS hl => lv_icmp_eq C.1 C.2.1 hd ht (fun h => kt h p l e s m args below meth c H locs ad D cI cZ a C hP hS hl) (fun h => kf h p l e s m args below meth c H locs ad D cI cZ a C hP hS hl)
theorem ev_if_ne {x : Int32} {off : Int} (tgt : Nat) (hd : decode M.2.1 pc = .ok (.ifCond .ne off, 3)) (ht : (pc : Int) + off = (tgt : Int)) (kt : ¬ x = 0 → ex_Ev d M tgt ls st w P) (kf : x = 0 → ex_Ev d M (pc + 3) ls st w P) : ex_Ev d M pc ls (.inl x :: st) w P :=
  fun p l e s m args below meth c H locs ad D cI cZ a C hP hS hl => lv_if_ne C.1 C.2.1 hd ht (fun h => kt h p l e s m args below meth c H locs ad D cI cZ a C hP hS hl) (fun h => kf h p l e s m args below meth c H locs ad D cI cZ a C hP hS hl)
theorem ev_icmp_ne {x y : Int32} {off : Int} (tgt : Nat) (hd : decode M.2.1 pc = .ok (.if_icmp .ne off, 3)) (ht : (pc : Int) + off = (tgt : Int)) (kt : ¬ x = y → ex_Ev d M tgt ls st w P) (kf : x = y → ex_Ev d M (pc + 3) ls st w P) : ex_Ev d M pc ls (.inl y :: .inl x :: st) w P :=
  fun p l e s m args below meth c H locs ad D cI cZ a C hP hS hl => lv_icmp_ne C.1 C.2.1 hd ht (fun h => kt h p l e s m args below meth c H locs ad D cI cZ a C hP hS hl) (fun h => kf h p l e s m args below meth c H locs ad D cI cZ a C hP hS hl)
theorem ev_if_lt {x : Int32} {off : Int} (tgt : Nat) (hd : decode M.2.1 pc = .ok (.ifCond .lt off, 3)) (ht : (pc : Int) + off = (tgt : Int)) (kt : x < 0 → ex_Ev d M tgt ls st w P) (kf : ¬ x < 0 → ex_Ev d M (pc + 3) ls st w P) : ex_Ev d M pc ls (.inl x :: st) w P :=
  fun p l e s m args below meth c H locs ad D cI cZ a C hP hS hl => lv_if_lt C.1 C.2.1 hd ht (fun h => kt h p l e s m args below meth c H locs ad D cI cZ a C hP hS hl) (fun h => kf h p l e s m args below meth c H locs ad D cI cZ a C hP hS hl)
theorem ev_icmp_lt {x y : Int32} {off : Int} (tgt : Nat) (hd : decode M.2.1 pc = .ok (.if_icmp .lt off, 3)) (ht : (pc : Int) + off = (tgt : Int)) (kt : x < y → ex_Ev d M tgt ls st w P) (kf : ¬ x < y → ex_Ev d M (pc + 3) ls st w P) : ex_Ev d M pc ls (.inl y :: .inl x :: st) w P :=
  fun p l e s m args below meth c H locs ad D cI cZ a C hP hS hl => lv_icmp_lt C.1 C.2.1 hd ht (fun h => kt h p l e s m args below meth c H locs ad D cI cZ a C hP hS hl) (fun h => kf h p l e s m args below meth c H locs ad D cI cZ a C hP hS hl)
theorem ev_if_ge {x : Int32} {off : Int} (tgt : Nat) (hd : decode M.2.1 pc = .ok (.ifCond .ge off, 3)) (ht : (pc : Int) + off = (tgt : Int)) (kt : 0 ≤ x → ex_Ev d M tgt ls st w P) (kf : ¬ 0 ≤ x → ex_Ev d M (pc + 3) ls st w P) : ex_Ev d M pc ls (.inl x :: st) w P :=
  fun p l e s m args below meth c H locs ad D cI cZ a C hP hS hl => lv_if_ge C.1 C.2.1 hd ht (fun h => kt h p l e s m args below meth c H locs ad D cI cZ a C hP hS hl) (fun h => kf h p l e s m args below meth c H locs ad D cI cZ a C hP hS hl)
theorem ev_icmp_ge {x y : Int32} {off : Int} (tgt : Nat) (hd : decode M.2.1 pc = .ok (.if_icmp .ge off, 3)) (ht : (pc : Int) + off = (tgt : Int)) (kt : y ≤ x → ex_Ev d M tgt ls st w P) (kf : ¬ y ≤ x → ex_Ev d M (pc + 3) ls st w P) : ex_Ev d M pc ls (.inl y :: .inl x :: st) w P :=
  fun p l e s m args below meth c H locs ad D cI cZ a C hP hS hl => lv_icmp_ge C.1 C.2.1 hd ht (fun h => kt h p l e s m args below meth c H locs ad D cI cZ a C hP hS hl) (fun h => kf h p l e s m args below meth c H locs ad D cI cZ a C hP hS hl)
theorem ev_if_gt {x : Int32} {off : Int} (tgt : Nat) (hd : decode M.2.1 pc = .ok (.ifCond .gt off, 3)) (ht : (pc : Int) + off = (tgt : Int)) (kt : 0 < x → ex_Ev d M tgt ls st w P) (kf : ¬ 0 < x → ex_Ev d M (pc + 3) ls st w P) : ex_Ev d M pc ls (.inl x :: st) w P :=
  fun p l e s m args below meth c H locs ad D cI cZ a C hP hS hl => lv_if_gt C.1 C.2.1 hd ht (fun h => kt h p l e s m args below meth c H locs ad D cI cZ a C hP hS hl) (fun h => kf h p l e s m args below meth c H locs ad D cI cZ a C hP hS hl)
theorem ev_icmp_gt {x y : Int32} {off : Int} (tgt : Nat) (hd : decode M.2.1 pc = .ok (.if_icmp .gt off, 3)) (ht : (pc : Int) + off = (tgt : Int)) (kt : y < x → ex_Ev d M tgt ls st w P) (kf : ¬ y < x → ex_Ev d M (pc + 3) ls st w P) : ex_Ev d M pc ls (.inl y :: .inl x :: st) w P :=
  fun p l e s m args below meth c H locs ad D cI cZ a C hP hS hl => lv_icmp_gt C.1 C.2.1 hd ht (fun h => kt h p l e s m args below meth c H locs ad D cI cZ a C hP hS hl) (fun h => kf h p l e s m args below meth c H locs ad D cI cZ a C hP hS hl)
theorem ev_if_le {x : Int32} {off : Int} (tgt : Nat) (hd : decode M.2.1 pc = .ok (.ifCond .le off, 3)) (ht : (pc : Int) + off = (tgt : Int)) (kt : x ≤ 0 → ex_Ev d M tgt ls st w P) (kf : ¬ x ≤ 0 → ex_Ev d M (pc + 3) ls st w P) : ex_Ev d M pc ls (.inl x :: st) w P :=
  fun p l e s m args below meth c H locs ad D cI cZ a C hP hS hl => lv_if_le C.1 C.2.1 hd ht (fun h => kt h p l e s m args below meth c H locs ad D cI cZ a C hP hS hl) (fun h => kf h p l e s m args below meth c H locs ad D cI cZ a C hP hS hl)
theorem ev_icmp_le {x y : Int32} {off : Int} (tgt : Nat) (hd : decode M.2.1 pc = .ok (.if_icmp .le off, 3)) (ht : (pc : Int) + off = (tgt : Int)) (kt : x ≤ y → ex_Ev d M tgt ls st w P) (kf : ¬ x ≤ y → ex_Ev d M (pc + 3) ls st w P) : ex_Ev d M pc ls (.inl y :: .inl x :: st) w P :=
  fun p l e s m args below meth c H locs ad D cI cZ a C hP hS hl => lv_icmp_le C.1 C.2.1 hd ht (fun h => kt h p l e s m args below meth c H locs ad D cI cZ a C hP hS hl) (fun h => kf h p l e s m args below meth c H locs ad D cI cZ a C hP hS hl)
-- fields
def ex_FO (M : ex_MD) (i ci k : Nat) : Prop := ∃ (C : String) (T : u_T) (N : Nat), ex_cl[ci]? = some (C, T, N) ∧ ex_nf ci = N ∧ k < N ∧ (∀ q ∈ u_ws C T N, q ∈ ex_T) ∧ Cond.fieldLink M.1.cls i (T k).1 (T k).2.1 (T k).2.2.1 ∈ ex_T
theorem ev_getR {i ci k c j : Nat} (hd : decode M.2.1 pc = .ok (.getfield i, 3)) (hf : ex_FO M i ci k) (hc : c < 42) (hk : ex_kind c = .inl ci) (hr : ex_rf c k = some j) (kk : ex_Ev d M (pc + 3) ls (.inr j :: st) w P) : ex_Ev d M pc ls (.inr c :: st) w P := by
  intro p l e s m args below meth co H locs ad D cI cZ a C hP hS hl
  obtain ⟨Cn, T, N, h1, h2, h3, h4, h5⟩ := hf
  have he := ex_cells_at ad cI cZ w hc
  rw [ex_ent_obj _ hk] at he
  exact va_get (v := .ref (ad j)) C.1 C.2.1 (Ts := ex_ws M) C.2.2.2.2.2.2.1 (fun q hq => List.mem_cons_of_mem _ (h4 q hq)) C.2.2.2.2.2.1 C.2.2.2.2.2.2.2.1.1 hP c he h1 k h3 (C.2.2.2.2.2.2.1 _ (List.mem_cons_of_mem _ h5)) (fun _ h => h) (by rw [h2]; simp [List.getElem?_map, List.getElem?_range h3, ex_fv, hr]) hd (kk p l e s m args below meth co H locs ad D cI cZ a C hP hS hl)
theorem ev_getI {i ci k c : Nat} (hd : decode M.2.1 pc = .ok (.getfield i, 3)) (hf : ex_FO M i ci k) (hc : c < 42) (hk : ex_kind c = .inl ci) (hr : ex_rf c k = none) (kk : ex_Ev d M (pc + 3) ls (.inl (w c k) :: st) w P) : ex_Ev d M pc ls (.inr c :: st) w P := by
  intro p l e s m args below meth co H locs ad D cI cZ a C hP hS hl
  obtain ⟨Cn, T, N, h1, h2, h3, h4, h5⟩ := hf
  have he := ex_cells_at ad cI cZ w hc
  rw [ex_ent_obj _ hk] at he
  exact va_get (v := .int (w c k)) C.1 C.2.1 (Ts := ex_ws M) C.2.2.2.2.2.2.1 (fun q hq => List.mem_cons_of_mem _ (h4 q hq)) C.2.2.2.2.2.1 C.2.2.2.2.2.2.2.1.1 hP c he h1 k h3 (C.2.2.2.2.2.2.1 _ (List.mem_cons_of_mem _ h5)) (fun _ h => h) (by rw [h2]; simp [List.getElem?_map, List.getElem?_range h3, ex_fv, hr]) hd (kk p l e s m args below meth co H locs ad D cI cZ a C hP hS hl)
def ex_FP (ci k : Nat) (ty : FieldType) : Prop := ∃ (C : String) (T : u_T) (N : Nat), ex_cl[ci]? = some (C, T, N) ∧ (T k).2.2.2 = false ∧ parseFieldDescriptor (T k).2.2.1 = some ty ∧ (∃ ty0 : Nat → FieldType, ∀ k, k < N → parseFieldDescriptor (T k).2.2.1 = some (ty0 k)) ∧ (∀ a, a < N → ∀ b, b < N → a ≠ b → (T a).2.1 ≠ (T b).2.1)
theorem ev_put {i ci k c : Nat} {ty : FieldType} {x : Int32} (hd : decode M.2.1 pc = .ok (.putfield i, 3)) (hf : ex_FO M i ci k) (hg : ex_FP ci k ty) (hc : c < 42) (hk : ex_kind c = .inl ci) (hr : ex_rf c k = none) (hn : narrow ty (.int x) = .int x) (hfit : fits ty (.int x) = true) (kk : ex_Ev d M (pc + 3) ls st (ex_up w c k x) P) : ex_Ev d M pc ls (.inl x :: .inr c :: st) w P := by
  intro p l e s m args below meth co H locs ad D cI cZ a C hP hS hl
  obtain ⟨Cn, T, N, h1, h2, h3, h4, h5⟩ := hf
  obtain ⟨Cn', T', N', g1, g2, g3, ⟨ty0, g4⟩, g5⟩ := hg
  cases h1.symm.trans g1
  have he := ex_cells_at ad cI cZ w hc
  rw [ex_ent_obj _ hk] at he
  refine va_put (v := .int x) C.1 C.2.1 (Ts := ex_ws M) C.2.2.2.2.2.2.1 (fun q hq => List.mem_cons_of_mem _ (h4 q hq)) ty0 g4 g5 C.2.2.2.2.2.1 C.2.2.2.2.2.2.2.1.1 hP (ex_cells_D C.2.2.2.2.2.2.2.2) hS c he h1 k h3 (C.2.2.2.2.2.2.1 _ (List.mem_cons_of_mem _ h5)) (fun _ h => h) g2 g3 hn hfit (by rw [h2]; simpa using h3) hd (fun H1 locs1 hP1 hD1 hS1 => ?_)
  rw [ex_fs_set _ _ hr, ← ex_ent_obj _ hk, ex_cells_set _ _ _ _ hc] at hP1
  exact kk p l e s m args below meth co H1 locs1 ad D cI cZ a C hP1 hS1 hl
-- arrays
theorem ev_iald {c n : Nat} {i : Int32} (hd : decode M.2.1 pc = .ok (.iaload, 1)) (hc : c < 42) (hk : ex_kind c = .inr (n, false)) (hin : vp_in i n) (kk : ex_Ev d M (pc + 1) ls (.inl (w c i.toNatClampNeg) :: st) w P) : ex_Ev d M pc ls (.inl i :: .inr c :: st) w P := by
  intro p l e s m args below meth co H locs ad D cI cZ a C hP hS hl
  have he := ex_cells_at ad cI cZ w hc
  rw [ex_ent_arr _ hk] at he
  exact va_iald C.1 C.2.1 C.2.2.2.2.2.2.2.1.1 hP c 0 he rfl hin hd (kk p l e s m args below meth co H locs ad D cI cZ a C hP hS hl)
theorem ev_zald {c n : Nat} {i : Int32} (hd : decode M.2.1 pc = .ok (.baload, 1)) (hc : c < 42) (hk : ex_kind c = .inr (n, true)) (hin : vp_in i n) (kk : ex_Ev d M (pc + 1) ls (.inl (w c i.toNatClampNeg) :: st) w P) : ex_Ev d M pc ls (.inl i :: .inr c :: st) w P := by
  intro p l e s m args below meth co H locs ad D cI cZ a C hP hS hl
  have he := ex_cells_at ad cI cZ w hc
  rw [ex_ent_arr _ hk] at he
  exact va_zald C.1 C.2.1 C.2.2.2.2.2.2.2.1.1 hP c 1 he rfl hin hd (kk p l e s m args below meth co H locs ad D cI cZ a C hP hS hl)
theorem ev_iast {c n : Nat} {i x : Int32} (hd : decode M.2.1 pc = .ok (.iastore, 1)) (hc : c < 42) (hk : ex_kind c = .inr (n, false)) (hin : vp_in i n) (kk : ex_Ev d M (pc + 1) ls st (ex_up w c i.toNatClampNeg x) P) : ex_Ev d M pc ls (.inl x :: .inl i :: .inr c :: st) w P := by
  intro p l e s m args below meth co H locs ad D cI cZ a C hP hS hl
  have he := ex_cells_at ad cI cZ w hc
  rw [ex_ent_arr _ hk] at he
  refine va_iast C.1 C.2.1 C.2.2.2.2.2.2.2.1.1 hP (ex_cells_D C.2.2.2.2.2.2.2.2) hS c 0 he rfl hin hd (fun H1 locs1 hP1 hD1 hS1 => ?_)
  rw [← ex_ent_arr (ad := ad) (cI := cI) (cZ := cZ) _ hk, ex_cells_set _ _ _ _ hc] at hP1
  exact kk p l e s m args below meth co H1 locs1 ad D cI cZ a C hP1 hS1 hl
theorem ev_zast {c n : Nat} {i x : Int32} (hd : decode M.2.1 pc = .ok (.bastore, 1)) (hc : c < 42) (hk : ex_kind c = .inr (n, true)) (hin : vp_in i n) (hx : x = 0 ∨ x = 1) (kk : ex_Ev d M (pc + 1) ls st (ex_up w c i.toNatClampNeg x) P) : ex_Ev d M pc ls (.inl x :: .inl i :: .inr c :: st) w P := by
  intro p l e s m args below meth co H locs ad D cI cZ a C hP hS hl
  have he := ex_cells_at ad cI cZ w hc
  rw [ex_ent_arr _ hk] at he
  have hx2 : vp_nar .boolean x = x := by rcases hx with rfl | rfl <;> rfl
  refine va_zast C.1 C.2.1 C.2.2.2.2.2.2.2.1.1 hP (ex_cells_D C.2.2.2.2.2.2.2.2) hS c 1 he rfl hin hd (fun H1 locs1 hP1 hD1 hS1 => ?_)
  rw [hx2, ← ex_ent_arr (ad := ad) (cI := cI) (cZ := cZ) _ hk, ex_cells_set _ _ _ _ hc] at hP1
  exact kk p l e s m args below meth co H1 locs1 ad D cI cZ a C hP1 hS1 hl
-- the answers
theorem ev_iret {v : Int32} (hd : decode M.2.1 pc = .ok (.ireturn, 1)) (hr : M.2.2.2 = some .int) (h : P v w) : ex_Ev d M pc ls [.inl v] w P := by
  intro p l e s m args below meth c H locs ad D cI cZ a C hP hS hl
  refine W.iret (v := v) C.1 C.2.1 (C.2.2.2.1.trans hr) (fun t ht hW => ?_) hS.2.2 hd C.2.2.2.2.1
  unfold ex_Q
  rw [hr]
  exact ⟨⟨v, w, rfl, h, by unfold ex_B; rw [ht]; exact hP⟩, hS.F ht⟩
theorem ev_zret {v : Int32} (hd : decode M.2.1 pc = .ok (.ireturn, 1)) (hr : M.2.2.2 = some .boolean) (hv : v = 0 ∨ v = 1) (h : P v w) : ex_Ev d M pc ls [.inl v] w P := by
  intro p l e s m args below meth c H locs ad D cI cZ a C hP hS hl
  refine W.zret (v := v) C.1 C.2.1 (C.2.2.2.1.trans hr) (by rcases hv with rfl | rfl <;> rfl) (fun t ht hW => ?_) hS.2.2 hd C.2.2.2.2.1
  unfold ex_Q
  rw [hr]
  exact ⟨⟨v, w, rfl, h, by unfold ex_B; rw [ht]; exact hP⟩, hS.F ht⟩
theorem ev_vret (hd : decode M.2.1 pc = .ok (.return_, 1)) (hr : M.2.2.2 = none) (h : P 0 w) : ex_Ev d M pc ls [] w P := by
  intro p l e s m args below meth c H locs ad D cI cZ a C hP hS hl
  refine W.vret C.1 C.2.1 (C.2.2.2.1.trans hr) (fun t ht hW => ?_) hS.2.2 hd C.2.2.2.2.1
  unfold ex_Q
  rw [hr]
  exact ⟨⟨w, rfl, h, by unfold ex_B; rw [ht]; exact hP⟩, hS.F ht⟩
end EVR
