set_option maxHeartbeats 4000000 in
set_option maxRecDepth 100000 in
theorem sg_X2_sheetOf_0 {d : Nat} {w : ex_WW} {P : Int32 → ex_WW → Prop} {p0 : Int32} {p1 : Int32} (H : P ((p0 * 2) + p1) w) : ex_Ev d mX2_sheetOf 0 [some (.inl p0), some (.inl p1)] [] w P := by
  refine ev_iload_n dX2_sheetOf_0 rfl ?_
  refine ev_iconst 2 dX2_sheetOf_1 (by decide) ?_
  refine ev_imul dX2_sheetOf_2 ?_
  refine ev_iload_n dX2_sheetOf_3 rfl ?_
  refine ev_iadd dX2_sheetOf_4 ?_
  exact ev_iret dX2_sheetOf_5 rfl H

set_option maxHeartbeats 4000000 in
set_option maxRecDepth 100000 in
theorem sg_X2_size_0 {d : Nat} {w : ex_WW} {P : Int32 → ex_WW → Prop} (H : P (w 4 6) w) : ex_Ev d mX2_size 0 [some (.inr 4)] [] w P := by
  refine ev_aload_n dX2_size_0 rfl ?_
  refine ev_getI dX2_size_1 (fo_RX2_32 _ rfl) (by decide) rfl rfl ?_
  exact ev_iret dX2_size_4 rfl H

set_option maxHeartbeats 4000000 in
set_option maxRecDepth 100000 in
theorem sg_X2_isFull_0 {d : Nat} {w : ex_WW} {P : Int32 → ex_WW → Prop} (H : (((w 4 6) < 30 → P 0 w) ∧ (¬ (w 4 6) < 30 → P 1 w))) : ex_Ev d mX2_isFull 0 [some (.inr 4)] [] w P := by
  refine ev_aload_n dX2_isFull_0 rfl ?_
  refine ev_getI dX2_isFull_1 (fo_RX2_32 _ rfl) (by decide) rfl rfl ?_
  refine ev_bipush 30 dX2_isFull_4 (by decide) ?_
  refine ev_icmp_lt 13 dX2_isFull_6 (by decide) (fun h => ?_) (fun h => ?_)
  · have H := H.1 h
    refine ev_iconst 0 dX2_isFull_13 (by decide) ?_
    exact ev_zret dX2_isFull_14 rfl (by decide) H
  · have H := H.2 h
    refine ev_iconst 1 dX2_isFull_9 (by decide) ?_
    refine ev_goto 14 dX2_isFull_10 (by decide) ?_
    exact ev_zret dX2_isFull_14 rfl (by decide) H

set_option maxHeartbeats 4000000 in
set_option maxRecDepth 100000 in
theorem sg_X2_has_0 {d : Nat} {w : ex_WW} {P : Int32 → ex_WW → Prop} {p0 : Int32} {p1 : Int32} (H : ((p0 < 0 → P 0 w) ∧ (¬ p0 < 0 → (((w 4 6) ≤ p0 → P 0 w) ∧ (¬ (w 4 6) ≤ p0 → ((p1 < 0 → P 0 w) ∧ (¬ p1 < 0 → ((2 ≤ p1 → P 0 w) ∧ (¬ 2 ≤ p1 → P 1 w))))))))) : ex_Ev d mX2_has 0 [some (.inr 4), some (.inl p0), some (.inl p1)] [] w P := by
  refine ev_iload_n dX2_has_0 rfl ?_
  refine ev_if_lt 25 dX2_has_1 (by decide) (fun h => ?_) (fun h => ?_)
  · have H := H.1 h
    refine ev_iconst 0 dX2_has_25 (by decide) ?_
    exact ev_zret dX2_has_26 rfl (by decide) H
  · have H := H.2 h
    refine ev_iload_n dX2_has_4 rfl ?_
    refine ev_aload_n dX2_has_5 rfl ?_
    refine ev_getI dX2_has_6 (fo_RX2_32 _ rfl) (by decide) rfl rfl ?_
    refine ev_icmp_ge 25 dX2_has_9 (by decide) (fun h => ?_) (fun h => ?_)
    · have H := H.1 h
      refine ev_iconst 0 dX2_has_25 (by decide) ?_
      exact ev_zret dX2_has_26 rfl (by decide) H
    · have H := H.2 h
      refine ev_iload_n dX2_has_12 rfl ?_
      refine ev_if_lt 25 dX2_has_13 (by decide) (fun h => ?_) (fun h => ?_)
      · have H := H.1 h
        refine ev_iconst 0 dX2_has_25 (by decide) ?_
        exact ev_zret dX2_has_26 rfl (by decide) H
      · have H := H.2 h
        refine ev_iload_n dX2_has_16 rfl ?_
        refine ev_iconst 2 dX2_has_17 (by decide) ?_
        refine ev_icmp_ge 25 dX2_has_18 (by decide) (fun h => ?_) (fun h => ?_)
        · have H := H.1 h
          refine ev_iconst 0 dX2_has_25 (by decide) ?_
          exact ev_zret dX2_has_26 rfl (by decide) H
        · have H := H.2 h
          refine ev_iconst 1 dX2_has_21 (by decide) ?_
          refine ev_goto 26 dX2_has_22 (by decide) ?_
          exact ev_zret dX2_has_26 rfl (by decide) H

set_option maxHeartbeats 4000000 in
set_option maxRecDepth 100000 in
theorem sg_X2_begin_0 {d : Nat} {w : ex_WW} {P : Int32 → ex_WW → Prop} {p0 : Int32} {p1 : Int32} {p2 : Int32} (H : (vp_in (w 4 6) 30 ∧ ex_Ev d mX2_sheetOf 0 (ex_in [.inl (w 4 6), .inl 0] 2) [] (ex_up (ex_up w 4 6 ((w 4 6) + 1)) 14 (w 4 6).toNatClampNeg p2) (fun r1 u2 => ex_Ev d mX2_openSheet 0 (ex_in [.inr 4, .inl r1, .inl p0] 4) [] u2 (fun _ u4 => ex_Ev d mX2_sheetOf 0 (ex_in [.inl (w 4 6), .inl 1] 2) [] u4 (fun r5 u6 => ex_Ev d mX2_openSheet 0 (ex_in [.inr 4, .inl r5, .inl p1] 4) [] u6 (fun _ u8 => P (w 4 6) u8)))))) : ex_Ev (d + 1) mX2_begin 0 [some (.inr 4), some (.inl p0), some (.inl p1), some (.inl p2), none] [] w P := by
  refine ev_aload_n dX2_begin_0 rfl ?_
  refine ev_getI dX2_begin_1 (fo_RX2_32 _ rfl) (by decide) rfl rfl ?_
  refine ev_istore dX2_begin_4 (by decide) ?_
  refine ev_aload_n dX2_begin_6 rfl ?_
  refine ev_dup dX2_begin_7 ?_
  refine ev_getI dX2_begin_8 (fo_RX2_32 _ rfl) (by decide) rfl rfl ?_
  refine ev_iconst 1 dX2_begin_11 (by decide) ?_
  refine ev_iadd dX2_begin_12 ?_
  refine ev_put dX2_begin_13 (fo_RX2_32 _ rfl) fp_2_6 (by decide) rfl rfl (vp_nar_int _) rfl ?_
  refine ev_aload_n dX2_begin_16 rfl ?_
  refine ev_getR dX2_begin_17 (fo_RX2_9 _ rfl) (by decide) rfl rfl ?_
  refine ev_iload dX2_begin_20 rfl ?_
  refine ev_iload_n dX2_begin_22 rfl ?_
  refine ev_iast dX2_begin_23 (by decide) rfl H.1 ?_
  have H := H.2
  refine ev_aload_n dX2_begin_24 rfl ?_
  refine ev_iload dX2_begin_25 rfl ?_
  refine ev_iconst 0 dX2_begin_27 (by decide) ?_
  refine ev_callS [.inl (w 4 6), .inl 0] dX2_begin_28 co_X2_sheetOf ml_RX2_36 cs_X2_sheetOf rfl rfl (by decide) (Nat.le_of_ble_eq_true rfl) rfl H (fun r1 u2 H => ?_)
  refine ev_iload_n dX2_begin_31 rfl ?_
  refine ev_callVv 4 [.inl r1, .inl p0] dX2_begin_32 co_X2_openSheet ml_RX2_40 cv_X2_openSheet (by decide) rfl rfl rfl rfl (by decide) (Nat.le_of_ble_eq_true rfl) rfl H (fun u4 H => ?_)
  refine ev_aload_n dX2_begin_35 rfl ?_
  refine ev_iload dX2_begin_36 rfl ?_
  refine ev_iconst 1 dX2_begin_38 (by decide) ?_
  refine ev_callS [.inl (w 4 6), .inl 1] dX2_begin_39 co_X2_sheetOf ml_RX2_36 cs_X2_sheetOf rfl rfl (by decide) (Nat.le_of_ble_eq_true rfl) rfl H (fun r5 u6 H => ?_)
  refine ev_iload_n dX2_begin_42 rfl ?_
  refine ev_callVv 4 [.inl r5, .inl p1] dX2_begin_43 co_X2_openSheet ml_RX2_40 cv_X2_openSheet (by decide) rfl rfl rfl rfl (by decide) (Nat.le_of_ble_eq_true rfl) rfl H (fun u8 H => ?_)
  refine ev_iload dX2_begin_46 rfl ?_
  exact ev_iret dX2_begin_48 rfl H

set_option maxHeartbeats 4000000 in
set_option maxRecDepth 100000 in
theorem sg_X2_openSheet_0 {d : Nat} {w : ex_WW} {P : Int32 → ex_WW → Prop} {p0 : Int32} {p1 : Int32} (H : (vp_in p0 60 ∧ ex_Ev (d + 1) mX2_openSheet 9 [some (.inr 4), some (.inl p0), some (.inl p1), some (.inl 0)] [] (ex_up w 15 p0.toNatClampNeg p1) P)) : ex_Ev (d + 1) mX2_openSheet 0 [some (.inr 4), some (.inl p0), some (.inl p1), none] [] w P := by
  refine ev_aload_n dX2_openSheet_0 rfl ?_
  refine ev_getR dX2_openSheet_1 (fo_RX2_15 _ rfl) (by decide) rfl rfl ?_
  refine ev_iload_n dX2_openSheet_4 rfl ?_
  refine ev_iload_n dX2_openSheet_5 rfl ?_
  refine ev_iast dX2_openSheet_6 (by decide) rfl H.1 ?_
  have H := H.2
  refine ev_iconst 0 dX2_openSheet_7 (by decide) ?_
  refine ev_istore_n dX2_openSheet_8 (by decide) ?_
  exact H

set_option maxHeartbeats 4000000 in
set_option maxRecDepth 100000 in
theorem sg_X2_openSheet_9 {d : Nat} {w : ex_WW} {P : Int32 → ex_WW → Prop} {x1 : Int32} {x2 : Int32} {x3 : Int32} (H : ((6 ≤ x3 → P 0 w) ∧ (¬ 6 ≤ x3 → ex_Ev d mX2_tell 0 (ex_in [.inr 4, .inl x1, .inl x3, .inl 6] 5) [] w (fun r1 u2 => ex_Ev (d + 1) mX2_openSheet 9 [some (.inr 4), some (.inl x1), some (.inl x2), some (.inl (x3 + 1))] [] u2 P)))) : ex_Ev (d + 1) mX2_openSheet 9 [some (.inr 4), some (.inl x1), some (.inl x2), some (.inl x3)] [] w P := by
  refine ev_iload_n dX2_openSheet_9 rfl ?_
  refine ev_bipush 6 dX2_openSheet_10 (by decide) ?_
  refine ev_icmp_ge 30 dX2_openSheet_12 (by decide) (fun h => ?_) (fun h => ?_)
  · have H := H.1 h
    exact ev_vret dX2_openSheet_30 rfl H
  · have H := H.2 h
    refine ev_aload_n dX2_openSheet_15 rfl ?_
    refine ev_iload_n dX2_openSheet_16 rfl ?_
    refine ev_iload_n dX2_openSheet_17 rfl ?_
    refine ev_bipush 6 dX2_openSheet_18 (by decide) ?_
    refine ev_callV 4 [.inl x1, .inl x3, .inl 6] dX2_openSheet_20 co_X2_tell ml_RX2_44 cv_X2_tell (by decide) rfl rfl rfl rfl (by decide) (Nat.le_of_ble_eq_true rfl) rfl H (fun r1 u2 H => ?_)
    refine ev_pop dX2_openSheet_23 ?_
    refine ev_iinc (x3 + 1) dX2_openSheet_24 rfl rfl (by decide) ?_
    refine ev_goto 9 dX2_openSheet_27 (by decide) ?_
    exact H

set_option maxHeartbeats 4000000 in
set_option maxRecDepth 100000 in
theorem sg_X2_strokeIn_0 {d : Nat} {w : ex_WW} {P : Int32 → ex_WW → Prop} {p0 : Int32} {p1 : Int32} (H : (vp_in ((p0 * 6) + p1) 360 ∧ P (w 17 ((p0 * 6) + p1).toNatClampNeg) w)) : ex_Ev d mX2_strokeIn 0 [some (.inr 4), some (.inl p0), some (.inl p1)] [] w P := by
  refine ev_aload_n dX2_strokeIn_0 rfl ?_
  refine ev_getR dX2_strokeIn_1 (fo_RX2_21 _ rfl) (by decide) rfl rfl ?_
  refine ev_iload_n dX2_strokeIn_4 rfl ?_
  refine ev_bipush 6 dX2_strokeIn_5 (by decide) ?_
  refine ev_imul dX2_strokeIn_7 ?_
  refine ev_iload_n dX2_strokeIn_8 rfl ?_
  refine ev_iadd dX2_strokeIn_9 ?_
  refine ev_iald dX2_strokeIn_10 (by decide) rfl H.1 ?_
  have H := H.2
  exact ev_iret dX2_strokeIn_11 rfl H

set_option maxHeartbeats 4000000 in
set_option maxRecDepth 100000 in
theorem sg_X2_tell_0 {d : Nat} {w : ex_WW} {P : Int32 → ex_WW → Prop} {p0 : Int32} {p1 : Int32} {p2 : Int32} (H : ex_Ev d mX2_strokeIn 0 (ex_in [.inr 4, .inl p0, .inl p1] 3) [] w (fun r1 u2 => (vp_in ((p0 * 6) + p1) 360 ∧ P r1 (ex_up u2 17 ((p0 * 6) + p1).toNatClampNeg p2)))) : ex_Ev (d + 1) mX2_tell 0 [some (.inr 4), some (.inl p0), some (.inl p1), some (.inl p2), none] [] w P := by
  refine ev_aload_n dX2_tell_0 rfl ?_
  refine ev_iload_n dX2_tell_1 rfl ?_
  refine ev_iload_n dX2_tell_2 rfl ?_
  refine ev_callV 4 [.inl p0, .inl p1] dX2_tell_3 co_X2_strokeIn ml_RX2_48 cv_X2_strokeIn (by decide) rfl rfl rfl rfl (by decide) (Nat.le_of_ble_eq_true rfl) rfl H (fun r1 u2 H => ?_)
  refine ev_istore dX2_tell_6 (by decide) ?_
  refine ev_aload_n dX2_tell_8 rfl ?_
  refine ev_getR dX2_tell_9 (fo_RX2_21 _ rfl) (by decide) rfl rfl ?_
  refine ev_iload_n dX2_tell_12 rfl ?_
  refine ev_bipush 6 dX2_tell_13 (by decide) ?_
  refine ev_imul dX2_tell_15 ?_
  refine ev_iload_n dX2_tell_16 rfl ?_
  refine ev_iadd dX2_tell_17 ?_
  refine ev_iload_n dX2_tell_18 rfl ?_
  refine ev_iast dX2_tell_19 (by decide) rfl H.1 ?_
  have H := H.2
  refine ev_iload dX2_tell_20 rfl ?_
  exact ev_iret dX2_tell_22 rfl H

set_option maxHeartbeats 4000000 in
set_option maxRecDepth 100000 in
theorem sg_X2_carryOver_0 {d : Nat} {w : ex_WW} {P : Int32 → ex_WW → Prop} {p0 : Int32} {p1 : Int32} {p2 : Int32} {p3 : Int32} {p4 : Int32} (H : (¬ ((p0 * 6) + p2) < 0 ∧ ¬ ((p1 * 6) + p3) < 0 ∧ ¬ p4 < 0 ∧ ((p0 * 6) + p2).toNatClampNeg + p4.toNatClampNeg ≤ 360 ∧ ((p1 * 6) + p3).toNatClampNeg + p4.toNatClampNeg ≤ 360 ∧ P 0 (ex_upf w 17 (va_cpy (w 17) (w 17) ((p0 * 6) + p2).toNatClampNeg ((p1 * 6) + p3).toNatClampNeg p4.toNatClampNeg)))) : ex_Ev (d + 1) mX2_carryOver 0 [some (.inr 4), some (.inl p0), some (.inl p1), some (.inl p2), some (.inl p3), some (.inl p4)] [] w P := by
  refine ev_aload_n dX2_carryOver_0 rfl ?_
  refine ev_getR dX2_carryOver_1 (fo_RX2_21 _ rfl) (by decide) rfl rfl ?_
  refine ev_iload_n dX2_carryOver_4 rfl ?_
  refine ev_bipush 6 dX2_carryOver_5 (by decide) ?_
  refine ev_imul dX2_carryOver_7 ?_
  refine ev_iload_n dX2_carryOver_8 rfl ?_
  refine ev_iadd dX2_carryOver_9 ?_
  refine ev_aload_n dX2_carryOver_10 rfl ?_
  refine ev_getR dX2_carryOver_11 (fo_RX2_21 _ rfl) (by decide) rfl rfl ?_
  refine ev_iload_n dX2_carryOver_14 rfl ?_
  refine ev_bipush 6 dX2_carryOver_15 (by decide) ?_
  refine ev_imul dX2_carryOver_17 ?_
  refine ev_iload dX2_carryOver_18 rfl ?_
  refine ev_iadd dX2_carryOver_20 ?_
  refine ev_iload dX2_carryOver_21 rfl ?_
  refine ev_copy dX2_carryOver_23 ml_RX2_51 cp_words (by decide) (by decide) rfl rfl H.1 H.2.1 H.2.2.1 H.2.2.2.1 H.2.2.2.2.1 (Nat.le_of_ble_eq_true rfl) ?_
  have H := H.2.2.2.2.2
  exact ev_vret dX2_carryOver_26 rfl H

set_option maxHeartbeats 4000000 in
set_option maxRecDepth 100000 in
theorem sg_X2_countOf_0 {d : Nat} {w : ex_WW} {P : Int32 → ex_WW → Prop} {p0 : Int32} {p1 : Int32} (H : ex_Ev (d + 1) mX2_countOf 5 [some (.inr 4), some (.inl p0), some (.inl p1), some (.inl 0), some (.inl 0)] [] w P) : ex_Ev (d + 1) mX2_countOf 0 [some (.inr 4), some (.inl p0), some (.inl p1), none, none] [] w P := by
  refine ev_iconst 0 dX2_countOf_0 (by decide) ?_
  refine ev_istore_n dX2_countOf_1 (by decide) ?_
  refine ev_iconst 0 dX2_countOf_2 (by decide) ?_
  refine ev_istore dX2_countOf_3 (by decide) ?_
  exact H

set_option maxHeartbeats 4000000 in
set_option maxRecDepth 100000 in
theorem sg_X2_countOf_5 {d : Nat} {w : ex_WW} {P : Int32 → ex_WW → Prop} {x1 : Int32} {x2 : Int32} {x3 : Int32} {x4 : Int32} (H : ((6 ≤ x4 → P x3 w) ∧ (¬ 6 ≤ x4 → ex_Ev d mX2_strokeIn 0 (ex_in [.inr 4, .inl x1, .inl x4] 3) [] w (fun r1 u2 => ((¬ r1 = x2 → ex_Ev (d + 1) mX2_countOf 5 [some (.inr 4), some (.inl x1), some (.inl x2), some (.inl x3), some (.inl (x4 + 1))] [] u2 P) ∧ (r1 = x2 → ex_Ev (d + 1) mX2_countOf 5 [some (.inr 4), some (.inl x1), some (.inl x2), some (.inl (x3 + 1)), some (.inl (x4 + 1))] [] u2 P)))))) : ex_Ev (d + 1) mX2_countOf 5 [some (.inr 4), some (.inl x1), some (.inl x2), some (.inl x3), some (.inl x4)] [] w P := by
  refine ev_iload dX2_countOf_5 rfl ?_
  refine ev_bipush 6 dX2_countOf_7 (by decide) ?_
  refine ev_icmp_ge 32 dX2_countOf_9 (by decide) (fun h => ?_) (fun h => ?_)
  · have H := H.1 h
    refine ev_iload_n dX2_countOf_32 rfl ?_
    exact ev_iret dX2_countOf_33 rfl H
  · have H := H.2 h
    refine ev_aload_n dX2_countOf_12 rfl ?_
    refine ev_iload_n dX2_countOf_13 rfl ?_
    refine ev_iload dX2_countOf_14 rfl ?_
    refine ev_callV 4 [.inl x1, .inl x4] dX2_countOf_16 co_X2_strokeIn ml_RX2_48 cv_X2_strokeIn (by decide) rfl rfl rfl rfl (by decide) (Nat.le_of_ble_eq_true rfl) rfl H (fun r1 u2 H => ?_)
    refine ev_iload_n dX2_countOf_19 rfl ?_
    refine ev_icmp_ne 26 dX2_countOf_20 (by decide) (fun h => ?_) (fun h => ?_)
    · have H := H.1 h
      refine ev_iinc (x4 + 1) dX2_countOf_26 rfl rfl (by decide) ?_
      refine ev_goto 5 dX2_countOf_29 (by decide) ?_
      exact H
    · have H := H.2 h
      refine ev_iinc (x3 + 1) dX2_countOf_23 rfl rfl (by decide) ?_
      refine ev_iinc (x4 + 1) dX2_countOf_26 rfl rfl (by decide) ?_
      refine ev_goto 5 dX2_countOf_29 (by decide) ?_
      exact H

set_option maxHeartbeats 4000000 in
set_option maxRecDepth 100000 in
theorem sg_X2_leastStanding_0 {d : Nat} {w : ex_WW} {P : Int32 → ex_WW → Prop} {p0 : Int32} (H : (vp_in (p0 / 2) 30 ∧ ex_Ev d mX3_leastStanding 0 (ex_in [.inr 2, .inl (w 14 (p0 / 2).toNatClampNeg)] 4) [] w (fun r1 u2 => ex_Ev d mX2_standingWith 0 (ex_in [.inr 4, .inl p0, .inl r1] 7) [] u2 (fun r3 u4 => P r3 u4)))) : ex_Ev (d + 1) mX2_leastStanding 0 [some (.inr 4), some (.inl p0)] [] w P := by
  refine ev_aload_n dX2_leastStanding_0 rfl ?_
  refine ev_iload_n dX2_leastStanding_1 rfl ?_
  refine ev_aload_n dX2_leastStanding_2 rfl ?_
  refine ev_getR dX2_leastStanding_3 (fo_RX2_28 _ rfl) (by decide) rfl rfl ?_
  refine ev_aload_n dX2_leastStanding_6 rfl ?_
  refine ev_getR dX2_leastStanding_7 (fo_RX2_9 _ rfl) (by decide) rfl rfl ?_
  refine ev_iload_n dX2_leastStanding_10 rfl ?_
  refine ev_iconst 2 dX2_leastStanding_11 (by decide) ?_
  refine ev_idiv dX2_leastStanding_12 (by decide) ?_
  refine ev_iald dX2_leastStanding_13 (by decide) rfl H.1 ?_
  have H := H.2
  refine ev_callV 2 [.inl (w 14 (p0 / 2).toNatClampNeg)] dX2_leastStanding_14 co_X3_leastStanding ml_RX2_57 cv_X3_leastStanding (by decide) rfl rfl rfl rfl (by decide) (Nat.le_of_ble_eq_true rfl) rfl H (fun r1 u2 H => ?_)
  refine ev_callV 4 [.inl p0, .inl r1] dX2_leastStanding_17 co_X2_standingWith ml_RX2_63 cv_X2_standingWith (by decide) rfl rfl rfl rfl (by decide) (Nat.le_of_ble_eq_true rfl) rfl H (fun r3 u4 H => ?_)
  exact ev_iret dX2_leastStanding_20 rfl H

set_option maxHeartbeats 4000000 in
set_option maxRecDepth 100000 in
theorem sg_X2_greatestStanding_0 {d : Nat} {w : ex_WW} {P : Int32 → ex_WW → Prop} {p0 : Int32} (H : (vp_in (p0 / 2) 30 ∧ ex_Ev d mX3_greatestStanding 0 (ex_in [.inr 2, .inl (w 14 (p0 / 2).toNatClampNeg)] 4) [] w (fun r1 u2 => ex_Ev d mX2_standingWith 0 (ex_in [.inr 4, .inl p0, .inl r1] 7) [] u2 (fun r3 u4 => P r3 u4)))) : ex_Ev (d + 1) mX2_greatestStanding 0 [some (.inr 4), some (.inl p0)] [] w P := by
  refine ev_aload_n dX2_greatestStanding_0 rfl ?_
  refine ev_iload_n dX2_greatestStanding_1 rfl ?_
  refine ev_aload_n dX2_greatestStanding_2 rfl ?_
  refine ev_getR dX2_greatestStanding_3 (fo_RX2_28 _ rfl) (by decide) rfl rfl ?_
  refine ev_aload_n dX2_greatestStanding_6 rfl ?_
  refine ev_getR dX2_greatestStanding_7 (fo_RX2_9 _ rfl) (by decide) rfl rfl ?_
  refine ev_iload_n dX2_greatestStanding_10 rfl ?_
  refine ev_iconst 2 dX2_greatestStanding_11 (by decide) ?_
  refine ev_idiv dX2_greatestStanding_12 (by decide) ?_
  refine ev_iald dX2_greatestStanding_13 (by decide) rfl H.1 ?_
  have H := H.2
  refine ev_callV 2 [.inl (w 14 (p0 / 2).toNatClampNeg)] dX2_greatestStanding_14 co_X3_greatestStanding ml_RX2_66 cv_X3_greatestStanding (by decide) rfl rfl rfl rfl (by decide) (Nat.le_of_ble_eq_true rfl) rfl H (fun r1 u2 H => ?_)
  refine ev_callV 4 [.inl p0, .inl r1] dX2_greatestStanding_17 co_X2_standingWith ml_RX2_63 cv_X2_standingWith (by decide) rfl rfl rfl rfl (by decide) (Nat.le_of_ble_eq_true rfl) rfl H (fun r3 u4 H => ?_)
  exact ev_iret dX2_greatestStanding_20 rfl H

set_option maxHeartbeats 4000000 in
set_option maxRecDepth 100000 in
theorem sg_X2_standingWith_0 {d : Nat} {w : ex_WW} {P : Int32 → ex_WW → Prop} {p0 : Int32} {p1 : Int32} (H : (vp_in (p0 / 2) 30 ∧ ex_Ev (d + 1) mX2_standingWith 15 [some (.inr 4), some (.inl p0), some (.inl p1), some (.inl (w 14 (p0 / 2).toNatClampNeg)), some (.inl 0), some (.inl 0), none] [] w P)) : ex_Ev (d + 1) mX2_standingWith 0 [some (.inr 4), some (.inl p0), some (.inl p1), none, none, none, none] [] w P := by
  refine ev_aload_n dX2_standingWith_0 rfl ?_
  refine ev_getR dX2_standingWith_1 (fo_RX2_9 _ rfl) (by decide) rfl rfl ?_
  refine ev_iload_n dX2_standingWith_4 rfl ?_
  refine ev_iconst 2 dX2_standingWith_5 (by decide) ?_
  refine ev_idiv dX2_standingWith_6 (by decide) ?_
  refine ev_iald dX2_standingWith_7 (by decide) rfl H.1 ?_
  have H := H.2
  refine ev_istore_n dX2_standingWith_8 (by decide) ?_
  refine ev_iconst 0 dX2_standingWith_9 (by decide) ?_
  refine ev_istore dX2_standingWith_10 (by decide) ?_
  refine ev_iconst 0 dX2_standingWith_12 (by decide) ?_
  refine ev_istore dX2_standingWith_13 (by decide) ?_
  exact H

set_option maxHeartbeats 4000000 in
set_option maxRecDepth 100000 in
theorem sg_X2_standingWith_15 {d : Nat} {w : ex_WW} {P : Int32 → ex_WW → Prop} {x1 : Int32} {x2 : Int32} {x3 : Int32} {x4 : Int32} {x5 : Int32} (H : ((6 ≤ x5 → P x4 w) ∧ (¬ 6 ≤ x5 → ex_Ev d mX2_strokeIn 0 (ex_in [.inr 4, .inl x1, .inl x5] 3) [] w (fun r1 u2 => ((¬ r1 = 6 → ex_Ev d mX3_standingOf 0 (ex_in [.inr 2, .inl x3, .inl r1] 4) [] u2 (fun r3 u4 => ex_Ev (d + 1) mX2_standingWith 15 [some (.inr 4), some (.inl x1), some (.inl x2), some (.inl x3), some (.inl (x4 + r3)), some (.inl (x5 + 1)), none] [] u4 P)) ∧ (r1 = 6 → ex_Ev (d + 1) mX2_standingWith 15 [some (.inr 4), some (.inl x1), some (.inl x2), some (.inl x3), some (.inl (x4 + x2)), some (.inl (x5 + 1)), none] [] u2 P)))))) : ex_Ev (d + 1) mX2_standingWith 15 [some (.inr 4), some (.inl x1), some (.inl x2), some (.inl x3), some (.inl x4), some (.inl x5), none] [] w P := by
  refine ev_iload dX2_standingWith_15 rfl ?_
  refine ev_bipush 6 dX2_standingWith_17 (by decide) ?_
  refine ev_icmp_ge 63 dX2_standingWith_19 (by decide) (fun h => ?_) (fun h => ?_)
  · have H := H.1 h
    refine ev_iload dX2_standingWith_63 rfl ?_
    exact ev_iret dX2_standingWith_65 rfl H
  · have H := H.2 h
    refine ev_aload_n dX2_standingWith_22 rfl ?_
    refine ev_iload_n dX2_standingWith_23 rfl ?_
    refine ev_iload dX2_standingWith_24 rfl ?_
    refine ev_callV 4 [.inl x1, .inl x5] dX2_standingWith_26 co_X2_strokeIn ml_RX2_48 cv_X2_strokeIn (by decide) rfl rfl rfl rfl (by decide) (Nat.le_of_ble_eq_true rfl) rfl H (fun r1 u2 H => ?_)
    refine ev_istore dX2_standingWith_29 (by decide) ?_
    refine ev_iload dX2_standingWith_31 rfl ?_
    refine ev_iload dX2_standingWith_33 rfl ?_
    refine ev_bipush 6 dX2_standingWith_35 (by decide) ?_
    refine ev_icmp_ne 44 dX2_standingWith_37 (by decide) (fun h => ?_) (fun h => ?_)
    · have H := H.1 h
      refine ev_aload_n dX2_standingWith_44 rfl ?_
      refine ev_getR dX2_standingWith_45 (fo_RX2_28 _ rfl) (by decide) rfl rfl ?_
      refine ev_iload_n dX2_standingWith_48 rfl ?_
      refine ev_iload dX2_standingWith_49 rfl ?_
      refine ev_callV 2 [.inl x3, .inl r1] dX2_standingWith_51 co_X3_standingOf ml_RX2_69 cv_X3_standingOf (by decide) rfl rfl rfl rfl (by decide) (Nat.le_of_ble_eq_true rfl) rfl H (fun r3 u4 H => ?_)
      refine ev_iadd dX2_standingWith_54 ?_
      refine ev_istore dX2_standingWith_55 (by decide) ?_
      refine ev_iinc (x5 + 1) dX2_standingWith_57 rfl rfl (by decide) ?_
      refine ev_goto 15 dX2_standingWith_60 (by decide) ?_
      refine ev_drop 6 ?_
      exact H
    · have H := H.2 h
      refine ev_iload_n dX2_standingWith_40 rfl ?_
      refine ev_goto 54 dX2_standingWith_41 (by decide) ?_
      refine ev_iadd dX2_standingWith_54 ?_
      refine ev_istore dX2_standingWith_55 (by decide) ?_
      refine ev_iinc (x5 + 1) dX2_standingWith_57 rfl rfl (by decide) ?_
      refine ev_goto 15 dX2_standingWith_60 (by decide) ?_
      refine ev_drop 6 ?_
      exact H

set_option maxHeartbeats 4000000 in
set_option maxRecDepth 100000 in
theorem sg_X2_winsSurely_0 {d : Nat} {w : ex_WW} {P : Int32 → ex_WW → Prop} {p0 : Int32} (H : ex_Ev d mX2_leastStanding 0 (ex_in [.inr 4, .inl p0] 2) [] w (fun r1 u2 => ex_Ev d mX2_greatestStanding 0 (ex_in [.inr 4, .inl (p0 ^^^ 1)] 2) [] u2 (fun r3 u4 => ((r1 ≤ r3 → P 0 u4) ∧ (¬ r1 ≤ r3 → P 1 u4))))) : ex_Ev (d + 1) mX2_winsSurely 0 [some (.inr 4), some (.inl p0)] [] w P := by
  refine ev_aload_n dX2_winsSurely_0 rfl ?_
  refine ev_iload_n dX2_winsSurely_1 rfl ?_
  refine ev_callV 4 [.inl p0] dX2_winsSurely_2 co_X2_leastStanding ml_RX2_72 cv_X2_leastStanding (by decide) rfl rfl rfl rfl (by decide) (Nat.le_of_ble_eq_true rfl) rfl H (fun r1 u2 H => ?_)
  refine ev_aload_n dX2_winsSurely_5 rfl ?_
  refine ev_iload_n dX2_winsSurely_6 rfl ?_
  refine ev_iconst 1 dX2_winsSurely_7 (by decide) ?_
  refine ev_ixor dX2_winsSurely_8 ?_
  refine ev_callV 4 [.inl (p0 ^^^ 1)] dX2_winsSurely_9 co_X2_greatestStanding ml_RX2_73 cv_X2_greatestStanding (by decide) rfl rfl rfl rfl (by decide) (Nat.le_of_ble_eq_true rfl) rfl H (fun r3 u4 H => ?_)
  refine ev_icmp_le 19 dX2_winsSurely_12 (by decide) (fun h => ?_) (fun h => ?_)
  · have H := H.1 h
    refine ev_iconst 0 dX2_winsSurely_19 (by decide) ?_
    exact ev_zret dX2_winsSurely_20 rfl (by decide) H
  · have H := H.2 h
    refine ev_iconst 1 dX2_winsSurely_15 (by decide) ?_
    refine ev_goto 20 dX2_winsSurely_16 (by decide) ?_
    exact ev_zret dX2_winsSurely_20 rfl (by decide) H

set_option maxHeartbeats 4000000 in
set_option maxRecDepth 100000 in
theorem sg_X2_mayWin_0 {d : Nat} {w : ex_WW} {P : Int32 → ex_WW → Prop} {p0 : Int32} (H : ex_Ev d mX2_greatestStanding 0 (ex_in [.inr 4, .inl p0] 2) [] w (fun r1 u2 => ex_Ev d mX2_leastStanding 0 (ex_in [.inr 4, .inl (p0 ^^^ 1)] 2) [] u2 (fun r3 u4 => ((r1 ≤ r3 → P 0 u4) ∧ (¬ r1 ≤ r3 → P 1 u4))))) : ex_Ev (d + 1) mX2_mayWin 0 [some (.inr 4), some (.inl p0)] [] w P := by
  refine ev_aload_n dX2_mayWin_0 rfl ?_
  refine ev_iload_n dX2_mayWin_1 rfl ?_
  refine ev_callV 4 [.inl p0] dX2_mayWin_2 co_X2_greatestStanding ml_RX2_73 cv_X2_greatestStanding (by decide) rfl rfl rfl rfl (by decide) (Nat.le_of_ble_eq_true rfl) rfl H (fun r1 u2 H => ?_)
  refine ev_aload_n dX2_mayWin_5 rfl ?_
  refine ev_iload_n dX2_mayWin_6 rfl ?_
  refine ev_iconst 1 dX2_mayWin_7 (by decide) ?_
  refine ev_ixor dX2_mayWin_8 ?_
  refine ev_callV 4 [.inl (p0 ^^^ 1)] dX2_mayWin_9 co_X2_leastStanding ml_RX2_72 cv_X2_leastStanding (by decide) rfl rfl rfl rfl (by decide) (Nat.le_of_ble_eq_true rfl) rfl H (fun r3 u4 H => ?_)
  refine ev_icmp_le 19 dX2_mayWin_12 (by decide) (fun h => ?_) (fun h => ?_)
  · have H := H.1 h
    refine ev_iconst 0 dX2_mayWin_19 (by decide) ?_
    exact ev_zret dX2_mayWin_20 rfl (by decide) H
  · have H := H.2 h
    refine ev_iconst 1 dX2_mayWin_15 (by decide) ?_
    refine ev_goto 20 dX2_mayWin_16 (by decide) ?_
    exact ev_zret dX2_mayWin_20 rfl (by decide) H

set_option maxHeartbeats 4000000 in
set_option maxRecDepth 100000 in
theorem sg_X2_countSureWins_0 {d : Nat} {w : ex_WW} {P : Int32 → ex_WW → Prop} {p0 : Int32} (H : ex_Ev (d + 1) mX2_countSureWins 4 [some (.inr 4), some (.inl p0), some (.inl 0), some (.inl 0)] [] w P) : ex_Ev (d + 1) mX2_countSureWins 0 [some (.inr 4), some (.inl p0), none, none] [] w P := by
  refine ev_iconst 0 dX2_countSureWins_0 (by decide) ?_
  refine ev_istore_n dX2_countSureWins_1 (by decide) ?_
  refine ev_iconst 0 dX2_countSureWins_2 (by decide) ?_
  refine ev_istore_n dX2_countSureWins_3 (by decide) ?_
  exact H

set_option maxHeartbeats 4000000 in
set_option maxRecDepth 100000 in
theorem sg_X2_countSureWins_4 {d : Nat} {w : ex_WW} {P : Int32 → ex_WW → Prop} {x1 : Int32} {x2 : Int32} {x3 : Int32} (H : ((((w 4 6) * 2) ≤ x3 → P x2 w) ∧ (¬ ((w 4 6) * 2) ≤ x3 → (vp_in x3 60 ∧ ((¬ (w 15 x3.toNatClampNeg) = x1 → ex_Ev (d + 1) mX2_countSureWins 4 [some (.inr 4), some (.inl x1), some (.inl x2), some (.inl (x3 + 1))] [] w P) ∧ ((w 15 x3.toNatClampNeg) = x1 → ex_Ev d mX2_winsSurely 0 (ex_in [.inr 4, .inl x3] 2) [] w (fun r1 u2 => ((r1 = 0 → ex_Ev (d + 1) mX2_countSureWins 4 [some (.inr 4), some (.inl x1), some (.inl x2), some (.inl (x3 + 1))] [] u2 P) ∧ (¬ r1 = 0 → ex_Ev (d + 1) mX2_countSureWins 4 [some (.inr 4), some (.inl x1), some (.inl (x2 + 1)), some (.inl (x3 + 1))] [] u2 P))))))))) : ex_Ev (d + 1) mX2_countSureWins 4 [some (.inr 4), some (.inl x1), some (.inl x2), some (.inl x3)] [] w P := by
  refine ev_iload_n dX2_countSureWins_4 rfl ?_
  refine ev_aload_n dX2_countSureWins_5 rfl ?_
  refine ev_getI dX2_countSureWins_6 (fo_RX2_32 _ rfl) (by decide) rfl rfl ?_
  refine ev_iconst 2 dX2_countSureWins_9 (by decide) ?_
  refine ev_imul dX2_countSureWins_10 ?_
  refine ev_icmp_ge 41 dX2_countSureWins_11 (by decide) (fun h => ?_) (fun h => ?_)
  · have H := H.1 h
    refine ev_iload_n dX2_countSureWins_41 rfl ?_
    exact ev_iret dX2_countSureWins_42 rfl H
  · have H := H.2 h
    refine ev_aload_n dX2_countSureWins_14 rfl ?_
    refine ev_getR dX2_countSureWins_15 (fo_RX2_15 _ rfl) (by decide) rfl rfl ?_
    refine ev_iload_n dX2_countSureWins_18 rfl ?_
    refine ev_iald dX2_countSureWins_19 (by decide) rfl H.1 ?_
    have H := H.2
    refine ev_iload_n dX2_countSureWins_20 rfl ?_
    refine ev_icmp_ne 35 dX2_countSureWins_21 (by decide) (fun h => ?_) (fun h => ?_)
    · have H := H.1 h
      refine ev_iinc (x3 + 1) dX2_countSureWins_35 rfl rfl (by decide) ?_
      refine ev_goto 4 dX2_countSureWins_38 (by decide) ?_
      exact H
    · have H := H.2 h
      refine ev_aload_n dX2_countSureWins_24 rfl ?_
      refine ev_iload_n dX2_countSureWins_25 rfl ?_
      refine ev_callV 4 [.inl x3] dX2_countSureWins_26 co_X2_winsSurely ml_RX2_74 cv_X2_winsSurely (by decide) rfl rfl rfl rfl (by decide) (Nat.le_of_ble_eq_true rfl) rfl H (fun r1 u2 H => ?_)
      refine ev_if_eq 35 dX2_countSureWins_29 (by decide) (fun h => ?_) (fun h => ?_)
      · have H := H.1 h
        refine ev_iinc (x3 + 1) dX2_countSureWins_35 rfl rfl (by decide) ?_
        refine ev_goto 4 dX2_countSureWins_38 (by decide) ?_
        exact H
      · have H := H.2 h
        refine ev_iinc (x2 + 1) dX2_countSureWins_32 rfl rfl (by decide) ?_
        refine ev_iinc (x3 + 1) dX2_countSureWins_35 rfl rfl (by decide) ?_
        refine ev_goto 4 dX2_countSureWins_38 (by decide) ?_
        exact H

set_option maxHeartbeats 4000000 in
set_option maxRecDepth 100000 in
theorem sg_X2_countJousts_0 {d : Nat} {w : ex_WW} {P : Int32 → ex_WW → Prop} {p0 : Int32} (H : ex_Ev d mX2_countJousts 4 [some (.inr 4), some (.inl p0), some (.inl 0), some (.inl 0)] [] w P) : ex_Ev d mX2_countJousts 0 [some (.inr 4), some (.inl p0), none, none] [] w P := by
  refine ev_iconst 0 dX2_countJousts_0 (by decide) ?_
  refine ev_istore_n dX2_countJousts_1 (by decide) ?_
  refine ev_iconst 0 dX2_countJousts_2 (by decide) ?_
  refine ev_istore_n dX2_countJousts_3 (by decide) ?_
  exact H

set_option maxHeartbeats 4000000 in
set_option maxRecDepth 100000 in
theorem sg_X2_countJousts_4 {d : Nat} {w : ex_WW} {P : Int32 → ex_WW → Prop} {x1 : Int32} {x2 : Int32} {x3 : Int32} (H : ((((w 4 6) * 2) ≤ x3 → P x2 w) ∧ (¬ ((w 4 6) * 2) ≤ x3 → (vp_in x3 60 ∧ ((¬ (w 15 x3.toNatClampNeg) = x1 → ex_Ev d mX2_countJousts 4 [some (.inr 4), some (.inl x1), some (.inl x2), some (.inl (x3 + 1))] [] w P) ∧ ((w 15 x3.toNatClampNeg) = x1 → ex_Ev d mX2_countJousts 4 [some (.inr 4), some (.inl x1), some (.inl (x2 + 1)), some (.inl (x3 + 1))] [] w P)))))) : ex_Ev d mX2_countJousts 4 [some (.inr 4), some (.inl x1), some (.inl x2), some (.inl x3)] [] w P := by
  refine ev_iload_n dX2_countJousts_4 rfl ?_
  refine ev_aload_n dX2_countJousts_5 rfl ?_
  refine ev_getI dX2_countJousts_6 (fo_RX2_32 _ rfl) (by decide) rfl rfl ?_
  refine ev_iconst 2 dX2_countJousts_9 (by decide) ?_
  refine ev_imul dX2_countJousts_10 ?_
  refine ev_icmp_ge 33 dX2_countJousts_11 (by decide) (fun h => ?_) (fun h => ?_)
  · have H := H.1 h
    refine ev_iload_n dX2_countJousts_33 rfl ?_
    exact ev_iret dX2_countJousts_34 rfl H
  · have H := H.2 h
    refine ev_aload_n dX2_countJousts_14 rfl ?_
    refine ev_getR dX2_countJousts_15 (fo_RX2_15 _ rfl) (by decide) rfl rfl ?_
    refine ev_iload_n dX2_countJousts_18 rfl ?_
    refine ev_iald dX2_countJousts_19 (by decide) rfl H.1 ?_
    have H := H.2
    refine ev_iload_n dX2_countJousts_20 rfl ?_
    refine ev_icmp_ne 27 dX2_countJousts_21 (by decide) (fun h => ?_) (fun h => ?_)
    · have H := H.1 h
      refine ev_iinc (x3 + 1) dX2_countJousts_27 rfl rfl (by decide) ?_
      refine ev_goto 4 dX2_countJousts_30 (by decide) ?_
      exact H
    · have H := H.2 h
      refine ev_iinc (x2 + 1) dX2_countJousts_24 rfl rfl (by decide) ?_
      refine ev_iinc (x3 + 1) dX2_countJousts_27 rfl rfl (by decide) ?_
      refine ev_goto 4 dX2_countJousts_30 (by decide) ?_
      exact H

set_option maxHeartbeats 4000000 in
set_option maxRecDepth 100000 in
theorem sg_X2_isBetter_0 {d : Nat} {w : ex_WW} {P : Int32 → ex_WW → Prop} {p0 : Int32} {p1 : Int32} (H : ex_Ev d mX2_countSureWins 0 (ex_in [.inr 4, .inl p0] 4) [] w (fun r1 u2 => ex_Ev d mX2_countSureWins 0 (ex_in [.inr 4, .inl p1] 4) [] u2 (fun r3 u4 => ((r1 = r3 → ex_Ev d mX2_countJousts 0 (ex_in [.inr 4, .inl p0] 4) [] u4 (fun r5 u6 => ex_Ev d mX2_countJousts 0 (ex_in [.inr 4, .inl p1] 4) [] u6 (fun r7 u8 => ((r7 ≤ r5 → P 0 u8) ∧ (¬ r7 ≤ r5 → P 1 u8))))) ∧ (¬ r1 = r3 → ((r1 ≤ r3 → P 0 u4) ∧ (¬ r1 ≤ r3 → P 1 u4))))))) : ex_Ev (d + 1) mX2_isBetter 0 [some (.inr 4), some (.inl p0), some (.inl p1), none, none] [] w P := by
  refine ev_aload_n dX2_isBetter_0 rfl ?_
  refine ev_iload_n dX2_isBetter_1 rfl ?_
  refine ev_callV 4 [.inl p0] dX2_isBetter_2 co_X2_countSureWins ml_RX2_78 cv_X2_countSureWins (by decide) rfl rfl rfl rfl (by decide) (Nat.le_of_ble_eq_true rfl) rfl H (fun r1 u2 H => ?_)
  refine ev_istore_n dX2_isBetter_5 (by decide) ?_
  refine ev_aload_n dX2_isBetter_6 rfl ?_
  refine ev_iload_n dX2_isBetter_7 rfl ?_
  refine ev_callV 4 [.inl p1] dX2_isBetter_8 co_X2_countSureWins ml_RX2_78 cv_X2_countSureWins (by decide) rfl rfl rfl rfl (by decide) (Nat.le_of_ble_eq_true rfl) rfl H (fun r3 u4 H => ?_)
  refine ev_istore dX2_isBetter_11 (by decide) ?_
  refine ev_iload_n dX2_isBetter_13 rfl ?_
  refine ev_iload dX2_isBetter_14 rfl ?_
  refine ev_icmp_eq 31 dX2_isBetter_16 (by decide) (fun h => ?_) (fun h => ?_)
  · have H := H.1 h
    refine ev_aload_n dX2_isBetter_31 rfl ?_
    refine ev_iload_n dX2_isBetter_32 rfl ?_
    refine ev_callV 4 [.inl p0] dX2_isBetter_33 co_X2_countJousts ml_RX2_81 cv_X2_countJousts (by decide) rfl rfl rfl rfl (by decide) (Nat.le_of_ble_eq_true rfl) rfl H (fun r5 u6 H => ?_)
    refine ev_aload_n dX2_isBetter_36 rfl ?_
    refine ev_iload_n dX2_isBetter_37 rfl ?_
    refine ev_callV 4 [.inl p1] dX2_isBetter_38 co_X2_countJousts ml_RX2_81 cv_X2_countJousts (by decide) rfl rfl rfl rfl (by decide) (Nat.le_of_ble_eq_true rfl) rfl H (fun r7 u8 H => ?_)
    refine ev_icmp_ge 48 dX2_isBetter_41 (by decide) (fun h => ?_) (fun h => ?_)
    · have H := H.1 h
      refine ev_iconst 0 dX2_isBetter_48 (by decide) ?_
      exact ev_zret dX2_isBetter_49 rfl (by decide) H
    · have H := H.2 h
      refine ev_iconst 1 dX2_isBetter_44 (by decide) ?_
      refine ev_goto 49 dX2_isBetter_45 (by decide) ?_
      exact ev_zret dX2_isBetter_49 rfl (by decide) H
  · have H := H.2 h
    refine ev_iload_n dX2_isBetter_19 rfl ?_
    refine ev_iload dX2_isBetter_20 rfl ?_
    refine ev_icmp_le 29 dX2_isBetter_22 (by decide) (fun h => ?_) (fun h => ?_)
    · have H := H.1 h
      refine ev_iconst 0 dX2_isBetter_29 (by decide) ?_
      exact ev_zret dX2_isBetter_30 rfl (by decide) H
    · have H := H.2 h
      refine ev_iconst 1 dX2_isBetter_25 (by decide) ?_
      refine ev_goto 30 dX2_isBetter_26 (by decide) ?_
      exact ev_zret dX2_isBetter_30 rfl (by decide) H

set_option maxHeartbeats 4000000 in
set_option maxRecDepth 100000 in
theorem sg_X2_ransomOf_0 {d : Nat} {w : ex_WW} {P : Int32 → ex_WW → Prop} {p0 : Int32} (H : ex_Ev d mX2_countOf 0 (ex_in [.inr 4, .inl (p0 ^^^ 1), .inl 4] 5) [] w (fun r1 u2 => ((r1 ≤ 0 → P 0 u2) ∧ (¬ r1 ≤ 0 → (vp_in p0 60 ∧ ex_Ev d mX4_rankOf 0 (ex_in [.inr 1, .inl (u2 15 p0.toNatClampNeg)] 2) [] u2 (fun r3 u4 => P (10 + (10 * r3)) u4)))))) : ex_Ev (d + 1) mX2_ransomOf 0 [some (.inr 4), some (.inl p0), none] [] w P := by
  refine ev_aload_n dX2_ransomOf_0 rfl ?_
  refine ev_iload_n dX2_ransomOf_1 rfl ?_
  refine ev_iconst 1 dX2_ransomOf_2 (by decide) ?_
  refine ev_ixor dX2_ransomOf_3 ?_
  refine ev_iconst 4 dX2_ransomOf_4 (by decide) ?_
  refine ev_callV 4 [.inl (p0 ^^^ 1), .inl 4] dX2_ransomOf_5 co_X2_countOf ml_RX2_84 cv_X2_countOf (by decide) rfl rfl rfl rfl (by decide) (Nat.le_of_ble_eq_true rfl) rfl H (fun r1 u2 H => ?_)
  refine ev_if_le 15 dX2_ransomOf_8 (by decide) (fun h => ?_) (fun h => ?_)
  · have H := H.1 h
    refine ev_iconst 0 dX2_ransomOf_15 (by decide) ?_
    refine ev_istore_n dX2_ransomOf_16 (by decide) ?_
    refine ev_iload_n dX2_ransomOf_17 rfl ?_
    refine ev_if_eq 43 dX2_ransomOf_18 (by decide) (fun _ => ?_) (fun h => absurd (by decide) h)
    refine ev_iconst 0 dX2_ransomOf_43 (by decide) ?_
    exact ev_iret dX2_ransomOf_44 rfl H
  · have H := H.2 h
    refine ev_iconst 1 dX2_ransomOf_11 (by decide) ?_
    refine ev_goto 16 dX2_ransomOf_12 (by decide) ?_
    refine ev_istore_n dX2_ransomOf_16 (by decide) ?_
    refine ev_iload_n dX2_ransomOf_17 rfl ?_
    refine ev_if_eq 43 dX2_ransomOf_18 (by decide) (fun h => absurd h (by decide)) (fun _ => ?_)
    refine ev_bipush 10 dX2_ransomOf_21 (by decide) ?_
    refine ev_bipush 10 dX2_ransomOf_23 (by decide) ?_
    refine ev_aload_n dX2_ransomOf_25 rfl ?_
    refine ev_getR dX2_ransomOf_26 (fo_RX2_24 _ rfl) (by decide) rfl rfl ?_
    refine ev_aload_n dX2_ransomOf_29 rfl ?_
    refine ev_getR dX2_ransomOf_30 (fo_RX2_15 _ rfl) (by decide) rfl rfl ?_
    refine ev_iload_n dX2_ransomOf_33 rfl ?_
    refine ev_iald dX2_ransomOf_34 (by decide) rfl H.1 ?_
    have H := H.2
    refine ev_callV 1 [.inl (u2 15 p0.toNatClampNeg)] dX2_ransomOf_35 co_X4_rankOf ml_RX2_87 cv_X4_rankOf (by decide) rfl rfl rfl rfl (by decide) (Nat.le_of_ble_eq_true rfl) rfl H (fun r3 u4 H => ?_)
    refine ev_imul dX2_ransomOf_38 ?_
    refine ev_iadd dX2_ransomOf_39 ?_
    refine ev_goto 44 dX2_ransomOf_40 (by decide) ?_
    exact ev_iret dX2_ransomOf_44 rfl H

set_option maxHeartbeats 4000000 in
set_option maxRecDepth 100000 in
theorem sg_X2_owedOf_0 {d : Nat} {w : ex_WW} {P : Int32 → ex_WW → Prop} {p0 : Int32} (H : ex_Ev d mX2_ransomOf 0 (ex_in [.inr 4, .inl p0] 3) [] w (fun r1 u2 => (vp_in p0 60 ∧ ex_Ev d mJ9_max_7cf53 0 (ex_in [.inl 0, .inl (r1 - (u2 16 p0.toNatClampNeg))] 2) [] u2 (fun r3 u4 => P r3 u4)))) : ex_Ev (d + 1) mX2_owedOf 0 [some (.inr 4), some (.inl p0)] [] w P := by
  refine ev_iconst 0 dX2_owedOf_0 (by decide) ?_
  refine ev_aload_n dX2_owedOf_1 rfl ?_
  refine ev_iload_n dX2_owedOf_2 rfl ?_
  refine ev_callV 4 [.inl p0] dX2_owedOf_3 co_X2_ransomOf ml_RX2_92 cv_X2_ransomOf (by decide) rfl rfl rfl rfl (by decide) (Nat.le_of_ble_eq_true rfl) rfl H (fun r1 u2 H => ?_)
  refine ev_aload_n dX2_owedOf_6 rfl ?_
  refine ev_getR dX2_owedOf_7 (fo_RX2_18 _ rfl) (by decide) rfl rfl ?_
  refine ev_iload_n dX2_owedOf_10 rfl ?_
  refine ev_iald dX2_owedOf_11 (by decide) rfl H.1 ?_
  have H := H.2
  refine ev_isub dX2_owedOf_12 ?_
  refine ev_callS [.inl 0, .inl (r1 - (u2 16 p0.toNatClampNeg))] dX2_owedOf_13 co_J9_max_7cf53 ml_RX2_95 cs_J9_max_7cf53 rfl rfl (by decide) (Nat.le_of_ble_eq_true rfl) rfl H (fun r3 u4 H => ?_)
  exact ev_iret dX2_owedOf_16 rfl H

set_option maxHeartbeats 4000000 in
set_option maxRecDepth 100000 in
theorem sg_X2_putDown_0 {d : Nat} {w : ex_WW} {P : Int32 → ex_WW → Prop} {p0 : Int32} {p1 : Int32} (H : (vp_in p0 60 ∧ (vp_in p0 60 ∧ P 0 (ex_up w 16 p0.toNatClampNeg ((w 16 p0.toNatClampNeg) + p1))))) : ex_Ev d mX2_putDown 0 [some (.inr 4), some (.inl p0), some (.inl p1)] [] w P := by
  refine ev_aload_n dX2_putDown_0 rfl ?_
  refine ev_getR dX2_putDown_1 (fo_RX2_18 _ rfl) (by decide) rfl rfl ?_
  refine ev_iload_n dX2_putDown_4 rfl ?_
  refine ev_dup2 dX2_putDown_5 ?_
  refine ev_iald dX2_putDown_6 (by decide) rfl H.1 ?_
  have H := H.2
  refine ev_iload_n dX2_putDown_7 rfl ?_
  refine ev_iadd dX2_putDown_8 ?_
  refine ev_iast dX2_putDown_9 (by decide) rfl H.1 ?_
  have H := H.2
  exact ev_vret dX2_putDown_10 rfl H

set_option maxHeartbeats 4000000 in
set_option maxRecDepth 100000 in
theorem sg_X2_owedBy_0 {d : Nat} {w : ex_WW} {P : Int32 → ex_WW → Prop} {p0 : Int32} (H : ex_Ev (d + 1) mX2_owedBy 4 [some (.inr 4), some (.inl p0), some (.inl 0), some (.inl 0)] [] w P) : ex_Ev (d + 1) mX2_owedBy 0 [some (.inr 4), some (.inl p0), none, none] [] w P := by
  refine ev_iconst 0 dX2_owedBy_0 (by decide) ?_
  refine ev_istore_n dX2_owedBy_1 (by decide) ?_
  refine ev_iconst 0 dX2_owedBy_2 (by decide) ?_
  refine ev_istore_n dX2_owedBy_3 (by decide) ?_
  exact H

set_option maxHeartbeats 4000000 in
set_option maxRecDepth 100000 in
theorem sg_X2_owedBy_4 {d : Nat} {w : ex_WW} {P : Int32 → ex_WW → Prop} {x1 : Int32} {x2 : Int32} {x3 : Int32} (H : ((((w 4 6) * 2) ≤ x3 → P x2 w) ∧ (¬ ((w 4 6) * 2) ≤ x3 → (vp_in x3 60 ∧ ((¬ (w 15 x3.toNatClampNeg) = x1 → ex_Ev (d + 1) mX2_owedBy 4 [some (.inr 4), some (.inl x1), some (.inl x2), some (.inl (x3 + 1))] [] w P) ∧ ((w 15 x3.toNatClampNeg) = x1 → ex_Ev d mX2_owedOf 0 (ex_in [.inr 4, .inl x3] 2) [] w (fun r1 u2 => ex_Ev (d + 1) mX2_owedBy 4 [some (.inr 4), some (.inl x1), some (.inl (x2 + r1)), some (.inl (x3 + 1))] [] u2 P))))))) : ex_Ev (d + 1) mX2_owedBy 4 [some (.inr 4), some (.inl x1), some (.inl x2), some (.inl x3)] [] w P := by
  refine ev_iload_n dX2_owedBy_4 rfl ?_
  refine ev_aload_n dX2_owedBy_5 rfl ?_
  refine ev_getI dX2_owedBy_6 (fo_RX2_32 _ rfl) (by decide) rfl rfl ?_
  refine ev_iconst 2 dX2_owedBy_9 (by decide) ?_
  refine ev_imul dX2_owedBy_10 ?_
  refine ev_icmp_ge 38 dX2_owedBy_11 (by decide) (fun h => ?_) (fun h => ?_)
  · have H := H.1 h
    refine ev_iload_n dX2_owedBy_38 rfl ?_
    exact ev_iret dX2_owedBy_39 rfl H
  · have H := H.2 h
    refine ev_aload_n dX2_owedBy_14 rfl ?_
    refine ev_getR dX2_owedBy_15 (fo_RX2_15 _ rfl) (by decide) rfl rfl ?_
    refine ev_iload_n dX2_owedBy_18 rfl ?_
    refine ev_iald dX2_owedBy_19 (by decide) rfl H.1 ?_
    have H := H.2
    refine ev_iload_n dX2_owedBy_20 rfl ?_
    refine ev_icmp_ne 32 dX2_owedBy_21 (by decide) (fun h => ?_) (fun h => ?_)
    · have H := H.1 h
      refine ev_iinc (x3 + 1) dX2_owedBy_32 rfl rfl (by decide) ?_
      refine ev_goto 4 dX2_owedBy_35 (by decide) ?_
      exact H
    · have H := H.2 h
      refine ev_iload_n dX2_owedBy_24 rfl ?_
      refine ev_aload_n dX2_owedBy_25 rfl ?_
      refine ev_iload_n dX2_owedBy_26 rfl ?_
      refine ev_callV 4 [.inl x3] dX2_owedBy_27 co_X2_owedOf ml_RX2_100 cv_X2_owedOf (by decide) rfl rfl rfl rfl (by decide) (Nat.le_of_ble_eq_true rfl) rfl H (fun r1 u2 H => ?_)
      refine ev_iadd dX2_owedBy_30 ?_
      refine ev_istore_n dX2_owedBy_31 (by decide) ?_
      refine ev_iinc (x3 + 1) dX2_owedBy_32 rfl rfl (by decide) ?_
      refine ev_goto 4 dX2_owedBy_35 (by decide) ?_
      exact H

set_option maxHeartbeats 4000000 in
set_option maxRecDepth 100000 in
theorem sg_X2_gainOf_0 {d : Nat} {w : ex_WW} {P : Int32 → ex_WW → Prop} {p0 : Int32} (H : ex_Ev d mX2_gainOf 4 [some (.inr 4), some (.inl p0), some (.inl 0), some (.inl 0)] [] w P) : ex_Ev d mX2_gainOf 0 [some (.inr 4), some (.inl p0), none, none] [] w P := by
  refine ev_iconst 0 dX2_gainOf_0 (by decide) ?_
  refine ev_istore_n dX2_gainOf_1 (by decide) ?_
  refine ev_iconst 0 dX2_gainOf_2 (by decide) ?_
  refine ev_istore_n dX2_gainOf_3 (by decide) ?_
  exact H

set_option maxHeartbeats 4000000 in
set_option maxRecDepth 100000 in
theorem sg_X2_gainOf_4 {d : Nat} {w : ex_WW} {P : Int32 → ex_WW → Prop} {x1 : Int32} {x2 : Int32} {x3 : Int32} (H : ((((w 4 6) * 2) ≤ x3 → P x2 w) ∧ (¬ ((w 4 6) * 2) ≤ x3 → (vp_in x3 60 ∧ ((¬ (w 15 x3.toNatClampNeg) = x1 → ex_Ev d mX2_gainOf 4 [some (.inr 4), some (.inl x1), some (.inl x2), some (.inl (x3 + 1))] [] w P) ∧ ((w 15 x3.toNatClampNeg) = x1 → (vp_in (x3 ^^^ 1) 60 ∧ (vp_in x3 60 ∧ ex_Ev d mX2_gainOf 4 [some (.inr 4), some (.inl x1), some (.inl (x2 + ((w 16 (x3 ^^^ 1).toNatClampNeg) - (w 16 x3.toNatClampNeg)))), some (.inl (x3 + 1))] [] w P)))))))) : ex_Ev d mX2_gainOf 4 [some (.inr 4), some (.inl x1), some (.inl x2), some (.inl x3)] [] w P := by
  refine ev_iload_n dX2_gainOf_4 rfl ?_
  refine ev_aload_n dX2_gainOf_5 rfl ?_
  refine ev_getI dX2_gainOf_6 (fo_RX2_32 _ rfl) (by decide) rfl rfl ?_
  refine ev_iconst 2 dX2_gainOf_9 (by decide) ?_
  refine ev_imul dX2_gainOf_10 ?_
  refine ev_icmp_ge 48 dX2_gainOf_11 (by decide) (fun h => ?_) (fun h => ?_)
  · have H := H.1 h
    refine ev_iload_n dX2_gainOf_48 rfl ?_
    exact ev_iret dX2_gainOf_49 rfl H
  · have H := H.2 h
    refine ev_aload_n dX2_gainOf_14 rfl ?_
    refine ev_getR dX2_gainOf_15 (fo_RX2_15 _ rfl) (by decide) rfl rfl ?_
    refine ev_iload_n dX2_gainOf_18 rfl ?_
    refine ev_iald dX2_gainOf_19 (by decide) rfl H.1 ?_
    have H := H.2
    refine ev_iload_n dX2_gainOf_20 rfl ?_
    refine ev_icmp_ne 42 dX2_gainOf_21 (by decide) (fun h => ?_) (fun h => ?_)
    · have H := H.1 h
      refine ev_iinc (x3 + 1) dX2_gainOf_42 rfl rfl (by decide) ?_
      refine ev_goto 4 dX2_gainOf_45 (by decide) ?_
      exact H
    · have H := H.2 h
      refine ev_iload_n dX2_gainOf_24 rfl ?_
      refine ev_aload_n dX2_gainOf_25 rfl ?_
      refine ev_getR dX2_gainOf_26 (fo_RX2_18 _ rfl) (by decide) rfl rfl ?_
      refine ev_iload_n dX2_gainOf_29 rfl ?_
      refine ev_iconst 1 dX2_gainOf_30 (by decide) ?_
      refine ev_ixor dX2_gainOf_31 ?_
      refine ev_iald dX2_gainOf_32 (by decide) rfl H.1 ?_
      have H := H.2
      refine ev_aload_n dX2_gainOf_33 rfl ?_
      refine ev_getR dX2_gainOf_34 (fo_RX2_18 _ rfl) (by decide) rfl rfl ?_
      refine ev_iload_n dX2_gainOf_37 rfl ?_
      refine ev_iald dX2_gainOf_38 (by decide) rfl H.1 ?_
      have H := H.2
      refine ev_isub dX2_gainOf_39 ?_
      refine ev_iadd dX2_gainOf_40 ?_
      refine ev_istore_n dX2_gainOf_41 (by decide) ?_
      refine ev_iinc (x3 + 1) dX2_gainOf_42 rfl rfl (by decide) ?_
      refine ev_goto 4 dX2_gainOf_45 (by decide) ?_
      exact H

set_option maxHeartbeats 4000000 in
set_option maxRecDepth 100000 in
theorem sg_X2_owedInAll_0 {d : Nat} {w : ex_WW} {P : Int32 → ex_WW → Prop} (H : ex_Ev (d + 1) mX2_owedInAll 4 [some (.inr 4), some (.inl 0), some (.inl 0)] [] w P) : ex_Ev (d + 1) mX2_owedInAll 0 [some (.inr 4), none, none] [] w P := by
  refine ev_iconst 0 dX2_owedInAll_0 (by decide) ?_
  refine ev_istore_n dX2_owedInAll_1 (by decide) ?_
  refine ev_iconst 0 dX2_owedInAll_2 (by decide) ?_
  refine ev_istore_n dX2_owedInAll_3 (by decide) ?_
  exact H

set_option maxHeartbeats 4000000 in
set_option maxRecDepth 100000 in
theorem sg_X2_owedInAll_4 {d : Nat} {w : ex_WW} {P : Int32 → ex_WW → Prop} {x1 : Int32} {x2 : Int32} (H : ((((w 4 6) * 2) ≤ x2 → P x1 w) ∧ (¬ ((w 4 6) * 2) ≤ x2 → ex_Ev d mX2_owedOf 0 (ex_in [.inr 4, .inl x2] 2) [] w (fun r1 u2 => ex_Ev (d + 1) mX2_owedInAll 4 [some (.inr 4), some (.inl (x1 + r1)), some (.inl (x2 + 1))] [] u2 P)))) : ex_Ev (d + 1) mX2_owedInAll 4 [some (.inr 4), some (.inl x1), some (.inl x2)] [] w P := by
  refine ev_iload_n dX2_owedInAll_4 rfl ?_
  refine ev_aload_n dX2_owedInAll_5 rfl ?_
  refine ev_getI dX2_owedInAll_6 (fo_RX2_32 _ rfl) (by decide) rfl rfl ?_
  refine ev_iconst 2 dX2_owedInAll_9 (by decide) ?_
  refine ev_imul dX2_owedInAll_10 ?_
  refine ev_icmp_ge 28 dX2_owedInAll_11 (by decide) (fun h => ?_) (fun h => ?_)
  · have H := H.1 h
    refine ev_iload_n dX2_owedInAll_28 rfl ?_
    exact ev_iret dX2_owedInAll_29 rfl H
  · have H := H.2 h
    refine ev_iload_n dX2_owedInAll_14 rfl ?_
    refine ev_aload_n dX2_owedInAll_15 rfl ?_
    refine ev_iload_n dX2_owedInAll_16 rfl ?_
    refine ev_callV 4 [.inl x2] dX2_owedInAll_17 co_X2_owedOf ml_RX2_100 cv_X2_owedOf (by decide) rfl rfl rfl rfl (by decide) (Nat.le_of_ble_eq_true rfl) rfl H (fun r1 u2 H => ?_)
    refine ev_iadd dX2_owedInAll_20 ?_
    refine ev_istore_n dX2_owedInAll_21 (by decide) ?_
    refine ev_iinc (x2 + 1) dX2_owedInAll_22 rfl rfl (by decide) ?_
    refine ev_goto 4 dX2_owedInAll_25 (by decide) ?_
    exact H

set_option maxHeartbeats 4000000 in
set_option maxRecDepth 100000 in
theorem sg_X2_paidInAll_0 {d : Nat} {w : ex_WW} {P : Int32 → ex_WW → Prop} (H : ex_Ev d mX2_paidInAll 4 [some (.inr 4), some (.inl 0), some (.inl 0)] [] w P) : ex_Ev d mX2_paidInAll 0 [some (.inr 4), none, none] [] w P := by
  refine ev_iconst 0 dX2_paidInAll_0 (by decide) ?_
  refine ev_istore_n dX2_paidInAll_1 (by decide) ?_
  refine ev_iconst 0 dX2_paidInAll_2 (by decide) ?_
  refine ev_istore_n dX2_paidInAll_3 (by decide) ?_
  exact H

set_option maxHeartbeats 4000000 in
set_option maxRecDepth 100000 in
theorem sg_X2_paidInAll_4 {d : Nat} {w : ex_WW} {P : Int32 → ex_WW → Prop} {x1 : Int32} {x2 : Int32} (H : ((((w 4 6) * 2) ≤ x2 → P x1 w) ∧ (¬ ((w 4 6) * 2) ≤ x2 → (vp_in x2 60 ∧ ex_Ev d mX2_paidInAll 4 [some (.inr 4), some (.inl (x1 + (w 16 x2.toNatClampNeg))), some (.inl (x2 + 1))] [] w P)))) : ex_Ev d mX2_paidInAll 4 [some (.inr 4), some (.inl x1), some (.inl x2)] [] w P := by
  refine ev_iload_n dX2_paidInAll_4 rfl ?_
  refine ev_aload_n dX2_paidInAll_5 rfl ?_
  refine ev_getI dX2_paidInAll_6 (fo_RX2_32 _ rfl) (by decide) rfl rfl ?_
  refine ev_iconst 2 dX2_paidInAll_9 (by decide) ?_
  refine ev_imul dX2_paidInAll_10 ?_
  refine ev_icmp_ge 29 dX2_paidInAll_11 (by decide) (fun h => ?_) (fun h => ?_)
  · have H := H.1 h
    refine ev_iload_n dX2_paidInAll_29 rfl ?_
    exact ev_iret dX2_paidInAll_30 rfl H
  · have H := H.2 h
    refine ev_iload_n dX2_paidInAll_14 rfl ?_
    refine ev_aload_n dX2_paidInAll_15 rfl ?_
    refine ev_getR dX2_paidInAll_16 (fo_RX2_18 _ rfl) (by decide) rfl rfl ?_
    refine ev_iload_n dX2_paidInAll_19 rfl ?_
    refine ev_iald dX2_paidInAll_20 (by decide) rfl H.1 ?_
    have H := H.2
    refine ev_iadd dX2_paidInAll_21 ?_
    refine ev_istore_n dX2_paidInAll_22 (by decide) ?_
    refine ev_iinc (x2 + 1) dX2_paidInAll_23 rfl rfl (by decide) ?_
    refine ev_goto 4 dX2_paidInAll_26 (by decide) ?_
    exact H

