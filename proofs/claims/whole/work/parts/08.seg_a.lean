set_option maxHeartbeats 4000000 in
set_option maxRecDepth 100000 in
theorem sg_X4_mayBeRank_0 {d : Nat} {w : ex_WW} {P : Int32 → ex_WW → Prop} {p0 : Int32} (H : ex_Ev d mX6_isWithin 0 (ex_in [.inl p0, .inl 0, .inl 3] 3) [] w (fun r1 u2 => ((r1 = 0 ∨ r1 = 1) ∧ P r1 u2))) : ex_Ev (d + 1) mX4_mayBeRank 0 [some (.inl p0)] [] w P := by
  refine ev_iload_n dX4_mayBeRank_0 rfl ?_
  refine ev_iconst 0 dX4_mayBeRank_1 (by decide) ?_
  refine ev_iconst 3 dX4_mayBeRank_2 (by decide) ?_
  refine ev_callSN [.inl p0, .inl 0, .inl 3] dX4_mayBeRank_3 co_X6_isWithin ⟨rfl, rfl, rfl⟩ cs_X6_isWithin rfl rfl (by decide) (Nat.le_of_ble_eq_true rfl) rfl H (fun r1 u2 H => ?_)
  exact ev_zret dX4_mayBeRank_6 rfl H.1 H.2

set_option maxHeartbeats 4000000 in
set_option maxRecDepth 100000 in
theorem sg_X4_mayBeArms_0 {d : Nat} {w : ex_WW} {P : Int32 → ex_WW → Prop} {p0 : Int32} {p1 : Int32} {p2 : Int32} (H : ex_Ev d mX6_isWithin 0 (ex_in [.inl p0, .inl 0, .inl 5] 3) [] w (fun r1 u2 => ((r1 = 0 → P 0 u2) ∧ (¬ r1 = 0 → ex_Ev d mX6_isWithin 0 (ex_in [.inl p1, .inl 0, .inl 9] 3) [] u2 (fun r3 u4 => ((r3 = 0 → P 0 u4) ∧ (¬ r3 = 0 → ex_Ev d mX6_isWithin 0 (ex_in [.inl p2, .inl 0, .inl 5] 3) [] u4 (fun r5 u6 => ((r5 = 0 → P 0 u6) ∧ (¬ r5 = 0 → P 1 u6)))))))))) : ex_Ev (d + 1) mX4_mayBeArms 0 [some (.inl p0), some (.inl p1), some (.inl p2)] [] w P := by
  refine ev_iload_n dX4_mayBeArms_0 rfl ?_
  refine ev_iconst 0 dX4_mayBeArms_1 (by decide) ?_
  refine ev_iconst 5 dX4_mayBeArms_2 (by decide) ?_
  refine ev_callSN [.inl p0, .inl 0, .inl 5] dX4_mayBeArms_3 co_X6_isWithin ⟨rfl, rfl, rfl⟩ cs_X6_isWithin rfl rfl (by decide) (Nat.le_of_ble_eq_true rfl) rfl H (fun r1 u2 H => ?_)
  refine ev_if_eq 32 dX4_mayBeArms_6 (by decide) (fun h => ?_) (fun h => ?_)
  · have H := H.1 h
    refine ev_iconst 0 dX4_mayBeArms_32 (by decide) ?_
    exact ev_zret dX4_mayBeArms_33 rfl (by decide) H
  · have H := H.2 h
    refine ev_iload_n dX4_mayBeArms_9 rfl ?_
    refine ev_iconst 0 dX4_mayBeArms_10 (by decide) ?_
    refine ev_bipush 9 dX4_mayBeArms_11 (by decide) ?_
    refine ev_callSN [.inl p1, .inl 0, .inl 9] dX4_mayBeArms_13 co_X6_isWithin ⟨rfl, rfl, rfl⟩ cs_X6_isWithin rfl rfl (by decide) (Nat.le_of_ble_eq_true rfl) rfl H (fun r3 u4 H => ?_)
    refine ev_if_eq 32 dX4_mayBeArms_16 (by decide) (fun h => ?_) (fun h => ?_)
    · have H := H.1 h
      refine ev_iconst 0 dX4_mayBeArms_32 (by decide) ?_
      exact ev_zret dX4_mayBeArms_33 rfl (by decide) H
    · have H := H.2 h
      refine ev_iload_n dX4_mayBeArms_19 rfl ?_
      refine ev_iconst 0 dX4_mayBeArms_20 (by decide) ?_
      refine ev_iconst 5 dX4_mayBeArms_21 (by decide) ?_
      refine ev_callSN [.inl p2, .inl 0, .inl 5] dX4_mayBeArms_22 co_X6_isWithin ⟨rfl, rfl, rfl⟩ cs_X6_isWithin rfl rfl (by decide) (Nat.le_of_ble_eq_true rfl) rfl H (fun r5 u6 H => ?_)
      refine ev_if_eq 32 dX4_mayBeArms_25 (by decide) (fun h => ?_) (fun h => ?_)
      · have H := H.1 h
        refine ev_iconst 0 dX4_mayBeArms_32 (by decide) ?_
        exact ev_zret dX4_mayBeArms_33 rfl (by decide) H
      · have H := H.2 h
        refine ev_iconst 1 dX4_mayBeArms_28 (by decide) ?_
        refine ev_goto 33 dX4_mayBeArms_29 (by decide) ?_
        exact ev_zret dX4_mayBeArms_33 rfl (by decide) H

set_option maxHeartbeats 4000000 in
set_option maxRecDepth 100000 in
theorem sg_X4_size_0 {d : Nat} {w : ex_WW} {P : Int32 → ex_WW → Prop} (H : P (w 1 4) w) : ex_Ev d mX4_size 0 [some (.inr 1)] [] w P := by
  refine ev_aload_n dX4_size_0 rfl ?_
  refine ev_getI dX4_size_1 (fo_RX4_28 _ rfl) (by decide) rfl rfl ?_
  exact ev_iret dX4_size_4 rfl H

set_option maxHeartbeats 4000000 in
set_option maxRecDepth 100000 in
theorem sg_X4_isFull_0 {d : Nat} {w : ex_WW} {P : Int32 → ex_WW → Prop} (H : (((w 1 4) < 14 → P 0 w) ∧ (¬ (w 1 4) < 14 → P 1 w))) : ex_Ev d mX4_isFull 0 [some (.inr 1)] [] w P := by
  refine ev_aload_n dX4_isFull_0 rfl ?_
  refine ev_getI dX4_isFull_1 (fo_RX4_28 _ rfl) (by decide) rfl rfl ?_
  refine ev_bipush 14 dX4_isFull_4 (by decide) ?_
  refine ev_icmp_lt 13 dX4_isFull_6 (by decide) (fun h => ?_) (fun h => ?_)
  · have H := H.1 h
    refine ev_iconst 0 dX4_isFull_13 (by decide) ?_
    exact ev_zret dX4_isFull_14 rfl (by decide) H
  · have H := H.2 h
    refine ev_iconst 1 dX4_isFull_9 (by decide) ?_
    refine ev_goto 14 dX4_isFull_10 (by decide) ?_
    exact ev_zret dX4_isFull_14 rfl (by decide) H

set_option maxHeartbeats 4000000 in
set_option maxRecDepth 100000 in
theorem sg_X4_has_0 {d : Nat} {w : ex_WW} {P : Int32 → ex_WW → Prop} {p0 : Int32} (H : ((p0 < 0 → P 0 w) ∧ (¬ p0 < 0 → (((w 1 4) ≤ p0 → P 0 w) ∧ (¬ (w 1 4) ≤ p0 → P 1 w))))) : ex_Ev d mX4_has 0 [some (.inr 1), some (.inl p0)] [] w P := by
  refine ev_iload_n dX4_has_0 rfl ?_
  refine ev_if_lt 16 dX4_has_1 (by decide) (fun h => ?_) (fun h => ?_)
  · have H := H.1 h
    refine ev_iconst 0 dX4_has_16 (by decide) ?_
    exact ev_zret dX4_has_17 rfl (by decide) H
  · have H := H.2 h
    refine ev_iload_n dX4_has_4 rfl ?_
    refine ev_aload_n dX4_has_5 rfl ?_
    refine ev_getI dX4_has_6 (fo_RX4_28 _ rfl) (by decide) rfl rfl ?_
    refine ev_icmp_ge 16 dX4_has_9 (by decide) (fun h => ?_) (fun h => ?_)
    · have H := H.1 h
      refine ev_iconst 0 dX4_has_16 (by decide) ?_
      exact ev_zret dX4_has_17 rfl (by decide) H
    · have H := H.2 h
      refine ev_iconst 1 dX4_has_12 (by decide) ?_
      refine ev_goto 17 dX4_has_13 (by decide) ?_
      exact ev_zret dX4_has_17 rfl (by decide) H

set_option maxHeartbeats 4000000 in
set_option maxRecDepth 100000 in
theorem sg_X4_hasPair_0 {d : Nat} {w : ex_WW} {P : Int32 → ex_WW → Prop} {p0 : Int32} {p1 : Int32} (H : ex_Ev d mX4_has 0 (ex_in [.inr 1, .inl p0] 2) [] w (fun r1 u2 => ((r1 = 0 → P 0 u2) ∧ (¬ r1 = 0 → ex_Ev d mX4_has 0 (ex_in [.inr 1, .inl p1] 2) [] u2 (fun r3 u4 => ((r3 = 0 → P 0 u4) ∧ (¬ r3 = 0 → ((p0 = p1 → P 0 u4) ∧ (¬ p0 = p1 → P 1 u4))))))))) : ex_Ev (d + 1) mX4_hasPair 0 [some (.inr 1), some (.inl p0), some (.inl p1)] [] w P := by
  refine ev_aload_n dX4_hasPair_0 rfl ?_
  refine ev_iload_n dX4_hasPair_1 rfl ?_
  refine ev_callV 1 [.inl p0] dX4_hasPair_2 co_X4_has ml_RX4_32 cv_X4_has (by decide) rfl rfl rfl rfl (by decide) (Nat.le_of_ble_eq_true rfl) rfl H (fun r1 u2 H => ?_)
  refine ev_if_eq 25 dX4_hasPair_5 (by decide) (fun h => ?_) (fun h => ?_)
  · have H := H.1 h
    refine ev_iconst 0 dX4_hasPair_25 (by decide) ?_
    exact ev_zret dX4_hasPair_26 rfl (by decide) H
  · have H := H.2 h
    refine ev_aload_n dX4_hasPair_8 rfl ?_
    refine ev_iload_n dX4_hasPair_9 rfl ?_
    refine ev_callV 1 [.inl p1] dX4_hasPair_10 co_X4_has ml_RX4_32 cv_X4_has (by decide) rfl rfl rfl rfl (by decide) (Nat.le_of_ble_eq_true rfl) rfl H (fun r3 u4 H => ?_)
    refine ev_if_eq 25 dX4_hasPair_13 (by decide) (fun h => ?_) (fun h => ?_)
    · have H := H.1 h
      refine ev_iconst 0 dX4_hasPair_25 (by decide) ?_
      exact ev_zret dX4_hasPair_26 rfl (by decide) H
    · have H := H.2 h
      refine ev_iload_n dX4_hasPair_16 rfl ?_
      refine ev_iload_n dX4_hasPair_17 rfl ?_
      refine ev_icmp_eq 25 dX4_hasPair_18 (by decide) (fun h => ?_) (fun h => ?_)
      · have H := H.1 h
        refine ev_iconst 0 dX4_hasPair_25 (by decide) ?_
        exact ev_zret dX4_hasPair_26 rfl (by decide) H
      · have H := H.2 h
        refine ev_iconst 1 dX4_hasPair_21 (by decide) ?_
        refine ev_goto 26 dX4_hasPair_22 (by decide) ?_
        exact ev_zret dX4_hasPair_26 rfl (by decide) H

set_option maxHeartbeats 4000000 in
set_option maxRecDepth 100000 in
theorem sg_X4_enter_0 {d : Nat} {w : ex_WW} {P : Int32 → ex_WW → Prop} {p0 : Int32} {p1 : Int32} {p2 : Int32} {p3 : Int32} (H : ex_Ev d mX4_raise 0 (ex_in [.inr 1, .inl (w 1 4), .inl p0] 3) [] (ex_up w 1 4 ((w 1 4) + 1)) (fun _ u2 => ex_Ev d mX4_paint 0 (ex_in [.inr 1, .inl (w 1 4), .inl p1, .inl p2, .inl p3] 5) [] u2 (fun _ u4 => P (w 1 4) u4))) : ex_Ev (d + 1) mX4_enter 0 [some (.inr 1), some (.inl p0), some (.inl p1), some (.inl p2), some (.inl p3), none] [] w P := by
  refine ev_aload_n dX4_enter_0 rfl ?_
  refine ev_getI dX4_enter_1 (fo_RX4_28 _ rfl) (by decide) rfl rfl ?_
  refine ev_istore dX4_enter_4 (by decide) ?_
  refine ev_aload_n dX4_enter_6 rfl ?_
  refine ev_dup dX4_enter_7 ?_
  refine ev_getI dX4_enter_8 (fo_RX4_28 _ rfl) (by decide) rfl rfl ?_
  refine ev_iconst 1 dX4_enter_11 (by decide) ?_
  refine ev_iadd dX4_enter_12 ?_
  refine ev_put dX4_enter_13 (fo_RX4_28 _ rfl) fp_4_4 (by decide) rfl rfl (vp_nar_int _) rfl ?_
  refine ev_aload_n dX4_enter_16 rfl ?_
  refine ev_iload dX4_enter_17 rfl ?_
  refine ev_iload_n dX4_enter_19 rfl ?_
  refine ev_callVv 1 [.inl (w 1 4), .inl p0] dX4_enter_20 co_X4_raise ml_RX4_36 cv_X4_raise (by decide) rfl rfl rfl rfl (by decide) (Nat.le_of_ble_eq_true rfl) rfl H (fun u2 H => ?_)
  refine ev_aload_n dX4_enter_23 rfl ?_
  refine ev_iload dX4_enter_24 rfl ?_
  refine ev_iload_n dX4_enter_26 rfl ?_
  refine ev_iload_n dX4_enter_27 rfl ?_
  refine ev_iload dX4_enter_28 rfl ?_
  refine ev_callVv 1 [.inl (w 1 4), .inl p1, .inl p2, .inl p3] dX4_enter_30 co_X4_paint ml_RX4_40 cv_X4_paint (by decide) rfl rfl rfl rfl (by decide) (Nat.le_of_ble_eq_true rfl) rfl H (fun u4 H => ?_)
  refine ev_iload dX4_enter_33 rfl ?_
  exact ev_iret dX4_enter_35 rfl H

set_option maxHeartbeats 4000000 in
set_option maxRecDepth 100000 in
theorem sg_X4_raise_0 {d : Nat} {w : ex_WW} {P : Int32 → ex_WW → Prop} {p0 : Int32} {p1 : Int32} (H : (vp_in p0 14 ∧ P 0 (ex_up w 7 p0.toNatClampNeg p1))) : ex_Ev d mX4_raise 0 [some (.inr 1), some (.inl p0), some (.inl p1)] [] w P := by
  refine ev_aload_n dX4_raise_0 rfl ?_
  refine ev_getR dX4_raise_1 (fo_RX4_9 _ rfl) (by decide) rfl rfl ?_
  refine ev_iload_n dX4_raise_4 rfl ?_
  refine ev_iload_n dX4_raise_5 rfl ?_
  refine ev_iast dX4_raise_6 (by decide) rfl H.1 ?_
  have H := H.2
  exact ev_vret dX4_raise_7 rfl H

set_option maxHeartbeats 4000000 in
set_option maxRecDepth 100000 in
theorem sg_X4_paint_0 {d : Nat} {w : ex_WW} {P : Int32 → ex_WW → Prop} {p0 : Int32} {p1 : Int32} {p2 : Int32} {p3 : Int32} (H : (vp_in p0 14 ∧ (vp_in p0 14 ∧ (vp_in p0 14 ∧ P 0 (ex_up (ex_up (ex_up w 8 p0.toNatClampNeg p1) 9 p0.toNatClampNeg p2) 10 p0.toNatClampNeg p3))))) : ex_Ev d mX4_paint 0 [some (.inr 1), some (.inl p0), some (.inl p1), some (.inl p2), some (.inl p3)] [] w P := by
  refine ev_aload_n dX4_paint_0 rfl ?_
  refine ev_getR dX4_paint_1 (fo_RX4_15 _ rfl) (by decide) rfl rfl ?_
  refine ev_iload_n dX4_paint_4 rfl ?_
  refine ev_iload_n dX4_paint_5 rfl ?_
  refine ev_iast dX4_paint_6 (by decide) rfl H.1 ?_
  have H := H.2
  refine ev_aload_n dX4_paint_7 rfl ?_
  refine ev_getR dX4_paint_8 (fo_RX4_18 _ rfl) (by decide) rfl rfl ?_
  refine ev_iload_n dX4_paint_11 rfl ?_
  refine ev_iload_n dX4_paint_12 rfl ?_
  refine ev_iast dX4_paint_13 (by decide) rfl H.1 ?_
  have H := H.2
  refine ev_aload_n dX4_paint_14 rfl ?_
  refine ev_getR dX4_paint_15 (fo_RX4_21 _ rfl) (by decide) rfl rfl ?_
  refine ev_iload_n dX4_paint_18 rfl ?_
  refine ev_iload dX4_paint_19 rfl ?_
  refine ev_iast dX4_paint_21 (by decide) rfl H.1 ?_
  have H := H.2
  exact ev_vret dX4_paint_22 rfl H

set_option maxHeartbeats 4000000 in
set_option maxRecDepth 100000 in
theorem sg_X4_rankOf_0 {d : Nat} {w : ex_WW} {P : Int32 → ex_WW → Prop} {p0 : Int32} (H : (vp_in p0 14 ∧ P (w 7 p0.toNatClampNeg) w)) : ex_Ev d mX4_rankOf 0 [some (.inr 1), some (.inl p0)] [] w P := by
  refine ev_aload_n dX4_rankOf_0 rfl ?_
  refine ev_getR dX4_rankOf_1 (fo_RX4_9 _ rfl) (by decide) rfl rfl ?_
  refine ev_iload_n dX4_rankOf_4 rfl ?_
  refine ev_iald dX4_rankOf_5 (by decide) rfl H.1 ?_
  have H := H.2
  exact ev_iret dX4_rankOf_6 rfl H

set_option maxHeartbeats 4000000 in
set_option maxRecDepth 100000 in
theorem sg_X4_fieldOf_0 {d : Nat} {w : ex_WW} {P : Int32 → ex_WW → Prop} {p0 : Int32} (H : (vp_in p0 14 ∧ P (w 8 p0.toNatClampNeg) w)) : ex_Ev d mX4_fieldOf 0 [some (.inr 1), some (.inl p0)] [] w P := by
  refine ev_aload_n dX4_fieldOf_0 rfl ?_
  refine ev_getR dX4_fieldOf_1 (fo_RX4_15 _ rfl) (by decide) rfl rfl ?_
  refine ev_iload_n dX4_fieldOf_4 rfl ?_
  refine ev_iald dX4_fieldOf_5 (by decide) rfl H.1 ?_
  have H := H.2
  exact ev_iret dX4_fieldOf_6 rfl H

set_option maxHeartbeats 4000000 in
set_option maxRecDepth 100000 in
theorem sg_X4_chargeOf_0 {d : Nat} {w : ex_WW} {P : Int32 → ex_WW → Prop} {p0 : Int32} (H : (vp_in p0 14 ∧ P (w 9 p0.toNatClampNeg) w)) : ex_Ev d mX4_chargeOf 0 [some (.inr 1), some (.inl p0)] [] w P := by
  refine ev_aload_n dX4_chargeOf_0 rfl ?_
  refine ev_getR dX4_chargeOf_1 (fo_RX4_18 _ rfl) (by decide) rfl rfl ?_
  refine ev_iload_n dX4_chargeOf_4 rfl ?_
  refine ev_iald dX4_chargeOf_5 (by decide) rfl H.1 ?_
  have H := H.2
  exact ev_iret dX4_chargeOf_6 rfl H

set_option maxHeartbeats 4000000 in
set_option maxRecDepth 100000 in
theorem sg_X4_tinctureOf_0 {d : Nat} {w : ex_WW} {P : Int32 → ex_WW → Prop} {p0 : Int32} (H : (vp_in p0 14 ∧ P (w 10 p0.toNatClampNeg) w)) : ex_Ev d mX4_tinctureOf 0 [some (.inr 1), some (.inl p0)] [] w P := by
  refine ev_aload_n dX4_tinctureOf_0 rfl ?_
  refine ev_getR dX4_tinctureOf_1 (fo_RX4_21 _ rfl) (by decide) rfl rfl ?_
  refine ev_iload_n dX4_tinctureOf_4 rfl ?_
  refine ev_iald dX4_tinctureOf_5 (by decide) rfl H.1 ?_
  have H := H.2
  exact ev_iret dX4_tinctureOf_6 rfl H

set_option maxHeartbeats 4000000 in
set_option maxRecDepth 100000 in
theorem sg_X4_areNear_0 {d : Nat} {w : ex_WW} {P : Int32 → ex_WW → Prop} {p0 : Int32} {p1 : Int32} (H : (vp_in p0 14 ∧ (vp_in p1 14 ∧ ((¬ (w 8 p0.toNatClampNeg) = (w 8 p1.toNatClampNeg) → (vp_in p0 14 ∧ (vp_in p1 14 ∧ ((¬ (w 9 p0.toNatClampNeg) = (w 9 p1.toNatClampNeg) → (vp_in p0 14 ∧ (vp_in p1 14 ∧ ((¬ (w 10 p0.toNatClampNeg) = (w 10 p1.toNatClampNeg) → P 0 w) ∧ ((w 10 p0.toNatClampNeg) = (w 10 p1.toNatClampNeg) → P 0 w))))) ∧ ((w 9 p0.toNatClampNeg) = (w 9 p1.toNatClampNeg) → (vp_in p0 14 ∧ (vp_in p1 14 ∧ ((¬ (w 10 p0.toNatClampNeg) = (w 10 p1.toNatClampNeg) → P 0 w) ∧ ((w 10 p0.toNatClampNeg) = (w 10 p1.toNatClampNeg) → P 1 w))))))))) ∧ ((w 8 p0.toNatClampNeg) = (w 8 p1.toNatClampNeg) → (vp_in p0 14 ∧ (vp_in p1 14 ∧ ((¬ (w 9 p0.toNatClampNeg) = (w 9 p1.toNatClampNeg) → (vp_in p0 14 ∧ (vp_in p1 14 ∧ ((¬ (w 10 p0.toNatClampNeg) = (w 10 p1.toNatClampNeg) → P 0 w) ∧ ((w 10 p0.toNatClampNeg) = (w 10 p1.toNatClampNeg) → P 1 w))))) ∧ ((w 9 p0.toNatClampNeg) = (w 9 p1.toNatClampNeg) → (vp_in p0 14 ∧ (vp_in p1 14 ∧ ((¬ (w 10 p0.toNatClampNeg) = (w 10 p1.toNatClampNeg) → P 1 w) ∧ ((w 10 p0.toNatClampNeg) = (w 10 p1.toNatClampNeg) → P 1 w))))))))))))) : ex_Ev d mX4_areNear 0 [some (.inr 1), some (.inl p0), some (.inl p1), none] [] w P := by
  refine ev_iconst 0 dX4_areNear_0 (by decide) ?_
  refine ev_istore_n dX4_areNear_1 (by decide) ?_
  refine ev_aload_n dX4_areNear_2 rfl ?_
  refine ev_getR dX4_areNear_3 (fo_RX4_15 _ rfl) (by decide) rfl rfl ?_
  refine ev_iload_n dX4_areNear_6 rfl ?_
  refine ev_iald dX4_areNear_7 (by decide) rfl H.1 ?_
  have H := H.2
  refine ev_aload_n dX4_areNear_8 rfl ?_
  refine ev_getR dX4_areNear_9 (fo_RX4_15 _ rfl) (by decide) rfl rfl ?_
  refine ev_iload_n dX4_areNear_12 rfl ?_
  refine ev_iald dX4_areNear_13 (by decide) rfl H.1 ?_
  have H := H.2
  refine ev_icmp_ne 20 dX4_areNear_14 (by decide) (fun h => ?_) (fun h => ?_)
  · have H := H.1 h
    refine ev_aload_n dX4_areNear_20 rfl ?_
    refine ev_getR dX4_areNear_21 (fo_RX4_18 _ rfl) (by decide) rfl rfl ?_
    refine ev_iload_n dX4_areNear_24 rfl ?_
    refine ev_iald dX4_areNear_25 (by decide) rfl H.1 ?_
    have H := H.2
    refine ev_aload_n dX4_areNear_26 rfl ?_
    refine ev_getR dX4_areNear_27 (fo_RX4_18 _ rfl) (by decide) rfl rfl ?_
    refine ev_iload_n dX4_areNear_30 rfl ?_
    refine ev_iald dX4_areNear_31 (by decide) rfl H.1 ?_
    have H := H.2
    refine ev_icmp_ne 38 dX4_areNear_32 (by decide) (fun h => ?_) (fun h => ?_)
    · have H := H.1 h
      refine ev_aload_n dX4_areNear_38 rfl ?_
      refine ev_getR dX4_areNear_39 (fo_RX4_21 _ rfl) (by decide) rfl rfl ?_
      refine ev_iload_n dX4_areNear_42 rfl ?_
      refine ev_iald dX4_areNear_43 (by decide) rfl H.1 ?_
      have H := H.2
      refine ev_aload_n dX4_areNear_44 rfl ?_
      refine ev_getR dX4_areNear_45 (fo_RX4_21 _ rfl) (by decide) rfl rfl ?_
      refine ev_iload_n dX4_areNear_48 rfl ?_
      refine ev_iald dX4_areNear_49 (by decide) rfl H.1 ?_
      have H := H.2
      refine ev_icmp_ne 56 dX4_areNear_50 (by decide) (fun h => ?_) (fun h => ?_)
      · have H := H.1 h
        refine ev_iload_n dX4_areNear_56 rfl ?_
        refine ev_iconst 2 dX4_areNear_57 (by decide) ?_
        refine ev_icmp_lt 65 dX4_areNear_58 (by decide) (fun _ => ?_) (fun h => absurd (by decide) h)
        refine ev_iconst 0 dX4_areNear_65 (by decide) ?_
        exact ev_zret dX4_areNear_66 rfl (by decide) H
      · have H := H.2 h
        refine ev_iinc (0 + 1) dX4_areNear_53 rfl rfl (by decide) ?_
        refine ev_iload_n dX4_areNear_56 rfl ?_
        refine ev_iconst 2 dX4_areNear_57 (by decide) ?_
        refine ev_icmp_lt 65 dX4_areNear_58 (by decide) (fun _ => ?_) (fun h => absurd (by decide) h)
        refine ev_iconst 0 dX4_areNear_65 (by decide) ?_
        exact ev_zret dX4_areNear_66 rfl (by decide) H
    · have H := H.2 h
      refine ev_iinc (0 + 1) dX4_areNear_35 rfl rfl (by decide) ?_
      refine ev_aload_n dX4_areNear_38 rfl ?_
      refine ev_getR dX4_areNear_39 (fo_RX4_21 _ rfl) (by decide) rfl rfl ?_
      refine ev_iload_n dX4_areNear_42 rfl ?_
      refine ev_iald dX4_areNear_43 (by decide) rfl H.1 ?_
      have H := H.2
      refine ev_aload_n dX4_areNear_44 rfl ?_
      refine ev_getR dX4_areNear_45 (fo_RX4_21 _ rfl) (by decide) rfl rfl ?_
      refine ev_iload_n dX4_areNear_48 rfl ?_
      refine ev_iald dX4_areNear_49 (by decide) rfl H.1 ?_
      have H := H.2
      refine ev_icmp_ne 56 dX4_areNear_50 (by decide) (fun h => ?_) (fun h => ?_)
      · have H := H.1 h
        refine ev_iload_n dX4_areNear_56 rfl ?_
        refine ev_iconst 2 dX4_areNear_57 (by decide) ?_
        refine ev_icmp_lt 65 dX4_areNear_58 (by decide) (fun _ => ?_) (fun h => absurd (by decide) h)
        refine ev_iconst 0 dX4_areNear_65 (by decide) ?_
        exact ev_zret dX4_areNear_66 rfl (by decide) H
      · have H := H.2 h
        refine ev_iinc ((0 + 1) + 1) dX4_areNear_53 rfl rfl (by decide) ?_
        refine ev_iload_n dX4_areNear_56 rfl ?_
        refine ev_iconst 2 dX4_areNear_57 (by decide) ?_
        refine ev_icmp_lt 65 dX4_areNear_58 (by decide) (fun h => absurd h (by decide)) (fun _ => ?_)
        refine ev_iconst 1 dX4_areNear_61 (by decide) ?_
        refine ev_goto 66 dX4_areNear_62 (by decide) ?_
        exact ev_zret dX4_areNear_66 rfl (by decide) H
  · have H := H.2 h
    refine ev_iinc (0 + 1) dX4_areNear_17 rfl rfl (by decide) ?_
    refine ev_aload_n dX4_areNear_20 rfl ?_
    refine ev_getR dX4_areNear_21 (fo_RX4_18 _ rfl) (by decide) rfl rfl ?_
    refine ev_iload_n dX4_areNear_24 rfl ?_
    refine ev_iald dX4_areNear_25 (by decide) rfl H.1 ?_
    have H := H.2
    refine ev_aload_n dX4_areNear_26 rfl ?_
    refine ev_getR dX4_areNear_27 (fo_RX4_18 _ rfl) (by decide) rfl rfl ?_
    refine ev_iload_n dX4_areNear_30 rfl ?_
    refine ev_iald dX4_areNear_31 (by decide) rfl H.1 ?_
    have H := H.2
    refine ev_icmp_ne 38 dX4_areNear_32 (by decide) (fun h => ?_) (fun h => ?_)
    · have H := H.1 h
      refine ev_aload_n dX4_areNear_38 rfl ?_
      refine ev_getR dX4_areNear_39 (fo_RX4_21 _ rfl) (by decide) rfl rfl ?_
      refine ev_iload_n dX4_areNear_42 rfl ?_
      refine ev_iald dX4_areNear_43 (by decide) rfl H.1 ?_
      have H := H.2
      refine ev_aload_n dX4_areNear_44 rfl ?_
      refine ev_getR dX4_areNear_45 (fo_RX4_21 _ rfl) (by decide) rfl rfl ?_
      refine ev_iload_n dX4_areNear_48 rfl ?_
      refine ev_iald dX4_areNear_49 (by decide) rfl H.1 ?_
      have H := H.2
      refine ev_icmp_ne 56 dX4_areNear_50 (by decide) (fun h => ?_) (fun h => ?_)
      · have H := H.1 h
        refine ev_iload_n dX4_areNear_56 rfl ?_
        refine ev_iconst 2 dX4_areNear_57 (by decide) ?_
        refine ev_icmp_lt 65 dX4_areNear_58 (by decide) (fun _ => ?_) (fun h => absurd (by decide) h)
        refine ev_iconst 0 dX4_areNear_65 (by decide) ?_
        exact ev_zret dX4_areNear_66 rfl (by decide) H
      · have H := H.2 h
        refine ev_iinc ((0 + 1) + 1) dX4_areNear_53 rfl rfl (by decide) ?_
        refine ev_iload_n dX4_areNear_56 rfl ?_
        refine ev_iconst 2 dX4_areNear_57 (by decide) ?_
        refine ev_icmp_lt 65 dX4_areNear_58 (by decide) (fun h => absurd h (by decide)) (fun _ => ?_)
        refine ev_iconst 1 dX4_areNear_61 (by decide) ?_
        refine ev_goto 66 dX4_areNear_62 (by decide) ?_
        exact ev_zret dX4_areNear_66 rfl (by decide) H
    · have H := H.2 h
      refine ev_iinc ((0 + 1) + 1) dX4_areNear_35 rfl rfl (by decide) ?_
      refine ev_aload_n dX4_areNear_38 rfl ?_
      refine ev_getR dX4_areNear_39 (fo_RX4_21 _ rfl) (by decide) rfl rfl ?_
      refine ev_iload_n dX4_areNear_42 rfl ?_
      refine ev_iald dX4_areNear_43 (by decide) rfl H.1 ?_
      have H := H.2
      refine ev_aload_n dX4_areNear_44 rfl ?_
      refine ev_getR dX4_areNear_45 (fo_RX4_21 _ rfl) (by decide) rfl rfl ?_
      refine ev_iload_n dX4_areNear_48 rfl ?_
      refine ev_iald dX4_areNear_49 (by decide) rfl H.1 ?_
      have H := H.2
      refine ev_icmp_ne 56 dX4_areNear_50 (by decide) (fun h => ?_) (fun h => ?_)
      · have H := H.1 h
        refine ev_iload_n dX4_areNear_56 rfl ?_
        refine ev_iconst 2 dX4_areNear_57 (by decide) ?_
        refine ev_icmp_lt 65 dX4_areNear_58 (by decide) (fun h => absurd h (by decide)) (fun _ => ?_)
        refine ev_iconst 1 dX4_areNear_61 (by decide) ?_
        refine ev_goto 66 dX4_areNear_62 (by decide) ?_
        exact ev_zret dX4_areNear_66 rfl (by decide) H
      · have H := H.2 h
        refine ev_iinc (((0 + 1) + 1) + 1) dX4_areNear_53 rfl rfl (by decide) ?_
        refine ev_iload_n dX4_areNear_56 rfl ?_
        refine ev_iconst 2 dX4_areNear_57 (by decide) ?_
        refine ev_icmp_lt 65 dX4_areNear_58 (by decide) (fun h => absurd h (by decide)) (fun _ => ?_)
        refine ev_iconst 1 dX4_areNear_61 (by decide) ?_
        refine ev_goto 66 dX4_areNear_62 (by decide) ?_
        exact ev_zret dX4_areNear_66 rfl (by decide) H

set_option maxHeartbeats 4000000 in
set_option maxRecDepth 100000 in
theorem sg_X4_yieldsTo_0 {d : Nat} {w : ex_WW} {P : Int32 → ex_WW → Prop} {p0 : Int32} {p1 : Int32} (H : ((p0 = p1 → P 0 w) ∧ (¬ p0 = p1 → ex_Ev d mX4_areNear 0 (ex_in [.inr 1, .inl p0, .inl p1] 4) [] w (fun r1 u2 => ((¬ r1 = 0 → (vp_in p0 14 ∧ (vp_in p1 14 ∧ ((¬ (u2 7 p0.toNatClampNeg) = (u2 7 p1.toNatClampNeg) → (vp_in p0 14 ∧ (vp_in p1 14 ∧ (((u2 7 p1.toNatClampNeg) ≤ (u2 7 p0.toNatClampNeg) → P 0 u2) ∧ (¬ (u2 7 p1.toNatClampNeg) ≤ (u2 7 p0.toNatClampNeg) → P 1 u2))))) ∧ ((u2 7 p0.toNatClampNeg) = (u2 7 p1.toNatClampNeg) → ((p0 ≤ p1 → P 0 u2) ∧ (¬ p0 ≤ p1 → P 1 u2))))))) ∧ (r1 = 0 → P 0 u2)))))) : ex_Ev (d + 1) mX4_yieldsTo 0 [some (.inr 1), some (.inl p0), some (.inl p1)] [] w P := by
  refine ev_iload_n dX4_yieldsTo_0 rfl ?_
  refine ev_iload_n dX4_yieldsTo_1 rfl ?_
  refine ev_icmp_eq 14 dX4_yieldsTo_2 (by decide) (fun h => ?_) (fun h => ?_)
  · have H := H.1 h
    refine ev_iconst 0 dX4_yieldsTo_14 (by decide) ?_
    exact ev_zret dX4_yieldsTo_15 rfl (by decide) H
  · have H := H.2 h
    refine ev_aload_n dX4_yieldsTo_5 rfl ?_
    refine ev_iload_n dX4_yieldsTo_6 rfl ?_
    refine ev_iload_n dX4_yieldsTo_7 rfl ?_
    refine ev_callV 1 [.inl p0, .inl p1] dX4_yieldsTo_8 co_X4_areNear ml_RX4_44 cv_X4_areNear (by decide) rfl rfl rfl rfl (by decide) (Nat.le_of_ble_eq_true rfl) rfl H (fun r1 u2 H => ?_)
    refine ev_if_ne 16 dX4_yieldsTo_11 (by decide) (fun h => ?_) (fun h => ?_)
    · have H := H.1 h
      refine ev_aload_n dX4_yieldsTo_16 rfl ?_
      refine ev_getR dX4_yieldsTo_17 (fo_RX4_9 _ rfl) (by decide) rfl rfl ?_
      refine ev_iload_n dX4_yieldsTo_20 rfl ?_
      refine ev_iald dX4_yieldsTo_21 (by decide) rfl H.1 ?_
      have H := H.2
      refine ev_aload_n dX4_yieldsTo_22 rfl ?_
      refine ev_getR dX4_yieldsTo_23 (fo_RX4_9 _ rfl) (by decide) rfl rfl ?_
      refine ev_iload_n dX4_yieldsTo_26 rfl ?_
      refine ev_iald dX4_yieldsTo_27 (by decide) rfl H.1 ?_
      have H := H.2
      refine ev_icmp_ne 42 dX4_yieldsTo_28 (by decide) (fun h => ?_) (fun h => ?_)
      · have H := H.1 h
        refine ev_aload_n dX4_yieldsTo_42 rfl ?_
        refine ev_getR dX4_yieldsTo_43 (fo_RX4_9 _ rfl) (by decide) rfl rfl ?_
        refine ev_iload_n dX4_yieldsTo_46 rfl ?_
        refine ev_iald dX4_yieldsTo_47 (by decide) rfl H.1 ?_
        have H := H.2
        refine ev_aload_n dX4_yieldsTo_48 rfl ?_
        refine ev_getR dX4_yieldsTo_49 (fo_RX4_9 _ rfl) (by decide) rfl rfl ?_
        refine ev_iload_n dX4_yieldsTo_52 rfl ?_
        refine ev_iald dX4_yieldsTo_53 (by decide) rfl H.1 ?_
        have H := H.2
        refine ev_icmp_ge 61 dX4_yieldsTo_54 (by decide) (fun h => ?_) (fun h => ?_)
        · have H := H.1 h
          refine ev_iconst 0 dX4_yieldsTo_61 (by decide) ?_
          exact ev_zret dX4_yieldsTo_62 rfl (by decide) H
        · have H := H.2 h
          refine ev_iconst 1 dX4_yieldsTo_57 (by decide) ?_
          refine ev_goto 62 dX4_yieldsTo_58 (by decide) ?_
          exact ev_zret dX4_yieldsTo_62 rfl (by decide) H
      · have H := H.2 h
        refine ev_iload_n dX4_yieldsTo_31 rfl ?_
        refine ev_iload_n dX4_yieldsTo_32 rfl ?_
        refine ev_icmp_le 40 dX4_yieldsTo_33 (by decide) (fun h => ?_) (fun h => ?_)
        · have H := H.1 h
          refine ev_iconst 0 dX4_yieldsTo_40 (by decide) ?_
          exact ev_zret dX4_yieldsTo_41 rfl (by decide) H
        · have H := H.2 h
          refine ev_iconst 1 dX4_yieldsTo_36 (by decide) ?_
          refine ev_goto 41 dX4_yieldsTo_37 (by decide) ?_
          exact ev_zret dX4_yieldsTo_41 rfl (by decide) H
    · have H := H.2 h
      refine ev_iconst 0 dX4_yieldsTo_14 (by decide) ?_
      exact ev_zret dX4_yieldsTo_15 rfl (by decide) H

set_option maxHeartbeats 4000000 in
set_option maxRecDepth 100000 in
theorem sg_X4_leastYieldedTo_0 {d : Nat} {w : ex_WW} {P : Int32 → ex_WW → Prop} {p0 : Int32} (H : ex_Ev (d + 1) mX4_leastYieldedTo 2 [some (.inr 1), some (.inl p0), some (.inl 0)] [] w P) : ex_Ev (d + 1) mX4_leastYieldedTo 0 [some (.inr 1), some (.inl p0), none] [] w P := by
  refine ev_iconst 0 dX4_leastYieldedTo_0 (by decide) ?_
  refine ev_istore_n dX4_leastYieldedTo_1 (by decide) ?_
  exact H

set_option maxHeartbeats 4000000 in
set_option maxRecDepth 100000 in
theorem sg_X4_leastYieldedTo_2 {d : Nat} {w : ex_WW} {P : Int32 → ex_WW → Prop} {x1 : Int32} {x2 : Int32} (H : (((w 1 4) ≤ x2 → P (-2) w) ∧ (¬ (w 1 4) ≤ x2 → ex_Ev d mX4_yieldsTo 0 (ex_in [.inr 1, .inl x1, .inl x2] 3) [] w (fun r1 u2 => ((r1 = 0 → ex_Ev (d + 1) mX4_leastYieldedTo 2 [some (.inr 1), some (.inl x1), some (.inl (x2 + 1))] [] u2 P) ∧ (¬ r1 = 0 → P x2 u2)))))) : ex_Ev (d + 1) mX4_leastYieldedTo 2 [some (.inr 1), some (.inl x1), some (.inl x2)] [] w P := by
  refine ev_iload_n dX4_leastYieldedTo_2 rfl ?_
  refine ev_aload_n dX4_leastYieldedTo_3 rfl ?_
  refine ev_getI dX4_leastYieldedTo_4 (fo_RX4_28 _ rfl) (by decide) rfl rfl ?_
  refine ev_icmp_ge 27 dX4_leastYieldedTo_7 (by decide) (fun h => ?_) (fun h => ?_)
  · have H := H.1 h
    refine ev_bipush (-2) dX4_leastYieldedTo_27 (by decide) ?_
    exact ev_iret dX4_leastYieldedTo_29 rfl H
  · have H := H.2 h
    refine ev_aload_n dX4_leastYieldedTo_10 rfl ?_
    refine ev_iload_n dX4_leastYieldedTo_11 rfl ?_
    refine ev_iload_n dX4_leastYieldedTo_12 rfl ?_
    refine ev_callV 1 [.inl x1, .inl x2] dX4_leastYieldedTo_13 co_X4_yieldsTo ml_RX4_48 cv_X4_yieldsTo (by decide) rfl rfl rfl rfl (by decide) (Nat.le_of_ble_eq_true rfl) rfl H (fun r1 u2 H => ?_)
    refine ev_if_eq 21 dX4_leastYieldedTo_16 (by decide) (fun h => ?_) (fun h => ?_)
    · have H := H.1 h
      refine ev_iinc (x2 + 1) dX4_leastYieldedTo_21 rfl rfl (by decide) ?_
      refine ev_goto 2 dX4_leastYieldedTo_24 (by decide) ?_
      exact H
    · have H := H.2 h
      refine ev_iload_n dX4_leastYieldedTo_19 rfl ?_
      exact ev_iret dX4_leastYieldedTo_20 rfl H

set_option maxHeartbeats 4000000 in
set_option maxRecDepth 100000 in
theorem sg_X4_canRide_0 {d : Nat} {w : ex_WW} {P : Int32 → ex_WW → Prop} {p0 : Int32} (H : ex_Ev d mX4_leastYieldedTo 0 (ex_in [.inr 1, .inl p0] 3) [] w (fun r1 u2 => ((¬ r1 = (-2) → P 0 u2) ∧ (r1 = (-2) → P 1 u2)))) : ex_Ev (d + 1) mX4_canRide 0 [some (.inr 1), some (.inl p0)] [] w P := by
  refine ev_aload_n dX4_canRide_0 rfl ?_
  refine ev_iload_n dX4_canRide_1 rfl ?_
  refine ev_callV 1 [.inl p0] dX4_canRide_2 co_X4_leastYieldedTo ml_RX4_51 cv_X4_leastYieldedTo (by decide) rfl rfl rfl rfl (by decide) (Nat.le_of_ble_eq_true rfl) rfl H (fun r1 u2 H => ?_)
  refine ev_bipush (-2) dX4_canRide_5 (by decide) ?_
  refine ev_icmp_ne 14 dX4_canRide_7 (by decide) (fun h => ?_) (fun h => ?_)
  · have H := H.1 h
    refine ev_iconst 0 dX4_canRide_14 (by decide) ?_
    exact ev_zret dX4_canRide_15 rfl (by decide) H
  · have H := H.2 h
    refine ev_iconst 1 dX4_canRide_10 (by decide) ?_
    refine ev_goto 15 dX4_canRide_11 (by decide) ?_
    exact ev_zret dX4_canRide_15 rfl (by decide) H

set_option maxHeartbeats 4000000 in
set_option maxRecDepth 100000 in
theorem sg_X4_countNear_0 {d : Nat} {w : ex_WW} {P : Int32 → ex_WW → Prop} (H : ex_Ev (d + 1) mX4_countNear 4 [some (.inr 1), some (.inl 0), some (.inl 0), none] [] w P) : ex_Ev (d + 1) mX4_countNear 0 [some (.inr 1), none, none, none] [] w P := by
  refine ev_iconst 0 dX4_countNear_0 (by decide) ?_
  refine ev_istore_n dX4_countNear_1 (by decide) ?_
  refine ev_iconst 0 dX4_countNear_2 (by decide) ?_
  refine ev_istore_n dX4_countNear_3 (by decide) ?_
  exact H

set_option maxHeartbeats 4000000 in
set_option maxRecDepth 100000 in
theorem sg_X4_countNear_4 {d : Nat} {w : ex_WW} {P : Int32 → ex_WW → Prop} {x1 : Int32} {x2 : Int32} (H : (((w 1 4) ≤ x2 → P x1 w) ∧ (¬ (w 1 4) ≤ x2 → ex_Ev (d + 1) mX4_countNear 16 [some (.inr 1), some (.inl x1), some (.inl x2), some (.inl (x2 + 1))] [] w P))) : ex_Ev (d + 1) mX4_countNear 4 [some (.inr 1), some (.inl x1), some (.inl x2), none] [] w P := by
  refine ev_iload_n dX4_countNear_4 rfl ?_
  refine ev_aload_n dX4_countNear_5 rfl ?_
  refine ev_getI dX4_countNear_6 (fo_RX4_28 _ rfl) (by decide) rfl rfl ?_
  refine ev_icmp_ge 48 dX4_countNear_9 (by decide) (fun h => ?_) (fun h => ?_)
  · have H := H.1 h
    refine ev_iload_n dX4_countNear_48 rfl ?_
    exact ev_iret dX4_countNear_49 rfl H
  · have H := H.2 h
    refine ev_iload_n dX4_countNear_12 rfl ?_
    refine ev_iconst 1 dX4_countNear_13 (by decide) ?_
    refine ev_iadd dX4_countNear_14 ?_
    refine ev_istore_n dX4_countNear_15 (by decide) ?_
    exact H

set_option maxHeartbeats 4000000 in
set_option maxRecDepth 100000 in
theorem sg_X4_countNear_16 {d : Nat} {w : ex_WW} {P : Int32 → ex_WW → Prop} {x1 : Int32} {x2 : Int32} {x3 : Int32} (H : (((w 1 4) ≤ x3 → ex_Ev (d + 1) mX4_countNear 4 [some (.inr 1), some (.inl x1), some (.inl (x2 + 1)), none] [] w P) ∧ (¬ (w 1 4) ≤ x3 → ex_Ev d mX4_areNear 0 (ex_in [.inr 1, .inl x2, .inl x3] 4) [] w (fun r1 u2 => ((r1 = 0 → ex_Ev (d + 1) mX4_countNear 16 [some (.inr 1), some (.inl x1), some (.inl x2), some (.inl (x3 + 1))] [] u2 P) ∧ (¬ r1 = 0 → ex_Ev (d + 1) mX4_countNear 16 [some (.inr 1), some (.inl (x1 + 1)), some (.inl x2), some (.inl (x3 + 1))] [] u2 P)))))) : ex_Ev (d + 1) mX4_countNear 16 [some (.inr 1), some (.inl x1), some (.inl x2), some (.inl x3)] [] w P := by
  refine ev_iload_n dX4_countNear_16 rfl ?_
  refine ev_aload_n dX4_countNear_17 rfl ?_
  refine ev_getI dX4_countNear_18 (fo_RX4_28 _ rfl) (by decide) rfl rfl ?_
  refine ev_icmp_ge 42 dX4_countNear_21 (by decide) (fun h => ?_) (fun h => ?_)
  · have H := H.1 h
    refine ev_iinc (x2 + 1) dX4_countNear_42 rfl rfl (by decide) ?_
    refine ev_goto 4 dX4_countNear_45 (by decide) ?_
    refine ev_drop 3 ?_
    exact H
  · have H := H.2 h
    refine ev_aload_n dX4_countNear_24 rfl ?_
    refine ev_iload_n dX4_countNear_25 rfl ?_
    refine ev_iload_n dX4_countNear_26 rfl ?_
    refine ev_callV 1 [.inl x2, .inl x3] dX4_countNear_27 co_X4_areNear ml_RX4_44 cv_X4_areNear (by decide) rfl rfl rfl rfl (by decide) (Nat.le_of_ble_eq_true rfl) rfl H (fun r1 u2 H => ?_)
    refine ev_if_eq 36 dX4_countNear_30 (by decide) (fun h => ?_) (fun h => ?_)
    · have H := H.1 h
      refine ev_iinc (x3 + 1) dX4_countNear_36 rfl rfl (by decide) ?_
      refine ev_goto 16 dX4_countNear_39 (by decide) ?_
      exact H
    · have H := H.2 h
      refine ev_iinc (x1 + 1) dX4_countNear_33 rfl rfl (by decide) ?_
      refine ev_iinc (x3 + 1) dX4_countNear_36 rfl rfl (by decide) ?_
      refine ev_goto 16 dX4_countNear_39 (by decide) ?_
      exact H

set_option maxHeartbeats 4000000 in
set_option maxRecDepth 100000 in
theorem sg_X4_countRiders_0 {d : Nat} {w : ex_WW} {P : Int32 → ex_WW → Prop} (H : ex_Ev (d + 1) mX4_countRiders 4 [some (.inr 1), some (.inl 0), some (.inl 0)] [] w P) : ex_Ev (d + 1) mX4_countRiders 0 [some (.inr 1), none, none] [] w P := by
  refine ev_iconst 0 dX4_countRiders_0 (by decide) ?_
  refine ev_istore_n dX4_countRiders_1 (by decide) ?_
  refine ev_iconst 0 dX4_countRiders_2 (by decide) ?_
  refine ev_istore_n dX4_countRiders_3 (by decide) ?_
  exact H

set_option maxHeartbeats 4000000 in
set_option maxRecDepth 100000 in
theorem sg_X4_countRiders_4 {d : Nat} {w : ex_WW} {P : Int32 → ex_WW → Prop} {x1 : Int32} {x2 : Int32} (H : (((w 1 4) ≤ x2 → P x1 w) ∧ (¬ (w 1 4) ≤ x2 → ex_Ev d mX4_canRide 0 (ex_in [.inr 1, .inl x2] 2) [] w (fun r1 u2 => ((r1 = 0 → ex_Ev (d + 1) mX4_countRiders 4 [some (.inr 1), some (.inl x1), some (.inl (x2 + 1))] [] u2 P) ∧ (¬ r1 = 0 → ex_Ev (d + 1) mX4_countRiders 4 [some (.inr 1), some (.inl (x1 + 1)), some (.inl (x2 + 1))] [] u2 P)))))) : ex_Ev (d + 1) mX4_countRiders 4 [some (.inr 1), some (.inl x1), some (.inl x2)] [] w P := by
  refine ev_iload_n dX4_countRiders_4 rfl ?_
  refine ev_aload_n dX4_countRiders_5 rfl ?_
  refine ev_getI dX4_countRiders_6 (fo_RX4_28 _ rfl) (by decide) rfl rfl ?_
  refine ev_icmp_ge 29 dX4_countRiders_9 (by decide) (fun h => ?_) (fun h => ?_)
  · have H := H.1 h
    refine ev_iload_n dX4_countRiders_29 rfl ?_
    exact ev_iret dX4_countRiders_30 rfl H
  · have H := H.2 h
    refine ev_aload_n dX4_countRiders_12 rfl ?_
    refine ev_iload_n dX4_countRiders_13 rfl ?_
    refine ev_callV 1 [.inl x2] dX4_countRiders_14 co_X4_canRide ml_RX4_55 cv_X4_canRide (by decide) rfl rfl rfl rfl (by decide) (Nat.le_of_ble_eq_true rfl) rfl H (fun r1 u2 H => ?_)
    refine ev_if_eq 23 dX4_countRiders_17 (by decide) (fun h => ?_) (fun h => ?_)
    · have H := H.1 h
      refine ev_iinc (x2 + 1) dX4_countRiders_23 rfl rfl (by decide) ?_
      refine ev_goto 4 dX4_countRiders_26 (by decide) ?_
      exact H
    · have H := H.2 h
      refine ev_iinc (x1 + 1) dX4_countRiders_20 rfl rfl (by decide) ?_
      refine ev_iinc (x2 + 1) dX4_countRiders_23 rfl rfl (by decide) ?_
      refine ev_goto 4 dX4_countRiders_26 (by decide) ?_
      exact H

set_option maxHeartbeats 4000000 in
set_option maxRecDepth 100000 in
theorem sg_J6_bitCount_0f7a4_0 {d : Nat} {w : ex_WW} {P : Int32 → ex_WW → Prop} {p0 : Int32} (H : P ((((((((p0 - (((Int32.toUInt32 p0 >>> (Int32.toUInt32 1 &&& Int32.toUInt32 31)).toInt32) &&& 1431655765)) &&& 858993459) + (((Int32.toUInt32 (p0 - (((Int32.toUInt32 p0 >>> (Int32.toUInt32 1 &&& Int32.toUInt32 31)).toInt32) &&& 1431655765)) >>> (Int32.toUInt32 2 &&& Int32.toUInt32 31)).toInt32) &&& 858993459)) + ((Int32.toUInt32 (((p0 - (((Int32.toUInt32 p0 >>> (Int32.toUInt32 1 &&& Int32.toUInt32 31)).toInt32) &&& 1431655765)) &&& 858993459) + (((Int32.toUInt32 (p0 - (((Int32.toUInt32 p0 >>> (Int32.toUInt32 1 &&& Int32.toUInt32 31)).toInt32) &&& 1431655765)) >>> (Int32.toUInt32 2 &&& Int32.toUInt32 31)).toInt32) &&& 858993459)) >>> (Int32.toUInt32 4 &&& Int32.toUInt32 31)).toInt32)) &&& 252645135) + ((Int32.toUInt32 (((((p0 - (((Int32.toUInt32 p0 >>> (Int32.toUInt32 1 &&& Int32.toUInt32 31)).toInt32) &&& 1431655765)) &&& 858993459) + (((Int32.toUInt32 (p0 - (((Int32.toUInt32 p0 >>> (Int32.toUInt32 1 &&& Int32.toUInt32 31)).toInt32) &&& 1431655765)) >>> (Int32.toUInt32 2 &&& Int32.toUInt32 31)).toInt32) &&& 858993459)) + ((Int32.toUInt32 (((p0 - (((Int32.toUInt32 p0 >>> (Int32.toUInt32 1 &&& Int32.toUInt32 31)).toInt32) &&& 1431655765)) &&& 858993459) + (((Int32.toUInt32 (p0 - (((Int32.toUInt32 p0 >>> (Int32.toUInt32 1 &&& Int32.toUInt32 31)).toInt32) &&& 1431655765)) >>> (Int32.toUInt32 2 &&& Int32.toUInt32 31)).toInt32) &&& 858993459)) >>> (Int32.toUInt32 4 &&& Int32.toUInt32 31)).toInt32)) &&& 252645135) >>> (Int32.toUInt32 8 &&& Int32.toUInt32 31)).toInt32)) + ((Int32.toUInt32 ((((((p0 - (((Int32.toUInt32 p0 >>> (Int32.toUInt32 1 &&& Int32.toUInt32 31)).toInt32) &&& 1431655765)) &&& 858993459) + (((Int32.toUInt32 (p0 - (((Int32.toUInt32 p0 >>> (Int32.toUInt32 1 &&& Int32.toUInt32 31)).toInt32) &&& 1431655765)) >>> (Int32.toUInt32 2 &&& Int32.toUInt32 31)).toInt32) &&& 858993459)) + ((Int32.toUInt32 (((p0 - (((Int32.toUInt32 p0 >>> (Int32.toUInt32 1 &&& Int32.toUInt32 31)).toInt32) &&& 1431655765)) &&& 858993459) + (((Int32.toUInt32 (p0 - (((Int32.toUInt32 p0 >>> (Int32.toUInt32 1 &&& Int32.toUInt32 31)).toInt32) &&& 1431655765)) >>> (Int32.toUInt32 2 &&& Int32.toUInt32 31)).toInt32) &&& 858993459)) >>> (Int32.toUInt32 4 &&& Int32.toUInt32 31)).toInt32)) &&& 252645135) + ((Int32.toUInt32 (((((p0 - (((Int32.toUInt32 p0 >>> (Int32.toUInt32 1 &&& Int32.toUInt32 31)).toInt32) &&& 1431655765)) &&& 858993459) + (((Int32.toUInt32 (p0 - (((Int32.toUInt32 p0 >>> (Int32.toUInt32 1 &&& Int32.toUInt32 31)).toInt32) &&& 1431655765)) >>> (Int32.toUInt32 2 &&& Int32.toUInt32 31)).toInt32) &&& 858993459)) + ((Int32.toUInt32 (((p0 - (((Int32.toUInt32 p0 >>> (Int32.toUInt32 1 &&& Int32.toUInt32 31)).toInt32) &&& 1431655765)) &&& 858993459) + (((Int32.toUInt32 (p0 - (((Int32.toUInt32 p0 >>> (Int32.toUInt32 1 &&& Int32.toUInt32 31)).toInt32) &&& 1431655765)) >>> (Int32.toUInt32 2 &&& Int32.toUInt32 31)).toInt32) &&& 858993459)) >>> (Int32.toUInt32 4 &&& Int32.toUInt32 31)).toInt32)) &&& 252645135) >>> (Int32.toUInt32 8 &&& Int32.toUInt32 31)).toInt32)) >>> (Int32.toUInt32 16 &&& Int32.toUInt32 31)).toInt32)) &&& 63) w) : ex_Ev d mJ6_bitCount_0f7a4 0 [some (.inl p0)] [] w P := by
  refine ev_iload_n dJ6_bitCount_0f7a4_0 rfl ?_
  refine ev_iload_n dJ6_bitCount_0f7a4_1 rfl ?_
  refine ev_iconst 1 dJ6_bitCount_0f7a4_2 (by decide) ?_
  refine ev_iushr dJ6_bitCount_0f7a4_3 ?_
  refine ev_ldcw 1431655765 dJ6_bitCount_0f7a4_4 (ex_mem 692 (by decide +kernel) rfl) ?_
  refine ev_iand dJ6_bitCount_0f7a4_7 ?_
  refine ev_isub dJ6_bitCount_0f7a4_8 ?_
  refine ev_istore_n dJ6_bitCount_0f7a4_9 (by decide) ?_
  refine ev_iload_n dJ6_bitCount_0f7a4_10 rfl ?_
  refine ev_ldcw 858993459 dJ6_bitCount_0f7a4_11 (ex_mem 693 (by decide +kernel) rfl) ?_
  refine ev_iand dJ6_bitCount_0f7a4_14 ?_
  refine ev_iload_n dJ6_bitCount_0f7a4_15 rfl ?_
  refine ev_iconst 2 dJ6_bitCount_0f7a4_16 (by decide) ?_
  refine ev_iushr dJ6_bitCount_0f7a4_17 ?_
  refine ev_ldcw 858993459 dJ6_bitCount_0f7a4_18 (ex_mem 693 (by decide +kernel) rfl) ?_
  refine ev_iand dJ6_bitCount_0f7a4_21 ?_
  refine ev_iadd dJ6_bitCount_0f7a4_22 ?_
  refine ev_istore_n dJ6_bitCount_0f7a4_23 (by decide) ?_
  refine ev_iload_n dJ6_bitCount_0f7a4_24 rfl ?_
  refine ev_iload_n dJ6_bitCount_0f7a4_25 rfl ?_
  refine ev_iconst 4 dJ6_bitCount_0f7a4_26 (by decide) ?_
  refine ev_iushr dJ6_bitCount_0f7a4_27 ?_
  refine ev_iadd dJ6_bitCount_0f7a4_28 ?_
  refine ev_ldcw 252645135 dJ6_bitCount_0f7a4_29 (ex_mem 694 (by decide +kernel) rfl) ?_
  refine ev_iand dJ6_bitCount_0f7a4_32 ?_
  refine ev_istore_n dJ6_bitCount_0f7a4_33 (by decide) ?_
  refine ev_iload_n dJ6_bitCount_0f7a4_34 rfl ?_
  refine ev_iload_n dJ6_bitCount_0f7a4_35 rfl ?_
  refine ev_bipush 8 dJ6_bitCount_0f7a4_36 (by decide) ?_
  refine ev_iushr dJ6_bitCount_0f7a4_38 ?_
  refine ev_iadd dJ6_bitCount_0f7a4_39 ?_
  refine ev_istore_n dJ6_bitCount_0f7a4_40 (by decide) ?_
  refine ev_iload_n dJ6_bitCount_0f7a4_41 rfl ?_
  refine ev_iload_n dJ6_bitCount_0f7a4_42 rfl ?_
  refine ev_bipush 16 dJ6_bitCount_0f7a4_43 (by decide) ?_
  refine ev_iushr dJ6_bitCount_0f7a4_45 ?_
  refine ev_iadd dJ6_bitCount_0f7a4_46 ?_
  refine ev_istore_n dJ6_bitCount_0f7a4_47 (by decide) ?_
  refine ev_iload_n dJ6_bitCount_0f7a4_48 rfl ?_
  refine ev_bipush 63 dJ6_bitCount_0f7a4_49 (by decide) ?_
  refine ev_iand dJ6_bitCount_0f7a4_51 ?_
  exact ev_iret dJ6_bitCount_0f7a4_52 rfl H

set_option maxHeartbeats 4000000 in
set_option maxRecDepth 100000 in
theorem sg_J9_floorDiv_7cf53_0 {d : Nat} {w : ex_WW} {P : Int32 → ex_WW → Prop} {p0 : Int32} {p1 : Int32} (H : (¬ p1 = 0 ∧ ((0 ≤ (p0 ^^^ p1) → P (p0 / p1) w) ∧ (¬ 0 ≤ (p0 ^^^ p1) → ((((p0 / p1) * p1) = p0 → P (p0 / p1) w) ∧ (¬ ((p0 / p1) * p1) = p0 → P ((p0 / p1) - 1) w)))))) : ex_Ev d mJ9_floorDiv_7cf53 0 [some (.inl p0), some (.inl p1), none] [] w P := by
  refine ev_iload_n dJ9_floorDiv_7cf53_0 rfl ?_
  refine ev_iload_n dJ9_floorDiv_7cf53_1 rfl ?_
  refine ev_idiv dJ9_floorDiv_7cf53_2 H.1 ?_
  have H := H.2
  refine ev_istore_n dJ9_floorDiv_7cf53_3 (by decide) ?_
  refine ev_iload_n dJ9_floorDiv_7cf53_4 rfl ?_
  refine ev_iload_n dJ9_floorDiv_7cf53_5 rfl ?_
  refine ev_ixor dJ9_floorDiv_7cf53_6 ?_
  refine ev_if_ge 21 dJ9_floorDiv_7cf53_7 (by decide) (fun h => ?_) (fun h => ?_)
  · have H := H.1 h
    refine ev_iload_n dJ9_floorDiv_7cf53_21 rfl ?_
    exact ev_iret dJ9_floorDiv_7cf53_22 rfl H
  · have H := H.2 h
    refine ev_iload_n dJ9_floorDiv_7cf53_10 rfl ?_
    refine ev_iload_n dJ9_floorDiv_7cf53_11 rfl ?_
    refine ev_imul dJ9_floorDiv_7cf53_12 ?_
    refine ev_iload_n dJ9_floorDiv_7cf53_13 rfl ?_
    refine ev_icmp_eq 21 dJ9_floorDiv_7cf53_14 (by decide) (fun h => ?_) (fun h => ?_)
    · have H := H.1 h
      refine ev_iload_n dJ9_floorDiv_7cf53_21 rfl ?_
      exact ev_iret dJ9_floorDiv_7cf53_22 rfl H
    · have H := H.2 h
      refine ev_iload_n dJ9_floorDiv_7cf53_17 rfl ?_
      refine ev_iconst 1 dJ9_floorDiv_7cf53_18 (by decide) ?_
      refine ev_isub dJ9_floorDiv_7cf53_19 ?_
      exact ev_iret dJ9_floorDiv_7cf53_20 rfl H

set_option maxHeartbeats 4000000 in
set_option maxRecDepth 100000 in
theorem sg_J9_abs_0f7a4_0 {d : Nat} {w : ex_WW} {P : Int32 → ex_WW → Prop} {p0 : Int32} (H : ((0 ≤ p0 → P p0 w) ∧ (¬ 0 ≤ p0 → P (0 - p0) w))) : ex_Ev d mJ9_abs_0f7a4 0 [some (.inl p0)] [] w P := by
  refine ev_iload_n dJ9_abs_0f7a4_0 rfl ?_
  refine ev_if_ge 9 dJ9_abs_0f7a4_1 (by decide) (fun h => ?_) (fun h => ?_)
  · have H := H.1 h
    refine ev_iload_n dJ9_abs_0f7a4_9 rfl ?_
    exact ev_iret dJ9_abs_0f7a4_10 rfl H
  · have H := H.2 h
    refine ev_iload_n dJ9_abs_0f7a4_4 rfl ?_
    refine ev_ineg dJ9_abs_0f7a4_5 ?_
    refine ev_goto 10 dJ9_abs_0f7a4_6 (by decide) ?_
    exact ev_iret dJ9_abs_0f7a4_10 rfl H

set_option maxHeartbeats 4000000 in
set_option maxRecDepth 100000 in
theorem sg_J9_max_7cf53_0 {d : Nat} {w : ex_WW} {P : Int32 → ex_WW → Prop} {p0 : Int32} {p1 : Int32} (H : ((p0 < p1 → P p1 w) ∧ (¬ p0 < p1 → P p0 w))) : ex_Ev d mJ9_max_7cf53 0 [some (.inl p0), some (.inl p1)] [] w P := by
  refine ev_iload_n dJ9_max_7cf53_0 rfl ?_
  refine ev_iload_n dJ9_max_7cf53_1 rfl ?_
  refine ev_icmp_lt 9 dJ9_max_7cf53_2 (by decide) (fun h => ?_) (fun h => ?_)
  · have H := H.1 h
    refine ev_iload_n dJ9_max_7cf53_9 rfl ?_
    exact ev_iret dJ9_max_7cf53_10 rfl H
  · have H := H.2 h
    refine ev_iload_n dJ9_max_7cf53_5 rfl ?_
    refine ev_goto 10 dJ9_max_7cf53_6 (by decide) ?_
    exact ev_iret dJ9_max_7cf53_10 rfl H

set_option maxHeartbeats 4000000 in
set_option maxRecDepth 100000 in
theorem sg_J9_min_7cf53_0 {d : Nat} {w : ex_WW} {P : Int32 → ex_WW → Prop} {p0 : Int32} {p1 : Int32} (H : ((p1 < p0 → P p1 w) ∧ (¬ p1 < p0 → P p0 w))) : ex_Ev d mJ9_min_7cf53 0 [some (.inl p0), some (.inl p1)] [] w P := by
  refine ev_iload_n dJ9_min_7cf53_0 rfl ?_
  refine ev_iload_n dJ9_min_7cf53_1 rfl ?_
  refine ev_icmp_gt 9 dJ9_min_7cf53_2 (by decide) (fun h => ?_) (fun h => ?_)
  · have H := H.1 h
    refine ev_iload_n dJ9_min_7cf53_9 rfl ?_
    exact ev_iret dJ9_min_7cf53_10 rfl H
  · have H := H.2 h
    refine ev_iload_n dJ9_min_7cf53_5 rfl ?_
    refine ev_goto 10 dJ9_min_7cf53_6 (by decide) ?_
    exact ev_iret dJ9_min_7cf53_10 rfl H

