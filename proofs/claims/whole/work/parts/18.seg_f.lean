set_option maxHeartbeats 4000000 in
set_option maxRecDepth 100000 in
theorem sg_X7_in_0 {d : Nat} {w : ex_WW} {P : Int32 → ex_WW → Prop} {p0 : Int32} {p1 : Int32} {p2 : Int32} (H : ((p0 < p1 → P 0 w) ∧ (¬ p0 < p1 → ((p2 < p0 → P 0 w) ∧ (¬ p2 < p0 → P 1 w))))) : ex_Ev d mX7_in 0 [some (.inl p0), some (.inl p1), some (.inl p2)] [] w P := by
  refine ev_iload_n dX7_in_0 rfl ?_
  refine ev_iload_n dX7_in_1 rfl ?_
  refine ev_icmp_lt 14 dX7_in_2 (by decide) (fun h => ?_) (fun h => ?_)
  · have H := H.1 h
    refine ev_iconst 0 dX7_in_14 (by decide) ?_
    exact ev_zret dX7_in_15 rfl (by decide) H
  · have H := H.2 h
    refine ev_iload_n dX7_in_5 rfl ?_
    refine ev_iload_n dX7_in_6 rfl ?_
    refine ev_icmp_gt 14 dX7_in_7 (by decide) (fun h => ?_) (fun h => ?_)
    · have H := H.1 h
      refine ev_iconst 0 dX7_in_14 (by decide) ?_
      exact ev_zret dX7_in_15 rfl (by decide) H
    · have H := H.2 h
      refine ev_iconst 1 dX7_in_10 (by decide) ?_
      refine ev_goto 15 dX7_in_11 (by decide) ?_
      exact ev_zret dX7_in_15 rfl (by decide) H

set_option maxHeartbeats 4000000 in
set_option maxRecDepth 100000 in
theorem sg_X7_isKnight_0 {d : Nat} {w : ex_WW} {P : Int32 → ex_WW → Prop} {p0 : Int32} (H : ex_Ev d mX7_in 0 (ex_in [.inl p0, .inl 0, .inl ((w 23 0) - 1)] 3) [] w (fun r1 u2 => ((r1 = 0 ∨ r1 = 1) ∧ P r1 u2))) : ex_Ev (d + 1) mX7_isKnight 0 [some (.inr 23), some (.inl p0)] [] w P := by
  refine ev_iload_n dX7_isKnight_0 rfl ?_
  refine ev_iconst 0 dX7_isKnight_1 (by decide) ?_
  refine ev_aload_n dX7_isKnight_2 rfl ?_
  refine ev_getI dX7_isKnight_3 (fo_RX7_69 _ rfl) (by decide) rfl rfl ?_
  refine ev_iconst 1 dX7_isKnight_6 (by decide) ?_
  refine ev_isub dX7_isKnight_7 ?_
  refine ev_callS [.inl p0, .inl 0, .inl ((w 23 0) - 1)] dX7_isKnight_8 co_X7_in ml_RX7_72 cs_X7_in rfl rfl (by decide) (Nat.le_of_ble_eq_true rfl) rfl H (fun r1 u2 H => ?_)
  exact ev_zret dX7_isKnight_11 rfl H.1 H.2

set_option maxHeartbeats 4000000 in
set_option maxRecDepth 100000 in
theorem sg_X7_areTwo_0 {d : Nat} {w : ex_WW} {P : Int32 → ex_WW → Prop} {p0 : Int32} {p1 : Int32} (H : ex_Ev d mX7_isKnight 0 (ex_in [.inr 23, .inl p0] 2) [] w (fun r1 u2 => ((r1 = 0 → P 0 u2) ∧ (¬ r1 = 0 → ex_Ev d mX7_isKnight 0 (ex_in [.inr 23, .inl p1] 2) [] u2 (fun r3 u4 => ((r3 = 0 → P 0 u4) ∧ (¬ r3 = 0 → ((p0 = p1 → P 0 u4) ∧ (¬ p0 = p1 → P 1 u4))))))))) : ex_Ev (d + 1) mX7_areTwo 0 [some (.inr 23), some (.inl p0), some (.inl p1)] [] w P := by
  refine ev_aload_n dX7_areTwo_0 rfl ?_
  refine ev_iload_n dX7_areTwo_1 rfl ?_
  refine ev_callV 23 [.inl p0] dX7_areTwo_2 co_X7_isKnight ml_RX7_76 cv_X7_isKnight (by decide) rfl rfl rfl rfl (by decide) (Nat.le_of_ble_eq_true rfl) rfl H (fun r1 u2 H => ?_)
  refine ev_if_eq 25 dX7_areTwo_5 (by decide) (fun h => ?_) (fun h => ?_)
  · have H := H.1 h
    refine ev_iconst 0 dX7_areTwo_25 (by decide) ?_
    exact ev_zret dX7_areTwo_26 rfl (by decide) H
  · have H := H.2 h
    refine ev_aload_n dX7_areTwo_8 rfl ?_
    refine ev_iload_n dX7_areTwo_9 rfl ?_
    refine ev_callV 23 [.inl p1] dX7_areTwo_10 co_X7_isKnight ml_RX7_76 cv_X7_isKnight (by decide) rfl rfl rfl rfl (by decide) (Nat.le_of_ble_eq_true rfl) rfl H (fun r3 u4 H => ?_)
    refine ev_if_eq 25 dX7_areTwo_13 (by decide) (fun h => ?_) (fun h => ?_)
    · have H := H.1 h
      refine ev_iconst 0 dX7_areTwo_25 (by decide) ?_
      exact ev_zret dX7_areTwo_26 rfl (by decide) H
    · have H := H.2 h
      refine ev_iload_n dX7_areTwo_16 rfl ?_
      refine ev_iload_n dX7_areTwo_17 rfl ?_
      refine ev_icmp_eq 25 dX7_areTwo_18 (by decide) (fun h => ?_) (fun h => ?_)
      · have H := H.1 h
        refine ev_iconst 0 dX7_areTwo_25 (by decide) ?_
        exact ev_zret dX7_areTwo_26 rfl (by decide) H
      · have H := H.2 h
        refine ev_iconst 1 dX7_areTwo_21 (by decide) ?_
        refine ev_goto 26 dX7_areTwo_22 (by decide) ?_
        exact ev_zret dX7_areTwo_26 rfl (by decide) H

set_option maxHeartbeats 4000000 in
set_option maxRecDepth 100000 in
theorem sg_X7_isJoust_0 {d : Nat} {w : ex_WW} {P : Int32 → ex_WW → Prop} {p0 : Int32} (H : ex_Ev d mX7_in 0 (ex_in [.inl p0, .inl 0, .inl ((w 23 10) - 1)] 3) [] w (fun r1 u2 => ((r1 = 0 ∨ r1 = 1) ∧ P r1 u2))) : ex_Ev (d + 1) mX7_isJoust 0 [some (.inr 23), some (.inl p0)] [] w P := by
  refine ev_iload_n dX7_isJoust_0 rfl ?_
  refine ev_iconst 0 dX7_isJoust_1 (by decide) ?_
  refine ev_aload_n dX7_isJoust_2 rfl ?_
  refine ev_getI dX7_isJoust_3 (fo_RX7_80 _ rfl) (by decide) rfl rfl ?_
  refine ev_iconst 1 dX7_isJoust_6 (by decide) ?_
  refine ev_isub dX7_isJoust_7 ?_
  refine ev_callS [.inl p0, .inl 0, .inl ((w 23 10) - 1)] dX7_isJoust_8 co_X7_in ml_RX7_72 cs_X7_in rfl rfl (by decide) (Nat.le_of_ble_eq_true rfl) rfl H (fun r1 u2 H => ?_)
  exact ev_zret dX7_isJoust_11 rfl H.1 H.2

set_option maxHeartbeats 4000000 in
set_option maxRecDepth 100000 in
theorem sg_X7_isSide_0 {d : Nat} {w : ex_WW} {P : Int32 → ex_WW → Prop} {p0 : Int32} (H : ex_Ev d mX7_in 0 (ex_in [.inl p0, .inl 0, .inl 1] 3) [] w (fun r1 u2 => ((r1 = 0 ∨ r1 = 1) ∧ P r1 u2))) : ex_Ev (d + 1) mX7_isSide 0 [some (.inl p0)] [] w P := by
  refine ev_iload_n dX7_isSide_0 rfl ?_
  refine ev_iconst 0 dX7_isSide_1 (by decide) ?_
  refine ev_iconst 1 dX7_isSide_2 (by decide) ?_
  refine ev_callS [.inl p0, .inl 0, .inl 1] dX7_isSide_3 co_X7_in ml_RX7_72 cs_X7_in rfl rfl (by decide) (Nat.le_of_ble_eq_true rfl) rfl H (fun r1 u2 H => ?_)
  exact ev_zret dX7_isSide_6 rfl H.1 H.2

set_option maxHeartbeats 4000000 in
set_option maxRecDepth 100000 in
theorem sg_X7_areArms_0 {d : Nat} {w : ex_WW} {P : Int32 → ex_WW → Prop} {p0 : Int32} {p1 : Int32} {p2 : Int32} (H : ex_Ev d mX7_in 0 (ex_in [.inl p0, .inl 0, .inl 5] 3) [] w (fun r1 u2 => ((r1 = 0 → P 0 u2) ∧ (¬ r1 = 0 → ex_Ev d mX7_in 0 (ex_in [.inl p1, .inl 0, .inl 9] 3) [] u2 (fun r3 u4 => ((r3 = 0 → P 0 u4) ∧ (¬ r3 = 0 → ex_Ev d mX7_in 0 (ex_in [.inl p2, .inl 0, .inl 5] 3) [] u4 (fun r5 u6 => ((r5 = 0 → P 0 u6) ∧ (¬ r5 = 0 → P 1 u6)))))))))) : ex_Ev (d + 1) mX7_areArms 0 [some (.inl p0), some (.inl p1), some (.inl p2)] [] w P := by
  refine ev_iload_n dX7_areArms_0 rfl ?_
  refine ev_iconst 0 dX7_areArms_1 (by decide) ?_
  refine ev_iconst 5 dX7_areArms_2 (by decide) ?_
  refine ev_callS [.inl p0, .inl 0, .inl 5] dX7_areArms_3 co_X7_in ml_RX7_72 cs_X7_in rfl rfl (by decide) (Nat.le_of_ble_eq_true rfl) rfl H (fun r1 u2 H => ?_)
  refine ev_if_eq 32 dX7_areArms_6 (by decide) (fun h => ?_) (fun h => ?_)
  · have H := H.1 h
    refine ev_iconst 0 dX7_areArms_32 (by decide) ?_
    exact ev_zret dX7_areArms_33 rfl (by decide) H
  · have H := H.2 h
    refine ev_iload_n dX7_areArms_9 rfl ?_
    refine ev_iconst 0 dX7_areArms_10 (by decide) ?_
    refine ev_bipush 9 dX7_areArms_11 (by decide) ?_
    refine ev_callS [.inl p1, .inl 0, .inl 9] dX7_areArms_13 co_X7_in ml_RX7_72 cs_X7_in rfl rfl (by decide) (Nat.le_of_ble_eq_true rfl) rfl H (fun r3 u4 H => ?_)
    refine ev_if_eq 32 dX7_areArms_16 (by decide) (fun h => ?_) (fun h => ?_)
    · have H := H.1 h
      refine ev_iconst 0 dX7_areArms_32 (by decide) ?_
      exact ev_zret dX7_areArms_33 rfl (by decide) H
    · have H := H.2 h
      refine ev_iload_n dX7_areArms_19 rfl ?_
      refine ev_iconst 0 dX7_areArms_20 (by decide) ?_
      refine ev_iconst 5 dX7_areArms_21 (by decide) ?_
      refine ev_callS [.inl p2, .inl 0, .inl 5] dX7_areArms_22 co_X7_in ml_RX7_72 cs_X7_in rfl rfl (by decide) (Nat.le_of_ble_eq_true rfl) rfl H (fun r5 u6 H => ?_)
      refine ev_if_eq 32 dX7_areArms_25 (by decide) (fun h => ?_) (fun h => ?_)
      · have H := H.1 h
        refine ev_iconst 0 dX7_areArms_32 (by decide) ?_
        exact ev_zret dX7_areArms_33 rfl (by decide) H
      · have H := H.2 h
        refine ev_iconst 1 dX7_areArms_28 (by decide) ?_
        refine ev_goto 33 dX7_areArms_29 (by decide) ?_
        exact ev_zret dX7_areArms_33 rfl (by decide) H

set_option maxHeartbeats 4000000 in
set_option maxRecDepth 100000 in
theorem sg_X7_put_0 {d : Nat} {w : ex_WW} {P : Int32 → ex_WW → Prop} {p0 : Int32} {p1 : Int32} {p2 : Int32} {p3 : Int32} (H : (vp_in p0 14 ∧ (vp_in p0 14 ∧ (vp_in p0 14 ∧ P 0 (ex_up (ex_up (ex_up w 25 p0.toNatClampNeg p1) 26 p0.toNatClampNeg p2) 27 p0.toNatClampNeg p3))))) : ex_Ev d mX7_put 0 [some (.inr 23), some (.inl p0), some (.inl p1), some (.inl p2), some (.inl p3)] [] w P := by
  refine ev_aload_n dX7_put_0 rfl ?_
  refine ev_getR dX7_put_1 (fo_RX7_13 _ rfl) (by decide) rfl rfl ?_
  refine ev_iload_n dX7_put_4 rfl ?_
  refine ev_iload_n dX7_put_5 rfl ?_
  refine ev_iast dX7_put_6 (by decide) rfl H.1 ?_
  have H := H.2
  refine ev_aload_n dX7_put_7 rfl ?_
  refine ev_getR dX7_put_8 (fo_RX7_16 _ rfl) (by decide) rfl rfl ?_
  refine ev_iload_n dX7_put_11 rfl ?_
  refine ev_iload_n dX7_put_12 rfl ?_
  refine ev_iast dX7_put_13 (by decide) rfl H.1 ?_
  have H := H.2
  refine ev_aload_n dX7_put_14 rfl ?_
  refine ev_getR dX7_put_15 (fo_RX7_19 _ rfl) (by decide) rfl rfl ?_
  refine ev_iload_n dX7_put_18 rfl ?_
  refine ev_iload dX7_put_19 rfl ?_
  refine ev_iast dX7_put_21 (by decide) rfl H.1 ?_
  have H := H.2
  exact ev_vret dX7_put_22 rfl H

set_option maxHeartbeats 4000000 in
set_option maxRecDepth 100000 in
theorem sg_X7_knight_0 {d : Nat} {w : ex_WW} {P : Int32 → ex_WW → Prop} {p0 : Int32} {p1 : Int32} {p2 : Int32} {p3 : Int32} (H : ex_Ev d mX7_in 0 (ex_in [.inl p0, .inl 0, .inl 3] 3) [] w (fun r1 u2 => ((r1 = 0 → P (-1) u2) ∧ (¬ r1 = 0 → ex_Ev d mX7_areArms 0 (ex_in [.inl p1, .inl p2, .inl p3] 3) [] u2 (fun r3 u4 => ((¬ r3 = 0 → ((¬ (u4 23 0) = 14 → (vp_in (u4 23 0) 14 ∧ ex_Ev d mX7_put 0 (ex_in [.inr 23, .inl ((ex_up u4 24 (u4 23 0).toNatClampNeg p0) 23 0), .inl p1, .inl p2, .inl p3] 5) [] (ex_up u4 24 (u4 23 0).toNatClampNeg p0) (fun _ u6 => P (((ex_up u6 23 0 ((u6 23 0) + 1)) 23 0) - 1) (ex_up u6 23 0 ((u6 23 0) + 1))))) ∧ ((u4 23 0) = 14 → P (-2) u4))) ∧ (r3 = 0 → P (-1) u4))))))) : ex_Ev (d + 1) mX7_knight 0 [some (.inr 23), some (.inl p0), some (.inl p1), some (.inl p2), some (.inl p3)] [] w P := by
  refine ev_iload_n dX7_knight_0 rfl ?_
  refine ev_iconst 0 dX7_knight_1 (by decide) ?_
  refine ev_iconst 3 dX7_knight_2 (by decide) ?_
  refine ev_callS [.inl p0, .inl 0, .inl 3] dX7_knight_3 co_X7_in ml_RX7_72 cs_X7_in rfl rfl (by decide) (Nat.le_of_ble_eq_true rfl) rfl H (fun r1 u2 H => ?_)
  refine ev_if_eq 19 dX7_knight_6 (by decide) (fun h => ?_) (fun h => ?_)
  · have H := H.1 h
    refine ev_iconst (-1) dX7_knight_19 (by decide) ?_
    exact ev_iret dX7_knight_20 rfl H
  · have H := H.2 h
    refine ev_iload_n dX7_knight_9 rfl ?_
    refine ev_iload_n dX7_knight_10 rfl ?_
    refine ev_iload dX7_knight_11 rfl ?_
    refine ev_callS [.inl p1, .inl p2, .inl p3] dX7_knight_13 co_X7_areArms ml_RX7_83 cs_X7_areArms rfl rfl (by decide) (Nat.le_of_ble_eq_true rfl) rfl H (fun r3 u4 H => ?_)
    refine ev_if_ne 21 dX7_knight_16 (by decide) (fun h => ?_) (fun h => ?_)
    · have H := H.1 h
      refine ev_aload_n dX7_knight_21 rfl ?_
      refine ev_getI dX7_knight_22 (fo_RX7_69 _ rfl) (by decide) rfl rfl ?_
      refine ev_bipush 14 dX7_knight_25 (by decide) ?_
      refine ev_icmp_ne 33 dX7_knight_27 (by decide) (fun h => ?_) (fun h => ?_)
      · have H := H.1 h
        refine ev_aload_n dX7_knight_33 rfl ?_
        refine ev_getR dX7_knight_34 (fo_RX7_7 _ rfl) (by decide) rfl rfl ?_
        refine ev_aload_n dX7_knight_37 rfl ?_
        refine ev_getI dX7_knight_38 (fo_RX7_69 _ rfl) (by decide) rfl rfl ?_
        refine ev_iload_n dX7_knight_41 rfl ?_
        refine ev_iast dX7_knight_42 (by decide) rfl H.1 ?_
        have H := H.2
        refine ev_aload_n dX7_knight_43 rfl ?_
        refine ev_aload_n dX7_knight_44 rfl ?_
        refine ev_getI dX7_knight_45 (fo_RX7_69 _ rfl) (by decide) rfl rfl ?_
        refine ev_iload_n dX7_knight_48 rfl ?_
        refine ev_iload_n dX7_knight_49 rfl ?_
        refine ev_iload dX7_knight_50 rfl ?_
        refine ev_callVv 23 [.inl ((ex_up u4 24 (u4 23 0).toNatClampNeg p0) 23 0), .inl p1, .inl p2, .inl p3] dX7_knight_52 co_X7_put ml_RX7_86 cv_X7_put (by decide) rfl rfl rfl rfl (by decide) (Nat.le_of_ble_eq_true rfl) rfl H (fun u6 H => ?_)
        refine ev_aload_n dX7_knight_55 rfl ?_
        refine ev_dup dX7_knight_56 ?_
        refine ev_getI dX7_knight_57 (fo_RX7_69 _ rfl) (by decide) rfl rfl ?_
        refine ev_iconst 1 dX7_knight_60 (by decide) ?_
        refine ev_iadd dX7_knight_61 ?_
        refine ev_put dX7_knight_62 (fo_RX7_69 _ rfl) fp_7_0 (by decide) rfl rfl (vp_nar_int _) rfl ?_
        refine ev_aload_n dX7_knight_65 rfl ?_
        refine ev_getI dX7_knight_66 (fo_RX7_69 _ rfl) (by decide) rfl rfl ?_
        refine ev_iconst 1 dX7_knight_69 (by decide) ?_
        refine ev_isub dX7_knight_70 ?_
        exact ev_iret dX7_knight_71 rfl H
      · have H := H.2 h
        refine ev_bipush (-2) dX7_knight_30 (by decide) ?_
        exact ev_iret dX7_knight_32 rfl H
    · have H := H.2 h
      refine ev_iconst (-1) dX7_knight_19 (by decide) ?_
      exact ev_iret dX7_knight_20 rfl H

set_option maxHeartbeats 4000000 in
set_option maxRecDepth 100000 in
theorem sg_X7_arms_0 {d : Nat} {w : ex_WW} {P : Int32 → ex_WW → Prop} {p0 : Int32} {p1 : Int32} {p2 : Int32} {p3 : Int32} (H : ex_Ev d mX7_isKnight 0 (ex_in [.inr 23, .inl p0] 2) [] w (fun r1 u2 => ((r1 = 0 → P (-1) u2) ∧ (¬ r1 = 0 → ex_Ev d mX7_areArms 0 (ex_in [.inl p1, .inl p2, .inl p3] 3) [] u2 (fun r3 u4 => ((¬ r3 = 0 → ex_Ev d mX7_put 0 (ex_in [.inr 23, .inl p0, .inl p1, .inl p2, .inl p3] 5) [] u4 (fun _ u6 => P 1 u6)) ∧ (r3 = 0 → P (-1) u4))))))) : ex_Ev (d + 1) mX7_arms 0 [some (.inr 23), some (.inl p0), some (.inl p1), some (.inl p2), some (.inl p3)] [] w P := by
  refine ev_aload_n dX7_arms_0 rfl ?_
  refine ev_iload_n dX7_arms_1 rfl ?_
  refine ev_callV 23 [.inl p0] dX7_arms_2 co_X7_isKnight ml_RX7_76 cv_X7_isKnight (by decide) rfl rfl rfl rfl (by decide) (Nat.le_of_ble_eq_true rfl) rfl H (fun r1 u2 H => ?_)
  refine ev_if_eq 18 dX7_arms_5 (by decide) (fun h => ?_) (fun h => ?_)
  · have H := H.1 h
    refine ev_iconst (-1) dX7_arms_18 (by decide) ?_
    exact ev_iret dX7_arms_19 rfl H
  · have H := H.2 h
    refine ev_iload_n dX7_arms_8 rfl ?_
    refine ev_iload_n dX7_arms_9 rfl ?_
    refine ev_iload dX7_arms_10 rfl ?_
    refine ev_callS [.inl p1, .inl p2, .inl p3] dX7_arms_12 co_X7_areArms ml_RX7_83 cs_X7_areArms rfl rfl (by decide) (Nat.le_of_ble_eq_true rfl) rfl H (fun r3 u4 H => ?_)
    refine ev_if_ne 20 dX7_arms_15 (by decide) (fun h => ?_) (fun h => ?_)
    · have H := H.1 h
      refine ev_aload_n dX7_arms_20 rfl ?_
      refine ev_iload_n dX7_arms_21 rfl ?_
      refine ev_iload_n dX7_arms_22 rfl ?_
      refine ev_iload_n dX7_arms_23 rfl ?_
      refine ev_iload dX7_arms_24 rfl ?_
      refine ev_callVv 23 [.inl p0, .inl p1, .inl p2, .inl p3] dX7_arms_26 co_X7_put ml_RX7_86 cv_X7_put (by decide) rfl rfl rfl rfl (by decide) (Nat.le_of_ble_eq_true rfl) rfl H (fun u6 H => ?_)
      refine ev_iconst 1 dX7_arms_29 (by decide) ?_
      exact ev_iret dX7_arms_30 rfl H
    · have H := H.2 h
      refine ev_iconst (-1) dX7_arms_18 (by decide) ?_
      exact ev_iret dX7_arms_19 rfl H

set_option maxHeartbeats 4000000 in
set_option maxRecDepth 100000 in
theorem sg_X7_rank_0 {d : Nat} {w : ex_WW} {P : Int32 → ex_WW → Prop} {p0 : Int32} {p1 : Int32} (H : ex_Ev d mX7_isKnight 0 (ex_in [.inr 23, .inl p0] 2) [] w (fun r1 u2 => ((r1 = 0 → P (-1) u2) ∧ (¬ r1 = 0 → ex_Ev d mX7_in 0 (ex_in [.inl p1, .inl 0, .inl 3] 3) [] u2 (fun r3 u4 => ((¬ r3 = 0 → (vp_in p0 14 ∧ (vp_in p0 14 ∧ P (u4 24 p0.toNatClampNeg) (ex_up u4 24 p0.toNatClampNeg p1)))) ∧ (r3 = 0 → P (-1) u4))))))) : ex_Ev (d + 1) mX7_rank 0 [some (.inr 23), some (.inl p0), some (.inl p1), none] [] w P := by
  refine ev_aload_n dX7_rank_0 rfl ?_
  refine ev_iload_n dX7_rank_1 rfl ?_
  refine ev_callV 23 [.inl p0] dX7_rank_2 co_X7_isKnight ml_RX7_76 cv_X7_isKnight (by decide) rfl rfl rfl rfl (by decide) (Nat.le_of_ble_eq_true rfl) rfl H (fun r1 u2 H => ?_)
  refine ev_if_eq 17 dX7_rank_5 (by decide) (fun h => ?_) (fun h => ?_)
  · have H := H.1 h
    refine ev_iconst (-1) dX7_rank_17 (by decide) ?_
    exact ev_iret dX7_rank_18 rfl H
  · have H := H.2 h
    refine ev_iload_n dX7_rank_8 rfl ?_
    refine ev_iconst 0 dX7_rank_9 (by decide) ?_
    refine ev_iconst 3 dX7_rank_10 (by decide) ?_
    refine ev_callS [.inl p1, .inl 0, .inl 3] dX7_rank_11 co_X7_in ml_RX7_72 cs_X7_in rfl rfl (by decide) (Nat.le_of_ble_eq_true rfl) rfl H (fun r3 u4 H => ?_)
    refine ev_if_ne 19 dX7_rank_14 (by decide) (fun h => ?_) (fun h => ?_)
    · have H := H.1 h
      refine ev_aload_n dX7_rank_19 rfl ?_
      refine ev_getR dX7_rank_20 (fo_RX7_7 _ rfl) (by decide) rfl rfl ?_
      refine ev_iload_n dX7_rank_23 rfl ?_
      refine ev_iald dX7_rank_24 (by decide) rfl H.1 ?_
      have H := H.2
      refine ev_istore_n dX7_rank_25 (by decide) ?_
      refine ev_aload_n dX7_rank_26 rfl ?_
      refine ev_getR dX7_rank_27 (fo_RX7_7 _ rfl) (by decide) rfl rfl ?_
      refine ev_iload_n dX7_rank_30 rfl ?_
      refine ev_iload_n dX7_rank_31 rfl ?_
      refine ev_iast dX7_rank_32 (by decide) rfl H.1 ?_
      have H := H.2
      refine ev_iload_n dX7_rank_33 rfl ?_
      exact ev_iret dX7_rank_34 rfl H
    · have H := H.2 h
      refine ev_iconst (-1) dX7_rank_17 (by decide) ?_
      exact ev_iret dX7_rank_18 rfl H

set_option maxHeartbeats 4000000 in
set_option maxRecDepth 100000 in
theorem sg_X7_areNear_0 {d : Nat} {w : ex_WW} {P : Int32 → ex_WW → Prop} {p0 : Int32} {p1 : Int32} (H : (vp_in p0 14 ∧ (vp_in p1 14 ∧ ((¬ (w 25 p0.toNatClampNeg) = (w 25 p1.toNatClampNeg) → (vp_in p0 14 ∧ (vp_in p1 14 ∧ ((¬ (w 26 p0.toNatClampNeg) = (w 26 p1.toNatClampNeg) → (vp_in p0 14 ∧ (vp_in p1 14 ∧ ((¬ (w 27 p0.toNatClampNeg) = (w 27 p1.toNatClampNeg) → P 0 w) ∧ ((w 27 p0.toNatClampNeg) = (w 27 p1.toNatClampNeg) → P 0 w))))) ∧ ((w 26 p0.toNatClampNeg) = (w 26 p1.toNatClampNeg) → (vp_in p0 14 ∧ (vp_in p1 14 ∧ ((¬ (w 27 p0.toNatClampNeg) = (w 27 p1.toNatClampNeg) → P 0 w) ∧ ((w 27 p0.toNatClampNeg) = (w 27 p1.toNatClampNeg) → P 1 w))))))))) ∧ ((w 25 p0.toNatClampNeg) = (w 25 p1.toNatClampNeg) → (vp_in p0 14 ∧ (vp_in p1 14 ∧ ((¬ (w 26 p0.toNatClampNeg) = (w 26 p1.toNatClampNeg) → (vp_in p0 14 ∧ (vp_in p1 14 ∧ ((¬ (w 27 p0.toNatClampNeg) = (w 27 p1.toNatClampNeg) → P 0 w) ∧ ((w 27 p0.toNatClampNeg) = (w 27 p1.toNatClampNeg) → P 1 w))))) ∧ ((w 26 p0.toNatClampNeg) = (w 26 p1.toNatClampNeg) → (vp_in p0 14 ∧ (vp_in p1 14 ∧ ((¬ (w 27 p0.toNatClampNeg) = (w 27 p1.toNatClampNeg) → P 1 w) ∧ ((w 27 p0.toNatClampNeg) = (w 27 p1.toNatClampNeg) → P 1 w))))))))))))) : ex_Ev d mX7_areNear 0 [some (.inr 23), some (.inl p0), some (.inl p1), none] [] w P := by
  refine ev_aload_n dX7_areNear_0 rfl ?_
  refine ev_getR dX7_areNear_1 (fo_RX7_13 _ rfl) (by decide) rfl rfl ?_
  refine ev_iload_n dX7_areNear_4 rfl ?_
  refine ev_iald dX7_areNear_5 (by decide) rfl H.1 ?_
  have H := H.2
  refine ev_aload_n dX7_areNear_6 rfl ?_
  refine ev_getR dX7_areNear_7 (fo_RX7_13 _ rfl) (by decide) rfl rfl ?_
  refine ev_iload_n dX7_areNear_10 rfl ?_
  refine ev_iald dX7_areNear_11 (by decide) rfl H.1 ?_
  have H := H.2
  refine ev_icmp_ne 19 dX7_areNear_12 (by decide) (fun h => ?_) (fun h => ?_)
  · have H := H.1 h
    refine ev_iconst 0 dX7_areNear_19 (by decide) ?_
    refine ev_aload_n dX7_areNear_20 rfl ?_
    refine ev_getR dX7_areNear_21 (fo_RX7_16 _ rfl) (by decide) rfl rfl ?_
    refine ev_iload_n dX7_areNear_24 rfl ?_
    refine ev_iald dX7_areNear_25 (by decide) rfl H.1 ?_
    have H := H.2
    refine ev_aload_n dX7_areNear_26 rfl ?_
    refine ev_getR dX7_areNear_27 (fo_RX7_16 _ rfl) (by decide) rfl rfl ?_
    refine ev_iload_n dX7_areNear_30 rfl ?_
    refine ev_iald dX7_areNear_31 (by decide) rfl H.1 ?_
    have H := H.2
    refine ev_icmp_ne 39 dX7_areNear_32 (by decide) (fun h => ?_) (fun h => ?_)
    · have H := H.1 h
      refine ev_iconst 0 dX7_areNear_39 (by decide) ?_
      refine ev_iadd dX7_areNear_40 ?_
      refine ev_aload_n dX7_areNear_41 rfl ?_
      refine ev_getR dX7_areNear_42 (fo_RX7_19 _ rfl) (by decide) rfl rfl ?_
      refine ev_iload_n dX7_areNear_45 rfl ?_
      refine ev_iald dX7_areNear_46 (by decide) rfl H.1 ?_
      have H := H.2
      refine ev_aload_n dX7_areNear_47 rfl ?_
      refine ev_getR dX7_areNear_48 (fo_RX7_19 _ rfl) (by decide) rfl rfl ?_
      refine ev_iload_n dX7_areNear_51 rfl ?_
      refine ev_iald dX7_areNear_52 (by decide) rfl H.1 ?_
      have H := H.2
      refine ev_icmp_ne 60 dX7_areNear_53 (by decide) (fun h => ?_) (fun h => ?_)
      · have H := H.1 h
        refine ev_iconst 0 dX7_areNear_60 (by decide) ?_
        refine ev_iadd dX7_areNear_61 ?_
        refine ev_istore_n dX7_areNear_62 (by decide) ?_
        refine ev_iload_n dX7_areNear_63 rfl ?_
        refine ev_iconst 2 dX7_areNear_64 (by decide) ?_
        refine ev_icmp_lt 72 dX7_areNear_65 (by decide) (fun _ => ?_) (fun h => absurd (by decide) h)
        refine ev_iconst 0 dX7_areNear_72 (by decide) ?_
        exact ev_zret dX7_areNear_73 rfl (by decide) H
      · have H := H.2 h
        refine ev_iconst 1 dX7_areNear_56 (by decide) ?_
        refine ev_goto 61 dX7_areNear_57 (by decide) ?_
        refine ev_iadd dX7_areNear_61 ?_
        refine ev_istore_n dX7_areNear_62 (by decide) ?_
        refine ev_iload_n dX7_areNear_63 rfl ?_
        refine ev_iconst 2 dX7_areNear_64 (by decide) ?_
        refine ev_icmp_lt 72 dX7_areNear_65 (by decide) (fun _ => ?_) (fun h => absurd (by decide) h)
        refine ev_iconst 0 dX7_areNear_72 (by decide) ?_
        exact ev_zret dX7_areNear_73 rfl (by decide) H
    · have H := H.2 h
      refine ev_iconst 1 dX7_areNear_35 (by decide) ?_
      refine ev_goto 40 dX7_areNear_36 (by decide) ?_
      refine ev_iadd dX7_areNear_40 ?_
      refine ev_aload_n dX7_areNear_41 rfl ?_
      refine ev_getR dX7_areNear_42 (fo_RX7_19 _ rfl) (by decide) rfl rfl ?_
      refine ev_iload_n dX7_areNear_45 rfl ?_
      refine ev_iald dX7_areNear_46 (by decide) rfl H.1 ?_
      have H := H.2
      refine ev_aload_n dX7_areNear_47 rfl ?_
      refine ev_getR dX7_areNear_48 (fo_RX7_19 _ rfl) (by decide) rfl rfl ?_
      refine ev_iload_n dX7_areNear_51 rfl ?_
      refine ev_iald dX7_areNear_52 (by decide) rfl H.1 ?_
      have H := H.2
      refine ev_icmp_ne 60 dX7_areNear_53 (by decide) (fun h => ?_) (fun h => ?_)
      · have H := H.1 h
        refine ev_iconst 0 dX7_areNear_60 (by decide) ?_
        refine ev_iadd dX7_areNear_61 ?_
        refine ev_istore_n dX7_areNear_62 (by decide) ?_
        refine ev_iload_n dX7_areNear_63 rfl ?_
        refine ev_iconst 2 dX7_areNear_64 (by decide) ?_
        refine ev_icmp_lt 72 dX7_areNear_65 (by decide) (fun _ => ?_) (fun h => absurd (by decide) h)
        refine ev_iconst 0 dX7_areNear_72 (by decide) ?_
        exact ev_zret dX7_areNear_73 rfl (by decide) H
      · have H := H.2 h
        refine ev_iconst 1 dX7_areNear_56 (by decide) ?_
        refine ev_goto 61 dX7_areNear_57 (by decide) ?_
        refine ev_iadd dX7_areNear_61 ?_
        refine ev_istore_n dX7_areNear_62 (by decide) ?_
        refine ev_iload_n dX7_areNear_63 rfl ?_
        refine ev_iconst 2 dX7_areNear_64 (by decide) ?_
        refine ev_icmp_lt 72 dX7_areNear_65 (by decide) (fun h => absurd h (by decide)) (fun _ => ?_)
        refine ev_iconst 1 dX7_areNear_68 (by decide) ?_
        refine ev_goto 73 dX7_areNear_69 (by decide) ?_
        exact ev_zret dX7_areNear_73 rfl (by decide) H
  · have H := H.2 h
    refine ev_iconst 1 dX7_areNear_15 (by decide) ?_
    refine ev_goto 20 dX7_areNear_16 (by decide) ?_
    refine ev_aload_n dX7_areNear_20 rfl ?_
    refine ev_getR dX7_areNear_21 (fo_RX7_16 _ rfl) (by decide) rfl rfl ?_
    refine ev_iload_n dX7_areNear_24 rfl ?_
    refine ev_iald dX7_areNear_25 (by decide) rfl H.1 ?_
    have H := H.2
    refine ev_aload_n dX7_areNear_26 rfl ?_
    refine ev_getR dX7_areNear_27 (fo_RX7_16 _ rfl) (by decide) rfl rfl ?_
    refine ev_iload_n dX7_areNear_30 rfl ?_
    refine ev_iald dX7_areNear_31 (by decide) rfl H.1 ?_
    have H := H.2
    refine ev_icmp_ne 39 dX7_areNear_32 (by decide) (fun h => ?_) (fun h => ?_)
    · have H := H.1 h
      refine ev_iconst 0 dX7_areNear_39 (by decide) ?_
      refine ev_iadd dX7_areNear_40 ?_
      refine ev_aload_n dX7_areNear_41 rfl ?_
      refine ev_getR dX7_areNear_42 (fo_RX7_19 _ rfl) (by decide) rfl rfl ?_
      refine ev_iload_n dX7_areNear_45 rfl ?_
      refine ev_iald dX7_areNear_46 (by decide) rfl H.1 ?_
      have H := H.2
      refine ev_aload_n dX7_areNear_47 rfl ?_
      refine ev_getR dX7_areNear_48 (fo_RX7_19 _ rfl) (by decide) rfl rfl ?_
      refine ev_iload_n dX7_areNear_51 rfl ?_
      refine ev_iald dX7_areNear_52 (by decide) rfl H.1 ?_
      have H := H.2
      refine ev_icmp_ne 60 dX7_areNear_53 (by decide) (fun h => ?_) (fun h => ?_)
      · have H := H.1 h
        refine ev_iconst 0 dX7_areNear_60 (by decide) ?_
        refine ev_iadd dX7_areNear_61 ?_
        refine ev_istore_n dX7_areNear_62 (by decide) ?_
        refine ev_iload_n dX7_areNear_63 rfl ?_
        refine ev_iconst 2 dX7_areNear_64 (by decide) ?_
        refine ev_icmp_lt 72 dX7_areNear_65 (by decide) (fun _ => ?_) (fun h => absurd (by decide) h)
        refine ev_iconst 0 dX7_areNear_72 (by decide) ?_
        exact ev_zret dX7_areNear_73 rfl (by decide) H
      · have H := H.2 h
        refine ev_iconst 1 dX7_areNear_56 (by decide) ?_
        refine ev_goto 61 dX7_areNear_57 (by decide) ?_
        refine ev_iadd dX7_areNear_61 ?_
        refine ev_istore_n dX7_areNear_62 (by decide) ?_
        refine ev_iload_n dX7_areNear_63 rfl ?_
        refine ev_iconst 2 dX7_areNear_64 (by decide) ?_
        refine ev_icmp_lt 72 dX7_areNear_65 (by decide) (fun h => absurd h (by decide)) (fun _ => ?_)
        refine ev_iconst 1 dX7_areNear_68 (by decide) ?_
        refine ev_goto 73 dX7_areNear_69 (by decide) ?_
        exact ev_zret dX7_areNear_73 rfl (by decide) H
    · have H := H.2 h
      refine ev_iconst 1 dX7_areNear_35 (by decide) ?_
      refine ev_goto 40 dX7_areNear_36 (by decide) ?_
      refine ev_iadd dX7_areNear_40 ?_
      refine ev_aload_n dX7_areNear_41 rfl ?_
      refine ev_getR dX7_areNear_42 (fo_RX7_19 _ rfl) (by decide) rfl rfl ?_
      refine ev_iload_n dX7_areNear_45 rfl ?_
      refine ev_iald dX7_areNear_46 (by decide) rfl H.1 ?_
      have H := H.2
      refine ev_aload_n dX7_areNear_47 rfl ?_
      refine ev_getR dX7_areNear_48 (fo_RX7_19 _ rfl) (by decide) rfl rfl ?_
      refine ev_iload_n dX7_areNear_51 rfl ?_
      refine ev_iald dX7_areNear_52 (by decide) rfl H.1 ?_
      have H := H.2
      refine ev_icmp_ne 60 dX7_areNear_53 (by decide) (fun h => ?_) (fun h => ?_)
      · have H := H.1 h
        refine ev_iconst 0 dX7_areNear_60 (by decide) ?_
        refine ev_iadd dX7_areNear_61 ?_
        refine ev_istore_n dX7_areNear_62 (by decide) ?_
        refine ev_iload_n dX7_areNear_63 rfl ?_
        refine ev_iconst 2 dX7_areNear_64 (by decide) ?_
        refine ev_icmp_lt 72 dX7_areNear_65 (by decide) (fun h => absurd h (by decide)) (fun _ => ?_)
        refine ev_iconst 1 dX7_areNear_68 (by decide) ?_
        refine ev_goto 73 dX7_areNear_69 (by decide) ?_
        exact ev_zret dX7_areNear_73 rfl (by decide) H
      · have H := H.2 h
        refine ev_iconst 1 dX7_areNear_56 (by decide) ?_
        refine ev_goto 61 dX7_areNear_57 (by decide) ?_
        refine ev_iadd dX7_areNear_61 ?_
        refine ev_istore_n dX7_areNear_62 (by decide) ?_
        refine ev_iload_n dX7_areNear_63 rfl ?_
        refine ev_iconst 2 dX7_areNear_64 (by decide) ?_
        refine ev_icmp_lt 72 dX7_areNear_65 (by decide) (fun h => absurd h (by decide)) (fun _ => ?_)
        refine ev_iconst 1 dX7_areNear_68 (by decide) ?_
        refine ev_goto 73 dX7_areNear_69 (by decide) ?_
        exact ev_zret dX7_areNear_73 rfl (by decide) H

set_option maxHeartbeats 4000000 in
set_option maxRecDepth 100000 in
theorem sg_X7_doesYield_0 {d : Nat} {w : ex_WW} {P : Int32 → ex_WW → Prop} {p0 : Int32} {p1 : Int32} (H : ((p0 = p1 → P 0 w) ∧ (¬ p0 = p1 → ex_Ev d mX7_areNear 0 (ex_in [.inr 23, .inl p0, .inl p1] 4) [] w (fun r1 u2 => ((r1 = 0 → P 0 u2) ∧ (¬ r1 = 0 → (vp_in p0 14 ∧ (vp_in p1 14 ∧ (((u2 24 p0.toNatClampNeg) = (u2 24 p1.toNatClampNeg) → ((p0 ≤ p1 → P 0 u2) ∧ (¬ p0 ≤ p1 → P 1 u2))) ∧ (¬ (u2 24 p0.toNatClampNeg) = (u2 24 p1.toNatClampNeg) → (vp_in p0 14 ∧ (vp_in p1 14 ∧ (((u2 24 p1.toNatClampNeg) ≤ (u2 24 p0.toNatClampNeg) → P 0 u2) ∧ (¬ (u2 24 p1.toNatClampNeg) ≤ (u2 24 p0.toNatClampNeg) → P 1 u2)))))))))))))) : ex_Ev (d + 1) mX7_doesYield 0 [some (.inr 23), some (.inl p0), some (.inl p1)] [] w P := by
  refine ev_iload_n dX7_doesYield_0 rfl ?_
  refine ev_iload_n dX7_doesYield_1 rfl ?_
  refine ev_icmp_eq 56 dX7_doesYield_2 (by decide) (fun h => ?_) (fun h => ?_)
  · have H := H.1 h
    refine ev_iconst 0 dX7_doesYield_56 (by decide) ?_
    exact ev_zret dX7_doesYield_57 rfl (by decide) H
  · have H := H.2 h
    refine ev_aload_n dX7_doesYield_5 rfl ?_
    refine ev_iload_n dX7_doesYield_6 rfl ?_
    refine ev_iload_n dX7_doesYield_7 rfl ?_
    refine ev_callV 23 [.inl p0, .inl p1] dX7_doesYield_8 co_X7_areNear ml_RX7_90 cv_X7_areNear (by decide) rfl rfl rfl rfl (by decide) (Nat.le_of_ble_eq_true rfl) rfl H (fun r1 u2 H => ?_)
    refine ev_if_eq 56 dX7_doesYield_11 (by decide) (fun h => ?_) (fun h => ?_)
    · have H := H.1 h
      refine ev_iconst 0 dX7_doesYield_56 (by decide) ?_
      exact ev_zret dX7_doesYield_57 rfl (by decide) H
    · have H := H.2 h
      refine ev_aload_n dX7_doesYield_14 rfl ?_
      refine ev_getR dX7_doesYield_15 (fo_RX7_7 _ rfl) (by decide) rfl rfl ?_
      refine ev_iload_n dX7_doesYield_18 rfl ?_
      refine ev_iald dX7_doesYield_19 (by decide) rfl H.1 ?_
      have H := H.2
      refine ev_aload_n dX7_doesYield_20 rfl ?_
      refine ev_getR dX7_doesYield_21 (fo_RX7_7 _ rfl) (by decide) rfl rfl ?_
      refine ev_iload_n dX7_doesYield_24 rfl ?_
      refine ev_iald dX7_doesYield_25 (by decide) rfl H.1 ?_
      have H := H.2
      refine ev_icmp_eq 47 dX7_doesYield_26 (by decide) (fun h => ?_) (fun h => ?_)
      · have H := H.1 h
        refine ev_iload_n dX7_doesYield_47 rfl ?_
        refine ev_iload_n dX7_doesYield_48 rfl ?_
        refine ev_icmp_le 56 dX7_doesYield_49 (by decide) (fun h => ?_) (fun h => ?_)
        · have H := H.1 h
          refine ev_iconst 0 dX7_doesYield_56 (by decide) ?_
          exact ev_zret dX7_doesYield_57 rfl (by decide) H
        · have H := H.2 h
          refine ev_iconst 1 dX7_doesYield_52 (by decide) ?_
          refine ev_goto 57 dX7_doesYield_53 (by decide) ?_
          exact ev_zret dX7_doesYield_57 rfl (by decide) H
      · have H := H.2 h
        refine ev_aload_n dX7_doesYield_29 rfl ?_
        refine ev_getR dX7_doesYield_30 (fo_RX7_7 _ rfl) (by decide) rfl rfl ?_
        refine ev_iload_n dX7_doesYield_33 rfl ?_
        refine ev_iald dX7_doesYield_34 (by decide) rfl H.1 ?_
        have H := H.2
        refine ev_aload_n dX7_doesYield_35 rfl ?_
        refine ev_getR dX7_doesYield_36 (fo_RX7_7 _ rfl) (by decide) rfl rfl ?_
        refine ev_iload_n dX7_doesYield_39 rfl ?_
        refine ev_iald dX7_doesYield_40 (by decide) rfl H.1 ?_
        have H := H.2
        refine ev_icmp_ge 56 dX7_doesYield_41 (by decide) (fun h => ?_) (fun h => ?_)
        · have H := H.1 h
          refine ev_iconst 0 dX7_doesYield_56 (by decide) ?_
          exact ev_zret dX7_doesYield_57 rfl (by decide) H
        · have H := H.2 h
          refine ev_goto 52 dX7_doesYield_44 (by decide) ?_
          refine ev_iconst 1 dX7_doesYield_52 (by decide) ?_
          refine ev_goto 57 dX7_doesYield_53 (by decide) ?_
          exact ev_zret dX7_doesYield_57 rfl (by decide) H

set_option maxHeartbeats 4000000 in
set_option maxRecDepth 100000 in
theorem sg_X7_yieldsTo_0 {d : Nat} {w : ex_WW} {P : Int32 → ex_WW → Prop} {p0 : Int32} (H : ex_Ev (d + 1) mX7_yieldsTo 2 [some (.inr 23), some (.inl p0), some (.inl 0)] [] w P) : ex_Ev (d + 1) mX7_yieldsTo 0 [some (.inr 23), some (.inl p0), none] [] w P := by
  refine ev_iconst 0 dX7_yieldsTo_0 (by decide) ?_
  refine ev_istore_n dX7_yieldsTo_1 (by decide) ?_
  exact H

set_option maxHeartbeats 4000000 in
set_option maxRecDepth 100000 in
theorem sg_X7_yieldsTo_2 {d : Nat} {w : ex_WW} {P : Int32 → ex_WW → Prop} {x1 : Int32} {x2 : Int32} (H : (((w 23 0) ≤ x2 → P (-2) w) ∧ (¬ (w 23 0) ≤ x2 → ex_Ev d mX7_doesYield 0 (ex_in [.inr 23, .inl x1, .inl x2] 3) [] w (fun r1 u2 => ((r1 = 0 → ex_Ev (d + 1) mX7_yieldsTo 2 [some (.inr 23), some (.inl x1), some (.inl (x2 + 1))] [] u2 P) ∧ (¬ r1 = 0 → P x2 u2)))))) : ex_Ev (d + 1) mX7_yieldsTo 2 [some (.inr 23), some (.inl x1), some (.inl x2)] [] w P := by
  refine ev_iload_n dX7_yieldsTo_2 rfl ?_
  refine ev_aload_n dX7_yieldsTo_3 rfl ?_
  refine ev_getI dX7_yieldsTo_4 (fo_RX7_69 _ rfl) (by decide) rfl rfl ?_
  refine ev_icmp_ge 27 dX7_yieldsTo_7 (by decide) (fun h => ?_) (fun h => ?_)
  · have H := H.1 h
    refine ev_bipush (-2) dX7_yieldsTo_27 (by decide) ?_
    exact ev_iret dX7_yieldsTo_29 rfl H
  · have H := H.2 h
    refine ev_aload_n dX7_yieldsTo_10 rfl ?_
    refine ev_iload_n dX7_yieldsTo_11 rfl ?_
    refine ev_iload_n dX7_yieldsTo_12 rfl ?_
    refine ev_callV 23 [.inl x1, .inl x2] dX7_yieldsTo_13 co_X7_doesYield ml_RX7_94 cv_X7_doesYield (by decide) rfl rfl rfl rfl (by decide) (Nat.le_of_ble_eq_true rfl) rfl H (fun r1 u2 H => ?_)
    refine ev_if_eq 21 dX7_yieldsTo_16 (by decide) (fun h => ?_) (fun h => ?_)
    · have H := H.1 h
      refine ev_iinc (x2 + 1) dX7_yieldsTo_21 rfl rfl (by decide) ?_
      refine ev_goto 2 dX7_yieldsTo_24 (by decide) ?_
      exact H
    · have H := H.2 h
      refine ev_iload_n dX7_yieldsTo_19 rfl ?_
      exact ev_iret dX7_yieldsTo_20 rfl H

set_option maxHeartbeats 4000000 in
set_option maxRecDepth 100000 in
theorem sg_X7_of_0 {d : Nat} {w : ex_WW} {P : Int32 → ex_WW → Prop} {p0 : Int32} {p1 : Int32} (H : ex_Ev d mX7_isKnight 0 (ex_in [.inr 23, .inl p0] 2) [] w (fun r1 u2 => ((¬ r1 = 0 → ((p1 = 0 → (vp_in p0 14 ∧ P (u2 24 p0.toNatClampNeg) u2)) ∧ (p1 = 1 → (vp_in p0 14 ∧ P (u2 25 p0.toNatClampNeg) u2)) ∧ (p1 = 2 → (vp_in p0 14 ∧ P (u2 26 p0.toNatClampNeg) u2)) ∧ (p1 = 3 → (vp_in p0 14 ∧ P (u2 27 p0.toNatClampNeg) u2)) ∧ (p1 = 4 → ex_Ev d mX7_yieldsTo 0 (ex_in [.inr 23, .inl p0] 3) [] u2 (fun r3 u4 => ((0 ≤ r3 → P 0 u4) ∧ (¬ 0 ≤ r3 → P 1 u4)))) ∧ (p1 = 5 → ex_Ev d mX7_yieldsTo 0 (ex_in [.inr 23, .inl p0] 3) [] u2 (fun r5 u6 => P r5 u6)) ∧ (¬ p1 = 0 → ¬ p1 = 1 → ¬ p1 = 2 → ¬ p1 = 3 → ¬ p1 = 4 → ¬ p1 = 5 → P (-1) u2))) ∧ (r1 = 0 → P (-1) u2)))) : ex_Ev (d + 1) mX7_of 0 [some (.inr 23), some (.inl p0), some (.inl p1)] [] w P := by
  refine ev_aload_n dX7_of_0 rfl ?_
  refine ev_iload_n dX7_of_1 rfl ?_
  refine ev_callV 23 [.inl p0] dX7_of_2 co_X7_isKnight ml_RX7_76 cv_X7_isKnight (by decide) rfl rfl rfl rfl (by decide) (Nat.le_of_ble_eq_true rfl) rfl H (fun r1 u2 H => ?_)
  refine ev_if_ne 10 dX7_of_5 (by decide) (fun h => ?_) (fun h => ?_)
  · have H := H.1 h
    refine ev_iload_n dX7_of_10 rfl ?_
    have hs : ∀ z : Int32, z = p1 → ex_Ev (d + 1) mX7_of 11 [some (.inr 23), some (.inl p0), some (.inl p1)] (.inl z :: []) u2 P := by
      intro z hz
      by_cases h0 : z = 0
      · have H := H.1 (hz.symm.trans h0)
        subst h0
        refine ev_tableIn 48 dX7_of_11 (by decide) (by decide) rfl (by decide) ?_
        refine ev_aload_n dX7_of_48 rfl ?_
        refine ev_getR dX7_of_49 (fo_RX7_7 _ rfl) (by decide) rfl rfl ?_
        refine ev_iload_n dX7_of_52 rfl ?_
        refine ev_iald dX7_of_53 (by decide) rfl H.1 ?_
        have H := H.2
        exact ev_iret dX7_of_54 rfl H
      by_cases h1 : z = 1
      · have H := H.2.1 (hz.symm.trans h1)
        subst h1
        refine ev_tableIn 55 dX7_of_11 (by decide) (by decide) rfl (by decide) ?_
        refine ev_aload_n dX7_of_55 rfl ?_
        refine ev_getR dX7_of_56 (fo_RX7_13 _ rfl) (by decide) rfl rfl ?_
        refine ev_iload_n dX7_of_59 rfl ?_
        refine ev_iald dX7_of_60 (by decide) rfl H.1 ?_
        have H := H.2
        exact ev_iret dX7_of_61 rfl H
      by_cases h2 : z = 2
      · have H := H.2.2.1 (hz.symm.trans h2)
        subst h2
        refine ev_tableIn 62 dX7_of_11 (by decide) (by decide) rfl (by decide) ?_
        refine ev_aload_n dX7_of_62 rfl ?_
        refine ev_getR dX7_of_63 (fo_RX7_16 _ rfl) (by decide) rfl rfl ?_
        refine ev_iload_n dX7_of_66 rfl ?_
        refine ev_iald dX7_of_67 (by decide) rfl H.1 ?_
        have H := H.2
        exact ev_iret dX7_of_68 rfl H
      by_cases h3 : z = 3
      · have H := H.2.2.2.1 (hz.symm.trans h3)
        subst h3
        refine ev_tableIn 69 dX7_of_11 (by decide) (by decide) rfl (by decide) ?_
        refine ev_aload_n dX7_of_69 rfl ?_
        refine ev_getR dX7_of_70 (fo_RX7_19 _ rfl) (by decide) rfl rfl ?_
        refine ev_iload_n dX7_of_73 rfl ?_
        refine ev_iald dX7_of_74 (by decide) rfl H.1 ?_
        have H := H.2
        exact ev_iret dX7_of_75 rfl H
      by_cases h4 : z = 4
      · have H := H.2.2.2.2.1 (hz.symm.trans h4)
        subst h4
        refine ev_tableIn 76 dX7_of_11 (by decide) (by decide) rfl (by decide) ?_
        refine ev_aload_n dX7_of_76 rfl ?_
        refine ev_iload_n dX7_of_77 rfl ?_
        refine ev_callV 23 [.inl p0] dX7_of_78 co_X7_yieldsTo ml_RX7_97 cv_X7_yieldsTo (by decide) rfl rfl rfl rfl (by decide) (Nat.le_of_ble_eq_true rfl) rfl H (fun r3 u4 H => ?_)
        refine ev_if_ge 88 dX7_of_81 (by decide) (fun h => ?_) (fun h => ?_)
        · have H := H.1 h
          refine ev_iconst 0 dX7_of_88 (by decide) ?_
          exact ev_iret dX7_of_89 rfl H
        · have H := H.2 h
          refine ev_iconst 1 dX7_of_84 (by decide) ?_
          refine ev_goto 89 dX7_of_85 (by decide) ?_
          exact ev_iret dX7_of_89 rfl H
      by_cases h5 : z = 5
      · have H := H.2.2.2.2.2.1 (hz.symm.trans h5)
        subst h5
        refine ev_tableIn 90 dX7_of_11 (by decide) (by decide) rfl (by decide) ?_
        refine ev_aload_n dX7_of_90 rfl ?_
        refine ev_iload_n dX7_of_91 rfl ?_
        refine ev_callV 23 [.inl p0] dX7_of_92 co_X7_yieldsTo ml_RX7_97 cv_X7_yieldsTo (by decide) rfl rfl rfl rfl (by decide) (Nat.le_of_ble_eq_true rfl) rfl H (fun r5 u6 H => ?_)
        exact ev_iret dX7_of_95 rfl H
      have H := H.2.2.2.2.2.2 (fun q => h0 (hz.trans q)) (fun q => h1 (hz.trans q)) (fun q => h2 (hz.trans q)) (fun q => h3 (hz.trans q)) (fun q => h4 (hz.trans q)) (fun q => h5 (hz.trans q))
      refine ev_tableOut 96 dX7_of_11 (by have q0 := lv_neT h0 (a := 0) rfl; have q1 := lv_neT h1 (a := 1) rfl; have q2 := lv_neT h2 (a := 2) rfl; have q3 := lv_neT h3 (a := 3) rfl; have q4 := lv_neT h4 (a := 4) rfl; have q5 := lv_neT h5 (a := 5) rfl; omega) (by decide) ?_
      refine ev_iconst (-1) dX7_of_96 (by decide) ?_
      exact ev_iret dX7_of_97 rfl H
    exact hs _ rfl
  · have H := H.2 h
    refine ev_iconst (-1) dX7_of_8 (by decide) ?_
    exact ev_iret dX7_of_9 rfl H

set_option maxHeartbeats 4000000 in
set_option maxRecDepth 100000 in
theorem sg_X7_near_0 {d : Nat} {w : ex_WW} {P : Int32 → ex_WW → Prop} (H : ex_Ev (d + 1) mX7_near 4 [some (.inr 23), some (.inl 0), some (.inl 0), none] [] w P) : ex_Ev (d + 1) mX7_near 0 [some (.inr 23), none, none, none] [] w P := by
  refine ev_iconst 0 dX7_near_0 (by decide) ?_
  refine ev_istore_n dX7_near_1 (by decide) ?_
  refine ev_iconst 0 dX7_near_2 (by decide) ?_
  refine ev_istore_n dX7_near_3 (by decide) ?_
  exact H

set_option maxHeartbeats 4000000 in
set_option maxRecDepth 100000 in
theorem sg_X7_near_4 {d : Nat} {w : ex_WW} {P : Int32 → ex_WW → Prop} {x1 : Int32} {x2 : Int32} (H : (((w 23 0) ≤ x2 → P x1 w) ∧ (¬ (w 23 0) ≤ x2 → ex_Ev (d + 1) mX7_near 14 [some (.inr 23), some (.inl x1), some (.inl x2), some (.inl 0)] [] w P))) : ex_Ev (d + 1) mX7_near 4 [some (.inr 23), some (.inl x1), some (.inl x2), none] [] w P := by
  refine ev_iload_n dX7_near_4 rfl ?_
  refine ev_aload_n dX7_near_5 rfl ?_
  refine ev_getI dX7_near_6 (fo_RX7_69 _ rfl) (by decide) rfl rfl ?_
  refine ev_icmp_ge 48 dX7_near_9 (by decide) (fun h => ?_) (fun h => ?_)
  · have H := H.1 h
    refine ev_iload_n dX7_near_48 rfl ?_
    exact ev_iret dX7_near_49 rfl H
  · have H := H.2 h
    refine ev_iconst 0 dX7_near_12 (by decide) ?_
    refine ev_istore_n dX7_near_13 (by decide) ?_
    exact H

set_option maxHeartbeats 4000000 in
set_option maxRecDepth 100000 in
theorem sg_X7_near_14 {d : Nat} {w : ex_WW} {P : Int32 → ex_WW → Prop} {x1 : Int32} {x2 : Int32} {x3 : Int32} (H : ((x2 ≤ x3 → ex_Ev (d + 1) mX7_near 4 [some (.inr 23), some (.inl x1), some (.inl (x2 + 1)), none] [] w P) ∧ (¬ x2 ≤ x3 → ex_Ev d mX7_areNear 0 (ex_in [.inr 23, .inl x2, .inl x3] 4) [] w (fun r1 u2 => ((r1 = 0 → ex_Ev (d + 1) mX7_near 14 [some (.inr 23), some (.inl (x1 + 0)), some (.inl x2), some (.inl (x3 + 1))] [] u2 P) ∧ (¬ r1 = 0 → ex_Ev (d + 1) mX7_near 14 [some (.inr 23), some (.inl (x1 + 1)), some (.inl x2), some (.inl (x3 + 1))] [] u2 P)))))) : ex_Ev (d + 1) mX7_near 14 [some (.inr 23), some (.inl x1), some (.inl x2), some (.inl x3)] [] w P := by
  refine ev_iload_n dX7_near_14 rfl ?_
  refine ev_iload_n dX7_near_15 rfl ?_
  refine ev_icmp_ge 42 dX7_near_16 (by decide) (fun h => ?_) (fun h => ?_)
  · have H := H.1 h
    refine ev_iinc (x2 + 1) dX7_near_42 rfl rfl (by decide) ?_
    refine ev_goto 4 dX7_near_45 (by decide) ?_
    refine ev_drop 3 ?_
    exact H
  · have H := H.2 h
    refine ev_iload_n dX7_near_19 rfl ?_
    refine ev_aload_n dX7_near_20 rfl ?_
    refine ev_iload_n dX7_near_21 rfl ?_
    refine ev_iload_n dX7_near_22 rfl ?_
    refine ev_callV 23 [.inl x2, .inl x3] dX7_near_23 co_X7_areNear ml_RX7_90 cv_X7_areNear (by decide) rfl rfl rfl rfl (by decide) (Nat.le_of_ble_eq_true rfl) rfl H (fun r1 u2 H => ?_)
    refine ev_if_eq 33 dX7_near_26 (by decide) (fun h => ?_) (fun h => ?_)
    · have H := H.1 h
      refine ev_iconst 0 dX7_near_33 (by decide) ?_
      refine ev_iadd dX7_near_34 ?_
      refine ev_istore_n dX7_near_35 (by decide) ?_
      refine ev_iinc (x3 + 1) dX7_near_36 rfl rfl (by decide) ?_
      refine ev_goto 14 dX7_near_39 (by decide) ?_
      exact H
    · have H := H.2 h
      refine ev_iconst 1 dX7_near_29 (by decide) ?_
      refine ev_goto 34 dX7_near_30 (by decide) ?_
      refine ev_iadd dX7_near_34 ?_
      refine ev_istore_n dX7_near_35 (by decide) ?_
      refine ev_iinc (x3 + 1) dX7_near_36 rfl rfl (by decide) ?_
      refine ev_goto 14 dX7_near_39 (by decide) ?_
      exact H

set_option maxHeartbeats 4000000 in
set_option maxRecDepth 100000 in
theorem sg_X7_feed_0 {d : Nat} {w : ex_WW} {P : Int32 → ex_WW → Prop} {p0 : Int32} (H : ex_Ev d mX7_feed 2 [some (.inr 23), some (.inl p0), some (.inl 0), none] [] w P) : ex_Ev d mX7_feed 0 [some (.inr 23), some (.inl p0), none, none] [] w P := by
  refine ev_iconst 0 dX7_feed_0 (by decide) ?_
  refine ev_istore_n dX7_feed_1 (by decide) ?_
  exact H

set_option maxHeartbeats 4000000 in
set_option maxRecDepth 100000 in
theorem sg_X7_feed_2 {d : Nat} {w : ex_WW} {P : Int32 → ex_WW → Prop} {x1 : Int32} {x2 : Int32} (H : ((4 ≤ x2 → ((((w 23 5) + x2) ≤ 60 → ex_Ev d mX7_feed 42 [some (.inr 23), some (.inl x1), some (.inl x2), some (.inl 0)] [] w P) ∧ (¬ ((w 23 5) + x2) ≤ 60 → P (-2) w))) ∧ (¬ 4 ≤ x2 → ((((x1 >>> ((8 * x2) &&& 31)) &&& 255) = 0 → ((((w 23 5) + x2) ≤ 60 → ex_Ev d mX7_feed 42 [some (.inr 23), some (.inl x1), some (.inl x2), some (.inl 0)] [] w P) ∧ (¬ ((w 23 5) + x2) ≤ 60 → P (-2) w))) ∧ (¬ ((x1 >>> ((8 * x2) &&& 31)) &&& 255) = 0 → ex_Ev d mX7_feed 2 [some (.inr 23), some (.inl x1), some (.inl (x2 + 1)), none] [] w P))))) : ex_Ev d mX7_feed 2 [some (.inr 23), some (.inl x1), some (.inl x2), none] [] w P := by
  refine ev_iload_n dX7_feed_2 rfl ?_
  refine ev_iconst 4 dX7_feed_3 (by decide) ?_
  refine ev_icmp_ge 26 dX7_feed_4 (by decide) (fun h => ?_) (fun h => ?_)
  · have H := H.1 h
    refine ev_aload_n dX7_feed_26 rfl ?_
    refine ev_getI dX7_feed_27 (fo_RX7_101 _ rfl) (by decide) rfl rfl ?_
    refine ev_iload_n dX7_feed_30 rfl ?_
    refine ev_iadd dX7_feed_31 ?_
    refine ev_bipush 60 dX7_feed_32 (by decide) ?_
    refine ev_icmp_le 40 dX7_feed_34 (by decide) (fun h => ?_) (fun h => ?_)
    · have H := H.1 h
      refine ev_iconst 0 dX7_feed_40 (by decide) ?_
      refine ev_istore_n dX7_feed_41 (by decide) ?_
      exact H
    · have H := H.2 h
      refine ev_bipush (-2) dX7_feed_37 (by decide) ?_
      exact ev_iret dX7_feed_39 rfl H
  · have H := H.2 h
    refine ev_iload_n dX7_feed_7 rfl ?_
    refine ev_bipush 8 dX7_feed_8 (by decide) ?_
    refine ev_iload_n dX7_feed_10 rfl ?_
    refine ev_imul dX7_feed_11 ?_
    refine ev_ishr dX7_feed_12 ?_
    refine ev_sipush 255 dX7_feed_13 (by decide) ?_
    refine ev_iand dX7_feed_16 ?_
    refine ev_if_eq 26 dX7_feed_17 (by decide) (fun h => ?_) (fun h => ?_)
    · have H := H.1 h
      refine ev_aload_n dX7_feed_26 rfl ?_
      refine ev_getI dX7_feed_27 (fo_RX7_101 _ rfl) (by decide) rfl rfl ?_
      refine ev_iload_n dX7_feed_30 rfl ?_
      refine ev_iadd dX7_feed_31 ?_
      refine ev_bipush 60 dX7_feed_32 (by decide) ?_
      refine ev_icmp_le 40 dX7_feed_34 (by decide) (fun h => ?_) (fun h => ?_)
      · have H := H.1 h
        refine ev_iconst 0 dX7_feed_40 (by decide) ?_
        refine ev_istore_n dX7_feed_41 (by decide) ?_
        exact H
      · have H := H.2 h
        refine ev_bipush (-2) dX7_feed_37 (by decide) ?_
        exact ev_iret dX7_feed_39 rfl H
    · have H := H.2 h
      refine ev_iinc (x2 + 1) dX7_feed_20 rfl rfl (by decide) ?_
      refine ev_goto 2 dX7_feed_23 (by decide) ?_
      exact H

set_option maxHeartbeats 4000000 in
set_option maxRecDepth 100000 in
theorem sg_X7_feed_42 {d : Nat} {w : ex_WW} {P : Int32 → ex_WW → Prop} {x1 : Int32} {x2 : Int32} {x3 : Int32} (H : ((x2 ≤ x3 → P (w 23 5) w) ∧ (¬ x2 ≤ x3 → (vp_in (w 23 5) 60 ∧ ex_Ev d mX7_feed 42 [some (.inr 23), some (.inl x1), some (.inl x2), some (.inl (x3 + 1))] [] (ex_up (ex_up w 28 (w 23 5).toNatClampNeg ((x1 >>> ((8 * x3) &&& 31)) &&& 255)) 23 5 (((ex_up w 28 (w 23 5).toNatClampNeg ((x1 >>> ((8 * x3) &&& 31)) &&& 255)) 23 5) + 1)) P)))) : ex_Ev d mX7_feed 42 [some (.inr 23), some (.inl x1), some (.inl x2), some (.inl x3)] [] w P := by
  refine ev_iload_n dX7_feed_42 rfl ?_
  refine ev_iload_n dX7_feed_43 rfl ?_
  refine ev_icmp_ge 82 dX7_feed_44 (by decide) (fun h => ?_) (fun h => ?_)
  · have H := H.1 h
    refine ev_aload_n dX7_feed_82 rfl ?_
    refine ev_getI dX7_feed_83 (fo_RX7_101 _ rfl) (by decide) rfl rfl ?_
    exact ev_iret dX7_feed_86 rfl H
  · have H := H.2 h
    refine ev_aload_n dX7_feed_47 rfl ?_
    refine ev_getR dX7_feed_48 (fo_RX7_22 _ rfl) (by decide) rfl rfl ?_
    refine ev_aload_n dX7_feed_51 rfl ?_
    refine ev_getI dX7_feed_52 (fo_RX7_101 _ rfl) (by decide) rfl rfl ?_
    refine ev_iload_n dX7_feed_55 rfl ?_
    refine ev_bipush 8 dX7_feed_56 (by decide) ?_
    refine ev_iload_n dX7_feed_58 rfl ?_
    refine ev_imul dX7_feed_59 ?_
    refine ev_ishr dX7_feed_60 ?_
    refine ev_sipush 255 dX7_feed_61 (by decide) ?_
    refine ev_iand dX7_feed_64 ?_
    refine ev_iast dX7_feed_65 (by decide) rfl H.1 ?_
    have H := H.2
    refine ev_aload_n dX7_feed_66 rfl ?_
    refine ev_dup dX7_feed_67 ?_
    refine ev_getI dX7_feed_68 (fo_RX7_101 _ rfl) (by decide) rfl rfl ?_
    refine ev_iconst 1 dX7_feed_71 (by decide) ?_
    refine ev_iadd dX7_feed_72 ?_
    refine ev_put dX7_feed_73 (fo_RX7_101 _ rfl) fp_7_5 (by decide) rfl rfl (vp_nar_int _) rfl ?_
    refine ev_iinc (x3 + 1) dX7_feed_76 rfl rfl (by decide) ?_
    refine ev_goto 42 dX7_feed_79 (by decide) ?_
    exact H

set_option maxHeartbeats 4000000 in
set_option maxRecDepth 100000 in
theorem sg_X7_scrap_0 {d : Nat} {w : ex_WW} {P : Int32 → ex_WW → Prop} (H : P (w 23 5) (ex_up w 23 5 0)) : ex_Ev d mX7_scrap 0 [some (.inr 23), none] [] w P := by
  refine ev_aload_n dX7_scrap_0 rfl ?_
  refine ev_getI dX7_scrap_1 (fo_RX7_101 _ rfl) (by decide) rfl rfl ?_
  refine ev_istore_n dX7_scrap_4 (by decide) ?_
  refine ev_aload_n dX7_scrap_5 rfl ?_
  refine ev_iconst 0 dX7_scrap_6 (by decide) ?_
  refine ev_put dX7_scrap_7 (fo_RX7_101 _ rfl) fp_7_5 (by decide) rfl rfl (vp_nar_int _) rfl ?_
  refine ev_iload_n dX7_scrap_10 rfl ?_
  exact ev_iret dX7_scrap_11 rfl H

set_option maxHeartbeats 4000000 in
set_option maxRecDepth 100000 in
theorem sg_X7_strokeOf_0 {d : Nat} {w : ex_WW} {P : Int32 → ex_WW → Prop} {p0 : Int32} (H : ((¬ p0 = 98 → ((¬ p0 = 104 → ((¬ p0 = 108 → ((¬ p0 = 117 → ((¬ p0 = 102 → P 0 w) ∧ (p0 = 102 → P 5 w))) ∧ (p0 = 117 → P 4 w))) ∧ (p0 = 108 → P 3 w))) ∧ (p0 = 104 → P 2 w))) ∧ (p0 = 98 → P 1 w))) : ex_Ev d mX7_strokeOf 0 [some (.inl p0)] [] w P := by
  refine ev_iload_n dX7_strokeOf_0 rfl ?_
  refine ev_bipush 98 dX7_strokeOf_1 (by decide) ?_
  refine ev_icmp_ne 10 dX7_strokeOf_3 (by decide) (fun h => ?_) (fun h => ?_)
  · have H := H.1 h
    refine ev_iload_n dX7_strokeOf_10 rfl ?_
    refine ev_bipush 104 dX7_strokeOf_11 (by decide) ?_
    refine ev_icmp_ne 20 dX7_strokeOf_13 (by decide) (fun h => ?_) (fun h => ?_)
    · have H := H.1 h
      refine ev_iload_n dX7_strokeOf_20 rfl ?_
      refine ev_bipush 108 dX7_strokeOf_21 (by decide) ?_
      refine ev_icmp_ne 30 dX7_strokeOf_23 (by decide) (fun h => ?_) (fun h => ?_)
      · have H := H.1 h
        refine ev_iload_n dX7_strokeOf_30 rfl ?_
        refine ev_bipush 117 dX7_strokeOf_31 (by decide) ?_
        refine ev_icmp_ne 40 dX7_strokeOf_33 (by decide) (fun h => ?_) (fun h => ?_)
        · have H := H.1 h
          refine ev_iload_n dX7_strokeOf_40 rfl ?_
          refine ev_bipush 102 dX7_strokeOf_41 (by decide) ?_
          refine ev_icmp_ne 50 dX7_strokeOf_43 (by decide) (fun h => ?_) (fun h => ?_)
          · have H := H.1 h
            refine ev_iconst 0 dX7_strokeOf_50 (by decide) ?_
            exact ev_iret dX7_strokeOf_51 rfl H
          · have H := H.2 h
            refine ev_iconst 5 dX7_strokeOf_46 (by decide) ?_
            refine ev_goto 51 dX7_strokeOf_47 (by decide) ?_
            exact ev_iret dX7_strokeOf_51 rfl H
        · have H := H.2 h
          refine ev_iconst 4 dX7_strokeOf_36 (by decide) ?_
          refine ev_goto 51 dX7_strokeOf_37 (by decide) ?_
          exact ev_iret dX7_strokeOf_51 rfl H
      · have H := H.2 h
        refine ev_iconst 3 dX7_strokeOf_26 (by decide) ?_
        refine ev_goto 51 dX7_strokeOf_27 (by decide) ?_
        exact ev_iret dX7_strokeOf_51 rfl H
    · have H := H.2 h
      refine ev_iconst 2 dX7_strokeOf_16 (by decide) ?_
      refine ev_goto 51 dX7_strokeOf_17 (by decide) ?_
      exact ev_iret dX7_strokeOf_51 rfl H
  · have H := H.2 h
    refine ev_iconst 1 dX7_strokeOf_6 (by decide) ?_
    refine ev_goto 51 dX7_strokeOf_7 (by decide) ?_
    exact ev_iret dX7_strokeOf_51 rfl H

set_option maxHeartbeats 4000000 in
set_option maxRecDepth 100000 in
theorem sg_X7_pass_0 {d : Nat} {w : ex_WW} {P : Int32 → ex_WW → Prop} {p0 : Int32} (H : ((p0 < 48 → ex_Ev (d + 1) mX7_pass 18 [some (.inr 23), some (.inl p0), some (.inl 0), none] [] w P) ∧ (¬ p0 < 48 → ((57 < p0 → ex_Ev (d + 1) mX7_pass 18 [some (.inr 23), some (.inl p0), some (.inl 0), none] [] w P) ∧ (¬ 57 < p0 → ex_Ev (d + 1) mX7_pass 18 [some (.inr 23), some (.inl p0), some (.inl 1), none] [] w P))))) : ex_Ev (d + 1) mX7_pass 0 [some (.inr 23), some (.inl p0), none, none] [] w P := by
  refine ev_iload_n dX7_pass_0 rfl ?_
  refine ev_bipush 48 dX7_pass_1 (by decide) ?_
  refine ev_icmp_lt 16 dX7_pass_3 (by decide) (fun h => ?_) (fun h => ?_)
  · have H := H.1 h
    refine ev_iconst 0 dX7_pass_16 (by decide) ?_
    refine ev_istore_n dX7_pass_17 (by decide) ?_
    exact H
  · have H := H.2 h
    refine ev_iload_n dX7_pass_6 rfl ?_
    refine ev_bipush 57 dX7_pass_7 (by decide) ?_
    refine ev_icmp_gt 16 dX7_pass_9 (by decide) (fun h => ?_) (fun h => ?_)
    · have H := H.1 h
      refine ev_iconst 0 dX7_pass_16 (by decide) ?_
      refine ev_istore_n dX7_pass_17 (by decide) ?_
      exact H
    · have H := H.2 h
      refine ev_iconst 1 dX7_pass_12 (by decide) ?_
      refine ev_goto 17 dX7_pass_13 (by decide) ?_
      refine ev_istore_n dX7_pass_17 (by decide) ?_
      exact H

set_option maxHeartbeats 4000000 in
set_option maxRecDepth 100000 in
theorem sg_X7_pass_18 {d : Nat} {w : ex_WW} {P : Int32 → ex_WW → Prop} {x1 : Int32} {x2 : Int32} (H : ex_Ev d mX7_strokeOf 0 (ex_in [.inl x1] 1) [] w (fun r1 u2 => ((¬ (u2 23 21) = 5 → ((x2 = 0 → ex_Ev (d + 1) mX7_pass 95 [some (.inr 23), some (.inl x1), some (.inl x2), some (.inl r1)] [] u2 P) ∧ (¬ x2 = 0 → (((u2 23 21) = 1 → (vp_in (u2 23 22) 7 ∧ P 1 (ex_up (ex_up u2 37 (u2 23 22).toNatClampNeg (x1 - 48)) 23 21 3))) ∧ (¬ (u2 23 21) = 1 → ((¬ (u2 23 21) = 2 → ex_Ev (d + 1) mX7_pass 95 [some (.inr 23), some (.inl x1), some (.inl x2), some (.inl r1)] [] u2 P) ∧ ((u2 23 21) = 2 → (vp_in (u2 23 22) 7 ∧ P 1 (ex_up (ex_up u2 37 (u2 23 22).toNatClampNeg (x1 - 48)) 23 21 3))))))))) ∧ ((u2 23 21) = 5 → (vp_in 6 7 ∧ ((r1 ≤ 0 → P 0 (ex_up (ex_up u2 37 (6 : Int32).toNatClampNeg r1) 23 21 6)) ∧ (¬ r1 ≤ 0 → P 1 (ex_up (ex_up u2 37 (6 : Int32).toNatClampNeg r1) 23 21 6)))))))) : ex_Ev (d + 1) mX7_pass 18 [some (.inr 23), some (.inl x1), some (.inl x2), none] [] w P := by
  refine ev_iload_n dX7_pass_18 rfl ?_
  refine ev_callS [.inl x1] dX7_pass_19 co_X7_strokeOf ml_RX7_104 cs_X7_strokeOf rfl rfl (by decide) (Nat.le_of_ble_eq_true rfl) rfl H (fun r1 u2 H => ?_)
  refine ev_istore_n dX7_pass_22 (by decide) ?_
  refine ev_aload_n dX7_pass_23 rfl ?_
  refine ev_getI dX7_pass_24 (fo_RX7_107 _ rfl) (by decide) rfl rfl ?_
  refine ev_iconst 5 dX7_pass_27 (by decide) ?_
  refine ev_icmp_ne 55 dX7_pass_28 (by decide) (fun h => ?_) (fun h => ?_)
  · have H := H.1 h
    refine ev_iload_n dX7_pass_55 rfl ?_
    refine ev_if_eq 95 dX7_pass_56 (by decide) (fun h => ?_) (fun h => ?_)
    · have H := H.1 h
      exact H
    · have H := H.2 h
      refine ev_aload_n dX7_pass_59 rfl ?_
      refine ev_getI dX7_pass_60 (fo_RX7_107 _ rfl) (by decide) rfl rfl ?_
      refine ev_iconst 1 dX7_pass_63 (by decide) ?_
      refine ev_icmp_eq 75 dX7_pass_64 (by decide) (fun h => ?_) (fun h => ?_)
      · have H := H.1 h
        refine ev_aload_n dX7_pass_75 rfl ?_
        refine ev_getR dX7_pass_76 (fo_RX7_54 _ rfl) (by decide) rfl rfl ?_
        refine ev_aload_n dX7_pass_79 rfl ?_
        refine ev_getI dX7_pass_80 (fo_RX7_110 _ rfl) (by decide) rfl rfl ?_
        refine ev_iload_n dX7_pass_83 rfl ?_
        refine ev_bipush 48 dX7_pass_84 (by decide) ?_
        refine ev_isub dX7_pass_86 ?_
        refine ev_iast dX7_pass_87 (by decide) rfl H.1 ?_
        have H := H.2
        refine ev_aload_n dX7_pass_88 rfl ?_
        refine ev_iconst 3 dX7_pass_89 (by decide) ?_
        refine ev_put dX7_pass_90 (fo_RX7_107 _ rfl) fp_7_21 (by decide) rfl rfl (vp_nar_int _) rfl ?_
        refine ev_iconst 1 dX7_pass_93 (by decide) ?_
        exact ev_zret dX7_pass_94 rfl (by decide) H
      · have H := H.2 h
        refine ev_aload_n dX7_pass_67 rfl ?_
        refine ev_getI dX7_pass_68 (fo_RX7_107 _ rfl) (by decide) rfl rfl ?_
        refine ev_iconst 2 dX7_pass_71 (by decide) ?_
        refine ev_icmp_ne 95 dX7_pass_72 (by decide) (fun h => ?_) (fun h => ?_)
        · have H := H.1 h
          exact H
        · have H := H.2 h
          refine ev_aload_n dX7_pass_75 rfl ?_
          refine ev_getR dX7_pass_76 (fo_RX7_54 _ rfl) (by decide) rfl rfl ?_
          refine ev_aload_n dX7_pass_79 rfl ?_
          refine ev_getI dX7_pass_80 (fo_RX7_110 _ rfl) (by decide) rfl rfl ?_
          refine ev_iload_n dX7_pass_83 rfl ?_
          refine ev_bipush 48 dX7_pass_84 (by decide) ?_
          refine ev_isub dX7_pass_86 ?_
          refine ev_iast dX7_pass_87 (by decide) rfl H.1 ?_
          have H := H.2
          refine ev_aload_n dX7_pass_88 rfl ?_
          refine ev_iconst 3 dX7_pass_89 (by decide) ?_
          refine ev_put dX7_pass_90 (fo_RX7_107 _ rfl) fp_7_21 (by decide) rfl rfl (vp_nar_int _) rfl ?_
          refine ev_iconst 1 dX7_pass_93 (by decide) ?_
          exact ev_zret dX7_pass_94 rfl (by decide) H
  · have H := H.2 h
    refine ev_aload_n dX7_pass_31 rfl ?_
    refine ev_getR dX7_pass_32 (fo_RX7_54 _ rfl) (by decide) rfl rfl ?_
    refine ev_bipush 6 dX7_pass_35 (by decide) ?_
    refine ev_iload_n dX7_pass_37 rfl ?_
    refine ev_iast dX7_pass_38 (by decide) rfl H.1 ?_
    have H := H.2
    refine ev_aload_n dX7_pass_39 rfl ?_
    refine ev_bipush 6 dX7_pass_40 (by decide) ?_
    refine ev_put dX7_pass_42 (fo_RX7_107 _ rfl) fp_7_21 (by decide) rfl rfl (vp_nar_int _) rfl ?_
    refine ev_iload_n dX7_pass_45 rfl ?_
    refine ev_if_le 53 dX7_pass_46 (by decide) (fun h => ?_) (fun h => ?_)
    · have H := H.1 h
      refine ev_iconst 0 dX7_pass_53 (by decide) ?_
      exact ev_zret dX7_pass_54 rfl (by decide) H
    · have H := H.2 h
      refine ev_iconst 1 dX7_pass_49 (by decide) ?_
      refine ev_goto 54 dX7_pass_50 (by decide) ?_
      exact ev_zret dX7_pass_54 rfl (by decide) H

set_option maxHeartbeats 4000000 in
set_option maxRecDepth 100000 in
theorem sg_X7_pass_95 {d : Nat} {w : ex_WW} {P : Int32 → ex_WW → Prop} {x1 : Int32} {x2 : Int32} {x3 : Int32} (H : ((¬ (w 23 21) = 1 → ex_Ev (d + 1) mX7_pass 121 [some (.inr 23), some (.inl x1), some (.inl x2), some (.inl x3)] [] w P) ∧ ((w 23 21) = 1 → ((¬ x1 = 45 → ex_Ev (d + 1) mX7_pass 121 [some (.inr 23), some (.inl x1), some (.inl x2), some (.inl x3)] [] w P) ∧ (x1 = 45 → P 1 (ex_up (ex_up w 23 23 1) 23 21 2)))))) : ex_Ev (d + 1) mX7_pass 95 [some (.inr 23), some (.inl x1), some (.inl x2), some (.inl x3)] [] w P := by
  refine ev_aload_n dX7_pass_95 rfl ?_
  refine ev_getI dX7_pass_96 (fo_RX7_107 _ rfl) (by decide) rfl rfl ?_
  refine ev_iconst 1 dX7_pass_99 (by decide) ?_
  refine ev_icmp_ne 121 dX7_pass_100 (by decide) (fun h => ?_) (fun h => ?_)
  · have H := H.1 h
    exact H
  · have H := H.2 h
    refine ev_iload_n dX7_pass_103 rfl ?_
    refine ev_bipush 45 dX7_pass_104 (by decide) ?_
    refine ev_icmp_ne 121 dX7_pass_106 (by decide) (fun h => ?_) (fun h => ?_)
    · have H := H.1 h
      exact H
    · have H := H.2 h
      refine ev_aload_n dX7_pass_109 rfl ?_
      refine ev_iconst 1 dX7_pass_110 (by decide) ?_
      refine ev_put dX7_pass_111 (fo_RX7_113 _ rfl) fp_7_23 (by decide) rfl rfl rfl rfl ?_
      refine ev_aload_n dX7_pass_114 rfl ?_
      refine ev_iconst 2 dX7_pass_115 (by decide) ?_
      refine ev_put dX7_pass_116 (fo_RX7_107 _ rfl) fp_7_21 (by decide) rfl rfl (vp_nar_int _) rfl ?_
      refine ev_iconst 1 dX7_pass_119 (by decide) ?_
      exact ev_zret dX7_pass_120 rfl (by decide) H

set_option maxHeartbeats 4000000 in
set_option maxRecDepth 100000 in
theorem sg_X7_pass_121 {d : Nat} {w : ex_WW} {P : Int32 → ex_WW → Prop} {x1 : Int32} {x2 : Int32} {x3 : Int32} (H : ((x2 = 0 → ex_Ev (d + 1) mX7_pass 166 [some (.inr 23), some (.inl x1), some (.inl x2), some (.inl x3)] [] w P) ∧ (¬ x2 = 0 → ((¬ (w 23 21) = 3 → ex_Ev (d + 1) mX7_pass 166 [some (.inr 23), some (.inl x1), some (.inl x2), some (.inl x3)] [] w P) ∧ ((w 23 21) = 3 → (vp_in (w 23 22) 7 ∧ (vp_in (w 23 22) 7 ∧ P 1 (ex_up (ex_up w 37 (w 23 22).toNatClampNeg (((10 * (w 37 (w 23 22).toNatClampNeg)) + x1) - 48)) 23 21 4)))))))) : ex_Ev (d + 1) mX7_pass 121 [some (.inr 23), some (.inl x1), some (.inl x2), some (.inl x3)] [] w P := by
  refine ev_iload_n dX7_pass_121 rfl ?_
  refine ev_if_eq 166 dX7_pass_122 (by decide) (fun h => ?_) (fun h => ?_)
  · have H := H.1 h
    exact H
  · have H := H.2 h
    refine ev_aload_n dX7_pass_125 rfl ?_
    refine ev_getI dX7_pass_126 (fo_RX7_107 _ rfl) (by decide) rfl rfl ?_
    refine ev_iconst 3 dX7_pass_129 (by decide) ?_
    refine ev_icmp_ne 166 dX7_pass_130 (by decide) (fun h => ?_) (fun h => ?_)
    · have H := H.1 h
      exact H
    · have H := H.2 h
      refine ev_aload_n dX7_pass_133 rfl ?_
      refine ev_getR dX7_pass_134 (fo_RX7_54 _ rfl) (by decide) rfl rfl ?_
      refine ev_aload_n dX7_pass_137 rfl ?_
      refine ev_getI dX7_pass_138 (fo_RX7_110 _ rfl) (by decide) rfl rfl ?_
      refine ev_bipush 10 dX7_pass_141 (by decide) ?_
      refine ev_aload_n dX7_pass_143 rfl ?_
      refine ev_getR dX7_pass_144 (fo_RX7_54 _ rfl) (by decide) rfl rfl ?_
      refine ev_aload_n dX7_pass_147 rfl ?_
      refine ev_getI dX7_pass_148 (fo_RX7_110 _ rfl) (by decide) rfl rfl ?_
      refine ev_iald dX7_pass_151 (by decide) rfl H.1 ?_
      have H := H.2
      refine ev_imul dX7_pass_152 ?_
      refine ev_iload_n dX7_pass_153 rfl ?_
      refine ev_iadd dX7_pass_154 ?_
      refine ev_bipush 48 dX7_pass_155 (by decide) ?_
      refine ev_isub dX7_pass_157 ?_
      refine ev_iast dX7_pass_158 (by decide) rfl H.1 ?_
      have H := H.2
      refine ev_aload_n dX7_pass_159 rfl ?_
      refine ev_iconst 4 dX7_pass_160 (by decide) ?_
      refine ev_put dX7_pass_161 (fo_RX7_107 _ rfl) fp_7_21 (by decide) rfl rfl (vp_nar_int _) rfl ?_
      refine ev_iconst 1 dX7_pass_164 (by decide) ?_
      exact ev_zret dX7_pass_165 rfl (by decide) H

set_option maxHeartbeats 4000000 in
set_option maxRecDepth 100000 in
theorem sg_X7_pass_166 {d : Nat} {w : ex_WW} {P : Int32 → ex_WW → Prop} {x1 : Int32} {x2 : Int32} {x3 : Int32} (H : (((w 23 21) = 1 → P 0 w) ∧ (¬ (w 23 21) = 1 → (((w 23 21) = 2 → P 0 w) ∧ (¬ (w 23 21) = 2 → ((¬ (w 23 21) = 6 → ex_Ev (d + 1) mX7_pass 193 [some (.inr 23), some (.inl x1), some (.inl x2), some (.inl x3)] [] w P) ∧ ((w 23 21) = 6 → P 0 w))))))) : ex_Ev (d + 1) mX7_pass 166 [some (.inr 23), some (.inl x1), some (.inl x2), some (.inl x3)] [] w P := by
  refine ev_aload_n dX7_pass_166 rfl ?_
  refine ev_getI dX7_pass_167 (fo_RX7_107 _ rfl) (by decide) rfl rfl ?_
  refine ev_iconst 1 dX7_pass_170 (by decide) ?_
  refine ev_icmp_eq 191 dX7_pass_171 (by decide) (fun h => ?_) (fun h => ?_)
  · have H := H.1 h
    refine ev_iconst 0 dX7_pass_191 (by decide) ?_
    exact ev_zret dX7_pass_192 rfl (by decide) H
  · have H := H.2 h
    refine ev_aload_n dX7_pass_174 rfl ?_
    refine ev_getI dX7_pass_175 (fo_RX7_107 _ rfl) (by decide) rfl rfl ?_
    refine ev_iconst 2 dX7_pass_178 (by decide) ?_
    refine ev_icmp_eq 191 dX7_pass_179 (by decide) (fun h => ?_) (fun h => ?_)
    · have H := H.1 h
      refine ev_iconst 0 dX7_pass_191 (by decide) ?_
      exact ev_zret dX7_pass_192 rfl (by decide) H
    · have H := H.2 h
      refine ev_aload_n dX7_pass_182 rfl ?_
      refine ev_getI dX7_pass_183 (fo_RX7_107 _ rfl) (by decide) rfl rfl ?_
      refine ev_bipush 6 dX7_pass_186 (by decide) ?_
      refine ev_icmp_ne 193 dX7_pass_188 (by decide) (fun h => ?_) (fun h => ?_)
      · have H := H.1 h
        exact H
      · have H := H.2 h
        refine ev_iconst 0 dX7_pass_191 (by decide) ?_
        exact ev_zret dX7_pass_192 rfl (by decide) H

set_option maxHeartbeats 4000000 in
set_option maxRecDepth 100000 in
theorem sg_X7_pass_193 {d : Nat} {w : ex_WW} {P : Int32 → ex_WW → Prop} {x1 : Int32} {x2 : Int32} {x3 : Int32} (H : ((¬ x1 = 33 → ex_Ev (d + 1) mX7_pass 217 [some (.inr 23), some (.inl x1), some (.inl x2), some (.inl x3)] [] w P) ∧ (x1 = 33 → (((w 23 21) = 0 → ex_Ev (d + 1) mX7_pass 217 [some (.inr 23), some (.inl x1), some (.inl x2), some (.inl x3)] [] w P) ∧ (¬ (w 23 21) = 0 → ex_Ev d mX7_close 0 (ex_in [.inr 23] 1) [] w (fun _ u2 => P 1 (ex_up u2 23 21 5))))))) : ex_Ev (d + 1) mX7_pass 193 [some (.inr 23), some (.inl x1), some (.inl x2), some (.inl x3)] [] w P := by
  refine ev_iload_n dX7_pass_193 rfl ?_
  refine ev_bipush 33 dX7_pass_194 (by decide) ?_
  refine ev_icmp_ne 217 dX7_pass_196 (by decide) (fun h => ?_) (fun h => ?_)
  · have H := H.1 h
    exact H
  · have H := H.2 h
    refine ev_aload_n dX7_pass_199 rfl ?_
    refine ev_getI dX7_pass_200 (fo_RX7_107 _ rfl) (by decide) rfl rfl ?_
    refine ev_if_eq 217 dX7_pass_203 (by decide) (fun h => ?_) (fun h => ?_)
    · have H := H.1 h
      exact H
    · have H := H.2 h
      refine ev_aload_n dX7_pass_206 rfl ?_
      refine ev_callVv 23 [] dX7_pass_207 co_X7_close ml_RX7_117 cv_X7_close (by decide) rfl rfl rfl rfl (by decide) (Nat.le_of_ble_eq_true rfl) rfl H (fun u2 H => ?_)
      refine ev_aload_n dX7_pass_210 rfl ?_
      refine ev_iconst 5 dX7_pass_211 (by decide) ?_
      refine ev_put dX7_pass_212 (fo_RX7_107 _ rfl) fp_7_21 (by decide) rfl rfl (vp_nar_int _) rfl ?_
      refine ev_iconst 1 dX7_pass_215 (by decide) ?_
      exact ev_zret dX7_pass_216 rfl (by decide) H

set_option maxHeartbeats 4000000 in
set_option maxRecDepth 100000 in
theorem sg_X7_pass_217 {d : Nat} {w : ex_WW} {P : Int32 → ex_WW → Prop} {x1 : Int32} {x2 : Int32} {x3 : Int32} (H : ((x3 = 0 → P 0 w) ∧ (¬ x3 = 0 → (vp_in x3 6 ∧ (((w 38 x3.toNatClampNeg) = 0 → ex_Ev d mX7_close 0 (ex_in [.inr 23] 1) [] w (fun _ u2 => (vp_in x3 6 ∧ P 1 (ex_up (ex_up (ex_up (ex_up u2 38 x3.toNatClampNeg 1) 23 22 x3) 23 23 0) 23 21 1)))) ∧ (¬ (w 38 x3.toNatClampNeg) = 0 → P 0 w)))))) : ex_Ev (d + 1) mX7_pass 217 [some (.inr 23), some (.inl x1), some (.inl x2), some (.inl x3)] [] w P := by
  refine ev_iload_n dX7_pass_217 rfl ?_
  refine ev_if_eq 230 dX7_pass_218 (by decide) (fun h => ?_) (fun h => ?_)
  · have H := H.1 h
    refine ev_iconst 0 dX7_pass_230 (by decide) ?_
    exact ev_zret dX7_pass_231 rfl (by decide) H
  · have H := H.2 h
    refine ev_aload_n dX7_pass_221 rfl ?_
    refine ev_getR dX7_pass_222 (fo_RX7_57 _ rfl) (by decide) rfl rfl ?_
    refine ev_iload_n dX7_pass_225 rfl ?_
    refine ev_zald dX7_pass_226 (by decide) rfl H.1 ?_
    have H := H.2
    refine ev_if_eq 232 dX7_pass_227 (by decide) (fun h => ?_) (fun h => ?_)
    · have H := H.1 h
      refine ev_aload_n dX7_pass_232 rfl ?_
      refine ev_callVv 23 [] dX7_pass_233 co_X7_close ml_RX7_117 cv_X7_close (by decide) rfl rfl rfl rfl (by decide) (Nat.le_of_ble_eq_true rfl) rfl H (fun u2 H => ?_)
      refine ev_aload_n dX7_pass_236 rfl ?_
      refine ev_getR dX7_pass_237 (fo_RX7_57 _ rfl) (by decide) rfl rfl ?_
      refine ev_iload_n dX7_pass_240 rfl ?_
      refine ev_iconst 1 dX7_pass_241 (by decide) ?_
      refine ev_zast dX7_pass_242 (by decide) rfl H.1 (by decide) ?_
      have H := H.2
      refine ev_aload_n dX7_pass_243 rfl ?_
      refine ev_iload_n dX7_pass_244 rfl ?_
      refine ev_put dX7_pass_245 (fo_RX7_110 _ rfl) fp_7_22 (by decide) rfl rfl (vp_nar_int _) rfl ?_
      refine ev_aload_n dX7_pass_248 rfl ?_
      refine ev_iconst 0 dX7_pass_249 (by decide) ?_
      refine ev_put dX7_pass_250 (fo_RX7_113 _ rfl) fp_7_23 (by decide) rfl rfl rfl rfl ?_
      refine ev_aload_n dX7_pass_253 rfl ?_
      refine ev_iconst 1 dX7_pass_254 (by decide) ?_
      refine ev_put dX7_pass_255 (fo_RX7_107 _ rfl) fp_7_21 (by decide) rfl rfl (vp_nar_int _) rfl ?_
      refine ev_iconst 1 dX7_pass_258 (by decide) ?_
      exact ev_zret dX7_pass_259 rfl (by decide) H
    · have H := H.2 h
      refine ev_iconst 0 dX7_pass_230 (by decide) ?_
      exact ev_zret dX7_pass_231 rfl (by decide) H

set_option maxHeartbeats 4000000 in
set_option maxRecDepth 100000 in
theorem sg_X7_close_0 {d : Nat} {w : ex_WW} {P : Int32 → ex_WW → Prop} (H : (((w 23 23) = 0 → P 0 (ex_up w 23 23 0)) ∧ (¬ (w 23 23) = 0 → (vp_in (w 23 22) 7 ∧ (vp_in (w 23 22) 7 ∧ P 0 (ex_up (ex_up w 37 (w 23 22).toNatClampNeg (0 - (w 37 (w 23 22).toNatClampNeg))) 23 23 0)))))) : ex_Ev d mX7_close 0 [some (.inr 23)] [] w P := by
  refine ev_aload_n dX7_close_0 rfl ?_
  refine ev_getI dX7_close_1 (fo_RX7_113 _ rfl) (by decide) rfl rfl ?_
  refine ev_if_eq 26 dX7_close_4 (by decide) (fun h => ?_) (fun h => ?_)
  · have H := H.1 h
    refine ev_aload_n dX7_close_26 rfl ?_
    refine ev_iconst 0 dX7_close_27 (by decide) ?_
    refine ev_put dX7_close_28 (fo_RX7_113 _ rfl) fp_7_23 (by decide) rfl rfl rfl rfl ?_
    exact ev_vret dX7_close_31 rfl H
  · have H := H.2 h
    refine ev_aload_n dX7_close_7 rfl ?_
    refine ev_getR dX7_close_8 (fo_RX7_54 _ rfl) (by decide) rfl rfl ?_
    refine ev_aload_n dX7_close_11 rfl ?_
    refine ev_getI dX7_close_12 (fo_RX7_110 _ rfl) (by decide) rfl rfl ?_
    refine ev_aload_n dX7_close_15 rfl ?_
    refine ev_getR dX7_close_16 (fo_RX7_54 _ rfl) (by decide) rfl rfl ?_
    refine ev_aload_n dX7_close_19 rfl ?_
    refine ev_getI dX7_close_20 (fo_RX7_110 _ rfl) (by decide) rfl rfl ?_
    refine ev_iald dX7_close_23 (by decide) rfl H.1 ?_
    have H := H.2
    refine ev_ineg dX7_close_24 ?_
    refine ev_iast dX7_close_25 (by decide) rfl H.1 ?_
    have H := H.2
    refine ev_aload_n dX7_close_26 rfl ?_
    refine ev_iconst 0 dX7_close_27 (by decide) ?_
    refine ev_put dX7_close_28 (fo_RX7_113 _ rfl) fp_7_23 (by decide) rfl rfl rfl rfl ?_
    exact ev_vret dX7_close_31 rfl H

set_option maxHeartbeats 4000000 in
set_option maxRecDepth 100000 in
theorem sg_X7_goOver_0 {d : Nat} {w : ex_WW} {P : Int32 → ex_WW → Prop} (H : ex_Ev (d + 1) mX7_goOver 2 [some (.inr 23), some (.inl 0)] [] w P) : ex_Ev (d + 1) mX7_goOver 0 [some (.inr 23), none] [] w P := by
  refine ev_iconst 0 dX7_goOver_0 (by decide) ?_
  refine ev_istore_n dX7_goOver_1 (by decide) ?_
  exact H

set_option maxHeartbeats 4000000 in
set_option maxRecDepth 100000 in
theorem sg_X7_goOver_2 {d : Nat} {w : ex_WW} {P : Int32 → ex_WW → Prop} {x1 : Int32} (H : ((7 ≤ x1 → ex_Ev (d + 1) mX7_goOver 23 [some (.inr 23), some (.inl 0)] [] w P) ∧ (¬ 7 ≤ x1 → (vp_in x1 7 ∧ ex_Ev (d + 1) mX7_goOver 2 [some (.inr 23), some (.inl (x1 + 1))] [] (ex_up w 37 x1.toNatClampNeg 0) P)))) : ex_Ev (d + 1) mX7_goOver 2 [some (.inr 23), some (.inl x1)] [] w P := by
  refine ev_iload_n dX7_goOver_2 rfl ?_
  refine ev_bipush 7 dX7_goOver_3 (by decide) ?_
  refine ev_icmp_ge 21 dX7_goOver_5 (by decide) (fun h => ?_) (fun h => ?_)
  · have H := H.1 h
    refine ev_iconst 0 dX7_goOver_21 (by decide) ?_
    refine ev_istore_n dX7_goOver_22 (by decide) ?_
    exact H
  · have H := H.2 h
    refine ev_aload_n dX7_goOver_8 rfl ?_
    refine ev_getR dX7_goOver_9 (fo_RX7_54 _ rfl) (by decide) rfl rfl ?_
    refine ev_iload_n dX7_goOver_12 rfl ?_
    refine ev_iconst 0 dX7_goOver_13 (by decide) ?_
    refine ev_iast dX7_goOver_14 (by decide) rfl H.1 ?_
    have H := H.2
    refine ev_iinc (x1 + 1) dX7_goOver_15 rfl rfl (by decide) ?_
    refine ev_goto 2 dX7_goOver_18 (by decide) ?_
    exact H

set_option maxHeartbeats 4000000 in
set_option maxRecDepth 100000 in
theorem sg_X7_goOver_23 {d : Nat} {w : ex_WW} {P : Int32 → ex_WW → Prop} {x1 : Int32} (H : ((6 ≤ x1 → ex_Ev (d + 1) mX7_goOver 59 [some (.inr 23), some (.inl 0)] [] (ex_up (ex_up (ex_up w 23 21 0) 23 22 0) 23 23 0) P) ∧ (¬ 6 ≤ x1 → (vp_in x1 6 ∧ ex_Ev (d + 1) mX7_goOver 23 [some (.inr 23), some (.inl (x1 + 1))] [] (ex_up w 38 x1.toNatClampNeg 0) P)))) : ex_Ev (d + 1) mX7_goOver 23 [some (.inr 23), some (.inl x1)] [] w P := by
  refine ev_iload_n dX7_goOver_23 rfl ?_
  refine ev_bipush 6 dX7_goOver_24 (by decide) ?_
  refine ev_icmp_ge 42 dX7_goOver_26 (by decide) (fun h => ?_) (fun h => ?_)
  · have H := H.1 h
    refine ev_aload_n dX7_goOver_42 rfl ?_
    refine ev_iconst 0 dX7_goOver_43 (by decide) ?_
    refine ev_put dX7_goOver_44 (fo_RX7_107 _ rfl) fp_7_21 (by decide) rfl rfl (vp_nar_int _) rfl ?_
    refine ev_aload_n dX7_goOver_47 rfl ?_
    refine ev_iconst 0 dX7_goOver_48 (by decide) ?_
    refine ev_put dX7_goOver_49 (fo_RX7_110 _ rfl) fp_7_22 (by decide) rfl rfl (vp_nar_int _) rfl ?_
    refine ev_aload_n dX7_goOver_52 rfl ?_
    refine ev_iconst 0 dX7_goOver_53 (by decide) ?_
    refine ev_put dX7_goOver_54 (fo_RX7_113 _ rfl) fp_7_23 (by decide) rfl rfl rfl rfl ?_
    refine ev_iconst 0 dX7_goOver_57 (by decide) ?_
    refine ev_istore_n dX7_goOver_58 (by decide) ?_
    exact H
  · have H := H.2 h
    refine ev_aload_n dX7_goOver_29 rfl ?_
    refine ev_getR dX7_goOver_30 (fo_RX7_57 _ rfl) (by decide) rfl rfl ?_
    refine ev_iload_n dX7_goOver_33 rfl ?_
    refine ev_iconst 0 dX7_goOver_34 (by decide) ?_
    refine ev_zast dX7_goOver_35 (by decide) rfl H.1 (by decide) ?_
    have H := H.2
    refine ev_iinc (x1 + 1) dX7_goOver_36 rfl rfl (by decide) ?_
    refine ev_goto 23 dX7_goOver_39 (by decide) ?_
    exact H

set_option maxHeartbeats 4000000 in
set_option maxRecDepth 100000 in
theorem sg_X7_goOver_59 {d : Nat} {w : ex_WW} {P : Int32 → ex_WW → Prop} {x1 : Int32} (H : (((w 23 5) ≤ x1 → (((w 23 21) = 0 → P (w 23 5) w) ∧ (¬ (w 23 21) = 0 → (((w 23 21) = 1 → P (w 23 5) w) ∧ (¬ (w 23 21) = 1 → (((w 23 21) = 2 → P (w 23 5) w) ∧ (¬ (w 23 21) = 2 → ((¬ (w 23 21) = 5 → ex_Ev d mX7_close 0 (ex_in [.inr 23] 1) [] w (fun _ u2 => P (-1) u2)) ∧ ((w 23 21) = 5 → P (w 23 5) w))))))))) ∧ (¬ (w 23 5) ≤ x1 → (vp_in x1 60 ∧ ex_Ev d mX7_pass 0 (ex_in [.inr 23, .inl (w 28 x1.toNatClampNeg)] 4) [] w (fun r3 u4 => ((¬ r3 = 0 → ex_Ev (d + 1) mX7_goOver 59 [some (.inr 23), some (.inl (x1 + 1))] [] u4 P) ∧ (r3 = 0 → P x1 u4))))))) : ex_Ev (d + 1) mX7_goOver 59 [some (.inr 23), some (.inl x1)] [] w P := by
  refine ev_iload_n dX7_goOver_59 rfl ?_
  refine ev_aload_n dX7_goOver_60 rfl ?_
  refine ev_getI dX7_goOver_61 (fo_RX7_101 _ rfl) (by decide) rfl rfl ?_
  refine ev_icmp_ge 88 dX7_goOver_64 (by decide) (fun h => ?_) (fun h => ?_)
  · have H := H.1 h
    refine ev_aload_n dX7_goOver_88 rfl ?_
    refine ev_getI dX7_goOver_89 (fo_RX7_107 _ rfl) (by decide) rfl rfl ?_
    refine ev_if_eq 119 dX7_goOver_92 (by decide) (fun h => ?_) (fun h => ?_)
    · have H := H.1 h
      refine ev_aload_n dX7_goOver_119 rfl ?_
      refine ev_getI dX7_goOver_120 (fo_RX7_101 _ rfl) (by decide) rfl rfl ?_
      exact ev_iret dX7_goOver_123 rfl H
    · have H := H.2 h
      refine ev_aload_n dX7_goOver_95 rfl ?_
      refine ev_getI dX7_goOver_96 (fo_RX7_107 _ rfl) (by decide) rfl rfl ?_
      refine ev_iconst 1 dX7_goOver_99 (by decide) ?_
      refine ev_icmp_eq 119 dX7_goOver_100 (by decide) (fun h => ?_) (fun h => ?_)
      · have H := H.1 h
        refine ev_aload_n dX7_goOver_119 rfl ?_
        refine ev_getI dX7_goOver_120 (fo_RX7_101 _ rfl) (by decide) rfl rfl ?_
        exact ev_iret dX7_goOver_123 rfl H
      · have H := H.2 h
        refine ev_aload_n dX7_goOver_103 rfl ?_
        refine ev_getI dX7_goOver_104 (fo_RX7_107 _ rfl) (by decide) rfl rfl ?_
        refine ev_iconst 2 dX7_goOver_107 (by decide) ?_
        refine ev_icmp_eq 119 dX7_goOver_108 (by decide) (fun h => ?_) (fun h => ?_)
        · have H := H.1 h
          refine ev_aload_n dX7_goOver_119 rfl ?_
          refine ev_getI dX7_goOver_120 (fo_RX7_101 _ rfl) (by decide) rfl rfl ?_
          exact ev_iret dX7_goOver_123 rfl H
        · have H := H.2 h
          refine ev_aload_n dX7_goOver_111 rfl ?_
          refine ev_getI dX7_goOver_112 (fo_RX7_107 _ rfl) (by decide) rfl rfl ?_
          refine ev_iconst 5 dX7_goOver_115 (by decide) ?_
          refine ev_icmp_ne 124 dX7_goOver_116 (by decide) (fun h => ?_) (fun h => ?_)
          · have H := H.1 h
            refine ev_aload_n dX7_goOver_124 rfl ?_
            refine ev_callVv 23 [] dX7_goOver_125 co_X7_close ml_RX7_117 cv_X7_close (by decide) rfl rfl rfl rfl (by decide) (Nat.le_of_ble_eq_true rfl) rfl H (fun u2 H => ?_)
            refine ev_iconst (-1) dX7_goOver_128 (by decide) ?_
            exact ev_iret dX7_goOver_129 rfl H
          · have H := H.2 h
            refine ev_aload_n dX7_goOver_119 rfl ?_
            refine ev_getI dX7_goOver_120 (fo_RX7_101 _ rfl) (by decide) rfl rfl ?_
            exact ev_iret dX7_goOver_123 rfl H
  · have H := H.2 h
    refine ev_aload_n dX7_goOver_67 rfl ?_
    refine ev_aload_n dX7_goOver_68 rfl ?_
    refine ev_getR dX7_goOver_69 (fo_RX7_22 _ rfl) (by decide) rfl rfl ?_
    refine ev_iload_n dX7_goOver_72 rfl ?_
    refine ev_iald dX7_goOver_73 (by decide) rfl H.1 ?_
    have H := H.2
    refine ev_callV 23 [.inl (w 28 x1.toNatClampNeg)] dX7_goOver_74 co_X7_pass ml_RX7_120 cv_X7_pass (by decide) rfl rfl rfl rfl (by decide) (Nat.le_of_ble_eq_true rfl) rfl H (fun r3 u4 H => ?_)
    refine ev_if_ne 82 dX7_goOver_77 (by decide) (fun h => ?_) (fun h => ?_)
    · have H := H.1 h
      refine ev_iinc (x1 + 1) dX7_goOver_82 rfl rfl (by decide) ?_
      refine ev_goto 59 dX7_goOver_85 (by decide) ?_
      exact H
    · have H := H.2 h
      refine ev_iload_n dX7_goOver_80 rfl ?_
      exact ev_iret dX7_goOver_81 rfl H

set_option maxHeartbeats 4000000 in
set_option maxRecDepth 100000 in
theorem sg_X7_ordain_0 {d : Nat} {w : ex_WW} {P : Int32 → ex_WW → Prop} (H : ((¬ (w 23 7) = 6 → ex_Ev d mX7_goOver 0 (ex_in [.inr 23] 2) [] w (fun r1 u2 => ((r1 < 0 → ex_Ev (d + 1) mX7_ordain 28 [some (.inr 23), some (.inl r1), some (.inl 0)] [] u2 P) ∧ (¬ r1 < 0 → P ((-100) - r1) u2)))) ∧ ((w 23 7) = 6 → P (-2) w))) : ex_Ev (d + 1) mX7_ordain 0 [some (.inr 23), none, none] [] w P := by
  refine ev_aload_n dX7_ordain_0 rfl ?_
  refine ev_getI dX7_ordain_1 (fo_RX7_123 _ rfl) (by decide) rfl rfl ?_
  refine ev_bipush 6 dX7_ordain_4 (by decide) ?_
  refine ev_icmp_ne 12 dX7_ordain_6 (by decide) (fun h => ?_) (fun h => ?_)
  · have H := H.1 h
    refine ev_aload_n dX7_ordain_12 rfl ?_
    refine ev_callV 23 [] dX7_ordain_13 co_X7_goOver ml_RX7_126 cv_X7_goOver (by decide) rfl rfl rfl rfl (by decide) (Nat.le_of_ble_eq_true rfl) rfl H (fun r1 u2 H => ?_)
    refine ev_istore_n dX7_ordain_16 (by decide) ?_
    refine ev_iload_n dX7_ordain_17 rfl ?_
    refine ev_if_lt 26 dX7_ordain_18 (by decide) (fun h => ?_) (fun h => ?_)
    · have H := H.1 h
      refine ev_iconst 0 dX7_ordain_26 (by decide) ?_
      refine ev_istore_n dX7_ordain_27 (by decide) ?_
      exact H
    · have H := H.2 h
      refine ev_bipush (-100) dX7_ordain_21 (by decide) ?_
      refine ev_iload_n dX7_ordain_23 rfl ?_
      refine ev_isub dX7_ordain_24 ?_
      exact ev_iret dX7_ordain_25 rfl H
  · have H := H.2 h
    refine ev_bipush (-2) dX7_ordain_9 (by decide) ?_
    exact ev_iret dX7_ordain_11 rfl H

set_option maxHeartbeats 4000000 in
set_option maxRecDepth 100000 in
theorem sg_X7_ordain_28 {d : Nat} {w : ex_WW} {P : Int32 → ex_WW → Prop} {x1 : Int32} {x2 : Int32} (H : ((7 ≤ x2 → P (w 23 7) (ex_up (ex_up (ex_up w 23 5 0) 23 8 (w 23 7)) 23 7 ((w 23 7) + 1))) ∧ (¬ 7 ≤ x2 → (vp_in x2 7 ∧ (vp_in ((7 * (w 23 7)) + x2) 42 ∧ ex_Ev (d + 1) mX7_ordain 28 [some (.inr 23), some (.inl x1), some (.inl (x2 + 1))] [] (ex_up w 29 ((7 * (w 23 7)) + x2).toNatClampNeg (w 37 x2.toNatClampNeg)) P))))) : ex_Ev (d + 1) mX7_ordain 28 [some (.inr 23), some (.inl x1), some (.inl x2)] [] w P := by
  refine ev_iload_n dX7_ordain_28 rfl ?_
  refine ev_bipush 7 dX7_ordain_29 (by decide) ?_
  refine ev_icmp_ge 60 dX7_ordain_31 (by decide) (fun h => ?_) (fun h => ?_)
  · have H := H.1 h
    refine ev_aload_n dX7_ordain_60 rfl ?_
    refine ev_iconst 0 dX7_ordain_61 (by decide) ?_
    refine ev_put dX7_ordain_62 (fo_RX7_101 _ rfl) fp_7_5 (by decide) rfl rfl (vp_nar_int _) rfl ?_
    refine ev_aload_n dX7_ordain_65 rfl ?_
    refine ev_aload_n dX7_ordain_66 rfl ?_
    refine ev_getI dX7_ordain_67 (fo_RX7_123 _ rfl) (by decide) rfl rfl ?_
    refine ev_put dX7_ordain_70 (fo_RX7_25 _ rfl) fp_7_8 (by decide) rfl rfl (vp_nar_int _) rfl ?_
    refine ev_aload_n dX7_ordain_73 rfl ?_
    refine ev_dup dX7_ordain_74 ?_
    refine ev_getI dX7_ordain_75 (fo_RX7_123 _ rfl) (by decide) rfl rfl ?_
    refine ev_iconst 1 dX7_ordain_78 (by decide) ?_
    refine ev_iadd dX7_ordain_79 ?_
    refine ev_put dX7_ordain_80 (fo_RX7_123 _ rfl) fp_7_7 (by decide) rfl rfl (vp_nar_int _) rfl ?_
    refine ev_aload_n dX7_ordain_83 rfl ?_
    refine ev_getI dX7_ordain_84 (fo_RX7_25 _ rfl) (by decide) rfl rfl ?_
    exact ev_iret dX7_ordain_87 rfl H
  · have H := H.2 h
    refine ev_aload_n dX7_ordain_34 rfl ?_
    refine ev_getR dX7_ordain_35 (fo_RX7_29 _ rfl) (by decide) rfl rfl ?_
    refine ev_bipush 7 dX7_ordain_38 (by decide) ?_
    refine ev_aload_n dX7_ordain_40 rfl ?_
    refine ev_getI dX7_ordain_41 (fo_RX7_123 _ rfl) (by decide) rfl rfl ?_
    refine ev_imul dX7_ordain_44 ?_
    refine ev_iload_n dX7_ordain_45 rfl ?_
    refine ev_iadd dX7_ordain_46 ?_
    refine ev_aload_n dX7_ordain_47 rfl ?_
    refine ev_getR dX7_ordain_48 (fo_RX7_54 _ rfl) (by decide) rfl rfl ?_
    refine ev_iload_n dX7_ordain_51 rfl ?_
    refine ev_iald dX7_ordain_52 (by decide) rfl H.1 ?_
    have H := H.2
    refine ev_iast dX7_ordain_53 (by decide) rfl H.1 ?_
    have H := H.2
    refine ev_iinc (x2 + 1) dX7_ordain_54 rfl rfl (by decide) ?_
    refine ev_goto 28 dX7_ordain_57 (by decide) ?_
    exact H

set_option maxHeartbeats 4000000 in
set_option maxRecDepth 100000 in
theorem sg_X7_force_0 {d : Nat} {w : ex_WW} {P : Int32 → ex_WW → Prop} {p0 : Int32} (H : ex_Ev d mX7_in 0 (ex_in [.inl p0, .inl 0, .inl ((w 23 7) - 1)] 3) [] w (fun r1 u2 => ((¬ r1 = 0 → P 1 (ex_up u2 23 8 p0)) ∧ (r1 = 0 → P (-1) u2)))) : ex_Ev (d + 1) mX7_force 0 [some (.inr 23), some (.inl p0)] [] w P := by
  refine ev_iload_n dX7_force_0 rfl ?_
  refine ev_iconst 0 dX7_force_1 (by decide) ?_
  refine ev_aload_n dX7_force_2 rfl ?_
  refine ev_getI dX7_force_3 (fo_RX7_123 _ rfl) (by decide) rfl rfl ?_
  refine ev_iconst 1 dX7_force_6 (by decide) ?_
  refine ev_isub dX7_force_7 ?_
  refine ev_callS [.inl p0, .inl 0, .inl ((w 23 7) - 1)] dX7_force_8 co_X7_in ml_RX7_72 cs_X7_in rfl rfl (by decide) (Nat.le_of_ble_eq_true rfl) rfl H (fun r1 u2 H => ?_)
  refine ev_if_ne 16 dX7_force_11 (by decide) (fun h => ?_) (fun h => ?_)
  · have H := H.1 h
    refine ev_aload_n dX7_force_16 rfl ?_
    refine ev_iload_n dX7_force_17 rfl ?_
    refine ev_put dX7_force_18 (fo_RX7_25 _ rfl) fp_7_8 (by decide) rfl rfl (vp_nar_int _) rfl ?_
    refine ev_iconst 1 dX7_force_21 (by decide) ?_
    exact ev_iret dX7_force_22 rfl H
  · have H := H.2 h
    refine ev_iconst (-1) dX7_force_14 (by decide) ?_
    exact ev_iret dX7_force_15 rfl H

set_option maxHeartbeats 4000000 in
set_option maxRecDepth 100000 in
theorem sg_X7_worth_0 {d : Nat} {w : ex_WW} {P : Int32 → ex_WW → Prop} {p0 : Int32} {p1 : Int32} (H : ex_Ev d mX7_in 0 (ex_in [.inl p0, .inl 0, .inl ((w 23 7) - 1)] 3) [] w (fun r1 u2 => ((r1 = 0 → P (-1000000) u2) ∧ (¬ r1 = 0 → ex_Ev d mX7_in 0 (ex_in [.inl p1, .inl 0, .inl 6] 3) [] u2 (fun r3 u4 => ((r3 = 0 → P (-1000000) u4) ∧ (¬ r3 = 0 → (vp_in ((7 * p0) + p1) 42 ∧ P (u4 29 ((7 * p0) + p1).toNatClampNeg) u4)))))))) : ex_Ev (d + 1) mX7_worth 0 [some (.inr 23), some (.inl p0), some (.inl p1)] [] w P := by
  refine ev_iload_n dX7_worth_0 rfl ?_
  refine ev_iconst 0 dX7_worth_1 (by decide) ?_
  refine ev_aload_n dX7_worth_2 rfl ?_
  refine ev_getI dX7_worth_3 (fo_RX7_123 _ rfl) (by decide) rfl rfl ?_
  refine ev_iconst 1 dX7_worth_6 (by decide) ?_
  refine ev_isub dX7_worth_7 ?_
  refine ev_callS [.inl p0, .inl 0, .inl ((w 23 7) - 1)] dX7_worth_8 co_X7_in ml_RX7_72 cs_X7_in rfl rfl (by decide) (Nat.le_of_ble_eq_true rfl) rfl H (fun r1 u2 H => ?_)
  refine ev_if_eq 38 dX7_worth_11 (by decide) (fun h => ?_) (fun h => ?_)
  · have H := H.1 h
    refine ev_ldc (-1000000) dX7_worth_38 (ex_mem 887 (by decide +kernel) rfl) ?_
    exact ev_iret dX7_worth_40 rfl H
  · have H := H.2 h
    refine ev_iload_n dX7_worth_14 rfl ?_
    refine ev_iconst 0 dX7_worth_15 (by decide) ?_
    refine ev_bipush 6 dX7_worth_16 (by decide) ?_
    refine ev_callS [.inl p1, .inl 0, .inl 6] dX7_worth_18 co_X7_in ml_RX7_72 cs_X7_in rfl rfl (by decide) (Nat.le_of_ble_eq_true rfl) rfl H (fun r3 u4 H => ?_)
    refine ev_if_eq 38 dX7_worth_21 (by decide) (fun h => ?_) (fun h => ?_)
    · have H := H.1 h
      refine ev_ldc (-1000000) dX7_worth_38 (ex_mem 887 (by decide +kernel) rfl) ?_
      exact ev_iret dX7_worth_40 rfl H
    · have H := H.2 h
      refine ev_aload_n dX7_worth_24 rfl ?_
      refine ev_getR dX7_worth_25 (fo_RX7_29 _ rfl) (by decide) rfl rfl ?_
      refine ev_bipush 7 dX7_worth_28 (by decide) ?_
      refine ev_iload_n dX7_worth_30 rfl ?_
      refine ev_imul dX7_worth_31 ?_
      refine ev_iload_n dX7_worth_32 rfl ?_
      refine ev_iadd dX7_worth_33 ?_
      refine ev_iald dX7_worth_34 (by decide) rfl H.1 ?_
      have H := H.2
      refine ev_goto 40 dX7_worth_35 (by decide) ?_
      exact ev_iret dX7_worth_40 rfl H

set_option maxHeartbeats 4000000 in
set_option maxRecDepth 100000 in
theorem sg_X7_joust_0 {d : Nat} {w : ex_WW} {P : Int32 → ex_WW → Prop} {p0 : Int32} {p1 : Int32} (H : ex_Ev d mX7_areTwo 0 (ex_in [.inr 23, .inl p0, .inl p1] 3) [] w (fun r1 u2 => ((¬ r1 = 0 → ((0 ≤ (u2 23 8) → ex_Ev d mX7_yieldsTo 0 (ex_in [.inr 23, .inl p0] 3) [] u2 (fun r3 u4 => ((0 ≤ r3 → P (-5) u4) ∧ (¬ 0 ≤ r3 → ex_Ev d mX7_yieldsTo 0 (ex_in [.inr 23, .inl p1] 3) [] u4 (fun r5 u6 => ((r5 < 0 → ((¬ (u6 23 10) = 30 → (vp_in (2 * (u6 23 10)) 60 ∧ (vp_in ((2 * (u6 23 10)) + 1) 60 ∧ (vp_in (u6 23 10) 30 ∧ (vp_in (2 * (u6 23 10)) 60 ∧ (vp_in ((2 * (u6 23 10)) + 1) 60 ∧ ex_Ev (d + 1) mX7_joust 119 [some (.inr 23), some (.inl p0), some (.inl p1), some (.inl 0)] [] (ex_up (ex_up (ex_up (ex_up (ex_up u6 30 (2 * (u6 23 10)).toNatClampNeg p0) 30 ((2 * (u6 23 10)) + 1).toNatClampNeg p1) 31 (u6 23 10).toNatClampNeg (u6 23 8)) 33 (2 * (u6 23 10)).toNatClampNeg 0) 33 ((2 * (u6 23 10)) + 1).toNatClampNeg 0) P)))))) ∧ ((u6 23 10) = 30 → P (-2) u6))) ∧ (¬ r5 < 0 → P (-5) u6))))))) ∧ (¬ 0 ≤ (u2 23 8) → P (-4) u2))) ∧ (r1 = 0 → P (-1) u2)))) : ex_Ev (d + 1) mX7_joust 0 [some (.inr 23), some (.inl p0), some (.inl p1), none] [] w P := by
  refine ev_aload_n dX7_joust_0 rfl ?_
  refine ev_iload_n dX7_joust_1 rfl ?_
  refine ev_iload_n dX7_joust_2 rfl ?_
  refine ev_callV 23 [.inl p0, .inl p1] dX7_joust_3 co_X7_areTwo ml_RX7_131 cv_X7_areTwo (by decide) rfl rfl rfl rfl (by decide) (Nat.le_of_ble_eq_true rfl) rfl H (fun r1 u2 H => ?_)
  refine ev_if_ne 11 dX7_joust_6 (by decide) (fun h => ?_) (fun h => ?_)
  · have H := H.1 h
    refine ev_aload_n dX7_joust_11 rfl ?_
    refine ev_getI dX7_joust_12 (fo_RX7_25 _ rfl) (by decide) rfl rfl ?_
    refine ev_if_ge 21 dX7_joust_15 (by decide) (fun h => ?_) (fun h => ?_)
    · have H := H.1 h
      refine ev_aload_n dX7_joust_21 rfl ?_
      refine ev_iload_n dX7_joust_22 rfl ?_
      refine ev_callV 23 [.inl p0] dX7_joust_23 co_X7_yieldsTo ml_RX7_97 cv_X7_yieldsTo (by decide) rfl rfl rfl rfl (by decide) (Nat.le_of_ble_eq_true rfl) rfl H (fun r3 u4 H => ?_)
      refine ev_if_ge 37 dX7_joust_26 (by decide) (fun h => ?_) (fun h => ?_)
      · have H := H.1 h
        refine ev_bipush (-5) dX7_joust_37 (by decide) ?_
        exact ev_iret dX7_joust_39 rfl H
      · have H := H.2 h
        refine ev_aload_n dX7_joust_29 rfl ?_
        refine ev_iload_n dX7_joust_30 rfl ?_
        refine ev_callV 23 [.inl p1] dX7_joust_31 co_X7_yieldsTo ml_RX7_97 cv_X7_yieldsTo (by decide) rfl rfl rfl rfl (by decide) (Nat.le_of_ble_eq_true rfl) rfl H (fun r5 u6 H => ?_)
        refine ev_if_lt 40 dX7_joust_34 (by decide) (fun h => ?_) (fun h => ?_)
        · have H := H.1 h
          refine ev_aload_n dX7_joust_40 rfl ?_
          refine ev_getI dX7_joust_41 (fo_RX7_80 _ rfl) (by decide) rfl rfl ?_
          refine ev_bipush 30 dX7_joust_44 (by decide) ?_
          refine ev_icmp_ne 52 dX7_joust_46 (by decide) (fun h => ?_) (fun h => ?_)
          · have H := H.1 h
            refine ev_aload_n dX7_joust_52 rfl ?_
            refine ev_getR dX7_joust_53 (fo_RX7_32 _ rfl) (by decide) rfl rfl ?_
            refine ev_iconst 2 dX7_joust_56 (by decide) ?_
            refine ev_aload_n dX7_joust_57 rfl ?_
            refine ev_getI dX7_joust_58 (fo_RX7_80 _ rfl) (by decide) rfl rfl ?_
            refine ev_imul dX7_joust_61 ?_
            refine ev_iload_n dX7_joust_62 rfl ?_
            refine ev_iast dX7_joust_63 (by decide) rfl H.1 ?_
            have H := H.2
            refine ev_aload_n dX7_joust_64 rfl ?_
            refine ev_getR dX7_joust_65 (fo_RX7_32 _ rfl) (by decide) rfl rfl ?_
            refine ev_iconst 2 dX7_joust_68 (by decide) ?_
            refine ev_aload_n dX7_joust_69 rfl ?_
            refine ev_getI dX7_joust_70 (fo_RX7_80 _ rfl) (by decide) rfl rfl ?_
            refine ev_imul dX7_joust_73 ?_
            refine ev_iconst 1 dX7_joust_74 (by decide) ?_
            refine ev_iadd dX7_joust_75 ?_
            refine ev_iload_n dX7_joust_76 rfl ?_
            refine ev_iast dX7_joust_77 (by decide) rfl H.1 ?_
            have H := H.2
            refine ev_aload_n dX7_joust_78 rfl ?_
            refine ev_getR dX7_joust_79 (fo_RX7_35 _ rfl) (by decide) rfl rfl ?_
            refine ev_aload_n dX7_joust_82 rfl ?_
            refine ev_getI dX7_joust_83 (fo_RX7_80 _ rfl) (by decide) rfl rfl ?_
            refine ev_aload_n dX7_joust_86 rfl ?_
            refine ev_getI dX7_joust_87 (fo_RX7_25 _ rfl) (by decide) rfl rfl ?_
            refine ev_iast dX7_joust_90 (by decide) rfl H.1 ?_
            have H := H.2
            refine ev_aload_n dX7_joust_91 rfl ?_
            refine ev_getR dX7_joust_92 (fo_RX7_41 _ rfl) (by decide) rfl rfl ?_
            refine ev_iconst 2 dX7_joust_95 (by decide) ?_
            refine ev_aload_n dX7_joust_96 rfl ?_
            refine ev_getI dX7_joust_97 (fo_RX7_80 _ rfl) (by decide) rfl rfl ?_
            refine ev_imul dX7_joust_100 ?_
            refine ev_iconst 0 dX7_joust_101 (by decide) ?_
            refine ev_iast dX7_joust_102 (by decide) rfl H.1 ?_
            have H := H.2
            refine ev_aload_n dX7_joust_103 rfl ?_
            refine ev_getR dX7_joust_104 (fo_RX7_41 _ rfl) (by decide) rfl rfl ?_
            refine ev_iconst 2 dX7_joust_107 (by decide) ?_
            refine ev_aload_n dX7_joust_108 rfl ?_
            refine ev_getI dX7_joust_109 (fo_RX7_80 _ rfl) (by decide) rfl rfl ?_
            refine ev_imul dX7_joust_112 ?_
            refine ev_iconst 1 dX7_joust_113 (by decide) ?_
            refine ev_iadd dX7_joust_114 ?_
            refine ev_iconst 0 dX7_joust_115 (by decide) ?_
            refine ev_iast dX7_joust_116 (by decide) rfl H.1 ?_
            have H := H.2
            refine ev_iconst 0 dX7_joust_117 (by decide) ?_
            refine ev_istore_n dX7_joust_118 (by decide) ?_
            exact H
          · have H := H.2 h
            refine ev_bipush (-2) dX7_joust_49 (by decide) ?_
            exact ev_iret dX7_joust_51 rfl H
        · have H := H.2 h
          refine ev_bipush (-5) dX7_joust_37 (by decide) ?_
          exact ev_iret dX7_joust_39 rfl H
    · have H := H.2 h
      refine ev_bipush (-4) dX7_joust_18 (by decide) ?_
      exact ev_iret dX7_joust_20 rfl H
  · have H := H.2 h
    refine ev_iconst (-1) dX7_joust_9 (by decide) ?_
    exact ev_iret dX7_joust_10 rfl H

set_option maxHeartbeats 4000000 in
set_option maxRecDepth 100000 in
theorem sg_X7_joust_119 {d : Nat} {w : ex_WW} {P : Int32 → ex_WW → Prop} {x1 : Int32} {x2 : Int32} {x3 : Int32} (H : ((12 ≤ x3 → P (((w 23 10) + 1) - 1) (ex_up w 23 10 ((w 23 10) + 1))) ∧ (¬ 12 ≤ x3 → (vp_in ((12 * (w 23 10)) + x3) 360 ∧ ex_Ev (d + 1) mX7_joust 119 [some (.inr 23), some (.inl x1), some (.inl x2), some (.inl (x3 + 1))] [] (ex_up w 32 ((12 * (w 23 10)) + x3).toNatClampNeg 6) P)))) : ex_Ev (d + 1) mX7_joust 119 [some (.inr 23), some (.inl x1), some (.inl x2), some (.inl x3)] [] w P := by
  refine ev_iload_n dX7_joust_119 rfl ?_
  refine ev_bipush 12 dX7_joust_120 (by decide) ?_
  refine ev_icmp_ge 147 dX7_joust_122 (by decide) (fun h => ?_) (fun h => ?_)
  · have H := H.1 h
    refine ev_aload_n dX7_joust_147 rfl ?_
    refine ev_dup dX7_joust_148 ?_
    refine ev_getI dX7_joust_149 (fo_RX7_80 _ rfl) (by decide) rfl rfl ?_
    refine ev_iconst 1 dX7_joust_152 (by decide) ?_
    refine ev_iadd dX7_joust_153 ?_
    refine ev_put dX7_joust_154 (fo_RX7_80 _ rfl) fp_7_10 (by decide) rfl rfl (vp_nar_int _) rfl ?_
    refine ev_aload_n dX7_joust_157 rfl ?_
    refine ev_getI dX7_joust_158 (fo_RX7_80 _ rfl) (by decide) rfl rfl ?_
    refine ev_iconst 1 dX7_joust_161 (by decide) ?_
    refine ev_isub dX7_joust_162 ?_
    exact ev_iret dX7_joust_163 rfl H
  · have H := H.2 h
    refine ev_aload_n dX7_joust_125 rfl ?_
    refine ev_getR dX7_joust_126 (fo_RX7_38 _ rfl) (by decide) rfl rfl ?_
    refine ev_bipush 12 dX7_joust_129 (by decide) ?_
    refine ev_aload_n dX7_joust_131 rfl ?_
    refine ev_getI dX7_joust_132 (fo_RX7_80 _ rfl) (by decide) rfl rfl ?_
    refine ev_imul dX7_joust_135 ?_
    refine ev_iload_n dX7_joust_136 rfl ?_
    refine ev_iadd dX7_joust_137 ?_
    refine ev_bipush 6 dX7_joust_138 (by decide) ?_
    refine ev_iast dX7_joust_140 (by decide) rfl H.1 ?_
    have H := H.2
    refine ev_iinc (x3 + 1) dX7_joust_141 rfl rfl (by decide) ?_
    refine ev_goto 119 dX7_joust_144 (by decide) ?_
    exact H

set_option maxHeartbeats 4000000 in
set_option maxRecDepth 100000 in
theorem sg_X7_sheetAt_0 {d : Nat} {w : ex_WW} {P : Int32 → ex_WW → Prop} {p0 : Int32} {p1 : Int32} (H : P (6 * ((2 * p0) + p1)) w) : ex_Ev d mX7_sheetAt 0 [some (.inl p0), some (.inl p1)] [] w P := by
  refine ev_bipush 6 dX7_sheetAt_0 (by decide) ?_
  refine ev_iconst 2 dX7_sheetAt_2 (by decide) ?_
  refine ev_iload_n dX7_sheetAt_3 rfl ?_
  refine ev_imul dX7_sheetAt_4 ?_
  refine ev_iload_n dX7_sheetAt_5 rfl ?_
  refine ev_iadd dX7_sheetAt_6 ?_
  refine ev_imul dX7_sheetAt_7 ?_
  exact ev_iret dX7_sheetAt_8 rfl H

set_option maxHeartbeats 4000000 in
set_option maxRecDepth 100000 in
theorem sg_X7_stroke_0 {d : Nat} {w : ex_WW} {P : Int32 → ex_WW → Prop} {p0 : Int32} {p1 : Int32} {p2 : Int32} {p3 : Int32} (H : ex_Ev d mX7_isJoust 0 (ex_in [.inr 23, .inl p0] 2) [] w (fun r1 u2 => ((r1 = 0 → P (-1) u2) ∧ (¬ r1 = 0 → ex_Ev d mX7_isSide 0 (ex_in [.inl p1] 1) [] u2 (fun r3 u4 => ((r3 = 0 → P (-1) u4) ∧ (¬ r3 = 0 → ex_Ev d mX7_in 0 (ex_in [.inl p2, .inl 0, .inl 5] 3) [] u4 (fun r5 u6 => ((r5 = 0 → P (-1) u6) ∧ (¬ r5 = 0 → ex_Ev d mX7_in 0 (ex_in [.inl p3, .inl 0, .inl 6] 3) [] u6 (fun r7 u8 => ((¬ r7 = 0 → ex_Ev d mX7_sheetAt 0 (ex_in [.inl p0, .inl p1] 2) [] u8 (fun r9 u10 => (vp_in (r9 + p2) 360 ∧ (vp_in (r9 + p2) 360 ∧ P (u10 32 (r9 + p2).toNatClampNeg) (ex_up u10 32 (r9 + p2).toNatClampNeg p3))))) ∧ (r7 = 0 → P (-1) u8))))))))))))) : ex_Ev (d + 1) mX7_stroke 0 [some (.inr 23), some (.inl p0), some (.inl p1), some (.inl p2), some (.inl p3), none, none] [] w P := by
  refine ev_aload_n dX7_stroke_0 rfl ?_
  refine ev_iload_n dX7_stroke_1 rfl ?_
  refine ev_callV 23 [.inl p0] dX7_stroke_2 co_X7_isJoust ml_RX7_134 cv_X7_isJoust (by decide) rfl rfl rfl rfl (by decide) (Nat.le_of_ble_eq_true rfl) rfl H (fun r1 u2 H => ?_)
  refine ev_if_eq 35 dX7_stroke_5 (by decide) (fun h => ?_) (fun h => ?_)
  · have H := H.1 h
    refine ev_iconst (-1) dX7_stroke_35 (by decide) ?_
    exact ev_iret dX7_stroke_36 rfl H
  · have H := H.2 h
    refine ev_iload_n dX7_stroke_8 rfl ?_
    refine ev_callS [.inl p1] dX7_stroke_9 co_X7_isSide ml_RX7_137 cs_X7_isSide rfl rfl (by decide) (Nat.le_of_ble_eq_true rfl) rfl H (fun r3 u4 H => ?_)
    refine ev_if_eq 35 dX7_stroke_12 (by decide) (fun h => ?_) (fun h => ?_)
    · have H := H.1 h
      refine ev_iconst (-1) dX7_stroke_35 (by decide) ?_
      exact ev_iret dX7_stroke_36 rfl H
    · have H := H.2 h
      refine ev_iload_n dX7_stroke_15 rfl ?_
      refine ev_iconst 0 dX7_stroke_16 (by decide) ?_
      refine ev_iconst 5 dX7_stroke_17 (by decide) ?_
      refine ev_callS [.inl p2, .inl 0, .inl 5] dX7_stroke_18 co_X7_in ml_RX7_72 cs_X7_in rfl rfl (by decide) (Nat.le_of_ble_eq_true rfl) rfl H (fun r5 u6 H => ?_)
      refine ev_if_eq 35 dX7_stroke_21 (by decide) (fun h => ?_) (fun h => ?_)
      · have H := H.1 h
        refine ev_iconst (-1) dX7_stroke_35 (by decide) ?_
        exact ev_iret dX7_stroke_36 rfl H
      · have H := H.2 h
        refine ev_iload dX7_stroke_24 rfl ?_
        refine ev_iconst 0 dX7_stroke_26 (by decide) ?_
        refine ev_bipush 6 dX7_stroke_27 (by decide) ?_
        refine ev_callS [.inl p3, .inl 0, .inl 6] dX7_stroke_29 co_X7_in ml_RX7_72 cs_X7_in rfl rfl (by decide) (Nat.le_of_ble_eq_true rfl) rfl H (fun r7 u8 H => ?_)
        refine ev_if_ne 37 dX7_stroke_32 (by decide) (fun h => ?_) (fun h => ?_)
        · have H := H.1 h
          refine ev_iload_n dX7_stroke_37 rfl ?_
          refine ev_iload_n dX7_stroke_38 rfl ?_
          refine ev_callS [.inl p0, .inl p1] dX7_stroke_39 co_X7_sheetAt ml_RX7_140 cs_X7_sheetAt rfl rfl (by decide) (Nat.le_of_ble_eq_true rfl) rfl H (fun r9 u10 H => ?_)
          refine ev_iload_n dX7_stroke_42 rfl ?_
          refine ev_iadd dX7_stroke_43 ?_
          refine ev_istore dX7_stroke_44 (by decide) ?_
          refine ev_aload_n dX7_stroke_46 rfl ?_
          refine ev_getR dX7_stroke_47 (fo_RX7_38 _ rfl) (by decide) rfl rfl ?_
          refine ev_iload dX7_stroke_50 rfl ?_
          refine ev_iald dX7_stroke_52 (by decide) rfl H.1 ?_
          have H := H.2
          refine ev_istore dX7_stroke_53 (by decide) ?_
          refine ev_aload_n dX7_stroke_55 rfl ?_
          refine ev_getR dX7_stroke_56 (fo_RX7_38 _ rfl) (by decide) rfl rfl ?_
          refine ev_iload dX7_stroke_59 rfl ?_
          refine ev_iload dX7_stroke_61 rfl ?_
          refine ev_iast dX7_stroke_63 (by decide) rfl H.1 ?_
          have H := H.2
          refine ev_iload dX7_stroke_64 rfl ?_
          exact ev_iret dX7_stroke_66 rfl H
        · have H := H.2 h
          refine ev_iconst (-1) dX7_stroke_35 (by decide) ?_
          exact ev_iret dX7_stroke_36 rfl H

set_option maxHeartbeats 4000000 in
set_option maxRecDepth 100000 in
theorem sg_X7_copy_0 {d : Nat} {w : ex_WW} {P : Int32 → ex_WW → Prop} {p0 : Int32} {p1 : Int32} {p2 : Int32} {p3 : Int32} {p4 : Int32} {p5 : Int32} (H : ex_Ev d mX7_isJoust 0 (ex_in [.inr 23, .inl p0] 2) [] w (fun r1 u2 => ((r1 = 0 → P (-1) u2) ∧ (¬ r1 = 0 → ex_Ev d mX7_isJoust 0 (ex_in [.inr 23, .inl p1] 2) [] u2 (fun r3 u4 => ((r3 = 0 → P (-1) u4) ∧ (¬ r3 = 0 → ex_Ev d mX7_isSide 0 (ex_in [.inl p2] 1) [] u4 (fun r5 u6 => ((r5 = 0 → P (-1) u6) ∧ (¬ r5 = 0 → ex_Ev d mX7_in 0 (ex_in [.inl p5, .inl 0, .inl 6] 3) [] u6 (fun r7 u8 => ((r7 = 0 → P (-1) u8) ∧ (¬ r7 = 0 → ex_Ev d mX7_in 0 (ex_in [.inl p3, .inl 0, .inl (6 - p5)] 3) [] u8 (fun r9 u10 => ((r9 = 0 → P (-1) u10) ∧ (¬ r9 = 0 → ex_Ev d mX7_in 0 (ex_in [.inl p4, .inl 0, .inl (6 - p5)] 3) [] u10 (fun r11 u12 => ((¬ r11 = 0 → ex_Ev d mX7_sheetAt 0 (ex_in [.inl p0, .inl p2] 2) [] u12 (fun r13 u14 => ex_Ev d mX7_sheetAt 0 (ex_in [.inl p1, .inl p2] 2) [] u14 (fun r15 u16 => ex_Ev (d + 1) mX7_copy 87 [some (.inr 23), some (.inl p0), some (.inl p1), some (.inl p2), some (.inl p3), some (.inl p4), some (.inl p5), some (.inl (r13 + p3)), some (.inl (r15 + p4)), some (.inl 0), none] [] u16 P))) ∧ (r11 = 0 → P (-1) u12))))))))))))))))))) : ex_Ev (d + 1) mX7_copy 0 [some (.inr 23), some (.inl p0), some (.inl p1), some (.inl p2), some (.inl p3), some (.inl p4), some (.inl p5), none, none, none, none] [] w P := by
  refine ev_aload_n dX7_copy_0 rfl ?_
  refine ev_iload_n dX7_copy_1 rfl ?_
  refine ev_callV 23 [.inl p0] dX7_copy_2 co_X7_isJoust ml_RX7_134 cv_X7_isJoust (by decide) rfl rfl rfl rfl (by decide) (Nat.le_of_ble_eq_true rfl) rfl H (fun r1 u2 H => ?_)
  refine ev_if_eq 62 dX7_copy_5 (by decide) (fun h => ?_) (fun h => ?_)
  · have H := H.1 h
    refine ev_iconst (-1) dX7_copy_62 (by decide) ?_
    exact ev_iret dX7_copy_63 rfl H
  · have H := H.2 h
    refine ev_aload_n dX7_copy_8 rfl ?_
    refine ev_iload_n dX7_copy_9 rfl ?_
    refine ev_callV 23 [.inl p1] dX7_copy_10 co_X7_isJoust ml_RX7_134 cv_X7_isJoust (by decide) rfl rfl rfl rfl (by decide) (Nat.le_of_ble_eq_true rfl) rfl H (fun r3 u4 H => ?_)
    refine ev_if_eq 62 dX7_copy_13 (by decide) (fun h => ?_) (fun h => ?_)
    · have H := H.1 h
      refine ev_iconst (-1) dX7_copy_62 (by decide) ?_
      exact ev_iret dX7_copy_63 rfl H
    · have H := H.2 h
      refine ev_iload_n dX7_copy_16 rfl ?_
      refine ev_callS [.inl p2] dX7_copy_17 co_X7_isSide ml_RX7_137 cs_X7_isSide rfl rfl (by decide) (Nat.le_of_ble_eq_true rfl) rfl H (fun r5 u6 H => ?_)
      refine ev_if_eq 62 dX7_copy_20 (by decide) (fun h => ?_) (fun h => ?_)
      · have H := H.1 h
        refine ev_iconst (-1) dX7_copy_62 (by decide) ?_
        exact ev_iret dX7_copy_63 rfl H
      · have H := H.2 h
        refine ev_iload dX7_copy_23 rfl ?_
        refine ev_iconst 0 dX7_copy_25 (by decide) ?_
        refine ev_bipush 6 dX7_copy_26 (by decide) ?_
        refine ev_callS [.inl p5, .inl 0, .inl 6] dX7_copy_28 co_X7_in ml_RX7_72 cs_X7_in rfl rfl (by decide) (Nat.le_of_ble_eq_true rfl) rfl H (fun r7 u8 H => ?_)
        refine ev_if_eq 62 dX7_copy_31 (by decide) (fun h => ?_) (fun h => ?_)
        · have H := H.1 h
          refine ev_iconst (-1) dX7_copy_62 (by decide) ?_
          exact ev_iret dX7_copy_63 rfl H
        · have H := H.2 h
          refine ev_iload dX7_copy_34 rfl ?_
          refine ev_iconst 0 dX7_copy_36 (by decide) ?_
          refine ev_bipush 6 dX7_copy_37 (by decide) ?_
          refine ev_iload dX7_copy_39 rfl ?_
          refine ev_isub dX7_copy_41 ?_
          refine ev_callS [.inl p3, .inl 0, .inl (6 - p5)] dX7_copy_42 co_X7_in ml_RX7_72 cs_X7_in rfl rfl (by decide) (Nat.le_of_ble_eq_true rfl) rfl H (fun r9 u10 H => ?_)
          refine ev_if_eq 62 dX7_copy_45 (by decide) (fun h => ?_) (fun h => ?_)
          · have H := H.1 h
            refine ev_iconst (-1) dX7_copy_62 (by decide) ?_
            exact ev_iret dX7_copy_63 rfl H
          · have H := H.2 h
            refine ev_iload dX7_copy_48 rfl ?_
            refine ev_iconst 0 dX7_copy_50 (by decide) ?_
            refine ev_bipush 6 dX7_copy_51 (by decide) ?_
            refine ev_iload dX7_copy_53 rfl ?_
            refine ev_isub dX7_copy_55 ?_
            refine ev_callS [.inl p4, .inl 0, .inl (6 - p5)] dX7_copy_56 co_X7_in ml_RX7_72 cs_X7_in rfl rfl (by decide) (Nat.le_of_ble_eq_true rfl) rfl H (fun r11 u12 H => ?_)
            refine ev_if_ne 64 dX7_copy_59 (by decide) (fun h => ?_) (fun h => ?_)
            · have H := H.1 h
              refine ev_iload_n dX7_copy_64 rfl ?_
              refine ev_iload_n dX7_copy_65 rfl ?_
              refine ev_callS [.inl p0, .inl p2] dX7_copy_66 co_X7_sheetAt ml_RX7_140 cs_X7_sheetAt rfl rfl (by decide) (Nat.le_of_ble_eq_true rfl) rfl H (fun r13 u14 H => ?_)
              refine ev_iload dX7_copy_69 rfl ?_
              refine ev_iadd dX7_copy_71 ?_
              refine ev_istore dX7_copy_72 (by decide) ?_
              refine ev_iload_n dX7_copy_74 rfl ?_
              refine ev_iload_n dX7_copy_75 rfl ?_
              refine ev_callS [.inl p1, .inl p2] dX7_copy_76 co_X7_sheetAt ml_RX7_140 cs_X7_sheetAt rfl rfl (by decide) (Nat.le_of_ble_eq_true rfl) rfl H (fun r15 u16 H => ?_)
              refine ev_iload dX7_copy_79 rfl ?_
              refine ev_iadd dX7_copy_81 ?_
              refine ev_istore dX7_copy_82 (by decide) ?_
              refine ev_iconst 0 dX7_copy_84 (by decide) ?_
              refine ev_istore dX7_copy_85 (by decide) ?_
              exact H
            · have H := H.2 h
              refine ev_iconst (-1) dX7_copy_62 (by decide) ?_
              exact ev_iret dX7_copy_63 rfl H

set_option maxHeartbeats 4000000 in
set_option maxRecDepth 100000 in
theorem sg_X7_copy_87 {d : Nat} {w : ex_WW} {P : Int32 → ex_WW → Prop} {x1 : Int32} {x2 : Int32} {x3 : Int32} {x4 : Int32} {x5 : Int32} {x6 : Int32} {x7 : Int32} {x8 : Int32} {x9 : Int32} (H : ((x6 ≤ x9 → P x6 w) ∧ (¬ x6 ≤ x9 → ((x8 ≤ x7 → (vp_in (x7 + x9) 360 ∧ (vp_in (x8 + x9) 360 ∧ ex_Ev (d + 1) mX7_copy 87 [some (.inr 23), some (.inl x1), some (.inl x2), some (.inl x3), some (.inl x4), some (.inl x5), some (.inl x6), some (.inl x7), some (.inl x8), some (.inl (x9 + 1)), none] [] (ex_up w 32 (x8 + x9).toNatClampNeg (w 32 (x7 + x9).toNatClampNeg)) P))) ∧ (¬ x8 ≤ x7 → (vp_in (x7 + ((x6 - 1) - x9)) 360 ∧ (vp_in (x8 + ((x6 - 1) - x9)) 360 ∧ ex_Ev (d + 1) mX7_copy 87 [some (.inr 23), some (.inl x1), some (.inl x2), some (.inl x3), some (.inl x4), some (.inl x5), some (.inl x6), some (.inl x7), some (.inl x8), some (.inl (x9 + 1)), none] [] (ex_up w 32 (x8 + ((x6 - 1) - x9)).toNatClampNeg (w 32 (x7 + ((x6 - 1) - x9)).toNatClampNeg)) P))))))) : ex_Ev (d + 1) mX7_copy 87 [some (.inr 23), some (.inl x1), some (.inl x2), some (.inl x3), some (.inl x4), some (.inl x5), some (.inl x6), some (.inl x7), some (.inl x8), some (.inl x9), none] [] w P := by
  refine ev_iload dX7_copy_87 rfl ?_
  refine ev_iload dX7_copy_89 rfl ?_
  refine ev_icmp_ge 141 dX7_copy_91 (by decide) (fun h => ?_) (fun h => ?_)
  · have H := H.1 h
    refine ev_iload dX7_copy_141 rfl ?_
    exact ev_iret dX7_copy_143 rfl H
  · have H := H.2 h
    refine ev_iload dX7_copy_94 rfl ?_
    refine ev_iload dX7_copy_96 rfl ?_
    refine ev_icmp_le 111 dX7_copy_98 (by decide) (fun h => ?_) (fun h => ?_)
    · have H := H.1 h
      refine ev_iload dX7_copy_111 rfl ?_
      refine ev_istore dX7_copy_113 (by decide) ?_
      refine ev_aload_n dX7_copy_115 rfl ?_
      refine ev_getR dX7_copy_116 (fo_RX7_38 _ rfl) (by decide) rfl rfl ?_
      refine ev_iload dX7_copy_119 rfl ?_
      refine ev_iload dX7_copy_121 rfl ?_
      refine ev_iadd dX7_copy_123 ?_
      refine ev_aload_n dX7_copy_124 rfl ?_
      refine ev_getR dX7_copy_125 (fo_RX7_38 _ rfl) (by decide) rfl rfl ?_
      refine ev_iload dX7_copy_128 rfl ?_
      refine ev_iload dX7_copy_130 rfl ?_
      refine ev_iadd dX7_copy_132 ?_
      refine ev_iald dX7_copy_133 (by decide) rfl H.1 ?_
      have H := H.2
      refine ev_iast dX7_copy_134 (by decide) rfl H.1 ?_
      have H := H.2
      refine ev_iinc (x9 + 1) dX7_copy_135 rfl rfl (by decide) ?_
      refine ev_goto 87 dX7_copy_138 (by decide) ?_
      refine ev_drop 10 ?_
      exact H
    · have H := H.2 h
      refine ev_iload dX7_copy_101 rfl ?_
      refine ev_iconst 1 dX7_copy_103 (by decide) ?_
      refine ev_isub dX7_copy_104 ?_
      refine ev_iload dX7_copy_105 rfl ?_
      refine ev_isub dX7_copy_107 ?_
      refine ev_goto 113 dX7_copy_108 (by decide) ?_
      refine ev_istore dX7_copy_113 (by decide) ?_
      refine ev_aload_n dX7_copy_115 rfl ?_
      refine ev_getR dX7_copy_116 (fo_RX7_38 _ rfl) (by decide) rfl rfl ?_
      refine ev_iload dX7_copy_119 rfl ?_
      refine ev_iload dX7_copy_121 rfl ?_
      refine ev_iadd dX7_copy_123 ?_
      refine ev_aload_n dX7_copy_124 rfl ?_
      refine ev_getR dX7_copy_125 (fo_RX7_38 _ rfl) (by decide) rfl rfl ?_
      refine ev_iload dX7_copy_128 rfl ?_
      refine ev_iload dX7_copy_130 rfl ?_
      refine ev_iadd dX7_copy_132 ?_
      refine ev_iald dX7_copy_133 (by decide) rfl H.1 ?_
      have H := H.2
      refine ev_iast dX7_copy_134 (by decide) rfl H.1 ?_
      have H := H.2
      refine ev_iinc (x9 + 1) dX7_copy_135 rfl rfl (by decide) ?_
      refine ev_goto 87 dX7_copy_138 (by decide) ?_
      refine ev_drop 10 ?_
      exact H

set_option maxHeartbeats 4000000 in
set_option maxRecDepth 100000 in
theorem sg_X7_strokeMany_0 {d : Nat} {w : ex_WW} {P : Int32 → ex_WW → Prop} {p0 : Int32} {p1 : Int32} {p2 : Int32} (H : ex_Ev (d + 1) mX7_strokeMany 6 [some (.inr 23), some (.inl p0), some (.inl p1), some (.inl p2), some (.inl 0), some (.inl 0)] [] w P) : ex_Ev (d + 1) mX7_strokeMany 0 [some (.inr 23), some (.inl p0), some (.inl p1), some (.inl p2), none, none] [] w P := by
  refine ev_iconst 0 dX7_strokeMany_0 (by decide) ?_
  refine ev_istore dX7_strokeMany_1 (by decide) ?_
  refine ev_iconst 0 dX7_strokeMany_3 (by decide) ?_
  refine ev_istore dX7_strokeMany_4 (by decide) ?_
  exact H

set_option maxHeartbeats 4000000 in
set_option maxRecDepth 100000 in
theorem sg_X7_strokeMany_6 {d : Nat} {w : ex_WW} {P : Int32 → ex_WW → Prop} {x1 : Int32} {x2 : Int32} {x3 : Int32} {x4 : Int32} {x5 : Int32} (H : ((6 ≤ x5 → P x4 w) ∧ (¬ 6 ≤ x5 → ex_Ev d mX7_sheetAt 0 (ex_in [.inl x1, .inl x2] 2) [] w (fun r1 u2 => (vp_in (r1 + x5) 360 ∧ ((¬ (u2 32 (r1 + x5).toNatClampNeg) = x3 → ex_Ev (d + 1) mX7_strokeMany 6 [some (.inr 23), some (.inl x1), some (.inl x2), some (.inl x3), some (.inl (x4 + 0)), some (.inl (x5 + 1))] [] u2 P) ∧ ((u2 32 (r1 + x5).toNatClampNeg) = x3 → ex_Ev (d + 1) mX7_strokeMany 6 [some (.inr 23), some (.inl x1), some (.inl x2), some (.inl x3), some (.inl (x4 + 1)), some (.inl (x5 + 1))] [] u2 P))))))) : ex_Ev (d + 1) mX7_strokeMany 6 [some (.inr 23), some (.inl x1), some (.inl x2), some (.inl x3), some (.inl x4), some (.inl x5)] [] w P := by
  refine ev_iload dX7_strokeMany_6 rfl ?_
  refine ev_bipush 6 dX7_strokeMany_8 (by decide) ?_
  refine ev_icmp_ge 46 dX7_strokeMany_10 (by decide) (fun h => ?_) (fun h => ?_)
  · have H := H.1 h
    refine ev_iload dX7_strokeMany_46 rfl ?_
    exact ev_iret dX7_strokeMany_48 rfl H
  · have H := H.2 h
    refine ev_iload dX7_strokeMany_13 rfl ?_
    refine ev_aload_n dX7_strokeMany_15 rfl ?_
    refine ev_getR dX7_strokeMany_16 (fo_RX7_38 _ rfl) (by decide) rfl rfl ?_
    refine ev_iload_n dX7_strokeMany_19 rfl ?_
    refine ev_iload_n dX7_strokeMany_20 rfl ?_
    refine ev_callS [.inl x1, .inl x2] dX7_strokeMany_21 co_X7_sheetAt ml_RX7_140 cs_X7_sheetAt rfl rfl (by decide) (Nat.le_of_ble_eq_true rfl) rfl H (fun r1 u2 H => ?_)
    refine ev_iload dX7_strokeMany_24 rfl ?_
    refine ev_iadd dX7_strokeMany_26 ?_
    refine ev_iald dX7_strokeMany_27 (by decide) rfl H.1 ?_
    have H := H.2
    refine ev_iload_n dX7_strokeMany_28 rfl ?_
    refine ev_icmp_ne 36 dX7_strokeMany_29 (by decide) (fun h => ?_) (fun h => ?_)
    · have H := H.1 h
      refine ev_iconst 0 dX7_strokeMany_36 (by decide) ?_
      refine ev_iadd dX7_strokeMany_37 ?_
      refine ev_istore dX7_strokeMany_38 (by decide) ?_
      refine ev_iinc (x5 + 1) dX7_strokeMany_40 rfl rfl (by decide) ?_
      refine ev_goto 6 dX7_strokeMany_43 (by decide) ?_
      exact H
    · have H := H.2 h
      refine ev_iconst 1 dX7_strokeMany_32 (by decide) ?_
      refine ev_goto 37 dX7_strokeMany_33 (by decide) ?_
      refine ev_iadd dX7_strokeMany_37 ?_
      refine ev_istore dX7_strokeMany_38 (by decide) ?_
      refine ev_iinc (x5 + 1) dX7_strokeMany_40 rfl rfl (by decide) ?_
      refine ev_goto 6 dX7_strokeMany_43 (by decide) ?_
      exact H

set_option maxHeartbeats 4000000 in
set_option maxRecDepth 100000 in
theorem sg_X7_reckon_0 {d : Nat} {w : ex_WW} {P : Int32 → ex_WW → Prop} {p0 : Int32} {p1 : Int32} {p2 : Int32} (H : (vp_in p0 30 ∧ (vp_in ((7 * (w 31 p0.toNatClampNeg)) + 6) 42 ∧ ex_Ev (d + 1) mX7_reckon 36 [some (.inr 23), some (.inl p0), some (.inl p1), some (.inl p2), some (.inl (7 * (w 31 p0.toNatClampNeg))), some (.inl (w 29 ((7 * (w 31 p0.toNatClampNeg)) + 6).toNatClampNeg)), some (.inl 0), none, none, none] [] (ex_up (ex_up w 23 24 0) 23 25 0) P))) : ex_Ev (d + 1) mX7_reckon 0 [some (.inr 23), some (.inl p0), some (.inl p1), some (.inl p2), none, none, none, none, none, none] [] w P := by
  refine ev_bipush 7 dX7_reckon_0 (by decide) ?_
  refine ev_aload_n dX7_reckon_2 rfl ?_
  refine ev_getR dX7_reckon_3 (fo_RX7_35 _ rfl) (by decide) rfl rfl ?_
  refine ev_iload_n dX7_reckon_6 rfl ?_
  refine ev_iald dX7_reckon_7 (by decide) rfl H.1 ?_
  have H := H.2
  refine ev_imul dX7_reckon_8 ?_
  refine ev_istore dX7_reckon_9 (by decide) ?_
  refine ev_aload_n dX7_reckon_11 rfl ?_
  refine ev_getR dX7_reckon_12 (fo_RX7_29 _ rfl) (by decide) rfl rfl ?_
  refine ev_iload dX7_reckon_15 rfl ?_
  refine ev_bipush 6 dX7_reckon_17 (by decide) ?_
  refine ev_iadd dX7_reckon_19 ?_
  refine ev_iald dX7_reckon_20 (by decide) rfl H.1 ?_
  have H := H.2
  refine ev_istore dX7_reckon_21 (by decide) ?_
  refine ev_aload_n dX7_reckon_23 rfl ?_
  refine ev_iconst 0 dX7_reckon_24 (by decide) ?_
  refine ev_put dX7_reckon_25 (fo_RX7_144 _ rfl) fp_7_24 (by decide) rfl rfl (vp_nar_int _) rfl ?_
  refine ev_aload_n dX7_reckon_28 rfl ?_
  refine ev_iconst 0 dX7_reckon_29 (by decide) ?_
  refine ev_put dX7_reckon_30 (fo_RX7_147 _ rfl) fp_7_25 (by decide) rfl rfl (vp_nar_int _) rfl ?_
  refine ev_iconst 0 dX7_reckon_33 (by decide) ?_
  refine ev_istore dX7_reckon_34 (by decide) ?_
  exact H

set_option maxHeartbeats 4000000 in
set_option maxRecDepth 100000 in
theorem sg_X7_reckon_36 {d : Nat} {w : ex_WW} {P : Int32 → ex_WW → Prop} {x1 : Int32} {x2 : Int32} {x3 : Int32} {x4 : Int32} {x5 : Int32} {x6 : Int32} (H : ((6 ≤ x6 → P 0 w) ∧ (¬ 6 ≤ x6 → ex_Ev d mX7_sheetAt 0 (ex_in [.inl x1, .inl x2] 2) [] w (fun r1 u2 => (vp_in (r1 + x6) 360 ∧ ((¬ (u2 32 (r1 + x6).toNatClampNeg) = 6 → ex_Ev (d + 1) mX7_reckon 175 [some (.inr 23), some (.inl x1), some (.inl x2), some (.inl x3), some (.inl x4), some (.inl x5), some (.inl x6), some (.inl (u2 32 (r1 + x6).toNatClampNeg)), none, none] [] u2 P) ∧ ((u2 32 (r1 + x6).toNatClampNeg) = 6 → ex_Ev (d + 1) mX7_reckon 71 [some (.inr 23), some (.inl x1), some (.inl x2), some (.inl x3), some (.inl x4), some (.inl x5), some (.inl x6), some (.inl 0), some (.inl 1), none] [] u2 P))))))) : ex_Ev (d + 1) mX7_reckon 36 [some (.inr 23), some (.inl x1), some (.inl x2), some (.inl x3), some (.inl x4), some (.inl x5), some (.inl x6), none, none, none] [] w P := by
  refine ev_iload dX7_reckon_36 rfl ?_
  refine ev_bipush 6 dX7_reckon_38 (by decide) ?_
  refine ev_icmp_ge 226 dX7_reckon_40 (by decide) (fun h => ?_) (fun h => ?_)
  · have H := H.1 h
    exact ev_vret dX7_reckon_226 rfl H
  · have H := H.2 h
    refine ev_aload_n dX7_reckon_43 rfl ?_
    refine ev_getR dX7_reckon_44 (fo_RX7_38 _ rfl) (by decide) rfl rfl ?_
    refine ev_iload_n dX7_reckon_47 rfl ?_
    refine ev_iload_n dX7_reckon_48 rfl ?_
    refine ev_callS [.inl x1, .inl x2] dX7_reckon_49 co_X7_sheetAt ml_RX7_140 cs_X7_sheetAt rfl rfl (by decide) (Nat.le_of_ble_eq_true rfl) rfl H (fun r1 u2 H => ?_)
    refine ev_iload dX7_reckon_52 rfl ?_
    refine ev_iadd dX7_reckon_54 ?_
    refine ev_iald dX7_reckon_55 (by decide) rfl H.1 ?_
    have H := H.2
    refine ev_istore dX7_reckon_56 (by decide) ?_
    refine ev_iload dX7_reckon_58 rfl ?_
    refine ev_bipush 6 dX7_reckon_60 (by decide) ?_
    refine ev_icmp_ne 175 dX7_reckon_62 (by decide) (fun h => ?_) (fun h => ?_)
    · have H := H.1 h
      exact H
    · have H := H.2 h
      refine ev_iconst 0 dX7_reckon_65 (by decide) ?_
      refine ev_istore dX7_reckon_66 (by decide) ?_
      refine ev_iconst 1 dX7_reckon_68 (by decide) ?_
      refine ev_istore dX7_reckon_69 (by decide) ?_
      exact H

set_option maxHeartbeats 4000000 in
set_option maxRecDepth 100000 in
theorem sg_X7_reckon_71 {d : Nat} {w : ex_WW} {P : Int32 → ex_WW → Prop} {x1 : Int32} {x2 : Int32} {x3 : Int32} {x4 : Int32} {x5 : Int32} {x6 : Int32} {x7 : Int32} {x8 : Int32} (H : ((6 ≤ x8 → ex_Ev (d + 1) mX7_reckon 175 [some (.inr 23), some (.inl x1), some (.inl x2), some (.inl x3), some (.inl x4), some (.inl x5), some (.inl x6), some (.inl x7), none, none] [] w P) ∧ (¬ 6 ≤ x8 → (vp_in (x4 + x8) 42 ∧ (vp_in (x4 + x7) 42 ∧ ((¬ ((w 29 (x4 + x8).toNatClampNeg) - (w 29 (x4 + x7).toNatClampNeg)) = 0 → ex_Ev (d + 1) mX7_reckon 143 [some (.inr 23), some (.inl x1), some (.inl x2), some (.inl x3), some (.inl x4), some (.inl x5), some (.inl x6), some (.inl x7), some (.inl x8), some (.inl ((w 29 (x4 + x8).toNatClampNeg) - (w 29 (x4 + x7).toNatClampNeg)))] [] w P) ∧ (((w 29 (x4 + x8).toNatClampNeg) - (w 29 (x4 + x7).toNatClampNeg)) = 0 → ((¬ x8 = x5 → ((¬ x7 = x5 → ex_Ev (d + 1) mX7_reckon 143 [some (.inr 23), some (.inl x1), some (.inl x2), some (.inl x3), some (.inl x4), some (.inl x5), some (.inl x6), some (.inl x7), some (.inl x8), some (.inl (0 - 0))] [] w P) ∧ (x7 = x5 → ((x5 ≤ 0 → ex_Ev (d + 1) mX7_reckon 143 [some (.inr 23), some (.inl x1), some (.inl x2), some (.inl x3), some (.inl x4), some (.inl x5), some (.inl x6), some (.inl x7), some (.inl x8), some (.inl (0 - 0))] [] w P) ∧ (¬ x5 ≤ 0 → ex_Ev (d + 1) mX7_reckon 143 [some (.inr 23), some (.inl x1), some (.inl x2), some (.inl x3), some (.inl x4), some (.inl x5), some (.inl x6), some (.inl x7), some (.inl x8), some (.inl (0 - 1))] [] w P))))) ∧ (x8 = x5 → ((¬ x7 = x5 → ex_Ev (d + 1) mX7_reckon 143 [some (.inr 23), some (.inl x1), some (.inl x2), some (.inl x3), some (.inl x4), some (.inl x5), some (.inl x6), some (.inl x7), some (.inl x8), some (.inl (1 - 0))] [] w P) ∧ (x7 = x5 → ((x5 ≤ 0 → ex_Ev (d + 1) mX7_reckon 143 [some (.inr 23), some (.inl x1), some (.inl x2), some (.inl x3), some (.inl x4), some (.inl x5), some (.inl x6), some (.inl x7), some (.inl x8), some (.inl (1 - 0))] [] w P) ∧ (¬ x5 ≤ 0 → ex_Ev (d + 1) mX7_reckon 143 [some (.inr 23), some (.inl x1), some (.inl x2), some (.inl x3), some (.inl x4), some (.inl x5), some (.inl x6), some (.inl x7), some (.inl x8), some (.inl (1 - 1))] [] w P))))))))))))) : ex_Ev (d + 1) mX7_reckon 71 [some (.inr 23), some (.inl x1), some (.inl x2), some (.inl x3), some (.inl x4), some (.inl x5), some (.inl x6), some (.inl x7), some (.inl x8), none] [] w P := by
  refine ev_iload dX7_reckon_71 rfl ?_
  refine ev_bipush 6 dX7_reckon_73 (by decide) ?_
  refine ev_icmp_ge 175 dX7_reckon_75 (by decide) (fun h => ?_) (fun h => ?_)
  · have H := H.1 h
    refine ev_drop 8 ?_
    exact H
  · have H := H.2 h
    refine ev_aload_n dX7_reckon_78 rfl ?_
    refine ev_getR dX7_reckon_79 (fo_RX7_29 _ rfl) (by decide) rfl rfl ?_
    refine ev_iload dX7_reckon_82 rfl ?_
    refine ev_iload dX7_reckon_84 rfl ?_
    refine ev_iadd dX7_reckon_86 ?_
    refine ev_iald dX7_reckon_87 (by decide) rfl H.1 ?_
    have H := H.2
    refine ev_aload_n dX7_reckon_88 rfl ?_
    refine ev_getR dX7_reckon_89 (fo_RX7_29 _ rfl) (by decide) rfl rfl ?_
    refine ev_iload dX7_reckon_92 rfl ?_
    refine ev_iload dX7_reckon_94 rfl ?_
    refine ev_iadd dX7_reckon_96 ?_
    refine ev_iald dX7_reckon_97 (by decide) rfl H.1 ?_
    have H := H.2
    refine ev_isub dX7_reckon_98 ?_
    refine ev_istore dX7_reckon_99 (by decide) ?_
    refine ev_iload dX7_reckon_101 rfl ?_
    refine ev_if_ne 139 dX7_reckon_103 (by decide) (fun h => ?_) (fun h => ?_)
    · have H := H.1 h
      refine ev_iload dX7_reckon_139 rfl ?_
      refine ev_istore dX7_reckon_141 (by decide) ?_
      exact H
    · have H := H.2 h
      refine ev_iload dX7_reckon_106 rfl ?_
      refine ev_iload dX7_reckon_108 rfl ?_
      refine ev_icmp_ne 117 dX7_reckon_110 (by decide) (fun h => ?_) (fun h => ?_)
      · have H := H.1 h
        refine ev_iconst 0 dX7_reckon_117 (by decide) ?_
        refine ev_iload dX7_reckon_118 rfl ?_
        refine ev_iload dX7_reckon_120 rfl ?_
        refine ev_icmp_ne 134 dX7_reckon_122 (by decide) (fun h => ?_) (fun h => ?_)
        · have H := H.1 h
          refine ev_iconst 0 dX7_reckon_134 (by decide) ?_
          refine ev_isub dX7_reckon_135 ?_
          refine ev_goto 141 dX7_reckon_136 (by decide) ?_
          refine ev_istore dX7_reckon_141 (by decide) ?_
          exact H
        · have H := H.2 h
          refine ev_iload dX7_reckon_125 rfl ?_
          refine ev_if_le 134 dX7_reckon_127 (by decide) (fun h => ?_) (fun h => ?_)
          · have H := H.1 h
            refine ev_iconst 0 dX7_reckon_134 (by decide) ?_
            refine ev_isub dX7_reckon_135 ?_
            refine ev_goto 141 dX7_reckon_136 (by decide) ?_
            refine ev_istore dX7_reckon_141 (by decide) ?_
            exact H
          · have H := H.2 h
            refine ev_iconst 1 dX7_reckon_130 (by decide) ?_
            refine ev_goto 135 dX7_reckon_131 (by decide) ?_
            refine ev_isub dX7_reckon_135 ?_
            refine ev_goto 141 dX7_reckon_136 (by decide) ?_
            refine ev_istore dX7_reckon_141 (by decide) ?_
            exact H
      · have H := H.2 h
        refine ev_iconst 1 dX7_reckon_113 (by decide) ?_
        refine ev_goto 118 dX7_reckon_114 (by decide) ?_
        refine ev_iload dX7_reckon_118 rfl ?_
        refine ev_iload dX7_reckon_120 rfl ?_
        refine ev_icmp_ne 134 dX7_reckon_122 (by decide) (fun h => ?_) (fun h => ?_)
        · have H := H.1 h
          refine ev_iconst 0 dX7_reckon_134 (by decide) ?_
          refine ev_isub dX7_reckon_135 ?_
          refine ev_goto 141 dX7_reckon_136 (by decide) ?_
          refine ev_istore dX7_reckon_141 (by decide) ?_
          exact H
        · have H := H.2 h
          refine ev_iload dX7_reckon_125 rfl ?_
          refine ev_if_le 134 dX7_reckon_127 (by decide) (fun h => ?_) (fun h => ?_)
          · have H := H.1 h
            refine ev_iconst 0 dX7_reckon_134 (by decide) ?_
            refine ev_isub dX7_reckon_135 ?_
            refine ev_goto 141 dX7_reckon_136 (by decide) ?_
            refine ev_istore dX7_reckon_141 (by decide) ?_
            exact H
          · have H := H.2 h
            refine ev_iconst 1 dX7_reckon_130 (by decide) ?_
            refine ev_goto 135 dX7_reckon_131 (by decide) ?_
            refine ev_isub dX7_reckon_135 ?_
            refine ev_goto 141 dX7_reckon_136 (by decide) ?_
            refine ev_istore dX7_reckon_141 (by decide) ?_
            exact H

set_option maxHeartbeats 4000000 in
set_option maxRecDepth 100000 in
theorem sg_X7_reckon_143 {d : Nat} {w : ex_WW} {P : Int32 → ex_WW → Prop} {x1 : Int32} {x2 : Int32} {x3 : Int32} {x4 : Int32} {x5 : Int32} {x6 : Int32} {x7 : Int32} {x8 : Int32} {x9 : Int32} (H : ((x3 = 0 → ((0 ≤ x9 → ex_Ev (d + 1) mX7_reckon 169 [some (.inr 23), some (.inl x1), some (.inl x2), some (.inl x3), some (.inl x4), some (.inl x5), some (.inl x6), some (.inl x7), some (.inl x8), some (.inl x9)] [] w P) ∧ (¬ 0 ≤ x9 → ex_Ev (d + 1) mX7_reckon 169 [some (.inr 23), some (.inl x1), some (.inl x2), some (.inl x3), some (.inl x4), some (.inl x5), some (.inl x6), some (.inl x8), some (.inl x8), some (.inl x9)] [] w P))) ∧ (¬ x3 = 0 → ((x9 ≤ 0 → ex_Ev (d + 1) mX7_reckon 169 [some (.inr 23), some (.inl x1), some (.inl x2), some (.inl x3), some (.inl x4), some (.inl x5), some (.inl x6), some (.inl x7), some (.inl x8), some (.inl x9)] [] w P) ∧ (¬ x9 ≤ 0 → ex_Ev (d + 1) mX7_reckon 169 [some (.inr 23), some (.inl x1), some (.inl x2), some (.inl x3), some (.inl x4), some (.inl x5), some (.inl x6), some (.inl x8), some (.inl x8), some (.inl x9)] [] w P))))) : ex_Ev (d + 1) mX7_reckon 143 [some (.inr 23), some (.inl x1), some (.inl x2), some (.inl x3), some (.inl x4), some (.inl x5), some (.inl x6), some (.inl x7), some (.inl x8), some (.inl x9)] [] w P := by
  refine ev_iload_n dX7_reckon_143 rfl ?_
  refine ev_if_eq 155 dX7_reckon_144 (by decide) (fun h => ?_) (fun h => ?_)
  · have H := H.1 h
    refine ev_iload dX7_reckon_155 rfl ?_
    refine ev_if_ge 165 dX7_reckon_157 (by decide) (fun h => ?_) (fun h => ?_)
    · have H := H.1 h
      refine ev_iload dX7_reckon_165 rfl ?_
      refine ev_istore dX7_reckon_167 (by decide) ?_
      exact H
    · have H := H.2 h
      refine ev_iload dX7_reckon_160 rfl ?_
      refine ev_goto 167 dX7_reckon_162 (by decide) ?_
      refine ev_istore dX7_reckon_167 (by decide) ?_
      exact H
  · have H := H.2 h
    refine ev_iload dX7_reckon_147 rfl ?_
    refine ev_if_le 165 dX7_reckon_149 (by decide) (fun h => ?_) (fun h => ?_)
    · have H := H.1 h
      refine ev_iload dX7_reckon_165 rfl ?_
      refine ev_istore dX7_reckon_167 (by decide) ?_
      exact H
    · have H := H.2 h
      refine ev_goto 160 dX7_reckon_152 (by decide) ?_
      refine ev_iload dX7_reckon_160 rfl ?_
      refine ev_goto 167 dX7_reckon_162 (by decide) ?_
      refine ev_istore dX7_reckon_167 (by decide) ?_
      exact H

set_option maxHeartbeats 4000000 in
set_option maxRecDepth 100000 in
theorem sg_X7_reckon_169 {d : Nat} {w : ex_WW} {P : Int32 → ex_WW → Prop} {x1 : Int32} {x2 : Int32} {x3 : Int32} {x4 : Int32} {x5 : Int32} {x6 : Int32} {x7 : Int32} {x8 : Int32} {x9 : Int32} (H : ex_Ev (d + 1) mX7_reckon 71 [some (.inr 23), some (.inl x1), some (.inl x2), some (.inl x3), some (.inl x4), some (.inl x5), some (.inl x6), some (.inl x7), some (.inl (x8 + 1)), none] [] w P) : ex_Ev (d + 1) mX7_reckon 169 [some (.inr 23), some (.inl x1), some (.inl x2), some (.inl x3), some (.inl x4), some (.inl x5), some (.inl x6), some (.inl x7), some (.inl x8), some (.inl x9)] [] w P := by
  refine ev_iinc (x8 + 1) dX7_reckon_169 rfl rfl (by decide) ?_
  refine ev_goto 71 dX7_reckon_172 (by decide) ?_
  refine ev_drop 9 ?_
  exact H

set_option maxHeartbeats 4000000 in
set_option maxRecDepth 100000 in
theorem sg_X7_reckon_175 {d : Nat} {w : ex_WW} {P : Int32 → ex_WW → Prop} {x1 : Int32} {x2 : Int32} {x3 : Int32} {x4 : Int32} {x5 : Int32} {x6 : Int32} {x7 : Int32} (H : (vp_in (x4 + x7) 42 ∧ ((x5 ≤ 0 → ex_Ev (d + 1) mX7_reckon 36 [some (.inr 23), some (.inl x1), some (.inl x2), some (.inl x3), some (.inl x4), some (.inl x5), some (.inl (x6 + 1)), none, none, none] [] (ex_up (ex_up w 23 24 ((w 23 24) + (w 29 (x4 + x7).toNatClampNeg))) 23 25 ((w 23 25) + 0)) P) ∧ (¬ x5 ≤ 0 → ((¬ x7 = x5 → ex_Ev (d + 1) mX7_reckon 36 [some (.inr 23), some (.inl x1), some (.inl x2), some (.inl x3), some (.inl x4), some (.inl x5), some (.inl (x6 + 1)), none, none, none] [] (ex_up (ex_up w 23 24 ((w 23 24) + (w 29 (x4 + x7).toNatClampNeg))) 23 25 ((w 23 25) + 0)) P) ∧ (x7 = x5 → ex_Ev (d + 1) mX7_reckon 36 [some (.inr 23), some (.inl x1), some (.inl x2), some (.inl x3), some (.inl x4), some (.inl x5), some (.inl (x6 + 1)), none, none, none] [] (ex_up (ex_up w 23 24 ((w 23 24) + (w 29 (x4 + x7).toNatClampNeg))) 23 25 ((w 23 25) + 1)) P)))))) : ex_Ev (d + 1) mX7_reckon 175 [some (.inr 23), some (.inl x1), some (.inl x2), some (.inl x3), some (.inl x4), some (.inl x5), some (.inl x6), some (.inl x7), none, none] [] w P := by
  refine ev_aload_n dX7_reckon_175 rfl ?_
  refine ev_dup dX7_reckon_176 ?_
  refine ev_getI dX7_reckon_177 (fo_RX7_144 _ rfl) (by decide) rfl rfl ?_
  refine ev_aload_n dX7_reckon_180 rfl ?_
  refine ev_getR dX7_reckon_181 (fo_RX7_29 _ rfl) (by decide) rfl rfl ?_
  refine ev_iload dX7_reckon_184 rfl ?_
  refine ev_iload dX7_reckon_186 rfl ?_
  refine ev_iadd dX7_reckon_188 ?_
  refine ev_iald dX7_reckon_189 (by decide) rfl H.1 ?_
  have H := H.2
  refine ev_iadd dX7_reckon_190 ?_
  refine ev_put dX7_reckon_191 (fo_RX7_144 _ rfl) fp_7_24 (by decide) rfl rfl (vp_nar_int _) rfl ?_
  refine ev_aload_n dX7_reckon_194 rfl ?_
  refine ev_dup dX7_reckon_195 ?_
  refine ev_getI dX7_reckon_196 (fo_RX7_147 _ rfl) (by decide) rfl rfl ?_
  refine ev_iload dX7_reckon_199 rfl ?_
  refine ev_if_le 215 dX7_reckon_201 (by decide) (fun h => ?_) (fun h => ?_)
  · have H := H.1 h
    refine ev_iconst 0 dX7_reckon_215 (by decide) ?_
    refine ev_iadd dX7_reckon_216 ?_
    refine ev_put dX7_reckon_217 (fo_RX7_147 _ rfl) fp_7_25 (by decide) rfl rfl (vp_nar_int _) rfl ?_
    refine ev_iinc (x6 + 1) dX7_reckon_220 rfl rfl (by decide) ?_
    refine ev_goto 36 dX7_reckon_223 (by decide) ?_
    refine ev_drop 7 ?_
    exact H
  · have H := H.2 h
    refine ev_iload dX7_reckon_204 rfl ?_
    refine ev_iload dX7_reckon_206 rfl ?_
    refine ev_icmp_ne 215 dX7_reckon_208 (by decide) (fun h => ?_) (fun h => ?_)
    · have H := H.1 h
      refine ev_iconst 0 dX7_reckon_215 (by decide) ?_
      refine ev_iadd dX7_reckon_216 ?_
      refine ev_put dX7_reckon_217 (fo_RX7_147 _ rfl) fp_7_25 (by decide) rfl rfl (vp_nar_int _) rfl ?_
      refine ev_iinc (x6 + 1) dX7_reckon_220 rfl rfl (by decide) ?_
      refine ev_goto 36 dX7_reckon_223 (by decide) ?_
      refine ev_drop 7 ?_
      exact H
    · have H := H.2 h
      refine ev_iconst 1 dX7_reckon_211 (by decide) ?_
      refine ev_goto 216 dX7_reckon_212 (by decide) ?_
      refine ev_iadd dX7_reckon_216 ?_
      refine ev_put dX7_reckon_217 (fo_RX7_147 _ rfl) fp_7_25 (by decide) rfl rfl (vp_nar_int _) rfl ?_
      refine ev_iinc (x6 + 1) dX7_reckon_220 rfl rfl (by decide) ?_
      refine ev_goto 36 dX7_reckon_223 (by decide) ?_
      refine ev_drop 7 ?_
      exact H

set_option maxHeartbeats 4000000 in
set_option maxRecDepth 100000 in
theorem sg_X7_sheet_0 {d : Nat} {w : ex_WW} {P : Int32 → ex_WW → Prop} {p0 : Int32} {p1 : Int32} {p2 : Int32} (H : ex_Ev d mX7_isJoust 0 (ex_in [.inr 23, .inl p0] 2) [] w (fun r1 u2 => ((r1 = 0 → P (-1000000) u2) ∧ (¬ r1 = 0 → ex_Ev d mX7_isSide 0 (ex_in [.inl p1] 1) [] u2 (fun r3 u4 => ((r3 = 0 → P (-1000000) u4) ∧ (¬ r3 = 0 → ex_Ev d mX7_in 0 (ex_in [.inl p2, .inl 0, .inl 8] 3) [] u4 (fun r5 u6 => ((¬ r5 = 0 → ((2 ≤ p2 → ((¬ p2 = 2 → ex_Ev d mX7_strokeMany 0 (ex_in [.inr 23, .inl p0, .inl p1, .inl (p2 - 3)] 6) [] u6 (fun r7 u8 => P r7 u8)) ∧ (p2 = 2 → ex_Ev d mX7_strokeMany 0 (ex_in [.inr 23, .inl p0, .inl p1, .inl 6] 6) [] u6 (fun r9 u10 => P r9 u10)))) ∧ (¬ 2 ≤ p2 → ((¬ p2 = 1 → ex_Ev d mX7_reckon 0 (ex_in [.inr 23, .inl p0, .inl p1, .inl 0] 10) [] u6 (fun _ u12 => P (u12 23 24) u12)) ∧ (p2 = 1 → ex_Ev d mX7_reckon 0 (ex_in [.inr 23, .inl p0, .inl p1, .inl 1] 10) [] u6 (fun _ u14 => P (u14 23 24) u14)))))) ∧ (r5 = 0 → P (-1000000) u6)))))))))) : ex_Ev (d + 1) mX7_sheet 0 [some (.inr 23), some (.inl p0), some (.inl p1), some (.inl p2)] [] w P := by
  refine ev_aload_n dX7_sheet_0 rfl ?_
  refine ev_iload_n dX7_sheet_1 rfl ?_
  refine ev_callV 23 [.inl p0] dX7_sheet_2 co_X7_isJoust ml_RX7_134 cv_X7_isJoust (by decide) rfl rfl rfl rfl (by decide) (Nat.le_of_ble_eq_true rfl) rfl H (fun r1 u2 H => ?_)
  refine ev_if_eq 25 dX7_sheet_5 (by decide) (fun h => ?_) (fun h => ?_)
  · have H := H.1 h
    refine ev_ldc (-1000000) dX7_sheet_25 (ex_mem 887 (by decide +kernel) rfl) ?_
    exact ev_iret dX7_sheet_27 rfl H
  · have H := H.2 h
    refine ev_iload_n dX7_sheet_8 rfl ?_
    refine ev_callS [.inl p1] dX7_sheet_9 co_X7_isSide ml_RX7_137 cs_X7_isSide rfl rfl (by decide) (Nat.le_of_ble_eq_true rfl) rfl H (fun r3 u4 H => ?_)
    refine ev_if_eq 25 dX7_sheet_12 (by decide) (fun h => ?_) (fun h => ?_)
    · have H := H.1 h
      refine ev_ldc (-1000000) dX7_sheet_25 (ex_mem 887 (by decide +kernel) rfl) ?_
      exact ev_iret dX7_sheet_27 rfl H
    · have H := H.2 h
      refine ev_iload_n dX7_sheet_15 rfl ?_
      refine ev_iconst 0 dX7_sheet_16 (by decide) ?_
      refine ev_bipush 8 dX7_sheet_17 (by decide) ?_
      refine ev_callS [.inl p2, .inl 0, .inl 8] dX7_sheet_19 co_X7_in ml_RX7_72 cs_X7_in rfl rfl (by decide) (Nat.le_of_ble_eq_true rfl) rfl H (fun r5 u6 H => ?_)
      refine ev_if_ne 28 dX7_sheet_22 (by decide) (fun h => ?_) (fun h => ?_)
      · have H := H.1 h
        refine ev_iload_n dX7_sheet_28 rfl ?_
        refine ev_iconst 2 dX7_sheet_29 (by decide) ?_
        refine ev_icmp_ge 54 dX7_sheet_30 (by decide) (fun h => ?_) (fun h => ?_)
        · have H := H.1 h
          refine ev_aload_n dX7_sheet_54 rfl ?_
          refine ev_iload_n dX7_sheet_55 rfl ?_
          refine ev_iload_n dX7_sheet_56 rfl ?_
          refine ev_iload_n dX7_sheet_57 rfl ?_
          refine ev_iconst 2 dX7_sheet_58 (by decide) ?_
          refine ev_icmp_ne 67 dX7_sheet_59 (by decide) (fun h => ?_) (fun h => ?_)
          · have H := H.1 h
            refine ev_iload_n dX7_sheet_67 rfl ?_
            refine ev_iconst 3 dX7_sheet_68 (by decide) ?_
            refine ev_isub dX7_sheet_69 ?_
            refine ev_callV 23 [.inl p0, .inl p1, .inl (p2 - 3)] dX7_sheet_70 co_X7_strokeMany ml_RX7_154 cv_X7_strokeMany (by decide) rfl rfl rfl rfl (by decide) (Nat.le_of_ble_eq_true rfl) rfl H (fun r7 u8 H => ?_)
            exact ev_iret dX7_sheet_73 rfl H
          · have H := H.2 h
            refine ev_bipush 6 dX7_sheet_62 (by decide) ?_
            refine ev_goto 70 dX7_sheet_64 (by decide) ?_
            refine ev_callV 23 [.inl p0, .inl p1, .inl 6] dX7_sheet_70 co_X7_strokeMany ml_RX7_154 cv_X7_strokeMany (by decide) rfl rfl rfl rfl (by decide) (Nat.le_of_ble_eq_true rfl) rfl H (fun r9 u10 H => ?_)
            exact ev_iret dX7_sheet_73 rfl H
        · have H := H.2 h
          refine ev_aload_n dX7_sheet_33 rfl ?_
          refine ev_iload_n dX7_sheet_34 rfl ?_
          refine ev_iload_n dX7_sheet_35 rfl ?_
          refine ev_iload_n dX7_sheet_36 rfl ?_
          refine ev_iconst 1 dX7_sheet_37 (by decide) ?_
          refine ev_icmp_ne 45 dX7_sheet_38 (by decide) (fun h => ?_) (fun h => ?_)
          · have H := H.1 h
            refine ev_iconst 0 dX7_sheet_45 (by decide) ?_
            refine ev_callVv 23 [.inl p0, .inl p1, .inl 0] dX7_sheet_46 co_X7_reckon ml_RX7_150 cv_X7_reckon (by decide) rfl rfl rfl rfl (by decide) (Nat.le_of_ble_eq_true rfl) rfl H (fun u12 H => ?_)
            refine ev_aload_n dX7_sheet_49 rfl ?_
            refine ev_getI dX7_sheet_50 (fo_RX7_144 _ rfl) (by decide) rfl rfl ?_
            exact ev_iret dX7_sheet_53 rfl H
          · have H := H.2 h
            refine ev_iconst 1 dX7_sheet_41 (by decide) ?_
            refine ev_goto 46 dX7_sheet_42 (by decide) ?_
            refine ev_callVv 23 [.inl p0, .inl p1, .inl 1] dX7_sheet_46 co_X7_reckon ml_RX7_150 cv_X7_reckon (by decide) rfl rfl rfl rfl (by decide) (Nat.le_of_ble_eq_true rfl) rfl H (fun u14 H => ?_)
            refine ev_aload_n dX7_sheet_49 rfl ?_
            refine ev_getI dX7_sheet_50 (fo_RX7_144 _ rfl) (by decide) rfl rfl ?_
            exact ev_iret dX7_sheet_53 rfl H
      · have H := H.2 h
        refine ev_ldc (-1000000) dX7_sheet_25 (ex_mem 887 (by decide +kernel) rfl) ?_
        exact ev_iret dX7_sheet_27 rfl H

set_option maxHeartbeats 4000000 in
set_option maxRecDepth 100000 in
theorem sg_X7_isGreater_0 {d : Nat} {w : ex_WW} {P : Int32 → ex_WW → Prop} {p0 : Int32} {p1 : Int32} {p2 : Int32} (H : ex_Ev d mX7_reckon 0 (ex_in [.inr 23, .inl p0, .inl p1, .inl p2] 10) [] w (fun _ u2 => ((¬ p2 = 0 → ex_Ev d mX7_reckon 0 (ex_in [.inr 23, .inl p0, .inl (1 - p1), .inl 0] 10) [] u2 (fun _ u4 => (((u2 23 24) = (u4 23 24) → (((u2 23 25) ≤ (u4 23 25) → P 0 u4) ∧ (¬ (u2 23 25) ≤ (u4 23 25) → P 1 u4))) ∧ (¬ (u2 23 24) = (u4 23 24) → (((u2 23 24) ≤ (u4 23 24) → P 0 u4) ∧ (¬ (u2 23 24) ≤ (u4 23 24) → P 1 u4)))))) ∧ (p2 = 0 → ex_Ev d mX7_reckon 0 (ex_in [.inr 23, .inl p0, .inl (1 - p1), .inl 1] 10) [] u2 (fun _ u6 => (((u2 23 24) = (u6 23 24) → (((u2 23 25) ≤ (u6 23 25) → P 0 u6) ∧ (¬ (u2 23 25) ≤ (u6 23 25) → P 1 u6))) ∧ (¬ (u2 23 24) = (u6 23 24) → (((u2 23 24) ≤ (u6 23 24) → P 0 u6) ∧ (¬ (u2 23 24) ≤ (u6 23 24) → P 1 u6))))))))) : ex_Ev (d + 1) mX7_isGreater 0 [some (.inr 23), some (.inl p0), some (.inl p1), some (.inl p2), none, none] [] w P := by
  refine ev_aload_n dX7_isGreater_0 rfl ?_
  refine ev_iload_n dX7_isGreater_1 rfl ?_
  refine ev_iload_n dX7_isGreater_2 rfl ?_
  refine ev_iload_n dX7_isGreater_3 rfl ?_
  refine ev_callVv 23 [.inl p0, .inl p1, .inl p2] dX7_isGreater_4 co_X7_reckon ml_RX7_150 cv_X7_reckon (by decide) rfl rfl rfl rfl (by decide) (Nat.le_of_ble_eq_true rfl) rfl H (fun u2 H => ?_)
  refine ev_aload_n dX7_isGreater_7 rfl ?_
  refine ev_getI dX7_isGreater_8 (fo_RX7_144 _ rfl) (by decide) rfl rfl ?_
  refine ev_istore dX7_isGreater_11 (by decide) ?_
  refine ev_aload_n dX7_isGreater_13 rfl ?_
  refine ev_getI dX7_isGreater_14 (fo_RX7_147 _ rfl) (by decide) rfl rfl ?_
  refine ev_istore dX7_isGreater_17 (by decide) ?_
  refine ev_aload_n dX7_isGreater_19 rfl ?_
  refine ev_iload_n dX7_isGreater_20 rfl ?_
  refine ev_iconst 1 dX7_isGreater_21 (by decide) ?_
  refine ev_iload_n dX7_isGreater_22 rfl ?_
  refine ev_isub dX7_isGreater_23 ?_
  refine ev_iload_n dX7_isGreater_24 rfl ?_
  refine ev_if_ne 32 dX7_isGreater_25 (by decide) (fun h => ?_) (fun h => ?_)
  · have H := H.1 h
    refine ev_iconst 0 dX7_isGreater_32 (by decide) ?_
    refine ev_callVv 23 [.inl p0, .inl (1 - p1), .inl 0] dX7_isGreater_33 co_X7_reckon ml_RX7_150 cv_X7_reckon (by decide) rfl rfl rfl rfl (by decide) (Nat.le_of_ble_eq_true rfl) rfl H (fun u4 H => ?_)
    refine ev_iload dX7_isGreater_36 rfl ?_
    refine ev_aload_n dX7_isGreater_38 rfl ?_
    refine ev_getI dX7_isGreater_39 (fo_RX7_144 _ rfl) (by decide) rfl rfl ?_
    refine ev_icmp_eq 62 dX7_isGreater_42 (by decide) (fun h => ?_) (fun h => ?_)
    · have H := H.1 h
      refine ev_iload dX7_isGreater_62 rfl ?_
      refine ev_aload_n dX7_isGreater_64 rfl ?_
      refine ev_getI dX7_isGreater_65 (fo_RX7_147 _ rfl) (by decide) rfl rfl ?_
      refine ev_icmp_le 75 dX7_isGreater_68 (by decide) (fun h => ?_) (fun h => ?_)
      · have H := H.1 h
        refine ev_iconst 0 dX7_isGreater_75 (by decide) ?_
        exact ev_zret dX7_isGreater_76 rfl (by decide) H
      · have H := H.2 h
        refine ev_iconst 1 dX7_isGreater_71 (by decide) ?_
        refine ev_goto 76 dX7_isGreater_72 (by decide) ?_
        exact ev_zret dX7_isGreater_76 rfl (by decide) H
    · have H := H.2 h
      refine ev_iload dX7_isGreater_45 rfl ?_
      refine ev_aload_n dX7_isGreater_47 rfl ?_
      refine ev_getI dX7_isGreater_48 (fo_RX7_144 _ rfl) (by decide) rfl rfl ?_
      refine ev_icmp_le 58 dX7_isGreater_51 (by decide) (fun h => ?_) (fun h => ?_)
      · have H := H.1 h
        refine ev_iconst 0 dX7_isGreater_58 (by decide) ?_
        refine ev_goto 76 dX7_isGreater_59 (by decide) ?_
        exact ev_zret dX7_isGreater_76 rfl (by decide) H
      · have H := H.2 h
        refine ev_iconst 1 dX7_isGreater_54 (by decide) ?_
        refine ev_goto 76 dX7_isGreater_55 (by decide) ?_
        exact ev_zret dX7_isGreater_76 rfl (by decide) H
  · have H := H.2 h
    refine ev_iconst 1 dX7_isGreater_28 (by decide) ?_
    refine ev_goto 33 dX7_isGreater_29 (by decide) ?_
    refine ev_callVv 23 [.inl p0, .inl (1 - p1), .inl 1] dX7_isGreater_33 co_X7_reckon ml_RX7_150 cv_X7_reckon (by decide) rfl rfl rfl rfl (by decide) (Nat.le_of_ble_eq_true rfl) rfl H (fun u6 H => ?_)
    refine ev_iload dX7_isGreater_36 rfl ?_
    refine ev_aload_n dX7_isGreater_38 rfl ?_
    refine ev_getI dX7_isGreater_39 (fo_RX7_144 _ rfl) (by decide) rfl rfl ?_
    refine ev_icmp_eq 62 dX7_isGreater_42 (by decide) (fun h => ?_) (fun h => ?_)
    · have H := H.1 h
      refine ev_iload dX7_isGreater_62 rfl ?_
      refine ev_aload_n dX7_isGreater_64 rfl ?_
      refine ev_getI dX7_isGreater_65 (fo_RX7_147 _ rfl) (by decide) rfl rfl ?_
      refine ev_icmp_le 75 dX7_isGreater_68 (by decide) (fun h => ?_) (fun h => ?_)
      · have H := H.1 h
        refine ev_iconst 0 dX7_isGreater_75 (by decide) ?_
        exact ev_zret dX7_isGreater_76 rfl (by decide) H
      · have H := H.2 h
        refine ev_iconst 1 dX7_isGreater_71 (by decide) ?_
        refine ev_goto 76 dX7_isGreater_72 (by decide) ?_
        exact ev_zret dX7_isGreater_76 rfl (by decide) H
    · have H := H.2 h
      refine ev_iload dX7_isGreater_45 rfl ?_
      refine ev_aload_n dX7_isGreater_47 rfl ?_
      refine ev_getI dX7_isGreater_48 (fo_RX7_144 _ rfl) (by decide) rfl rfl ?_
      refine ev_icmp_le 58 dX7_isGreater_51 (by decide) (fun h => ?_) (fun h => ?_)
      · have H := H.1 h
        refine ev_iconst 0 dX7_isGreater_58 (by decide) ?_
        refine ev_goto 76 dX7_isGreater_59 (by decide) ?_
        exact ev_zret dX7_isGreater_76 rfl (by decide) H
      · have H := H.2 h
        refine ev_iconst 1 dX7_isGreater_54 (by decide) ?_
        refine ev_goto 76 dX7_isGreater_55 (by decide) ?_
        exact ev_zret dX7_isGreater_76 rfl (by decide) H

set_option maxHeartbeats 4000000 in
set_option maxRecDepth 100000 in
theorem sg_X7_wins_0 {d : Nat} {w : ex_WW} {P : Int32 → ex_WW → Prop} {p0 : Int32} {p1 : Int32} (H : ex_Ev d mX7_isJoust 0 (ex_in [.inr 23, .inl p0] 2) [] w (fun r1 u2 => ((r1 = 0 → P (-1) u2) ∧ (¬ r1 = 0 → ex_Ev d mX7_isSide 0 (ex_in [.inl p1] 1) [] u2 (fun r3 u4 => ((¬ r3 = 0 → ex_Ev d mX7_isGreater 0 (ex_in [.inr 23, .inl p0, .inl p1, .inl 0] 6) [] u4 (fun r5 u6 => ((r5 = 0 → ex_Ev d mX7_isGreater 0 (ex_in [.inr 23, .inl p0, .inl p1, .inl 1] 6) [] u6 (fun r7 u8 => ((r7 = 0 → P 0 u8) ∧ (¬ r7 = 0 → P 1 u8)))) ∧ (¬ r5 = 0 → P 2 u6)))) ∧ (r3 = 0 → P (-1) u4))))))) : ex_Ev (d + 1) mX7_wins 0 [some (.inr 23), some (.inl p0), some (.inl p1)] [] w P := by
  refine ev_aload_n dX7_wins_0 rfl ?_
  refine ev_iload_n dX7_wins_1 rfl ?_
  refine ev_callV 23 [.inl p0] dX7_wins_2 co_X7_isJoust ml_RX7_134 cv_X7_isJoust (by decide) rfl rfl rfl rfl (by decide) (Nat.le_of_ble_eq_true rfl) rfl H (fun r1 u2 H => ?_)
  refine ev_if_eq 15 dX7_wins_5 (by decide) (fun h => ?_) (fun h => ?_)
  · have H := H.1 h
    refine ev_iconst (-1) dX7_wins_15 (by decide) ?_
    exact ev_iret dX7_wins_16 rfl H
  · have H := H.2 h
    refine ev_iload_n dX7_wins_8 rfl ?_
    refine ev_callS [.inl p1] dX7_wins_9 co_X7_isSide ml_RX7_137 cs_X7_isSide rfl rfl (by decide) (Nat.le_of_ble_eq_true rfl) rfl H (fun r3 u4 H => ?_)
    refine ev_if_ne 17 dX7_wins_12 (by decide) (fun h => ?_) (fun h => ?_)
    · have H := H.1 h
      refine ev_aload_n dX7_wins_17 rfl ?_
      refine ev_iload_n dX7_wins_18 rfl ?_
      refine ev_iload_n dX7_wins_19 rfl ?_
      refine ev_iconst 0 dX7_wins_20 (by decide) ?_
      refine ev_callV 23 [.inl p0, .inl p1, .inl 0] dX7_wins_21 co_X7_isGreater ml_RX7_158 cv_X7_isGreater (by decide) rfl rfl rfl rfl (by decide) (Nat.le_of_ble_eq_true rfl) rfl H (fun r5 u6 H => ?_)
      refine ev_if_eq 31 dX7_wins_24 (by decide) (fun h => ?_) (fun h => ?_)
      · have H := H.1 h
        refine ev_aload_n dX7_wins_31 rfl ?_
        refine ev_iload_n dX7_wins_32 rfl ?_
        refine ev_iload_n dX7_wins_33 rfl ?_
        refine ev_iconst 1 dX7_wins_34 (by decide) ?_
        refine ev_callV 23 [.inl p0, .inl p1, .inl 1] dX7_wins_35 co_X7_isGreater ml_RX7_158 cv_X7_isGreater (by decide) rfl rfl rfl rfl (by decide) (Nat.le_of_ble_eq_true rfl) rfl H (fun r7 u8 H => ?_)
        refine ev_if_eq 45 dX7_wins_38 (by decide) (fun h => ?_) (fun h => ?_)
        · have H := H.1 h
          refine ev_iconst 0 dX7_wins_45 (by decide) ?_
          exact ev_iret dX7_wins_46 rfl H
        · have H := H.2 h
          refine ev_iconst 1 dX7_wins_41 (by decide) ?_
          refine ev_goto 46 dX7_wins_42 (by decide) ?_
          exact ev_iret dX7_wins_46 rfl H
      · have H := H.2 h
        refine ev_iconst 2 dX7_wins_27 (by decide) ?_
        refine ev_goto 46 dX7_wins_28 (by decide) ?_
        exact ev_iret dX7_wins_46 rfl H
    · have H := H.2 h
      refine ev_iconst (-1) dX7_wins_15 (by decide) ?_
      exact ev_iret dX7_wins_16 rfl H

set_option maxHeartbeats 4000000 in
set_option maxRecDepth 100000 in
theorem sg_X7_wonBy_0 {d : Nat} {w : ex_WW} {P : Int32 → ex_WW → Prop} {p0 : Int32} (H : ex_Ev (d + 1) mX7_wonBy 4 [some (.inr 23), some (.inl p0), some (.inl 0), some (.inl 0)] [] w P) : ex_Ev (d + 1) mX7_wonBy 0 [some (.inr 23), some (.inl p0), none, none] [] w P := by
  refine ev_iconst 0 dX7_wonBy_0 (by decide) ?_
  refine ev_istore_n dX7_wonBy_1 (by decide) ?_
  refine ev_iconst 0 dX7_wonBy_2 (by decide) ?_
  refine ev_istore_n dX7_wonBy_3 (by decide) ?_
  exact H

set_option maxHeartbeats 4000000 in
set_option maxRecDepth 100000 in
theorem sg_X7_wonBy_4 {d : Nat} {w : ex_WW} {P : Int32 → ex_WW → Prop} {x1 : Int32} {x2 : Int32} {x3 : Int32} (H : (((2 * (w 23 10)) ≤ x3 → P x2 w) ∧ (¬ (2 * (w 23 10)) ≤ x3 → (vp_in x3 60 ∧ ((¬ (w 30 x3.toNatClampNeg) = x1 → ex_Ev (d + 1) mX7_wonBy 4 [some (.inr 23), some (.inl x1), some (.inl (x2 + 0)), some (.inl (x3 + 1))] [] w P) ∧ ((w 30 x3.toNatClampNeg) = x1 → ex_Ev d mX7_isGreater 0 (ex_in [.inr 23, .inl (x3 / 2), .inl (x3 - x3 / 2 * 2), .inl 0] 6) [] w (fun r1 u2 => ((r1 = 0 → ex_Ev (d + 1) mX7_wonBy 4 [some (.inr 23), some (.inl x1), some (.inl (x2 + 0)), some (.inl (x3 + 1))] [] u2 P) ∧ (¬ r1 = 0 → ex_Ev (d + 1) mX7_wonBy 4 [some (.inr 23), some (.inl x1), some (.inl (x2 + 1)), some (.inl (x3 + 1))] [] u2 P))))))))) : ex_Ev (d + 1) mX7_wonBy 4 [some (.inr 23), some (.inl x1), some (.inl x2), some (.inl x3)] [] w P := by
  refine ev_iload_n dX7_wonBy_4 rfl ?_
  refine ev_iconst 2 dX7_wonBy_5 (by decide) ?_
  refine ev_aload_n dX7_wonBy_6 rfl ?_
  refine ev_getI dX7_wonBy_7 (fo_RX7_80 _ rfl) (by decide) rfl rfl ?_
  refine ev_imul dX7_wonBy_10 ?_
  refine ev_icmp_ge 52 dX7_wonBy_11 (by decide) (fun h => ?_) (fun h => ?_)
  · have H := H.1 h
    refine ev_iload_n dX7_wonBy_52 rfl ?_
    exact ev_iret dX7_wonBy_53 rfl H
  · have H := H.2 h
    refine ev_iload_n dX7_wonBy_14 rfl ?_
    refine ev_aload_n dX7_wonBy_15 rfl ?_
    refine ev_getR dX7_wonBy_16 (fo_RX7_32 _ rfl) (by decide) rfl rfl ?_
    refine ev_iload_n dX7_wonBy_19 rfl ?_
    refine ev_iald dX7_wonBy_20 (by decide) rfl H.1 ?_
    have H := H.2
    refine ev_iload_n dX7_wonBy_21 rfl ?_
    refine ev_icmp_ne 43 dX7_wonBy_22 (by decide) (fun h => ?_) (fun h => ?_)
    · have H := H.1 h
      refine ev_iconst 0 dX7_wonBy_43 (by decide) ?_
      refine ev_iadd dX7_wonBy_44 ?_
      refine ev_istore_n dX7_wonBy_45 (by decide) ?_
      refine ev_iinc (x3 + 1) dX7_wonBy_46 rfl rfl (by decide) ?_
      refine ev_goto 4 dX7_wonBy_49 (by decide) ?_
      exact H
    · have H := H.2 h
      refine ev_aload_n dX7_wonBy_25 rfl ?_
      refine ev_iload_n dX7_wonBy_26 rfl ?_
      refine ev_iconst 2 dX7_wonBy_27 (by decide) ?_
      refine ev_idiv dX7_wonBy_28 (by decide) ?_
      refine ev_iload_n dX7_wonBy_29 rfl ?_
      refine ev_iconst 2 dX7_wonBy_30 (by decide) ?_
      refine ev_irem dX7_wonBy_31 (by decide) ?_
      refine ev_iconst 0 dX7_wonBy_32 (by decide) ?_
      refine ev_callV 23 [.inl (x3 / 2), .inl (x3 - x3 / 2 * 2), .inl 0] dX7_wonBy_33 co_X7_isGreater ml_RX7_158 cv_X7_isGreater (by decide) rfl rfl rfl rfl (by decide) (Nat.le_of_ble_eq_true rfl) rfl H (fun r1 u2 H => ?_)
      refine ev_if_eq 43 dX7_wonBy_36 (by decide) (fun h => ?_) (fun h => ?_)
      · have H := H.1 h
        refine ev_iconst 0 dX7_wonBy_43 (by decide) ?_
        refine ev_iadd dX7_wonBy_44 ?_
        refine ev_istore_n dX7_wonBy_45 (by decide) ?_
        refine ev_iinc (x3 + 1) dX7_wonBy_46 rfl rfl (by decide) ?_
        refine ev_goto 4 dX7_wonBy_49 (by decide) ?_
        exact H
      · have H := H.2 h
        refine ev_iconst 1 dX7_wonBy_39 (by decide) ?_
        refine ev_goto 44 dX7_wonBy_40 (by decide) ?_
        refine ev_iadd dX7_wonBy_44 ?_
        refine ev_istore_n dX7_wonBy_45 (by decide) ?_
        refine ev_iinc (x3 + 1) dX7_wonBy_46 rfl rfl (by decide) ?_
        refine ev_goto 4 dX7_wonBy_49 (by decide) ?_
        exact H

set_option maxHeartbeats 4000000 in
set_option maxRecDepth 100000 in
theorem sg_X7_joustsOf_0 {d : Nat} {w : ex_WW} {P : Int32 → ex_WW → Prop} {p0 : Int32} (H : ex_Ev d mX7_joustsOf 4 [some (.inr 23), some (.inl p0), some (.inl 0), some (.inl 0)] [] w P) : ex_Ev d mX7_joustsOf 0 [some (.inr 23), some (.inl p0), none, none] [] w P := by
  refine ev_iconst 0 dX7_joustsOf_0 (by decide) ?_
  refine ev_istore_n dX7_joustsOf_1 (by decide) ?_
  refine ev_iconst 0 dX7_joustsOf_2 (by decide) ?_
  refine ev_istore_n dX7_joustsOf_3 (by decide) ?_
  exact H

set_option maxHeartbeats 4000000 in
set_option maxRecDepth 100000 in
theorem sg_X7_joustsOf_4 {d : Nat} {w : ex_WW} {P : Int32 → ex_WW → Prop} {x1 : Int32} {x2 : Int32} {x3 : Int32} (H : (((2 * (w 23 10)) ≤ x3 → P x2 w) ∧ (¬ (2 * (w 23 10)) ≤ x3 → (vp_in x3 60 ∧ ((¬ (w 30 x3.toNatClampNeg) = x1 → ex_Ev d mX7_joustsOf 4 [some (.inr 23), some (.inl x1), some (.inl (x2 + 0)), some (.inl (x3 + 1))] [] w P) ∧ ((w 30 x3.toNatClampNeg) = x1 → ex_Ev d mX7_joustsOf 4 [some (.inr 23), some (.inl x1), some (.inl (x2 + 1)), some (.inl (x3 + 1))] [] w P)))))) : ex_Ev d mX7_joustsOf 4 [some (.inr 23), some (.inl x1), some (.inl x2), some (.inl x3)] [] w P := by
  refine ev_iload_n dX7_joustsOf_4 rfl ?_
  refine ev_iconst 2 dX7_joustsOf_5 (by decide) ?_
  refine ev_aload_n dX7_joustsOf_6 rfl ?_
  refine ev_getI dX7_joustsOf_7 (fo_RX7_80 _ rfl) (by decide) rfl rfl ?_
  refine ev_imul dX7_joustsOf_10 ?_
  refine ev_icmp_ge 38 dX7_joustsOf_11 (by decide) (fun h => ?_) (fun h => ?_)
  · have H := H.1 h
    refine ev_iload_n dX7_joustsOf_38 rfl ?_
    exact ev_iret dX7_joustsOf_39 rfl H
  · have H := H.2 h
    refine ev_iload_n dX7_joustsOf_14 rfl ?_
    refine ev_aload_n dX7_joustsOf_15 rfl ?_
    refine ev_getR dX7_joustsOf_16 (fo_RX7_32 _ rfl) (by decide) rfl rfl ?_
    refine ev_iload_n dX7_joustsOf_19 rfl ?_
    refine ev_iald dX7_joustsOf_20 (by decide) rfl H.1 ?_
    have H := H.2
    refine ev_iload_n dX7_joustsOf_21 rfl ?_
    refine ev_icmp_ne 29 dX7_joustsOf_22 (by decide) (fun h => ?_) (fun h => ?_)
    · have H := H.1 h
      refine ev_iconst 0 dX7_joustsOf_29 (by decide) ?_
      refine ev_iadd dX7_joustsOf_30 ?_
      refine ev_istore_n dX7_joustsOf_31 (by decide) ?_
      refine ev_iinc (x3 + 1) dX7_joustsOf_32 rfl rfl (by decide) ?_
      refine ev_goto 4 dX7_joustsOf_35 (by decide) ?_
      exact H
    · have H := H.2 h
      refine ev_iconst 1 dX7_joustsOf_25 (by decide) ?_
      refine ev_goto 30 dX7_joustsOf_26 (by decide) ?_
      refine ev_iadd dX7_joustsOf_30 ?_
      refine ev_istore_n dX7_joustsOf_31 (by decide) ?_
      refine ev_iinc (x3 + 1) dX7_joustsOf_32 rfl rfl (by decide) ?_
      refine ev_goto 4 dX7_joustsOf_35 (by decide) ?_
      exact H

set_option maxHeartbeats 4000000 in
set_option maxRecDepth 100000 in
theorem sg_X7_won_0 {d : Nat} {w : ex_WW} {P : Int32 → ex_WW → Prop} {p0 : Int32} (H : ex_Ev d mX7_isKnight 0 (ex_in [.inr 23, .inl p0] 2) [] w (fun r1 u2 => ((r1 = 0 → P (-1) u2) ∧ (¬ r1 = 0 → ex_Ev d mX7_wonBy 0 (ex_in [.inr 23, .inl p0] 4) [] u2 (fun r3 u4 => P r3 u4))))) : ex_Ev (d + 1) mX7_won 0 [some (.inr 23), some (.inl p0)] [] w P := by
  refine ev_aload_n dX7_won_0 rfl ?_
  refine ev_iload_n dX7_won_1 rfl ?_
  refine ev_callV 23 [.inl p0] dX7_won_2 co_X7_isKnight ml_RX7_76 cv_X7_isKnight (by decide) rfl rfl rfl rfl (by decide) (Nat.le_of_ble_eq_true rfl) rfl H (fun r1 u2 H => ?_)
  refine ev_if_eq 16 dX7_won_5 (by decide) (fun h => ?_) (fun h => ?_)
  · have H := H.1 h
    refine ev_iconst (-1) dX7_won_16 (by decide) ?_
    exact ev_iret dX7_won_17 rfl H
  · have H := H.2 h
    refine ev_aload_n dX7_won_8 rfl ?_
    refine ev_iload_n dX7_won_9 rfl ?_
    refine ev_callV 23 [.inl p0] dX7_won_10 co_X7_wonBy ml_RX7_162 cv_X7_wonBy (by decide) rfl rfl rfl rfl (by decide) (Nat.le_of_ble_eq_true rfl) rfl H (fun r3 u4 H => ?_)
    refine ev_goto 17 dX7_won_13 (by decide) ?_
    exact ev_iret dX7_won_17 rfl H

set_option maxHeartbeats 4000000 in
set_option maxRecDepth 100000 in
theorem sg_X7_best_0 {d : Nat} {w : ex_WW} {P : Int32 → ex_WW → Prop} (H : ex_Ev (d + 1) mX7_best 5 [some (.inr 23), some (.inl (-4)), some (.inl 0), none] [] w P) : ex_Ev (d + 1) mX7_best 0 [some (.inr 23), none, none, none] [] w P := by
  refine ev_bipush (-4) dX7_best_0 (by decide) ?_
  refine ev_istore_n dX7_best_2 (by decide) ?_
  refine ev_iconst 0 dX7_best_3 (by decide) ?_
  refine ev_istore_n dX7_best_4 (by decide) ?_
  exact H

set_option maxHeartbeats 4000000 in
set_option maxRecDepth 100000 in
theorem sg_X7_best_5 {d : Nat} {w : ex_WW} {P : Int32 → ex_WW → Prop} {x1 : Int32} {x2 : Int32} (H : (((w 23 0) ≤ x2 → P x1 w) ∧ (¬ (w 23 0) ≤ x2 → ((x1 < 0 → ex_Ev (d + 1) mX7_best 62 [some (.inr 23), some (.inl x1), some (.inl x2), some (.inl 1)] [] w P) ∧ (¬ x1 < 0 → ex_Ev d mX7_wonBy 0 (ex_in [.inr 23, .inl x2] 4) [] w (fun r1 u2 => ex_Ev d mX7_wonBy 0 (ex_in [.inr 23, .inl x1] 4) [] u2 (fun r3 u4 => ((r3 < r1 → ex_Ev (d + 1) mX7_best 62 [some (.inr 23), some (.inl x1), some (.inl x2), some (.inl 1)] [] u4 P) ∧ (¬ r3 < r1 → ex_Ev d mX7_wonBy 0 (ex_in [.inr 23, .inl x2] 4) [] u4 (fun r5 u6 => ex_Ev d mX7_wonBy 0 (ex_in [.inr 23, .inl x1] 4) [] u6 (fun r7 u8 => ((¬ r5 = r7 → ex_Ev (d + 1) mX7_best 62 [some (.inr 23), some (.inl x1), some (.inl x2), some (.inl 0)] [] u8 P) ∧ (r5 = r7 → ex_Ev d mX7_joustsOf 0 (ex_in [.inr 23, .inl x2] 4) [] u8 (fun r9 u10 => ex_Ev d mX7_joustsOf 0 (ex_in [.inr 23, .inl x1] 4) [] u10 (fun r11 u12 => ((r11 ≤ r9 → ex_Ev (d + 1) mX7_best 62 [some (.inr 23), some (.inl x1), some (.inl x2), some (.inl 0)] [] u12 P) ∧ (¬ r11 ≤ r9 → ex_Ev (d + 1) mX7_best 62 [some (.inr 23), some (.inl x1), some (.inl x2), some (.inl 1)] [] u12 P))))))))))))))))) : ex_Ev (d + 1) mX7_best 5 [some (.inr 23), some (.inl x1), some (.inl x2), none] [] w P := by
  refine ev_iload_n dX7_best_5 rfl ?_
  refine ev_aload_n dX7_best_6 rfl ?_
  refine ev_getI dX7_best_7 (fo_RX7_69 _ rfl) (by decide) rfl rfl ?_
  refine ev_icmp_ge 78 dX7_best_10 (by decide) (fun h => ?_) (fun h => ?_)
  · have H := H.1 h
    refine ev_iload_n dX7_best_78 rfl ?_
    exact ev_iret dX7_best_79 rfl H
  · have H := H.2 h
    refine ev_iload_n dX7_best_13 rfl ?_
    refine ev_if_lt 56 dX7_best_14 (by decide) (fun h => ?_) (fun h => ?_)
    · have H := H.1 h
      refine ev_iconst 1 dX7_best_56 (by decide) ?_
      refine ev_goto 61 dX7_best_57 (by decide) ?_
      refine ev_istore_n dX7_best_61 (by decide) ?_
      exact H
    · have H := H.2 h
      refine ev_aload_n dX7_best_17 rfl ?_
      refine ev_iload_n dX7_best_18 rfl ?_
      refine ev_callV 23 [.inl x2] dX7_best_19 co_X7_wonBy ml_RX7_162 cv_X7_wonBy (by decide) rfl rfl rfl rfl (by decide) (Nat.le_of_ble_eq_true rfl) rfl H (fun r1 u2 H => ?_)
      refine ev_aload_n dX7_best_22 rfl ?_
      refine ev_iload_n dX7_best_23 rfl ?_
      refine ev_callV 23 [.inl x1] dX7_best_24 co_X7_wonBy ml_RX7_162 cv_X7_wonBy (by decide) rfl rfl rfl rfl (by decide) (Nat.le_of_ble_eq_true rfl) rfl H (fun r3 u4 H => ?_)
      refine ev_icmp_gt 56 dX7_best_27 (by decide) (fun h => ?_) (fun h => ?_)
      · have H := H.1 h
        refine ev_iconst 1 dX7_best_56 (by decide) ?_
        refine ev_goto 61 dX7_best_57 (by decide) ?_
        refine ev_istore_n dX7_best_61 (by decide) ?_
        exact H
      · have H := H.2 h
        refine ev_aload_n dX7_best_30 rfl ?_
        refine ev_iload_n dX7_best_31 rfl ?_
        refine ev_callV 23 [.inl x2] dX7_best_32 co_X7_wonBy ml_RX7_162 cv_X7_wonBy (by decide) rfl rfl rfl rfl (by decide) (Nat.le_of_ble_eq_true rfl) rfl H (fun r5 u6 H => ?_)
        refine ev_aload_n dX7_best_35 rfl ?_
        refine ev_iload_n dX7_best_36 rfl ?_
        refine ev_callV 23 [.inl x1] dX7_best_37 co_X7_wonBy ml_RX7_162 cv_X7_wonBy (by decide) rfl rfl rfl rfl (by decide) (Nat.le_of_ble_eq_true rfl) rfl H (fun r7 u8 H => ?_)
        refine ev_icmp_ne 60 dX7_best_40 (by decide) (fun h => ?_) (fun h => ?_)
        · have H := H.1 h
          refine ev_iconst 0 dX7_best_60 (by decide) ?_
          refine ev_istore_n dX7_best_61 (by decide) ?_
          exact H
        · have H := H.2 h
          refine ev_aload_n dX7_best_43 rfl ?_
          refine ev_iload_n dX7_best_44 rfl ?_
          refine ev_callV 23 [.inl x2] dX7_best_45 co_X7_joustsOf ml_RX7_165 cv_X7_joustsOf (by decide) rfl rfl rfl rfl (by decide) (Nat.le_of_ble_eq_true rfl) rfl H (fun r9 u10 H => ?_)
          refine ev_aload_n dX7_best_48 rfl ?_
          refine ev_iload_n dX7_best_49 rfl ?_
          refine ev_callV 23 [.inl x1] dX7_best_50 co_X7_joustsOf ml_RX7_165 cv_X7_joustsOf (by decide) rfl rfl rfl rfl (by decide) (Nat.le_of_ble_eq_true rfl) rfl H (fun r11 u12 H => ?_)
          refine ev_icmp_ge 60 dX7_best_53 (by decide) (fun h => ?_) (fun h => ?_)
          · have H := H.1 h
            refine ev_iconst 0 dX7_best_60 (by decide) ?_
            refine ev_istore_n dX7_best_61 (by decide) ?_
            exact H
          · have H := H.2 h
            refine ev_iconst 1 dX7_best_56 (by decide) ?_
            refine ev_goto 61 dX7_best_57 (by decide) ?_
            refine ev_istore_n dX7_best_61 (by decide) ?_
            exact H

set_option maxHeartbeats 4000000 in
set_option maxRecDepth 100000 in
theorem sg_X7_best_62 {d : Nat} {w : ex_WW} {P : Int32 → ex_WW → Prop} {x1 : Int32} {x2 : Int32} {x3 : Int32} (H : ((x3 = 0 → ex_Ev (d + 1) mX7_best 5 [some (.inr 23), some (.inl x1), some (.inl (x2 + 1)), none] [] w P) ∧ (¬ x3 = 0 → ex_Ev (d + 1) mX7_best 5 [some (.inr 23), some (.inl x2), some (.inl (x2 + 1)), none] [] w P))) : ex_Ev (d + 1) mX7_best 62 [some (.inr 23), some (.inl x1), some (.inl x2), some (.inl x3)] [] w P := by
  refine ev_iload_n dX7_best_62 rfl ?_
  refine ev_if_eq 70 dX7_best_63 (by decide) (fun h => ?_) (fun h => ?_)
  · have H := H.1 h
    refine ev_iload_n dX7_best_70 rfl ?_
    refine ev_istore_n dX7_best_71 (by decide) ?_
    refine ev_iinc (x2 + 1) dX7_best_72 rfl rfl (by decide) ?_
    refine ev_goto 5 dX7_best_75 (by decide) ?_
    refine ev_drop 3 ?_
    exact H
  · have H := H.2 h
    refine ev_iload_n dX7_best_66 rfl ?_
    refine ev_goto 71 dX7_best_67 (by decide) ?_
    refine ev_istore_n dX7_best_71 (by decide) ?_
    refine ev_iinc (x2 + 1) dX7_best_72 rfl rfl (by decide) ?_
    refine ev_goto 5 dX7_best_75 (by decide) ?_
    refine ev_drop 3 ?_
    exact H

set_option maxHeartbeats 4000000 in
set_option maxRecDepth 100000 in
theorem sg_X7_owedOf_0 {d : Nat} {w : ex_WW} {P : Int32 → ex_WW → Prop} {p0 : Int32} {p1 : Int32} (H : ex_Ev d mX7_strokeMany 0 (ex_in [.inr 23, .inl p0, .inl (1 - p1), .inl 4] 6) [] w (fun r1 u2 => ((r1 ≤ 0 → (vp_in ((2 * p0) + p1) 60 ∧ ((0 ≤ (0 - (u2 33 ((2 * p0) + p1).toNatClampNeg)) → P (0 - (u2 33 ((2 * p0) + p1).toNatClampNeg)) u2) ∧ (¬ 0 ≤ (0 - (u2 33 ((2 * p0) + p1).toNatClampNeg)) → P 0 u2)))) ∧ (¬ r1 ≤ 0 → (vp_in ((2 * p0) + p1) 60 ∧ (vp_in (u2 30 ((2 * p0) + p1).toNatClampNeg) 14 ∧ (vp_in ((2 * p0) + p1) 60 ∧ ((0 ≤ ((10 + (10 * (u2 24 (u2 30 ((2 * p0) + p1).toNatClampNeg).toNatClampNeg))) - (u2 33 ((2 * p0) + p1).toNatClampNeg)) → P ((10 + (10 * (u2 24 (u2 30 ((2 * p0) + p1).toNatClampNeg).toNatClampNeg))) - (u2 33 ((2 * p0) + p1).toNatClampNeg)) u2) ∧ (¬ 0 ≤ ((10 + (10 * (u2 24 (u2 30 ((2 * p0) + p1).toNatClampNeg).toNatClampNeg))) - (u2 33 ((2 * p0) + p1).toNatClampNeg)) → P 0 u2))))))))) : ex_Ev (d + 1) mX7_owedOf 0 [some (.inr 23), some (.inl p0), some (.inl p1), none, none, none] [] w P := by
  refine ev_aload_n dX7_owedOf_0 rfl ?_
  refine ev_iload_n dX7_owedOf_1 rfl ?_
  refine ev_iconst 1 dX7_owedOf_2 (by decide) ?_
  refine ev_iload_n dX7_owedOf_3 rfl ?_
  refine ev_isub dX7_owedOf_4 ?_
  refine ev_iconst 4 dX7_owedOf_5 (by decide) ?_
  refine ev_callV 23 [.inl p0, .inl (1 - p1), .inl 4] dX7_owedOf_6 co_X7_strokeMany ml_RX7_154 cv_X7_strokeMany (by decide) rfl rfl rfl rfl (by decide) (Nat.le_of_ble_eq_true rfl) rfl H (fun r1 u2 H => ?_)
  refine ev_if_le 16 dX7_owedOf_9 (by decide) (fun h => ?_) (fun h => ?_)
  · have H := H.1 h
    refine ev_iconst 0 dX7_owedOf_16 (by decide) ?_
    refine ev_istore_n dX7_owedOf_17 (by decide) ?_
    refine ev_iload_n dX7_owedOf_18 rfl ?_
    refine ev_if_eq 46 dX7_owedOf_19 (by decide) (fun _ => ?_) (fun h => absurd (by decide) h)
    refine ev_iconst 0 dX7_owedOf_46 (by decide) ?_
    refine ev_istore dX7_owedOf_47 (by decide) ?_
    refine ev_iload dX7_owedOf_49 rfl ?_
    refine ev_aload_n dX7_owedOf_51 rfl ?_
    refine ev_getR dX7_owedOf_52 (fo_RX7_41 _ rfl) (by decide) rfl rfl ?_
    refine ev_iconst 2 dX7_owedOf_55 (by decide) ?_
    refine ev_iload_n dX7_owedOf_56 rfl ?_
    refine ev_imul dX7_owedOf_57 ?_
    refine ev_iload_n dX7_owedOf_58 rfl ?_
    refine ev_iadd dX7_owedOf_59 ?_
    refine ev_iald dX7_owedOf_60 (by decide) rfl H.1 ?_
    have H := H.2
    refine ev_isub dX7_owedOf_61 ?_
    refine ev_istore dX7_owedOf_62 (by decide) ?_
    refine ev_iload dX7_owedOf_64 rfl ?_
    refine ev_if_ge 73 dX7_owedOf_66 (by decide) (fun h => ?_) (fun h => ?_)
    · have H := H.1 h
      refine ev_iload dX7_owedOf_73 rfl ?_
      exact ev_iret dX7_owedOf_75 rfl H
    · have H := H.2 h
      refine ev_iconst 0 dX7_owedOf_69 (by decide) ?_
      refine ev_goto 75 dX7_owedOf_70 (by decide) ?_
      exact ev_iret dX7_owedOf_75 rfl H
  · have H := H.2 h
    refine ev_iconst 1 dX7_owedOf_12 (by decide) ?_
    refine ev_goto 17 dX7_owedOf_13 (by decide) ?_
    refine ev_istore_n dX7_owedOf_17 (by decide) ?_
    refine ev_iload_n dX7_owedOf_18 rfl ?_
    refine ev_if_eq 46 dX7_owedOf_19 (by decide) (fun h => absurd h (by decide)) (fun _ => ?_)
    refine ev_bipush 10 dX7_owedOf_22 (by decide) ?_
    refine ev_bipush 10 dX7_owedOf_24 (by decide) ?_
    refine ev_aload_n dX7_owedOf_26 rfl ?_
    refine ev_getR dX7_owedOf_27 (fo_RX7_7 _ rfl) (by decide) rfl rfl ?_
    refine ev_aload_n dX7_owedOf_30 rfl ?_
    refine ev_getR dX7_owedOf_31 (fo_RX7_32 _ rfl) (by decide) rfl rfl ?_
    refine ev_iconst 2 dX7_owedOf_34 (by decide) ?_
    refine ev_iload_n dX7_owedOf_35 rfl ?_
    refine ev_imul dX7_owedOf_36 ?_
    refine ev_iload_n dX7_owedOf_37 rfl ?_
    refine ev_iadd dX7_owedOf_38 ?_
    refine ev_iald dX7_owedOf_39 (by decide) rfl H.1 ?_
    have H := H.2
    refine ev_iald dX7_owedOf_40 (by decide) rfl H.1 ?_
    have H := H.2
    refine ev_imul dX7_owedOf_41 ?_
    refine ev_iadd dX7_owedOf_42 ?_
    refine ev_goto 47 dX7_owedOf_43 (by decide) ?_
    refine ev_istore dX7_owedOf_47 (by decide) ?_
    refine ev_iload dX7_owedOf_49 rfl ?_
    refine ev_aload_n dX7_owedOf_51 rfl ?_
    refine ev_getR dX7_owedOf_52 (fo_RX7_41 _ rfl) (by decide) rfl rfl ?_
    refine ev_iconst 2 dX7_owedOf_55 (by decide) ?_
    refine ev_iload_n dX7_owedOf_56 rfl ?_
    refine ev_imul dX7_owedOf_57 ?_
    refine ev_iload_n dX7_owedOf_58 rfl ?_
    refine ev_iadd dX7_owedOf_59 ?_
    refine ev_iald dX7_owedOf_60 (by decide) rfl H.1 ?_
    have H := H.2
    refine ev_isub dX7_owedOf_61 ?_
    refine ev_istore dX7_owedOf_62 (by decide) ?_
    refine ev_iload dX7_owedOf_64 rfl ?_
    refine ev_if_ge 73 dX7_owedOf_66 (by decide) (fun h => ?_) (fun h => ?_)
    · have H := H.1 h
      refine ev_iload dX7_owedOf_73 rfl ?_
      exact ev_iret dX7_owedOf_75 rfl H
    · have H := H.2 h
      refine ev_iconst 0 dX7_owedOf_69 (by decide) ?_
      refine ev_goto 75 dX7_owedOf_70 (by decide) ?_
      exact ev_iret dX7_owedOf_75 rfl H

set_option maxHeartbeats 4000000 in
set_option maxRecDepth 100000 in
theorem sg_X7_owes_0 {d : Nat} {w : ex_WW} {P : Int32 → ex_WW → Prop} {p0 : Int32} (H : ex_Ev d mX7_isKnight 0 (ex_in [.inr 23, .inl p0] 2) [] w (fun r1 u2 => ((¬ r1 = 0 → ex_Ev (d + 1) mX7_owes 14 [some (.inr 23), some (.inl p0), some (.inl 0), some (.inl 0)] [] u2 P) ∧ (r1 = 0 → P (-1) u2)))) : ex_Ev (d + 1) mX7_owes 0 [some (.inr 23), some (.inl p0), none, none] [] w P := by
  refine ev_aload_n dX7_owes_0 rfl ?_
  refine ev_iload_n dX7_owes_1 rfl ?_
  refine ev_callV 23 [.inl p0] dX7_owes_2 co_X7_isKnight ml_RX7_76 cv_X7_isKnight (by decide) rfl rfl rfl rfl (by decide) (Nat.le_of_ble_eq_true rfl) rfl H (fun r1 u2 H => ?_)
  refine ev_if_ne 10 dX7_owes_5 (by decide) (fun h => ?_) (fun h => ?_)
  · have H := H.1 h
    refine ev_iconst 0 dX7_owes_10 (by decide) ?_
    refine ev_istore_n dX7_owes_11 (by decide) ?_
    refine ev_iconst 0 dX7_owes_12 (by decide) ?_
    refine ev_istore_n dX7_owes_13 (by decide) ?_
    exact H
  · have H := H.2 h
    refine ev_iconst (-1) dX7_owes_8 (by decide) ?_
    exact ev_iret dX7_owes_9 rfl H

set_option maxHeartbeats 4000000 in
set_option maxRecDepth 100000 in
theorem sg_X7_owes_14 {d : Nat} {w : ex_WW} {P : Int32 → ex_WW → Prop} {x1 : Int32} {x2 : Int32} {x3 : Int32} (H : (((2 * (w 23 10)) ≤ x3 → P x2 w) ∧ (¬ (2 * (w 23 10)) ≤ x3 → (vp_in x3 60 ∧ ((¬ (w 30 x3.toNatClampNeg) = x1 → ex_Ev (d + 1) mX7_owes 14 [some (.inr 23), some (.inl x1), some (.inl (x2 + 0)), some (.inl (x3 + 1))] [] w P) ∧ ((w 30 x3.toNatClampNeg) = x1 → ex_Ev d mX7_owedOf 0 (ex_in [.inr 23, .inl (x3 / 2), .inl (x3 - x3 / 2 * 2)] 6) [] w (fun r1 u2 => ex_Ev (d + 1) mX7_owes 14 [some (.inr 23), some (.inl x1), some (.inl (x2 + r1)), some (.inl (x3 + 1))] [] u2 P))))))) : ex_Ev (d + 1) mX7_owes 14 [some (.inr 23), some (.inl x1), some (.inl x2), some (.inl x3)] [] w P := by
  refine ev_iload_n dX7_owes_14 rfl ?_
  refine ev_iconst 2 dX7_owes_15 (by decide) ?_
  refine ev_aload_n dX7_owes_16 rfl ?_
  refine ev_getI dX7_owes_17 (fo_RX7_80 _ rfl) (by decide) rfl rfl ?_
  refine ev_imul dX7_owes_20 ?_
  refine ev_icmp_ge 57 dX7_owes_21 (by decide) (fun h => ?_) (fun h => ?_)
  · have H := H.1 h
    refine ev_iload_n dX7_owes_57 rfl ?_
    exact ev_iret dX7_owes_58 rfl H
  · have H := H.2 h
    refine ev_iload_n dX7_owes_24 rfl ?_
    refine ev_aload_n dX7_owes_25 rfl ?_
    refine ev_getR dX7_owes_26 (fo_RX7_32 _ rfl) (by decide) rfl rfl ?_
    refine ev_iload_n dX7_owes_29 rfl ?_
    refine ev_iald dX7_owes_30 (by decide) rfl H.1 ?_
    have H := H.2
    refine ev_iload_n dX7_owes_31 rfl ?_
    refine ev_icmp_ne 48 dX7_owes_32 (by decide) (fun h => ?_) (fun h => ?_)
    · have H := H.1 h
      refine ev_iconst 0 dX7_owes_48 (by decide) ?_
      refine ev_iadd dX7_owes_49 ?_
      refine ev_istore_n dX7_owes_50 (by decide) ?_
      refine ev_iinc (x3 + 1) dX7_owes_51 rfl rfl (by decide) ?_
      refine ev_goto 14 dX7_owes_54 (by decide) ?_
      exact H
    · have H := H.2 h
      refine ev_aload_n dX7_owes_35 rfl ?_
      refine ev_iload_n dX7_owes_36 rfl ?_
      refine ev_iconst 2 dX7_owes_37 (by decide) ?_
      refine ev_idiv dX7_owes_38 (by decide) ?_
      refine ev_iload_n dX7_owes_39 rfl ?_
      refine ev_iconst 2 dX7_owes_40 (by decide) ?_
      refine ev_irem dX7_owes_41 (by decide) ?_
      refine ev_callV 23 [.inl (x3 / 2), .inl (x3 - x3 / 2 * 2)] dX7_owes_42 co_X7_owedOf ml_RX7_168 cv_X7_owedOf (by decide) rfl rfl rfl rfl (by decide) (Nat.le_of_ble_eq_true rfl) rfl H (fun r1 u2 H => ?_)
      refine ev_goto 49 dX7_owes_45 (by decide) ?_
      refine ev_iadd dX7_owes_49 ?_
      refine ev_istore_n dX7_owes_50 (by decide) ?_
      refine ev_iinc (x3 + 1) dX7_owes_51 rfl rfl (by decide) ?_
      refine ev_goto 14 dX7_owes_54 (by decide) ?_
      exact H

set_option maxHeartbeats 4000000 in
set_option maxRecDepth 100000 in
theorem sg_X7_pay_0 {d : Nat} {w : ex_WW} {P : Int32 → ex_WW → Prop} {p0 : Int32} {p1 : Int32} {p2 : Int32} (H : ex_Ev d mX7_isJoust 0 (ex_in [.inr 23, .inl p0] 2) [] w (fun r1 u2 => ((r1 = 0 → P (-1) u2) ∧ (¬ r1 = 0 → ex_Ev d mX7_isSide 0 (ex_in [.inl p1] 1) [] u2 (fun r3 u4 => ((r3 = 0 → P (-1) u4) ∧ (¬ r3 = 0 → ex_Ev d mX7_in 0 (ex_in [.inl p2, .inl 1, .inl 100] 3) [] u4 (fun r5 u6 => ((¬ r5 = 0 → ex_Ev d mX7_owedOf 0 (ex_in [.inr 23, .inl p0, .inl p1] 6) [] u6 (fun r7 u8 => ((p2 ≤ r7 → (vp_in ((2 * p0) + p1) 60 ∧ (vp_in ((2 * p0) + p1) 60 ∧ ex_Ev d mX7_owedOf 0 (ex_in [.inr 23, .inl p0, .inl p1] 6) [] (ex_up u8 33 ((2 * p0) + p1).toNatClampNeg ((u8 33 ((2 * p0) + p1).toNatClampNeg) + p2)) (fun r9 u10 => P r9 u10)))) ∧ (¬ p2 ≤ r7 → P (-4) u8)))) ∧ (r5 = 0 → P (-1) u6)))))))))) : ex_Ev (d + 1) mX7_pay 0 [some (.inr 23), some (.inl p0), some (.inl p1), some (.inl p2)] [] w P := by
  refine ev_aload_n dX7_pay_0 rfl ?_
  refine ev_iload_n dX7_pay_1 rfl ?_
  refine ev_callV 23 [.inl p0] dX7_pay_2 co_X7_isJoust ml_RX7_134 cv_X7_isJoust (by decide) rfl rfl rfl rfl (by decide) (Nat.le_of_ble_eq_true rfl) rfl H (fun r1 u2 H => ?_)
  refine ev_if_eq 25 dX7_pay_5 (by decide) (fun h => ?_) (fun h => ?_)
  · have H := H.1 h
    refine ev_iconst (-1) dX7_pay_25 (by decide) ?_
    exact ev_iret dX7_pay_26 rfl H
  · have H := H.2 h
    refine ev_iload_n dX7_pay_8 rfl ?_
    refine ev_callS [.inl p1] dX7_pay_9 co_X7_isSide ml_RX7_137 cs_X7_isSide rfl rfl (by decide) (Nat.le_of_ble_eq_true rfl) rfl H (fun r3 u4 H => ?_)
    refine ev_if_eq 25 dX7_pay_12 (by decide) (fun h => ?_) (fun h => ?_)
    · have H := H.1 h
      refine ev_iconst (-1) dX7_pay_25 (by decide) ?_
      exact ev_iret dX7_pay_26 rfl H
    · have H := H.2 h
      refine ev_iload_n dX7_pay_15 rfl ?_
      refine ev_iconst 1 dX7_pay_16 (by decide) ?_
      refine ev_bipush 100 dX7_pay_17 (by decide) ?_
      refine ev_callS [.inl p2, .inl 1, .inl 100] dX7_pay_19 co_X7_in ml_RX7_72 cs_X7_in rfl rfl (by decide) (Nat.le_of_ble_eq_true rfl) rfl H (fun r5 u6 H => ?_)
      refine ev_if_ne 27 dX7_pay_22 (by decide) (fun h => ?_) (fun h => ?_)
      · have H := H.1 h
        refine ev_aload_n dX7_pay_27 rfl ?_
        refine ev_iload_n dX7_pay_28 rfl ?_
        refine ev_iload_n dX7_pay_29 rfl ?_
        refine ev_callV 23 [.inl p0, .inl p1] dX7_pay_30 co_X7_owedOf ml_RX7_168 cv_X7_owedOf (by decide) rfl rfl rfl rfl (by decide) (Nat.le_of_ble_eq_true rfl) rfl H (fun r7 u8 H => ?_)
        refine ev_iload_n dX7_pay_33 rfl ?_
        refine ev_icmp_ge 40 dX7_pay_34 (by decide) (fun h => ?_) (fun h => ?_)
        · have H := H.1 h
          refine ev_aload_n dX7_pay_40 rfl ?_
          refine ev_getR dX7_pay_41 (fo_RX7_41 _ rfl) (by decide) rfl rfl ?_
          refine ev_iconst 2 dX7_pay_44 (by decide) ?_
          refine ev_iload_n dX7_pay_45 rfl ?_
          refine ev_imul dX7_pay_46 ?_
          refine ev_iload_n dX7_pay_47 rfl ?_
          refine ev_iadd dX7_pay_48 ?_
          refine ev_dup2 dX7_pay_49 ?_
          refine ev_iald dX7_pay_50 (by decide) rfl H.1 ?_
          have H := H.2
          refine ev_iload_n dX7_pay_51 rfl ?_
          refine ev_iadd dX7_pay_52 ?_
          refine ev_iast dX7_pay_53 (by decide) rfl H.1 ?_
          have H := H.2
          refine ev_aload_n dX7_pay_54 rfl ?_
          refine ev_iload_n dX7_pay_55 rfl ?_
          refine ev_iload_n dX7_pay_56 rfl ?_
          refine ev_callV 23 [.inl p0, .inl p1] dX7_pay_57 co_X7_owedOf ml_RX7_168 cv_X7_owedOf (by decide) rfl rfl rfl rfl (by decide) (Nat.le_of_ble_eq_true rfl) rfl H (fun r9 u10 H => ?_)
          exact ev_iret dX7_pay_60 rfl H
        · have H := H.2 h
          refine ev_bipush (-4) dX7_pay_37 (by decide) ?_
          exact ev_iret dX7_pay_39 rfl H
      · have H := H.2 h
        refine ev_iconst (-1) dX7_pay_25 (by decide) ?_
        exact ev_iret dX7_pay_26 rfl H

set_option maxHeartbeats 4000000 in
set_option maxRecDepth 100000 in
theorem sg_X7_purse_0 {d : Nat} {w : ex_WW} {P : Int32 → ex_WW → Prop} {p0 : Int32} (H : ex_Ev d mX7_isKnight 0 (ex_in [.inr 23, .inl p0] 2) [] w (fun r1 u2 => ((¬ r1 = 0 → ex_Ev (d + 1) mX7_purse 15 [some (.inr 23), some (.inl p0), some (.inl 0), some (.inl 0)] [] u2 P) ∧ (r1 = 0 → P (-1000000) u2)))) : ex_Ev (d + 1) mX7_purse 0 [some (.inr 23), some (.inl p0), none, none] [] w P := by
  refine ev_aload_n dX7_purse_0 rfl ?_
  refine ev_iload_n dX7_purse_1 rfl ?_
  refine ev_callV 23 [.inl p0] dX7_purse_2 co_X7_isKnight ml_RX7_76 cv_X7_isKnight (by decide) rfl rfl rfl rfl (by decide) (Nat.le_of_ble_eq_true rfl) rfl H (fun r1 u2 H => ?_)
  refine ev_if_ne 11 dX7_purse_5 (by decide) (fun h => ?_) (fun h => ?_)
  · have H := H.1 h
    refine ev_iconst 0 dX7_purse_11 (by decide) ?_
    refine ev_istore_n dX7_purse_12 (by decide) ?_
    refine ev_iconst 0 dX7_purse_13 (by decide) ?_
    refine ev_istore_n dX7_purse_14 (by decide) ?_
    exact H
  · have H := H.2 h
    refine ev_ldc (-1000000) dX7_purse_8 (ex_mem 887 (by decide +kernel) rfl) ?_
    exact ev_iret dX7_purse_10 rfl H

set_option maxHeartbeats 4000000 in
set_option maxRecDepth 100000 in
theorem sg_X7_purse_15 {d : Nat} {w : ex_WW} {P : Int32 → ex_WW → Prop} {x1 : Int32} {x2 : Int32} {x3 : Int32} (H : (((2 * (w 23 10)) ≤ x3 → P x2 w) ∧ (¬ (2 * (w 23 10)) ≤ x3 → (vp_in x3 60 ∧ ((¬ (w 30 x3.toNatClampNeg) = x1 → ex_Ev (d + 1) mX7_purse 15 [some (.inr 23), some (.inl x1), some (.inl (x2 + 0)), some (.inl (x3 + 1))] [] w P) ∧ ((w 30 x3.toNatClampNeg) = x1 → ((¬ (x3 - x3 / 2 * 2) = 0 → (vp_in (x3 - 1) 60 ∧ (vp_in x3 60 ∧ ex_Ev (d + 1) mX7_purse 15 [some (.inr 23), some (.inl x1), some (.inl (x2 + ((w 33 (x3 - 1).toNatClampNeg) - (w 33 x3.toNatClampNeg)))), some (.inl (x3 + 1))] [] w P))) ∧ ((x3 - x3 / 2 * 2) = 0 → (vp_in (x3 + 1) 60 ∧ (vp_in x3 60 ∧ ex_Ev (d + 1) mX7_purse 15 [some (.inr 23), some (.inl x1), some (.inl (x2 + ((w 33 (x3 + 1).toNatClampNeg) - (w 33 x3.toNatClampNeg)))), some (.inl (x3 + 1))] [] w P)))))))))) : ex_Ev (d + 1) mX7_purse 15 [some (.inr 23), some (.inl x1), some (.inl x2), some (.inl x3)] [] w P := by
  refine ev_iload_n dX7_purse_15 rfl ?_
  refine ev_iconst 2 dX7_purse_16 (by decide) ?_
  refine ev_aload_n dX7_purse_17 rfl ?_
  refine ev_getI dX7_purse_18 (fo_RX7_80 _ rfl) (by decide) rfl rfl ?_
  refine ev_imul dX7_purse_21 ?_
  refine ev_icmp_ge 75 dX7_purse_22 (by decide) (fun h => ?_) (fun h => ?_)
  · have H := H.1 h
    refine ev_iload_n dX7_purse_75 rfl ?_
    exact ev_iret dX7_purse_76 rfl H
  · have H := H.2 h
    refine ev_iload_n dX7_purse_25 rfl ?_
    refine ev_aload_n dX7_purse_26 rfl ?_
    refine ev_getR dX7_purse_27 (fo_RX7_32 _ rfl) (by decide) rfl rfl ?_
    refine ev_iload_n dX7_purse_30 rfl ?_
    refine ev_iald dX7_purse_31 (by decide) rfl H.1 ?_
    have H := H.2
    refine ev_iload_n dX7_purse_32 rfl ?_
    refine ev_icmp_ne 66 dX7_purse_33 (by decide) (fun h => ?_) (fun h => ?_)
    · have H := H.1 h
      refine ev_iconst 0 dX7_purse_66 (by decide) ?_
      refine ev_iadd dX7_purse_67 ?_
      refine ev_istore_n dX7_purse_68 (by decide) ?_
      refine ev_iinc (x3 + 1) dX7_purse_69 rfl rfl (by decide) ?_
      refine ev_goto 15 dX7_purse_72 (by decide) ?_
      exact H
    · have H := H.2 h
      refine ev_aload_n dX7_purse_36 rfl ?_
      refine ev_getR dX7_purse_37 (fo_RX7_41 _ rfl) (by decide) rfl rfl ?_
      refine ev_iload_n dX7_purse_40 rfl ?_
      refine ev_iconst 2 dX7_purse_41 (by decide) ?_
      refine ev_irem dX7_purse_42 (by decide) ?_
      refine ev_if_ne 52 dX7_purse_43 (by decide) (fun h => ?_) (fun h => ?_)
      · have H := H.1 h
        refine ev_iload_n dX7_purse_52 rfl ?_
        refine ev_iconst 1 dX7_purse_53 (by decide) ?_
        refine ev_isub dX7_purse_54 ?_
        refine ev_iald dX7_purse_55 (by decide) rfl H.1 ?_
        have H := H.2
        refine ev_aload_n dX7_purse_56 rfl ?_
        refine ev_getR dX7_purse_57 (fo_RX7_41 _ rfl) (by decide) rfl rfl ?_
        refine ev_iload_n dX7_purse_60 rfl ?_
        refine ev_iald dX7_purse_61 (by decide) rfl H.1 ?_
        have H := H.2
        refine ev_isub dX7_purse_62 ?_
        refine ev_goto 67 dX7_purse_63 (by decide) ?_
        refine ev_iadd dX7_purse_67 ?_
        refine ev_istore_n dX7_purse_68 (by decide) ?_
        refine ev_iinc (x3 + 1) dX7_purse_69 rfl rfl (by decide) ?_
        refine ev_goto 15 dX7_purse_72 (by decide) ?_
        exact H
      · have H := H.2 h
        refine ev_iload_n dX7_purse_46 rfl ?_
        refine ev_iconst 1 dX7_purse_47 (by decide) ?_
        refine ev_iadd dX7_purse_48 ?_
        refine ev_goto 55 dX7_purse_49 (by decide) ?_
        refine ev_iald dX7_purse_55 (by decide) rfl H.1 ?_
        have H := H.2
        refine ev_aload_n dX7_purse_56 rfl ?_
        refine ev_getR dX7_purse_57 (fo_RX7_41 _ rfl) (by decide) rfl rfl ?_
        refine ev_iload_n dX7_purse_60 rfl ?_
        refine ev_iald dX7_purse_61 (by decide) rfl H.1 ?_
        have H := H.2
        refine ev_isub dX7_purse_62 ?_
        refine ev_goto 67 dX7_purse_63 (by decide) ?_
        refine ev_iadd dX7_purse_67 ?_
        refine ev_istore_n dX7_purse_68 (by decide) ?_
        refine ev_iinc (x3 + 1) dX7_purse_69 rfl rfl (by decide) ?_
        refine ev_goto 15 dX7_purse_72 (by decide) ?_
        exact H

set_option maxHeartbeats 4000000 in
set_option maxRecDepth 100000 in
theorem sg_X7_challenge_0 {d : Nat} {w : ex_WW} {P : Int32 → ex_WW → Prop} {p0 : Int32} {p1 : Int32} (H : ex_Ev d mX7_areTwo 0 (ex_in [.inr 23, .inl p0, .inl p1] 3) [] w (fun r1 u2 => ((¬ r1 = 0 → ex_Ev (d + 1) mX7_challenge 13 [some (.inr 23), some (.inl p0), some (.inl p1), some (.inl 0), none] [] u2 P) ∧ (r1 = 0 → P (-1) u2)))) : ex_Ev (d + 1) mX7_challenge 0 [some (.inr 23), some (.inl p0), some (.inl p1), none, none] [] w P := by
  refine ev_aload_n dX7_challenge_0 rfl ?_
  refine ev_iload_n dX7_challenge_1 rfl ?_
  refine ev_iload_n dX7_challenge_2 rfl ?_
  refine ev_callV 23 [.inl p0, .inl p1] dX7_challenge_3 co_X7_areTwo ml_RX7_131 cv_X7_areTwo (by decide) rfl rfl rfl rfl (by decide) (Nat.le_of_ble_eq_true rfl) rfl H (fun r1 u2 H => ?_)
  refine ev_if_ne 11 dX7_challenge_6 (by decide) (fun h => ?_) (fun h => ?_)
  · have H := H.1 h
    refine ev_iconst 0 dX7_challenge_11 (by decide) ?_
    refine ev_istore_n dX7_challenge_12 (by decide) ?_
    exact H
  · have H := H.2 h
    refine ev_iconst (-1) dX7_challenge_9 (by decide) ?_
    exact ev_iret dX7_challenge_10 rfl H

set_option maxHeartbeats 4000000 in
set_option maxRecDepth 100000 in
theorem sg_X7_challenge_13 {d : Nat} {w : ex_WW} {P : Int32 → ex_WW → Prop} {x1 : Int32} {x2 : Int32} {x3 : Int32} (H : (((w 23 15) ≤ x3 → ((¬ (w 23 15) = 7 → (vp_in (w 23 15) 7 ∧ (vp_in (w 23 15) 7 ∧ P (((w 23 15) + 1) - 1) (ex_up (ex_up (ex_up w 34 (w 23 15).toNatClampNeg x1) 35 (w 23 15).toNatClampNeg x2) 23 15 ((w 23 15) + 1))))) ∧ ((w 23 15) = 7 → P (-2) w))) ∧ (¬ (w 23 15) ≤ x3 → (vp_in x3 7 ∧ ((¬ (w 34 x3.toNatClampNeg) = x1 → (vp_in x3 7 ∧ ((¬ (w 34 x3.toNatClampNeg) = x2 → ex_Ev (d + 1) mX7_challenge 13 [some (.inr 23), some (.inl x1), some (.inl x2), some (.inl (x3 + 1)), none] [] w P) ∧ ((w 34 x3.toNatClampNeg) = x2 → (vp_in x3 7 ∧ ((¬ (w 35 x3.toNatClampNeg) = x1 → ex_Ev (d + 1) mX7_challenge 13 [some (.inr 23), some (.inl x1), some (.inl x2), some (.inl (x3 + 1)), none] [] w P) ∧ ((w 35 x3.toNatClampNeg) = x1 → P (-3) w))))))) ∧ ((w 34 x3.toNatClampNeg) = x1 → (vp_in x3 7 ∧ ((¬ (w 35 x3.toNatClampNeg) = x2 → (vp_in x3 7 ∧ ((¬ (w 34 x3.toNatClampNeg) = x2 → ex_Ev (d + 1) mX7_challenge 13 [some (.inr 23), some (.inl x1), some (.inl x2), some (.inl (x3 + 1)), none] [] w P) ∧ ((w 34 x3.toNatClampNeg) = x2 → (vp_in x3 7 ∧ ((¬ (w 35 x3.toNatClampNeg) = x1 → ex_Ev (d + 1) mX7_challenge 13 [some (.inr 23), some (.inl x1), some (.inl x2), some (.inl (x3 + 1)), none] [] w P) ∧ ((w 35 x3.toNatClampNeg) = x1 → P (-3) w))))))) ∧ ((w 35 x3.toNatClampNeg) = x2 → P (-3) w))))))))) : ex_Ev (d + 1) mX7_challenge 13 [some (.inr 23), some (.inl x1), some (.inl x2), some (.inl x3), none] [] w P := by
  refine ev_iload_n dX7_challenge_13 rfl ?_
  refine ev_aload_n dX7_challenge_14 rfl ?_
  refine ev_getI dX7_challenge_15 (fo_RX7_171 _ rfl) (by decide) rfl rfl ?_
  refine ev_icmp_ge 82 dX7_challenge_18 (by decide) (fun h => ?_) (fun h => ?_)
  · have H := H.1 h
    refine ev_aload_n dX7_challenge_82 rfl ?_
    refine ev_getI dX7_challenge_83 (fo_RX7_171 _ rfl) (by decide) rfl rfl ?_
    refine ev_bipush 7 dX7_challenge_86 (by decide) ?_
    refine ev_icmp_ne 94 dX7_challenge_88 (by decide) (fun h => ?_) (fun h => ?_)
    · have H := H.1 h
      refine ev_aload_n dX7_challenge_94 rfl ?_
      refine ev_getR dX7_challenge_95 (fo_RX7_44 _ rfl) (by decide) rfl rfl ?_
      refine ev_aload_n dX7_challenge_98 rfl ?_
      refine ev_getI dX7_challenge_99 (fo_RX7_171 _ rfl) (by decide) rfl rfl ?_
      refine ev_iload_n dX7_challenge_102 rfl ?_
      refine ev_iast dX7_challenge_103 (by decide) rfl H.1 ?_
      have H := H.2
      refine ev_aload_n dX7_challenge_104 rfl ?_
      refine ev_getR dX7_challenge_105 (fo_RX7_47 _ rfl) (by decide) rfl rfl ?_
      refine ev_aload_n dX7_challenge_108 rfl ?_
      refine ev_getI dX7_challenge_109 (fo_RX7_171 _ rfl) (by decide) rfl rfl ?_
      refine ev_iload_n dX7_challenge_112 rfl ?_
      refine ev_iast dX7_challenge_113 (by decide) rfl H.1 ?_
      have H := H.2
      refine ev_aload_n dX7_challenge_114 rfl ?_
      refine ev_dup dX7_challenge_115 ?_
      refine ev_getI dX7_challenge_116 (fo_RX7_171 _ rfl) (by decide) rfl rfl ?_
      refine ev_iconst 1 dX7_challenge_119 (by decide) ?_
      refine ev_iadd dX7_challenge_120 ?_
      refine ev_put dX7_challenge_121 (fo_RX7_171 _ rfl) fp_7_15 (by decide) rfl rfl (vp_nar_int _) rfl ?_
      refine ev_aload_n dX7_challenge_124 rfl ?_
      refine ev_getI dX7_challenge_125 (fo_RX7_171 _ rfl) (by decide) rfl rfl ?_
      refine ev_iconst 1 dX7_challenge_128 (by decide) ?_
      refine ev_isub dX7_challenge_129 ?_
      exact ev_iret dX7_challenge_130 rfl H
    · have H := H.2 h
      refine ev_bipush (-2) dX7_challenge_91 (by decide) ?_
      exact ev_iret dX7_challenge_93 rfl H
  · have H := H.2 h
    refine ev_aload_n dX7_challenge_21 rfl ?_
    refine ev_getR dX7_challenge_22 (fo_RX7_44 _ rfl) (by decide) rfl rfl ?_
    refine ev_iload_n dX7_challenge_25 rfl ?_
    refine ev_iald dX7_challenge_26 (by decide) rfl H.1 ?_
    have H := H.2
    refine ev_iload_n dX7_challenge_27 rfl ?_
    refine ev_icmp_ne 45 dX7_challenge_28 (by decide) (fun h => ?_) (fun h => ?_)
    · have H := H.1 h
      refine ev_iconst 0 dX7_challenge_45 (by decide) ?_
      refine ev_istore dX7_challenge_46 (by decide) ?_
      refine ev_iload dX7_challenge_48 rfl ?_
      refine ev_if_ne 73 dX7_challenge_50 (by decide) (fun h => absurd (by decide) h) (fun _ => ?_)
      refine ev_aload_n dX7_challenge_53 rfl ?_
      refine ev_getR dX7_challenge_54 (fo_RX7_44 _ rfl) (by decide) rfl rfl ?_
      refine ev_iload_n dX7_challenge_57 rfl ?_
      refine ev_iald dX7_challenge_58 (by decide) rfl H.1 ?_
      have H := H.2
      refine ev_iload_n dX7_challenge_59 rfl ?_
      refine ev_icmp_ne 76 dX7_challenge_60 (by decide) (fun h => ?_) (fun h => ?_)
      · have H := H.1 h
        refine ev_iinc (x3 + 1) dX7_challenge_76 rfl rfl (by decide) ?_
        refine ev_goto 13 dX7_challenge_79 (by decide) ?_
        refine ev_drop 4 ?_
        exact H
      · have H := H.2 h
        refine ev_aload_n dX7_challenge_63 rfl ?_
        refine ev_getR dX7_challenge_64 (fo_RX7_47 _ rfl) (by decide) rfl rfl ?_
        refine ev_iload_n dX7_challenge_67 rfl ?_
        refine ev_iald dX7_challenge_68 (by decide) rfl H.1 ?_
        have H := H.2
        refine ev_iload_n dX7_challenge_69 rfl ?_
        refine ev_icmp_ne 76 dX7_challenge_70 (by decide) (fun h => ?_) (fun h => ?_)
        · have H := H.1 h
          refine ev_iinc (x3 + 1) dX7_challenge_76 rfl rfl (by decide) ?_
          refine ev_goto 13 dX7_challenge_79 (by decide) ?_
          refine ev_drop 4 ?_
          exact H
        · have H := H.2 h
          refine ev_bipush (-3) dX7_challenge_73 (by decide) ?_
          exact ev_iret dX7_challenge_75 rfl H
    · have H := H.2 h
      refine ev_aload_n dX7_challenge_31 rfl ?_
      refine ev_getR dX7_challenge_32 (fo_RX7_47 _ rfl) (by decide) rfl rfl ?_
      refine ev_iload_n dX7_challenge_35 rfl ?_
      refine ev_iald dX7_challenge_36 (by decide) rfl H.1 ?_
      have H := H.2
      refine ev_iload_n dX7_challenge_37 rfl ?_
      refine ev_icmp_ne 45 dX7_challenge_38 (by decide) (fun h => ?_) (fun h => ?_)
      · have H := H.1 h
        refine ev_iconst 0 dX7_challenge_45 (by decide) ?_
        refine ev_istore dX7_challenge_46 (by decide) ?_
        refine ev_iload dX7_challenge_48 rfl ?_
        refine ev_if_ne 73 dX7_challenge_50 (by decide) (fun h => absurd (by decide) h) (fun _ => ?_)
        refine ev_aload_n dX7_challenge_53 rfl ?_
        refine ev_getR dX7_challenge_54 (fo_RX7_44 _ rfl) (by decide) rfl rfl ?_
        refine ev_iload_n dX7_challenge_57 rfl ?_
        refine ev_iald dX7_challenge_58 (by decide) rfl H.1 ?_
        have H := H.2
        refine ev_iload_n dX7_challenge_59 rfl ?_
        refine ev_icmp_ne 76 dX7_challenge_60 (by decide) (fun h => ?_) (fun h => ?_)
        · have H := H.1 h
          refine ev_iinc (x3 + 1) dX7_challenge_76 rfl rfl (by decide) ?_
          refine ev_goto 13 dX7_challenge_79 (by decide) ?_
          refine ev_drop 4 ?_
          exact H
        · have H := H.2 h
          refine ev_aload_n dX7_challenge_63 rfl ?_
          refine ev_getR dX7_challenge_64 (fo_RX7_47 _ rfl) (by decide) rfl rfl ?_
          refine ev_iload_n dX7_challenge_67 rfl ?_
          refine ev_iald dX7_challenge_68 (by decide) rfl H.1 ?_
          have H := H.2
          refine ev_iload_n dX7_challenge_69 rfl ?_
          refine ev_icmp_ne 76 dX7_challenge_70 (by decide) (fun h => ?_) (fun h => ?_)
          · have H := H.1 h
            refine ev_iinc (x3 + 1) dX7_challenge_76 rfl rfl (by decide) ?_
            refine ev_goto 13 dX7_challenge_79 (by decide) ?_
            refine ev_drop 4 ?_
            exact H
          · have H := H.2 h
            refine ev_bipush (-3) dX7_challenge_73 (by decide) ?_
            exact ev_iret dX7_challenge_75 rfl H
      · have H := H.2 h
        refine ev_iconst 1 dX7_challenge_41 (by decide) ?_
        refine ev_goto 46 dX7_challenge_42 (by decide) ?_
        refine ev_istore dX7_challenge_46 (by decide) ?_
        refine ev_iload dX7_challenge_48 rfl ?_
        refine ev_if_ne 73 dX7_challenge_50 (by decide) (fun _ => ?_) (fun h => absurd h (by decide))
        refine ev_bipush (-3) dX7_challenge_73 (by decide) ?_
        exact ev_iret dX7_challenge_75 rfl H

set_option maxHeartbeats 4000000 in
set_option maxRecDepth 100000 in
theorem sg_X7_withdraw_0 {d : Nat} {w : ex_WW} {P : Int32 → ex_WW → Prop} (H : ((¬ (w 23 15) = 0 → P ((w 23 15) - 1) (ex_up w 23 15 ((w 23 15) - 1))) ∧ ((w 23 15) = 0 → P (-4) w))) : ex_Ev d mX7_withdraw 0 [some (.inr 23)] [] w P := by
  refine ev_aload_n dX7_withdraw_0 rfl ?_
  refine ev_getI dX7_withdraw_1 (fo_RX7_171 _ rfl) (by decide) rfl rfl ?_
  refine ev_if_ne 10 dX7_withdraw_4 (by decide) (fun h => ?_) (fun h => ?_)
  · have H := H.1 h
    refine ev_aload_n dX7_withdraw_10 rfl ?_
    refine ev_dup dX7_withdraw_11 ?_
    refine ev_getI dX7_withdraw_12 (fo_RX7_171 _ rfl) (by decide) rfl rfl ?_
    refine ev_iconst 1 dX7_withdraw_15 (by decide) ?_
    refine ev_isub dX7_withdraw_16 ?_
    refine ev_put dX7_withdraw_17 (fo_RX7_171 _ rfl) fp_7_15 (by decide) rfl rfl (vp_nar_int _) rfl ?_
    refine ev_aload_n dX7_withdraw_20 rfl ?_
    refine ev_getI dX7_withdraw_21 (fo_RX7_171 _ rfl) (by decide) rfl rfl ?_
    exact ev_iret dX7_withdraw_24 rfl H
  · have H := H.2 h
    refine ev_bipush (-4) dX7_withdraw_7 (by decide) ?_
    exact ev_iret dX7_withdraw_9 rfl H

set_option maxHeartbeats 4000000 in
set_option maxRecDepth 100000 in
theorem sg_X7_isTurn_0 {d : Nat} {w : ex_WW} {P : Int32 → ex_WW → Prop} {p0 : Int32} (H : ex_Ev d mX7_isTurn 2 [some (.inr 23), some (.inl p0), some (.inl 0), none, none, none] [] w P) : ex_Ev d mX7_isTurn 0 [some (.inr 23), some (.inl p0), none, none, none, none] [] w P := by
  refine ev_iconst 0 dX7_isTurn_0 (by decide) ?_
  refine ev_istore_n dX7_isTurn_1 (by decide) ?_
  exact H

set_option maxHeartbeats 4000000 in
set_option maxRecDepth 100000 in
theorem sg_X7_isTurn_2 {d : Nat} {w : ex_WW} {P : Int32 → ex_WW → Prop} {x1 : Int32} {x2 : Int32} (H : ((x1 ≤ x2 → P 1 w) ∧ (¬ x1 ≤ x2 → (vp_in x2 7 ∧ (vp_in x1 7 ∧ (((w 34 x2.toNatClampNeg) = (w 34 x1.toNatClampNeg) → ex_Ev d mX7_isTurn 43 [some (.inr 23), some (.inl x1), some (.inl x2), some (.inl 1), none, none] [] w P) ∧ (¬ (w 34 x2.toNatClampNeg) = (w 34 x1.toNatClampNeg) → (vp_in x2 7 ∧ (vp_in x1 7 ∧ ((¬ (w 34 x2.toNatClampNeg) = (w 35 x1.toNatClampNeg) → ex_Ev d mX7_isTurn 43 [some (.inr 23), some (.inl x1), some (.inl x2), some (.inl 0), none, none] [] w P) ∧ ((w 34 x2.toNatClampNeg) = (w 35 x1.toNatClampNeg) → ex_Ev d mX7_isTurn 43 [some (.inr 23), some (.inl x1), some (.inl x2), some (.inl 1), none, none] [] w P))))))))))) : ex_Ev d mX7_isTurn 2 [some (.inr 23), some (.inl x1), some (.inl x2), none, none, none] [] w P := by
  refine ev_iload_n dX7_isTurn_2 rfl ?_
  refine ev_iload_n dX7_isTurn_3 rfl ?_
  refine ev_icmp_ge 125 dX7_isTurn_4 (by decide) (fun h => ?_) (fun h => ?_)
  · have H := H.1 h
    refine ev_iconst 1 dX7_isTurn_125 (by decide) ?_
    exact ev_zret dX7_isTurn_126 rfl (by decide) H
  · have H := H.2 h
    refine ev_aload_n dX7_isTurn_7 rfl ?_
    refine ev_getR dX7_isTurn_8 (fo_RX7_44 _ rfl) (by decide) rfl rfl ?_
    refine ev_iload_n dX7_isTurn_11 rfl ?_
    refine ev_iald dX7_isTurn_12 (by decide) rfl H.1 ?_
    have H := H.2
    refine ev_aload_n dX7_isTurn_13 rfl ?_
    refine ev_getR dX7_isTurn_14 (fo_RX7_44 _ rfl) (by decide) rfl rfl ?_
    refine ev_iload_n dX7_isTurn_17 rfl ?_
    refine ev_iald dX7_isTurn_18 (by decide) rfl H.1 ?_
    have H := H.2
    refine ev_icmp_eq 37 dX7_isTurn_19 (by decide) (fun h => ?_) (fun h => ?_)
    · have H := H.1 h
      refine ev_iconst 1 dX7_isTurn_37 (by decide) ?_
      refine ev_goto 42 dX7_isTurn_38 (by decide) ?_
      refine ev_istore_n dX7_isTurn_42 (by decide) ?_
      exact H
    · have H := H.2 h
      refine ev_aload_n dX7_isTurn_22 rfl ?_
      refine ev_getR dX7_isTurn_23 (fo_RX7_44 _ rfl) (by decide) rfl rfl ?_
      refine ev_iload_n dX7_isTurn_26 rfl ?_
      refine ev_iald dX7_isTurn_27 (by decide) rfl H.1 ?_
      have H := H.2
      refine ev_aload_n dX7_isTurn_28 rfl ?_
      refine ev_getR dX7_isTurn_29 (fo_RX7_47 _ rfl) (by decide) rfl rfl ?_
      refine ev_iload_n dX7_isTurn_32 rfl ?_
      refine ev_iald dX7_isTurn_33 (by decide) rfl H.1 ?_
      have H := H.2
      refine ev_icmp_ne 41 dX7_isTurn_34 (by decide) (fun h => ?_) (fun h => ?_)
      · have H := H.1 h
        refine ev_iconst 0 dX7_isTurn_41 (by decide) ?_
        refine ev_istore_n dX7_isTurn_42 (by decide) ?_
        exact H
      · have H := H.2 h
        refine ev_iconst 1 dX7_isTurn_37 (by decide) ?_
        refine ev_goto 42 dX7_isTurn_38 (by decide) ?_
        refine ev_istore_n dX7_isTurn_42 (by decide) ?_
        exact H

set_option maxHeartbeats 4000000 in
set_option maxRecDepth 100000 in
theorem sg_X7_isTurn_43 {d : Nat} {w : ex_WW} {P : Int32 → ex_WW → Prop} {x1 : Int32} {x2 : Int32} {x3 : Int32} (H : ((¬ x3 = 0 → ex_Ev d mX7_isTurn 84 [some (.inr 23), some (.inl x1), some (.inl x2), some (.inl x3), some (.inl 1), none] [] w P) ∧ (x3 = 0 → (vp_in x2 7 ∧ (vp_in x1 7 ∧ (((w 35 x2.toNatClampNeg) = (w 34 x1.toNatClampNeg) → ex_Ev d mX7_isTurn 84 [some (.inr 23), some (.inl x1), some (.inl x2), some (.inl x3), some (.inl 1), none] [] w P) ∧ (¬ (w 35 x2.toNatClampNeg) = (w 34 x1.toNatClampNeg) → (vp_in x2 7 ∧ (vp_in x1 7 ∧ ((¬ (w 35 x2.toNatClampNeg) = (w 35 x1.toNatClampNeg) → ex_Ev d mX7_isTurn 84 [some (.inr 23), some (.inl x1), some (.inl x2), some (.inl x3), some (.inl 0), none] [] w P) ∧ ((w 35 x2.toNatClampNeg) = (w 35 x1.toNatClampNeg) → ex_Ev d mX7_isTurn 84 [some (.inr 23), some (.inl x1), some (.inl x2), some (.inl x3), some (.inl 1), none] [] w P))))))))))) : ex_Ev d mX7_isTurn 43 [some (.inr 23), some (.inl x1), some (.inl x2), some (.inl x3), none, none] [] w P := by
  refine ev_iload_n dX7_isTurn_43 rfl ?_
  refine ev_if_ne 77 dX7_isTurn_44 (by decide) (fun h => ?_) (fun h => ?_)
  · have H := H.1 h
    refine ev_iconst 1 dX7_isTurn_77 (by decide) ?_
    refine ev_goto 82 dX7_isTurn_78 (by decide) ?_
    refine ev_istore dX7_isTurn_82 (by decide) ?_
    exact H
  · have H := H.2 h
    refine ev_aload_n dX7_isTurn_47 rfl ?_
    refine ev_getR dX7_isTurn_48 (fo_RX7_47 _ rfl) (by decide) rfl rfl ?_
    refine ev_iload_n dX7_isTurn_51 rfl ?_
    refine ev_iald dX7_isTurn_52 (by decide) rfl H.1 ?_
    have H := H.2
    refine ev_aload_n dX7_isTurn_53 rfl ?_
    refine ev_getR dX7_isTurn_54 (fo_RX7_44 _ rfl) (by decide) rfl rfl ?_
    refine ev_iload_n dX7_isTurn_57 rfl ?_
    refine ev_iald dX7_isTurn_58 (by decide) rfl H.1 ?_
    have H := H.2
    refine ev_icmp_eq 77 dX7_isTurn_59 (by decide) (fun h => ?_) (fun h => ?_)
    · have H := H.1 h
      refine ev_iconst 1 dX7_isTurn_77 (by decide) ?_
      refine ev_goto 82 dX7_isTurn_78 (by decide) ?_
      refine ev_istore dX7_isTurn_82 (by decide) ?_
      exact H
    · have H := H.2 h
      refine ev_aload_n dX7_isTurn_62 rfl ?_
      refine ev_getR dX7_isTurn_63 (fo_RX7_47 _ rfl) (by decide) rfl rfl ?_
      refine ev_iload_n dX7_isTurn_66 rfl ?_
      refine ev_iald dX7_isTurn_67 (by decide) rfl H.1 ?_
      have H := H.2
      refine ev_aload_n dX7_isTurn_68 rfl ?_
      refine ev_getR dX7_isTurn_69 (fo_RX7_47 _ rfl) (by decide) rfl rfl ?_
      refine ev_iload_n dX7_isTurn_72 rfl ?_
      refine ev_iald dX7_isTurn_73 (by decide) rfl H.1 ?_
      have H := H.2
      refine ev_icmp_ne 81 dX7_isTurn_74 (by decide) (fun h => ?_) (fun h => ?_)
      · have H := H.1 h
        refine ev_iconst 0 dX7_isTurn_81 (by decide) ?_
        refine ev_istore dX7_isTurn_82 (by decide) ?_
        exact H
      · have H := H.2 h
        refine ev_iconst 1 dX7_isTurn_77 (by decide) ?_
        refine ev_goto 82 dX7_isTurn_78 (by decide) ?_
        refine ev_istore dX7_isTurn_82 (by decide) ?_
        exact H

set_option maxHeartbeats 4000000 in
set_option maxRecDepth 100000 in
theorem sg_X7_isTurn_84 {d : Nat} {w : ex_WW} {P : Int32 → ex_WW → Prop} {x1 : Int32} {x2 : Int32} {x3 : Int32} {x4 : Int32} (H : (vp_in x2 8 ∧ (vp_in x1 8 ∧ ((x4 = 0 → ex_Ev d mX7_isTurn 2 [some (.inr 23), some (.inl x1), some (.inl (x2 + 1)), none, none, none] [] w P) ∧ (¬ x4 = 0 → ((2 ≤ ((w 39 x2.toNatClampNeg) - (w 39 x1.toNatClampNeg)) → ex_Ev d mX7_isTurn 2 [some (.inr 23), some (.inl x1), some (.inl (x2 + 1)), none, none, none] [] w P) ∧ (¬ 2 ≤ ((w 39 x2.toNatClampNeg) - (w 39 x1.toNatClampNeg)) → ((((w 39 x2.toNatClampNeg) - (w 39 x1.toNatClampNeg)) ≤ (-2) → ex_Ev d mX7_isTurn 2 [some (.inr 23), some (.inl x1), some (.inl (x2 + 1)), none, none, none] [] w P) ∧ (¬ ((w 39 x2.toNatClampNeg) - (w 39 x1.toNatClampNeg)) ≤ (-2) → P 0 w))))))))) : ex_Ev d mX7_isTurn 84 [some (.inr 23), some (.inl x1), some (.inl x2), some (.inl x3), some (.inl x4), none] [] w P := by
  refine ev_aload_n dX7_isTurn_84 rfl ?_
  refine ev_getR dX7_isTurn_85 (fo_RX7_60 _ rfl) (by decide) rfl rfl ?_
  refine ev_iload_n dX7_isTurn_88 rfl ?_
  refine ev_iald dX7_isTurn_89 (by decide) rfl H.1 ?_
  have H := H.2
  refine ev_aload_n dX7_isTurn_90 rfl ?_
  refine ev_getR dX7_isTurn_91 (fo_RX7_60 _ rfl) (by decide) rfl rfl ?_
  refine ev_iload_n dX7_isTurn_94 rfl ?_
  refine ev_iald dX7_isTurn_95 (by decide) rfl H.1 ?_
  have H := H.2
  refine ev_isub dX7_isTurn_96 ?_
  refine ev_istore dX7_isTurn_97 (by decide) ?_
  refine ev_iload dX7_isTurn_99 rfl ?_
  refine ev_if_eq 119 dX7_isTurn_101 (by decide) (fun h => ?_) (fun h => ?_)
  · have H := H.1 h
    refine ev_iinc (x2 + 1) dX7_isTurn_119 rfl rfl (by decide) ?_
    refine ev_goto 2 dX7_isTurn_122 (by decide) ?_
    refine ev_drop 3 ?_
    refine ev_drop 4 ?_
    refine ev_drop 5 ?_
    exact H
  · have H := H.2 h
    refine ev_iload dX7_isTurn_104 rfl ?_
    refine ev_iconst 2 dX7_isTurn_106 (by decide) ?_
    refine ev_icmp_ge 119 dX7_isTurn_107 (by decide) (fun h => ?_) (fun h => ?_)
    · have H := H.1 h
      refine ev_iinc (x2 + 1) dX7_isTurn_119 rfl rfl (by decide) ?_
      refine ev_goto 2 dX7_isTurn_122 (by decide) ?_
      refine ev_drop 3 ?_
      refine ev_drop 4 ?_
      refine ev_drop 5 ?_
      exact H
    · have H := H.2 h
      refine ev_iload dX7_isTurn_110 rfl ?_
      refine ev_bipush (-2) dX7_isTurn_112 (by decide) ?_
      refine ev_icmp_le 119 dX7_isTurn_114 (by decide) (fun h => ?_) (fun h => ?_)
      · have H := H.1 h
        refine ev_iinc (x2 + 1) dX7_isTurn_119 rfl rfl (by decide) ?_
        refine ev_goto 2 dX7_isTurn_122 (by decide) ?_
        refine ev_drop 3 ?_
        refine ev_drop 4 ?_
        refine ev_drop 5 ?_
        exact H
      · have H := H.2 h
        refine ev_iconst 0 dX7_isTurn_117 (by decide) ?_
        exact ev_zret dX7_isTurn_118 rfl (by decide) H

set_option maxHeartbeats 4000000 in
set_option maxRecDepth 100000 in
theorem sg_X7_findPlan_0 {d : Nat} {w : ex_WW} {P : Int32 → ex_WW → Prop} {p0 : Int32} (H : (vp_in 0 8 ∧ ex_Ev (d + 1) mX7_findPlan 9 [some (.inr 23), some (.inl p0), some (.inl 0)] [] (ex_up w 39 (0 : Int32).toNatClampNeg 0) P)) : ex_Ev (d + 1) mX7_findPlan 0 [some (.inr 23), some (.inl p0), none] [] w P := by
  refine ev_iconst 0 dX7_findPlan_0 (by decide) ?_
  refine ev_istore_n dX7_findPlan_1 (by decide) ?_
  refine ev_aload_n dX7_findPlan_2 rfl ?_
  refine ev_getR dX7_findPlan_3 (fo_RX7_60 _ rfl) (by decide) rfl rfl ?_
  refine ev_iconst 0 dX7_findPlan_6 (by decide) ?_
  refine ev_iconst 0 dX7_findPlan_7 (by decide) ?_
  refine ev_iast dX7_findPlan_8 (by decide) rfl H.1 ?_
  have H := H.2
  exact H

set_option maxHeartbeats 4000000 in
set_option maxRecDepth 100000 in
theorem sg_X7_findPlan_9 {d : Nat} {w : ex_WW} {P : Int32 → ex_WW → Prop} {x1 : Int32} {x2 : Int32} (H : ((x2 < 0 → ex_Ev (d + 1) mX7_findPlan 95 [some (.inr 23), some (.inl x1), some (.inl x2)] [] w P) ∧ (¬ x2 < 0 → (((w 23 15) ≤ x2 → ex_Ev (d + 1) mX7_findPlan 95 [some (.inr 23), some (.inl x1), some (.inl x2)] [] w P) ∧ (¬ (w 23 15) ≤ x2 → ex_Ev (d + 1) mX7_findPlan 21 [some (.inr 23), some (.inl x1), some (.inl x2)] [] w P))))) : ex_Ev (d + 1) mX7_findPlan 9 [some (.inr 23), some (.inl x1), some (.inl x2)] [] w P := by
  refine ev_iload_n dX7_findPlan_9 rfl ?_
  refine ev_if_lt 95 dX7_findPlan_10 (by decide) (fun h => ?_) (fun h => ?_)
  · have H := H.1 h
    exact H
  · have H := H.2 h
    refine ev_iload_n dX7_findPlan_13 rfl ?_
    refine ev_aload_n dX7_findPlan_14 rfl ?_
    refine ev_getI dX7_findPlan_15 (fo_RX7_171 _ rfl) (by decide) rfl rfl ?_
    refine ev_icmp_ge 95 dX7_findPlan_18 (by decide) (fun h => ?_) (fun h => ?_)
    · have H := H.1 h
      exact H
    · have H := H.2 h
      exact H

set_option maxHeartbeats 4000000 in
set_option maxRecDepth 100000 in
theorem sg_X7_findPlan_21 {d : Nat} {w : ex_WW} {P : Int32 → ex_WW → Prop} {x1 : Int32} {x2 : Int32} (H : (vp_in x2 8 ∧ ((x1 < (w 39 x2.toNatClampNeg) → ex_Ev (d + 1) mX7_findPlan 52 [some (.inr 23), some (.inl x1), some (.inl x2)] [] w P) ∧ (¬ x1 < (w 39 x2.toNatClampNeg) → ex_Ev d mX7_isTurn 0 (ex_in [.inr 23, .inl x2] 6) [] w (fun r1 u2 => ((¬ r1 = 0 → ex_Ev (d + 1) mX7_findPlan 52 [some (.inr 23), some (.inl x1), some (.inl x2)] [] u2 P) ∧ (r1 = 0 → (vp_in x2 8 ∧ (vp_in x2 8 ∧ ex_Ev (d + 1) mX7_findPlan 21 [some (.inr 23), some (.inl x1), some (.inl x2)] [] (ex_up u2 39 x2.toNatClampNeg ((u2 39 x2.toNatClampNeg) + 1)) P))))))))) : ex_Ev (d + 1) mX7_findPlan 21 [some (.inr 23), some (.inl x1), some (.inl x2)] [] w P := by
  refine ev_aload_n dX7_findPlan_21 rfl ?_
  refine ev_getR dX7_findPlan_22 (fo_RX7_60 _ rfl) (by decide) rfl rfl ?_
  refine ev_iload_n dX7_findPlan_25 rfl ?_
  refine ev_iald dX7_findPlan_26 (by decide) rfl H.1 ?_
  have H := H.2
  refine ev_iload_n dX7_findPlan_27 rfl ?_
  refine ev_icmp_gt 52 dX7_findPlan_28 (by decide) (fun h => ?_) (fun h => ?_)
  · have H := H.1 h
    exact H
  · have H := H.2 h
    refine ev_aload_n dX7_findPlan_31 rfl ?_
    refine ev_iload_n dX7_findPlan_32 rfl ?_
    refine ev_callV 23 [.inl x2] dX7_findPlan_33 co_X7_isTurn ml_RX7_174 cv_X7_isTurn (by decide) rfl rfl rfl rfl (by decide) (Nat.le_of_ble_eq_true rfl) rfl H (fun r1 u2 H => ?_)
    refine ev_if_ne 52 dX7_findPlan_36 (by decide) (fun h => ?_) (fun h => ?_)
    · have H := H.1 h
      exact H
    · have H := H.2 h
      refine ev_aload_n dX7_findPlan_39 rfl ?_
      refine ev_getR dX7_findPlan_40 (fo_RX7_60 _ rfl) (by decide) rfl rfl ?_
      refine ev_iload_n dX7_findPlan_43 rfl ?_
      refine ev_dup2 dX7_findPlan_44 ?_
      refine ev_iald dX7_findPlan_45 (by decide) rfl H.1 ?_
      have H := H.2
      refine ev_iconst 1 dX7_findPlan_46 (by decide) ?_
      refine ev_iadd dX7_findPlan_47 ?_
      refine ev_iast dX7_findPlan_48 (by decide) rfl H.1 ?_
      have H := H.2
      refine ev_goto 21 dX7_findPlan_49 (by decide) ?_
      exact H

set_option maxHeartbeats 4000000 in
set_option maxRecDepth 100000 in
theorem sg_X7_findPlan_52 {d : Nat} {w : ex_WW} {P : Int32 → ex_WW → Prop} {x1 : Int32} {x2 : Int32} (H : (vp_in x2 8 ∧ ((x1 < (w 39 x2.toNatClampNeg) → (((x2 + (-1)) < 0 → ex_Ev (d + 1) mX7_findPlan 9 [some (.inr 23), some (.inl x1), some (.inl (x2 + (-1)))] [] w P) ∧ (¬ (x2 + (-1)) < 0 → (vp_in (x2 + (-1)) 8 ∧ (vp_in (x2 + (-1)) 8 ∧ ex_Ev (d + 1) mX7_findPlan 9 [some (.inr 23), some (.inl x1), some (.inl (x2 + (-1)))] [] (ex_up w 39 (x2 + (-1)).toNatClampNeg ((w 39 (x2 + (-1)).toNatClampNeg) + 1)) P))))) ∧ (¬ x1 < (w 39 x2.toNatClampNeg) → (vp_in (x2 + 1) 8 ∧ ex_Ev (d + 1) mX7_findPlan 9 [some (.inr 23), some (.inl x1), some (.inl (x2 + 1))] [] (ex_up w 39 (x2 + 1).toNatClampNeg 0) P))))) : ex_Ev (d + 1) mX7_findPlan 52 [some (.inr 23), some (.inl x1), some (.inl x2)] [] w P := by
  refine ev_aload_n dX7_findPlan_52 rfl ?_
  refine ev_getR dX7_findPlan_53 (fo_RX7_60 _ rfl) (by decide) rfl rfl ?_
  refine ev_iload_n dX7_findPlan_56 rfl ?_
  refine ev_iald dX7_findPlan_57 (by decide) rfl H.1 ?_
  have H := H.2
  refine ev_iload_n dX7_findPlan_58 rfl ?_
  refine ev_icmp_gt 75 dX7_findPlan_59 (by decide) (fun h => ?_) (fun h => ?_)
  · have H := H.1 h
    refine ev_iinc (x2 + (-1)) dX7_findPlan_75 rfl rfl (by decide) ?_
    refine ev_iload_n dX7_findPlan_78 rfl ?_
    refine ev_if_lt 9 dX7_findPlan_79 (by decide) (fun h => ?_) (fun h => ?_)
    · have H := H.1 h
      exact H
    · have H := H.2 h
      refine ev_aload_n dX7_findPlan_82 rfl ?_
      refine ev_getR dX7_findPlan_83 (fo_RX7_60 _ rfl) (by decide) rfl rfl ?_
      refine ev_iload_n dX7_findPlan_86 rfl ?_
      refine ev_dup2 dX7_findPlan_87 ?_
      refine ev_iald dX7_findPlan_88 (by decide) rfl H.1 ?_
      have H := H.2
      refine ev_iconst 1 dX7_findPlan_89 (by decide) ?_
      refine ev_iadd dX7_findPlan_90 ?_
      refine ev_iast dX7_findPlan_91 (by decide) rfl H.1 ?_
      have H := H.2
      refine ev_goto 9 dX7_findPlan_92 (by decide) ?_
      exact H
  · have H := H.2 h
    refine ev_iinc (x2 + 1) dX7_findPlan_62 rfl rfl (by decide) ?_
    refine ev_aload_n dX7_findPlan_65 rfl ?_
    refine ev_getR dX7_findPlan_66 (fo_RX7_60 _ rfl) (by decide) rfl rfl ?_
    refine ev_iload_n dX7_findPlan_69 rfl ?_
    refine ev_iconst 0 dX7_findPlan_70 (by decide) ?_
    refine ev_iast dX7_findPlan_71 (by decide) rfl H.1 ?_
    have H := H.2
    refine ev_goto 9 dX7_findPlan_72 (by decide) ?_
    exact H

set_option maxHeartbeats 4000000 in
set_option maxRecDepth 100000 in
theorem sg_X7_findPlan_95 {d : Nat} {w : ex_WW} {P : Int32 → ex_WW → Prop} {x1 : Int32} {x2 : Int32} (H : ((x2 < 0 → P 0 w) ∧ (¬ x2 < 0 → P 1 w))) : ex_Ev (d + 1) mX7_findPlan 95 [some (.inr 23), some (.inl x1), some (.inl x2)] [] w P := by
  refine ev_iload_n dX7_findPlan_95 rfl ?_
  refine ev_if_lt 103 dX7_findPlan_96 (by decide) (fun h => ?_) (fun h => ?_)
  · have H := H.1 h
    refine ev_iconst 0 dX7_findPlan_103 (by decide) ?_
    exact ev_zret dX7_findPlan_104 rfl (by decide) H
  · have H := H.2 h
    refine ev_iconst 1 dX7_findPlan_99 (by decide) ?_
    refine ev_goto 104 dX7_findPlan_100 (by decide) ?_
    exact ev_zret dX7_findPlan_104 rfl (by decide) H

set_option maxHeartbeats 4000000 in
set_option maxRecDepth 100000 in
theorem sg_X7_makePlan_0 {d : Nat} {w : ex_WW} {P : Int32 → ex_WW → Prop} (H : ex_Ev (d + 1) mX7_makePlan 2 [some (.inr 23), some (.inl 0)] [] w P) : ex_Ev (d + 1) mX7_makePlan 0 [some (.inr 23), none] [] w P := by
  refine ev_iconst 0 dX7_makePlan_0 (by decide) ?_
  refine ev_istore_n dX7_makePlan_1 (by decide) ?_
  exact H

set_option maxHeartbeats 4000000 in
set_option maxRecDepth 100000 in
theorem sg_X7_makePlan_2 {d : Nat} {w : ex_WW} {P : Int32 → ex_WW → Prop} {x1 : Int32} (H : ex_Ev d mX7_findPlan 0 (ex_in [.inr 23, .inl x1] 3) [] w (fun r1 u2 => ((¬ r1 = 0 → P x1 u2) ∧ (r1 = 0 → ex_Ev (d + 1) mX7_makePlan 2 [some (.inr 23), some (.inl (x1 + 1))] [] u2 P)))) : ex_Ev (d + 1) mX7_makePlan 2 [some (.inr 23), some (.inl x1)] [] w P := by
  refine ev_aload_n dX7_makePlan_2 rfl ?_
  refine ev_iload_n dX7_makePlan_3 rfl ?_
  refine ev_callV 23 [.inl x1] dX7_makePlan_4 co_X7_findPlan ml_RX7_177 cv_X7_findPlan (by decide) rfl rfl rfl rfl (by decide) (Nat.le_of_ble_eq_true rfl) rfl H (fun r1 u2 H => ?_)
  refine ev_if_ne 16 dX7_makePlan_7 (by decide) (fun h => ?_) (fun h => ?_)
  · have H := H.1 h
    refine ev_iload_n dX7_makePlan_16 rfl ?_
    exact ev_iret dX7_makePlan_17 rfl H
  · have H := H.2 h
    refine ev_iinc (x1 + 1) dX7_makePlan_10 rfl rfl (by decide) ?_
    refine ev_goto 2 dX7_makePlan_13 (by decide) ?_
    exact H

set_option maxHeartbeats 4000000 in
set_option maxRecDepth 100000 in
theorem sg_X7_turn_0 {d : Nat} {w : ex_WW} {P : Int32 → ex_WW → Prop} {p0 : Int32} (H : ex_Ev d mX7_in 0 (ex_in [.inl p0, .inl 0, .inl ((w 23 15) - 1)] 3) [] w (fun r1 u2 => ((¬ r1 = 0 → ex_Ev d mX7_makePlan 0 (ex_in [.inr 23] 2) [] u2 (fun r3 u4 => (vp_in p0 8 ∧ P (u4 39 p0.toNatClampNeg) u4))) ∧ (r1 = 0 → P (-1) u2)))) : ex_Ev (d + 1) mX7_turn 0 [some (.inr 23), some (.inl p0), none] [] w P := by
  refine ev_iload_n dX7_turn_0 rfl ?_
  refine ev_iconst 0 dX7_turn_1 (by decide) ?_
  refine ev_aload_n dX7_turn_2 rfl ?_
  refine ev_getI dX7_turn_3 (fo_RX7_171 _ rfl) (by decide) rfl rfl ?_
  refine ev_iconst 1 dX7_turn_6 (by decide) ?_
  refine ev_isub dX7_turn_7 ?_
  refine ev_callS [.inl p0, .inl 0, .inl ((w 23 15) - 1)] dX7_turn_8 co_X7_in ml_RX7_72 cs_X7_in rfl rfl (by decide) (Nat.le_of_ble_eq_true rfl) rfl H (fun r1 u2 H => ?_)
  refine ev_if_ne 16 dX7_turn_11 (by decide) (fun h => ?_) (fun h => ?_)
  · have H := H.1 h
    refine ev_aload_n dX7_turn_16 rfl ?_
    refine ev_callV 23 [] dX7_turn_17 co_X7_makePlan ml_RX7_180 cv_X7_makePlan (by decide) rfl rfl rfl rfl (by decide) (Nat.le_of_ble_eq_true rfl) rfl H (fun r3 u4 H => ?_)
    refine ev_istore_n dX7_turn_20 (by decide) ?_
    refine ev_aload_n dX7_turn_21 rfl ?_
    refine ev_getR dX7_turn_22 (fo_RX7_60 _ rfl) (by decide) rfl rfl ?_
    refine ev_iload_n dX7_turn_25 rfl ?_
    refine ev_iald dX7_turn_26 (by decide) rfl H.1 ?_
    have H := H.2
    exact ev_iret dX7_turn_27 rfl H
  · have H := H.2 h
    refine ev_iconst (-1) dX7_turn_14 (by decide) ?_
    exact ev_iret dX7_turn_15 rfl H

set_option maxHeartbeats 4000000 in
set_option maxRecDepth 100000 in
theorem sg_X7_turns_0 {d : Nat} {w : ex_WW} {P : Int32 → ex_WW → Prop} (H : ((¬ (w 23 15) = 0 → ex_Ev d mX7_makePlan 0 (ex_in [.inr 23] 2) [] w (fun r1 u2 => P (r1 + 1) u2)) ∧ ((w 23 15) = 0 → P 0 w))) : ex_Ev (d + 1) mX7_turns 0 [some (.inr 23)] [] w P := by
  refine ev_aload_n dX7_turns_0 rfl ?_
  refine ev_getI dX7_turns_1 (fo_RX7_171 _ rfl) (by decide) rfl rfl ?_
  refine ev_if_ne 11 dX7_turns_4 (by decide) (fun h => ?_) (fun h => ?_)
  · have H := H.1 h
    refine ev_aload_n dX7_turns_11 rfl ?_
    refine ev_callV 23 [] dX7_turns_12 co_X7_makePlan ml_RX7_180 cv_X7_makePlan (by decide) rfl rfl rfl rfl (by decide) (Nat.le_of_ble_eq_true rfl) rfl H (fun r1 u2 H => ?_)
    refine ev_iconst 1 dX7_turns_15 (by decide) ?_
    refine ev_iadd dX7_turns_16 ?_
    exact ev_iret dX7_turns_17 rfl H
  · have H := H.2 h
    refine ev_iconst 0 dX7_turns_7 (by decide) ?_
    refine ev_goto 17 dX7_turns_8 (by decide) ?_
    exact ev_iret dX7_turns_17 rfl H

set_option maxHeartbeats 4000000 in
set_option maxRecDepth 100000 in
theorem sg_X7_feud_0 {d : Nat} {w : ex_WW} {P : Int32 → ex_WW → Prop} {p0 : Int32} {p1 : Int32} {p2 : Int32} (H : ex_Ev d mX7_areTwo 0 (ex_in [.inr 23, .inl p0, .inl p1] 3) [] w (fun r1 u2 => ((¬ r1 = 0 → (vp_in ((14 * p0) + p1) 196 ∧ (vp_in ((14 * p0) + p1) 196 ∧ (p2 = 0 ∨ p2 = 1) ∧ (vp_in ((14 * p1) + p0) 196 ∧ (p2 = 0 ∨ p2 = 1) ∧ ((¬ (u2 36 ((14 * p0) + p1).toNatClampNeg) = p2 → P 1 (ex_up (ex_up u2 36 ((14 * p0) + p1).toNatClampNeg p2) 36 ((14 * p1) + p0).toNatClampNeg p2)) ∧ ((u2 36 ((14 * p0) + p1).toNatClampNeg) = p2 → P 0 (ex_up (ex_up u2 36 ((14 * p0) + p1).toNatClampNeg p2) 36 ((14 * p1) + p0).toNatClampNeg p2))))))) ∧ (r1 = 0 → P (-1) u2)))) : ex_Ev (d + 1) mX7_feud 0 [some (.inr 23), some (.inl p0), some (.inl p1), some (.inl p2), none] [] w P := by
  refine ev_aload_n dX7_feud_0 rfl ?_
  refine ev_iload_n dX7_feud_1 rfl ?_
  refine ev_iload_n dX7_feud_2 rfl ?_
  refine ev_callV 23 [.inl p0, .inl p1] dX7_feud_3 co_X7_areTwo ml_RX7_131 cv_X7_areTwo (by decide) rfl rfl rfl rfl (by decide) (Nat.le_of_ble_eq_true rfl) rfl H (fun r1 u2 H => ?_)
  refine ev_if_ne 11 dX7_feud_6 (by decide) (fun h => ?_) (fun h => ?_)
  · have H := H.1 h
    refine ev_aload_n dX7_feud_11 rfl ?_
    refine ev_getR dX7_feud_12 (fo_RX7_50 _ rfl) (by decide) rfl rfl ?_
    refine ev_bipush 14 dX7_feud_15 (by decide) ?_
    refine ev_iload_n dX7_feud_17 rfl ?_
    refine ev_imul dX7_feud_18 ?_
    refine ev_iload_n dX7_feud_19 rfl ?_
    refine ev_iadd dX7_feud_20 ?_
    refine ev_zald dX7_feud_21 (by decide) rfl H.1 ?_
    have H := H.2
    refine ev_istore dX7_feud_22 (by decide) ?_
    refine ev_aload_n dX7_feud_24 rfl ?_
    refine ev_getR dX7_feud_25 (fo_RX7_50 _ rfl) (by decide) rfl rfl ?_
    refine ev_bipush 14 dX7_feud_28 (by decide) ?_
    refine ev_iload_n dX7_feud_30 rfl ?_
    refine ev_imul dX7_feud_31 ?_
    refine ev_iload_n dX7_feud_32 rfl ?_
    refine ev_iadd dX7_feud_33 ?_
    refine ev_iload_n dX7_feud_34 rfl ?_
    refine ev_zast dX7_feud_35 (by decide) rfl H.1 H.2.1 ?_
    have H := H.2.2
    refine ev_aload_n dX7_feud_36 rfl ?_
    refine ev_getR dX7_feud_37 (fo_RX7_50 _ rfl) (by decide) rfl rfl ?_
    refine ev_bipush 14 dX7_feud_40 (by decide) ?_
    refine ev_iload_n dX7_feud_42 rfl ?_
    refine ev_imul dX7_feud_43 ?_
    refine ev_iload_n dX7_feud_44 rfl ?_
    refine ev_iadd dX7_feud_45 ?_
    refine ev_iload_n dX7_feud_46 rfl ?_
    refine ev_zast dX7_feud_47 (by decide) rfl H.1 H.2.1 ?_
    have H := H.2.2
    refine ev_iload dX7_feud_48 rfl ?_
    refine ev_iload_n dX7_feud_50 rfl ?_
    refine ev_icmp_ne 58 dX7_feud_51 (by decide) (fun h => ?_) (fun h => ?_)
    · have H := H.1 h
      refine ev_iconst 1 dX7_feud_58 (by decide) ?_
      exact ev_iret dX7_feud_59 rfl H
    · have H := H.2 h
      refine ev_iconst 0 dX7_feud_54 (by decide) ?_
      refine ev_goto 59 dX7_feud_55 (by decide) ?_
      exact ev_iret dX7_feud_59 rfl H
  · have H := H.2 h
    refine ev_iconst (-1) dX7_feud_9 (by decide) ?_
    exact ev_iret dX7_feud_10 rfl H

set_option maxHeartbeats 4000000 in
set_option maxRecDepth 100000 in
theorem sg_X7_chooseTents_0 {d : Nat} {w : ex_WW} {P : Int32 → ex_WW → Prop} (H : ex_Ev d mX7_chooseTents 2 [some (.inr 23), some (.inl 0), none, none] [] w P) : ex_Ev d mX7_chooseTents 0 [some (.inr 23), none, none, none] [] w P := by
  refine ev_iconst 0 dX7_chooseTents_0 (by decide) ?_
  refine ev_istore_n dX7_chooseTents_1 (by decide) ?_
  exact H

set_option maxHeartbeats 4000000 in
set_option maxRecDepth 100000 in
theorem sg_X7_chooseTents_2 {d : Nat} {w : ex_WW} {P : Int32 → ex_WW → Prop} {x1 : Int32} (H : (((w 23 0) ≤ x1 → ((7 ≤ (w 23 0) → ex_Ev d mX7_chooseTents 47 [some (.inr 23), some (.inl 0), none, none] [] (ex_up w 23 29 7) P) ∧ (¬ 7 ≤ (w 23 0) → ex_Ev d mX7_chooseTents 47 [some (.inr 23), some (.inl 0), none, none] [] (ex_up w 23 29 (w 23 0)) P))) ∧ (¬ (w 23 0) ≤ x1 → (vp_in x1 14 ∧ ex_Ev d mX7_chooseTents 2 [some (.inr 23), some (.inl (x1 + 1)), none, none] [] (ex_up w 40 x1.toNatClampNeg 0) P)))) : ex_Ev d mX7_chooseTents 2 [some (.inr 23), some (.inl x1), none, none] [] w P := by
  refine ev_iload_n dX7_chooseTents_2 rfl ?_
  refine ev_aload_n dX7_chooseTents_3 rfl ?_
  refine ev_getI dX7_chooseTents_4 (fo_RX7_69 _ rfl) (by decide) rfl rfl ?_
  refine ev_icmp_ge 23 dX7_chooseTents_7 (by decide) (fun h => ?_) (fun h => ?_)
  · have H := H.1 h
    refine ev_aload_n dX7_chooseTents_23 rfl ?_
    refine ev_aload_n dX7_chooseTents_24 rfl ?_
    refine ev_getI dX7_chooseTents_25 (fo_RX7_69 _ rfl) (by decide) rfl rfl ?_
    refine ev_bipush 7 dX7_chooseTents_28 (by decide) ?_
    refine ev_icmp_ge 40 dX7_chooseTents_30 (by decide) (fun h => ?_) (fun h => ?_)
    · have H := H.1 h
      refine ev_bipush 7 dX7_chooseTents_40 (by decide) ?_
      refine ev_put dX7_chooseTents_42 (fo_RX7_183 _ rfl) fp_7_29 (by decide) rfl rfl (vp_nar_int _) rfl ?_
      refine ev_iconst 0 dX7_chooseTents_45 (by decide) ?_
      refine ev_istore_n dX7_chooseTents_46 (by decide) ?_
      exact H
    · have H := H.2 h
      refine ev_aload_n dX7_chooseTents_33 rfl ?_
      refine ev_getI dX7_chooseTents_34 (fo_RX7_69 _ rfl) (by decide) rfl rfl ?_
      refine ev_goto 42 dX7_chooseTents_37 (by decide) ?_
      refine ev_put dX7_chooseTents_42 (fo_RX7_183 _ rfl) fp_7_29 (by decide) rfl rfl (vp_nar_int _) rfl ?_
      refine ev_iconst 0 dX7_chooseTents_45 (by decide) ?_
      refine ev_istore_n dX7_chooseTents_46 (by decide) ?_
      exact H
  · have H := H.2 h
    refine ev_aload_n dX7_chooseTents_10 rfl ?_
    refine ev_getR dX7_chooseTents_11 (fo_RX7_63 _ rfl) (by decide) rfl rfl ?_
    refine ev_iload_n dX7_chooseTents_14 rfl ?_
    refine ev_iconst 0 dX7_chooseTents_15 (by decide) ?_
    refine ev_zast dX7_chooseTents_16 (by decide) rfl H.1 (by decide) ?_
    have H := H.2
    refine ev_iinc (x1 + 1) dX7_chooseTents_17 rfl rfl (by decide) ?_
    refine ev_goto 2 dX7_chooseTents_20 (by decide) ?_
    exact H

set_option maxHeartbeats 4000000 in
set_option maxRecDepth 100000 in
theorem sg_X7_chooseTents_47 {d : Nat} {w : ex_WW} {P : Int32 → ex_WW → Prop} {x1 : Int32} (H : (((w 23 29) ≤ x1 → P 0 w) ∧ (¬ (w 23 29) ≤ x1 → ex_Ev d mX7_chooseTents 59 [some (.inr 23), some (.inl x1), some (.inl (-1)), some (.inl 0)] [] w P))) : ex_Ev d mX7_chooseTents 47 [some (.inr 23), some (.inl x1), none, none] [] w P := by
  refine ev_iload_n dX7_chooseTents_47 rfl ?_
  refine ev_aload_n dX7_chooseTents_48 rfl ?_
  refine ev_getI dX7_chooseTents_49 (fo_RX7_183 _ rfl) (by decide) rfl rfl ?_
  refine ev_icmp_ge 140 dX7_chooseTents_52 (by decide) (fun h => ?_) (fun h => ?_)
  · have H := H.1 h
    exact ev_vret dX7_chooseTents_140 rfl H
  · have H := H.2 h
    refine ev_iconst (-1) dX7_chooseTents_55 (by decide) ?_
    refine ev_istore_n dX7_chooseTents_56 (by decide) ?_
    refine ev_iconst 0 dX7_chooseTents_57 (by decide) ?_
    refine ev_istore_n dX7_chooseTents_58 (by decide) ?_
    exact H

set_option maxHeartbeats 4000000 in
set_option maxRecDepth 100000 in
theorem sg_X7_chooseTents_59 {d : Nat} {w : ex_WW} {P : Int32 → ex_WW → Prop} {x1 : Int32} {x2 : Int32} {x3 : Int32} (H : (((w 23 0) ≤ x3 → (vp_in x2 14 ∧ ((¬ x1 = 0 → (vp_in 0 8 ∧ (vp_in 0 8 ∧ ex_Ev d mX7_chooseTents 47 [some (.inr 23), some (.inl (x1 + 1)), none, none] [] (ex_up (ex_up w 40 x2.toNatClampNeg 1) 41 (0 : Int32).toNatClampNeg (w 41 (0 : Int32).toNatClampNeg)) P))) ∧ (x1 = 0 → (vp_in 0 8 ∧ ex_Ev d mX7_chooseTents 47 [some (.inr 23), some (.inl (x1 + 1)), none, none] [] (ex_up (ex_up w 40 x2.toNatClampNeg 1) 41 (0 : Int32).toNatClampNeg x2) P))))) ∧ (¬ (w 23 0) ≤ x3 → (vp_in x3 14 ∧ ((¬ (w 40 x3.toNatClampNeg) = 0 → ex_Ev d mX7_chooseTents 101 [some (.inr 23), some (.inl x1), some (.inl x2), some (.inl x3)] [] w P) ∧ ((w 40 x3.toNatClampNeg) = 0 → ((x2 < 0 → ex_Ev d mX7_chooseTents 101 [some (.inr 23), some (.inl x1), some (.inl x3), some (.inl x3)] [] w P) ∧ (¬ x2 < 0 → (vp_in x3 14 ∧ (vp_in x2 14 ∧ (((w 24 x3.toNatClampNeg) ≤ (w 24 x2.toNatClampNeg) → ex_Ev d mX7_chooseTents 101 [some (.inr 23), some (.inl x1), some (.inl x2), some (.inl x3)] [] w P) ∧ (¬ (w 24 x3.toNatClampNeg) ≤ (w 24 x2.toNatClampNeg) → ex_Ev d mX7_chooseTents 101 [some (.inr 23), some (.inl x1), some (.inl x3), some (.inl x3)] [] w P)))))))))))) : ex_Ev d mX7_chooseTents 59 [some (.inr 23), some (.inl x1), some (.inl x2), some (.inl x3)] [] w P := by
  refine ev_iload_n dX7_chooseTents_59 rfl ?_
  refine ev_aload_n dX7_chooseTents_60 rfl ?_
  refine ev_getI dX7_chooseTents_61 (fo_RX7_69 _ rfl) (by decide) rfl rfl ?_
  refine ev_icmp_ge 107 dX7_chooseTents_64 (by decide) (fun h => ?_) (fun h => ?_)
  · have H := H.1 h
    refine ev_aload_n dX7_chooseTents_107 rfl ?_
    refine ev_getR dX7_chooseTents_108 (fo_RX7_63 _ rfl) (by decide) rfl rfl ?_
    refine ev_iload_n dX7_chooseTents_111 rfl ?_
    refine ev_iconst 1 dX7_chooseTents_112 (by decide) ?_
    refine ev_zast dX7_chooseTents_113 (by decide) rfl H.1 (by decide) ?_
    have H := H.2
    refine ev_aload_n dX7_chooseTents_114 rfl ?_
    refine ev_getR dX7_chooseTents_115 (fo_RX7_66 _ rfl) (by decide) rfl rfl ?_
    refine ev_iconst 0 dX7_chooseTents_118 (by decide) ?_
    refine ev_iload_n dX7_chooseTents_119 rfl ?_
    refine ev_if_ne 127 dX7_chooseTents_120 (by decide) (fun h => ?_) (fun h => ?_)
    · have H := H.1 h
      refine ev_aload_n dX7_chooseTents_127 rfl ?_
      refine ev_getR dX7_chooseTents_128 (fo_RX7_66 _ rfl) (by decide) rfl rfl ?_
      refine ev_iconst 0 dX7_chooseTents_131 (by decide) ?_
      refine ev_iald dX7_chooseTents_132 (by decide) rfl H.1 ?_
      have H := H.2
      refine ev_iast dX7_chooseTents_133 (by decide) rfl H.1 ?_
      have H := H.2
      refine ev_iinc (x1 + 1) dX7_chooseTents_134 rfl rfl (by decide) ?_
      refine ev_goto 47 dX7_chooseTents_137 (by decide) ?_
      refine ev_drop 2 ?_
      refine ev_drop 3 ?_
      exact H
    · have H := H.2 h
      refine ev_iload_n dX7_chooseTents_123 rfl ?_
      refine ev_goto 133 dX7_chooseTents_124 (by decide) ?_
      refine ev_iast dX7_chooseTents_133 (by decide) rfl H.1 ?_
      have H := H.2
      refine ev_iinc (x1 + 1) dX7_chooseTents_134 rfl rfl (by decide) ?_
      refine ev_goto 47 dX7_chooseTents_137 (by decide) ?_
      refine ev_drop 2 ?_
      refine ev_drop 3 ?_
      exact H
  · have H := H.2 h
    refine ev_aload_n dX7_chooseTents_67 rfl ?_
    refine ev_getR dX7_chooseTents_68 (fo_RX7_63 _ rfl) (by decide) rfl rfl ?_
    refine ev_iload_n dX7_chooseTents_71 rfl ?_
    refine ev_zald dX7_chooseTents_72 (by decide) rfl H.1 ?_
    have H := H.2
    refine ev_if_ne 99 dX7_chooseTents_73 (by decide) (fun h => ?_) (fun h => ?_)
    · have H := H.1 h
      refine ev_iload_n dX7_chooseTents_99 rfl ?_
      refine ev_istore_n dX7_chooseTents_100 (by decide) ?_
      exact H
    · have H := H.2 h
      refine ev_iload_n dX7_chooseTents_76 rfl ?_
      refine ev_if_lt 95 dX7_chooseTents_77 (by decide) (fun h => ?_) (fun h => ?_)
      · have H := H.1 h
        refine ev_iload_n dX7_chooseTents_95 rfl ?_
        refine ev_goto 100 dX7_chooseTents_96 (by decide) ?_
        refine ev_istore_n dX7_chooseTents_100 (by decide) ?_
        exact H
      · have H := H.2 h
        refine ev_aload_n dX7_chooseTents_80 rfl ?_
        refine ev_getR dX7_chooseTents_81 (fo_RX7_7 _ rfl) (by decide) rfl rfl ?_
        refine ev_iload_n dX7_chooseTents_84 rfl ?_
        refine ev_iald dX7_chooseTents_85 (by decide) rfl H.1 ?_
        have H := H.2
        refine ev_aload_n dX7_chooseTents_86 rfl ?_
        refine ev_getR dX7_chooseTents_87 (fo_RX7_7 _ rfl) (by decide) rfl rfl ?_
        refine ev_iload_n dX7_chooseTents_90 rfl ?_
        refine ev_iald dX7_chooseTents_91 (by decide) rfl H.1 ?_
        have H := H.2
        refine ev_icmp_le 99 dX7_chooseTents_92 (by decide) (fun h => ?_) (fun h => ?_)
        · have H := H.1 h
          refine ev_iload_n dX7_chooseTents_99 rfl ?_
          refine ev_istore_n dX7_chooseTents_100 (by decide) ?_
          exact H
        · have H := H.2 h
          refine ev_iload_n dX7_chooseTents_95 rfl ?_
          refine ev_goto 100 dX7_chooseTents_96 (by decide) ?_
          refine ev_istore_n dX7_chooseTents_100 (by decide) ?_
          exact H

set_option maxHeartbeats 4000000 in
set_option maxRecDepth 100000 in
theorem sg_X7_chooseTents_101 {d : Nat} {w : ex_WW} {P : Int32 → ex_WW → Prop} {x1 : Int32} {x2 : Int32} {x3 : Int32} (H : ex_Ev d mX7_chooseTents 59 [some (.inr 23), some (.inl x1), some (.inl x2), some (.inl (x3 + 1))] [] w P) : ex_Ev d mX7_chooseTents 101 [some (.inr 23), some (.inl x1), some (.inl x2), some (.inl x3)] [] w P := by
  refine ev_iinc (x3 + 1) dX7_chooseTents_101 rfl rfl (by decide) ?_
  refine ev_goto 59 dX7_chooseTents_104 (by decide) ?_
  exact H

set_option maxHeartbeats 4000000 in
set_option maxRecDepth 100000 in
theorem sg_X7_mayStand_0 {d : Nat} {w : ex_WW} {P : Int32 → ex_WW → Prop} {p0 : Int32} (H : (vp_in p0 8 ∧ (vp_in (w 41 p0.toNatClampNeg) 14 ∧ (((w 40 (w 41 p0.toNatClampNeg).toNatClampNeg) = 0 → P 0 w) ∧ (¬ (w 40 (w 41 p0.toNatClampNeg).toNatClampNeg) = 0 → (vp_in (p0 - 1) 8 ∧ (vp_in ((14 * (w 41 p0.toNatClampNeg)) + (w 41 (p0 - 1).toNatClampNeg)) 196 ∧ (((w 36 ((14 * (w 41 p0.toNatClampNeg)) + (w 41 (p0 - 1).toNatClampNeg)).toNatClampNeg) = 0 → ex_Ev d mX7_mayStand 41 [some (.inr 23), some (.inl p0), some (.inl (w 41 p0.toNatClampNeg)), some (.inl 0)] [] w P) ∧ (¬ (w 36 ((14 * (w 41 p0.toNatClampNeg)) + (w 41 (p0 - 1).toNatClampNeg)).toNatClampNeg) = 0 → P 0 w))))))))) : ex_Ev d mX7_mayStand 0 [some (.inr 23), some (.inl p0), none, none] [] w P := by
  refine ev_aload_n dX7_mayStand_0 rfl ?_
  refine ev_getR dX7_mayStand_1 (fo_RX7_66 _ rfl) (by decide) rfl rfl ?_
  refine ev_iload_n dX7_mayStand_4 rfl ?_
  refine ev_iald dX7_mayStand_5 (by decide) rfl H.1 ?_
  have H := H.2
  refine ev_istore_n dX7_mayStand_6 (by decide) ?_
  refine ev_aload_n dX7_mayStand_7 rfl ?_
  refine ev_getR dX7_mayStand_8 (fo_RX7_63 _ rfl) (by decide) rfl rfl ?_
  refine ev_iload_n dX7_mayStand_11 rfl ?_
  refine ev_zald dX7_mayStand_12 (by decide) rfl H.1 ?_
  have H := H.2
  refine ev_if_eq 37 dX7_mayStand_13 (by decide) (fun h => ?_) (fun h => ?_)
  · have H := H.1 h
    refine ev_iconst 0 dX7_mayStand_37 (by decide) ?_
    exact ev_zret dX7_mayStand_38 rfl (by decide) H
  · have H := H.2 h
    refine ev_aload_n dX7_mayStand_16 rfl ?_
    refine ev_getR dX7_mayStand_17 (fo_RX7_50 _ rfl) (by decide) rfl rfl ?_
    refine ev_bipush 14 dX7_mayStand_20 (by decide) ?_
    refine ev_iload_n dX7_mayStand_22 rfl ?_
    refine ev_imul dX7_mayStand_23 ?_
    refine ev_aload_n dX7_mayStand_24 rfl ?_
    refine ev_getR dX7_mayStand_25 (fo_RX7_66 _ rfl) (by decide) rfl rfl ?_
    refine ev_iload_n dX7_mayStand_28 rfl ?_
    refine ev_iconst 1 dX7_mayStand_29 (by decide) ?_
    refine ev_isub dX7_mayStand_30 ?_
    refine ev_iald dX7_mayStand_31 (by decide) rfl H.1 ?_
    have H := H.2
    refine ev_iadd dX7_mayStand_32 ?_
    refine ev_zald dX7_mayStand_33 (by decide) rfl H.1 ?_
    have H := H.2
    refine ev_if_eq 39 dX7_mayStand_34 (by decide) (fun h => ?_) (fun h => ?_)
    · have H := H.1 h
      refine ev_iconst 0 dX7_mayStand_39 (by decide) ?_
      refine ev_istore_n dX7_mayStand_40 (by decide) ?_
      exact H
    · have H := H.2 h
      refine ev_iconst 0 dX7_mayStand_37 (by decide) ?_
      exact ev_zret dX7_mayStand_38 rfl (by decide) H

set_option maxHeartbeats 4000000 in
set_option maxRecDepth 100000 in
theorem sg_X7_mayStand_41 {d : Nat} {w : ex_WW} {P : Int32 → ex_WW → Prop} {x1 : Int32} {x2 : Int32} {x3 : Int32} (H : ((x1 ≤ x3 → ((x1 < ((w 23 29) - 1) → P 1 w) ∧ (¬ x1 < ((w 23 29) - 1) → (vp_in 0 8 ∧ (vp_in ((14 * x2) + (w 41 (0 : Int32).toNatClampNeg)) 196 ∧ ((¬ (w 36 ((14 * x2) + (w 41 (0 : Int32).toNatClampNeg)).toNatClampNeg) = 0 → P 0 w) ∧ ((w 36 ((14 * x2) + (w 41 (0 : Int32).toNatClampNeg)).toNatClampNeg) = 0 → P 1 w))))))) ∧ (¬ x1 ≤ x3 → (vp_in x3 8 ∧ ((¬ (w 41 x3.toNatClampNeg) = x2 → ex_Ev d mX7_mayStand 41 [some (.inr 23), some (.inl x1), some (.inl x2), some (.inl (x3 + 1))] [] w P) ∧ ((w 41 x3.toNatClampNeg) = x2 → P 0 w)))))) : ex_Ev d mX7_mayStand 41 [some (.inr 23), some (.inl x1), some (.inl x2), some (.inl x3)] [] w P := by
  refine ev_iload_n dX7_mayStand_41 rfl ?_
  refine ev_iload_n dX7_mayStand_42 rfl ?_
  refine ev_icmp_ge 64 dX7_mayStand_43 (by decide) (fun h => ?_) (fun h => ?_)
  · have H := H.1 h
    refine ev_iload_n dX7_mayStand_64 rfl ?_
    refine ev_aload_n dX7_mayStand_65 rfl ?_
    refine ev_getI dX7_mayStand_66 (fo_RX7_183 _ rfl) (by decide) rfl rfl ?_
    refine ev_iconst 1 dX7_mayStand_69 (by decide) ?_
    refine ev_isub dX7_mayStand_70 ?_
    refine ev_icmp_lt 93 dX7_mayStand_71 (by decide) (fun h => ?_) (fun h => ?_)
    · have H := H.1 h
      refine ev_iconst 1 dX7_mayStand_93 (by decide) ?_
      refine ev_goto 98 dX7_mayStand_94 (by decide) ?_
      exact ev_zret dX7_mayStand_98 rfl (by decide) H
    · have H := H.2 h
      refine ev_aload_n dX7_mayStand_74 rfl ?_
      refine ev_getR dX7_mayStand_75 (fo_RX7_50 _ rfl) (by decide) rfl rfl ?_
      refine ev_bipush 14 dX7_mayStand_78 (by decide) ?_
      refine ev_iload_n dX7_mayStand_80 rfl ?_
      refine ev_imul dX7_mayStand_81 ?_
      refine ev_aload_n dX7_mayStand_82 rfl ?_
      refine ev_getR dX7_mayStand_83 (fo_RX7_66 _ rfl) (by decide) rfl rfl ?_
      refine ev_iconst 0 dX7_mayStand_86 (by decide) ?_
      refine ev_iald dX7_mayStand_87 (by decide) rfl H.1 ?_
      have H := H.2
      refine ev_iadd dX7_mayStand_88 ?_
      refine ev_zald dX7_mayStand_89 (by decide) rfl H.1 ?_
      have H := H.2
      refine ev_if_ne 97 dX7_mayStand_90 (by decide) (fun h => ?_) (fun h => ?_)
      · have H := H.1 h
        refine ev_iconst 0 dX7_mayStand_97 (by decide) ?_
        exact ev_zret dX7_mayStand_98 rfl (by decide) H
      · have H := H.2 h
        refine ev_iconst 1 dX7_mayStand_93 (by decide) ?_
        refine ev_goto 98 dX7_mayStand_94 (by decide) ?_
        exact ev_zret dX7_mayStand_98 rfl (by decide) H
  · have H := H.2 h
    refine ev_aload_n dX7_mayStand_46 rfl ?_
    refine ev_getR dX7_mayStand_47 (fo_RX7_66 _ rfl) (by decide) rfl rfl ?_
    refine ev_iload_n dX7_mayStand_50 rfl ?_
    refine ev_iald dX7_mayStand_51 (by decide) rfl H.1 ?_
    have H := H.2
    refine ev_iload_n dX7_mayStand_52 rfl ?_
    refine ev_icmp_ne 58 dX7_mayStand_53 (by decide) (fun h => ?_) (fun h => ?_)
    · have H := H.1 h
      refine ev_iinc (x3 + 1) dX7_mayStand_58 rfl rfl (by decide) ?_
      refine ev_goto 41 dX7_mayStand_61 (by decide) ?_
      exact H
    · have H := H.2 h
      refine ev_iconst 0 dX7_mayStand_56 (by decide) ?_
      exact ev_zret dX7_mayStand_57 rfl (by decide) H

set_option maxHeartbeats 4000000 in
set_option maxRecDepth 100000 in
theorem sg_X7_findCamp_0 {d : Nat} {w : ex_WW} {P : Int32 → ex_WW → Prop} (H : ex_Ev d mX7_chooseTents 0 (ex_in [.inr 23] 4) [] w (fun _ u2 => (vp_in 1 8 ∧ ex_Ev (d + 1) mX7_findCamp 13 [some (.inr 23), some (.inl 1)] [] (ex_up u2 41 (1 : Int32).toNatClampNeg 0) P))) : ex_Ev (d + 1) mX7_findCamp 0 [some (.inr 23), none] [] w P := by
  refine ev_aload_n dX7_findCamp_0 rfl ?_
  refine ev_callVv 23 [] dX7_findCamp_1 co_X7_chooseTents ml_RX7_186 cv_X7_chooseTents (by decide) rfl rfl rfl rfl (by decide) (Nat.le_of_ble_eq_true rfl) rfl H (fun u2 H => ?_)
  refine ev_iconst 1 dX7_findCamp_4 (by decide) ?_
  refine ev_istore_n dX7_findCamp_5 (by decide) ?_
  refine ev_aload_n dX7_findCamp_6 rfl ?_
  refine ev_getR dX7_findCamp_7 (fo_RX7_66 _ rfl) (by decide) rfl rfl ?_
  refine ev_iconst 1 dX7_findCamp_10 (by decide) ?_
  refine ev_iconst 0 dX7_findCamp_11 (by decide) ?_
  refine ev_iast dX7_findCamp_12 (by decide) rfl H.1 ?_
  have H := H.2
  exact H

set_option maxHeartbeats 4000000 in
set_option maxRecDepth 100000 in
theorem sg_X7_findCamp_13 {d : Nat} {w : ex_WW} {P : Int32 → ex_WW → Prop} {x1 : Int32} (H : ((x1 ≤ 0 → ex_Ev (d + 1) mX7_findCamp 109 [some (.inr 23), some (.inl x1)] [] w P) ∧ (¬ x1 ≤ 0 → (((w 23 29) ≤ x1 → ex_Ev (d + 1) mX7_findCamp 109 [some (.inr 23), some (.inl x1)] [] w P) ∧ (¬ (w 23 29) ≤ x1 → ex_Ev (d + 1) mX7_findCamp 25 [some (.inr 23), some (.inl x1)] [] w P))))) : ex_Ev (d + 1) mX7_findCamp 13 [some (.inr 23), some (.inl x1)] [] w P := by
  refine ev_iload_n dX7_findCamp_13 rfl ?_
  refine ev_if_le 109 dX7_findCamp_14 (by decide) (fun h => ?_) (fun h => ?_)
  · have H := H.1 h
    exact H
  · have H := H.2 h
    refine ev_iload_n dX7_findCamp_17 rfl ?_
    refine ev_aload_n dX7_findCamp_18 rfl ?_
    refine ev_getI dX7_findCamp_19 (fo_RX7_183 _ rfl) (by decide) rfl rfl ?_
    refine ev_icmp_ge 109 dX7_findCamp_22 (by decide) (fun h => ?_) (fun h => ?_)
    · have H := H.1 h
      exact H
    · have H := H.2 h
      exact H

set_option maxHeartbeats 4000000 in
set_option maxRecDepth 100000 in
theorem sg_X7_findCamp_25 {d : Nat} {w : ex_WW} {P : Int32 → ex_WW → Prop} {x1 : Int32} (H : (vp_in x1 8 ∧ (((w 23 0) ≤ (w 41 x1.toNatClampNeg) → ex_Ev (d + 1) mX7_findCamp 59 [some (.inr 23), some (.inl x1)] [] w P) ∧ (¬ (w 23 0) ≤ (w 41 x1.toNatClampNeg) → ex_Ev d mX7_mayStand 0 (ex_in [.inr 23, .inl x1] 4) [] w (fun r1 u2 => ((¬ r1 = 0 → ex_Ev (d + 1) mX7_findCamp 59 [some (.inr 23), some (.inl x1)] [] u2 P) ∧ (r1 = 0 → (vp_in x1 8 ∧ (vp_in x1 8 ∧ ex_Ev (d + 1) mX7_findCamp 25 [some (.inr 23), some (.inl x1)] [] (ex_up u2 41 x1.toNatClampNeg ((u2 41 x1.toNatClampNeg) + 1)) P))))))))) : ex_Ev (d + 1) mX7_findCamp 25 [some (.inr 23), some (.inl x1)] [] w P := by
  refine ev_aload_n dX7_findCamp_25 rfl ?_
  refine ev_getR dX7_findCamp_26 (fo_RX7_66 _ rfl) (by decide) rfl rfl ?_
  refine ev_iload_n dX7_findCamp_29 rfl ?_
  refine ev_iald dX7_findCamp_30 (by decide) rfl H.1 ?_
  have H := H.2
  refine ev_aload_n dX7_findCamp_31 rfl ?_
  refine ev_getI dX7_findCamp_32 (fo_RX7_69 _ rfl) (by decide) rfl rfl ?_
  refine ev_icmp_ge 59 dX7_findCamp_35 (by decide) (fun h => ?_) (fun h => ?_)
  · have H := H.1 h
    exact H
  · have H := H.2 h
    refine ev_aload_n dX7_findCamp_38 rfl ?_
    refine ev_iload_n dX7_findCamp_39 rfl ?_
    refine ev_callV 23 [.inl x1] dX7_findCamp_40 co_X7_mayStand ml_RX7_189 cv_X7_mayStand (by decide) rfl rfl rfl rfl (by decide) (Nat.le_of_ble_eq_true rfl) rfl H (fun r1 u2 H => ?_)
    refine ev_if_ne 59 dX7_findCamp_43 (by decide) (fun h => ?_) (fun h => ?_)
    · have H := H.1 h
      exact H
    · have H := H.2 h
      refine ev_aload_n dX7_findCamp_46 rfl ?_
      refine ev_getR dX7_findCamp_47 (fo_RX7_66 _ rfl) (by decide) rfl rfl ?_
      refine ev_iload_n dX7_findCamp_50 rfl ?_
      refine ev_dup2 dX7_findCamp_51 ?_
      refine ev_iald dX7_findCamp_52 (by decide) rfl H.1 ?_
      have H := H.2
      refine ev_iconst 1 dX7_findCamp_53 (by decide) ?_
      refine ev_iadd dX7_findCamp_54 ?_
      refine ev_iast dX7_findCamp_55 (by decide) rfl H.1 ?_
      have H := H.2
      refine ev_goto 25 dX7_findCamp_56 (by decide) ?_
      exact H

set_option maxHeartbeats 4000000 in
set_option maxRecDepth 100000 in
theorem sg_X7_findCamp_59 {d : Nat} {w : ex_WW} {P : Int32 → ex_WW → Prop} {x1 : Int32} (H : (vp_in x1 8 ∧ (((w 23 0) ≤ (w 41 x1.toNatClampNeg) → (vp_in (x1 + (-1)) 8 ∧ (((x1 + (-1)) ≤ 0 → (vp_in (x1 + (-1)) 8 ∧ ex_Ev (d + 1) mX7_findCamp 13 [some (.inr 23), some (.inl (x1 + (-1)))] [] (ex_up w 41 (x1 + (-1)).toNatClampNeg ((w 41 (x1 + (-1)).toNatClampNeg) + 0)) P)) ∧ (¬ (x1 + (-1)) ≤ 0 → (vp_in (x1 + (-1)) 8 ∧ ex_Ev (d + 1) mX7_findCamp 13 [some (.inr 23), some (.inl (x1 + (-1)))] [] (ex_up w 41 (x1 + (-1)).toNatClampNeg ((w 41 (x1 + (-1)).toNatClampNeg) + 1)) P))))) ∧ (¬ (w 23 0) ≤ (w 41 x1.toNatClampNeg) → (vp_in (x1 + 1) 8 ∧ ex_Ev (d + 1) mX7_findCamp 13 [some (.inr 23), some (.inl (x1 + 1))] [] (ex_up w 41 (x1 + 1).toNatClampNeg 0) P))))) : ex_Ev (d + 1) mX7_findCamp 59 [some (.inr 23), some (.inl x1)] [] w P := by
  refine ev_aload_n dX7_findCamp_59 rfl ?_
  refine ev_getR dX7_findCamp_60 (fo_RX7_66 _ rfl) (by decide) rfl rfl ?_
  refine ev_iload_n dX7_findCamp_63 rfl ?_
  refine ev_iald dX7_findCamp_64 (by decide) rfl H.1 ?_
  have H := H.2
  refine ev_aload_n dX7_findCamp_65 rfl ?_
  refine ev_getI dX7_findCamp_66 (fo_RX7_69 _ rfl) (by decide) rfl rfl ?_
  refine ev_icmp_ge 85 dX7_findCamp_69 (by decide) (fun h => ?_) (fun h => ?_)
  · have H := H.1 h
    refine ev_iinc (x1 + (-1)) dX7_findCamp_85 rfl rfl (by decide) ?_
    refine ev_aload_n dX7_findCamp_88 rfl ?_
    refine ev_getR dX7_findCamp_89 (fo_RX7_66 _ rfl) (by decide) rfl rfl ?_
    refine ev_iload_n dX7_findCamp_92 rfl ?_
    refine ev_dup2 dX7_findCamp_93 ?_
    refine ev_iald dX7_findCamp_94 (by decide) rfl H.1 ?_
    have H := H.2
    refine ev_iload_n dX7_findCamp_95 rfl ?_
    refine ev_if_le 103 dX7_findCamp_96 (by decide) (fun h => ?_) (fun h => ?_)
    · have H := H.1 h
      refine ev_iconst 0 dX7_findCamp_103 (by decide) ?_
      refine ev_iadd dX7_findCamp_104 ?_
      refine ev_iast dX7_findCamp_105 (by decide) rfl H.1 ?_
      have H := H.2
      refine ev_goto 13 dX7_findCamp_106 (by decide) ?_
      exact H
    · have H := H.2 h
      refine ev_iconst 1 dX7_findCamp_99 (by decide) ?_
      refine ev_goto 104 dX7_findCamp_100 (by decide) ?_
      refine ev_iadd dX7_findCamp_104 ?_
      refine ev_iast dX7_findCamp_105 (by decide) rfl H.1 ?_
      have H := H.2
      refine ev_goto 13 dX7_findCamp_106 (by decide) ?_
      exact H
  · have H := H.2 h
    refine ev_iinc (x1 + 1) dX7_findCamp_72 rfl rfl (by decide) ?_
    refine ev_aload_n dX7_findCamp_75 rfl ?_
    refine ev_getR dX7_findCamp_76 (fo_RX7_66 _ rfl) (by decide) rfl rfl ?_
    refine ev_iload_n dX7_findCamp_79 rfl ?_
    refine ev_iconst 0 dX7_findCamp_80 (by decide) ?_
    refine ev_iast dX7_findCamp_81 (by decide) rfl H.1 ?_
    have H := H.2
    refine ev_goto 13 dX7_findCamp_82 (by decide) ?_
    exact H

set_option maxHeartbeats 4000000 in
set_option maxRecDepth 100000 in
theorem sg_X7_findCamp_109 {d : Nat} {w : ex_WW} {P : Int32 → ex_WW → Prop} {x1 : Int32} (H : (((w 23 29) ≤ 0 → P 0 w) ∧ (¬ (w 23 29) ≤ 0 → ((x1 ≤ 0 → P 0 w) ∧ (¬ x1 ≤ 0 → P 1 w))))) : ex_Ev (d + 1) mX7_findCamp 109 [some (.inr 23), some (.inl x1)] [] w P := by
  refine ev_aload_n dX7_findCamp_109 rfl ?_
  refine ev_getI dX7_findCamp_110 (fo_RX7_183 _ rfl) (by decide) rfl rfl ?_
  refine ev_if_le 124 dX7_findCamp_113 (by decide) (fun h => ?_) (fun h => ?_)
  · have H := H.1 h
    refine ev_iconst 0 dX7_findCamp_124 (by decide) ?_
    exact ev_zret dX7_findCamp_125 rfl (by decide) H
  · have H := H.2 h
    refine ev_iload_n dX7_findCamp_116 rfl ?_
    refine ev_if_le 124 dX7_findCamp_117 (by decide) (fun h => ?_) (fun h => ?_)
    · have H := H.1 h
      refine ev_iconst 0 dX7_findCamp_124 (by decide) ?_
      exact ev_zret dX7_findCamp_125 rfl (by decide) H
    · have H := H.2 h
      refine ev_iconst 1 dX7_findCamp_120 (by decide) ?_
      refine ev_goto 125 dX7_findCamp_121 (by decide) ?_
      exact ev_zret dX7_findCamp_125 rfl (by decide) H

set_option maxHeartbeats 4000000 in
set_option maxRecDepth 100000 in
theorem sg_X7_tent_0 {d : Nat} {w : ex_WW} {P : Int32 → ex_WW → Prop} {p0 : Int32} (H : ex_Ev d mX7_in 0 (ex_in [.inl p0, .inl 0, .inl 6] 3) [] w (fun r1 u2 => ((¬ r1 = 0 → ex_Ev d mX7_findCamp 0 (ex_in [.inr 23] 2) [] u2 (fun r3 u4 => ((r3 = 0 → P (-4) u4) ∧ (¬ r3 = 0 → (((u4 23 29) ≤ p0 → P (-4) u4) ∧ (¬ (u4 23 29) ≤ p0 → (vp_in p0 8 ∧ P (u4 41 p0.toNatClampNeg) u4))))))) ∧ (r1 = 0 → P (-1) u2)))) : ex_Ev (d + 1) mX7_tent 0 [some (.inr 23), some (.inl p0)] [] w P := by
  refine ev_iload_n dX7_tent_0 rfl ?_
  refine ev_iconst 0 dX7_tent_1 (by decide) ?_
  refine ev_bipush 6 dX7_tent_2 (by decide) ?_
  refine ev_callS [.inl p0, .inl 0, .inl 6] dX7_tent_4 co_X7_in ml_RX7_72 cs_X7_in rfl rfl (by decide) (Nat.le_of_ble_eq_true rfl) rfl H (fun r1 u2 H => ?_)
  refine ev_if_ne 12 dX7_tent_7 (by decide) (fun h => ?_) (fun h => ?_)
  · have H := H.1 h
    refine ev_aload_n dX7_tent_12 rfl ?_
    refine ev_callV 23 [] dX7_tent_13 co_X7_findCamp ml_RX7_192 cv_X7_findCamp (by decide) rfl rfl rfl rfl (by decide) (Nat.le_of_ble_eq_true rfl) rfl H (fun r3 u4 H => ?_)
    refine ev_if_eq 36 dX7_tent_16 (by decide) (fun h => ?_) (fun h => ?_)
    · have H := H.1 h
      refine ev_bipush (-4) dX7_tent_36 (by decide) ?_
      exact ev_iret dX7_tent_38 rfl H
    · have H := H.2 h
      refine ev_iload_n dX7_tent_19 rfl ?_
      refine ev_aload_n dX7_tent_20 rfl ?_
      refine ev_getI dX7_tent_21 (fo_RX7_183 _ rfl) (by decide) rfl rfl ?_
      refine ev_icmp_ge 36 dX7_tent_24 (by decide) (fun h => ?_) (fun h => ?_)
      · have H := H.1 h
        refine ev_bipush (-4) dX7_tent_36 (by decide) ?_
        exact ev_iret dX7_tent_38 rfl H
      · have H := H.2 h
        refine ev_aload_n dX7_tent_27 rfl ?_
        refine ev_getR dX7_tent_28 (fo_RX7_66 _ rfl) (by decide) rfl rfl ?_
        refine ev_iload_n dX7_tent_31 rfl ?_
        refine ev_iald dX7_tent_32 (by decide) rfl H.1 ?_
        have H := H.2
        refine ev_goto 38 dX7_tent_33 (by decide) ?_
        exact ev_iret dX7_tent_38 rfl H
  · have H := H.2 h
    refine ev_iconst (-1) dX7_tent_10 (by decide) ?_
    exact ev_iret dX7_tent_11 rfl H

set_option maxHeartbeats 4000000 in
set_option maxRecDepth 100000 in
theorem sg_X7_feuds_0 {d : Nat} {w : ex_WW} {P : Int32 → ex_WW → Prop} (H : ex_Ev d mX7_feuds 4 [some (.inr 23), some (.inl 0), some (.inl 0), none] [] w P) : ex_Ev d mX7_feuds 0 [some (.inr 23), none, none, none] [] w P := by
  refine ev_iconst 0 dX7_feuds_0 (by decide) ?_
  refine ev_istore_n dX7_feuds_1 (by decide) ?_
  refine ev_iconst 0 dX7_feuds_2 (by decide) ?_
  refine ev_istore_n dX7_feuds_3 (by decide) ?_
  exact H

set_option maxHeartbeats 4000000 in
set_option maxRecDepth 100000 in
theorem sg_X7_feuds_4 {d : Nat} {w : ex_WW} {P : Int32 → ex_WW → Prop} {x1 : Int32} {x2 : Int32} (H : (((w 23 0) ≤ x2 → P x1 w) ∧ (¬ (w 23 0) ≤ x2 → ex_Ev d mX7_feuds 14 [some (.inr 23), some (.inl x1), some (.inl x2), some (.inl 0)] [] w P))) : ex_Ev d mX7_feuds 4 [some (.inr 23), some (.inl x1), some (.inl x2), none] [] w P := by
  refine ev_iload_n dX7_feuds_4 rfl ?_
  refine ev_aload_n dX7_feuds_5 rfl ?_
  refine ev_getI dX7_feuds_6 (fo_RX7_69 _ rfl) (by decide) rfl rfl ?_
  refine ev_icmp_ge 53 dX7_feuds_9 (by decide) (fun h => ?_) (fun h => ?_)
  · have H := H.1 h
    refine ev_iload_n dX7_feuds_53 rfl ?_
    exact ev_iret dX7_feuds_54 rfl H
  · have H := H.2 h
    refine ev_iconst 0 dX7_feuds_12 (by decide) ?_
    refine ev_istore_n dX7_feuds_13 (by decide) ?_
    exact H

set_option maxHeartbeats 4000000 in
set_option maxRecDepth 100000 in
theorem sg_X7_feuds_14 {d : Nat} {w : ex_WW} {P : Int32 → ex_WW → Prop} {x1 : Int32} {x2 : Int32} {x3 : Int32} (H : ((x2 ≤ x3 → ex_Ev d mX7_feuds 4 [some (.inr 23), some (.inl x1), some (.inl (x2 + 1)), none] [] w P) ∧ (¬ x2 ≤ x3 → (vp_in ((14 * x2) + x3) 196 ∧ (((w 36 ((14 * x2) + x3).toNatClampNeg) = 0 → ex_Ev d mX7_feuds 14 [some (.inr 23), some (.inl (x1 + 0)), some (.inl x2), some (.inl (x3 + 1))] [] w P) ∧ (¬ (w 36 ((14 * x2) + x3).toNatClampNeg) = 0 → ex_Ev d mX7_feuds 14 [some (.inr 23), some (.inl (x1 + 1)), some (.inl x2), some (.inl (x3 + 1))] [] w P)))))) : ex_Ev d mX7_feuds 14 [some (.inr 23), some (.inl x1), some (.inl x2), some (.inl x3)] [] w P := by
  refine ev_iload_n dX7_feuds_14 rfl ?_
  refine ev_iload_n dX7_feuds_15 rfl ?_
  refine ev_icmp_ge 47 dX7_feuds_16 (by decide) (fun h => ?_) (fun h => ?_)
  · have H := H.1 h
    refine ev_iinc (x2 + 1) dX7_feuds_47 rfl rfl (by decide) ?_
    refine ev_goto 4 dX7_feuds_50 (by decide) ?_
    refine ev_drop 3 ?_
    exact H
  · have H := H.2 h
    refine ev_iload_n dX7_feuds_19 rfl ?_
    refine ev_aload_n dX7_feuds_20 rfl ?_
    refine ev_getR dX7_feuds_21 (fo_RX7_50 _ rfl) (by decide) rfl rfl ?_
    refine ev_bipush 14 dX7_feuds_24 (by decide) ?_
    refine ev_iload_n dX7_feuds_26 rfl ?_
    refine ev_imul dX7_feuds_27 ?_
    refine ev_iload_n dX7_feuds_28 rfl ?_
    refine ev_iadd dX7_feuds_29 ?_
    refine ev_zald dX7_feuds_30 (by decide) rfl H.1 ?_
    have H := H.2
    refine ev_if_eq 38 dX7_feuds_31 (by decide) (fun h => ?_) (fun h => ?_)
    · have H := H.1 h
      refine ev_iconst 0 dX7_feuds_38 (by decide) ?_
      refine ev_iadd dX7_feuds_39 ?_
      refine ev_istore_n dX7_feuds_40 (by decide) ?_
      refine ev_iinc (x3 + 1) dX7_feuds_41 rfl rfl (by decide) ?_
      refine ev_goto 14 dX7_feuds_44 (by decide) ?_
      exact H
    · have H := H.2 h
      refine ev_iconst 1 dX7_feuds_34 (by decide) ?_
      refine ev_goto 39 dX7_feuds_35 (by decide) ?_
      refine ev_iadd dX7_feuds_39 ?_
      refine ev_istore_n dX7_feuds_40 (by decide) ?_
      refine ev_iinc (x3 + 1) dX7_feuds_41 rfl rfl (by decide) ?_
      refine ev_goto 14 dX7_feuds_44 (by decide) ?_
      exact H

set_option maxHeartbeats 4000000 in
set_option maxRecDepth 100000 in
theorem sg_X7_riding_0 {d : Nat} {w : ex_WW} {P : Int32 → ex_WW → Prop} (H : ex_Ev (d + 1) mX7_riding 4 [some (.inr 23), some (.inl 0), some (.inl 0)] [] w P) : ex_Ev (d + 1) mX7_riding 0 [some (.inr 23), none, none] [] w P := by
  refine ev_iconst 0 dX7_riding_0 (by decide) ?_
  refine ev_istore_n dX7_riding_1 (by decide) ?_
  refine ev_iconst 0 dX7_riding_2 (by decide) ?_
  refine ev_istore_n dX7_riding_3 (by decide) ?_
  exact H

set_option maxHeartbeats 4000000 in
set_option maxRecDepth 100000 in
theorem sg_X7_riding_4 {d : Nat} {w : ex_WW} {P : Int32 → ex_WW → Prop} {x1 : Int32} {x2 : Int32} (H : (((w 23 0) ≤ x2 → P x1 w) ∧ (¬ (w 23 0) ≤ x2 → ex_Ev d mX7_yieldsTo 0 (ex_in [.inr 23, .inl x2] 3) [] w (fun r1 u2 => ((0 ≤ r1 → ex_Ev (d + 1) mX7_riding 4 [some (.inr 23), some (.inl (x1 + 0)), some (.inl (x2 + 1))] [] u2 P) ∧ (¬ 0 ≤ r1 → ex_Ev (d + 1) mX7_riding 4 [some (.inr 23), some (.inl (x1 + 1)), some (.inl (x2 + 1))] [] u2 P)))))) : ex_Ev (d + 1) mX7_riding 4 [some (.inr 23), some (.inl x1), some (.inl x2)] [] w P := by
  refine ev_iload_n dX7_riding_4 rfl ?_
  refine ev_aload_n dX7_riding_5 rfl ?_
  refine ev_getI dX7_riding_6 (fo_RX7_69 _ rfl) (by decide) rfl rfl ?_
  refine ev_icmp_ge 34 dX7_riding_9 (by decide) (fun h => ?_) (fun h => ?_)
  · have H := H.1 h
    refine ev_iload_n dX7_riding_34 rfl ?_
    exact ev_iret dX7_riding_35 rfl H
  · have H := H.2 h
    refine ev_iload_n dX7_riding_12 rfl ?_
    refine ev_aload_n dX7_riding_13 rfl ?_
    refine ev_iload_n dX7_riding_14 rfl ?_
    refine ev_callV 23 [.inl x2] dX7_riding_15 co_X7_yieldsTo ml_RX7_97 cv_X7_yieldsTo (by decide) rfl rfl rfl rfl (by decide) (Nat.le_of_ble_eq_true rfl) rfl H (fun r1 u2 H => ?_)
    refine ev_if_ge 25 dX7_riding_18 (by decide) (fun h => ?_) (fun h => ?_)
    · have H := H.1 h
      refine ev_iconst 0 dX7_riding_25 (by decide) ?_
      refine ev_iadd dX7_riding_26 ?_
      refine ev_istore_n dX7_riding_27 (by decide) ?_
      refine ev_iinc (x2 + 1) dX7_riding_28 rfl rfl (by decide) ?_
      refine ev_goto 4 dX7_riding_31 (by decide) ?_
      exact H
    · have H := H.2 h
      refine ev_iconst 1 dX7_riding_21 (by decide) ?_
      refine ev_goto 26 dX7_riding_22 (by decide) ?_
      refine ev_iadd dX7_riding_26 ?_
      refine ev_istore_n dX7_riding_27 (by decide) ?_
      refine ev_iinc (x2 + 1) dX7_riding_28 rfl rfl (by decide) ?_
      refine ev_goto 4 dX7_riding_31 (by decide) ?_
      exact H

set_option maxHeartbeats 4000000 in
set_option maxRecDepth 100000 in
theorem sg_X7_sumOf_0 {d : Nat} {w : ex_WW} {P : Int32 → ex_WW → Prop} {p0 : Int32} (H : ex_Ev (d + 1) mX7_sumOf 4 [some (.inr 23), some (.inl p0), some (.inl 0), some (.inl 0)] [] w P) : ex_Ev (d + 1) mX7_sumOf 0 [some (.inr 23), some (.inl p0), none, none] [] w P := by
  refine ev_iconst 0 dX7_sumOf_0 (by decide) ?_
  refine ev_istore_n dX7_sumOf_1 (by decide) ?_
  refine ev_iconst 0 dX7_sumOf_2 (by decide) ?_
  refine ev_istore_n dX7_sumOf_3 (by decide) ?_
  exact H

set_option maxHeartbeats 4000000 in
set_option maxRecDepth 100000 in
theorem sg_X7_sumOf_4 {d : Nat} {w : ex_WW} {P : Int32 → ex_WW → Prop} {x1 : Int32} {x2 : Int32} {x3 : Int32} (H : (((2 * (w 23 10)) ≤ x3 → P x2 w) ∧ (¬ (2 * (w 23 10)) ≤ x3 → ((x1 = 0 → (vp_in x3 60 ∧ ex_Ev (d + 1) mX7_sumOf 4 [some (.inr 23), some (.inl x1), some (.inl (x2 + (w 33 x3.toNatClampNeg))), some (.inl (x3 + 1))] [] w P)) ∧ (¬ x1 = 0 → ex_Ev d mX7_owedOf 0 (ex_in [.inr 23, .inl (x3 / 2), .inl (x3 - x3 / 2 * 2)] 6) [] w (fun r1 u2 => ex_Ev (d + 1) mX7_sumOf 4 [some (.inr 23), some (.inl x1), some (.inl (x2 + r1)), some (.inl (x3 + 1))] [] u2 P)))))) : ex_Ev (d + 1) mX7_sumOf 4 [some (.inr 23), some (.inl x1), some (.inl x2), some (.inl x3)] [] w P := by
  refine ev_iload_n dX7_sumOf_4 rfl ?_
  refine ev_iconst 2 dX7_sumOf_5 (by decide) ?_
  refine ev_aload_n dX7_sumOf_6 rfl ?_
  refine ev_getI dX7_sumOf_7 (fo_RX7_80 _ rfl) (by decide) rfl rfl ?_
  refine ev_imul dX7_sumOf_10 ?_
  refine ev_icmp_ge 46 dX7_sumOf_11 (by decide) (fun h => ?_) (fun h => ?_)
  · have H := H.1 h
    refine ev_iload_n dX7_sumOf_46 rfl ?_
    exact ev_iret dX7_sumOf_47 rfl H
  · have H := H.2 h
    refine ev_iload_n dX7_sumOf_14 rfl ?_
    refine ev_iload_n dX7_sumOf_15 rfl ?_
    refine ev_if_eq 32 dX7_sumOf_16 (by decide) (fun h => ?_) (fun h => ?_)
    · have H := H.1 h
      refine ev_aload_n dX7_sumOf_32 rfl ?_
      refine ev_getR dX7_sumOf_33 (fo_RX7_41 _ rfl) (by decide) rfl rfl ?_
      refine ev_iload_n dX7_sumOf_36 rfl ?_
      refine ev_iald dX7_sumOf_37 (by decide) rfl H.1 ?_
      have H := H.2
      refine ev_iadd dX7_sumOf_38 ?_
      refine ev_istore_n dX7_sumOf_39 (by decide) ?_
      refine ev_iinc (x3 + 1) dX7_sumOf_40 rfl rfl (by decide) ?_
      refine ev_goto 4 dX7_sumOf_43 (by decide) ?_
      exact H
    · have H := H.2 h
      refine ev_aload_n dX7_sumOf_19 rfl ?_
      refine ev_iload_n dX7_sumOf_20 rfl ?_
      refine ev_iconst 2 dX7_sumOf_21 (by decide) ?_
      refine ev_idiv dX7_sumOf_22 (by decide) ?_
      refine ev_iload_n dX7_sumOf_23 rfl ?_
      refine ev_iconst 2 dX7_sumOf_24 (by decide) ?_
      refine ev_irem dX7_sumOf_25 (by decide) ?_
      refine ev_callV 23 [.inl (x3 / 2), .inl (x3 - x3 / 2 * 2)] dX7_sumOf_26 co_X7_owedOf ml_RX7_168 cv_X7_owedOf (by decide) rfl rfl rfl rfl (by decide) (Nat.le_of_ble_eq_true rfl) rfl H (fun r1 u2 H => ?_)
      refine ev_goto 38 dX7_sumOf_29 (by decide) ?_
      refine ev_iadd dX7_sumOf_38 ?_
      refine ev_istore_n dX7_sumOf_39 (by decide) ?_
      refine ev_iinc (x3 + 1) dX7_sumOf_40 rfl rfl (by decide) ?_
      refine ev_goto 4 dX7_sumOf_43 (by decide) ?_
      exact H

set_option maxHeartbeats 4000000 in
set_option maxRecDepth 100000 in
theorem sg_X7_many_0 {d : Nat} {w : ex_WW} {P : Int32 → ex_WW → Prop} {p0 : Int32} (H : ((p0 = 0 → P (w 23 0) w) ∧ (p0 = 1 → P (w 23 7) w) ∧ (p0 = 2 → P (w 23 8) w) ∧ (p0 = 3 → P (w 23 10) w) ∧ (p0 = 4 → P (w 23 15) w) ∧ (p0 = 5 → ex_Ev d mX7_feuds 0 (ex_in [.inr 23] 4) [] w (fun r1 u2 => P r1 u2)) ∧ (p0 = 6 → P (w 23 5) w) ∧ (p0 = 7 → ex_Ev d mX7_riding 0 (ex_in [.inr 23] 3) [] w (fun r3 u4 => P r3 u4)) ∧ (p0 = 8 → ex_Ev d mX7_sumOf 0 (ex_in [.inr 23, .inl 1] 4) [] w (fun r5 u6 => P r5 u6)) ∧ (p0 = 9 → ex_Ev d mX7_sumOf 0 (ex_in [.inr 23, .inl 0] 4) [] w (fun r7 u8 => P r7 u8)) ∧ (¬ p0 = 0 → ¬ p0 = 1 → ¬ p0 = 2 → ¬ p0 = 3 → ¬ p0 = 4 → ¬ p0 = 5 → ¬ p0 = 6 → ¬ p0 = 7 → ¬ p0 = 8 → ¬ p0 = 9 → P (-1) w))) : ex_Ev (d + 1) mX7_many 0 [some (.inr 23), some (.inl p0)] [] w P := by
  refine ev_iload_n dX7_many_0 rfl ?_
  have hs : ∀ z : Int32, z = p0 → ex_Ev (d + 1) mX7_many 1 [some (.inr 23), some (.inl p0)] (.inl z :: []) w P := by
    intro z hz
    by_cases h0 : z = 0
    · have H := H.1 (hz.symm.trans h0)
      subst h0
      refine ev_tableIn 56 dX7_many_1 (by decide) (by decide) rfl (by decide) ?_
      refine ev_aload_n dX7_many_56 rfl ?_
      refine ev_getI dX7_many_57 (fo_RX7_69 _ rfl) (by decide) rfl rfl ?_
      exact ev_iret dX7_many_60 rfl H
    by_cases h1 : z = 1
    · have H := H.2.1 (hz.symm.trans h1)
      subst h1
      refine ev_tableIn 61 dX7_many_1 (by decide) (by decide) rfl (by decide) ?_
      refine ev_aload_n dX7_many_61 rfl ?_
      refine ev_getI dX7_many_62 (fo_RX7_123 _ rfl) (by decide) rfl rfl ?_
      exact ev_iret dX7_many_65 rfl H
    by_cases h2 : z = 2
    · have H := H.2.2.1 (hz.symm.trans h2)
      subst h2
      refine ev_tableIn 66 dX7_many_1 (by decide) (by decide) rfl (by decide) ?_
      refine ev_aload_n dX7_many_66 rfl ?_
      refine ev_getI dX7_many_67 (fo_RX7_25 _ rfl) (by decide) rfl rfl ?_
      exact ev_iret dX7_many_70 rfl H
    by_cases h3 : z = 3
    · have H := H.2.2.2.1 (hz.symm.trans h3)
      subst h3
      refine ev_tableIn 71 dX7_many_1 (by decide) (by decide) rfl (by decide) ?_
      refine ev_aload_n dX7_many_71 rfl ?_
      refine ev_getI dX7_many_72 (fo_RX7_80 _ rfl) (by decide) rfl rfl ?_
      exact ev_iret dX7_many_75 rfl H
    by_cases h4 : z = 4
    · have H := H.2.2.2.2.1 (hz.symm.trans h4)
      subst h4
      refine ev_tableIn 76 dX7_many_1 (by decide) (by decide) rfl (by decide) ?_
      refine ev_aload_n dX7_many_76 rfl ?_
      refine ev_getI dX7_many_77 (fo_RX7_171 _ rfl) (by decide) rfl rfl ?_
      exact ev_iret dX7_many_80 rfl H
    by_cases h5 : z = 5
    · have H := H.2.2.2.2.2.1 (hz.symm.trans h5)
      subst h5
      refine ev_tableIn 81 dX7_many_1 (by decide) (by decide) rfl (by decide) ?_
      refine ev_aload_n dX7_many_81 rfl ?_
      refine ev_callV 23 [] dX7_many_82 co_X7_feuds ml_RX7_196 cv_X7_feuds (by decide) rfl rfl rfl rfl (by decide) (Nat.le_of_ble_eq_true rfl) rfl H (fun r1 u2 H => ?_)
      exact ev_iret dX7_many_85 rfl H
    by_cases h6 : z = 6
    · have H := H.2.2.2.2.2.2.1 (hz.symm.trans h6)
      subst h6
      refine ev_tableIn 86 dX7_many_1 (by decide) (by decide) rfl (by decide) ?_
      refine ev_aload_n dX7_many_86 rfl ?_
      refine ev_getI dX7_many_87 (fo_RX7_101 _ rfl) (by decide) rfl rfl ?_
      exact ev_iret dX7_many_90 rfl H
    by_cases h7 : z = 7
    · have H := H.2.2.2.2.2.2.2.1 (hz.symm.trans h7)
      subst h7
      refine ev_tableIn 91 dX7_many_1 (by decide) (by decide) rfl (by decide) ?_
      refine ev_aload_n dX7_many_91 rfl ?_
      refine ev_callV 23 [] dX7_many_92 co_X7_riding ml_RX7_199 cv_X7_riding (by decide) rfl rfl rfl rfl (by decide) (Nat.le_of_ble_eq_true rfl) rfl H (fun r3 u4 H => ?_)
      exact ev_iret dX7_many_95 rfl H
    by_cases h8 : z = 8
    · have H := H.2.2.2.2.2.2.2.2.1 (hz.symm.trans h8)
      subst h8
      refine ev_tableIn 96 dX7_many_1 (by decide) (by decide) rfl (by decide) ?_
      refine ev_aload_n dX7_many_96 rfl ?_
      refine ev_iconst 1 dX7_many_97 (by decide) ?_
      refine ev_callV 23 [.inl 1] dX7_many_98 co_X7_sumOf ml_RX7_202 cv_X7_sumOf (by decide) rfl rfl rfl rfl (by decide) (Nat.le_of_ble_eq_true rfl) rfl H (fun r5 u6 H => ?_)
      exact ev_iret dX7_many_101 rfl H
    by_cases h9 : z = 9
    · have H := H.2.2.2.2.2.2.2.2.2.1 (hz.symm.trans h9)
      subst h9
      refine ev_tableIn 102 dX7_many_1 (by decide) (by decide) rfl (by decide) ?_
      refine ev_aload_n dX7_many_102 rfl ?_
      refine ev_iconst 0 dX7_many_103 (by decide) ?_
      refine ev_callV 23 [.inl 0] dX7_many_104 co_X7_sumOf ml_RX7_202 cv_X7_sumOf (by decide) rfl rfl rfl rfl (by decide) (Nat.le_of_ble_eq_true rfl) rfl H (fun r7 u8 H => ?_)
      exact ev_iret dX7_many_107 rfl H
    have H := H.2.2.2.2.2.2.2.2.2.2 (fun q => h0 (hz.trans q)) (fun q => h1 (hz.trans q)) (fun q => h2 (hz.trans q)) (fun q => h3 (hz.trans q)) (fun q => h4 (hz.trans q)) (fun q => h5 (hz.trans q)) (fun q => h6 (hz.trans q)) (fun q => h7 (hz.trans q)) (fun q => h8 (hz.trans q)) (fun q => h9 (hz.trans q))
    refine ev_tableOut 108 dX7_many_1 (by have q0 := lv_neT h0 (a := 0) rfl; have q1 := lv_neT h1 (a := 1) rfl; have q2 := lv_neT h2 (a := 2) rfl; have q3 := lv_neT h3 (a := 3) rfl; have q4 := lv_neT h4 (a := 4) rfl; have q5 := lv_neT h5 (a := 5) rfl; have q6 := lv_neT h6 (a := 6) rfl; have q7 := lv_neT h7 (a := 7) rfl; have q8 := lv_neT h8 (a := 8) rfl; have q9 := lv_neT h9 (a := 9) rfl; omega) (by decide) ?_
    refine ev_iconst (-1) dX7_many_108 (by decide) ?_
    exact ev_iret dX7_many_109 rfl H
  exact hs _ rfl

