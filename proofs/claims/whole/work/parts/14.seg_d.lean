set_option maxHeartbeats 4000000 in
set_option maxRecDepth 100000 in
theorem sg_X0_areInFeud_0 {d : Nat} {w : ex_WW} {P : Int32 → ex_WW → Prop} {p0 : Int32} {p1 : Int32} (H : (vp_in p0 14 ∧ ((((w 21 p0.toNatClampNeg) &&& (1 <<< (p1 &&& 31))) = 0 → P 0 w) ∧ (¬ ((w 21 p0.toNatClampNeg) &&& (1 <<< (p1 &&& 31))) = 0 → P 1 w)))) : ex_Ev d mX0_areInFeud 0 [some (.inr 6), some (.inl p0), some (.inl p1)] [] w P := by
  refine ev_aload_n dX0_areInFeud_0 rfl ?_
  refine ev_getR dX0_areInFeud_1 (fo_RX0_9 _ rfl) (by decide) rfl rfl ?_
  refine ev_iload_n dX0_areInFeud_4 rfl ?_
  refine ev_iald dX0_areInFeud_5 (by decide) rfl H.1 ?_
  have H := H.2
  refine ev_iconst 1 dX0_areInFeud_6 (by decide) ?_
  refine ev_iload_n dX0_areInFeud_7 rfl ?_
  refine ev_ishl dX0_areInFeud_8 ?_
  refine ev_iand dX0_areInFeud_9 ?_
  refine ev_if_eq 17 dX0_areInFeud_10 (by decide) (fun h => ?_) (fun h => ?_)
  · have H := H.1 h
    refine ev_iconst 0 dX0_areInFeud_17 (by decide) ?_
    exact ev_zret dX0_areInFeud_18 rfl (by decide) H
  · have H := H.2 h
    refine ev_iconst 1 dX0_areInFeud_13 (by decide) ?_
    refine ev_goto 18 dX0_areInFeud_14 (by decide) ?_
    exact ev_zret dX0_areInFeud_18 rfl (by decide) H

set_option maxHeartbeats 4000000 in
set_option maxRecDepth 100000 in
theorem sg_X0_setFeud_0 {d : Nat} {w : ex_WW} {P : Int32 → ex_WW → Prop} {p0 : Int32} {p1 : Int32} {p2 : Int32} (H : ((p2 = 0 → (vp_in p0 14 ∧ (vp_in p0 14 ∧ (vp_in p1 14 ∧ (vp_in p1 14 ∧ P 0 (ex_up (ex_up w 21 p0.toNatClampNeg ((w 21 p0.toNatClampNeg) &&& ((1 <<< (p1 &&& 31)) ^^^ (-1)))) 21 p1.toNatClampNeg (((ex_up w 21 p0.toNatClampNeg ((w 21 p0.toNatClampNeg) &&& ((1 <<< (p1 &&& 31)) ^^^ (-1)))) 21 p1.toNatClampNeg) &&& ((1 <<< (p0 &&& 31)) ^^^ (-1))))))))) ∧ (¬ p2 = 0 → (vp_in p0 14 ∧ (vp_in p0 14 ∧ (vp_in p1 14 ∧ (vp_in p1 14 ∧ P 0 (ex_up (ex_up w 21 p0.toNatClampNeg ((w 21 p0.toNatClampNeg) ||| (1 <<< (p1 &&& 31)))) 21 p1.toNatClampNeg (((ex_up w 21 p0.toNatClampNeg ((w 21 p0.toNatClampNeg) ||| (1 <<< (p1 &&& 31)))) 21 p1.toNatClampNeg) ||| (1 <<< (p0 &&& 31))))))))))) : ex_Ev d mX0_setFeud 0 [some (.inr 6), some (.inl p0), some (.inl p1), some (.inl p2)] [] w P := by
  refine ev_iload_n dX0_setFeud_0 rfl ?_
  refine ev_if_eq 31 dX0_setFeud_1 (by decide) (fun h => ?_) (fun h => ?_)
  · have H := H.1 h
    refine ev_aload_n dX0_setFeud_31 rfl ?_
    refine ev_getR dX0_setFeud_32 (fo_RX0_9 _ rfl) (by decide) rfl rfl ?_
    refine ev_iload_n dX0_setFeud_35 rfl ?_
    refine ev_dup2 dX0_setFeud_36 ?_
    refine ev_iald dX0_setFeud_37 (by decide) rfl H.1 ?_
    have H := H.2
    refine ev_iconst 1 dX0_setFeud_38 (by decide) ?_
    refine ev_iload_n dX0_setFeud_39 rfl ?_
    refine ev_ishl dX0_setFeud_40 ?_
    refine ev_iconst (-1) dX0_setFeud_41 (by decide) ?_
    refine ev_ixor dX0_setFeud_42 ?_
    refine ev_iand dX0_setFeud_43 ?_
    refine ev_iast dX0_setFeud_44 (by decide) rfl H.1 ?_
    have H := H.2
    refine ev_aload_n dX0_setFeud_45 rfl ?_
    refine ev_getR dX0_setFeud_46 (fo_RX0_9 _ rfl) (by decide) rfl rfl ?_
    refine ev_iload_n dX0_setFeud_49 rfl ?_
    refine ev_dup2 dX0_setFeud_50 ?_
    refine ev_iald dX0_setFeud_51 (by decide) rfl H.1 ?_
    have H := H.2
    refine ev_iconst 1 dX0_setFeud_52 (by decide) ?_
    refine ev_iload_n dX0_setFeud_53 rfl ?_
    refine ev_ishl dX0_setFeud_54 ?_
    refine ev_iconst (-1) dX0_setFeud_55 (by decide) ?_
    refine ev_ixor dX0_setFeud_56 ?_
    refine ev_iand dX0_setFeud_57 ?_
    refine ev_iast dX0_setFeud_58 (by decide) rfl H.1 ?_
    have H := H.2
    exact ev_vret dX0_setFeud_59 rfl H
  · have H := H.2 h
    refine ev_aload_n dX0_setFeud_4 rfl ?_
    refine ev_getR dX0_setFeud_5 (fo_RX0_9 _ rfl) (by decide) rfl rfl ?_
    refine ev_iload_n dX0_setFeud_8 rfl ?_
    refine ev_dup2 dX0_setFeud_9 ?_
    refine ev_iald dX0_setFeud_10 (by decide) rfl H.1 ?_
    have H := H.2
    refine ev_iconst 1 dX0_setFeud_11 (by decide) ?_
    refine ev_iload_n dX0_setFeud_12 rfl ?_
    refine ev_ishl dX0_setFeud_13 ?_
    refine ev_ior dX0_setFeud_14 ?_
    refine ev_iast dX0_setFeud_15 (by decide) rfl H.1 ?_
    have H := H.2
    refine ev_aload_n dX0_setFeud_16 rfl ?_
    refine ev_getR dX0_setFeud_17 (fo_RX0_9 _ rfl) (by decide) rfl rfl ?_
    refine ev_iload_n dX0_setFeud_20 rfl ?_
    refine ev_dup2 dX0_setFeud_21 ?_
    refine ev_iald dX0_setFeud_22 (by decide) rfl H.1 ?_
    have H := H.2
    refine ev_iconst 1 dX0_setFeud_23 (by decide) ?_
    refine ev_iload_n dX0_setFeud_24 rfl ?_
    refine ev_ishl dX0_setFeud_25 ?_
    refine ev_ior dX0_setFeud_26 ?_
    refine ev_iast dX0_setFeud_27 (by decide) rfl H.1 ?_
    have H := H.2
    refine ev_goto 59 dX0_setFeud_28 (by decide) ?_
    exact ev_vret dX0_setFeud_59 rfl H

set_option maxHeartbeats 4000000 in
set_option maxRecDepth 100000 in
theorem sg_X0_countFeuds_0 {d : Nat} {w : ex_WW} {P : Int32 → ex_WW → Prop} (H : ex_Ev (d + 1) mX0_countFeuds 4 [some (.inr 6), some (.inl 0), some (.inl 0)] [] w P) : ex_Ev (d + 1) mX0_countFeuds 0 [some (.inr 6), none, none] [] w P := by
  refine ev_iconst 0 dX0_countFeuds_0 (by decide) ?_
  refine ev_istore_n dX0_countFeuds_1 (by decide) ?_
  refine ev_iconst 0 dX0_countFeuds_2 (by decide) ?_
  refine ev_istore_n dX0_countFeuds_3 (by decide) ?_
  exact H

set_option maxHeartbeats 4000000 in
set_option maxRecDepth 100000 in
theorem sg_X0_countFeuds_4 {d : Nat} {w : ex_WW} {P : Int32 → ex_WW → Prop} {x1 : Int32} {x2 : Int32} (H : ((14 ≤ x2 → P (x1 / 2) w) ∧ (¬ 14 ≤ x2 → (vp_in x2 14 ∧ ex_Ev d mJ6_bitCount_0f7a4 0 (ex_in [.inl (w 21 x2.toNatClampNeg)] 1) [] w (fun r1 u2 => ex_Ev (d + 1) mX0_countFeuds 4 [some (.inr 6), some (.inl (x1 + r1)), some (.inl (x2 + 1))] [] u2 P))))) : ex_Ev (d + 1) mX0_countFeuds 4 [some (.inr 6), some (.inl x1), some (.inl x2)] [] w P := by
  refine ev_iload_n dX0_countFeuds_4 rfl ?_
  refine ev_bipush 14 dX0_countFeuds_5 (by decide) ?_
  refine ev_icmp_ge 28 dX0_countFeuds_7 (by decide) (fun h => ?_) (fun h => ?_)
  · have H := H.1 h
    refine ev_iload_n dX0_countFeuds_28 rfl ?_
    refine ev_iconst 2 dX0_countFeuds_29 (by decide) ?_
    refine ev_idiv dX0_countFeuds_30 (by decide) ?_
    exact ev_iret dX0_countFeuds_31 rfl H
  · have H := H.2 h
    refine ev_iload_n dX0_countFeuds_10 rfl ?_
    refine ev_aload_n dX0_countFeuds_11 rfl ?_
    refine ev_getR dX0_countFeuds_12 (fo_RX0_9 _ rfl) (by decide) rfl rfl ?_
    refine ev_iload_n dX0_countFeuds_15 rfl ?_
    refine ev_iald dX0_countFeuds_16 (by decide) rfl H.1 ?_
    have H := H.2
    refine ev_callS [.inl (w 21 x2.toNatClampNeg)] dX0_countFeuds_17 co_J6_bitCount_0f7a4 ml_RX0_18 cs_J6_bitCount_0f7a4 rfl rfl (by decide) (Nat.le_of_ble_eq_true rfl) rfl H (fun r1 u2 H => ?_)
    refine ev_iadd dX0_countFeuds_20 ?_
    refine ev_istore_n dX0_countFeuds_21 (by decide) ?_
    refine ev_iinc (x2 + 1) dX0_countFeuds_22 rfl rfl (by decide) ?_
    refine ev_goto 4 dX0_countFeuds_25 (by decide) ?_
    exact H

set_option maxHeartbeats 4000000 in
set_option maxRecDepth 100000 in
theorem sg_X0_knightAt_0 {d : Nat} {w : ex_WW} {P : Int32 → ex_WW → Prop} {p0 : Int32} (H : (vp_in p0 7 ∧ P (w 22 p0.toNatClampNeg) w)) : ex_Ev d mX0_knightAt 0 [some (.inr 6), some (.inl p0)] [] w P := by
  refine ev_aload_n dX0_knightAt_0 rfl ?_
  refine ev_getR dX0_knightAt_1 (fo_RX0_15 _ rfl) (by decide) rfl rfl ?_
  refine ev_iload_n dX0_knightAt_4 rfl ?_
  refine ev_iald dX0_knightAt_5 (by decide) rfl H.1 ?_
  have H := H.2
  exact ev_iret dX0_knightAt_6 rfl H

set_option maxHeartbeats 4000000 in
set_option maxRecDepth 100000 in
theorem sg_X0_pitch_0 {d : Nat} {w : ex_WW} {P : Int32 → ex_WW → Prop} (H : ex_Ev (d + 1) mX0_pitch 7 [some (.inr 6), some (.inr 1), some (.inl 0), some (.inl 0), some (.inl 3), none] [] w P) : ex_Ev (d + 1) mX0_pitch 0 [some (.inr 6), some (.inr 1), none, none, none, none] [] w P := by
  refine ev_iconst 0 dX0_pitch_0 (by decide) ?_
  refine ev_istore_n dX0_pitch_1 (by decide) ?_
  refine ev_iconst 0 dX0_pitch_2 (by decide) ?_
  refine ev_istore_n dX0_pitch_3 (by decide) ?_
  refine ev_iconst 3 dX0_pitch_4 (by decide) ?_
  refine ev_istore dX0_pitch_5 (by decide) ?_
  exact H

set_option maxHeartbeats 4000000 in
set_option maxRecDepth 100000 in
theorem sg_X0_pitch_7 {d : Nat} {w : ex_WW} {P : Int32 → ex_WW → Prop} {x2 : Int32} {x3 : Int32} {x4 : Int32} (H : ((x4 < 0 → ex_Ev (d + 1) mX0_pitch 78 [some (.inr 6), some (.inr 1), some (.inl x2), some (.inl x3), some (.inl x4), none] [] w P) ∧ (¬ x4 < 0 → ex_Ev (d + 1) mX0_pitch 15 [some (.inr 6), some (.inr 1), some (.inl x2), some (.inl x3), some (.inl x4), some (.inl 0)] [] w P))) : ex_Ev (d + 1) mX0_pitch 7 [some (.inr 6), some (.inr 1), some (.inl x2), some (.inl x3), some (.inl x4), none] [] w P := by
  refine ev_iload dX0_pitch_7 rfl ?_
  refine ev_if_lt 78 dX0_pitch_9 (by decide) (fun h => ?_) (fun h => ?_)
  · have H := H.1 h
    exact H
  · have H := H.2 h
    refine ev_iconst 0 dX0_pitch_12 (by decide) ?_
    refine ev_istore dX0_pitch_13 (by decide) ?_
    exact H

set_option maxHeartbeats 4000000 in
set_option maxRecDepth 100000 in
theorem sg_X0_pitch_15 {d : Nat} {w : ex_WW} {P : Int32 → ex_WW → Prop} {x2 : Int32} {x3 : Int32} {x4 : Int32} {x5 : Int32} (H : ex_Ev d mX4_size 0 (ex_in [.inr 1] 1) [] w (fun r1 u2 => ((r1 ≤ x5 → ex_Ev (d + 1) mX0_pitch 7 [some (.inr 6), some (.inr 1), some (.inl x2), some (.inl x3), some (.inl (x4 + (-1))), none] [] u2 P) ∧ (¬ r1 ≤ x5 → ((7 ≤ x3 → ex_Ev (d + 1) mX0_pitch 7 [some (.inr 6), some (.inr 1), some (.inl x2), some (.inl x3), some (.inl (x4 + (-1))), none] [] u2 P) ∧ (¬ 7 ≤ x3 → ex_Ev d mX4_rankOf 0 (ex_in [.inr 1, .inl x5] 2) [] u2 (fun r3 u4 => ((¬ r3 = x4 → ex_Ev (d + 1) mX0_pitch 15 [some (.inr 6), some (.inr 1), some (.inl x2), some (.inl x3), some (.inl x4), some (.inl (x5 + 1))] [] u4 P) ∧ (r3 = x4 → ((¬ x3 = 0 → ex_Ev (d + 1) mX0_pitch 15 [some (.inr 6), some (.inr 1), some (.inl (x2 ||| (1 <<< (x5 &&& 31)))), some (.inl (x3 + 1)), some (.inl x4), some (.inl (x5 + 1))] [] u4 P) ∧ (x3 = 0 → (vp_in 0 7 ∧ ex_Ev (d + 1) mX0_pitch 15 [some (.inr 6), some (.inr 1), some (.inl x2), some (.inl (x3 + 1)), some (.inl x4), some (.inl (x5 + 1))] [] (ex_up u4 22 (0 : Int32).toNatClampNeg x5) P)))))))))))) : ex_Ev (d + 1) mX0_pitch 15 [some (.inr 6), some (.inr 1), some (.inl x2), some (.inl x3), some (.inl x4), some (.inl x5)] [] w P := by
  refine ev_iload dX0_pitch_15 rfl ?_
  refine ev_aload_n dX0_pitch_17 rfl ?_
  refine ev_callV 1 [] dX0_pitch_18 co_X4_size ml_RX0_24 cv_X4_size (by decide) rfl rfl rfl rfl (by decide) (Nat.le_of_ble_eq_true rfl) rfl H (fun r1 u2 H => ?_)
  refine ev_icmp_ge 72 dX0_pitch_21 (by decide) (fun h => ?_) (fun h => ?_)
  · have H := H.1 h
    refine ev_iinc (x4 + (-1)) dX0_pitch_72 rfl rfl (by decide) ?_
    refine ev_goto 7 dX0_pitch_75 (by decide) ?_
    refine ev_drop 5 ?_
    exact H
  · have H := H.2 h
    refine ev_iload_n dX0_pitch_24 rfl ?_
    refine ev_bipush 7 dX0_pitch_25 (by decide) ?_
    refine ev_icmp_ge 72 dX0_pitch_27 (by decide) (fun h => ?_) (fun h => ?_)
    · have H := H.1 h
      refine ev_iinc (x4 + (-1)) dX0_pitch_72 rfl rfl (by decide) ?_
      refine ev_goto 7 dX0_pitch_75 (by decide) ?_
      refine ev_drop 5 ?_
      exact H
    · have H := H.2 h
      refine ev_aload_n dX0_pitch_30 rfl ?_
      refine ev_iload dX0_pitch_31 rfl ?_
      refine ev_callV 1 [.inl x5] dX0_pitch_33 co_X4_rankOf ml_RX0_30 cv_X4_rankOf (by decide) rfl rfl rfl rfl (by decide) (Nat.le_of_ble_eq_true rfl) rfl H (fun r3 u4 H => ?_)
      refine ev_iload dX0_pitch_36 rfl ?_
      refine ev_icmp_ne 66 dX0_pitch_38 (by decide) (fun h => ?_) (fun h => ?_)
      · have H := H.1 h
        refine ev_iinc (x5 + 1) dX0_pitch_66 rfl rfl (by decide) ?_
        refine ev_goto 15 dX0_pitch_69 (by decide) ?_
        exact H
      · have H := H.2 h
        refine ev_iload_n dX0_pitch_41 rfl ?_
        refine ev_if_ne 56 dX0_pitch_42 (by decide) (fun h => ?_) (fun h => ?_)
        · have H := H.1 h
          refine ev_iload_n dX0_pitch_56 rfl ?_
          refine ev_iconst 1 dX0_pitch_57 (by decide) ?_
          refine ev_iload dX0_pitch_58 rfl ?_
          refine ev_ishl dX0_pitch_60 ?_
          refine ev_ior dX0_pitch_61 ?_
          refine ev_istore_n dX0_pitch_62 (by decide) ?_
          refine ev_iinc (x3 + 1) dX0_pitch_63 rfl rfl (by decide) ?_
          refine ev_iinc (x5 + 1) dX0_pitch_66 rfl rfl (by decide) ?_
          refine ev_goto 15 dX0_pitch_69 (by decide) ?_
          exact H
        · have H := H.2 h
          refine ev_aload_n dX0_pitch_45 rfl ?_
          refine ev_getR dX0_pitch_46 (fo_RX0_15 _ rfl) (by decide) rfl rfl ?_
          refine ev_iconst 0 dX0_pitch_49 (by decide) ?_
          refine ev_iload dX0_pitch_50 rfl ?_
          refine ev_iast dX0_pitch_52 (by decide) rfl H.1 ?_
          have H := H.2
          refine ev_goto 63 dX0_pitch_53 (by decide) ?_
          refine ev_iinc (x3 + 1) dX0_pitch_63 rfl rfl (by decide) ?_
          refine ev_iinc (x5 + 1) dX0_pitch_66 rfl rfl (by decide) ?_
          refine ev_goto 15 dX0_pitch_69 (by decide) ?_
          exact H

set_option maxHeartbeats 4000000 in
set_option maxRecDepth 100000 in
theorem sg_X0_pitch_78 {d : Nat} {w : ex_WW} {P : Int32 → ex_WW → Prop} {x2 : Int32} {x3 : Int32} {x4 : Int32} (H : ((x3 = 0 → P x3 w) ∧ (¬ x3 = 0 → ex_Ev d mX0_seat 0 (ex_in [.inr 6, .inl 1, .inl x2] 5) [] w (fun r1 u2 => ((r1 = 0 → P 0 u2) ∧ (¬ r1 = 0 → P x3 u2)))))) : ex_Ev (d + 1) mX0_pitch 78 [some (.inr 6), some (.inr 1), some (.inl x2), some (.inl x3), some (.inl x4), none] [] w P := by
  refine ev_iload_n dX0_pitch_78 rfl ?_
  refine ev_if_eq 91 dX0_pitch_79 (by decide) (fun h => ?_) (fun h => ?_)
  · have H := H.1 h
    refine ev_iload_n dX0_pitch_91 rfl ?_
    refine ev_goto 96 dX0_pitch_92 (by decide) ?_
    exact ev_iret dX0_pitch_96 rfl H
  · have H := H.2 h
    refine ev_aload_n dX0_pitch_82 rfl ?_
    refine ev_iconst 1 dX0_pitch_83 (by decide) ?_
    refine ev_iload_n dX0_pitch_84 rfl ?_
    refine ev_callV 6 [.inl 1, .inl x2] dX0_pitch_85 co_X0_seat ml_RX0_33 cv_X0_seat (by decide) rfl rfl rfl rfl (by decide) (Nat.le_of_ble_eq_true rfl) rfl H (fun r1 u2 H => ?_)
    refine ev_if_eq 95 dX0_pitch_88 (by decide) (fun h => ?_) (fun h => ?_)
    · have H := H.1 h
      refine ev_iconst 0 dX0_pitch_95 (by decide) ?_
      exact ev_iret dX0_pitch_96 rfl H
    · have H := H.2 h
      refine ev_iload_n dX0_pitch_91 rfl ?_
      refine ev_goto 96 dX0_pitch_92 (by decide) ?_
      exact ev_iret dX0_pitch_96 rfl H

set_option maxHeartbeats 4000000 in
set_option maxRecDepth 100000 in
theorem sg_X0_seat_0 {d : Nat} {w : ex_WW} {P : Int32 → ex_WW → Prop} {p0 : Int32} {p1 : Int32} (H : ((p1 = 0 → (vp_in (p0 - 1) 7 ∧ (vp_in 0 7 ∧ ex_Ev d mX0_areInFeud 0 (ex_in [.inr 6, .inl (w 22 (p0 - 1).toNatClampNeg), .inl (w 22 (0 : Int32).toNatClampNeg)] 3) [] w (fun r1 u2 => ((¬ r1 = 0 → P 0 u2) ∧ (r1 = 0 → P 1 u2)))))) ∧ (¬ p1 = 0 → ((p0 < 7 → (vp_in (p0 - 1) 7 ∧ (vp_in (w 22 (p0 - 1).toNatClampNeg) 14 ∧ ex_Ev (d + 1) mX0_seat 58 [some (.inr 6), some (.inl p0), some (.inl p1), some (.inl (p1 &&& ((w 21 (w 22 (p0 - 1).toNatClampNeg).toNatClampNeg) ^^^ (-1)))), some (.inl 0)] [] w P))) ∧ (¬ p0 < 7 → (vp_in (p0 - 1) 7 ∧ (vp_in 0 7 ∧ ex_Ev d mX0_areInFeud 0 (ex_in [.inr 6, .inl (w 22 (p0 - 1).toNatClampNeg), .inl (w 22 (0 : Int32).toNatClampNeg)] 3) [] w (fun r3 u4 => ((¬ r3 = 0 → P 0 u4) ∧ (r3 = 0 → P 1 u4)))))))))) : ex_Ev (d + 1) mX0_seat 0 [some (.inr 6), some (.inl p0), some (.inl p1), none, none] [] w P := by
  refine ev_iload_n dX0_seat_0 rfl ?_
  refine ev_if_eq 10 dX0_seat_1 (by decide) (fun h => ?_) (fun h => ?_)
  · have H := H.1 h
    refine ev_aload_n dX0_seat_10 rfl ?_
    refine ev_aload_n dX0_seat_11 rfl ?_
    refine ev_getR dX0_seat_12 (fo_RX0_15 _ rfl) (by decide) rfl rfl ?_
    refine ev_iload_n dX0_seat_15 rfl ?_
    refine ev_iconst 1 dX0_seat_16 (by decide) ?_
    refine ev_isub dX0_seat_17 ?_
    refine ev_iald dX0_seat_18 (by decide) rfl H.1 ?_
    have H := H.2
    refine ev_aload_n dX0_seat_19 rfl ?_
    refine ev_getR dX0_seat_20 (fo_RX0_15 _ rfl) (by decide) rfl rfl ?_
    refine ev_iconst 0 dX0_seat_23 (by decide) ?_
    refine ev_iald dX0_seat_24 (by decide) rfl H.1 ?_
    have H := H.2
    refine ev_callV 6 [.inl (w 22 (p0 - 1).toNatClampNeg), .inl (w 22 (0 : Int32).toNatClampNeg)] dX0_seat_25 co_X0_areInFeud ml_RX0_37 cv_X0_areInFeud (by decide) rfl rfl rfl rfl (by decide) (Nat.le_of_ble_eq_true rfl) rfl H (fun r1 u2 H => ?_)
    refine ev_if_ne 35 dX0_seat_28 (by decide) (fun h => ?_) (fun h => ?_)
    · have H := H.1 h
      refine ev_iconst 0 dX0_seat_35 (by decide) ?_
      exact ev_zret dX0_seat_36 rfl (by decide) H
    · have H := H.2 h
      refine ev_iconst 1 dX0_seat_31 (by decide) ?_
      refine ev_goto 36 dX0_seat_32 (by decide) ?_
      exact ev_zret dX0_seat_36 rfl (by decide) H
  · have H := H.2 h
    refine ev_iload_n dX0_seat_4 rfl ?_
    refine ev_bipush 7 dX0_seat_5 (by decide) ?_
    refine ev_icmp_lt 37 dX0_seat_7 (by decide) (fun h => ?_) (fun h => ?_)
    · have H := H.1 h
      refine ev_iload_n dX0_seat_37 rfl ?_
      refine ev_aload_n dX0_seat_38 rfl ?_
      refine ev_getR dX0_seat_39 (fo_RX0_9 _ rfl) (by decide) rfl rfl ?_
      refine ev_aload_n dX0_seat_42 rfl ?_
      refine ev_getR dX0_seat_43 (fo_RX0_15 _ rfl) (by decide) rfl rfl ?_
      refine ev_iload_n dX0_seat_46 rfl ?_
      refine ev_iconst 1 dX0_seat_47 (by decide) ?_
      refine ev_isub dX0_seat_48 ?_
      refine ev_iald dX0_seat_49 (by decide) rfl H.1 ?_
      have H := H.2
      refine ev_iald dX0_seat_50 (by decide) rfl H.1 ?_
      have H := H.2
      refine ev_iconst (-1) dX0_seat_51 (by decide) ?_
      refine ev_ixor dX0_seat_52 ?_
      refine ev_iand dX0_seat_53 ?_
      refine ev_istore_n dX0_seat_54 (by decide) ?_
      refine ev_iconst 0 dX0_seat_55 (by decide) ?_
      refine ev_istore dX0_seat_56 (by decide) ?_
      exact H
    · have H := H.2 h
      refine ev_aload_n dX0_seat_10 rfl ?_
      refine ev_aload_n dX0_seat_11 rfl ?_
      refine ev_getR dX0_seat_12 (fo_RX0_15 _ rfl) (by decide) rfl rfl ?_
      refine ev_iload_n dX0_seat_15 rfl ?_
      refine ev_iconst 1 dX0_seat_16 (by decide) ?_
      refine ev_isub dX0_seat_17 ?_
      refine ev_iald dX0_seat_18 (by decide) rfl H.1 ?_
      have H := H.2
      refine ev_aload_n dX0_seat_19 rfl ?_
      refine ev_getR dX0_seat_20 (fo_RX0_15 _ rfl) (by decide) rfl rfl ?_
      refine ev_iconst 0 dX0_seat_23 (by decide) ?_
      refine ev_iald dX0_seat_24 (by decide) rfl H.1 ?_
      have H := H.2
      refine ev_callV 6 [.inl (w 22 (p0 - 1).toNatClampNeg), .inl (w 22 (0 : Int32).toNatClampNeg)] dX0_seat_25 co_X0_areInFeud ml_RX0_37 cv_X0_areInFeud (by decide) rfl rfl rfl rfl (by decide) (Nat.le_of_ble_eq_true rfl) rfl H (fun r3 u4 H => ?_)
      refine ev_if_ne 35 dX0_seat_28 (by decide) (fun h => ?_) (fun h => ?_)
      · have H := H.1 h
        refine ev_iconst 0 dX0_seat_35 (by decide) ?_
        exact ev_zret dX0_seat_36 rfl (by decide) H
      · have H := H.2 h
        refine ev_iconst 1 dX0_seat_31 (by decide) ?_
        refine ev_goto 36 dX0_seat_32 (by decide) ?_
        exact ev_zret dX0_seat_36 rfl (by decide) H

set_option maxHeartbeats 4000000 in
set_option maxRecDepth 100000 in
theorem sg_X0_seat_58 {d : Nat} {w : ex_WW} {P : Int32 → ex_WW → Prop} {x1 : Int32} {x2 : Int32} {x3 : Int32} {x4 : Int32} (H : ((14 ≤ x4 → P 0 w) ∧ (¬ 14 ≤ x4 → (((x3 &&& (1 <<< (x4 &&& 31))) = 0 → ex_Ev (d + 1) mX0_seat 58 [some (.inr 6), some (.inl x1), some (.inl x2), some (.inl x3), some (.inl (x4 + 1))] [] w P) ∧ (¬ (x3 &&& (1 <<< (x4 &&& 31))) = 0 → (vp_in x1 7 ∧ ex_Ev d mX0_seat 0 (ex_in [.inr 6, .inl (x1 + 1), .inl (x2 &&& ((1 <<< (x4 &&& 31)) ^^^ (-1)))] 5) [] (ex_up w 22 x1.toNatClampNeg x4) (fun r1 u2 => ((r1 = 0 → ex_Ev (d + 1) mX0_seat 58 [some (.inr 6), some (.inl x1), some (.inl x2), some (.inl x3), some (.inl (x4 + 1))] [] u2 P) ∧ (¬ r1 = 0 → P 1 u2))))))))) : ex_Ev (d + 1) mX0_seat 58 [some (.inr 6), some (.inl x1), some (.inl x2), some (.inl x3), some (.inl x4)] [] w P := by
  refine ev_iload dX0_seat_58 rfl ?_
  refine ev_bipush 14 dX0_seat_60 (by decide) ?_
  refine ev_icmp_ge 108 dX0_seat_62 (by decide) (fun h => ?_) (fun h => ?_)
  · have H := H.1 h
    refine ev_iconst 0 dX0_seat_108 (by decide) ?_
    exact ev_zret dX0_seat_109 rfl (by decide) H
  · have H := H.2 h
    refine ev_iload_n dX0_seat_65 rfl ?_
    refine ev_iconst 1 dX0_seat_66 (by decide) ?_
    refine ev_iload dX0_seat_67 rfl ?_
    refine ev_ishl dX0_seat_69 ?_
    refine ev_iand dX0_seat_70 ?_
    refine ev_if_eq 102 dX0_seat_71 (by decide) (fun h => ?_) (fun h => ?_)
    · have H := H.1 h
      refine ev_iinc (x4 + 1) dX0_seat_102 rfl rfl (by decide) ?_
      refine ev_goto 58 dX0_seat_105 (by decide) ?_
      exact H
    · have H := H.2 h
      refine ev_aload_n dX0_seat_74 rfl ?_
      refine ev_getR dX0_seat_75 (fo_RX0_15 _ rfl) (by decide) rfl rfl ?_
      refine ev_iload_n dX0_seat_78 rfl ?_
      refine ev_iload dX0_seat_79 rfl ?_
      refine ev_iast dX0_seat_81 (by decide) rfl H.1 ?_
      have H := H.2
      refine ev_aload_n dX0_seat_82 rfl ?_
      refine ev_iload_n dX0_seat_83 rfl ?_
      refine ev_iconst 1 dX0_seat_84 (by decide) ?_
      refine ev_iadd dX0_seat_85 ?_
      refine ev_iload_n dX0_seat_86 rfl ?_
      refine ev_iconst 1 dX0_seat_87 (by decide) ?_
      refine ev_iload dX0_seat_88 rfl ?_
      refine ev_ishl dX0_seat_90 ?_
      refine ev_iconst (-1) dX0_seat_91 (by decide) ?_
      refine ev_ixor dX0_seat_92 ?_
      refine ev_iand dX0_seat_93 ?_
      refine ev_callV 6 [.inl (x1 + 1), .inl (x2 &&& ((1 <<< (x4 &&& 31)) ^^^ (-1)))] dX0_seat_94 co_X0_seat ml_RX0_33 cv_X0_seat (by decide) rfl rfl rfl rfl (by decide) (Nat.le_of_ble_eq_true rfl) rfl H (fun r1 u2 H => ?_)
      refine ev_if_eq 102 dX0_seat_97 (by decide) (fun h => ?_) (fun h => ?_)
      · have H := H.1 h
        refine ev_iinc (x4 + 1) dX0_seat_102 rfl rfl (by decide) ?_
        refine ev_goto 58 dX0_seat_105 (by decide) ?_
        exact H
      · have H := H.2 h
        refine ev_iconst 1 dX0_seat_100 (by decide) ?_
        exact ev_zret dX0_seat_101 rfl (by decide) H

set_option maxHeartbeats 4000000 in
set_option maxRecDepth 100000 in
theorem sg_X1_size_0 {d : Nat} {w : ex_WW} {P : Int32 → ex_WW → Prop} (H : P (w 5 3) w) : ex_Ev d mX1_size 0 [some (.inr 5)] [] w P := by
  refine ev_aload_n dX1_size_0 rfl ?_
  refine ev_getI dX1_size_1 (fo_RX1_21 _ rfl) (by decide) rfl rfl ?_
  exact ev_iret dX1_size_4 rfl H

set_option maxHeartbeats 4000000 in
set_option maxRecDepth 100000 in
theorem sg_X1_isFull_0 {d : Nat} {w : ex_WW} {P : Int32 → ex_WW → Prop} (H : (((w 5 3) < 7 → P 0 w) ∧ (¬ (w 5 3) < 7 → P 1 w))) : ex_Ev d mX1_isFull 0 [some (.inr 5)] [] w P := by
  refine ev_aload_n dX1_isFull_0 rfl ?_
  refine ev_getI dX1_isFull_1 (fo_RX1_21 _ rfl) (by decide) rfl rfl ?_
  refine ev_bipush 7 dX1_isFull_4 (by decide) ?_
  refine ev_icmp_lt 13 dX1_isFull_6 (by decide) (fun h => ?_) (fun h => ?_)
  · have H := H.1 h
    refine ev_iconst 0 dX1_isFull_13 (by decide) ?_
    exact ev_zret dX1_isFull_14 rfl (by decide) H
  · have H := H.2 h
    refine ev_iconst 1 dX1_isFull_9 (by decide) ?_
    refine ev_goto 14 dX1_isFull_10 (by decide) ?_
    exact ev_zret dX1_isFull_14 rfl (by decide) H

set_option maxHeartbeats 4000000 in
set_option maxRecDepth 100000 in
theorem sg_X1_areTwo_0 {d : Nat} {w : ex_WW} {P : Int32 → ex_WW → Prop} {p0 : Int32} {p1 : Int32} (H : ex_Ev (d + 1) mX1_areTwo 2 [some (.inr 5), some (.inl p0), some (.inl p1), some (.inl 0)] [] w P) : ex_Ev (d + 1) mX1_areTwo 0 [some (.inr 5), some (.inl p0), some (.inl p1), none] [] w P := by
  refine ev_iconst 0 dX1_areTwo_0 (by decide) ?_
  refine ev_istore_n dX1_areTwo_1 (by decide) ?_
  exact H

set_option maxHeartbeats 4000000 in
set_option maxRecDepth 100000 in
theorem sg_X1_areTwo_2 {d : Nat} {w : ex_WW} {P : Int32 → ex_WW → Prop} {x1 : Int32} {x2 : Int32} {x3 : Int32} (H : (((w 5 3) ≤ x3 → P 0 w) ∧ (¬ (w 5 3) ≤ x3 → ex_Ev d mX1_isOf 0 (ex_in [.inr 5, .inl x3, .inl x1] 3) [] w (fun r1 u2 => ((r1 = 0 → ex_Ev (d + 1) mX1_areTwo 2 [some (.inr 5), some (.inl x1), some (.inl x2), some (.inl (x3 + 1))] [] u2 P) ∧ (¬ r1 = 0 → ex_Ev d mX1_isOf 0 (ex_in [.inr 5, .inl x3, .inl x2] 3) [] u2 (fun r3 u4 => ((r3 = 0 → ex_Ev (d + 1) mX1_areTwo 2 [some (.inr 5), some (.inl x1), some (.inl x2), some (.inl (x3 + 1))] [] u4 P) ∧ (¬ r3 = 0 → P 1 u4))))))))) : ex_Ev (d + 1) mX1_areTwo 2 [some (.inr 5), some (.inl x1), some (.inl x2), some (.inl x3)] [] w P := by
  refine ev_iload_n dX1_areTwo_2 rfl ?_
  refine ev_aload_n dX1_areTwo_3 rfl ?_
  refine ev_getI dX1_areTwo_4 (fo_RX1_21 _ rfl) (by decide) rfl rfl ?_
  refine ev_icmp_ge 36 dX1_areTwo_7 (by decide) (fun h => ?_) (fun h => ?_)
  · have H := H.1 h
    refine ev_iconst 0 dX1_areTwo_36 (by decide) ?_
    exact ev_zret dX1_areTwo_37 rfl (by decide) H
  · have H := H.2 h
    refine ev_aload_n dX1_areTwo_10 rfl ?_
    refine ev_iload_n dX1_areTwo_11 rfl ?_
    refine ev_iload_n dX1_areTwo_12 rfl ?_
    refine ev_callV 5 [.inl x3, .inl x1] dX1_areTwo_13 co_X1_isOf ml_RX1_25 cv_X1_isOf (by decide) rfl rfl rfl rfl (by decide) (Nat.le_of_ble_eq_true rfl) rfl H (fun r1 u2 H => ?_)
    refine ev_if_eq 30 dX1_areTwo_16 (by decide) (fun h => ?_) (fun h => ?_)
    · have H := H.1 h
      refine ev_iinc (x3 + 1) dX1_areTwo_30 rfl rfl (by decide) ?_
      refine ev_goto 2 dX1_areTwo_33 (by decide) ?_
      exact H
    · have H := H.2 h
      refine ev_aload_n dX1_areTwo_19 rfl ?_
      refine ev_iload_n dX1_areTwo_20 rfl ?_
      refine ev_iload_n dX1_areTwo_21 rfl ?_
      refine ev_callV 5 [.inl x3, .inl x2] dX1_areTwo_22 co_X1_isOf ml_RX1_25 cv_X1_isOf (by decide) rfl rfl rfl rfl (by decide) (Nat.le_of_ble_eq_true rfl) rfl H (fun r3 u4 H => ?_)
      refine ev_if_eq 30 dX1_areTwo_25 (by decide) (fun h => ?_) (fun h => ?_)
      · have H := H.1 h
        refine ev_iinc (x3 + 1) dX1_areTwo_30 rfl rfl (by decide) ?_
        refine ev_goto 2 dX1_areTwo_33 (by decide) ?_
        exact H
      · have H := H.2 h
        refine ev_iconst 1 dX1_areTwo_28 (by decide) ?_
        exact ev_zret dX1_areTwo_29 rfl (by decide) H

set_option maxHeartbeats 4000000 in
set_option maxRecDepth 100000 in
theorem sg_X1_isOf_0 {d : Nat} {w : ex_WW} {P : Int32 → ex_WW → Prop} {p0 : Int32} {p1 : Int32} (H : (vp_in p0 7 ∧ (((w 18 p0.toNatClampNeg) = p1 → P 1 w) ∧ (¬ (w 18 p0.toNatClampNeg) = p1 → (vp_in p0 7 ∧ ((¬ (w 19 p0.toNatClampNeg) = p1 → P 0 w) ∧ ((w 19 p0.toNatClampNeg) = p1 → P 1 w))))))) : ex_Ev d mX1_isOf 0 [some (.inr 5), some (.inl p0), some (.inl p1)] [] w P := by
  refine ev_aload_n dX1_isOf_0 rfl ?_
  refine ev_getR dX1_isOf_1 (fo_RX1_11 _ rfl) (by decide) rfl rfl ?_
  refine ev_iload_n dX1_isOf_4 rfl ?_
  refine ev_iald dX1_isOf_5 (by decide) rfl H.1 ?_
  have H := H.2
  refine ev_iload_n dX1_isOf_6 rfl ?_
  refine ev_icmp_eq 20 dX1_isOf_7 (by decide) (fun h => ?_) (fun h => ?_)
  · have H := H.1 h
    refine ev_iconst 1 dX1_isOf_20 (by decide) ?_
    refine ev_goto 25 dX1_isOf_21 (by decide) ?_
    exact ev_zret dX1_isOf_25 rfl (by decide) H
  · have H := H.2 h
    refine ev_aload_n dX1_isOf_10 rfl ?_
    refine ev_getR dX1_isOf_11 (fo_RX1_15 _ rfl) (by decide) rfl rfl ?_
    refine ev_iload_n dX1_isOf_14 rfl ?_
    refine ev_iald dX1_isOf_15 (by decide) rfl H.1 ?_
    have H := H.2
    refine ev_iload_n dX1_isOf_16 rfl ?_
    refine ev_icmp_ne 24 dX1_isOf_17 (by decide) (fun h => ?_) (fun h => ?_)
    · have H := H.1 h
      refine ev_iconst 0 dX1_isOf_24 (by decide) ?_
      exact ev_zret dX1_isOf_25 rfl (by decide) H
    · have H := H.2 h
      refine ev_iconst 1 dX1_isOf_20 (by decide) ?_
      refine ev_goto 25 dX1_isOf_21 (by decide) ?_
      exact ev_zret dX1_isOf_25 rfl (by decide) H

set_option maxHeartbeats 4000000 in
set_option maxRecDepth 100000 in
theorem sg_X1_add_0 {d : Nat} {w : ex_WW} {P : Int32 → ex_WW → Prop} {p0 : Int32} {p1 : Int32} (H : (vp_in (w 5 3) 7 ∧ (vp_in (w 5 3) 7 ∧ P (w 5 3) (ex_up (ex_up (ex_up w 5 3 ((w 5 3) + 1)) 18 (w 5 3).toNatClampNeg p0) 19 (w 5 3).toNatClampNeg p1)))) : ex_Ev d mX1_add 0 [some (.inr 5), some (.inl p0), some (.inl p1), none] [] w P := by
  refine ev_aload_n dX1_add_0 rfl ?_
  refine ev_getI dX1_add_1 (fo_RX1_21 _ rfl) (by decide) rfl rfl ?_
  refine ev_istore_n dX1_add_4 (by decide) ?_
  refine ev_aload_n dX1_add_5 rfl ?_
  refine ev_dup dX1_add_6 ?_
  refine ev_getI dX1_add_7 (fo_RX1_21 _ rfl) (by decide) rfl rfl ?_
  refine ev_iconst 1 dX1_add_10 (by decide) ?_
  refine ev_iadd dX1_add_11 ?_
  refine ev_put dX1_add_12 (fo_RX1_21 _ rfl) fp_1_3 (by decide) rfl rfl (vp_nar_int _) rfl ?_
  refine ev_aload_n dX1_add_15 rfl ?_
  refine ev_getR dX1_add_16 (fo_RX1_11 _ rfl) (by decide) rfl rfl ?_
  refine ev_iload_n dX1_add_19 rfl ?_
  refine ev_iload_n dX1_add_20 rfl ?_
  refine ev_iast dX1_add_21 (by decide) rfl H.1 ?_
  have H := H.2
  refine ev_aload_n dX1_add_22 rfl ?_
  refine ev_getR dX1_add_23 (fo_RX1_15 _ rfl) (by decide) rfl rfl ?_
  refine ev_iload_n dX1_add_26 rfl ?_
  refine ev_iload_n dX1_add_27 rfl ?_
  refine ev_iast dX1_add_28 (by decide) rfl H.1 ?_
  have H := H.2
  refine ev_iload_n dX1_add_29 rfl ?_
  exact ev_iret dX1_add_30 rfl H

set_option maxHeartbeats 4000000 in
set_option maxRecDepth 100000 in
theorem sg_X1_dropLatest_0 {d : Nat} {w : ex_WW} {P : Int32 → ex_WW → Prop} (H : P 0 (ex_up w 5 3 ((w 5 3) - 1))) : ex_Ev d mX1_dropLatest 0 [some (.inr 5)] [] w P := by
  refine ev_aload_n dX1_dropLatest_0 rfl ?_
  refine ev_dup dX1_dropLatest_1 ?_
  refine ev_getI dX1_dropLatest_2 (fo_RX1_21 _ rfl) (by decide) rfl rfl ?_
  refine ev_iconst 1 dX1_dropLatest_5 (by decide) ?_
  refine ev_isub dX1_dropLatest_6 ?_
  refine ev_put dX1_dropLatest_7 (fo_RX1_21 _ rfl) fp_1_3 (by decide) rfl rfl (vp_nar_int _) rfl ?_
  exact ev_vret dX1_dropLatest_10 rfl H

set_option maxHeartbeats 4000000 in
set_option maxRecDepth 100000 in
theorem sg_X1_plannedTurn_0 {d : Nat} {w : ex_WW} {P : Int32 → ex_WW → Prop} {p0 : Int32} (H : (vp_in p0 7 ∧ P (w 20 p0.toNatClampNeg) w)) : ex_Ev d mX1_plannedTurn 0 [some (.inr 5), some (.inl p0)] [] w P := by
  refine ev_aload_n dX1_plannedTurn_0 rfl ?_
  refine ev_getR dX1_plannedTurn_1 (fo_RX1_18 _ rfl) (by decide) rfl rfl ?_
  refine ev_iload_n dX1_plannedTurn_4 rfl ?_
  refine ev_iald dX1_plannedTurn_5 (by decide) rfl H.1 ?_
  have H := H.2
  exact ev_iret dX1_plannedTurn_6 rfl H

set_option maxHeartbeats 4000000 in
set_option maxRecDepth 100000 in
theorem sg_X1_plannedLength_0 {d : Nat} {w : ex_WW} {P : Int32 → ex_WW → Prop} (H : ex_Ev (d + 1) mX1_plannedLength 4 [some (.inr 5), some (.inl 0), some (.inl 0)] [] w P) : ex_Ev (d + 1) mX1_plannedLength 0 [some (.inr 5), none, none] [] w P := by
  refine ev_iconst 0 dX1_plannedLength_0 (by decide) ?_
  refine ev_istore_n dX1_plannedLength_1 (by decide) ?_
  refine ev_iconst 0 dX1_plannedLength_2 (by decide) ?_
  refine ev_istore_n dX1_plannedLength_3 (by decide) ?_
  exact H

set_option maxHeartbeats 4000000 in
set_option maxRecDepth 100000 in
theorem sg_X1_plannedLength_4 {d : Nat} {w : ex_WW} {P : Int32 → ex_WW → Prop} {x1 : Int32} {x2 : Int32} (H : (((w 5 3) ≤ x2 → P x1 w) ∧ (¬ (w 5 3) ≤ x2 → (vp_in x2 7 ∧ ex_Ev d mJ9_max_7cf53 0 (ex_in [.inl x1, .inl ((w 20 x2.toNatClampNeg) + 1)] 2) [] w (fun r1 u2 => ex_Ev (d + 1) mX1_plannedLength 4 [some (.inr 5), some (.inl r1), some (.inl (x2 + 1))] [] u2 P))))) : ex_Ev (d + 1) mX1_plannedLength 4 [some (.inr 5), some (.inl x1), some (.inl x2)] [] w P := by
  refine ev_iload_n dX1_plannedLength_4 rfl ?_
  refine ev_aload_n dX1_plannedLength_5 rfl ?_
  refine ev_getI dX1_plannedLength_6 (fo_RX1_21 _ rfl) (by decide) rfl rfl ?_
  refine ev_icmp_ge 31 dX1_plannedLength_9 (by decide) (fun h => ?_) (fun h => ?_)
  · have H := H.1 h
    refine ev_iload_n dX1_plannedLength_31 rfl ?_
    exact ev_iret dX1_plannedLength_32 rfl H
  · have H := H.2 h
    refine ev_iload_n dX1_plannedLength_12 rfl ?_
    refine ev_aload_n dX1_plannedLength_13 rfl ?_
    refine ev_getR dX1_plannedLength_14 (fo_RX1_18 _ rfl) (by decide) rfl rfl ?_
    refine ev_iload_n dX1_plannedLength_17 rfl ?_
    refine ev_iald dX1_plannedLength_18 (by decide) rfl H.1 ?_
    have H := H.2
    refine ev_iconst 1 dX1_plannedLength_19 (by decide) ?_
    refine ev_iadd dX1_plannedLength_20 ?_
    refine ev_callS [.inl x1, .inl ((w 20 x2.toNatClampNeg) + 1)] dX1_plannedLength_21 co_J9_max_7cf53 ml_RX1_29 cs_J9_max_7cf53 rfl rfl (by decide) (Nat.le_of_ble_eq_true rfl) rfl H (fun r1 u2 H => ?_)
    refine ev_istore_n dX1_plannedLength_24 (by decide) ?_
    refine ev_iinc (x2 + 1) dX1_plannedLength_25 rfl rfl (by decide) ?_
    refine ev_goto 4 dX1_plannedLength_28 (by decide) ?_
    exact H

set_option maxHeartbeats 4000000 in
set_option maxRecDepth 100000 in
theorem sg_X1_plan_0 {d : Nat} {w : ex_WW} {P : Int32 → ex_WW → Prop} (H : ex_Ev d mX1_countOfBusiest 0 (ex_in [.inr 5] 5) [] w (fun r1 u2 => ex_Ev (d + 1) mX1_plan 9 [some (.inr 5), some (.inl (2 * (r1 - 1)))] [] u2 P)) : ex_Ev (d + 1) mX1_plan 0 [some (.inr 5), none] [] w P := by
  refine ev_iconst 2 dX1_plan_0 (by decide) ?_
  refine ev_aload_n dX1_plan_1 rfl ?_
  refine ev_callV 5 [] dX1_plan_2 co_X1_countOfBusiest ml_RX1_35 cv_X1_countOfBusiest (by decide) rfl rfl rfl rfl (by decide) (Nat.le_of_ble_eq_true rfl) rfl H (fun r1 u2 H => ?_)
  refine ev_iconst 1 dX1_plan_5 (by decide) ?_
  refine ev_isub dX1_plan_6 ?_
  refine ev_imul dX1_plan_7 ?_
  refine ev_istore_n dX1_plan_8 (by decide) ?_
  exact H

set_option maxHeartbeats 4000000 in
set_option maxRecDepth 100000 in
theorem sg_X1_plan_9 {d : Nat} {w : ex_WW} {P : Int32 → ex_WW → Prop} {x1 : Int32} (H : ((12 < x1 → P 0 w) ∧ (¬ 12 < x1 → ex_Ev d mX1_settle 0 (ex_in [.inr 5, .inl 0, .inl x1] 4) [] w (fun r1 u2 => ((r1 = 0 → ex_Ev (d + 1) mX1_plan 9 [some (.inr 5), some (.inl (x1 + 2))] [] u2 P) ∧ (¬ r1 = 0 → P 0 u2)))))) : ex_Ev (d + 1) mX1_plan 9 [some (.inr 5), some (.inl x1)] [] w P := by
  refine ev_iload_n dX1_plan_9 rfl ?_
  refine ev_bipush 12 dX1_plan_10 (by decide) ?_
  refine ev_icmp_gt 31 dX1_plan_12 (by decide) (fun h => ?_) (fun h => ?_)
  · have H := H.1 h
    exact ev_vret dX1_plan_31 rfl H
  · have H := H.2 h
    refine ev_aload_n dX1_plan_15 rfl ?_
    refine ev_iconst 0 dX1_plan_16 (by decide) ?_
    refine ev_iload_n dX1_plan_17 rfl ?_
    refine ev_callV 5 [.inl 0, .inl x1] dX1_plan_18 co_X1_settle ml_RX1_39 cv_X1_settle (by decide) rfl rfl rfl rfl (by decide) (Nat.le_of_ble_eq_true rfl) rfl H (fun r1 u2 H => ?_)
    refine ev_if_eq 25 dX1_plan_21 (by decide) (fun h => ?_) (fun h => ?_)
    · have H := H.1 h
      refine ev_iinc (x1 + 2) dX1_plan_25 rfl rfl (by decide) ?_
      refine ev_goto 9 dX1_plan_28 (by decide) ?_
      exact H
    · have H := H.2 h
      exact ev_vret dX1_plan_24 rfl H

set_option maxHeartbeats 4000000 in
set_option maxRecDepth 100000 in
theorem sg_X1_countOfBusiest_0 {d : Nat} {w : ex_WW} {P : Int32 → ex_WW → Prop} (H : ex_Ev (d + 1) mX1_countOfBusiest 4 [some (.inr 5), some (.inl 1), some (.inl 0), none, none] [] w P) : ex_Ev (d + 1) mX1_countOfBusiest 0 [some (.inr 5), none, none, none, none] [] w P := by
  refine ev_iconst 1 dX1_countOfBusiest_0 (by decide) ?_
  refine ev_istore_n dX1_countOfBusiest_1 (by decide) ?_
  refine ev_iconst 0 dX1_countOfBusiest_2 (by decide) ?_
  refine ev_istore_n dX1_countOfBusiest_3 (by decide) ?_
  exact H

set_option maxHeartbeats 4000000 in
set_option maxRecDepth 100000 in
theorem sg_X1_countOfBusiest_4 {d : Nat} {w : ex_WW} {P : Int32 → ex_WW → Prop} {x1 : Int32} {x2 : Int32} (H : ((14 ≤ x2 → P x1 w) ∧ (¬ 14 ≤ x2 → ex_Ev (d + 1) mX1_countOfBusiest 15 [some (.inr 5), some (.inl x1), some (.inl x2), some (.inl 0), some (.inl 0)] [] w P))) : ex_Ev (d + 1) mX1_countOfBusiest 4 [some (.inr 5), some (.inl x1), some (.inl x2), none, none] [] w P := by
  refine ev_iload_n dX1_countOfBusiest_4 rfl ?_
  refine ev_bipush 14 dX1_countOfBusiest_5 (by decide) ?_
  refine ev_icmp_ge 55 dX1_countOfBusiest_7 (by decide) (fun h => ?_) (fun h => ?_)
  · have H := H.1 h
    refine ev_iload_n dX1_countOfBusiest_55 rfl ?_
    exact ev_iret dX1_countOfBusiest_56 rfl H
  · have H := H.2 h
    refine ev_iconst 0 dX1_countOfBusiest_10 (by decide) ?_
    refine ev_istore_n dX1_countOfBusiest_11 (by decide) ?_
    refine ev_iconst 0 dX1_countOfBusiest_12 (by decide) ?_
    refine ev_istore dX1_countOfBusiest_13 (by decide) ?_
    exact H

set_option maxHeartbeats 4000000 in
set_option maxRecDepth 100000 in
theorem sg_X1_countOfBusiest_15 {d : Nat} {w : ex_WW} {P : Int32 → ex_WW → Prop} {x1 : Int32} {x2 : Int32} {x3 : Int32} {x4 : Int32} (H : (((w 5 3) ≤ x4 → ex_Ev d mJ9_max_7cf53 0 (ex_in [.inl x1, .inl x3] 2) [] w (fun r1 u2 => ex_Ev (d + 1) mX1_countOfBusiest 4 [some (.inr 5), some (.inl r1), some (.inl (x2 + 1)), none, none] [] u2 P)) ∧ (¬ (w 5 3) ≤ x4 → ex_Ev d mX1_isOf 0 (ex_in [.inr 5, .inl x4, .inl x2] 3) [] w (fun r3 u4 => ((r3 = 0 → ex_Ev (d + 1) mX1_countOfBusiest 15 [some (.inr 5), some (.inl x1), some (.inl x2), some (.inl x3), some (.inl (x4 + 1))] [] u4 P) ∧ (¬ r3 = 0 → ex_Ev (d + 1) mX1_countOfBusiest 15 [some (.inr 5), some (.inl x1), some (.inl x2), some (.inl (x3 + 1)), some (.inl (x4 + 1))] [] u4 P)))))) : ex_Ev (d + 1) mX1_countOfBusiest 15 [some (.inr 5), some (.inl x1), some (.inl x2), some (.inl x3), some (.inl x4)] [] w P := by
  refine ev_iload dX1_countOfBusiest_15 rfl ?_
  refine ev_aload_n dX1_countOfBusiest_17 rfl ?_
  refine ev_getI dX1_countOfBusiest_18 (fo_RX1_21 _ rfl) (by decide) rfl rfl ?_
  refine ev_icmp_ge 43 dX1_countOfBusiest_21 (by decide) (fun h => ?_) (fun h => ?_)
  · have H := H.1 h
    refine ev_iload_n dX1_countOfBusiest_43 rfl ?_
    refine ev_iload_n dX1_countOfBusiest_44 rfl ?_
    refine ev_callS [.inl x1, .inl x3] dX1_countOfBusiest_45 co_J9_max_7cf53 ml_RX1_29 cs_J9_max_7cf53 rfl rfl (by decide) (Nat.le_of_ble_eq_true rfl) rfl H (fun r1 u2 H => ?_)
    refine ev_istore_n dX1_countOfBusiest_48 (by decide) ?_
    refine ev_iinc (x2 + 1) dX1_countOfBusiest_49 rfl rfl (by decide) ?_
    refine ev_goto 4 dX1_countOfBusiest_52 (by decide) ?_
    refine ev_drop 3 ?_
    refine ev_drop 4 ?_
    exact H
  · have H := H.2 h
    refine ev_aload_n dX1_countOfBusiest_24 rfl ?_
    refine ev_iload dX1_countOfBusiest_25 rfl ?_
    refine ev_iload_n dX1_countOfBusiest_27 rfl ?_
    refine ev_callV 5 [.inl x4, .inl x2] dX1_countOfBusiest_28 co_X1_isOf ml_RX1_25 cv_X1_isOf (by decide) rfl rfl rfl rfl (by decide) (Nat.le_of_ble_eq_true rfl) rfl H (fun r3 u4 H => ?_)
    refine ev_if_eq 37 dX1_countOfBusiest_31 (by decide) (fun h => ?_) (fun h => ?_)
    · have H := H.1 h
      refine ev_iinc (x4 + 1) dX1_countOfBusiest_37 rfl rfl (by decide) ?_
      refine ev_goto 15 dX1_countOfBusiest_40 (by decide) ?_
      exact H
    · have H := H.2 h
      refine ev_iinc (x3 + 1) dX1_countOfBusiest_34 rfl rfl (by decide) ?_
      refine ev_iinc (x4 + 1) dX1_countOfBusiest_37 rfl rfl (by decide) ?_
      refine ev_goto 15 dX1_countOfBusiest_40 (by decide) ?_
      exact H

set_option maxHeartbeats 4000000 in
set_option maxRecDepth 100000 in
theorem sg_X1_settle_0 {d : Nat} {w : ex_WW} {P : Int32 → ex_WW → Prop} {p0 : Int32} {p1 : Int32} (H : ((p0 < (w 5 3) → ex_Ev (d + 1) mX1_settle 12 [some (.inr 5), some (.inl p0), some (.inl p1), some (.inl 0)] [] w P) ∧ (¬ p0 < (w 5 3) → P 1 w))) : ex_Ev (d + 1) mX1_settle 0 [some (.inr 5), some (.inl p0), some (.inl p1), none] [] w P := by
  refine ev_iload_n dX1_settle_0 rfl ?_
  refine ev_aload_n dX1_settle_1 rfl ?_
  refine ev_getI dX1_settle_2 (fo_RX1_21 _ rfl) (by decide) rfl rfl ?_
  refine ev_icmp_lt 10 dX1_settle_5 (by decide) (fun h => ?_) (fun h => ?_)
  · have H := H.1 h
    refine ev_iconst 0 dX1_settle_10 (by decide) ?_
    refine ev_istore_n dX1_settle_11 (by decide) ?_
    exact H
  · have H := H.2 h
    refine ev_iconst 1 dX1_settle_8 (by decide) ?_
    exact ev_zret dX1_settle_9 rfl (by decide) H

set_option maxHeartbeats 4000000 in
set_option maxRecDepth 100000 in
theorem sg_X1_settle_12 {d : Nat} {w : ex_WW} {P : Int32 → ex_WW → Prop} {x1 : Int32} {x2 : Int32} {x3 : Int32} (H : ((x2 < x3 → P 0 w) ∧ (¬ x2 < x3 → ex_Ev d mX1_isFree 0 (ex_in [.inr 5, .inl x1, .inl x3] 5) [] w (fun r1 u2 => ((r1 = 0 → ex_Ev (d + 1) mX1_settle 12 [some (.inr 5), some (.inl x1), some (.inl x2), some (.inl (x3 + 2))] [] u2 P) ∧ (¬ r1 = 0 → (vp_in x1 7 ∧ ex_Ev d mX1_settle 0 (ex_in [.inr 5, .inl (x1 + 1), .inl x2] 4) [] (ex_up u2 20 x1.toNatClampNeg x3) (fun r3 u4 => ((r3 = 0 → ex_Ev (d + 1) mX1_settle 12 [some (.inr 5), some (.inl x1), some (.inl x2), some (.inl (x3 + 2))] [] u4 P) ∧ (¬ r3 = 0 → P 1 u4)))))))))) : ex_Ev (d + 1) mX1_settle 12 [some (.inr 5), some (.inl x1), some (.inl x2), some (.inl x3)] [] w P := by
  refine ev_iload_n dX1_settle_12 rfl ?_
  refine ev_iload_n dX1_settle_13 rfl ?_
  refine ev_icmp_gt 52 dX1_settle_14 (by decide) (fun h => ?_) (fun h => ?_)
  · have H := H.1 h
    refine ev_iconst 0 dX1_settle_52 (by decide) ?_
    exact ev_zret dX1_settle_53 rfl (by decide) H
  · have H := H.2 h
    refine ev_aload_n dX1_settle_17 rfl ?_
    refine ev_iload_n dX1_settle_18 rfl ?_
    refine ev_iload_n dX1_settle_19 rfl ?_
    refine ev_callV 5 [.inl x1, .inl x3] dX1_settle_20 co_X1_isFree ml_RX1_42 cv_X1_isFree (by decide) rfl rfl rfl rfl (by decide) (Nat.le_of_ble_eq_true rfl) rfl H (fun r1 u2 H => ?_)
    refine ev_if_eq 46 dX1_settle_23 (by decide) (fun h => ?_) (fun h => ?_)
    · have H := H.1 h
      refine ev_iinc (x3 + 2) dX1_settle_46 rfl rfl (by decide) ?_
      refine ev_goto 12 dX1_settle_49 (by decide) ?_
      exact H
    · have H := H.2 h
      refine ev_aload_n dX1_settle_26 rfl ?_
      refine ev_getR dX1_settle_27 (fo_RX1_18 _ rfl) (by decide) rfl rfl ?_
      refine ev_iload_n dX1_settle_30 rfl ?_
      refine ev_iload_n dX1_settle_31 rfl ?_
      refine ev_iast dX1_settle_32 (by decide) rfl H.1 ?_
      have H := H.2
      refine ev_aload_n dX1_settle_33 rfl ?_
      refine ev_iload_n dX1_settle_34 rfl ?_
      refine ev_iconst 1 dX1_settle_35 (by decide) ?_
      refine ev_iadd dX1_settle_36 ?_
      refine ev_iload_n dX1_settle_37 rfl ?_
      refine ev_callV 5 [.inl (x1 + 1), .inl x2] dX1_settle_38 co_X1_settle ml_RX1_39 cv_X1_settle (by decide) rfl rfl rfl rfl (by decide) (Nat.le_of_ble_eq_true rfl) rfl H (fun r3 u4 H => ?_)
      refine ev_if_eq 46 dX1_settle_41 (by decide) (fun h => ?_) (fun h => ?_)
      · have H := H.1 h
        refine ev_iinc (x3 + 2) dX1_settle_46 rfl rfl (by decide) ?_
        refine ev_goto 12 dX1_settle_49 (by decide) ?_
        exact H
      · have H := H.2 h
        refine ev_iconst 1 dX1_settle_44 (by decide) ?_
        exact ev_zret dX1_settle_45 rfl (by decide) H

set_option maxHeartbeats 4000000 in
set_option maxRecDepth 100000 in
theorem sg_X1_isFree_0 {d : Nat} {w : ex_WW} {P : Int32 → ex_WW → Prop} {p0 : Int32} {p1 : Int32} (H : ex_Ev (d + 1) mX1_isFree 2 [some (.inr 5), some (.inl p0), some (.inl p1), some (.inl 0), none] [] w P) : ex_Ev (d + 1) mX1_isFree 0 [some (.inr 5), some (.inl p0), some (.inl p1), none, none] [] w P := by
  refine ev_iconst 0 dX1_isFree_0 (by decide) ?_
  refine ev_istore_n dX1_isFree_1 (by decide) ?_
  exact H

set_option maxHeartbeats 4000000 in
set_option maxRecDepth 100000 in
theorem sg_X1_isFree_2 {d : Nat} {w : ex_WW} {P : Int32 → ex_WW → Prop} {x1 : Int32} {x2 : Int32} {x3 : Int32} (H : ((x1 ≤ x3 → P 1 w) ∧ (¬ x1 ≤ x3 → (vp_in x1 7 ∧ ex_Ev d mX1_isOf 0 (ex_in [.inr 5, .inl x3, .inl (w 18 x1.toNatClampNeg)] 3) [] w (fun r1 u2 => ((¬ r1 = 0 → ex_Ev (d + 1) mX1_isFree 42 [some (.inr 5), some (.inl x1), some (.inl x2), some (.inl x3), some (.inl 1)] [] u2 P) ∧ (r1 = 0 → (vp_in x1 7 ∧ ex_Ev d mX1_isOf 0 (ex_in [.inr 5, .inl x3, .inl (u2 19 x1.toNatClampNeg)] 3) [] u2 (fun r3 u4 => ((r3 = 0 → ex_Ev (d + 1) mX1_isFree 42 [some (.inr 5), some (.inl x1), some (.inl x2), some (.inl x3), some (.inl 0)] [] u4 P) ∧ (¬ r3 = 0 → ex_Ev (d + 1) mX1_isFree 42 [some (.inr 5), some (.inl x1), some (.inl x2), some (.inl x3), some (.inl 1)] [] u4 P))))))))))) : ex_Ev (d + 1) mX1_isFree 2 [some (.inr 5), some (.inl x1), some (.inl x2), some (.inl x3), none] [] w P := by
  refine ev_iload_n dX1_isFree_2 rfl ?_
  refine ev_iload_n dX1_isFree_3 rfl ?_
  refine ev_icmp_ge 70 dX1_isFree_4 (by decide) (fun h => ?_) (fun h => ?_)
  · have H := H.1 h
    refine ev_iconst 1 dX1_isFree_70 (by decide) ?_
    exact ev_zret dX1_isFree_71 rfl (by decide) H
  · have H := H.2 h
    refine ev_aload_n dX1_isFree_7 rfl ?_
    refine ev_iload_n dX1_isFree_8 rfl ?_
    refine ev_aload_n dX1_isFree_9 rfl ?_
    refine ev_getR dX1_isFree_10 (fo_RX1_11 _ rfl) (by decide) rfl rfl ?_
    refine ev_iload_n dX1_isFree_13 rfl ?_
    refine ev_iald dX1_isFree_14 (by decide) rfl H.1 ?_
    have H := H.2
    refine ev_callV 5 [.inl x3, .inl (w 18 x1.toNatClampNeg)] dX1_isFree_15 co_X1_isOf ml_RX1_25 cv_X1_isOf (by decide) rfl rfl rfl rfl (by decide) (Nat.le_of_ble_eq_true rfl) rfl H (fun r1 u2 H => ?_)
    refine ev_if_ne 35 dX1_isFree_18 (by decide) (fun h => ?_) (fun h => ?_)
    · have H := H.1 h
      refine ev_iconst 1 dX1_isFree_35 (by decide) ?_
      refine ev_goto 40 dX1_isFree_36 (by decide) ?_
      refine ev_istore dX1_isFree_40 (by decide) ?_
      exact H
    · have H := H.2 h
      refine ev_aload_n dX1_isFree_21 rfl ?_
      refine ev_iload_n dX1_isFree_22 rfl ?_
      refine ev_aload_n dX1_isFree_23 rfl ?_
      refine ev_getR dX1_isFree_24 (fo_RX1_15 _ rfl) (by decide) rfl rfl ?_
      refine ev_iload_n dX1_isFree_27 rfl ?_
      refine ev_iald dX1_isFree_28 (by decide) rfl H.1 ?_
      have H := H.2
      refine ev_callV 5 [.inl x3, .inl (u2 19 x1.toNatClampNeg)] dX1_isFree_29 co_X1_isOf ml_RX1_25 cv_X1_isOf (by decide) rfl rfl rfl rfl (by decide) (Nat.le_of_ble_eq_true rfl) rfl H (fun r3 u4 H => ?_)
      refine ev_if_eq 39 dX1_isFree_32 (by decide) (fun h => ?_) (fun h => ?_)
      · have H := H.1 h
        refine ev_iconst 0 dX1_isFree_39 (by decide) ?_
        refine ev_istore dX1_isFree_40 (by decide) ?_
        exact H
      · have H := H.2 h
        refine ev_iconst 1 dX1_isFree_35 (by decide) ?_
        refine ev_goto 40 dX1_isFree_36 (by decide) ?_
        refine ev_istore dX1_isFree_40 (by decide) ?_
        exact H

set_option maxHeartbeats 4000000 in
set_option maxRecDepth 100000 in
theorem sg_X1_isFree_42 {d : Nat} {w : ex_WW} {P : Int32 → ex_WW → Prop} {x1 : Int32} {x2 : Int32} {x3 : Int32} {x4 : Int32} (H : ((x4 = 0 → ex_Ev (d + 1) mX1_isFree 2 [some (.inr 5), some (.inl x1), some (.inl x2), some (.inl (x3 + 1)), none] [] w P) ∧ (¬ x4 = 0 → (vp_in x3 7 ∧ ex_Ev d mJ9_abs_0f7a4 0 (ex_in [.inl ((w 20 x3.toNatClampNeg) - x2)] 1) [] w (fun r1 u2 => ((2 ≤ r1 → ex_Ev (d + 1) mX1_isFree 2 [some (.inr 5), some (.inl x1), some (.inl x2), some (.inl (x3 + 1)), none] [] u2 P) ∧ (¬ 2 ≤ r1 → P 0 u2))))))) : ex_Ev (d + 1) mX1_isFree 42 [some (.inr 5), some (.inl x1), some (.inl x2), some (.inl x3), some (.inl x4)] [] w P := by
  refine ev_iload dX1_isFree_42 rfl ?_
  refine ev_if_eq 64 dX1_isFree_44 (by decide) (fun h => ?_) (fun h => ?_)
  · have H := H.1 h
    refine ev_iinc (x3 + 1) dX1_isFree_64 rfl rfl (by decide) ?_
    refine ev_goto 2 dX1_isFree_67 (by decide) ?_
    refine ev_drop 4 ?_
    exact H
  · have H := H.2 h
    refine ev_aload_n dX1_isFree_47 rfl ?_
    refine ev_getR dX1_isFree_48 (fo_RX1_18 _ rfl) (by decide) rfl rfl ?_
    refine ev_iload_n dX1_isFree_51 rfl ?_
    refine ev_iald dX1_isFree_52 (by decide) rfl H.1 ?_
    have H := H.2
    refine ev_iload_n dX1_isFree_53 rfl ?_
    refine ev_isub dX1_isFree_54 ?_
    refine ev_callS [.inl ((w 20 x3.toNatClampNeg) - x2)] dX1_isFree_55 co_J9_abs_0f7a4 ml_RX1_45 cs_J9_abs_0f7a4 rfl rfl (by decide) (Nat.le_of_ble_eq_true rfl) rfl H (fun r1 u2 H => ?_)
    refine ev_iconst 2 dX1_isFree_58 (by decide) ?_
    refine ev_icmp_ge 64 dX1_isFree_59 (by decide) (fun h => ?_) (fun h => ?_)
    · have H := H.1 h
      refine ev_iinc (x3 + 1) dX1_isFree_64 rfl rfl (by decide) ?_
      refine ev_goto 2 dX1_isFree_67 (by decide) ?_
      refine ev_drop 4 ?_
      exact H
    · have H := H.2 h
      refine ev_iconst 0 dX1_isFree_62 (by decide) ?_
      exact ev_zret dX1_isFree_63 rfl (by decide) H

