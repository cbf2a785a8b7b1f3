set_option maxHeartbeats 4000000 in
set_option maxRecDepth 100000 in
theorem sg_X6_knight_0 {d : Nat} {w : ex_WW} {P : Int32 → ex_WW → Prop} {p0 : Int32} {p1 : Int32} {p2 : Int32} {p3 : Int32} (H : ex_Ev d mX4_mayBeRank 0 (ex_in [.inl p0] 1) [] w (fun r1 u2 => ((r1 = 0 → P (-1) u2) ∧ (¬ r1 = 0 → ex_Ev d mX4_mayBeArms 0 (ex_in [.inl p1, .inl p2, .inl p3] 3) [] u2 (fun r3 u4 => ((¬ r3 = 0 → ex_Ev d mX4_isFull 0 (ex_in [.inr 1] 1) [] u4 (fun r5 u6 => ((r5 = 0 → ex_Ev d mX4_enter 0 (ex_in [.inr 1, .inl p0, .inl p1, .inl p2, .inl p3] 6) [] u6 (fun r7 u8 => P r7 u8)) ∧ (¬ r5 = 0 → P (-2) u6)))) ∧ (r3 = 0 → P (-1) u4))))))) : ex_Ev (d + 1) mX6_knight 0 [some (.inr 0), some (.inl p0), some (.inl p1), some (.inl p2), some (.inl p3)] [] w P := by
  refine ev_iload_n dX6_knight_0 rfl ?_
  refine ev_callS [.inl p0] dX6_knight_1 co_X4_mayBeRank ml_RX6_53 cs_X4_mayBeRank rfl rfl (by decide) (Nat.le_of_ble_eq_true rfl) rfl H (fun r1 u2 H => ?_)
  refine ev_if_eq 17 dX6_knight_4 (by decide) (fun h => ?_) (fun h => ?_)
  · have H := H.1 h
    refine ev_iconst (-1) dX6_knight_17 (by decide) ?_
    exact ev_iret dX6_knight_18 rfl H
  · have H := H.2 h
    refine ev_iload_n dX6_knight_7 rfl ?_
    refine ev_iload_n dX6_knight_8 rfl ?_
    refine ev_iload dX6_knight_9 rfl ?_
    refine ev_callS [.inl p1, .inl p2, .inl p3] dX6_knight_11 co_X4_mayBeArms ml_RX6_57 cs_X4_mayBeArms rfl rfl (by decide) (Nat.le_of_ble_eq_true rfl) rfl H (fun r3 u4 H => ?_)
    refine ev_if_ne 19 dX6_knight_14 (by decide) (fun h => ?_) (fun h => ?_)
    · have H := H.1 h
      refine ev_aload_n dX6_knight_19 rfl ?_
      refine ev_getR dX6_knight_20 (fo_RX6_10 _ rfl) (by decide) rfl rfl ?_
      refine ev_callV 1 [] dX6_knight_23 co_X4_isFull ml_RX6_61 cv_X4_isFull (by decide) rfl rfl rfl rfl (by decide) (Nat.le_of_ble_eq_true rfl) rfl H (fun r5 u6 H => ?_)
      refine ev_if_eq 32 dX6_knight_26 (by decide) (fun h => ?_) (fun h => ?_)
      · have H := H.1 h
        refine ev_aload_n dX6_knight_32 rfl ?_
        refine ev_getR dX6_knight_33 (fo_RX6_10 _ rfl) (by decide) rfl rfl ?_
        refine ev_iload_n dX6_knight_36 rfl ?_
        refine ev_iload_n dX6_knight_37 rfl ?_
        refine ev_iload_n dX6_knight_38 rfl ?_
        refine ev_iload dX6_knight_39 rfl ?_
        refine ev_callV 1 [.inl p0, .inl p1, .inl p2, .inl p3] dX6_knight_41 co_X4_enter ml_RX6_65 cv_X4_enter (by decide) rfl rfl rfl rfl (by decide) (Nat.le_of_ble_eq_true rfl) rfl H (fun r7 u8 H => ?_)
        exact ev_iret dX6_knight_44 rfl H
      · have H := H.2 h
        refine ev_bipush (-2) dX6_knight_29 (by decide) ?_
        exact ev_iret dX6_knight_31 rfl H
    · have H := H.2 h
      refine ev_iconst (-1) dX6_knight_17 (by decide) ?_
      exact ev_iret dX6_knight_18 rfl H

set_option maxHeartbeats 4000000 in
set_option maxRecDepth 100000 in
theorem sg_X6_arms_0 {d : Nat} {w : ex_WW} {P : Int32 → ex_WW → Prop} {p0 : Int32} {p1 : Int32} {p2 : Int32} {p3 : Int32} (H : ex_Ev d mX4_has 0 (ex_in [.inr 1, .inl p0] 2) [] w (fun r1 u2 => ((r1 = 0 → P (-1) u2) ∧ (¬ r1 = 0 → ex_Ev d mX4_mayBeArms 0 (ex_in [.inl p1, .inl p2, .inl p3] 3) [] u2 (fun r3 u4 => ((¬ r3 = 0 → ex_Ev d mX4_paint 0 (ex_in [.inr 1, .inl p0, .inl p1, .inl p2, .inl p3] 5) [] u4 (fun _ u6 => P 1 u6)) ∧ (r3 = 0 → P (-1) u4))))))) : ex_Ev (d + 1) mX6_arms 0 [some (.inr 0), some (.inl p0), some (.inl p1), some (.inl p2), some (.inl p3)] [] w P := by
  refine ev_aload_n dX6_arms_0 rfl ?_
  refine ev_getR dX6_arms_1 (fo_RX6_10 _ rfl) (by decide) rfl rfl ?_
  refine ev_iload_n dX6_arms_4 rfl ?_
  refine ev_callV 1 [.inl p0] dX6_arms_5 co_X4_has ml_RX6_69 cv_X4_has (by decide) rfl rfl rfl rfl (by decide) (Nat.le_of_ble_eq_true rfl) rfl H (fun r1 u2 H => ?_)
  refine ev_if_eq 21 dX6_arms_8 (by decide) (fun h => ?_) (fun h => ?_)
  · have H := H.1 h
    refine ev_iconst (-1) dX6_arms_21 (by decide) ?_
    exact ev_iret dX6_arms_22 rfl H
  · have H := H.2 h
    refine ev_iload_n dX6_arms_11 rfl ?_
    refine ev_iload_n dX6_arms_12 rfl ?_
    refine ev_iload dX6_arms_13 rfl ?_
    refine ev_callS [.inl p1, .inl p2, .inl p3] dX6_arms_15 co_X4_mayBeArms ml_RX6_57 cs_X4_mayBeArms rfl rfl (by decide) (Nat.le_of_ble_eq_true rfl) rfl H (fun r3 u4 H => ?_)
    refine ev_if_ne 23 dX6_arms_18 (by decide) (fun h => ?_) (fun h => ?_)
    · have H := H.1 h
      refine ev_aload_n dX6_arms_23 rfl ?_
      refine ev_getR dX6_arms_24 (fo_RX6_10 _ rfl) (by decide) rfl rfl ?_
      refine ev_iload_n dX6_arms_27 rfl ?_
      refine ev_iload_n dX6_arms_28 rfl ?_
      refine ev_iload_n dX6_arms_29 rfl ?_
      refine ev_iload dX6_arms_30 rfl ?_
      refine ev_callVv 1 [.inl p0, .inl p1, .inl p2, .inl p3] dX6_arms_32 co_X4_paint ml_RX6_72 cv_X4_paint (by decide) rfl rfl rfl rfl (by decide) (Nat.le_of_ble_eq_true rfl) rfl H (fun u6 H => ?_)
      refine ev_iconst 1 dX6_arms_35 (by decide) ?_
      exact ev_iret dX6_arms_36 rfl H
    · have H := H.2 h
      refine ev_iconst (-1) dX6_arms_21 (by decide) ?_
      exact ev_iret dX6_arms_22 rfl H

set_option maxHeartbeats 4000000 in
set_option maxRecDepth 100000 in
theorem sg_X6_rank_0 {d : Nat} {w : ex_WW} {P : Int32 → ex_WW → Prop} {p0 : Int32} {p1 : Int32} (H : ex_Ev d mX4_has 0 (ex_in [.inr 1, .inl p0] 2) [] w (fun r1 u2 => ((r1 = 0 → P (-1) u2) ∧ (¬ r1 = 0 → ex_Ev d mX4_mayBeRank 0 (ex_in [.inl p1] 1) [] u2 (fun r3 u4 => ((¬ r3 = 0 → ex_Ev d mX4_rankOf 0 (ex_in [.inr 1, .inl p0] 2) [] u4 (fun r5 u6 => ex_Ev d mX4_raise 0 (ex_in [.inr 1, .inl p0, .inl p1] 3) [] u6 (fun _ u8 => P r5 u8))) ∧ (r3 = 0 → P (-1) u4))))))) : ex_Ev (d + 1) mX6_rank 0 [some (.inr 0), some (.inl p0), some (.inl p1), none] [] w P := by
  refine ev_aload_n dX6_rank_0 rfl ?_
  refine ev_getR dX6_rank_1 (fo_RX6_10 _ rfl) (by decide) rfl rfl ?_
  refine ev_iload_n dX6_rank_4 rfl ?_
  refine ev_callV 1 [.inl p0] dX6_rank_5 co_X4_has ml_RX6_69 cv_X4_has (by decide) rfl rfl rfl rfl (by decide) (Nat.le_of_ble_eq_true rfl) rfl H (fun r1 u2 H => ?_)
  refine ev_if_eq 18 dX6_rank_8 (by decide) (fun h => ?_) (fun h => ?_)
  · have H := H.1 h
    refine ev_iconst (-1) dX6_rank_18 (by decide) ?_
    exact ev_iret dX6_rank_19 rfl H
  · have H := H.2 h
    refine ev_iload_n dX6_rank_11 rfl ?_
    refine ev_callS [.inl p1] dX6_rank_12 co_X4_mayBeRank ml_RX6_53 cs_X4_mayBeRank rfl rfl (by decide) (Nat.le_of_ble_eq_true rfl) rfl H (fun r3 u4 H => ?_)
    refine ev_if_ne 20 dX6_rank_15 (by decide) (fun h => ?_) (fun h => ?_)
    · have H := H.1 h
      refine ev_aload_n dX6_rank_20 rfl ?_
      refine ev_getR dX6_rank_21 (fo_RX6_10 _ rfl) (by decide) rfl rfl ?_
      refine ev_iload_n dX6_rank_24 rfl ?_
      refine ev_callV 1 [.inl p0] dX6_rank_25 co_X4_rankOf ml_RX6_76 cv_X4_rankOf (by decide) rfl rfl rfl rfl (by decide) (Nat.le_of_ble_eq_true rfl) rfl H (fun r5 u6 H => ?_)
      refine ev_istore_n dX6_rank_28 (by decide) ?_
      refine ev_aload_n dX6_rank_29 rfl ?_
      refine ev_getR dX6_rank_30 (fo_RX6_10 _ rfl) (by decide) rfl rfl ?_
      refine ev_iload_n dX6_rank_33 rfl ?_
      refine ev_iload_n dX6_rank_34 rfl ?_
      refine ev_callVv 1 [.inl p0, .inl p1] dX6_rank_35 co_X4_raise ml_RX6_80 cv_X4_raise (by decide) rfl rfl rfl rfl (by decide) (Nat.le_of_ble_eq_true rfl) rfl H (fun u8 H => ?_)
      refine ev_iload_n dX6_rank_38 rfl ?_
      exact ev_iret dX6_rank_39 rfl H
    · have H := H.2 h
      refine ev_iconst (-1) dX6_rank_18 (by decide) ?_
      exact ev_iret dX6_rank_19 rfl H

set_option maxHeartbeats 4000000 in
set_option maxRecDepth 100000 in
theorem sg_X6_of_0 {d : Nat} {w : ex_WW} {P : Int32 → ex_WW → Prop} {p0 : Int32} {p1 : Int32} (H : ex_Ev d mX4_has 0 (ex_in [.inr 1, .inl p0] 2) [] w (fun r1 u2 => ((¬ r1 = 0 → ((p1 = 0 → ex_Ev d mX4_rankOf 0 (ex_in [.inr 1, .inl p0] 2) [] u2 (fun r3 u4 => P r3 u4)) ∧ (p1 = 1 → ex_Ev d mX4_fieldOf 0 (ex_in [.inr 1, .inl p0] 2) [] u2 (fun r5 u6 => P r5 u6)) ∧ (p1 = 2 → ex_Ev d mX4_chargeOf 0 (ex_in [.inr 1, .inl p0] 2) [] u2 (fun r7 u8 => P r7 u8)) ∧ (p1 = 3 → ex_Ev d mX4_tinctureOf 0 (ex_in [.inr 1, .inl p0] 2) [] u2 (fun r9 u10 => P r9 u10)) ∧ (p1 = 4 → ex_Ev d mX4_canRide 0 (ex_in [.inr 1, .inl p0] 2) [] u2 (fun r11 u12 => ((r11 = 0 → P 0 u12) ∧ (¬ r11 = 0 → P 1 u12)))) ∧ (p1 = 5 → ex_Ev d mX4_leastYieldedTo 0 (ex_in [.inr 1, .inl p0] 3) [] u2 (fun r13 u14 => P r13 u14)) ∧ (¬ p1 = 0 → ¬ p1 = 1 → ¬ p1 = 2 → ¬ p1 = 3 → ¬ p1 = 4 → ¬ p1 = 5 → P (-1) u2))) ∧ (r1 = 0 → P (-1) u2)))) : ex_Ev (d + 1) mX6_of 0 [some (.inr 0), some (.inl p0), some (.inl p1)] [] w P := by
  refine ev_aload_n dX6_of_0 rfl ?_
  refine ev_getR dX6_of_1 (fo_RX6_10 _ rfl) (by decide) rfl rfl ?_
  refine ev_iload_n dX6_of_4 rfl ?_
  refine ev_callV 1 [.inl p0] dX6_of_5 co_X4_has ml_RX6_69 cv_X4_has (by decide) rfl rfl rfl rfl (by decide) (Nat.le_of_ble_eq_true rfl) rfl H (fun r1 u2 H => ?_)
  refine ev_if_ne 13 dX6_of_8 (by decide) (fun h => ?_) (fun h => ?_)
  · have H := H.1 h
    refine ev_iload_n dX6_of_13 rfl ?_
    have hs : ∀ z : Int32, z = p1 → ex_Ev (d + 1) mX6_of 14 [some (.inr 0), some (.inl p0), some (.inl p1)] (.inl z :: []) u2 P := by
      intro z hz
      by_cases h0 : z = 0
      · have H := H.1 (hz.symm.trans h0)
        subst h0
        refine ev_tableIn 52 dX6_of_14 (by decide) (by decide) rfl (by decide) ?_
        refine ev_aload_n dX6_of_52 rfl ?_
        refine ev_getR dX6_of_53 (fo_RX6_10 _ rfl) (by decide) rfl rfl ?_
        refine ev_iload_n dX6_of_56 rfl ?_
        refine ev_callV 1 [.inl p0] dX6_of_57 co_X4_rankOf ml_RX6_76 cv_X4_rankOf (by decide) rfl rfl rfl rfl (by decide) (Nat.le_of_ble_eq_true rfl) rfl H (fun r3 u4 H => ?_)
        exact ev_iret dX6_of_60 rfl H
      by_cases h1 : z = 1
      · have H := H.2.1 (hz.symm.trans h1)
        subst h1
        refine ev_tableIn 61 dX6_of_14 (by decide) (by decide) rfl (by decide) ?_
        refine ev_aload_n dX6_of_61 rfl ?_
        refine ev_getR dX6_of_62 (fo_RX6_10 _ rfl) (by decide) rfl rfl ?_
        refine ev_iload_n dX6_of_65 rfl ?_
        refine ev_callV 1 [.inl p0] dX6_of_66 co_X4_fieldOf ml_RX6_84 cv_X4_fieldOf (by decide) rfl rfl rfl rfl (by decide) (Nat.le_of_ble_eq_true rfl) rfl H (fun r5 u6 H => ?_)
        exact ev_iret dX6_of_69 rfl H
      by_cases h2 : z = 2
      · have H := H.2.2.1 (hz.symm.trans h2)
        subst h2
        refine ev_tableIn 70 dX6_of_14 (by decide) (by decide) rfl (by decide) ?_
        refine ev_aload_n dX6_of_70 rfl ?_
        refine ev_getR dX6_of_71 (fo_RX6_10 _ rfl) (by decide) rfl rfl ?_
        refine ev_iload_n dX6_of_74 rfl ?_
        refine ev_callV 1 [.inl p0] dX6_of_75 co_X4_chargeOf ml_RX6_87 cv_X4_chargeOf (by decide) rfl rfl rfl rfl (by decide) (Nat.le_of_ble_eq_true rfl) rfl H (fun r7 u8 H => ?_)
        exact ev_iret dX6_of_78 rfl H
      by_cases h3 : z = 3
      · have H := H.2.2.2.1 (hz.symm.trans h3)
        subst h3
        refine ev_tableIn 79 dX6_of_14 (by decide) (by decide) rfl (by decide) ?_
        refine ev_aload_n dX6_of_79 rfl ?_
        refine ev_getR dX6_of_80 (fo_RX6_10 _ rfl) (by decide) rfl rfl ?_
        refine ev_iload_n dX6_of_83 rfl ?_
        refine ev_callV 1 [.inl p0] dX6_of_84 co_X4_tinctureOf ml_RX6_90 cv_X4_tinctureOf (by decide) rfl rfl rfl rfl (by decide) (Nat.le_of_ble_eq_true rfl) rfl H (fun r9 u10 H => ?_)
        exact ev_iret dX6_of_87 rfl H
      by_cases h4 : z = 4
      · have H := H.2.2.2.2.1 (hz.symm.trans h4)
        subst h4
        refine ev_tableIn 88 dX6_of_14 (by decide) (by decide) rfl (by decide) ?_
        refine ev_aload_n dX6_of_88 rfl ?_
        refine ev_getR dX6_of_89 (fo_RX6_10 _ rfl) (by decide) rfl rfl ?_
        refine ev_iload_n dX6_of_92 rfl ?_
        refine ev_callV 1 [.inl p0] dX6_of_93 co_X4_canRide ml_RX6_93 cv_X4_canRide (by decide) rfl rfl rfl rfl (by decide) (Nat.le_of_ble_eq_true rfl) rfl H (fun r11 u12 H => ?_)
        refine ev_if_eq 103 dX6_of_96 (by decide) (fun h => ?_) (fun h => ?_)
        · have H := H.1 h
          refine ev_iconst 0 dX6_of_103 (by decide) ?_
          exact ev_iret dX6_of_104 rfl H
        · have H := H.2 h
          refine ev_iconst 1 dX6_of_99 (by decide) ?_
          refine ev_goto 104 dX6_of_100 (by decide) ?_
          exact ev_iret dX6_of_104 rfl H
      by_cases h5 : z = 5
      · have H := H.2.2.2.2.2.1 (hz.symm.trans h5)
        subst h5
        refine ev_tableIn 105 dX6_of_14 (by decide) (by decide) rfl (by decide) ?_
        refine ev_aload_n dX6_of_105 rfl ?_
        refine ev_getR dX6_of_106 (fo_RX6_10 _ rfl) (by decide) rfl rfl ?_
        refine ev_iload_n dX6_of_109 rfl ?_
        refine ev_callV 1 [.inl p0] dX6_of_110 co_X4_leastYieldedTo ml_RX6_96 cv_X4_leastYieldedTo (by decide) rfl rfl rfl rfl (by decide) (Nat.le_of_ble_eq_true rfl) rfl H (fun r13 u14 H => ?_)
        exact ev_iret dX6_of_113 rfl H
      have H := H.2.2.2.2.2.2 (fun q => h0 (hz.trans q)) (fun q => h1 (hz.trans q)) (fun q => h2 (hz.trans q)) (fun q => h3 (hz.trans q)) (fun q => h4 (hz.trans q)) (fun q => h5 (hz.trans q))
      refine ev_tableOut 114 dX6_of_14 (by have q0 := lv_neT h0 (a := 0) rfl; have q1 := lv_neT h1 (a := 1) rfl; have q2 := lv_neT h2 (a := 2) rfl; have q3 := lv_neT h3 (a := 3) rfl; have q4 := lv_neT h4 (a := 4) rfl; have q5 := lv_neT h5 (a := 5) rfl; omega) (by decide) ?_
      refine ev_iconst (-1) dX6_of_114 (by decide) ?_
      exact ev_iret dX6_of_115 rfl H
    exact hs _ rfl
  · have H := H.2 h
    refine ev_iconst (-1) dX6_of_11 (by decide) ?_
    exact ev_iret dX6_of_12 rfl H

set_option maxHeartbeats 4000000 in
set_option maxRecDepth 100000 in
theorem sg_X6_near_0 {d : Nat} {w : ex_WW} {P : Int32 → ex_WW → Prop} (H : ex_Ev d mX4_countNear 0 (ex_in [.inr 1] 4) [] w (fun r1 u2 => P r1 u2)) : ex_Ev (d + 1) mX6_near 0 [some (.inr 0)] [] w P := by
  refine ev_aload_n dX6_near_0 rfl ?_
  refine ev_getR dX6_near_1 (fo_RX6_10 _ rfl) (by decide) rfl rfl ?_
  refine ev_callV 1 [] dX6_near_4 co_X4_countNear ml_RX6_99 cv_X4_countNear (by decide) rfl rfl rfl rfl (by decide) (Nat.le_of_ble_eq_true rfl) rfl H (fun r1 u2 H => ?_)
  exact ev_iret dX6_near_7 rfl H

set_option maxHeartbeats 4000000 in
set_option maxRecDepth 100000 in
theorem sg_X6_feed_0 {d : Nat} {w : ex_WW} {P : Int32 → ex_WW → Prop} {p0 : Int32} (H : ex_Ev d mX5_append 0 (ex_in [.inr 3, .inl p0] 4) [] w (fun r1 u2 => ((r1 = 0 → P (-2) u2) ∧ (¬ r1 = 0 → ex_Ev d mX5_length 0 (ex_in [.inr 3] 1) [] u2 (fun r3 u4 => P r3 u4))))) : ex_Ev (d + 1) mX6_feed 0 [some (.inr 0), some (.inl p0)] [] w P := by
  refine ev_aload_n dX6_feed_0 rfl ?_
  refine ev_getR dX6_feed_1 (fo_RX6_26 _ rfl) (by decide) rfl rfl ?_
  refine ev_iload_n dX6_feed_4 rfl ?_
  refine ev_callV 3 [.inl p0] dX6_feed_5 co_X5_append ml_RX6_103 cv_X5_append (by decide) rfl rfl rfl rfl (by decide) (Nat.le_of_ble_eq_true rfl) rfl H (fun r1 u2 H => ?_)
  refine ev_if_eq 21 dX6_feed_8 (by decide) (fun h => ?_) (fun h => ?_)
  · have H := H.1 h
    refine ev_bipush (-2) dX6_feed_21 (by decide) ?_
    exact ev_iret dX6_feed_23 rfl H
  · have H := H.2 h
    refine ev_aload_n dX6_feed_11 rfl ?_
    refine ev_getR dX6_feed_12 (fo_RX6_26 _ rfl) (by decide) rfl rfl ?_
    refine ev_callV 3 [] dX6_feed_15 co_X5_length ml_RX6_106 cv_X5_length (by decide) rfl rfl rfl rfl (by decide) (Nat.le_of_ble_eq_true rfl) rfl H (fun r3 u4 H => ?_)
    refine ev_goto 23 dX6_feed_18 (by decide) ?_
    exact ev_iret dX6_feed_23 rfl H

set_option maxHeartbeats 4000000 in
set_option maxRecDepth 100000 in
theorem sg_X6_ordain_0 {d : Nat} {w : ex_WW} {P : Int32 → ex_WW → Prop} (H : ex_Ev d mX3_isFull 0 (ex_in [.inr 2] 1) [] w (fun r1 u2 => ((r1 = 0 → ex_Ev d mX5_readInto 0 (ex_in [.inr 3, .inr 2] 3) [] u2 (fun r3 u4 => ((r3 = (-1) → ex_Ev d mX5_wipe 0 (ex_in [.inr 3] 2) [] u4 (fun r5 u6 => ex_Ev d mX3_keepDraft 0 (ex_in [.inr 2] 1) [] u6 (fun r7 u8 => P r7 u8))) ∧ (¬ r3 = (-1) → P ((-100) - r3) u4)))) ∧ (¬ r1 = 0 → P (-2) u2)))) : ex_Ev (d + 1) mX6_ordain 0 [some (.inr 0), none] [] w P := by
  refine ev_aload_n dX6_ordain_0 rfl ?_
  refine ev_getR dX6_ordain_1 (fo_RX6_19 _ rfl) (by decide) rfl rfl ?_
  refine ev_callV 2 [] dX6_ordain_4 co_X3_isFull ml_RX6_109 cv_X3_isFull (by decide) rfl rfl rfl rfl (by decide) (Nat.le_of_ble_eq_true rfl) rfl H (fun r1 u2 H => ?_)
  refine ev_if_eq 13 dX6_ordain_7 (by decide) (fun h => ?_) (fun h => ?_)
  · have H := H.1 h
    refine ev_aload_n dX6_ordain_13 rfl ?_
    refine ev_getR dX6_ordain_14 (fo_RX6_26 _ rfl) (by decide) rfl rfl ?_
    refine ev_aload_n dX6_ordain_17 rfl ?_
    refine ev_getR dX6_ordain_18 (fo_RX6_19 _ rfl) (by decide) rfl rfl ?_
    refine ev_callV 3 [.inr 2] dX6_ordain_21 co_X5_readInto ml_RX6_110 cv_X5_readInto (by decide) rfl rfl rfl rfl (by decide) (Nat.le_of_ble_eq_true rfl) rfl H (fun r3 u4 H => ?_)
    refine ev_istore_n dX6_ordain_24 (by decide) ?_
    refine ev_iload_n dX6_ordain_25 rfl ?_
    refine ev_iconst (-1) dX6_ordain_26 (by decide) ?_
    refine ev_icmp_eq 35 dX6_ordain_27 (by decide) (fun h => ?_) (fun h => ?_)
    · have H := H.1 h
      refine ev_aload_n dX6_ordain_35 rfl ?_
      refine ev_getR dX6_ordain_36 (fo_RX6_26 _ rfl) (by decide) rfl rfl ?_
      refine ev_callV 3 [] dX6_ordain_39 co_X5_wipe ml_RX6_114 cv_X5_wipe (by decide) rfl rfl rfl rfl (by decide) (Nat.le_of_ble_eq_true rfl) rfl H (fun r5 u6 H => ?_)
      refine ev_pop dX6_ordain_42 ?_
      refine ev_aload_n dX6_ordain_43 rfl ?_
      refine ev_getR dX6_ordain_44 (fo_RX6_19 _ rfl) (by decide) rfl rfl ?_
      refine ev_callV 2 [] dX6_ordain_47 co_X3_keepDraft ml_RX6_117 cv_X3_keepDraft (by decide) rfl rfl rfl rfl (by decide) (Nat.le_of_ble_eq_true rfl) rfl H (fun r7 u8 H => ?_)
      exact ev_iret dX6_ordain_50 rfl H
    · have H := H.2 h
      refine ev_bipush (-100) dX6_ordain_30 (by decide) ?_
      refine ev_iload_n dX6_ordain_32 rfl ?_
      refine ev_isub dX6_ordain_33 ?_
      exact ev_iret dX6_ordain_34 rfl H
  · have H := H.2 h
    refine ev_bipush (-2) dX6_ordain_10 (by decide) ?_
    exact ev_iret dX6_ordain_12 rfl H

set_option maxHeartbeats 4000000 in
set_option maxRecDepth 100000 in
theorem sg_X6_scrap_0 {d : Nat} {w : ex_WW} {P : Int32 → ex_WW → Prop} (H : ex_Ev d mX5_wipe 0 (ex_in [.inr 3] 2) [] w (fun r1 u2 => P r1 u2)) : ex_Ev (d + 1) mX6_scrap 0 [some (.inr 0)] [] w P := by
  refine ev_aload_n dX6_scrap_0 rfl ?_
  refine ev_getR dX6_scrap_1 (fo_RX6_26 _ rfl) (by decide) rfl rfl ?_
  refine ev_callV 3 [] dX6_scrap_4 co_X5_wipe ml_RX6_114 cv_X5_wipe (by decide) rfl rfl rfl rfl (by decide) (Nat.le_of_ble_eq_true rfl) rfl H (fun r1 u2 H => ?_)
  exact ev_iret dX6_scrap_7 rfl H

set_option maxHeartbeats 4000000 in
set_option maxRecDepth 100000 in
theorem sg_X6_force_0 {d : Nat} {w : ex_WW} {P : Int32 → ex_WW → Prop} {p0 : Int32} (H : ex_Ev d mX3_has 0 (ex_in [.inr 2, .inl p0] 2) [] w (fun r1 u2 => ((¬ r1 = 0 → ex_Ev d mX3_putInForce 0 (ex_in [.inr 2, .inl p0] 2) [] u2 (fun _ u4 => P 1 u4)) ∧ (r1 = 0 → P (-1) u2)))) : ex_Ev (d + 1) mX6_force 0 [some (.inr 0), some (.inl p0)] [] w P := by
  refine ev_aload_n dX6_force_0 rfl ?_
  refine ev_getR dX6_force_1 (fo_RX6_19 _ rfl) (by decide) rfl rfl ?_
  refine ev_iload_n dX6_force_4 rfl ?_
  refine ev_callV 2 [.inl p0] dX6_force_5 co_X3_has ml_RX6_120 cv_X3_has (by decide) rfl rfl rfl rfl (by decide) (Nat.le_of_ble_eq_true rfl) rfl H (fun r1 u2 H => ?_)
  refine ev_if_ne 13 dX6_force_8 (by decide) (fun h => ?_) (fun h => ?_)
  · have H := H.1 h
    refine ev_aload_n dX6_force_13 rfl ?_
    refine ev_getR dX6_force_14 (fo_RX6_19 _ rfl) (by decide) rfl rfl ?_
    refine ev_iload_n dX6_force_17 rfl ?_
    refine ev_callVv 2 [.inl p0] dX6_force_18 co_X3_putInForce ml_RX6_121 cv_X3_putInForce (by decide) rfl rfl rfl rfl (by decide) (Nat.le_of_ble_eq_true rfl) rfl H (fun u4 H => ?_)
    refine ev_iconst 1 dX6_force_21 (by decide) ?_
    exact ev_iret dX6_force_22 rfl H
  · have H := H.2 h
    refine ev_iconst (-1) dX6_force_11 (by decide) ?_
    exact ev_iret dX6_force_12 rfl H

set_option maxHeartbeats 4000000 in
set_option maxRecDepth 100000 in
theorem sg_X6_worth_0 {d : Nat} {w : ex_WW} {P : Int32 → ex_WW → Prop} {p0 : Int32} {p1 : Int32} (H : ex_Ev d mX3_has 0 (ex_in [.inr 2, .inl p0] 2) [] w (fun r1 u2 => ((¬ r1 = 0 → ((¬ p1 = 6 → ex_Ev d mX6_isWithin 0 (ex_in [.inl p1, .inl 0, .inl 5] 3) [] u2 (fun r3 u4 => ((r3 = 0 → P (-1000000) u4) ∧ (¬ r3 = 0 → ex_Ev d mX3_worthOf 0 (ex_in [.inr 2, .inl p0, .inl p1] 3) [] u4 (fun r5 u6 => P r5 u6))))) ∧ (p1 = 6 → ex_Ev d mX3_tieOf 0 (ex_in [.inr 2, .inl p0] 2) [] u2 (fun r7 u8 => P r7 u8)))) ∧ (r1 = 0 → P (-1000000) u2)))) : ex_Ev (d + 1) mX6_worth 0 [some (.inr 0), some (.inl p0), some (.inl p1)] [] w P := by
  refine ev_aload_n dX6_worth_0 rfl ?_
  refine ev_getR dX6_worth_1 (fo_RX6_19 _ rfl) (by decide) rfl rfl ?_
  refine ev_iload_n dX6_worth_4 rfl ?_
  refine ev_callV 2 [.inl p0] dX6_worth_5 co_X3_has ml_RX6_120 cv_X3_has (by decide) rfl rfl rfl rfl (by decide) (Nat.le_of_ble_eq_true rfl) rfl H (fun r1 u2 H => ?_)
  refine ev_if_ne 14 dX6_worth_8 (by decide) (fun h => ?_) (fun h => ?_)
  · have H := H.1 h
    refine ev_iload_n dX6_worth_14 rfl ?_
    refine ev_bipush 6 dX6_worth_15 (by decide) ?_
    refine ev_icmp_ne 29 dX6_worth_17 (by decide) (fun h => ?_) (fun h => ?_)
    · have H := H.1 h
      refine ev_iload_n dX6_worth_29 rfl ?_
      refine ev_iconst 0 dX6_worth_30 (by decide) ?_
      refine ev_iconst 5 dX6_worth_31 (by decide) ?_
      refine ev_callS [.inl p1, .inl 0, .inl 5] dX6_worth_32 co_X6_isWithin ml_RX6_129 cs_X6_isWithin rfl rfl (by decide) (Nat.le_of_ble_eq_true rfl) rfl H (fun r3 u4 H => ?_)
      refine ev_if_eq 50 dX6_worth_35 (by decide) (fun h => ?_) (fun h => ?_)
      · have H := H.1 h
        refine ev_ldc (-1000000) dX6_worth_50 (ex_mem 386 (by decide +kernel) rfl) ?_
        exact ev_iret dX6_worth_52 rfl H
      · have H := H.2 h
        refine ev_aload_n dX6_worth_38 rfl ?_
        refine ev_getR dX6_worth_39 (fo_RX6_19 _ rfl) (by decide) rfl rfl ?_
        refine ev_iload_n dX6_worth_42 rfl ?_
        refine ev_iload_n dX6_worth_43 rfl ?_
        refine ev_callV 2 [.inl p0, .inl p1] dX6_worth_44 co_X3_worthOf ml_RX6_132 cv_X3_worthOf (by decide) rfl rfl rfl rfl (by decide) (Nat.le_of_ble_eq_true rfl) rfl H (fun r5 u6 H => ?_)
        refine ev_goto 52 dX6_worth_47 (by decide) ?_
        exact ev_iret dX6_worth_52 rfl H
    · have H := H.2 h
      refine ev_aload_n dX6_worth_20 rfl ?_
      refine ev_getR dX6_worth_21 (fo_RX6_19 _ rfl) (by decide) rfl rfl ?_
      refine ev_iload_n dX6_worth_24 rfl ?_
      refine ev_callV 2 [.inl p0] dX6_worth_25 co_X3_tieOf ml_RX6_126 cv_X3_tieOf (by decide) rfl rfl rfl rfl (by decide) (Nat.le_of_ble_eq_true rfl) rfl H (fun r7 u8 H => ?_)
      exact ev_iret dX6_worth_28 rfl H
  · have H := H.2 h
    refine ev_ldc (-1000000) dX6_worth_11 (ex_mem 386 (by decide +kernel) rfl) ?_
    exact ev_iret dX6_worth_13 rfl H

set_option maxHeartbeats 4000000 in
set_option maxRecDepth 100000 in
theorem sg_X6_joust_0 {d : Nat} {w : ex_WW} {P : Int32 → ex_WW → Prop} {p0 : Int32} {p1 : Int32} (H : ex_Ev d mX4_hasPair 0 (ex_in [.inr 1, .inl p0, .inl p1] 3) [] w (fun r1 u2 => ((¬ r1 = 0 → ex_Ev d mX3_inForce 0 (ex_in [.inr 2] 1) [] u2 (fun r3 u4 => ((¬ r3 = (-2) → ex_Ev d mX4_canRide 0 (ex_in [.inr 1, .inl p0] 2) [] u4 (fun r5 u6 => ((r5 = 0 → P (-5) u6) ∧ (¬ r5 = 0 → ex_Ev d mX4_canRide 0 (ex_in [.inr 1, .inl p1] 2) [] u6 (fun r7 u8 => ((¬ r7 = 0 → ex_Ev d mX2_isFull 0 (ex_in [.inr 4] 1) [] u8 (fun r9 u10 => ((r9 = 0 → ex_Ev d mX3_inForce 0 (ex_in [.inr 2] 1) [] u10 (fun r11 u12 => ex_Ev d mX2_begin 0 (ex_in [.inr 4, .inl p0, .inl p1, .inl r11] 5) [] u12 (fun r13 u14 => P r13 u14))) ∧ (¬ r9 = 0 → P (-2) u10)))) ∧ (r7 = 0 → P (-5) u8))))))) ∧ (r3 = (-2) → P (-4) u4)))) ∧ (r1 = 0 → P (-1) u2)))) : ex_Ev (d + 1) mX6_joust 0 [some (.inr 0), some (.inl p0), some (.inl p1)] [] w P := by
  refine ev_aload_n dX6_joust_0 rfl ?_
  refine ev_getR dX6_joust_1 (fo_RX6_10 _ rfl) (by decide) rfl rfl ?_
  refine ev_iload_n dX6_joust_4 rfl ?_
  refine ev_iload_n dX6_joust_5 rfl ?_
  refine ev_callV 1 [.inl p0, .inl p1] dX6_joust_6 co_X4_hasPair ml_RX6_136 cv_X4_hasPair (by decide) rfl rfl rfl rfl (by decide) (Nat.le_of_ble_eq_true rfl) rfl H (fun r1 u2 H => ?_)
  refine ev_if_ne 14 dX6_joust_9 (by decide) (fun h => ?_) (fun h => ?_)
  · have H := H.1 h
    refine ev_aload_n dX6_joust_14 rfl ?_
    refine ev_getR dX6_joust_15 (fo_RX6_19 _ rfl) (by decide) rfl rfl ?_
    refine ev_callV 2 [] dX6_joust_18 co_X3_inForce ml_RX6_140 cv_X3_inForce (by decide) rfl rfl rfl rfl (by decide) (Nat.le_of_ble_eq_true rfl) rfl H (fun r3 u4 H => ?_)
    refine ev_bipush (-2) dX6_joust_21 (by decide) ?_
    refine ev_icmp_ne 29 dX6_joust_23 (by decide) (fun h => ?_) (fun h => ?_)
    · have H := H.1 h
      refine ev_aload_n dX6_joust_29 rfl ?_
      refine ev_getR dX6_joust_30 (fo_RX6_10 _ rfl) (by decide) rfl rfl ?_
      refine ev_iload_n dX6_joust_33 rfl ?_
      refine ev_callV 1 [.inl p0] dX6_joust_34 co_X4_canRide ml_RX6_93 cv_X4_canRide (by decide) rfl rfl rfl rfl (by decide) (Nat.le_of_ble_eq_true rfl) rfl H (fun r5 u6 H => ?_)
      refine ev_if_eq 51 dX6_joust_37 (by decide) (fun h => ?_) (fun h => ?_)
      · have H := H.1 h
        refine ev_bipush (-5) dX6_joust_51 (by decide) ?_
        exact ev_iret dX6_joust_53 rfl H
      · have H := H.2 h
        refine ev_aload_n dX6_joust_40 rfl ?_
        refine ev_getR dX6_joust_41 (fo_RX6_10 _ rfl) (by decide) rfl rfl ?_
        refine ev_iload_n dX6_joust_44 rfl ?_
        refine ev_callV 1 [.inl p1] dX6_joust_45 co_X4_canRide ml_RX6_93 cv_X4_canRide (by decide) rfl rfl rfl rfl (by decide) (Nat.le_of_ble_eq_true rfl) rfl H (fun r7 u8 H => ?_)
        refine ev_if_ne 54 dX6_joust_48 (by decide) (fun h => ?_) (fun h => ?_)
        · have H := H.1 h
          refine ev_aload_n dX6_joust_54 rfl ?_
          refine ev_getR dX6_joust_55 (fo_RX6_35 _ rfl) (by decide) rfl rfl ?_
          refine ev_callV 4 [] dX6_joust_58 co_X2_isFull ml_RX6_143 cv_X2_isFull (by decide) rfl rfl rfl rfl (by decide) (Nat.le_of_ble_eq_true rfl) rfl H (fun r9 u10 H => ?_)
          refine ev_if_eq 67 dX6_joust_61 (by decide) (fun h => ?_) (fun h => ?_)
          · have H := H.1 h
            refine ev_aload_n dX6_joust_67 rfl ?_
            refine ev_getR dX6_joust_68 (fo_RX6_35 _ rfl) (by decide) rfl rfl ?_
            refine ev_iload_n dX6_joust_71 rfl ?_
            refine ev_iload_n dX6_joust_72 rfl ?_
            refine ev_aload_n dX6_joust_73 rfl ?_
            refine ev_getR dX6_joust_74 (fo_RX6_19 _ rfl) (by decide) rfl rfl ?_
            refine ev_callV 2 [] dX6_joust_77 co_X3_inForce ml_RX6_140 cv_X3_inForce (by decide) rfl rfl rfl rfl (by decide) (Nat.le_of_ble_eq_true rfl) rfl H (fun r11 u12 H => ?_)
            refine ev_callV 4 [.inl p0, .inl p1, .inl r11] dX6_joust_80 co_X2_begin ml_RX6_144 cv_X2_begin (by decide) rfl rfl rfl rfl (by decide) (Nat.le_of_ble_eq_true rfl) rfl H (fun r13 u14 H => ?_)
            exact ev_iret dX6_joust_83 rfl H
          · have H := H.2 h
            refine ev_bipush (-2) dX6_joust_64 (by decide) ?_
            exact ev_iret dX6_joust_66 rfl H
        · have H := H.2 h
          refine ev_bipush (-5) dX6_joust_51 (by decide) ?_
          exact ev_iret dX6_joust_53 rfl H
    · have H := H.2 h
      refine ev_bipush (-4) dX6_joust_26 (by decide) ?_
      exact ev_iret dX6_joust_28 rfl H
  · have H := H.2 h
    refine ev_iconst (-1) dX6_joust_12 (by decide) ?_
    exact ev_iret dX6_joust_13 rfl H

set_option maxHeartbeats 4000000 in
set_option maxRecDepth 100000 in
theorem sg_X6_stroke_0 {d : Nat} {w : ex_WW} {P : Int32 → ex_WW → Prop} {p0 : Int32} {p1 : Int32} {p2 : Int32} {p3 : Int32} (H : ex_Ev d mX2_has 0 (ex_in [.inr 4, .inl p0, .inl p1] 3) [] w (fun r1 u2 => ((r1 = 0 → P (-1) u2) ∧ (¬ r1 = 0 → ex_Ev d mX6_isWithin 0 (ex_in [.inl p2, .inl 0, .inl 5] 3) [] u2 (fun r3 u4 => ((r3 = 0 → P (-1) u4) ∧ (¬ r3 = 0 → ex_Ev d mX6_isWithin 0 (ex_in [.inl p3, .inl 0, .inl 6] 3) [] u4 (fun r5 u6 => ((¬ r5 = 0 → ex_Ev d mX2_sheetOf 0 (ex_in [.inl p0, .inl p1] 2) [] u6 (fun r7 u8 => ex_Ev d mX2_tell 0 (ex_in [.inr 4, .inl r7, .inl p2, .inl p3] 5) [] u8 (fun r9 u10 => P r9 u10))) ∧ (r5 = 0 → P (-1) u6)))))))))) : ex_Ev (d + 1) mX6_stroke 0 [some (.inr 0), some (.inl p0), some (.inl p1), some (.inl p2), some (.inl p3)] [] w P := by
  refine ev_aload_n dX6_stroke_0 rfl ?_
  refine ev_getR dX6_stroke_1 (fo_RX6_35 _ rfl) (by decide) rfl rfl ?_
  refine ev_iload_n dX6_stroke_4 rfl ?_
  refine ev_iload_n dX6_stroke_5 rfl ?_
  refine ev_callV 4 [.inl p0, .inl p1] dX6_stroke_6 co_X2_has ml_RX6_148 cv_X2_has (by decide) rfl rfl rfl rfl (by decide) (Nat.le_of_ble_eq_true rfl) rfl H (fun r1 u2 H => ?_)
  refine ev_if_eq 32 dX6_stroke_9 (by decide) (fun h => ?_) (fun h => ?_)
  · have H := H.1 h
    refine ev_iconst (-1) dX6_stroke_32 (by decide) ?_
    exact ev_iret dX6_stroke_33 rfl H
  · have H := H.2 h
    refine ev_iload_n dX6_stroke_12 rfl ?_
    refine ev_iconst 0 dX6_stroke_13 (by decide) ?_
    refine ev_iconst 5 dX6_stroke_14 (by decide) ?_
    refine ev_callS [.inl p2, .inl 0, .inl 5] dX6_stroke_15 co_X6_isWithin ml_RX6_129 cs_X6_isWithin rfl rfl (by decide) (Nat.le_of_ble_eq_true rfl) rfl H (fun r3 u4 H => ?_)
    refine ev_if_eq 32 dX6_stroke_18 (by decide) (fun h => ?_) (fun h => ?_)
    · have H := H.1 h
      refine ev_iconst (-1) dX6_stroke_32 (by decide) ?_
      exact ev_iret dX6_stroke_33 rfl H
    · have H := H.2 h
      refine ev_iload dX6_stroke_21 rfl ?_
      refine ev_iconst 0 dX6_stroke_23 (by decide) ?_
      refine ev_bipush 6 dX6_stroke_24 (by decide) ?_
      refine ev_callS [.inl p3, .inl 0, .inl 6] dX6_stroke_26 co_X6_isWithin ml_RX6_129 cs_X6_isWithin rfl rfl (by decide) (Nat.le_of_ble_eq_true rfl) rfl H (fun r5 u6 H => ?_)
      refine ev_if_ne 34 dX6_stroke_29 (by decide) (fun h => ?_) (fun h => ?_)
      · have H := H.1 h
        refine ev_aload_n dX6_stroke_34 rfl ?_
        refine ev_getR dX6_stroke_35 (fo_RX6_35 _ rfl) (by decide) rfl rfl ?_
        refine ev_iload_n dX6_stroke_38 rfl ?_
        refine ev_iload_n dX6_stroke_39 rfl ?_
        refine ev_callS [.inl p0, .inl p1] dX6_stroke_40 co_X2_sheetOf ml_RX6_150 cs_X2_sheetOf rfl rfl (by decide) (Nat.le_of_ble_eq_true rfl) rfl H (fun r7 u8 H => ?_)
        refine ev_iload_n dX6_stroke_43 rfl ?_
        refine ev_iload dX6_stroke_44 rfl ?_
        refine ev_callV 4 [.inl r7, .inl p2, .inl p3] dX6_stroke_46 co_X2_tell ml_RX6_153 cv_X2_tell (by decide) rfl rfl rfl rfl (by decide) (Nat.le_of_ble_eq_true rfl) rfl H (fun r9 u10 H => ?_)
        exact ev_iret dX6_stroke_49 rfl H
      · have H := H.2 h
        refine ev_iconst (-1) dX6_stroke_32 (by decide) ?_
        exact ev_iret dX6_stroke_33 rfl H

set_option maxHeartbeats 4000000 in
set_option maxRecDepth 100000 in
theorem sg_X6_copy_0 {d : Nat} {w : ex_WW} {P : Int32 → ex_WW → Prop} {p0 : Int32} {p1 : Int32} {p2 : Int32} {p3 : Int32} {p4 : Int32} {p5 : Int32} (H : ex_Ev d mX2_has 0 (ex_in [.inr 4, .inl p0, .inl p2] 3) [] w (fun r1 u2 => ((r1 = 0 → P (-1) u2) ∧ (¬ r1 = 0 → ex_Ev d mX2_has 0 (ex_in [.inr 4, .inl p1, .inl p2] 3) [] u2 (fun r3 u4 => ((¬ r3 = 0 → ex_Ev d mX6_isWithin 0 (ex_in [.inl p5, .inl 0, .inl 6] 3) [] u4 (fun r5 u6 => ((r5 = 0 → P (-1) u6) ∧ (¬ r5 = 0 → ex_Ev d mX6_isWithin 0 (ex_in [.inl p3, .inl 0, .inl (6 - p5)] 3) [] u6 (fun r7 u8 => ((r7 = 0 → P (-1) u8) ∧ (¬ r7 = 0 → ex_Ev d mX6_isWithin 0 (ex_in [.inl p4, .inl 0, .inl (6 - p5)] 3) [] u8 (fun r9 u10 => ((¬ r9 = 0 → ex_Ev d mX2_sheetOf 0 (ex_in [.inl p0, .inl p2] 2) [] u10 (fun r11 u12 => ex_Ev d mX2_sheetOf 0 (ex_in [.inl p1, .inl p2] 2) [] u12 (fun r13 u14 => ex_Ev d mX2_carryOver 0 (ex_in [.inr 4, .inl r11, .inl r13, .inl p3, .inl p4, .inl p5] 6) [] u14 (fun _ u16 => P p5 u16)))) ∧ (r9 = 0 → P (-1) u10)))))))))) ∧ (r3 = 0 → P (-1) u4))))))) : ex_Ev (d + 1) mX6_copy 0 [some (.inr 0), some (.inl p0), some (.inl p1), some (.inl p2), some (.inl p3), some (.inl p4), some (.inl p5)] [] w P := by
  refine ev_aload_n dX6_copy_0 rfl ?_
  refine ev_getR dX6_copy_1 (fo_RX6_35 _ rfl) (by decide) rfl rfl ?_
  refine ev_iload_n dX6_copy_4 rfl ?_
  refine ev_iload_n dX6_copy_5 rfl ?_
  refine ev_callV 4 [.inl p0, .inl p2] dX6_copy_6 co_X2_has ml_RX6_148 cv_X2_has (by decide) rfl rfl rfl rfl (by decide) (Nat.le_of_ble_eq_true rfl) rfl H (fun r1 u2 H => ?_)
  refine ev_if_eq 24 dX6_copy_9 (by decide) (fun h => ?_) (fun h => ?_)
  · have H := H.1 h
    refine ev_iconst (-1) dX6_copy_24 (by decide) ?_
    exact ev_iret dX6_copy_25 rfl H
  · have H := H.2 h
    refine ev_aload_n dX6_copy_12 rfl ?_
    refine ev_getR dX6_copy_13 (fo_RX6_35 _ rfl) (by decide) rfl rfl ?_
    refine ev_iload_n dX6_copy_16 rfl ?_
    refine ev_iload_n dX6_copy_17 rfl ?_
    refine ev_callV 4 [.inl p1, .inl p2] dX6_copy_18 co_X2_has ml_RX6_148 cv_X2_has (by decide) rfl rfl rfl rfl (by decide) (Nat.le_of_ble_eq_true rfl) rfl H (fun r3 u4 H => ?_)
    refine ev_if_ne 26 dX6_copy_21 (by decide) (fun h => ?_) (fun h => ?_)
    · have H := H.1 h
      refine ev_iload dX6_copy_26 rfl ?_
      refine ev_iconst 0 dX6_copy_28 (by decide) ?_
      refine ev_bipush 6 dX6_copy_29 (by decide) ?_
      refine ev_callS [.inl p5, .inl 0, .inl 6] dX6_copy_31 co_X6_isWithin ml_RX6_129 cs_X6_isWithin rfl rfl (by decide) (Nat.le_of_ble_eq_true rfl) rfl H (fun r5 u6 H => ?_)
      refine ev_if_eq 65 dX6_copy_34 (by decide) (fun h => ?_) (fun h => ?_)
      · have H := H.1 h
        refine ev_iconst (-1) dX6_copy_65 (by decide) ?_
        exact ev_iret dX6_copy_66 rfl H
      · have H := H.2 h
        refine ev_iload dX6_copy_37 rfl ?_
        refine ev_iconst 0 dX6_copy_39 (by decide) ?_
        refine ev_bipush 6 dX6_copy_40 (by decide) ?_
        refine ev_iload dX6_copy_42 rfl ?_
        refine ev_isub dX6_copy_44 ?_
        refine ev_callS [.inl p3, .inl 0, .inl (6 - p5)] dX6_copy_45 co_X6_isWithin ml_RX6_129 cs_X6_isWithin rfl rfl (by decide) (Nat.le_of_ble_eq_true rfl) rfl H (fun r7 u8 H => ?_)
        refine ev_if_eq 65 dX6_copy_48 (by decide) (fun h => ?_) (fun h => ?_)
        · have H := H.1 h
          refine ev_iconst (-1) dX6_copy_65 (by decide) ?_
          exact ev_iret dX6_copy_66 rfl H
        · have H := H.2 h
          refine ev_iload dX6_copy_51 rfl ?_
          refine ev_iconst 0 dX6_copy_53 (by decide) ?_
          refine ev_bipush 6 dX6_copy_54 (by decide) ?_
          refine ev_iload dX6_copy_56 rfl ?_
          refine ev_isub dX6_copy_58 ?_
          refine ev_callS [.inl p4, .inl 0, .inl (6 - p5)] dX6_copy_59 co_X6_isWithin ml_RX6_129 cs_X6_isWithin rfl rfl (by decide) (Nat.le_of_ble_eq_true rfl) rfl H (fun r9 u10 H => ?_)
          refine ev_if_ne 67 dX6_copy_62 (by decide) (fun h => ?_) (fun h => ?_)
          · have H := H.1 h
            refine ev_aload_n dX6_copy_67 rfl ?_
            refine ev_getR dX6_copy_68 (fo_RX6_35 _ rfl) (by decide) rfl rfl ?_
            refine ev_iload_n dX6_copy_71 rfl ?_
            refine ev_iload_n dX6_copy_72 rfl ?_
            refine ev_callS [.inl p0, .inl p2] dX6_copy_73 co_X2_sheetOf ml_RX6_150 cs_X2_sheetOf rfl rfl (by decide) (Nat.le_of_ble_eq_true rfl) rfl H (fun r11 u12 H => ?_)
            refine ev_iload_n dX6_copy_76 rfl ?_
            refine ev_iload_n dX6_copy_77 rfl ?_
            refine ev_callS [.inl p1, .inl p2] dX6_copy_78 co_X2_sheetOf ml_RX6_150 cs_X2_sheetOf rfl rfl (by decide) (Nat.le_of_ble_eq_true rfl) rfl H (fun r13 u14 H => ?_)
            refine ev_iload dX6_copy_81 rfl ?_
            refine ev_iload dX6_copy_83 rfl ?_
            refine ev_iload dX6_copy_85 rfl ?_
            refine ev_callVv 4 [.inl r11, .inl r13, .inl p3, .inl p4, .inl p5] dX6_copy_87 co_X2_carryOver ml_RX6_156 cv_X2_carryOver (by decide) rfl rfl rfl rfl (by decide) (Nat.le_of_ble_eq_true rfl) rfl H (fun u16 H => ?_)
            refine ev_iload dX6_copy_90 rfl ?_
            exact ev_iret dX6_copy_92 rfl H
          · have H := H.2 h
            refine ev_iconst (-1) dX6_copy_65 (by decide) ?_
            exact ev_iret dX6_copy_66 rfl H
    · have H := H.2 h
      refine ev_iconst (-1) dX6_copy_24 (by decide) ?_
      exact ev_iret dX6_copy_25 rfl H

set_option maxHeartbeats 4000000 in
set_option maxRecDepth 100000 in
theorem sg_X6_sheet_0 {d : Nat} {w : ex_WW} {P : Int32 → ex_WW → Prop} {p0 : Int32} {p1 : Int32} {p2 : Int32} (H : ex_Ev d mX2_has 0 (ex_in [.inr 4, .inl p0, .inl p1] 3) [] w (fun r1 u2 => ((¬ r1 = 0 → ex_Ev d mX2_sheetOf 0 (ex_in [.inl p0, .inl p1] 2) [] u2 (fun r3 u4 => ((p2 = 0 → ex_Ev d mX2_leastStanding 0 (ex_in [.inr 4, .inl r3] 2) [] u4 (fun r5 u6 => ex_Ev d mX3_scoreIn 0 (ex_in [.inl r5] 1) [] u6 (fun r7 u8 => P r7 u8))) ∧ (p2 = 1 → ex_Ev d mX2_greatestStanding 0 (ex_in [.inr 4, .inl r3] 2) [] u4 (fun r9 u10 => ex_Ev d mX3_scoreIn 0 (ex_in [.inl r9] 1) [] u10 (fun r11 u12 => P r11 u12))) ∧ (p2 = 2 → ex_Ev d mX2_countOf 0 (ex_in [.inr 4, .inl r3, .inl 6] 5) [] u4 (fun r13 u14 => P r13 u14)) ∧ (¬ p2 = 0 → ¬ p2 = 1 → ¬ p2 = 2 → ex_Ev d mX6_isWithin 0 (ex_in [.inl p2, .inl 3, .inl 8] 3) [] u4 (fun r15 u16 => ((r15 = 0 → P (-1000000) u16) ∧ (¬ r15 = 0 → ex_Ev d mX2_countOf 0 (ex_in [.inr 4, .inl r3, .inl (p2 - 3)] 5) [] u16 (fun r17 u18 => P r17 u18)))))))) ∧ (r1 = 0 → P (-1000000) u2)))) : ex_Ev (d + 1) mX6_sheet 0 [some (.inr 0), some (.inl p0), some (.inl p1), some (.inl p2), none] [] w P := by
  refine ev_aload_n dX6_sheet_0 rfl ?_
  refine ev_getR dX6_sheet_1 (fo_RX6_35 _ rfl) (by decide) rfl rfl ?_
  refine ev_iload_n dX6_sheet_4 rfl ?_
  refine ev_iload_n dX6_sheet_5 rfl ?_
  refine ev_callV 4 [.inl p0, .inl p1] dX6_sheet_6 co_X2_has ml_RX6_148 cv_X2_has (by decide) rfl rfl rfl rfl (by decide) (Nat.le_of_ble_eq_true rfl) rfl H (fun r1 u2 H => ?_)
  refine ev_if_ne 15 dX6_sheet_9 (by decide) (fun h => ?_) (fun h => ?_)
  · have H := H.1 h
    refine ev_iload_n dX6_sheet_15 rfl ?_
    refine ev_iload_n dX6_sheet_16 rfl ?_
    refine ev_callS [.inl p0, .inl p1] dX6_sheet_17 co_X2_sheetOf ml_RX6_150 cs_X2_sheetOf rfl rfl (by decide) (Nat.le_of_ble_eq_true rfl) rfl H (fun r3 u4 H => ?_)
    refine ev_istore dX6_sheet_20 (by decide) ?_
    refine ev_iload_n dX6_sheet_22 rfl ?_
    have hs : ∀ z : Int32, z = p2 → ex_Ev (d + 1) mX6_sheet 23 [some (.inr 0), some (.inl p0), some (.inl p1), some (.inl p2), some (.inl r3)] (.inl z :: []) u4 P := by
      intro z hz
      by_cases h0 : z = 0
      · have H := H.1 (hz.symm.trans h0)
        subst h0
        refine ev_tableIn 48 dX6_sheet_23 (by decide) (by decide) rfl (by decide) ?_
        refine ev_aload_n dX6_sheet_48 rfl ?_
        refine ev_getR dX6_sheet_49 (fo_RX6_35 _ rfl) (by decide) rfl rfl ?_
        refine ev_iload dX6_sheet_52 rfl ?_
        refine ev_callV 4 [.inl r3] dX6_sheet_54 co_X2_leastStanding ml_RX6_160 cv_X2_leastStanding (by decide) rfl rfl rfl rfl (by decide) (Nat.le_of_ble_eq_true rfl) rfl H (fun r5 u6 H => ?_)
        refine ev_callS [.inl r5] dX6_sheet_57 co_X3_scoreIn ml_RX6_163 cs_X3_scoreIn rfl rfl (by decide) (Nat.le_of_ble_eq_true rfl) rfl H (fun r7 u8 H => ?_)
        exact ev_iret dX6_sheet_60 rfl H
      by_cases h1 : z = 1
      · have H := H.2.1 (hz.symm.trans h1)
        subst h1
        refine ev_tableIn 61 dX6_sheet_23 (by decide) (by decide) rfl (by decide) ?_
        refine ev_aload_n dX6_sheet_61 rfl ?_
        refine ev_getR dX6_sheet_62 (fo_RX6_35 _ rfl) (by decide) rfl rfl ?_
        refine ev_iload dX6_sheet_65 rfl ?_
        refine ev_callV 4 [.inl r3] dX6_sheet_67 co_X2_greatestStanding ml_RX6_166 cv_X2_greatestStanding (by decide) rfl rfl rfl rfl (by decide) (Nat.le_of_ble_eq_true rfl) rfl H (fun r9 u10 H => ?_)
        refine ev_callS [.inl r9] dX6_sheet_70 co_X3_scoreIn ml_RX6_163 cs_X3_scoreIn rfl rfl (by decide) (Nat.le_of_ble_eq_true rfl) rfl H (fun r11 u12 H => ?_)
        exact ev_iret dX6_sheet_73 rfl H
      by_cases h2 : z = 2
      · have H := H.2.2.1 (hz.symm.trans h2)
        subst h2
        refine ev_tableIn 74 dX6_sheet_23 (by decide) (by decide) rfl (by decide) ?_
        refine ev_aload_n dX6_sheet_74 rfl ?_
        refine ev_getR dX6_sheet_75 (fo_RX6_35 _ rfl) (by decide) rfl rfl ?_
        refine ev_iload dX6_sheet_78 rfl ?_
        refine ev_bipush 6 dX6_sheet_80 (by decide) ?_
        refine ev_callV 4 [.inl r3, .inl 6] dX6_sheet_82 co_X2_countOf ml_RX6_169 cv_X2_countOf (by decide) rfl rfl rfl rfl (by decide) (Nat.le_of_ble_eq_true rfl) rfl H (fun r13 u14 H => ?_)
        exact ev_iret dX6_sheet_85 rfl H
      have H := H.2.2.2 (fun q => h0 (hz.trans q)) (fun q => h1 (hz.trans q)) (fun q => h2 (hz.trans q))
      refine ev_tableOut 86 dX6_sheet_23 (by have q0 := lv_neT h0 (a := 0) rfl; have q1 := lv_neT h1 (a := 1) rfl; have q2 := lv_neT h2 (a := 2) rfl; omega) (by decide) ?_
      refine ev_iload_n dX6_sheet_86 rfl ?_
      refine ev_iconst 3 dX6_sheet_87 (by decide) ?_
      refine ev_bipush 8 dX6_sheet_88 (by decide) ?_
      refine ev_callS [.inl p2, .inl 3, .inl 8] dX6_sheet_90 co_X6_isWithin ml_RX6_129 cs_X6_isWithin rfl rfl (by decide) (Nat.le_of_ble_eq_true rfl) rfl H (fun r15 u16 H => ?_)
      refine ev_if_eq 111 dX6_sheet_93 (by decide) (fun h => ?_) (fun h => ?_)
      · have H := H.1 h
        refine ev_ldc (-1000000) dX6_sheet_111 (ex_mem 386 (by decide +kernel) rfl) ?_
        exact ev_iret dX6_sheet_113 rfl H
      · have H := H.2 h
        refine ev_aload_n dX6_sheet_96 rfl ?_
        refine ev_getR dX6_sheet_97 (fo_RX6_35 _ rfl) (by decide) rfl rfl ?_
        refine ev_iload dX6_sheet_100 rfl ?_
        refine ev_iload_n dX6_sheet_102 rfl ?_
        refine ev_iconst 3 dX6_sheet_103 (by decide) ?_
        refine ev_isub dX6_sheet_104 ?_
        refine ev_callV 4 [.inl r3, .inl (p2 - 3)] dX6_sheet_105 co_X2_countOf ml_RX6_169 cv_X2_countOf (by decide) rfl rfl rfl rfl (by decide) (Nat.le_of_ble_eq_true rfl) rfl H (fun r17 u18 H => ?_)
        refine ev_goto 113 dX6_sheet_108 (by decide) ?_
        exact ev_iret dX6_sheet_113 rfl H
    exact hs _ rfl
  · have H := H.2 h
    refine ev_ldc (-1000000) dX6_sheet_12 (ex_mem 386 (by decide +kernel) rfl) ?_
    exact ev_iret dX6_sheet_14 rfl H

set_option maxHeartbeats 4000000 in
set_option maxRecDepth 100000 in
theorem sg_X6_wins_0 {d : Nat} {w : ex_WW} {P : Int32 → ex_WW → Prop} {p0 : Int32} {p1 : Int32} (H : ex_Ev d mX2_has 0 (ex_in [.inr 4, .inl p0, .inl p1] 3) [] w (fun r1 u2 => ((¬ r1 = 0 → ex_Ev d mX2_sheetOf 0 (ex_in [.inl p0, .inl p1] 2) [] u2 (fun r3 u4 => ex_Ev d mX2_winsSurely 0 (ex_in [.inr 4, .inl r3] 2) [] u4 (fun r5 u6 => ((r5 = 0 → ex_Ev d mX2_mayWin 0 (ex_in [.inr 4, .inl r3] 2) [] u6 (fun r7 u8 => ((r7 = 0 → P 0 u8) ∧ (¬ r7 = 0 → P 1 u8)))) ∧ (¬ r5 = 0 → P 2 u6))))) ∧ (r1 = 0 → P (-1) u2)))) : ex_Ev (d + 1) mX6_wins 0 [some (.inr 0), some (.inl p0), some (.inl p1), none] [] w P := by
  refine ev_aload_n dX6_wins_0 rfl ?_
  refine ev_getR dX6_wins_1 (fo_RX6_35 _ rfl) (by decide) rfl rfl ?_
  refine ev_iload_n dX6_wins_4 rfl ?_
  refine ev_iload_n dX6_wins_5 rfl ?_
  refine ev_callV 4 [.inl p0, .inl p1] dX6_wins_6 co_X2_has ml_RX6_148 cv_X2_has (by decide) rfl rfl rfl rfl (by decide) (Nat.le_of_ble_eq_true rfl) rfl H (fun r1 u2 H => ?_)
  refine ev_if_ne 14 dX6_wins_9 (by decide) (fun h => ?_) (fun h => ?_)
  · have H := H.1 h
    refine ev_iload_n dX6_wins_14 rfl ?_
    refine ev_iload_n dX6_wins_15 rfl ?_
    refine ev_callS [.inl p0, .inl p1] dX6_wins_16 co_X2_sheetOf ml_RX6_150 cs_X2_sheetOf rfl rfl (by decide) (Nat.le_of_ble_eq_true rfl) rfl H (fun r3 u4 H => ?_)
    refine ev_istore_n dX6_wins_19 (by decide) ?_
    refine ev_aload_n dX6_wins_20 rfl ?_
    refine ev_getR dX6_wins_21 (fo_RX6_35 _ rfl) (by decide) rfl rfl ?_
    refine ev_iload_n dX6_wins_24 rfl ?_
    refine ev_callV 4 [.inl r3] dX6_wins_25 co_X2_winsSurely ml_RX6_172 cv_X2_winsSurely (by decide) rfl rfl rfl rfl (by decide) (Nat.le_of_ble_eq_true rfl) rfl H (fun r5 u6 H => ?_)
    refine ev_if_eq 33 dX6_wins_28 (by decide) (fun h => ?_) (fun h => ?_)
    · have H := H.1 h
      refine ev_aload_n dX6_wins_33 rfl ?_
      refine ev_getR dX6_wins_34 (fo_RX6_35 _ rfl) (by decide) rfl rfl ?_
      refine ev_iload_n dX6_wins_37 rfl ?_
      refine ev_callV 4 [.inl r3] dX6_wins_38 co_X2_mayWin ml_RX6_175 cv_X2_mayWin (by decide) rfl rfl rfl rfl (by decide) (Nat.le_of_ble_eq_true rfl) rfl H (fun r7 u8 H => ?_)
      refine ev_if_eq 48 dX6_wins_41 (by decide) (fun h => ?_) (fun h => ?_)
      · have H := H.1 h
        refine ev_iconst 0 dX6_wins_48 (by decide) ?_
        exact ev_iret dX6_wins_49 rfl H
      · have H := H.2 h
        refine ev_iconst 1 dX6_wins_44 (by decide) ?_
        refine ev_goto 49 dX6_wins_45 (by decide) ?_
        exact ev_iret dX6_wins_49 rfl H
    · have H := H.2 h
      refine ev_iconst 2 dX6_wins_31 (by decide) ?_
      exact ev_iret dX6_wins_32 rfl H
  · have H := H.2 h
    refine ev_iconst (-1) dX6_wins_12 (by decide) ?_
    exact ev_iret dX6_wins_13 rfl H

set_option maxHeartbeats 4000000 in
set_option maxRecDepth 100000 in
theorem sg_X6_won_0 {d : Nat} {w : ex_WW} {P : Int32 → ex_WW → Prop} {p0 : Int32} (H : ex_Ev d mX4_has 0 (ex_in [.inr 1, .inl p0] 2) [] w (fun r1 u2 => ((r1 = 0 → P (-1) u2) ∧ (¬ r1 = 0 → ex_Ev d mX2_countSureWins 0 (ex_in [.inr 4, .inl p0] 4) [] u2 (fun r3 u4 => P r3 u4))))) : ex_Ev (d + 1) mX6_won 0 [some (.inr 0), some (.inl p0)] [] w P := by
  refine ev_aload_n dX6_won_0 rfl ?_
  refine ev_getR dX6_won_1 (fo_RX6_10 _ rfl) (by decide) rfl rfl ?_
  refine ev_iload_n dX6_won_4 rfl ?_
  refine ev_callV 1 [.inl p0] dX6_won_5 co_X4_has ml_RX6_69 cv_X4_has (by decide) rfl rfl rfl rfl (by decide) (Nat.le_of_ble_eq_true rfl) rfl H (fun r1 u2 H => ?_)
  refine ev_if_eq 22 dX6_won_8 (by decide) (fun h => ?_) (fun h => ?_)
  · have H := H.1 h
    refine ev_iconst (-1) dX6_won_22 (by decide) ?_
    exact ev_iret dX6_won_23 rfl H
  · have H := H.2 h
    refine ev_aload_n dX6_won_11 rfl ?_
    refine ev_getR dX6_won_12 (fo_RX6_35 _ rfl) (by decide) rfl rfl ?_
    refine ev_iload_n dX6_won_15 rfl ?_
    refine ev_callV 4 [.inl p0] dX6_won_16 co_X2_countSureWins ml_RX6_178 cv_X2_countSureWins (by decide) rfl rfl rfl rfl (by decide) (Nat.le_of_ble_eq_true rfl) rfl H (fun r3 u4 H => ?_)
    refine ev_goto 23 dX6_won_19 (by decide) ?_
    exact ev_iret dX6_won_23 rfl H

set_option maxHeartbeats 4000000 in
set_option maxRecDepth 100000 in
theorem sg_X6_best_0 {d : Nat} {w : ex_WW} {P : Int32 → ex_WW → Prop} (H : ex_Ev d mX4_size 0 (ex_in [.inr 1] 1) [] w (fun r1 u2 => ((¬ r1 = 0 → ex_Ev (d + 1) mX6_best 17 [some (.inr 0), some (.inl 0), some (.inl 1)] [] u2 P) ∧ (r1 = 0 → P (-4) u2)))) : ex_Ev (d + 1) mX6_best 0 [some (.inr 0), none, none] [] w P := by
  refine ev_aload_n dX6_best_0 rfl ?_
  refine ev_getR dX6_best_1 (fo_RX6_10 _ rfl) (by decide) rfl rfl ?_
  refine ev_callV 1 [] dX6_best_4 co_X4_size ml_RX6_181 cv_X4_size (by decide) rfl rfl rfl rfl (by decide) (Nat.le_of_ble_eq_true rfl) rfl H (fun r1 u2 H => ?_)
  refine ev_if_ne 13 dX6_best_7 (by decide) (fun h => ?_) (fun h => ?_)
  · have H := H.1 h
    refine ev_iconst 0 dX6_best_13 (by decide) ?_
    refine ev_istore_n dX6_best_14 (by decide) ?_
    refine ev_iconst 1 dX6_best_15 (by decide) ?_
    refine ev_istore_n dX6_best_16 (by decide) ?_
    exact H
  · have H := H.2 h
    refine ev_bipush (-4) dX6_best_10 (by decide) ?_
    exact ev_iret dX6_best_12 rfl H

set_option maxHeartbeats 4000000 in
set_option maxRecDepth 100000 in
theorem sg_X6_best_17 {d : Nat} {w : ex_WW} {P : Int32 → ex_WW → Prop} {x1 : Int32} {x2 : Int32} (H : ex_Ev d mX4_size 0 (ex_in [.inr 1] 1) [] w (fun r1 u2 => ((r1 ≤ x2 → P x1 u2) ∧ (¬ r1 ≤ x2 → ex_Ev d mX2_isBetter 0 (ex_in [.inr 4, .inl x2, .inl x1] 5) [] u2 (fun r3 u4 => ((r3 = 0 → ex_Ev (d + 1) mX6_best 17 [some (.inr 0), some (.inl x1), some (.inl (x2 + 1))] [] u4 P) ∧ (¬ r3 = 0 → ex_Ev (d + 1) mX6_best 17 [some (.inr 0), some (.inl x2), some (.inl (x2 + 1))] [] u4 P))))))) : ex_Ev (d + 1) mX6_best 17 [some (.inr 0), some (.inl x1), some (.inl x2)] [] w P := by
  refine ev_iload_n dX6_best_17 rfl ?_
  refine ev_aload_n dX6_best_18 rfl ?_
  refine ev_getR dX6_best_19 (fo_RX6_10 _ rfl) (by decide) rfl rfl ?_
  refine ev_callV 1 [] dX6_best_22 co_X4_size ml_RX6_181 cv_X4_size (by decide) rfl rfl rfl rfl (by decide) (Nat.le_of_ble_eq_true rfl) rfl H (fun r1 u2 H => ?_)
  refine ev_icmp_ge 48 dX6_best_25 (by decide) (fun h => ?_) (fun h => ?_)
  · have H := H.1 h
    refine ev_iload_n dX6_best_48 rfl ?_
    exact ev_iret dX6_best_49 rfl H
  · have H := H.2 h
    refine ev_aload_n dX6_best_28 rfl ?_
    refine ev_getR dX6_best_29 (fo_RX6_35 _ rfl) (by decide) rfl rfl ?_
    refine ev_iload_n dX6_best_32 rfl ?_
    refine ev_iload_n dX6_best_33 rfl ?_
    refine ev_callV 4 [.inl x2, .inl x1] dX6_best_34 co_X2_isBetter ml_RX6_184 cv_X2_isBetter (by decide) rfl rfl rfl rfl (by decide) (Nat.le_of_ble_eq_true rfl) rfl H (fun r3 u4 H => ?_)
    refine ev_if_eq 42 dX6_best_37 (by decide) (fun h => ?_) (fun h => ?_)
    · have H := H.1 h
      refine ev_iinc (x2 + 1) dX6_best_42 rfl rfl (by decide) ?_
      refine ev_goto 17 dX6_best_45 (by decide) ?_
      exact H
    · have H := H.2 h
      refine ev_iload_n dX6_best_40 rfl ?_
      refine ev_istore_n dX6_best_41 (by decide) ?_
      refine ev_iinc (x2 + 1) dX6_best_42 rfl rfl (by decide) ?_
      refine ev_goto 17 dX6_best_45 (by decide) ?_
      exact H

set_option maxHeartbeats 4000000 in
set_option maxRecDepth 100000 in
theorem sg_X6_owes_0 {d : Nat} {w : ex_WW} {P : Int32 → ex_WW → Prop} {p0 : Int32} (H : ex_Ev d mX4_has 0 (ex_in [.inr 1, .inl p0] 2) [] w (fun r1 u2 => ((r1 = 0 → P (-1) u2) ∧ (¬ r1 = 0 → ex_Ev d mX2_owedBy 0 (ex_in [.inr 4, .inl p0] 4) [] u2 (fun r3 u4 => P r3 u4))))) : ex_Ev (d + 1) mX6_owes 0 [some (.inr 0), some (.inl p0)] [] w P := by
  refine ev_aload_n dX6_owes_0 rfl ?_
  refine ev_getR dX6_owes_1 (fo_RX6_10 _ rfl) (by decide) rfl rfl ?_
  refine ev_iload_n dX6_owes_4 rfl ?_
  refine ev_callV 1 [.inl p0] dX6_owes_5 co_X4_has ml_RX6_69 cv_X4_has (by decide) rfl rfl rfl rfl (by decide) (Nat.le_of_ble_eq_true rfl) rfl H (fun r1 u2 H => ?_)
  refine ev_if_eq 22 dX6_owes_8 (by decide) (fun h => ?_) (fun h => ?_)
  · have H := H.1 h
    refine ev_iconst (-1) dX6_owes_22 (by decide) ?_
    exact ev_iret dX6_owes_23 rfl H
  · have H := H.2 h
    refine ev_aload_n dX6_owes_11 rfl ?_
    refine ev_getR dX6_owes_12 (fo_RX6_35 _ rfl) (by decide) rfl rfl ?_
    refine ev_iload_n dX6_owes_15 rfl ?_
    refine ev_callV 4 [.inl p0] dX6_owes_16 co_X2_owedBy ml_RX6_187 cv_X2_owedBy (by decide) rfl rfl rfl rfl (by decide) (Nat.le_of_ble_eq_true rfl) rfl H (fun r3 u4 H => ?_)
    refine ev_goto 23 dX6_owes_19 (by decide) ?_
    exact ev_iret dX6_owes_23 rfl H

set_option maxHeartbeats 4000000 in
set_option maxRecDepth 100000 in
theorem sg_X6_pay_0 {d : Nat} {w : ex_WW} {P : Int32 → ex_WW → Prop} {p0 : Int32} {p1 : Int32} {p2 : Int32} (H : ex_Ev d mX2_has 0 (ex_in [.inr 4, .inl p0, .inl p1] 3) [] w (fun r1 u2 => ((r1 = 0 → P (-1) u2) ∧ (¬ r1 = 0 → ex_Ev d mX6_isWithin 0 (ex_in [.inl p2, .inl 1, .inl 100] 3) [] u2 (fun r3 u4 => ((¬ r3 = 0 → ex_Ev d mX2_sheetOf 0 (ex_in [.inl p0, .inl p1] 2) [] u4 (fun r5 u6 => ex_Ev d mX2_owedOf 0 (ex_in [.inr 4, .inl r5] 2) [] u6 (fun r7 u8 => ((p2 ≤ r7 → ex_Ev d mX2_putDown 0 (ex_in [.inr 4, .inl r5, .inl p2] 3) [] u8 (fun _ u10 => ex_Ev d mX2_owedOf 0 (ex_in [.inr 4, .inl r5] 2) [] u10 (fun r11 u12 => P r11 u12))) ∧ (¬ p2 ≤ r7 → P (-4) u8))))) ∧ (r3 = 0 → P (-1) u4))))))) : ex_Ev (d + 1) mX6_pay 0 [some (.inr 0), some (.inl p0), some (.inl p1), some (.inl p2), none] [] w P := by
  refine ev_aload_n dX6_pay_0 rfl ?_
  refine ev_getR dX6_pay_1 (fo_RX6_35 _ rfl) (by decide) rfl rfl ?_
  refine ev_iload_n dX6_pay_4 rfl ?_
  refine ev_iload_n dX6_pay_5 rfl ?_
  refine ev_callV 4 [.inl p0, .inl p1] dX6_pay_6 co_X2_has ml_RX6_148 cv_X2_has (by decide) rfl rfl rfl rfl (by decide) (Nat.le_of_ble_eq_true rfl) rfl H (fun r1 u2 H => ?_)
  refine ev_if_eq 22 dX6_pay_9 (by decide) (fun h => ?_) (fun h => ?_)
  · have H := H.1 h
    refine ev_iconst (-1) dX6_pay_22 (by decide) ?_
    exact ev_iret dX6_pay_23 rfl H
  · have H := H.2 h
    refine ev_iload_n dX6_pay_12 rfl ?_
    refine ev_iconst 1 dX6_pay_13 (by decide) ?_
    refine ev_bipush 100 dX6_pay_14 (by decide) ?_
    refine ev_callS [.inl p2, .inl 1, .inl 100] dX6_pay_16 co_X6_isWithin ml_RX6_129 cs_X6_isWithin rfl rfl (by decide) (Nat.le_of_ble_eq_true rfl) rfl H (fun r3 u4 H => ?_)
    refine ev_if_ne 24 dX6_pay_19 (by decide) (fun h => ?_) (fun h => ?_)
    · have H := H.1 h
      refine ev_iload_n dX6_pay_24 rfl ?_
      refine ev_iload_n dX6_pay_25 rfl ?_
      refine ev_callS [.inl p0, .inl p1] dX6_pay_26 co_X2_sheetOf ml_RX6_150 cs_X2_sheetOf rfl rfl (by decide) (Nat.le_of_ble_eq_true rfl) rfl H (fun r5 u6 H => ?_)
      refine ev_istore dX6_pay_29 (by decide) ?_
      refine ev_aload_n dX6_pay_31 rfl ?_
      refine ev_getR dX6_pay_32 (fo_RX6_35 _ rfl) (by decide) rfl rfl ?_
      refine ev_iload dX6_pay_35 rfl ?_
      refine ev_callV 4 [.inl r5] dX6_pay_37 co_X2_owedOf ml_RX6_190 cv_X2_owedOf (by decide) rfl rfl rfl rfl (by decide) (Nat.le_of_ble_eq_true rfl) rfl H (fun r7 u8 H => ?_)
      refine ev_iload_n dX6_pay_40 rfl ?_
      refine ev_icmp_ge 47 dX6_pay_41 (by decide) (fun h => ?_) (fun h => ?_)
      · have H := H.1 h
        refine ev_aload_n dX6_pay_47 rfl ?_
        refine ev_getR dX6_pay_48 (fo_RX6_35 _ rfl) (by decide) rfl rfl ?_
        refine ev_iload dX6_pay_51 rfl ?_
        refine ev_iload_n dX6_pay_53 rfl ?_
        refine ev_callVv 4 [.inl r5, .inl p2] dX6_pay_54 co_X2_putDown ml_RX6_193 cv_X2_putDown (by decide) rfl rfl rfl rfl (by decide) (Nat.le_of_ble_eq_true rfl) rfl H (fun u10 H => ?_)
        refine ev_aload_n dX6_pay_57 rfl ?_
        refine ev_getR dX6_pay_58 (fo_RX6_35 _ rfl) (by decide) rfl rfl ?_
        refine ev_iload dX6_pay_61 rfl ?_
        refine ev_callV 4 [.inl r5] dX6_pay_63 co_X2_owedOf ml_RX6_190 cv_X2_owedOf (by decide) rfl rfl rfl rfl (by decide) (Nat.le_of_ble_eq_true rfl) rfl H (fun r11 u12 H => ?_)
        exact ev_iret dX6_pay_66 rfl H
      · have H := H.2 h
        refine ev_bipush (-4) dX6_pay_44 (by decide) ?_
        exact ev_iret dX6_pay_46 rfl H
    · have H := H.2 h
      refine ev_iconst (-1) dX6_pay_22 (by decide) ?_
      exact ev_iret dX6_pay_23 rfl H

set_option maxHeartbeats 4000000 in
set_option maxRecDepth 100000 in
theorem sg_X6_purse_0 {d : Nat} {w : ex_WW} {P : Int32 → ex_WW → Prop} {p0 : Int32} (H : ex_Ev d mX4_has 0 (ex_in [.inr 1, .inl p0] 2) [] w (fun r1 u2 => ((r1 = 0 → P (-1000000) u2) ∧ (¬ r1 = 0 → ex_Ev d mX2_gainOf 0 (ex_in [.inr 4, .inl p0] 4) [] u2 (fun r3 u4 => P r3 u4))))) : ex_Ev (d + 1) mX6_purse 0 [some (.inr 0), some (.inl p0)] [] w P := by
  refine ev_aload_n dX6_purse_0 rfl ?_
  refine ev_getR dX6_purse_1 (fo_RX6_10 _ rfl) (by decide) rfl rfl ?_
  refine ev_iload_n dX6_purse_4 rfl ?_
  refine ev_callV 1 [.inl p0] dX6_purse_5 co_X4_has ml_RX6_69 cv_X4_has (by decide) rfl rfl rfl rfl (by decide) (Nat.le_of_ble_eq_true rfl) rfl H (fun r1 u2 H => ?_)
  refine ev_if_eq 22 dX6_purse_8 (by decide) (fun h => ?_) (fun h => ?_)
  · have H := H.1 h
    refine ev_ldc (-1000000) dX6_purse_22 (ex_mem 386 (by decide +kernel) rfl) ?_
    exact ev_iret dX6_purse_24 rfl H
  · have H := H.2 h
    refine ev_aload_n dX6_purse_11 rfl ?_
    refine ev_getR dX6_purse_12 (fo_RX6_35 _ rfl) (by decide) rfl rfl ?_
    refine ev_iload_n dX6_purse_15 rfl ?_
    refine ev_callV 4 [.inl p0] dX6_purse_16 co_X2_gainOf ml_RX6_196 cv_X2_gainOf (by decide) rfl rfl rfl rfl (by decide) (Nat.le_of_ble_eq_true rfl) rfl H (fun r3 u4 H => ?_)
    refine ev_goto 24 dX6_purse_19 (by decide) ?_
    exact ev_iret dX6_purse_24 rfl H

set_option maxHeartbeats 4000000 in
set_option maxRecDepth 100000 in
theorem sg_X6_challenge_0 {d : Nat} {w : ex_WW} {P : Int32 → ex_WW → Prop} {p0 : Int32} {p1 : Int32} (H : ex_Ev d mX4_hasPair 0 (ex_in [.inr 1, .inl p0, .inl p1] 3) [] w (fun r1 u2 => ((¬ r1 = 0 → ex_Ev d mX1_areTwo 0 (ex_in [.inr 5, .inl p0, .inl p1] 4) [] u2 (fun r3 u4 => ((r3 = 0 → ex_Ev d mX1_isFull 0 (ex_in [.inr 5] 1) [] u4 (fun r5 u6 => ((r5 = 0 → ex_Ev d mX1_add 0 (ex_in [.inr 5, .inl p0, .inl p1] 4) [] u6 (fun r7 u8 => P r7 u8)) ∧ (¬ r5 = 0 → P (-2) u6)))) ∧ (¬ r3 = 0 → P (-3) u4)))) ∧ (r1 = 0 → P (-1) u2)))) : ex_Ev (d + 1) mX6_challenge 0 [some (.inr 0), some (.inl p0), some (.inl p1)] [] w P := by
  refine ev_aload_n dX6_challenge_0 rfl ?_
  refine ev_getR dX6_challenge_1 (fo_RX6_10 _ rfl) (by decide) rfl rfl ?_
  refine ev_iload_n dX6_challenge_4 rfl ?_
  refine ev_iload_n dX6_challenge_5 rfl ?_
  refine ev_callV 1 [.inl p0, .inl p1] dX6_challenge_6 co_X4_hasPair ml_RX6_136 cv_X4_hasPair (by decide) rfl rfl rfl rfl (by decide) (Nat.le_of_ble_eq_true rfl) rfl H (fun r1 u2 H => ?_)
  refine ev_if_ne 14 dX6_challenge_9 (by decide) (fun h => ?_) (fun h => ?_)
  · have H := H.1 h
    refine ev_aload_n dX6_challenge_14 rfl ?_
    refine ev_getR dX6_challenge_15 (fo_RX6_42 _ rfl) (by decide) rfl rfl ?_
    refine ev_iload_n dX6_challenge_18 rfl ?_
    refine ev_iload_n dX6_challenge_19 rfl ?_
    refine ev_callV 5 [.inl p0, .inl p1] dX6_challenge_20 co_X1_areTwo ml_RX6_199 cv_X1_areTwo (by decide) rfl rfl rfl rfl (by decide) (Nat.le_of_ble_eq_true rfl) rfl H (fun r3 u4 H => ?_)
    refine ev_if_eq 29 dX6_challenge_23 (by decide) (fun h => ?_) (fun h => ?_)
    · have H := H.1 h
      refine ev_aload_n dX6_challenge_29 rfl ?_
      refine ev_getR dX6_challenge_30 (fo_RX6_42 _ rfl) (by decide) rfl rfl ?_
      refine ev_callV 5 [] dX6_challenge_33 co_X1_isFull ml_RX6_202 cv_X1_isFull (by decide) rfl rfl rfl rfl (by decide) (Nat.le_of_ble_eq_true rfl) rfl H (fun r5 u6 H => ?_)
      refine ev_if_eq 42 dX6_challenge_36 (by decide) (fun h => ?_) (fun h => ?_)
      · have H := H.1 h
        refine ev_aload_n dX6_challenge_42 rfl ?_
        refine ev_getR dX6_challenge_43 (fo_RX6_42 _ rfl) (by decide) rfl rfl ?_
        refine ev_iload_n dX6_challenge_46 rfl ?_
        refine ev_iload_n dX6_challenge_47 rfl ?_
        refine ev_callV 5 [.inl p0, .inl p1] dX6_challenge_48 co_X1_add ml_RX6_203 cv_X1_add (by decide) rfl rfl rfl rfl (by decide) (Nat.le_of_ble_eq_true rfl) rfl H (fun r7 u8 H => ?_)
        exact ev_iret dX6_challenge_51 rfl H
      · have H := H.2 h
        refine ev_bipush (-2) dX6_challenge_39 (by decide) ?_
        exact ev_iret dX6_challenge_41 rfl H
    · have H := H.2 h
      refine ev_bipush (-3) dX6_challenge_26 (by decide) ?_
      exact ev_iret dX6_challenge_28 rfl H
  · have H := H.2 h
    refine ev_iconst (-1) dX6_challenge_12 (by decide) ?_
    exact ev_iret dX6_challenge_13 rfl H

set_option maxHeartbeats 4000000 in
set_option maxRecDepth 100000 in
theorem sg_X6_withdraw_0 {d : Nat} {w : ex_WW} {P : Int32 → ex_WW → Prop} (H : ex_Ev d mX1_size 0 (ex_in [.inr 5] 1) [] w (fun r1 u2 => ((¬ r1 = 0 → ex_Ev d mX1_dropLatest 0 (ex_in [.inr 5] 1) [] u2 (fun _ u4 => ex_Ev d mX1_size 0 (ex_in [.inr 5] 1) [] u4 (fun r5 u6 => P r5 u6))) ∧ (r1 = 0 → P (-4) u2)))) : ex_Ev (d + 1) mX6_withdraw 0 [some (.inr 0)] [] w P := by
  refine ev_aload_n dX6_withdraw_0 rfl ?_
  refine ev_getR dX6_withdraw_1 (fo_RX6_42 _ rfl) (by decide) rfl rfl ?_
  refine ev_callV 5 [] dX6_withdraw_4 co_X1_size ml_RX6_206 cv_X1_size (by decide) rfl rfl rfl rfl (by decide) (Nat.le_of_ble_eq_true rfl) rfl H (fun r1 u2 H => ?_)
  refine ev_if_ne 13 dX6_withdraw_7 (by decide) (fun h => ?_) (fun h => ?_)
  · have H := H.1 h
    refine ev_aload_n dX6_withdraw_13 rfl ?_
    refine ev_getR dX6_withdraw_14 (fo_RX6_42 _ rfl) (by decide) rfl rfl ?_
    refine ev_callVv 5 [] dX6_withdraw_17 co_X1_dropLatest ml_RX6_207 cv_X1_dropLatest (by decide) rfl rfl rfl rfl (by decide) (Nat.le_of_ble_eq_true rfl) rfl H (fun u4 H => ?_)
    refine ev_aload_n dX6_withdraw_20 rfl ?_
    refine ev_getR dX6_withdraw_21 (fo_RX6_42 _ rfl) (by decide) rfl rfl ?_
    refine ev_callV 5 [] dX6_withdraw_24 co_X1_size ml_RX6_206 cv_X1_size (by decide) rfl rfl rfl rfl (by decide) (Nat.le_of_ble_eq_true rfl) rfl H (fun r5 u6 H => ?_)
    exact ev_iret dX6_withdraw_27 rfl H
  · have H := H.2 h
    refine ev_bipush (-4) dX6_withdraw_10 (by decide) ?_
    exact ev_iret dX6_withdraw_12 rfl H

set_option maxHeartbeats 4000000 in
set_option maxRecDepth 100000 in
theorem sg_X6_turn_0 {d : Nat} {w : ex_WW} {P : Int32 → ex_WW → Prop} {p0 : Int32} (H : ex_Ev d mX1_size 0 (ex_in [.inr 5] 1) [] w (fun r1 u2 => ex_Ev d mX6_isWithin 0 (ex_in [.inl p0, .inl 0, .inl (r1 - 1)] 3) [] u2 (fun r3 u4 => ((¬ r3 = 0 → ex_Ev d mX1_plan 0 (ex_in [.inr 5] 2) [] u4 (fun _ u6 => ex_Ev d mX1_plannedTurn 0 (ex_in [.inr 5, .inl p0] 2) [] u6 (fun r7 u8 => P r7 u8))) ∧ (r3 = 0 → P (-1) u4))))) : ex_Ev (d + 1) mX6_turn 0 [some (.inr 0), some (.inl p0)] [] w P := by
  refine ev_iload_n dX6_turn_0 rfl ?_
  refine ev_iconst 0 dX6_turn_1 (by decide) ?_
  refine ev_aload_n dX6_turn_2 rfl ?_
  refine ev_getR dX6_turn_3 (fo_RX6_42 _ rfl) (by decide) rfl rfl ?_
  refine ev_callV 5 [] dX6_turn_6 co_X1_size ml_RX6_206 cv_X1_size (by decide) rfl rfl rfl rfl (by decide) (Nat.le_of_ble_eq_true rfl) rfl H (fun r1 u2 H => ?_)
  refine ev_iconst 1 dX6_turn_9 (by decide) ?_
  refine ev_isub dX6_turn_10 ?_
  refine ev_callS [.inl p0, .inl 0, .inl (r1 - 1)] dX6_turn_11 co_X6_isWithin ml_RX6_129 cs_X6_isWithin rfl rfl (by decide) (Nat.le_of_ble_eq_true rfl) rfl H (fun r3 u4 H => ?_)
  refine ev_if_ne 19 dX6_turn_14 (by decide) (fun h => ?_) (fun h => ?_)
  · have H := H.1 h
    refine ev_aload_n dX6_turn_19 rfl ?_
    refine ev_getR dX6_turn_20 (fo_RX6_42 _ rfl) (by decide) rfl rfl ?_
    refine ev_callVv 5 [] dX6_turn_23 co_X1_plan ml_RX6_210 cv_X1_plan (by decide) rfl rfl rfl rfl (by decide) (Nat.le_of_ble_eq_true rfl) rfl H (fun u6 H => ?_)
    refine ev_aload_n dX6_turn_26 rfl ?_
    refine ev_getR dX6_turn_27 (fo_RX6_42 _ rfl) (by decide) rfl rfl ?_
    refine ev_iload_n dX6_turn_30 rfl ?_
    refine ev_callV 5 [.inl p0] dX6_turn_31 co_X1_plannedTurn ml_RX6_213 cv_X1_plannedTurn (by decide) rfl rfl rfl rfl (by decide) (Nat.le_of_ble_eq_true rfl) rfl H (fun r7 u8 H => ?_)
    exact ev_iret dX6_turn_34 rfl H
  · have H := H.2 h
    refine ev_iconst (-1) dX6_turn_17 (by decide) ?_
    exact ev_iret dX6_turn_18 rfl H

set_option maxHeartbeats 4000000 in
set_option maxRecDepth 100000 in
theorem sg_X6_turns_0 {d : Nat} {w : ex_WW} {P : Int32 → ex_WW → Prop} (H : ex_Ev d mX1_plan 0 (ex_in [.inr 5] 2) [] w (fun _ u2 => ex_Ev d mX1_plannedLength 0 (ex_in [.inr 5] 3) [] u2 (fun r3 u4 => P r3 u4))) : ex_Ev (d + 1) mX6_turns 0 [some (.inr 0)] [] w P := by
  refine ev_aload_n dX6_turns_0 rfl ?_
  refine ev_getR dX6_turns_1 (fo_RX6_42 _ rfl) (by decide) rfl rfl ?_
  refine ev_callVv 5 [] dX6_turns_4 co_X1_plan ml_RX6_210 cv_X1_plan (by decide) rfl rfl rfl rfl (by decide) (Nat.le_of_ble_eq_true rfl) rfl H (fun u2 H => ?_)
  refine ev_aload_n dX6_turns_7 rfl ?_
  refine ev_getR dX6_turns_8 (fo_RX6_42 _ rfl) (by decide) rfl rfl ?_
  refine ev_callV 5 [] dX6_turns_11 co_X1_plannedLength ml_RX6_216 cv_X1_plannedLength (by decide) rfl rfl rfl rfl (by decide) (Nat.le_of_ble_eq_true rfl) rfl H (fun r3 u4 H => ?_)
  exact ev_iret dX6_turns_14 rfl H

set_option maxHeartbeats 4000000 in
set_option maxRecDepth 100000 in
theorem sg_X6_feud_0 {d : Nat} {w : ex_WW} {P : Int32 → ex_WW → Prop} {p0 : Int32} {p1 : Int32} {p2 : Int32} (H : ex_Ev d mX4_hasPair 0 (ex_in [.inr 1, .inl p0, .inl p1] 3) [] w (fun r1 u2 => ((¬ r1 = 0 → ex_Ev d mX0_areInFeud 0 (ex_in [.inr 6, .inl p0, .inl p1] 3) [] u2 (fun r3 u4 => ((¬ r3 = p2 → ex_Ev d mX0_setFeud 0 (ex_in [.inr 6, .inl p0, .inl p1, .inl p2] 4) [] u4 (fun _ u6 => P 1 u6)) ∧ (r3 = p2 → P 0 u4)))) ∧ (r1 = 0 → P (-1) u2)))) : ex_Ev (d + 1) mX6_feud 0 [some (.inr 0), some (.inl p0), some (.inl p1), some (.inl p2)] [] w P := by
  refine ev_aload_n dX6_feud_0 rfl ?_
  refine ev_getR dX6_feud_1 (fo_RX6_10 _ rfl) (by decide) rfl rfl ?_
  refine ev_iload_n dX6_feud_4 rfl ?_
  refine ev_iload_n dX6_feud_5 rfl ?_
  refine ev_callV 1 [.inl p0, .inl p1] dX6_feud_6 co_X4_hasPair ml_RX6_136 cv_X4_hasPair (by decide) rfl rfl rfl rfl (by decide) (Nat.le_of_ble_eq_true rfl) rfl H (fun r1 u2 H => ?_)
  refine ev_if_ne 14 dX6_feud_9 (by decide) (fun h => ?_) (fun h => ?_)
  · have H := H.1 h
    refine ev_aload_n dX6_feud_14 rfl ?_
    refine ev_getR dX6_feud_15 (fo_RX6_49 _ rfl) (by decide) rfl rfl ?_
    refine ev_iload_n dX6_feud_18 rfl ?_
    refine ev_iload_n dX6_feud_19 rfl ?_
    refine ev_callV 6 [.inl p0, .inl p1] dX6_feud_20 co_X0_areInFeud ml_RX6_219 cv_X0_areInFeud (by decide) rfl rfl rfl rfl (by decide) (Nat.le_of_ble_eq_true rfl) rfl H (fun r3 u4 H => ?_)
    refine ev_iload_n dX6_feud_23 rfl ?_
    refine ev_icmp_ne 29 dX6_feud_24 (by decide) (fun h => ?_) (fun h => ?_)
    · have H := H.1 h
      refine ev_aload_n dX6_feud_29 rfl ?_
      refine ev_getR dX6_feud_30 (fo_RX6_49 _ rfl) (by decide) rfl rfl ?_
      refine ev_iload_n dX6_feud_33 rfl ?_
      refine ev_iload_n dX6_feud_34 rfl ?_
      refine ev_iload_n dX6_feud_35 rfl ?_
      refine ev_callVv 6 [.inl p0, .inl p1, .inl p2] dX6_feud_36 co_X0_setFeud ml_RX6_222 cv_X0_setFeud (by decide) rfl rfl rfl rfl (by decide) (Nat.le_of_ble_eq_true rfl) rfl H (fun u6 H => ?_)
      refine ev_iconst 1 dX6_feud_39 (by decide) ?_
      exact ev_iret dX6_feud_40 rfl H
    · have H := H.2 h
      refine ev_iconst 0 dX6_feud_27 (by decide) ?_
      exact ev_iret dX6_feud_28 rfl H
  · have H := H.2 h
    refine ev_iconst (-1) dX6_feud_12 (by decide) ?_
    exact ev_iret dX6_feud_13 rfl H

set_option maxHeartbeats 4000000 in
set_option maxRecDepth 100000 in
theorem sg_X6_tent_0 {d : Nat} {w : ex_WW} {P : Int32 → ex_WW → Prop} {p0 : Int32} (H : ex_Ev d mX6_isWithin 0 (ex_in [.inl p0, .inl 0, .inl 6] 3) [] w (fun r1 u2 => ((¬ r1 = 0 → ex_Ev d mX0_pitch 0 (ex_in [.inr 6, .inr 1] 6) [] u2 (fun r3 u4 => ((r3 ≤ p0 → P (-4) u4) ∧ (¬ r3 ≤ p0 → ex_Ev d mX0_knightAt 0 (ex_in [.inr 6, .inl p0] 2) [] u4 (fun r5 u6 => P r5 u6))))) ∧ (r1 = 0 → P (-1) u2)))) : ex_Ev (d + 1) mX6_tent 0 [some (.inr 0), some (.inl p0)] [] w P := by
  refine ev_iload_n dX6_tent_0 rfl ?_
  refine ev_iconst 0 dX6_tent_1 (by decide) ?_
  refine ev_bipush 6 dX6_tent_2 (by decide) ?_
  refine ev_callS [.inl p0, .inl 0, .inl 6] dX6_tent_4 co_X6_isWithin ml_RX6_129 cs_X6_isWithin rfl rfl (by decide) (Nat.le_of_ble_eq_true rfl) rfl H (fun r1 u2 H => ?_)
  refine ev_if_ne 12 dX6_tent_7 (by decide) (fun h => ?_) (fun h => ?_)
  · have H := H.1 h
    refine ev_iload_n dX6_tent_12 rfl ?_
    refine ev_aload_n dX6_tent_13 rfl ?_
    refine ev_getR dX6_tent_14 (fo_RX6_49 _ rfl) (by decide) rfl rfl ?_
    refine ev_aload_n dX6_tent_17 rfl ?_
    refine ev_getR dX6_tent_18 (fo_RX6_10 _ rfl) (by decide) rfl rfl ?_
    refine ev_callV 6 [.inr 1] dX6_tent_21 co_X0_pitch ml_RX6_226 cv_X0_pitch (by decide) rfl rfl rfl rfl (by decide) (Nat.le_of_ble_eq_true rfl) rfl H (fun r3 u4 H => ?_)
    refine ev_icmp_ge 38 dX6_tent_24 (by decide) (fun h => ?_) (fun h => ?_)
    · have H := H.1 h
      refine ev_bipush (-4) dX6_tent_38 (by decide) ?_
      exact ev_iret dX6_tent_40 rfl H
    · have H := H.2 h
      refine ev_aload_n dX6_tent_27 rfl ?_
      refine ev_getR dX6_tent_28 (fo_RX6_49 _ rfl) (by decide) rfl rfl ?_
      refine ev_iload_n dX6_tent_31 rfl ?_
      refine ev_callV 6 [.inl p0] dX6_tent_32 co_X0_knightAt ml_RX6_230 cv_X0_knightAt (by decide) rfl rfl rfl rfl (by decide) (Nat.le_of_ble_eq_true rfl) rfl H (fun r5 u6 H => ?_)
      refine ev_goto 40 dX6_tent_35 (by decide) ?_
      exact ev_iret dX6_tent_40 rfl H
  · have H := H.2 h
    refine ev_iconst (-1) dX6_tent_10 (by decide) ?_
    exact ev_iret dX6_tent_11 rfl H

set_option maxHeartbeats 4000000 in
set_option maxRecDepth 100000 in
theorem sg_X6_many_0 {d : Nat} {w : ex_WW} {P : Int32 → ex_WW → Prop} {p0 : Int32} (H : ((p0 = 0 → ex_Ev d mX4_size 0 (ex_in [.inr 1] 1) [] w (fun r1 u2 => P r1 u2)) ∧ (p0 = 1 → ex_Ev d mX3_size 0 (ex_in [.inr 2] 1) [] w (fun r3 u4 => P r3 u4)) ∧ (p0 = 2 → ex_Ev d mX3_inForce 0 (ex_in [.inr 2] 1) [] w (fun r5 u6 => P r5 u6)) ∧ (p0 = 3 → ex_Ev d mX2_size 0 (ex_in [.inr 4] 1) [] w (fun r7 u8 => P r7 u8)) ∧ (p0 = 4 → ex_Ev d mX1_size 0 (ex_in [.inr 5] 1) [] w (fun r9 u10 => P r9 u10)) ∧ (p0 = 5 → ex_Ev d mX0_countFeuds 0 (ex_in [.inr 6] 3) [] w (fun r11 u12 => P r11 u12)) ∧ (p0 = 6 → ex_Ev d mX5_length 0 (ex_in [.inr 3] 1) [] w (fun r13 u14 => P r13 u14)) ∧ (p0 = 7 → ex_Ev d mX4_countRiders 0 (ex_in [.inr 1] 3) [] w (fun r15 u16 => P r15 u16)) ∧ (p0 = 8 → ex_Ev d mX2_owedInAll 0 (ex_in [.inr 4] 3) [] w (fun r17 u18 => P r17 u18)) ∧ (p0 = 9 → ex_Ev d mX2_paidInAll 0 (ex_in [.inr 4] 3) [] w (fun r19 u20 => P r19 u20)) ∧ (¬ p0 = 0 → ¬ p0 = 1 → ¬ p0 = 2 → ¬ p0 = 3 → ¬ p0 = 4 → ¬ p0 = 5 → ¬ p0 = 6 → ¬ p0 = 7 → ¬ p0 = 8 → ¬ p0 = 9 → P (-1) w))) : ex_Ev (d + 1) mX6_many 0 [some (.inr 0), some (.inl p0)] [] w P := by
  refine ev_iload_n dX6_many_0 rfl ?_
  have hs : ∀ z : Int32, z = p0 → ex_Ev (d + 1) mX6_many 1 [some (.inr 0), some (.inl p0)] (.inl z :: []) w P := by
    intro z hz
    by_cases h0 : z = 0
    · have H := H.1 (hz.symm.trans h0)
      subst h0
      refine ev_tableIn 56 dX6_many_1 (by decide) (by decide) rfl (by decide) ?_
      refine ev_aload_n dX6_many_56 rfl ?_
      refine ev_getR dX6_many_57 (fo_RX6_10 _ rfl) (by decide) rfl rfl ?_
      refine ev_callV 1 [] dX6_many_60 co_X4_size ml_RX6_181 cv_X4_size (by decide) rfl rfl rfl rfl (by decide) (Nat.le_of_ble_eq_true rfl) rfl H (fun r1 u2 H => ?_)
      exact ev_iret dX6_many_63 rfl H
    by_cases h1 : z = 1
    · have H := H.2.1 (hz.symm.trans h1)
      subst h1
      refine ev_tableIn 64 dX6_many_1 (by decide) (by decide) rfl (by decide) ?_
      refine ev_aload_n dX6_many_64 rfl ?_
      refine ev_getR dX6_many_65 (fo_RX6_19 _ rfl) (by decide) rfl rfl ?_
      refine ev_callV 2 [] dX6_many_68 co_X3_size ml_RX6_233 cv_X3_size (by decide) rfl rfl rfl rfl (by decide) (Nat.le_of_ble_eq_true rfl) rfl H (fun r3 u4 H => ?_)
      exact ev_iret dX6_many_71 rfl H
    by_cases h2 : z = 2
    · have H := H.2.2.1 (hz.symm.trans h2)
      subst h2
      refine ev_tableIn 72 dX6_many_1 (by decide) (by decide) rfl (by decide) ?_
      refine ev_aload_n dX6_many_72 rfl ?_
      refine ev_getR dX6_many_73 (fo_RX6_19 _ rfl) (by decide) rfl rfl ?_
      refine ev_callV 2 [] dX6_many_76 co_X3_inForce ml_RX6_140 cv_X3_inForce (by decide) rfl rfl rfl rfl (by decide) (Nat.le_of_ble_eq_true rfl) rfl H (fun r5 u6 H => ?_)
      exact ev_iret dX6_many_79 rfl H
    by_cases h3 : z = 3
    · have H := H.2.2.2.1 (hz.symm.trans h3)
      subst h3
      refine ev_tableIn 80 dX6_many_1 (by decide) (by decide) rfl (by decide) ?_
      refine ev_aload_n dX6_many_80 rfl ?_
      refine ev_getR dX6_many_81 (fo_RX6_35 _ rfl) (by decide) rfl rfl ?_
      refine ev_callV 4 [] dX6_many_84 co_X2_size ml_RX6_234 cv_X2_size (by decide) rfl rfl rfl rfl (by decide) (Nat.le_of_ble_eq_true rfl) rfl H (fun r7 u8 H => ?_)
      exact ev_iret dX6_many_87 rfl H
    by_cases h4 : z = 4
    · have H := H.2.2.2.2.1 (hz.symm.trans h4)
      subst h4
      refine ev_tableIn 88 dX6_many_1 (by decide) (by decide) rfl (by decide) ?_
      refine ev_aload_n dX6_many_88 rfl ?_
      refine ev_getR dX6_many_89 (fo_RX6_42 _ rfl) (by decide) rfl rfl ?_
      refine ev_callV 5 [] dX6_many_92 co_X1_size ml_RX6_206 cv_X1_size (by decide) rfl rfl rfl rfl (by decide) (Nat.le_of_ble_eq_true rfl) rfl H (fun r9 u10 H => ?_)
      exact ev_iret dX6_many_95 rfl H
    by_cases h5 : z = 5
    · have H := H.2.2.2.2.2.1 (hz.symm.trans h5)
      subst h5
      refine ev_tableIn 96 dX6_many_1 (by decide) (by decide) rfl (by decide) ?_
      refine ev_aload_n dX6_many_96 rfl ?_
      refine ev_getR dX6_many_97 (fo_RX6_49 _ rfl) (by decide) rfl rfl ?_
      refine ev_callV 6 [] dX6_many_100 co_X0_countFeuds ml_RX6_235 cv_X0_countFeuds (by decide) rfl rfl rfl rfl (by decide) (Nat.le_of_ble_eq_true rfl) rfl H (fun r11 u12 H => ?_)
      exact ev_iret dX6_many_103 rfl H
    by_cases h6 : z = 6
    · have H := H.2.2.2.2.2.2.1 (hz.symm.trans h6)
      subst h6
      refine ev_tableIn 104 dX6_many_1 (by decide) (by decide) rfl (by decide) ?_
      refine ev_aload_n dX6_many_104 rfl ?_
      refine ev_getR dX6_many_105 (fo_RX6_26 _ rfl) (by decide) rfl rfl ?_
      refine ev_callV 3 [] dX6_many_108 co_X5_length ml_RX6_106 cv_X5_length (by decide) rfl rfl rfl rfl (by decide) (Nat.le_of_ble_eq_true rfl) rfl H (fun r13 u14 H => ?_)
      exact ev_iret dX6_many_111 rfl H
    by_cases h7 : z = 7
    · have H := H.2.2.2.2.2.2.2.1 (hz.symm.trans h7)
      subst h7
      refine ev_tableIn 112 dX6_many_1 (by decide) (by decide) rfl (by decide) ?_
      refine ev_aload_n dX6_many_112 rfl ?_
      refine ev_getR dX6_many_113 (fo_RX6_10 _ rfl) (by decide) rfl rfl ?_
      refine ev_callV 1 [] dX6_many_116 co_X4_countRiders ml_RX6_238 cv_X4_countRiders (by decide) rfl rfl rfl rfl (by decide) (Nat.le_of_ble_eq_true rfl) rfl H (fun r15 u16 H => ?_)
      exact ev_iret dX6_many_119 rfl H
    by_cases h8 : z = 8
    · have H := H.2.2.2.2.2.2.2.2.1 (hz.symm.trans h8)
      subst h8
      refine ev_tableIn 120 dX6_many_1 (by decide) (by decide) rfl (by decide) ?_
      refine ev_aload_n dX6_many_120 rfl ?_
      refine ev_getR dX6_many_121 (fo_RX6_35 _ rfl) (by decide) rfl rfl ?_
      refine ev_callV 4 [] dX6_many_124 co_X2_owedInAll ml_RX6_241 cv_X2_owedInAll (by decide) rfl rfl rfl rfl (by decide) (Nat.le_of_ble_eq_true rfl) rfl H (fun r17 u18 H => ?_)
      exact ev_iret dX6_many_127 rfl H
    by_cases h9 : z = 9
    · have H := H.2.2.2.2.2.2.2.2.2.1 (hz.symm.trans h9)
      subst h9
      refine ev_tableIn 128 dX6_many_1 (by decide) (by decide) rfl (by decide) ?_
      refine ev_aload_n dX6_many_128 rfl ?_
      refine ev_getR dX6_many_129 (fo_RX6_35 _ rfl) (by decide) rfl rfl ?_
      refine ev_callV 4 [] dX6_many_132 co_X2_paidInAll ml_RX6_244 cv_X2_paidInAll (by decide) rfl rfl rfl rfl (by decide) (Nat.le_of_ble_eq_true rfl) rfl H (fun r19 u20 H => ?_)
      exact ev_iret dX6_many_135 rfl H
    have H := H.2.2.2.2.2.2.2.2.2.2 (fun q => h0 (hz.trans q)) (fun q => h1 (hz.trans q)) (fun q => h2 (hz.trans q)) (fun q => h3 (hz.trans q)) (fun q => h4 (hz.trans q)) (fun q => h5 (hz.trans q)) (fun q => h6 (hz.trans q)) (fun q => h7 (hz.trans q)) (fun q => h8 (hz.trans q)) (fun q => h9 (hz.trans q))
    refine ev_tableOut 136 dX6_many_1 (by have q0 := lv_neT h0 (a := 0) rfl; have q1 := lv_neT h1 (a := 1) rfl; have q2 := lv_neT h2 (a := 2) rfl; have q3 := lv_neT h3 (a := 3) rfl; have q4 := lv_neT h4 (a := 4) rfl; have q5 := lv_neT h5 (a := 5) rfl; have q6 := lv_neT h6 (a := 6) rfl; have q7 := lv_neT h7 (a := 7) rfl; have q8 := lv_neT h8 (a := 8) rfl; have q9 := lv_neT h9 (a := 9) rfl; omega) (by decide) ?_
    refine ev_iconst (-1) dX6_many_136 (by decide) ?_
    exact ev_iret dX6_many_137 rfl H
  exact hs _ rfl

set_option maxHeartbeats 4000000 in
set_option maxRecDepth 100000 in
theorem sg_X6_isWithin_0 {d : Nat} {w : ex_WW} {P : Int32 → ex_WW → Prop} {p0 : Int32} {p1 : Int32} {p2 : Int32} (H : ((p0 < p1 → P 0 w) ∧ (¬ p0 < p1 → ((p2 < p0 → P 0 w) ∧ (¬ p2 < p0 → P 1 w))))) : ex_Ev d mX6_isWithin 0 [some (.inl p0), some (.inl p1), some (.inl p2)] [] w P := by
  refine ev_iload_n dX6_isWithin_0 rfl ?_
  refine ev_iload_n dX6_isWithin_1 rfl ?_
  refine ev_icmp_lt 14 dX6_isWithin_2 (by decide) (fun h => ?_) (fun h => ?_)
  · have H := H.1 h
    refine ev_iconst 0 dX6_isWithin_14 (by decide) ?_
    exact ev_zret dX6_isWithin_15 rfl (by decide) H
  · have H := H.2 h
    refine ev_iload_n dX6_isWithin_5 rfl ?_
    refine ev_iload_n dX6_isWithin_6 rfl ?_
    refine ev_icmp_gt 14 dX6_isWithin_7 (by decide) (fun h => ?_) (fun h => ?_)
    · have H := H.1 h
      refine ev_iconst 0 dX6_isWithin_14 (by decide) ?_
      exact ev_zret dX6_isWithin_15 rfl (by decide) H
    · have H := H.2 h
      refine ev_iconst 1 dX6_isWithin_10 (by decide) ?_
      refine ev_goto 15 dX6_isWithin_11 (by decide) ?_
      exact ev_zret dX6_isWithin_15 rfl (by decide) H

