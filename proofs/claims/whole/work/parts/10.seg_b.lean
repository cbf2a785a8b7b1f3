set_option maxHeartbeats 4000000 in
set_option maxRecDepth 100000 in
theorem sg_X3_size_0 {d : Nat} {w : ex_WW} {P : Int32 → ex_WW → Prop} (H : P (w 2 2) w) : ex_Ev d mX3_size 0 [some (.inr 2)] [] w P := by
  refine ev_aload_n dX3_size_0 rfl ?_
  refine ev_getI dX3_size_1 (fo_RX3_22 _ rfl) (by decide) rfl rfl ?_
  exact ev_iret dX3_size_4 rfl H

set_option maxHeartbeats 4000000 in
set_option maxRecDepth 100000 in
theorem sg_X3_isFull_0 {d : Nat} {w : ex_WW} {P : Int32 → ex_WW → Prop} (H : (((w 2 2) < 6 → P 0 w) ∧ (¬ (w 2 2) < 6 → P 1 w))) : ex_Ev d mX3_isFull 0 [some (.inr 2)] [] w P := by
  refine ev_aload_n dX3_isFull_0 rfl ?_
  refine ev_getI dX3_isFull_1 (fo_RX3_22 _ rfl) (by decide) rfl rfl ?_
  refine ev_bipush 6 dX3_isFull_4 (by decide) ?_
  refine ev_icmp_lt 13 dX3_isFull_6 (by decide) (fun h => ?_) (fun h => ?_)
  · have H := H.1 h
    refine ev_iconst 0 dX3_isFull_13 (by decide) ?_
    exact ev_zret dX3_isFull_14 rfl (by decide) H
  · have H := H.2 h
    refine ev_iconst 1 dX3_isFull_9 (by decide) ?_
    refine ev_goto 14 dX3_isFull_10 (by decide) ?_
    exact ev_zret dX3_isFull_14 rfl (by decide) H

set_option maxHeartbeats 4000000 in
set_option maxRecDepth 100000 in
theorem sg_X3_has_0 {d : Nat} {w : ex_WW} {P : Int32 → ex_WW → Prop} {p0 : Int32} (H : ((p0 < 0 → P 0 w) ∧ (¬ p0 < 0 → (((w 2 2) ≤ p0 → P 0 w) ∧ (¬ (w 2 2) ≤ p0 → P 1 w))))) : ex_Ev d mX3_has 0 [some (.inr 2), some (.inl p0)] [] w P := by
  refine ev_iload_n dX3_has_0 rfl ?_
  refine ev_if_lt 16 dX3_has_1 (by decide) (fun h => ?_) (fun h => ?_)
  · have H := H.1 h
    refine ev_iconst 0 dX3_has_16 (by decide) ?_
    exact ev_zret dX3_has_17 rfl (by decide) H
  · have H := H.2 h
    refine ev_iload_n dX3_has_4 rfl ?_
    refine ev_aload_n dX3_has_5 rfl ?_
    refine ev_getI dX3_has_6 (fo_RX3_22 _ rfl) (by decide) rfl rfl ?_
    refine ev_icmp_ge 16 dX3_has_9 (by decide) (fun h => ?_) (fun h => ?_)
    · have H := H.1 h
      refine ev_iconst 0 dX3_has_16 (by decide) ?_
      exact ev_zret dX3_has_17 rfl (by decide) H
    · have H := H.2 h
      refine ev_iconst 1 dX3_has_12 (by decide) ?_
      refine ev_goto 17 dX3_has_13 (by decide) ?_
      exact ev_zret dX3_has_17 rfl (by decide) H

set_option maxHeartbeats 4000000 in
set_option maxRecDepth 100000 in
theorem sg_X3_inForce_0 {d : Nat} {w : ex_WW} {P : Int32 → ex_WW → Prop} (H : P (w 2 3) w) : ex_Ev d mX3_inForce 0 [some (.inr 2)] [] w P := by
  refine ev_aload_n dX3_inForce_0 rfl ?_
  refine ev_getI dX3_inForce_1 (fo_RX3_18 _ rfl) (by decide) rfl rfl ?_
  exact ev_iret dX3_inForce_4 rfl H

set_option maxHeartbeats 4000000 in
set_option maxRecDepth 100000 in
theorem sg_X3_putInForce_0 {d : Nat} {w : ex_WW} {P : Int32 → ex_WW → Prop} {p0 : Int32} (H : P 0 (ex_up w 2 3 p0)) : ex_Ev d mX3_putInForce 0 [some (.inr 2), some (.inl p0)] [] w P := by
  refine ev_aload_n dX3_putInForce_0 rfl ?_
  refine ev_iload_n dX3_putInForce_1 rfl ?_
  refine ev_put dX3_putInForce_2 (fo_RX3_18 _ rfl) fp_3_3 (by decide) rfl rfl (vp_nar_int _) rfl ?_
  exact ev_vret dX3_putInForce_5 rfl H

set_option maxHeartbeats 4000000 in
set_option maxRecDepth 100000 in
theorem sg_X3_worthOf_0 {d : Nat} {w : ex_WW} {P : Int32 → ex_WW → Prop} {p0 : Int32} {p1 : Int32} (H : (vp_in ((p0 * 6) + p1) 36 ∧ P (w 11 ((p0 * 6) + p1).toNatClampNeg) w)) : ex_Ev d mX3_worthOf 0 [some (.inr 2), some (.inl p0), some (.inl p1)] [] w P := by
  refine ev_aload_n dX3_worthOf_0 rfl ?_
  refine ev_getR dX3_worthOf_1 (fo_RX3_9 _ rfl) (by decide) rfl rfl ?_
  refine ev_iload_n dX3_worthOf_4 rfl ?_
  refine ev_bipush 6 dX3_worthOf_5 (by decide) ?_
  refine ev_imul dX3_worthOf_7 ?_
  refine ev_iload_n dX3_worthOf_8 rfl ?_
  refine ev_iadd dX3_worthOf_9 ?_
  refine ev_iald dX3_worthOf_10 (by decide) rfl H.1 ?_
  have H := H.2
  exact ev_iret dX3_worthOf_11 rfl H

set_option maxHeartbeats 4000000 in
set_option maxRecDepth 100000 in
theorem sg_X3_tieOf_0 {d : Nat} {w : ex_WW} {P : Int32 → ex_WW → Prop} {p0 : Int32} (H : (vp_in p0 6 ∧ P (w 12 p0.toNatClampNeg) w)) : ex_Ev d mX3_tieOf 0 [some (.inr 2), some (.inl p0)] [] w P := by
  refine ev_aload_n dX3_tieOf_0 rfl ?_
  refine ev_getR dX3_tieOf_1 (fo_RX3_15 _ rfl) (by decide) rfl rfl ?_
  refine ev_iload_n dX3_tieOf_4 rfl ?_
  refine ev_iald dX3_tieOf_5 (by decide) rfl H.1 ?_
  have H := H.2
  exact ev_iret dX3_tieOf_6 rfl H

set_option maxHeartbeats 4000000 in
set_option maxRecDepth 100000 in
theorem sg_X3_standingOf_0 {d : Nat} {w : ex_WW} {P : Int32 → ex_WW → Prop} {p0 : Int32} {p1 : Int32} (H : ((p1 = 0 → (vp_in ((p0 * 6) + p1) 36 ∧ P (((w 11 ((p0 * 6) + p1).toNatClampNeg) * 7) + 0) w)) ∧ (¬ p1 = 0 → (vp_in p0 6 ∧ ((¬ p1 = (w 12 p0.toNatClampNeg) → (vp_in ((p0 * 6) + p1) 36 ∧ P (((w 11 ((p0 * 6) + p1).toNatClampNeg) * 7) + 0) w)) ∧ (p1 = (w 12 p0.toNatClampNeg) → (vp_in ((p0 * 6) + p1) 36 ∧ P (((w 11 ((p0 * 6) + p1).toNatClampNeg) * 7) + 1) w))))))) : ex_Ev d mX3_standingOf 0 [some (.inr 2), some (.inl p0), some (.inl p1), none] [] w P := by
  refine ev_iload_n dX3_standingOf_0 rfl ?_
  refine ev_if_eq 18 dX3_standingOf_1 (by decide) (fun h => ?_) (fun h => ?_)
  · have H := H.1 h
    refine ev_iconst 0 dX3_standingOf_18 (by decide) ?_
    refine ev_istore_n dX3_standingOf_19 (by decide) ?_
    refine ev_aload_n dX3_standingOf_20 rfl ?_
    refine ev_getR dX3_standingOf_21 (fo_RX3_9 _ rfl) (by decide) rfl rfl ?_
    refine ev_iload_n dX3_standingOf_24 rfl ?_
    refine ev_bipush 6 dX3_standingOf_25 (by decide) ?_
    refine ev_imul dX3_standingOf_27 ?_
    refine ev_iload_n dX3_standingOf_28 rfl ?_
    refine ev_iadd dX3_standingOf_29 ?_
    refine ev_iald dX3_standingOf_30 (by decide) rfl H.1 ?_
    have H := H.2
    refine ev_bipush 7 dX3_standingOf_31 (by decide) ?_
    refine ev_imul dX3_standingOf_33 ?_
    refine ev_iload_n dX3_standingOf_34 rfl ?_
    refine ev_iadd dX3_standingOf_35 ?_
    exact ev_iret dX3_standingOf_36 rfl H
  · have H := H.2 h
    refine ev_iload_n dX3_standingOf_4 rfl ?_
    refine ev_aload_n dX3_standingOf_5 rfl ?_
    refine ev_getR dX3_standingOf_6 (fo_RX3_15 _ rfl) (by decide) rfl rfl ?_
    refine ev_iload_n dX3_standingOf_9 rfl ?_
    refine ev_iald dX3_standingOf_10 (by decide) rfl H.1 ?_
    have H := H.2
    refine ev_icmp_ne 18 dX3_standingOf_11 (by decide) (fun h => ?_) (fun h => ?_)
    · have H := H.1 h
      refine ev_iconst 0 dX3_standingOf_18 (by decide) ?_
      refine ev_istore_n dX3_standingOf_19 (by decide) ?_
      refine ev_aload_n dX3_standingOf_20 rfl ?_
      refine ev_getR dX3_standingOf_21 (fo_RX3_9 _ rfl) (by decide) rfl rfl ?_
      refine ev_iload_n dX3_standingOf_24 rfl ?_
      refine ev_bipush 6 dX3_standingOf_25 (by decide) ?_
      refine ev_imul dX3_standingOf_27 ?_
      refine ev_iload_n dX3_standingOf_28 rfl ?_
      refine ev_iadd dX3_standingOf_29 ?_
      refine ev_iald dX3_standingOf_30 (by decide) rfl H.1 ?_
      have H := H.2
      refine ev_bipush 7 dX3_standingOf_31 (by decide) ?_
      refine ev_imul dX3_standingOf_33 ?_
      refine ev_iload_n dX3_standingOf_34 rfl ?_
      refine ev_iadd dX3_standingOf_35 ?_
      exact ev_iret dX3_standingOf_36 rfl H
    · have H := H.2 h
      refine ev_iconst 1 dX3_standingOf_14 (by decide) ?_
      refine ev_goto 19 dX3_standingOf_15 (by decide) ?_
      refine ev_istore_n dX3_standingOf_19 (by decide) ?_
      refine ev_aload_n dX3_standingOf_20 rfl ?_
      refine ev_getR dX3_standingOf_21 (fo_RX3_9 _ rfl) (by decide) rfl rfl ?_
      refine ev_iload_n dX3_standingOf_24 rfl ?_
      refine ev_bipush 6 dX3_standingOf_25 (by decide) ?_
      refine ev_imul dX3_standingOf_27 ?_
      refine ev_iload_n dX3_standingOf_28 rfl ?_
      refine ev_iadd dX3_standingOf_29 ?_
      refine ev_iald dX3_standingOf_30 (by decide) rfl H.1 ?_
      have H := H.2
      refine ev_bipush 7 dX3_standingOf_31 (by decide) ?_
      refine ev_imul dX3_standingOf_33 ?_
      refine ev_iload_n dX3_standingOf_34 rfl ?_
      refine ev_iadd dX3_standingOf_35 ?_
      exact ev_iret dX3_standingOf_36 rfl H

set_option maxHeartbeats 4000000 in
set_option maxRecDepth 100000 in
theorem sg_X3_scoreIn_0 {d : Nat} {w : ex_WW} {P : Int32 → ex_WW → Prop} {p0 : Int32} (H : ex_Ev d mJ9_floorDiv_7cf53 0 (ex_in [.inl p0, .inl 7] 3) [] w (fun r1 u2 => P r1 u2)) : ex_Ev (d + 1) mX3_scoreIn 0 [some (.inl p0)] [] w P := by
  refine ev_iload_n dX3_scoreIn_0 rfl ?_
  refine ev_bipush 7 dX3_scoreIn_1 (by decide) ?_
  refine ev_callS [.inl p0, .inl 7] dX3_scoreIn_3 co_J9_floorDiv_7cf53 ml_RX3_25 cs_J9_floorDiv_7cf53 rfl rfl (by decide) (Nat.le_of_ble_eq_true rfl) rfl H (fun r1 u2 H => ?_)
  exact ev_iret dX3_scoreIn_6 rfl H

set_option maxHeartbeats 4000000 in
set_option maxRecDepth 100000 in
theorem sg_X3_leastStanding_0 {d : Nat} {w : ex_WW} {P : Int32 → ex_WW → Prop} {p0 : Int32} (H : ex_Ev (d + 1) mX3_leastStanding 4 [some (.inr 2), some (.inl p0), some (.inl 0), some (.inl 1)] [] w P) : ex_Ev (d + 1) mX3_leastStanding 0 [some (.inr 2), some (.inl p0), none, none] [] w P := by
  refine ev_iconst 0 dX3_leastStanding_0 (by decide) ?_
  refine ev_istore_n dX3_leastStanding_1 (by decide) ?_
  refine ev_iconst 1 dX3_leastStanding_2 (by decide) ?_
  refine ev_istore_n dX3_leastStanding_3 (by decide) ?_
  exact H

set_option maxHeartbeats 4000000 in
set_option maxRecDepth 100000 in
theorem sg_X3_leastStanding_4 {d : Nat} {w : ex_WW} {P : Int32 → ex_WW → Prop} {x1 : Int32} {x2 : Int32} {x3 : Int32} (H : ((6 ≤ x3 → P x2 w) ∧ (¬ 6 ≤ x3 → ex_Ev d mX3_standingOf 0 (ex_in [.inr 2, .inl x1, .inl x3] 4) [] w (fun r1 u2 => ex_Ev d mJ9_min_7cf53 0 (ex_in [.inl x2, .inl r1] 2) [] u2 (fun r3 u4 => ex_Ev (d + 1) mX3_leastStanding 4 [some (.inr 2), some (.inl x1), some (.inl r3), some (.inl (x3 + 1))] [] u4 P))))) : ex_Ev (d + 1) mX3_leastStanding 4 [some (.inr 2), some (.inl x1), some (.inl x2), some (.inl x3)] [] w P := by
  refine ev_iload_n dX3_leastStanding_4 rfl ?_
  refine ev_bipush 6 dX3_leastStanding_5 (by decide) ?_
  refine ev_icmp_ge 27 dX3_leastStanding_7 (by decide) (fun h => ?_) (fun h => ?_)
  · have H := H.1 h
    refine ev_iload_n dX3_leastStanding_27 rfl ?_
    exact ev_iret dX3_leastStanding_28 rfl H
  · have H := H.2 h
    refine ev_iload_n dX3_leastStanding_10 rfl ?_
    refine ev_aload_n dX3_leastStanding_11 rfl ?_
    refine ev_iload_n dX3_leastStanding_12 rfl ?_
    refine ev_iload_n dX3_leastStanding_13 rfl ?_
    refine ev_callV 2 [.inl x1, .inl x3] dX3_leastStanding_14 co_X3_standingOf ml_RX3_31 cv_X3_standingOf (by decide) rfl rfl rfl rfl (by decide) (Nat.le_of_ble_eq_true rfl) rfl H (fun r1 u2 H => ?_)
    refine ev_callS [.inl x2, .inl r1] dX3_leastStanding_17 co_J9_min_7cf53 ml_RX3_34 cs_J9_min_7cf53 rfl rfl (by decide) (Nat.le_of_ble_eq_true rfl) rfl H (fun r3 u4 H => ?_)
    refine ev_istore_n dX3_leastStanding_20 (by decide) ?_
    refine ev_iinc (x3 + 1) dX3_leastStanding_21 rfl rfl (by decide) ?_
    refine ev_goto 4 dX3_leastStanding_24 (by decide) ?_
    exact H

set_option maxHeartbeats 4000000 in
set_option maxRecDepth 100000 in
theorem sg_X3_greatestStanding_0 {d : Nat} {w : ex_WW} {P : Int32 → ex_WW → Prop} {p0 : Int32} (H : ex_Ev (d + 1) mX3_greatestStanding 4 [some (.inr 2), some (.inl p0), some (.inl 0), some (.inl 1)] [] w P) : ex_Ev (d + 1) mX3_greatestStanding 0 [some (.inr 2), some (.inl p0), none, none] [] w P := by
  refine ev_iconst 0 dX3_greatestStanding_0 (by decide) ?_
  refine ev_istore_n dX3_greatestStanding_1 (by decide) ?_
  refine ev_iconst 1 dX3_greatestStanding_2 (by decide) ?_
  refine ev_istore_n dX3_greatestStanding_3 (by decide) ?_
  exact H

set_option maxHeartbeats 4000000 in
set_option maxRecDepth 100000 in
theorem sg_X3_greatestStanding_4 {d : Nat} {w : ex_WW} {P : Int32 → ex_WW → Prop} {x1 : Int32} {x2 : Int32} {x3 : Int32} (H : ((6 ≤ x3 → P x2 w) ∧ (¬ 6 ≤ x3 → ex_Ev d mX3_standingOf 0 (ex_in [.inr 2, .inl x1, .inl x3] 4) [] w (fun r1 u2 => ex_Ev d mJ9_max_7cf53 0 (ex_in [.inl x2, .inl r1] 2) [] u2 (fun r3 u4 => ex_Ev (d + 1) mX3_greatestStanding 4 [some (.inr 2), some (.inl x1), some (.inl r3), some (.inl (x3 + 1))] [] u4 P))))) : ex_Ev (d + 1) mX3_greatestStanding 4 [some (.inr 2), some (.inl x1), some (.inl x2), some (.inl x3)] [] w P := by
  refine ev_iload_n dX3_greatestStanding_4 rfl ?_
  refine ev_bipush 6 dX3_greatestStanding_5 (by decide) ?_
  refine ev_icmp_ge 27 dX3_greatestStanding_7 (by decide) (fun h => ?_) (fun h => ?_)
  · have H := H.1 h
    refine ev_iload_n dX3_greatestStanding_27 rfl ?_
    exact ev_iret dX3_greatestStanding_28 rfl H
  · have H := H.2 h
    refine ev_iload_n dX3_greatestStanding_10 rfl ?_
    refine ev_aload_n dX3_greatestStanding_11 rfl ?_
    refine ev_iload_n dX3_greatestStanding_12 rfl ?_
    refine ev_iload_n dX3_greatestStanding_13 rfl ?_
    refine ev_callV 2 [.inl x1, .inl x3] dX3_greatestStanding_14 co_X3_standingOf ml_RX3_31 cv_X3_standingOf (by decide) rfl rfl rfl rfl (by decide) (Nat.le_of_ble_eq_true rfl) rfl H (fun r1 u2 H => ?_)
    refine ev_callS [.inl x2, .inl r1] dX3_greatestStanding_17 co_J9_max_7cf53 ml_RX3_37 cs_J9_max_7cf53 rfl rfl (by decide) (Nat.le_of_ble_eq_true rfl) rfl H (fun r3 u4 H => ?_)
    refine ev_istore_n dX3_greatestStanding_20 (by decide) ?_
    refine ev_iinc (x3 + 1) dX3_greatestStanding_21 rfl rfl (by decide) ?_
    refine ev_goto 4 dX3_greatestStanding_24 (by decide) ?_
    exact H

set_option maxHeartbeats 4000000 in
set_option maxRecDepth 100000 in
theorem sg_X3_clearDraft_0 {d : Nat} {w : ex_WW} {P : Int32 → ex_WW → Prop} (H : ex_Ev (d + 1) mX3_clearDraft 2 [some (.inr 2), some (.inl 0)] [] w P) : ex_Ev (d + 1) mX3_clearDraft 0 [some (.inr 2), none] [] w P := by
  refine ev_iconst 0 dX3_clearDraft_0 (by decide) ?_
  refine ev_istore_n dX3_clearDraft_1 (by decide) ?_
  exact H

set_option maxHeartbeats 4000000 in
set_option maxRecDepth 100000 in
theorem sg_X3_clearDraft_2 {d : Nat} {w : ex_WW} {P : Int32 → ex_WW → Prop} {x1 : Int32} (H : ((6 ≤ x1 → ex_Ev d mX3_draftTie 0 (ex_in [.inr 2, .inl 0] 2) [] w (fun _ u2 => P 0 u2)) ∧ (¬ 6 ≤ x1 → ex_Ev d mX3_draftWorth 0 (ex_in [.inr 2, .inl x1, .inl 0] 3) [] w (fun _ u4 => ex_Ev (d + 1) mX3_clearDraft 2 [some (.inr 2), some (.inl (x1 + 1))] [] u4 P)))) : ex_Ev (d + 1) mX3_clearDraft 2 [some (.inr 2), some (.inl x1)] [] w P := by
  refine ev_iload_n dX3_clearDraft_2 rfl ?_
  refine ev_bipush 6 dX3_clearDraft_3 (by decide) ?_
  refine ev_icmp_ge 20 dX3_clearDraft_5 (by decide) (fun h => ?_) (fun h => ?_)
  · have H := H.1 h
    refine ev_aload_n dX3_clearDraft_20 rfl ?_
    refine ev_iconst 0 dX3_clearDraft_21 (by decide) ?_
    refine ev_callVv 2 [.inl 0] dX3_clearDraft_22 co_X3_draftTie ml_RX3_44 cv_X3_draftTie (by decide) rfl rfl rfl rfl (by decide) (Nat.le_of_ble_eq_true rfl) rfl H (fun u2 H => ?_)
    exact ev_vret dX3_clearDraft_25 rfl H
  · have H := H.2 h
    refine ev_aload_n dX3_clearDraft_8 rfl ?_
    refine ev_iload_n dX3_clearDraft_9 rfl ?_
    refine ev_iconst 0 dX3_clearDraft_10 (by decide) ?_
    refine ev_callVv 2 [.inl x1, .inl 0] dX3_clearDraft_11 co_X3_draftWorth ml_RX3_40 cv_X3_draftWorth (by decide) rfl rfl rfl rfl (by decide) (Nat.le_of_ble_eq_true rfl) rfl H (fun u4 H => ?_)
    refine ev_iinc (x1 + 1) dX3_clearDraft_14 rfl rfl (by decide) ?_
    refine ev_goto 2 dX3_clearDraft_17 (by decide) ?_
    exact H

set_option maxHeartbeats 4000000 in
set_option maxRecDepth 100000 in
theorem sg_X3_draftWorth_0 {d : Nat} {w : ex_WW} {P : Int32 → ex_WW → Prop} {p0 : Int32} {p1 : Int32} (H : (vp_in (((w 2 2) * 6) + p0) 36 ∧ P 0 (ex_up w 11 (((w 2 2) * 6) + p0).toNatClampNeg p1))) : ex_Ev d mX3_draftWorth 0 [some (.inr 2), some (.inl p0), some (.inl p1)] [] w P := by
  refine ev_aload_n dX3_draftWorth_0 rfl ?_
  refine ev_getR dX3_draftWorth_1 (fo_RX3_9 _ rfl) (by decide) rfl rfl ?_
  refine ev_aload_n dX3_draftWorth_4 rfl ?_
  refine ev_getI dX3_draftWorth_5 (fo_RX3_22 _ rfl) (by decide) rfl rfl ?_
  refine ev_bipush 6 dX3_draftWorth_8 (by decide) ?_
  refine ev_imul dX3_draftWorth_10 ?_
  refine ev_iload_n dX3_draftWorth_11 rfl ?_
  refine ev_iadd dX3_draftWorth_12 ?_
  refine ev_iload_n dX3_draftWorth_13 rfl ?_
  refine ev_iast dX3_draftWorth_14 (by decide) rfl H.1 ?_
  have H := H.2
  exact ev_vret dX3_draftWorth_15 rfl H

set_option maxHeartbeats 4000000 in
set_option maxRecDepth 100000 in
theorem sg_X3_draftTie_0 {d : Nat} {w : ex_WW} {P : Int32 → ex_WW → Prop} {p0 : Int32} (H : (vp_in (w 2 2) 6 ∧ P 0 (ex_up w 12 (w 2 2).toNatClampNeg p0))) : ex_Ev d mX3_draftTie 0 [some (.inr 2), some (.inl p0)] [] w P := by
  refine ev_aload_n dX3_draftTie_0 rfl ?_
  refine ev_getR dX3_draftTie_1 (fo_RX3_15 _ rfl) (by decide) rfl rfl ?_
  refine ev_aload_n dX3_draftTie_4 rfl ?_
  refine ev_getI dX3_draftTie_5 (fo_RX3_22 _ rfl) (by decide) rfl rfl ?_
  refine ev_iload_n dX3_draftTie_8 rfl ?_
  refine ev_iast dX3_draftTie_9 (by decide) rfl H.1 ?_
  have H := H.2
  exact ev_vret dX3_draftTie_10 rfl H

set_option maxHeartbeats 4000000 in
set_option maxRecDepth 100000 in
theorem sg_X3_keepDraft_0 {d : Nat} {w : ex_WW} {P : Int32 → ex_WW → Prop} (H : P (w 2 2) (ex_up (ex_up w 2 3 (w 2 2)) 2 2 ((w 2 2) + 1))) : ex_Ev d mX3_keepDraft 0 [some (.inr 2)] [] w P := by
  refine ev_aload_n dX3_keepDraft_0 rfl ?_
  refine ev_aload_n dX3_keepDraft_1 rfl ?_
  refine ev_getI dX3_keepDraft_2 (fo_RX3_22 _ rfl) (by decide) rfl rfl ?_
  refine ev_put dX3_keepDraft_5 (fo_RX3_18 _ rfl) fp_3_3 (by decide) rfl rfl (vp_nar_int _) rfl ?_
  refine ev_aload_n dX3_keepDraft_8 rfl ?_
  refine ev_dup dX3_keepDraft_9 ?_
  refine ev_getI dX3_keepDraft_10 (fo_RX3_22 _ rfl) (by decide) rfl rfl ?_
  refine ev_iconst 1 dX3_keepDraft_13 (by decide) ?_
  refine ev_iadd dX3_keepDraft_14 ?_
  refine ev_put dX3_keepDraft_15 (fo_RX3_22 _ rfl) fp_3_2 (by decide) rfl rfl (vp_nar_int _) rfl ?_
  refine ev_aload_n dX3_keepDraft_18 rfl ?_
  refine ev_getI dX3_keepDraft_19 (fo_RX3_18 _ rfl) (by decide) rfl rfl ?_
  exact ev_iret dX3_keepDraft_22 rfl H

set_option maxHeartbeats 4000000 in
set_option maxRecDepth 100000 in
theorem sg_X5_length_0 {d : Nat} {w : ex_WW} {P : Int32 → ex_WW → Prop} (H : P (w 3 1) w) : ex_Ev d mX5_length 0 [some (.inr 3)] [] w P := by
  refine ev_aload_n dX5_length_0 rfl ?_
  refine ev_getI dX5_length_1 (fo_RX5_15 _ rfl) (by decide) rfl rfl ?_
  exact ev_iret dX5_length_4 rfl H

set_option maxHeartbeats 4000000 in
set_option maxRecDepth 100000 in
theorem sg_X5_wipe_0 {d : Nat} {w : ex_WW} {P : Int32 → ex_WW → Prop} (H : P (w 3 1) (ex_up w 3 1 0)) : ex_Ev d mX5_wipe 0 [some (.inr 3), none] [] w P := by
  refine ev_aload_n dX5_wipe_0 rfl ?_
  refine ev_getI dX5_wipe_1 (fo_RX5_15 _ rfl) (by decide) rfl rfl ?_
  refine ev_istore_n dX5_wipe_4 (by decide) ?_
  refine ev_aload_n dX5_wipe_5 rfl ?_
  refine ev_iconst 0 dX5_wipe_6 (by decide) ?_
  refine ev_put dX5_wipe_7 (fo_RX5_15 _ rfl) fp_5_1 (by decide) rfl rfl (vp_nar_int _) rfl ?_
  refine ev_iload_n dX5_wipe_10 rfl ?_
  exact ev_iret dX5_wipe_11 rfl H

set_option maxHeartbeats 4000000 in
set_option maxRecDepth 100000 in
theorem sg_X5_append_0 {d : Nat} {w : ex_WW} {P : Int32 → ex_WW → Prop} {p0 : Int32} (H : ex_Ev d mX5_countLetters 0 (ex_in [.inl p0] 2) [] w (fun r1 u2 => ((((u2 3 1) + r1) ≤ 60 → ex_Ev (d + 1) mX5_append 20 [some (.inr 3), some (.inl p0), some (.inl r1), some (.inl 0)] [] u2 P) ∧ (¬ ((u2 3 1) + r1) ≤ 60 → P 0 u2)))) : ex_Ev (d + 1) mX5_append 0 [some (.inr 3), some (.inl p0), none, none] [] w P := by
  refine ev_iload_n dX5_append_0 rfl ?_
  refine ev_callS [.inl p0] dX5_append_1 co_X5_countLetters ml_RX5_19 cs_X5_countLetters rfl rfl (by decide) (Nat.le_of_ble_eq_true rfl) rfl H (fun r1 u2 H => ?_)
  refine ev_istore_n dX5_append_4 (by decide) ?_
  refine ev_aload_n dX5_append_5 rfl ?_
  refine ev_getI dX5_append_6 (fo_RX5_15 _ rfl) (by decide) rfl rfl ?_
  refine ev_iload_n dX5_append_9 rfl ?_
  refine ev_iadd dX5_append_10 ?_
  refine ev_bipush 60 dX5_append_11 (by decide) ?_
  refine ev_icmp_le 18 dX5_append_13 (by decide) (fun h => ?_) (fun h => ?_)
  · have H := H.1 h
    refine ev_iconst 0 dX5_append_18 (by decide) ?_
    refine ev_istore_n dX5_append_19 (by decide) ?_
    exact H
  · have H := H.2 h
    refine ev_iconst 0 dX5_append_16 (by decide) ?_
    exact ev_zret dX5_append_17 rfl (by decide) H

set_option maxHeartbeats 4000000 in
set_option maxRecDepth 100000 in
theorem sg_X5_append_20 {d : Nat} {w : ex_WW} {P : Int32 → ex_WW → Prop} {x1 : Int32} {x2 : Int32} {x3 : Int32} (H : ((x2 ≤ x3 → P 1 (ex_up w 3 1 ((w 3 1) + x2))) ∧ (¬ x2 ≤ x3 → ex_Ev d mX5_letterIn 0 (ex_in [.inl x1, .inl x3] 2) [] w (fun r1 u2 => (vp_in ((w 3 1) + x3) 60 ∧ ex_Ev (d + 1) mX5_append 20 [some (.inr 3), some (.inl x1), some (.inl x2), some (.inl (x3 + 1))] [] (ex_up u2 13 ((w 3 1) + x3).toNatClampNeg r1) P))))) : ex_Ev (d + 1) mX5_append 20 [some (.inr 3), some (.inl x1), some (.inl x2), some (.inl x3)] [] w P := by
  refine ev_iload_n dX5_append_20 rfl ?_
  refine ev_iload_n dX5_append_21 rfl ?_
  refine ev_icmp_ge 47 dX5_append_22 (by decide) (fun h => ?_) (fun h => ?_)
  · have H := H.1 h
    refine ev_aload_n dX5_append_47 rfl ?_
    refine ev_dup dX5_append_48 ?_
    refine ev_getI dX5_append_49 (fo_RX5_15 _ rfl) (by decide) rfl rfl ?_
    refine ev_iload_n dX5_append_52 rfl ?_
    refine ev_iadd dX5_append_53 ?_
    refine ev_put dX5_append_54 (fo_RX5_15 _ rfl) fp_5_1 (by decide) rfl rfl (vp_nar_int _) rfl ?_
    refine ev_iconst 1 dX5_append_57 (by decide) ?_
    exact ev_zret dX5_append_58 rfl (by decide) H
  · have H := H.2 h
    refine ev_aload_n dX5_append_25 rfl ?_
    refine ev_getR dX5_append_26 (fo_RX5_9 _ rfl) (by decide) rfl rfl ?_
    refine ev_aload_n dX5_append_29 rfl ?_
    refine ev_getI dX5_append_30 (fo_RX5_15 _ rfl) (by decide) rfl rfl ?_
    refine ev_iload_n dX5_append_33 rfl ?_
    refine ev_iadd dX5_append_34 ?_
    refine ev_iload_n dX5_append_35 rfl ?_
    refine ev_iload_n dX5_append_36 rfl ?_
    refine ev_callS [.inl x1, .inl x3] dX5_append_37 co_X5_letterIn ml_RX5_23 cs_X5_letterIn rfl rfl (by decide) (Nat.le_of_ble_eq_true rfl) rfl H (fun r1 u2 H => ?_)
    refine ev_iast dX5_append_40 (by decide) rfl H.1 ?_
    have H := H.2
    refine ev_iinc (x3 + 1) dX5_append_41 rfl rfl (by decide) ?_
    refine ev_goto 20 dX5_append_44 (by decide) ?_
    exact H

set_option maxHeartbeats 4000000 in
set_option maxRecDepth 100000 in
theorem sg_X5_countLetters_0 {d : Nat} {w : ex_WW} {P : Int32 → ex_WW → Prop} {p0 : Int32} (H : ex_Ev (d + 1) mX5_countLetters 2 [some (.inl p0), some (.inl 0)] [] w P) : ex_Ev (d + 1) mX5_countLetters 0 [some (.inl p0), none] [] w P := by
  refine ev_iconst 0 dX5_countLetters_0 (by decide) ?_
  refine ev_istore_n dX5_countLetters_1 (by decide) ?_
  exact H

set_option maxHeartbeats 4000000 in
set_option maxRecDepth 100000 in
theorem sg_X5_countLetters_2 {d : Nat} {w : ex_WW} {P : Int32 → ex_WW → Prop} {x0 : Int32} {x1 : Int32} (H : ((4 ≤ x1 → P x1 w) ∧ (¬ 4 ≤ x1 → ex_Ev d mX5_letterIn 0 (ex_in [.inl x0, .inl x1] 2) [] w (fun r1 u2 => ((r1 = 0 → P x1 u2) ∧ (¬ r1 = 0 → ex_Ev (d + 1) mX5_countLetters 2 [some (.inl x0), some (.inl (x1 + 1))] [] u2 P)))))) : ex_Ev (d + 1) mX5_countLetters 2 [some (.inl x0), some (.inl x1)] [] w P := by
  refine ev_iload_n dX5_countLetters_2 rfl ?_
  refine ev_iconst 4 dX5_countLetters_3 (by decide) ?_
  refine ev_icmp_ge 21 dX5_countLetters_4 (by decide) (fun h => ?_) (fun h => ?_)
  · have H := H.1 h
    refine ev_iload_n dX5_countLetters_21 rfl ?_
    exact ev_iret dX5_countLetters_22 rfl H
  · have H := H.2 h
    refine ev_iload_n dX5_countLetters_7 rfl ?_
    refine ev_iload_n dX5_countLetters_8 rfl ?_
    refine ev_callS [.inl x0, .inl x1] dX5_countLetters_9 co_X5_letterIn ml_RX5_23 cs_X5_letterIn rfl rfl (by decide) (Nat.le_of_ble_eq_true rfl) rfl H (fun r1 u2 H => ?_)
    refine ev_if_eq 21 dX5_countLetters_12 (by decide) (fun h => ?_) (fun h => ?_)
    · have H := H.1 h
      refine ev_iload_n dX5_countLetters_21 rfl ?_
      exact ev_iret dX5_countLetters_22 rfl H
    · have H := H.2 h
      refine ev_iinc (x1 + 1) dX5_countLetters_15 rfl rfl (by decide) ?_
      refine ev_goto 2 dX5_countLetters_18 (by decide) ?_
      exact H

set_option maxHeartbeats 4000000 in
set_option maxRecDepth 100000 in
theorem sg_X5_letterIn_0 {d : Nat} {w : ex_WW} {P : Int32 → ex_WW → Prop} {p0 : Int32} {p1 : Int32} (H : P (((Int32.toUInt32 p0 >>> (Int32.toUInt32 (8 * p1) &&& Int32.toUInt32 31)).toInt32) &&& 255) w) : ex_Ev d mX5_letterIn 0 [some (.inl p0), some (.inl p1)] [] w P := by
  refine ev_iload_n dX5_letterIn_0 rfl ?_
  refine ev_bipush 8 dX5_letterIn_1 (by decide) ?_
  refine ev_iload_n dX5_letterIn_3 rfl ?_
  refine ev_imul dX5_letterIn_4 ?_
  refine ev_iushr dX5_letterIn_5 ?_
  refine ev_sipush 255 dX5_letterIn_6 (by decide) ?_
  refine ev_iand dX5_letterIn_9 ?_
  exact ev_iret dX5_letterIn_10 rfl H

set_option maxHeartbeats 4000000 in
set_option maxRecDepth 100000 in
theorem sg_X5_readInto_0 {d : Nat} {w : ex_WW} {P : Int32 → ex_WW → Prop} (H : ex_Ev d mX3_clearDraft 0 (ex_in [.inr 2] 2) [] (ex_up (ex_up w 3 2 0) 3 3 0) (fun _ u2 => ex_Ev d mX5_readItems 0 (ex_in [.inr 3, .inr 2] 3) [] u2 (fun r3 u4 => ((r3 = 0 → P (u4 3 2) u4) ∧ (¬ r3 = 0 → ex_Ev d mX5_readTie 0 (ex_in [.inr 3, .inr 2] 3) [] u4 (fun r5 u6 => ((r5 = 0 → P (u6 3 2) u6) ∧ (¬ r5 = 0 → ((¬ (u6 3 2) = (u6 3 1) → P (u6 3 2) u6) ∧ ((u6 3 2) = (u6 3 1) → P (-1) u6)))))))))) : ex_Ev (d + 1) mX5_readInto 0 [some (.inr 3), some (.inr 2), none] [] w P := by
  refine ev_aload_n dX5_readInto_0 rfl ?_
  refine ev_iconst 0 dX5_readInto_1 (by decide) ?_
  refine ev_put dX5_readInto_2 (fo_RX5_27 _ rfl) fp_5_2 (by decide) rfl rfl (vp_nar_int _) rfl ?_
  refine ev_aload_n dX5_readInto_5 rfl ?_
  refine ev_iconst 0 dX5_readInto_6 (by decide) ?_
  refine ev_put dX5_readInto_7 (fo_RX5_30 _ rfl) fp_5_3 (by decide) rfl rfl (vp_nar_int _) rfl ?_
  refine ev_aload_n dX5_readInto_10 rfl ?_
  refine ev_callVv 2 [] dX5_readInto_11 co_X3_clearDraft ml_RX5_33 cv_X3_clearDraft (by decide) rfl rfl rfl rfl (by decide) (Nat.le_of_ble_eq_true rfl) rfl H (fun u2 H => ?_)
  refine ev_aload_n dX5_readInto_14 rfl ?_
  refine ev_aload_n dX5_readInto_15 rfl ?_
  refine ev_callV 3 [.inr 2] dX5_readInto_16 co_X5_readItems ml_RX5_38 cv_X5_readItems (by decide) rfl rfl rfl rfl (by decide) (Nat.le_of_ble_eq_true rfl) rfl H (fun r3 u4 H => ?_)
  refine ev_if_eq 45 dX5_readInto_19 (by decide) (fun h => ?_) (fun h => ?_)
  · have H := H.1 h
    refine ev_iconst 0 dX5_readInto_45 (by decide) ?_
    refine ev_istore_n dX5_readInto_46 (by decide) ?_
    refine ev_iload_n dX5_readInto_47 rfl ?_
    refine ev_if_eq 55 dX5_readInto_48 (by decide) (fun _ => ?_) (fun h => absurd (by decide) h)
    refine ev_aload_n dX5_readInto_55 rfl ?_
    refine ev_getI dX5_readInto_56 (fo_RX5_27 _ rfl) (by decide) rfl rfl ?_
    exact ev_iret dX5_readInto_59 rfl H
  · have H := H.2 h
    refine ev_aload_n dX5_readInto_22 rfl ?_
    refine ev_aload_n dX5_readInto_23 rfl ?_
    refine ev_callV 3 [.inr 2] dX5_readInto_24 co_X5_readTie ml_RX5_42 cv_X5_readTie (by decide) rfl rfl rfl rfl (by decide) (Nat.le_of_ble_eq_true rfl) rfl H (fun r5 u6 H => ?_)
    refine ev_if_eq 45 dX5_readInto_27 (by decide) (fun h => ?_) (fun h => ?_)
    · have H := H.1 h
      refine ev_iconst 0 dX5_readInto_45 (by decide) ?_
      refine ev_istore_n dX5_readInto_46 (by decide) ?_
      refine ev_iload_n dX5_readInto_47 rfl ?_
      refine ev_if_eq 55 dX5_readInto_48 (by decide) (fun _ => ?_) (fun h => absurd (by decide) h)
      refine ev_aload_n dX5_readInto_55 rfl ?_
      refine ev_getI dX5_readInto_56 (fo_RX5_27 _ rfl) (by decide) rfl rfl ?_
      exact ev_iret dX5_readInto_59 rfl H
    · have H := H.2 h
      refine ev_aload_n dX5_readInto_30 rfl ?_
      refine ev_getI dX5_readInto_31 (fo_RX5_27 _ rfl) (by decide) rfl rfl ?_
      refine ev_aload_n dX5_readInto_34 rfl ?_
      refine ev_getI dX5_readInto_35 (fo_RX5_15 _ rfl) (by decide) rfl rfl ?_
      refine ev_icmp_ne 45 dX5_readInto_38 (by decide) (fun h => ?_) (fun h => ?_)
      · have H := H.1 h
        refine ev_iconst 0 dX5_readInto_45 (by decide) ?_
        refine ev_istore_n dX5_readInto_46 (by decide) ?_
        refine ev_iload_n dX5_readInto_47 rfl ?_
        refine ev_if_eq 55 dX5_readInto_48 (by decide) (fun _ => ?_) (fun h => absurd (by decide) h)
        refine ev_aload_n dX5_readInto_55 rfl ?_
        refine ev_getI dX5_readInto_56 (fo_RX5_27 _ rfl) (by decide) rfl rfl ?_
        exact ev_iret dX5_readInto_59 rfl H
      · have H := H.2 h
        refine ev_iconst 1 dX5_readInto_41 (by decide) ?_
        refine ev_goto 46 dX5_readInto_42 (by decide) ?_
        refine ev_istore_n dX5_readInto_46 (by decide) ?_
        refine ev_iload_n dX5_readInto_47 rfl ?_
        refine ev_if_eq 55 dX5_readInto_48 (by decide) (fun h => absurd h (by decide)) (fun _ => ?_)
        refine ev_iconst (-1) dX5_readInto_51 (by decide) ?_
        refine ev_goto 59 dX5_readInto_52 (by decide) ?_
        exact ev_iret dX5_readInto_59 rfl H

set_option maxHeartbeats 4000000 in
set_option maxRecDepth 100000 in
theorem sg_X5_readItems_0 {d : Nat} {w : ex_WW} {P : Int32 → ex_WW → Prop} (H : ex_Ev (d + 1) mX5_readItems 2 [some (.inr 3), some (.inr 2), some (.inl 0)] [] w P) : ex_Ev (d + 1) mX5_readItems 0 [some (.inr 3), some (.inr 2), none] [] w P := by
  refine ev_iconst 0 dX5_readItems_0 (by decide) ?_
  refine ev_istore_n dX5_readItems_1 (by decide) ?_
  exact H

set_option maxHeartbeats 4000000 in
set_option maxRecDepth 100000 in
theorem sg_X5_readItems_2 {d : Nat} {w : ex_WW} {P : Int32 → ex_WW → Prop} {x2 : Int32} (H : ((6 ≤ x2 → ((x2 ≤ 0 → P 0 w) ∧ (¬ x2 ≤ 0 → P 1 w))) ∧ (¬ 6 ≤ x2 → ex_Ev d mX5_startsItem 0 (ex_in [.inr 3] 2) [] w (fun r1 u2 => ((r1 = 0 → ((x2 ≤ 0 → P 0 u2) ∧ (¬ x2 ≤ 0 → P 1 u2))) ∧ (¬ r1 = 0 → ex_Ev d mX5_readItem 0 (ex_in [.inr 3, .inr 2] 5) [] u2 (fun r3 u4 => ((¬ r3 = 0 → ex_Ev (d + 1) mX5_readItems 2 [some (.inr 3), some (.inr 2), some (.inl (x2 + 1))] [] u4 P) ∧ (r3 = 0 → P 0 u4))))))))) : ex_Ev (d + 1) mX5_readItems 2 [some (.inr 3), some (.inr 2), some (.inl x2)] [] w P := by
  refine ev_iload_n dX5_readItems_2 rfl ?_
  refine ev_bipush 6 dX5_readItems_3 (by decide) ?_
  refine ev_icmp_ge 31 dX5_readItems_5 (by decide) (fun h => ?_) (fun h => ?_)
  · have H := H.1 h
    refine ev_iload_n dX5_readItems_31 rfl ?_
    refine ev_if_le 39 dX5_readItems_32 (by decide) (fun h => ?_) (fun h => ?_)
    · have H := H.1 h
      refine ev_iconst 0 dX5_readItems_39 (by decide) ?_
      exact ev_zret dX5_readItems_40 rfl (by decide) H
    · have H := H.2 h
      refine ev_iconst 1 dX5_readItems_35 (by decide) ?_
      refine ev_goto 40 dX5_readItems_36 (by decide) ?_
      exact ev_zret dX5_readItems_40 rfl (by decide) H
  · have H := H.2 h
    refine ev_aload_n dX5_readItems_8 rfl ?_
    refine ev_callV 3 [] dX5_readItems_9 co_X5_startsItem ml_RX5_45 cv_X5_startsItem (by decide) rfl rfl rfl rfl (by decide) (Nat.le_of_ble_eq_true rfl) rfl H (fun r1 u2 H => ?_)
    refine ev_if_eq 31 dX5_readItems_12 (by decide) (fun h => ?_) (fun h => ?_)
    · have H := H.1 h
      refine ev_iload_n dX5_readItems_31 rfl ?_
      refine ev_if_le 39 dX5_readItems_32 (by decide) (fun h => ?_) (fun h => ?_)
      · have H := H.1 h
        refine ev_iconst 0 dX5_readItems_39 (by decide) ?_
        exact ev_zret dX5_readItems_40 rfl (by decide) H
      · have H := H.2 h
        refine ev_iconst 1 dX5_readItems_35 (by decide) ?_
        refine ev_goto 40 dX5_readItems_36 (by decide) ?_
        exact ev_zret dX5_readItems_40 rfl (by decide) H
    · have H := H.2 h
      refine ev_aload_n dX5_readItems_15 rfl ?_
      refine ev_aload_n dX5_readItems_16 rfl ?_
      refine ev_callV 3 [.inr 2] dX5_readItems_17 co_X5_readItem ml_RX5_49 cv_X5_readItem (by decide) rfl rfl rfl rfl (by decide) (Nat.le_of_ble_eq_true rfl) rfl H (fun r3 u4 H => ?_)
      refine ev_if_ne 25 dX5_readItems_20 (by decide) (fun h => ?_) (fun h => ?_)
      · have H := H.1 h
        refine ev_iinc (x2 + 1) dX5_readItems_25 rfl rfl (by decide) ?_
        refine ev_goto 2 dX5_readItems_28 (by decide) ?_
        exact H
      · have H := H.2 h
        refine ev_iconst 0 dX5_readItems_23 (by decide) ?_
        exact ev_zret dX5_readItems_24 rfl (by decide) H

set_option maxHeartbeats 4000000 in
set_option maxRecDepth 100000 in
theorem sg_X5_startsItem_0 {d : Nat} {w : ex_WW} {P : Int32 → ex_WW → Prop} (H : ex_Ev d mX5_letter 0 (ex_in [.inr 3] 1) [] w (fun r1 u2 => ex_Ev d mX5_strokeBy 0 (ex_in [.inl r1] 1) [] u2 (fun r3 u4 => ((r3 = 0 → P 0 u4) ∧ (¬ r3 = 0 → ((¬ ((u4 3 3) &&& (1 <<< (r3 &&& 31))) = 0 → P 0 u4) ∧ (((u4 3 3) &&& (1 <<< (r3 &&& 31))) = 0 → P 1 u4))))))) : ex_Ev (d + 1) mX5_startsItem 0 [some (.inr 3), none] [] w P := by
  refine ev_aload_n dX5_startsItem_0 rfl ?_
  refine ev_callV 3 [] dX5_startsItem_1 co_X5_letter ml_RX5_52 cv_X5_letter (by decide) rfl rfl rfl rfl (by decide) (Nat.le_of_ble_eq_true rfl) rfl H (fun r1 u2 H => ?_)
  refine ev_callS [.inl r1] dX5_startsItem_4 co_X5_strokeBy ml_RX5_56 cs_X5_strokeBy rfl rfl (by decide) (Nat.le_of_ble_eq_true rfl) rfl H (fun r3 u4 H => ?_)
  refine ev_istore_n dX5_startsItem_7 (by decide) ?_
  refine ev_iload_n dX5_startsItem_8 rfl ?_
  refine ev_if_eq 27 dX5_startsItem_9 (by decide) (fun h => ?_) (fun h => ?_)
  · have H := H.1 h
    refine ev_iconst 0 dX5_startsItem_27 (by decide) ?_
    exact ev_zret dX5_startsItem_28 rfl (by decide) H
  · have H := H.2 h
    refine ev_aload_n dX5_startsItem_12 rfl ?_
    refine ev_getI dX5_startsItem_13 (fo_RX5_30 _ rfl) (by decide) rfl rfl ?_
    refine ev_iconst 1 dX5_startsItem_16 (by decide) ?_
    refine ev_iload_n dX5_startsItem_17 rfl ?_
    refine ev_ishl dX5_startsItem_18 ?_
    refine ev_iand dX5_startsItem_19 ?_
    refine ev_if_ne 27 dX5_startsItem_20 (by decide) (fun h => ?_) (fun h => ?_)
    · have H := H.1 h
      refine ev_iconst 0 dX5_startsItem_27 (by decide) ?_
      exact ev_zret dX5_startsItem_28 rfl (by decide) H
    · have H := H.2 h
      refine ev_iconst 1 dX5_startsItem_23 (by decide) ?_
      refine ev_goto 28 dX5_startsItem_24 (by decide) ?_
      exact ev_zret dX5_startsItem_28 rfl (by decide) H

set_option maxHeartbeats 4000000 in
set_option maxRecDepth 100000 in
theorem sg_X5_readItem_0 {d : Nat} {w : ex_WW} {P : Int32 → ex_WW → Prop} (H : ex_Ev d mX5_letter 0 (ex_in [.inr 3] 1) [] w (fun r1 u2 => ex_Ev d mX5_strokeBy 0 (ex_in [.inl r1] 1) [] u2 (fun r3 u4 => ex_Ev d mX5_letter 0 (ex_in [.inr 3] 1) [] (ex_up (ex_up u4 3 3 ((u4 3 3) ||| (1 <<< (r3 &&& 31)))) 3 2 ((u4 3 2) + 1)) (fun r5 u6 => ((¬ r5 = 45 → ex_Ev d mX5_letter 0 (ex_in [.inr 3] 1) [] u6 (fun r7 u8 => ex_Ev d mX5_isFigure 0 (ex_in [.inl r7] 1) [] u8 (fun r9 u10 => ((¬ r9 = 0 → ex_Ev d mX5_letter 0 (ex_in [.inr 3] 1) [] u10 (fun r11 u12 => ex_Ev d mX5_letter 0 (ex_in [.inr 3] 1) [] (ex_up u12 3 2 ((u12 3 2) + 1)) (fun r13 u14 => ex_Ev d mX5_isFigure 0 (ex_in [.inl r13] 1) [] u14 (fun r15 u16 => ((r15 = 0 → ex_Ev d mX3_draftWorth 0 (ex_in [.inr 2, .inl r3, .inl (r11 - 48)] 3) [] u16 (fun _ u18 => P 1 u18)) ∧ (¬ r15 = 0 → ex_Ev d mX5_letter 0 (ex_in [.inr 3] 1) [] u16 (fun r19 u20 => ex_Ev d mX3_draftWorth 0 (ex_in [.inr 2, .inl r3, .inl ((((r11 - 48) * 10) + r19) - 48)] 3) [] (ex_up u20 3 2 ((u20 3 2) + 1)) (fun _ u22 => P 1 u22)))))))) ∧ (r9 = 0 → P 0 u10))))) ∧ (r5 = 45 → ex_Ev d mX5_letter 0 (ex_in [.inr 3] 1) [] (ex_up u6 3 2 ((u6 3 2) + 1)) (fun r23 u24 => ex_Ev d mX5_isFigure 0 (ex_in [.inl r23] 1) [] u24 (fun r25 u26 => ((¬ r25 = 0 → ex_Ev d mX5_letter 0 (ex_in [.inr 3] 1) [] u26 (fun r27 u28 => ex_Ev d mX5_letter 0 (ex_in [.inr 3] 1) [] (ex_up u28 3 2 ((u28 3 2) + 1)) (fun r29 u30 => ex_Ev d mX5_isFigure 0 (ex_in [.inl r29] 1) [] u30 (fun r31 u32 => ((r31 = 0 → ex_Ev d mX3_draftWorth 0 (ex_in [.inr 2, .inl r3, .inl (0 - (r27 - 48))] 3) [] u32 (fun _ u34 => P 1 u34)) ∧ (¬ r31 = 0 → ex_Ev d mX5_letter 0 (ex_in [.inr 3] 1) [] u32 (fun r35 u36 => ex_Ev d mX3_draftWorth 0 (ex_in [.inr 2, .inl r3, .inl (0 - ((((r27 - 48) * 10) + r35) - 48))] 3) [] (ex_up u36 3 2 ((u36 3 2) + 1)) (fun _ u38 => P 1 u38)))))))) ∧ (r25 = 0 → P 0 u26)))))))))) : ex_Ev (d + 1) mX5_readItem 0 [some (.inr 3), some (.inr 2), none, none, none] [] w P := by
  refine ev_aload_n dX5_readItem_0 rfl ?_
  refine ev_callV 3 [] dX5_readItem_1 co_X5_letter ml_RX5_52 cv_X5_letter (by decide) rfl rfl rfl rfl (by decide) (Nat.le_of_ble_eq_true rfl) rfl H (fun r1 u2 H => ?_)
  refine ev_callS [.inl r1] dX5_readItem_4 co_X5_strokeBy ml_RX5_56 cs_X5_strokeBy rfl rfl (by decide) (Nat.le_of_ble_eq_true rfl) rfl H (fun r3 u4 H => ?_)
  refine ev_istore_n dX5_readItem_7 (by decide) ?_
  refine ev_aload_n dX5_readItem_8 rfl ?_
  refine ev_dup dX5_readItem_9 ?_
  refine ev_getI dX5_readItem_10 (fo_RX5_30 _ rfl) (by decide) rfl rfl ?_
  refine ev_iconst 1 dX5_readItem_13 (by decide) ?_
  refine ev_iload_n dX5_readItem_14 rfl ?_
  refine ev_ishl dX5_readItem_15 ?_
  refine ev_ior dX5_readItem_16 ?_
  refine ev_put dX5_readItem_17 (fo_RX5_30 _ rfl) fp_5_3 (by decide) rfl rfl (vp_nar_int _) rfl ?_
  refine ev_aload_n dX5_readItem_20 rfl ?_
  refine ev_dup dX5_readItem_21 ?_
  refine ev_getI dX5_readItem_22 (fo_RX5_27 _ rfl) (by decide) rfl rfl ?_
  refine ev_iconst 1 dX5_readItem_25 (by decide) ?_
  refine ev_iadd dX5_readItem_26 ?_
  refine ev_put dX5_readItem_27 (fo_RX5_27 _ rfl) fp_5_2 (by decide) rfl rfl (vp_nar_int _) rfl ?_
  refine ev_aload_n dX5_readItem_30 rfl ?_
  refine ev_callV 3 [] dX5_readItem_31 co_X5_letter ml_RX5_52 cv_X5_letter (by decide) rfl rfl rfl rfl (by decide) (Nat.le_of_ble_eq_true rfl) rfl H (fun r5 u6 H => ?_)
  refine ev_bipush 45 dX5_readItem_34 (by decide) ?_
  refine ev_icmp_ne 43 dX5_readItem_36 (by decide) (fun h => ?_) (fun h => ?_)
  · have H := H.1 h
    refine ev_iconst 0 dX5_readItem_43 (by decide) ?_
    refine ev_istore_n dX5_readItem_44 (by decide) ?_
    refine ev_iload_n dX5_readItem_45 rfl ?_
    refine ev_if_eq 59 dX5_readItem_46 (by decide) (fun _ => ?_) (fun h => absurd (by decide) h)
    refine ev_aload_n dX5_readItem_59 rfl ?_
    refine ev_callV 3 [] dX5_readItem_60 co_X5_letter ml_RX5_52 cv_X5_letter (by decide) rfl rfl rfl rfl (by decide) (Nat.le_of_ble_eq_true rfl) rfl H (fun r7 u8 H => ?_)
    refine ev_callS [.inl r7] dX5_readItem_63 co_X5_isFigure ml_RX5_59 cs_X5_isFigure rfl rfl (by decide) (Nat.le_of_ble_eq_true rfl) rfl H (fun r9 u10 H => ?_)
    refine ev_if_ne 71 dX5_readItem_66 (by decide) (fun h => ?_) (fun h => ?_)
    · have H := H.1 h
      refine ev_aload_n dX5_readItem_71 rfl ?_
      refine ev_callV 3 [] dX5_readItem_72 co_X5_letter ml_RX5_52 cv_X5_letter (by decide) rfl rfl rfl rfl (by decide) (Nat.le_of_ble_eq_true rfl) rfl H (fun r11 u12 H => ?_)
      refine ev_bipush 48 dX5_readItem_75 (by decide) ?_
      refine ev_isub dX5_readItem_77 ?_
      refine ev_istore dX5_readItem_78 (by decide) ?_
      refine ev_aload_n dX5_readItem_80 rfl ?_
      refine ev_dup dX5_readItem_81 ?_
      refine ev_getI dX5_readItem_82 (fo_RX5_27 _ rfl) (by decide) rfl rfl ?_
      refine ev_iconst 1 dX5_readItem_85 (by decide) ?_
      refine ev_iadd dX5_readItem_86 ?_
      refine ev_put dX5_readItem_87 (fo_RX5_27 _ rfl) fp_5_2 (by decide) rfl rfl (vp_nar_int _) rfl ?_
      refine ev_aload_n dX5_readItem_90 rfl ?_
      refine ev_callV 3 [] dX5_readItem_91 co_X5_letter ml_RX5_52 cv_X5_letter (by decide) rfl rfl rfl rfl (by decide) (Nat.le_of_ble_eq_true rfl) rfl H (fun r13 u14 H => ?_)
      refine ev_callS [.inl r13] dX5_readItem_94 co_X5_isFigure ml_RX5_59 cs_X5_isFigure rfl rfl (by decide) (Nat.le_of_ble_eq_true rfl) rfl H (fun r15 u16 H => ?_)
      refine ev_if_eq 125 dX5_readItem_97 (by decide) (fun h => ?_) (fun h => ?_)
      · have H := H.1 h
        refine ev_aload_n dX5_readItem_125 rfl ?_
        refine ev_iload_n dX5_readItem_126 rfl ?_
        refine ev_iload_n dX5_readItem_127 rfl ?_
        refine ev_if_eq 137 dX5_readItem_128 (by decide) (fun _ => ?_) (fun h => absurd (by decide) h)
        refine ev_iload dX5_readItem_137 rfl ?_
        refine ev_callVv 2 [.inl r3, .inl (r11 - 48)] dX5_readItem_139 co_X3_draftWorth ml_RX5_63 cv_X3_draftWorth (by decide) rfl rfl rfl rfl (by decide) (Nat.le_of_ble_eq_true rfl) rfl H (fun u18 H => ?_)
        refine ev_iconst 1 dX5_readItem_142 (by decide) ?_
        exact ev_zret dX5_readItem_143 rfl (by decide) H
      · have H := H.2 h
        refine ev_iload dX5_readItem_100 rfl ?_
        refine ev_bipush 10 dX5_readItem_102 (by decide) ?_
        refine ev_imul dX5_readItem_104 ?_
        refine ev_aload_n dX5_readItem_105 rfl ?_
        refine ev_callV 3 [] dX5_readItem_106 co_X5_letter ml_RX5_52 cv_X5_letter (by decide) rfl rfl rfl rfl (by decide) (Nat.le_of_ble_eq_true rfl) rfl H (fun r19 u20 H => ?_)
        refine ev_iadd dX5_readItem_109 ?_
        refine ev_bipush 48 dX5_readItem_110 (by decide) ?_
        refine ev_isub dX5_readItem_112 ?_
        refine ev_istore dX5_readItem_113 (by decide) ?_
        refine ev_aload_n dX5_readItem_115 rfl ?_
        refine ev_dup dX5_readItem_116 ?_
        refine ev_getI dX5_readItem_117 (fo_RX5_27 _ rfl) (by decide) rfl rfl ?_
        refine ev_iconst 1 dX5_readItem_120 (by decide) ?_
        refine ev_iadd dX5_readItem_121 ?_
        refine ev_put dX5_readItem_122 (fo_RX5_27 _ rfl) fp_5_2 (by decide) rfl rfl (vp_nar_int _) rfl ?_
        refine ev_aload_n dX5_readItem_125 rfl ?_
        refine ev_iload_n dX5_readItem_126 rfl ?_
        refine ev_iload_n dX5_readItem_127 rfl ?_
        refine ev_if_eq 137 dX5_readItem_128 (by decide) (fun _ => ?_) (fun h => absurd (by decide) h)
        refine ev_iload dX5_readItem_137 rfl ?_
        refine ev_callVv 2 [.inl r3, .inl ((((r11 - 48) * 10) + r19) - 48)] dX5_readItem_139 co_X3_draftWorth ml_RX5_63 cv_X3_draftWorth (by decide) rfl rfl rfl rfl (by decide) (Nat.le_of_ble_eq_true rfl) rfl H (fun u22 H => ?_)
        refine ev_iconst 1 dX5_readItem_142 (by decide) ?_
        exact ev_zret dX5_readItem_143 rfl (by decide) H
    · have H := H.2 h
      refine ev_iconst 0 dX5_readItem_69 (by decide) ?_
      exact ev_zret dX5_readItem_70 rfl (by decide) H
  · have H := H.2 h
    refine ev_iconst 1 dX5_readItem_39 (by decide) ?_
    refine ev_goto 44 dX5_readItem_40 (by decide) ?_
    refine ev_istore_n dX5_readItem_44 (by decide) ?_
    refine ev_iload_n dX5_readItem_45 rfl ?_
    refine ev_if_eq 59 dX5_readItem_46 (by decide) (fun h => absurd h (by decide)) (fun _ => ?_)
    refine ev_aload_n dX5_readItem_49 rfl ?_
    refine ev_dup dX5_readItem_50 ?_
    refine ev_getI dX5_readItem_51 (fo_RX5_27 _ rfl) (by decide) rfl rfl ?_
    refine ev_iconst 1 dX5_readItem_54 (by decide) ?_
    refine ev_iadd dX5_readItem_55 ?_
    refine ev_put dX5_readItem_56 (fo_RX5_27 _ rfl) fp_5_2 (by decide) rfl rfl (vp_nar_int _) rfl ?_
    refine ev_aload_n dX5_readItem_59 rfl ?_
    refine ev_callV 3 [] dX5_readItem_60 co_X5_letter ml_RX5_52 cv_X5_letter (by decide) rfl rfl rfl rfl (by decide) (Nat.le_of_ble_eq_true rfl) rfl H (fun r23 u24 H => ?_)
    refine ev_callS [.inl r23] dX5_readItem_63 co_X5_isFigure ml_RX5_59 cs_X5_isFigure rfl rfl (by decide) (Nat.le_of_ble_eq_true rfl) rfl H (fun r25 u26 H => ?_)
    refine ev_if_ne 71 dX5_readItem_66 (by decide) (fun h => ?_) (fun h => ?_)
    · have H := H.1 h
      refine ev_aload_n dX5_readItem_71 rfl ?_
      refine ev_callV 3 [] dX5_readItem_72 co_X5_letter ml_RX5_52 cv_X5_letter (by decide) rfl rfl rfl rfl (by decide) (Nat.le_of_ble_eq_true rfl) rfl H (fun r27 u28 H => ?_)
      refine ev_bipush 48 dX5_readItem_75 (by decide) ?_
      refine ev_isub dX5_readItem_77 ?_
      refine ev_istore dX5_readItem_78 (by decide) ?_
      refine ev_aload_n dX5_readItem_80 rfl ?_
      refine ev_dup dX5_readItem_81 ?_
      refine ev_getI dX5_readItem_82 (fo_RX5_27 _ rfl) (by decide) rfl rfl ?_
      refine ev_iconst 1 dX5_readItem_85 (by decide) ?_
      refine ev_iadd dX5_readItem_86 ?_
      refine ev_put dX5_readItem_87 (fo_RX5_27 _ rfl) fp_5_2 (by decide) rfl rfl (vp_nar_int _) rfl ?_
      refine ev_aload_n dX5_readItem_90 rfl ?_
      refine ev_callV 3 [] dX5_readItem_91 co_X5_letter ml_RX5_52 cv_X5_letter (by decide) rfl rfl rfl rfl (by decide) (Nat.le_of_ble_eq_true rfl) rfl H (fun r29 u30 H => ?_)
      refine ev_callS [.inl r29] dX5_readItem_94 co_X5_isFigure ml_RX5_59 cs_X5_isFigure rfl rfl (by decide) (Nat.le_of_ble_eq_true rfl) rfl H (fun r31 u32 H => ?_)
      refine ev_if_eq 125 dX5_readItem_97 (by decide) (fun h => ?_) (fun h => ?_)
      · have H := H.1 h
        refine ev_aload_n dX5_readItem_125 rfl ?_
        refine ev_iload_n dX5_readItem_126 rfl ?_
        refine ev_iload_n dX5_readItem_127 rfl ?_
        refine ev_if_eq 137 dX5_readItem_128 (by decide) (fun h => absurd h (by decide)) (fun _ => ?_)
        refine ev_iload dX5_readItem_131 rfl ?_
        refine ev_ineg dX5_readItem_133 ?_
        refine ev_goto 139 dX5_readItem_134 (by decide) ?_
        refine ev_callVv 2 [.inl r3, .inl (0 - (r27 - 48))] dX5_readItem_139 co_X3_draftWorth ml_RX5_63 cv_X3_draftWorth (by decide) rfl rfl rfl rfl (by decide) (Nat.le_of_ble_eq_true rfl) rfl H (fun u34 H => ?_)
        refine ev_iconst 1 dX5_readItem_142 (by decide) ?_
        exact ev_zret dX5_readItem_143 rfl (by decide) H
      · have H := H.2 h
        refine ev_iload dX5_readItem_100 rfl ?_
        refine ev_bipush 10 dX5_readItem_102 (by decide) ?_
        refine ev_imul dX5_readItem_104 ?_
        refine ev_aload_n dX5_readItem_105 rfl ?_
        refine ev_callV 3 [] dX5_readItem_106 co_X5_letter ml_RX5_52 cv_X5_letter (by decide) rfl rfl rfl rfl (by decide) (Nat.le_of_ble_eq_true rfl) rfl H (fun r35 u36 H => ?_)
        refine ev_iadd dX5_readItem_109 ?_
        refine ev_bipush 48 dX5_readItem_110 (by decide) ?_
        refine ev_isub dX5_readItem_112 ?_
        refine ev_istore dX5_readItem_113 (by decide) ?_
        refine ev_aload_n dX5_readItem_115 rfl ?_
        refine ev_dup dX5_readItem_116 ?_
        refine ev_getI dX5_readItem_117 (fo_RX5_27 _ rfl) (by decide) rfl rfl ?_
        refine ev_iconst 1 dX5_readItem_120 (by decide) ?_
        refine ev_iadd dX5_readItem_121 ?_
        refine ev_put dX5_readItem_122 (fo_RX5_27 _ rfl) fp_5_2 (by decide) rfl rfl (vp_nar_int _) rfl ?_
        refine ev_aload_n dX5_readItem_125 rfl ?_
        refine ev_iload_n dX5_readItem_126 rfl ?_
        refine ev_iload_n dX5_readItem_127 rfl ?_
        refine ev_if_eq 137 dX5_readItem_128 (by decide) (fun h => absurd h (by decide)) (fun _ => ?_)
        refine ev_iload dX5_readItem_131 rfl ?_
        refine ev_ineg dX5_readItem_133 ?_
        refine ev_goto 139 dX5_readItem_134 (by decide) ?_
        refine ev_callVv 2 [.inl r3, .inl (0 - ((((r27 - 48) * 10) + r35) - 48))] dX5_readItem_139 co_X3_draftWorth ml_RX5_63 cv_X3_draftWorth (by decide) rfl rfl rfl rfl (by decide) (Nat.le_of_ble_eq_true rfl) rfl H (fun u38 H => ?_)
        refine ev_iconst 1 dX5_readItem_142 (by decide) ?_
        exact ev_zret dX5_readItem_143 rfl (by decide) H
    · have H := H.2 h
      refine ev_iconst 0 dX5_readItem_69 (by decide) ?_
      exact ev_zret dX5_readItem_70 rfl (by decide) H

set_option maxHeartbeats 4000000 in
set_option maxRecDepth 100000 in
theorem sg_X5_readTie_0 {d : Nat} {w : ex_WW} {P : Int32 → ex_WW → Prop} (H : ex_Ev d mX5_letter 0 (ex_in [.inr 3] 1) [] w (fun r1 u2 => ((r1 = 33 → ex_Ev d mX5_letter 0 (ex_in [.inr 3] 1) [] (ex_up u2 3 2 ((u2 3 2) + 1)) (fun r3 u4 => ex_Ev d mX5_strokeBy 0 (ex_in [.inl r3] 1) [] u4 (fun r5 u6 => ((¬ r5 = 0 → ex_Ev d mX3_draftTie 0 (ex_in [.inr 2, .inl r5] 2) [] u6 (fun _ u8 => P 1 (ex_up u8 3 2 ((u8 3 2) + 1)))) ∧ (r5 = 0 → P 0 u6))))) ∧ (¬ r1 = 33 → P 1 u2)))) : ex_Ev (d + 1) mX5_readTie 0 [some (.inr 3), some (.inr 2), none] [] w P := by
  refine ev_aload_n dX5_readTie_0 rfl ?_
  refine ev_callV 3 [] dX5_readTie_1 co_X5_letter ml_RX5_52 cv_X5_letter (by decide) rfl rfl rfl rfl (by decide) (Nat.le_of_ble_eq_true rfl) rfl H (fun r1 u2 H => ?_)
  refine ev_bipush 33 dX5_readTie_4 (by decide) ?_
  refine ev_icmp_eq 11 dX5_readTie_6 (by decide) (fun h => ?_) (fun h => ?_)
  · have H := H.1 h
    refine ev_aload_n dX5_readTie_11 rfl ?_
    refine ev_dup dX5_readTie_12 ?_
    refine ev_getI dX5_readTie_13 (fo_RX5_27 _ rfl) (by decide) rfl rfl ?_
    refine ev_iconst 1 dX5_readTie_16 (by decide) ?_
    refine ev_iadd dX5_readTie_17 ?_
    refine ev_put dX5_readTie_18 (fo_RX5_27 _ rfl) fp_5_2 (by decide) rfl rfl (vp_nar_int _) rfl ?_
    refine ev_aload_n dX5_readTie_21 rfl ?_
    refine ev_callV 3 [] dX5_readTie_22 co_X5_letter ml_RX5_52 cv_X5_letter (by decide) rfl rfl rfl rfl (by decide) (Nat.le_of_ble_eq_true rfl) rfl H (fun r3 u4 H => ?_)
    refine ev_callS [.inl r3] dX5_readTie_25 co_X5_strokeBy ml_RX5_56 cs_X5_strokeBy rfl rfl (by decide) (Nat.le_of_ble_eq_true rfl) rfl H (fun r5 u6 H => ?_)
    refine ev_istore_n dX5_readTie_28 (by decide) ?_
    refine ev_iload_n dX5_readTie_29 rfl ?_
    refine ev_if_ne 35 dX5_readTie_30 (by decide) (fun h => ?_) (fun h => ?_)
    · have H := H.1 h
      refine ev_aload_n dX5_readTie_35 rfl ?_
      refine ev_iload_n dX5_readTie_36 rfl ?_
      refine ev_callVv 2 [.inl r5] dX5_readTie_37 co_X3_draftTie ml_RX5_67 cv_X3_draftTie (by decide) rfl rfl rfl rfl (by decide) (Nat.le_of_ble_eq_true rfl) rfl H (fun u8 H => ?_)
      refine ev_aload_n dX5_readTie_40 rfl ?_
      refine ev_dup dX5_readTie_41 ?_
      refine ev_getI dX5_readTie_42 (fo_RX5_27 _ rfl) (by decide) rfl rfl ?_
      refine ev_iconst 1 dX5_readTie_45 (by decide) ?_
      refine ev_iadd dX5_readTie_46 ?_
      refine ev_put dX5_readTie_47 (fo_RX5_27 _ rfl) fp_5_2 (by decide) rfl rfl (vp_nar_int _) rfl ?_
      refine ev_iconst 1 dX5_readTie_50 (by decide) ?_
      exact ev_zret dX5_readTie_51 rfl (by decide) H
    · have H := H.2 h
      refine ev_iconst 0 dX5_readTie_33 (by decide) ?_
      exact ev_zret dX5_readTie_34 rfl (by decide) H
  · have H := H.2 h
    refine ev_iconst 1 dX5_readTie_9 (by decide) ?_
    exact ev_zret dX5_readTie_10 rfl (by decide) H

set_option maxHeartbeats 4000000 in
set_option maxRecDepth 100000 in
theorem sg_X5_letter_0 {d : Nat} {w : ex_WW} {P : Int32 → ex_WW → Prop} (H : (((w 3 2) < 0 → P 0 w) ∧ (¬ (w 3 2) < 0 → (((w 3 1) ≤ (w 3 2) → P 0 w) ∧ (¬ (w 3 1) ≤ (w 3 2) → (vp_in (w 3 2) 60 ∧ P (w 13 (w 3 2).toNatClampNeg) w)))))) : ex_Ev d mX5_letter 0 [some (.inr 3)] [] w P := by
  refine ev_aload_n dX5_letter_0 rfl ?_
  refine ev_getI dX5_letter_1 (fo_RX5_27 _ rfl) (by decide) rfl rfl ?_
  refine ev_if_lt 30 dX5_letter_4 (by decide) (fun h => ?_) (fun h => ?_)
  · have H := H.1 h
    refine ev_iconst 0 dX5_letter_30 (by decide) ?_
    exact ev_iret dX5_letter_31 rfl H
  · have H := H.2 h
    refine ev_aload_n dX5_letter_7 rfl ?_
    refine ev_getI dX5_letter_8 (fo_RX5_27 _ rfl) (by decide) rfl rfl ?_
    refine ev_aload_n dX5_letter_11 rfl ?_
    refine ev_getI dX5_letter_12 (fo_RX5_15 _ rfl) (by decide) rfl rfl ?_
    refine ev_icmp_ge 30 dX5_letter_15 (by decide) (fun h => ?_) (fun h => ?_)
    · have H := H.1 h
      refine ev_iconst 0 dX5_letter_30 (by decide) ?_
      exact ev_iret dX5_letter_31 rfl H
    · have H := H.2 h
      refine ev_aload_n dX5_letter_18 rfl ?_
      refine ev_getR dX5_letter_19 (fo_RX5_9 _ rfl) (by decide) rfl rfl ?_
      refine ev_aload_n dX5_letter_22 rfl ?_
      refine ev_getI dX5_letter_23 (fo_RX5_27 _ rfl) (by decide) rfl rfl ?_
      refine ev_iald dX5_letter_26 (by decide) rfl H.1 ?_
      have H := H.2
      refine ev_goto 31 dX5_letter_27 (by decide) ?_
      exact ev_iret dX5_letter_31 rfl H

set_option maxHeartbeats 4000000 in
set_option maxRecDepth 100000 in
theorem sg_X5_isFigure_0 {d : Nat} {w : ex_WW} {P : Int32 → ex_WW → Prop} {p0 : Int32} (H : ((p0 < 48 → P 0 w) ∧ (¬ p0 < 48 → ((57 < p0 → P 0 w) ∧ (¬ 57 < p0 → P 1 w))))) : ex_Ev d mX5_isFigure 0 [some (.inl p0)] [] w P := by
  refine ev_iload_n dX5_isFigure_0 rfl ?_
  refine ev_bipush 48 dX5_isFigure_1 (by decide) ?_
  refine ev_icmp_lt 16 dX5_isFigure_3 (by decide) (fun h => ?_) (fun h => ?_)
  · have H := H.1 h
    refine ev_iconst 0 dX5_isFigure_16 (by decide) ?_
    exact ev_zret dX5_isFigure_17 rfl (by decide) H
  · have H := H.2 h
    refine ev_iload_n dX5_isFigure_6 rfl ?_
    refine ev_bipush 57 dX5_isFigure_7 (by decide) ?_
    refine ev_icmp_gt 16 dX5_isFigure_9 (by decide) (fun h => ?_) (fun h => ?_)
    · have H := H.1 h
      refine ev_iconst 0 dX5_isFigure_16 (by decide) ?_
      exact ev_zret dX5_isFigure_17 rfl (by decide) H
    · have H := H.2 h
      refine ev_iconst 1 dX5_isFigure_12 (by decide) ?_
      refine ev_goto 17 dX5_isFigure_13 (by decide) ?_
      exact ev_zret dX5_isFigure_17 rfl (by decide) H

set_option maxHeartbeats 4000000 in
set_option maxRecDepth 100000 in
theorem sg_X5_strokeBy_0 {d : Nat} {w : ex_WW} {P : Int32 → ex_WW → Prop} {p0 : Int32} (H : ((p0 = 98 → P 1 w) ∧ (p0 = 102 → P 5 w) ∧ (p0 = 104 → P 2 w) ∧ (p0 = 108 → P 3 w) ∧ (p0 = 117 → P 4 w) ∧ (¬ p0 = 98 → ¬ p0 = 102 → ¬ p0 = 104 → ¬ p0 = 108 → ¬ p0 = 117 → P 0 w))) : ex_Ev d mX5_strokeBy 0 [some (.inl p0)] [] w P := by
  refine ev_iload_n dX5_strokeBy_0 rfl ?_
  have hs : ∀ z : Int32, z = p0 → ex_Ev d mX5_strokeBy 1 [some (.inl p0)] (.inl z :: []) w P := by
    intro z hz
    by_cases h0 : z = 98
    · have H := H.1 (hz.symm.trans h0)
      subst h0
      refine ev_lookup (off := 51) 52 dX5_strokeBy_1 (by decide) (by decide) (by decide) ?_
      refine ev_iconst 1 dX5_strokeBy_52 (by decide) ?_
      exact ev_iret dX5_strokeBy_53 rfl H
    by_cases h1 : z = 102
    · have H := H.2.1 (hz.symm.trans h1)
      subst h1
      refine ev_lookup (off := 59) 60 dX5_strokeBy_1 (by decide) (by decide) (by decide) ?_
      refine ev_iconst 5 dX5_strokeBy_60 (by decide) ?_
      exact ev_iret dX5_strokeBy_61 rfl H
    by_cases h2 : z = 104
    · have H := H.2.2.1 (hz.symm.trans h2)
      subst h2
      refine ev_lookup (off := 53) 54 dX5_strokeBy_1 (by decide) (by decide) (by decide) ?_
      refine ev_iconst 2 dX5_strokeBy_54 (by decide) ?_
      exact ev_iret dX5_strokeBy_55 rfl H
    by_cases h3 : z = 108
    · have H := H.2.2.2.1 (hz.symm.trans h3)
      subst h3
      refine ev_lookup (off := 55) 56 dX5_strokeBy_1 (by decide) (by decide) (by decide) ?_
      refine ev_iconst 3 dX5_strokeBy_56 (by decide) ?_
      exact ev_iret dX5_strokeBy_57 rfl H
    by_cases h4 : z = 117
    · have H := H.2.2.2.2.1 (hz.symm.trans h4)
      subst h4
      refine ev_lookup (off := 57) 58 dX5_strokeBy_1 (by decide) (by decide) (by decide) ?_
      refine ev_iconst 4 dX5_strokeBy_58 (by decide) ?_
      exact ev_iret dX5_strokeBy_59 rfl H
    have H := H.2.2.2.2.2 (fun q => h0 (hz.trans q)) (fun q => h1 (hz.trans q)) (fun q => h2 (hz.trans q)) (fun q => h3 (hz.trans q)) (fun q => h4 (hz.trans q))
    refine ev_lookup (off := 61) 62 dX5_strokeBy_1 (by decide) (by show Op.lookupswitch.offset [(98, 51), (102, 59), (104, 53), (108, 55), (117, 57)] _ _ = _; rw [lv_osw (a := 98) h0 (by decide)]; rw [lv_osw (a := 102) h1 (by decide)]; rw [lv_osw (a := 104) h2 (by decide)]; rw [lv_osw (a := 108) h3 (by decide)]; rw [lv_osw (a := 117) h4 (by decide)]; rfl) (by decide) ?_
    refine ev_iconst 0 dX5_strokeBy_62 (by decide) ?_
    exact ev_iret dX5_strokeBy_63 rfl H
  exact hs _ rfl

