section
/-- a private method of a class that the tables say can be made, by its rows of tables_1 -/
def lw_okq (q : MethodName × Nat) : Prop := (q.1.cls ≠ "java/lang/invoke/MethodHandle" ∧ q.1.cls ≠ "java/lang/invoke/VarHandle") ∧ Cond.instantiable q.1.cls q.2 ∈ tables_1 ∧ Cond.privateMethod q.1 ∈ tables_1 ∧ Cond.instanceMethod q.1 ∈ tables_1
theorem lw_p0 : lw_okq (⟨"TiltLists$Text", "readItems", "(LTiltLists$Ordinances;)Z"⟩, 4) := ⟨⟨by decide +kernel, by decide +kernel⟩, List.mem_of_getElem? (i := 63) (by decide +kernel), List.mem_of_getElem? (i := 291) (by decide +kernel), List.mem_of_getElem? (i := 292) (by decide +kernel)⟩
theorem lw_p1 : lw_okq (⟨"TiltLists$Text", "startsItem", "()Z"⟩, 4) := ⟨⟨by decide +kernel, by decide +kernel⟩, List.mem_of_getElem? (i := 63) (by decide +kernel), List.mem_of_getElem? (i := 295) (by decide +kernel), List.mem_of_getElem? (i := 296) (by decide +kernel)⟩
theorem lw_p2 : lw_okq (⟨"TiltLists$Text", "letter", "()I"⟩, 4) := ⟨⟨by decide +kernel, by decide +kernel⟩, List.mem_of_getElem? (i := 63) (by decide +kernel), List.mem_of_getElem? (i := 299) (by decide +kernel), List.mem_of_getElem? (i := 300) (by decide +kernel)⟩
theorem lw_p3 : lw_okq (⟨"TiltLists$Text", "readItem", "(LTiltLists$Ordinances;)Z"⟩, 4) := ⟨⟨by decide +kernel, by decide +kernel⟩, List.mem_of_getElem? (i := 63) (by decide +kernel), List.mem_of_getElem? (i := 306) (by decide +kernel), List.mem_of_getElem? (i := 307) (by decide +kernel)⟩
theorem lw_p4 : lw_okq (⟨"TiltLists$Text", "readTie", "(LTiltLists$Ordinances;)Z"⟩, 4) := ⟨⟨by decide +kernel, by decide +kernel⟩, List.mem_of_getElem? (i := 63) (by decide +kernel), List.mem_of_getElem? (i := 314) (by decide +kernel), List.mem_of_getElem? (i := 315) (by decide +kernel)⟩
theorem lw_p5 : lw_okq (⟨"TiltLists$Jousts", "openSheet", "(II)V"⟩, 7) := ⟨⟨by decide +kernel, by decide +kernel⟩, List.mem_of_getElem? (i := 82) (by decide +kernel), List.mem_of_getElem? (i := 381) (by decide +kernel), List.mem_of_getElem? (i := 382) (by decide +kernel)⟩
theorem lw_p6 : lw_okq (⟨"TiltLists$Jousts", "strokeIn", "(II)I"⟩, 7) := ⟨⟨by decide +kernel, by decide +kernel⟩, List.mem_of_getElem? (i := 82) (by decide +kernel), List.mem_of_getElem? (i := 389) (by decide +kernel), List.mem_of_getElem? (i := 390) (by decide +kernel)⟩
theorem lw_p7 : lw_okq (⟨"TiltLists$Jousts", "standingWith", "(II)I"⟩, 7) := ⟨⟨by decide +kernel, by decide +kernel⟩, List.mem_of_getElem? (i := 82) (by decide +kernel), List.mem_of_getElem? (i := 433) (by decide +kernel), List.mem_of_getElem? (i := 434) (by decide +kernel)⟩
theorem lw_p8 : lw_okq (⟨"TiltLists$Jousts", "countJousts", "(I)I"⟩, 7) := ⟨⟨by decide +kernel, by decide +kernel⟩, List.mem_of_getElem? (i := 82) (by decide +kernel), List.mem_of_getElem? (i := 495) (by decide +kernel), List.mem_of_getElem? (i := 496) (by decide +kernel)⟩
theorem lw_p9 : lw_okq (⟨"TiltLists$Jousts", "ransomOf", "(I)I"⟩, 7) := ⟨⟨by decide +kernel, by decide +kernel⟩, List.mem_of_getElem? (i := 82) (by decide +kernel), List.mem_of_getElem? (i := 511) (by decide +kernel), List.mem_of_getElem? (i := 512) (by decide +kernel)⟩
theorem lw_p10 : lw_okq (⟨"TiltLists$Challenges", "isOf", "(II)Z"⟩, 4) := ⟨⟨by decide +kernel, by decide +kernel⟩, List.mem_of_getElem? (i := 110) (by decide +kernel), List.mem_of_getElem? (i := 543) (by decide +kernel), List.mem_of_getElem? (i := 544) (by decide +kernel)⟩
theorem lw_p11 : lw_okq (⟨"TiltLists$Challenges", "countOfBusiest", "()I"⟩, 4) := ⟨⟨by decide +kernel, by decide +kernel⟩, List.mem_of_getElem? (i := 110) (by decide +kernel), List.mem_of_getElem? (i := 575) (by decide +kernel), List.mem_of_getElem? (i := 576) (by decide +kernel)⟩
theorem lw_p12 : lw_okq (⟨"TiltLists$Challenges", "settle", "(II)Z"⟩, 4) := ⟨⟨by decide +kernel, by decide +kernel⟩, List.mem_of_getElem? (i := 110) (by decide +kernel), List.mem_of_getElem? (i := 580) (by decide +kernel), List.mem_of_getElem? (i := 581) (by decide +kernel)⟩
theorem lw_p13 : lw_okq (⟨"TiltLists$Challenges", "isFree", "(II)Z"⟩, 4) := ⟨⟨by decide +kernel, by decide +kernel⟩, List.mem_of_getElem? (i := 110) (by decide +kernel), List.mem_of_getElem? (i := 584) (by decide +kernel), List.mem_of_getElem? (i := 585) (by decide +kernel)⟩
theorem lw_p14 : lw_okq (⟨"TiltLists$Camp", "seat", "(II)Z"⟩, 2) := ⟨⟨by decide +kernel, by decide +kernel⟩, List.mem_of_getElem? (i := 129) (by decide +kernel), List.mem_of_getElem? (i := 625) (by decide +kernel), List.mem_of_getElem? (i := 626) (by decide +kernel)⟩
theorem lw_p15 : lw_okq (⟨"TiltListsModel", "put", "(IIII)V"⟩, 30) := ⟨⟨by decide +kernel, by decide +kernel⟩, List.mem_of_getElem? (i := 669) (by decide +kernel), List.mem_of_getElem? (i := 777) (by decide +kernel), List.mem_of_getElem? (i := 778) (by decide +kernel)⟩
def lw_privs_1 : List (MethodName × Nat) := [(⟨"TiltLists$Text", "readItems", "(LTiltLists$Ordinances;)Z"⟩, 4), (⟨"TiltLists$Text", "startsItem", "()Z"⟩, 4), (⟨"TiltLists$Text", "letter", "()I"⟩, 4), (⟨"TiltLists$Text", "readItem", "(LTiltLists$Ordinances;)Z"⟩, 4), (⟨"TiltLists$Text", "readTie", "(LTiltLists$Ordinances;)Z"⟩, 4), (⟨"TiltLists$Jousts", "openSheet", "(II)V"⟩, 7), (⟨"TiltLists$Jousts", "strokeIn", "(II)I"⟩, 7), (⟨"TiltLists$Jousts", "standingWith", "(II)I"⟩, 7), (⟨"TiltLists$Jousts", "countJousts", "(I)I"⟩, 7), (⟨"TiltLists$Jousts", "ransomOf", "(I)I"⟩, 7), (⟨"TiltLists$Challenges", "isOf", "(II)Z"⟩, 4), (⟨"TiltLists$Challenges", "countOfBusiest", "()I"⟩, 4), (⟨"TiltLists$Challenges", "settle", "(II)Z"⟩, 4), (⟨"TiltLists$Challenges", "isFree", "(II)Z"⟩, 4), (⟨"TiltLists$Camp", "seat", "(II)Z"⟩, 2), (⟨"TiltListsModel", "put", "(IIII)V"⟩, 30)]
theorem lw_r1 : ∀ q ∈ lw_privs_1, lw_okq q := List.forall_mem_cons.mpr ⟨lw_p0, List.forall_mem_cons.mpr ⟨lw_p1, List.forall_mem_cons.mpr ⟨lw_p2, List.forall_mem_cons.mpr ⟨lw_p3, List.forall_mem_cons.mpr ⟨lw_p4, List.forall_mem_cons.mpr ⟨lw_p5, List.forall_mem_cons.mpr ⟨lw_p6, List.forall_mem_cons.mpr ⟨lw_p7, List.forall_mem_cons.mpr ⟨lw_p8, List.forall_mem_cons.mpr ⟨lw_p9, List.forall_mem_cons.mpr ⟨lw_p10, List.forall_mem_cons.mpr ⟨lw_p11, List.forall_mem_cons.mpr ⟨lw_p12, List.forall_mem_cons.mpr ⟨lw_p13, List.forall_mem_cons.mpr ⟨lw_p14, List.forall_mem_cons.mpr ⟨lw_p15, fun _ h => absurd h List.not_mem_nil⟩⟩⟩⟩⟩⟩⟩⟩⟩⟩⟩⟩⟩⟩⟩⟩
theorem lw_p16 : lw_okq (⟨"TiltListsModel", "isKnight", "(I)Z"⟩, 30) := ⟨⟨by decide +kernel, by decide +kernel⟩, List.mem_of_getElem? (i := 669) (by decide +kernel), List.mem_of_getElem? (i := 785) (by decide +kernel), List.mem_of_getElem? (i := 786) (by decide +kernel)⟩
theorem lw_p17 : lw_okq (⟨"TiltListsModel", "yieldsTo", "(I)I"⟩, 30) := ⟨⟨by decide +kernel, by decide +kernel⟩, List.mem_of_getElem? (i := 669) (by decide +kernel), List.mem_of_getElem? (i := 797) (by decide +kernel), List.mem_of_getElem? (i := 798) (by decide +kernel)⟩
theorem lw_p18 : lw_okq (⟨"TiltListsModel", "doesYield", "(II)Z"⟩, 30) := ⟨⟨by decide +kernel, by decide +kernel⟩, List.mem_of_getElem? (i := 669) (by decide +kernel), List.mem_of_getElem? (i := 801) (by decide +kernel), List.mem_of_getElem? (i := 802) (by decide +kernel)⟩
theorem lw_p19 : lw_okq (⟨"TiltListsModel", "areNear", "(II)Z"⟩, 30) := ⟨⟨by decide +kernel, by decide +kernel⟩, List.mem_of_getElem? (i := 669) (by decide +kernel), List.mem_of_getElem? (i := 805) (by decide +kernel), List.mem_of_getElem? (i := 806) (by decide +kernel)⟩
theorem lw_p20 : lw_okq (⟨"TiltListsModel", "goOver", "()I"⟩, 30) := ⟨⟨by decide +kernel, by decide +kernel⟩, List.mem_of_getElem? (i := 669) (by decide +kernel), List.mem_of_getElem? (i := 825) (by decide +kernel), List.mem_of_getElem? (i := 826) (by decide +kernel)⟩
theorem lw_p21 : lw_okq (⟨"TiltListsModel", "pass", "(I)Z"⟩, 30) := ⟨⟨by decide +kernel, by decide +kernel⟩, List.mem_of_getElem? (i := 669) (by decide +kernel), List.mem_of_getElem? (i := 829) (by decide +kernel), List.mem_of_getElem? (i := 830) (by decide +kernel)⟩
theorem lw_p22 : lw_okq (⟨"TiltListsModel", "close", "()V"⟩, 30) := ⟨⟨by decide +kernel, by decide +kernel⟩, List.mem_of_getElem? (i := 669) (by decide +kernel), List.mem_of_getElem? (i := 836) (by decide +kernel), List.mem_of_getElem? (i := 837) (by decide +kernel)⟩
theorem lw_p23 : lw_okq (⟨"TiltListsModel", "areTwo", "(II)Z"⟩, 30) := ⟨⟨by decide +kernel, by decide +kernel⟩, List.mem_of_getElem? (i := 669) (by decide +kernel), List.mem_of_getElem? (i := 853) (by decide +kernel), List.mem_of_getElem? (i := 854) (by decide +kernel)⟩
theorem lw_p24 : lw_okq (⟨"TiltListsModel", "isJoust", "(I)Z"⟩, 30) := ⟨⟨by decide +kernel, by decide +kernel⟩, List.mem_of_getElem? (i := 669) (by decide +kernel), List.mem_of_getElem? (i := 861) (by decide +kernel), List.mem_of_getElem? (i := 862) (by decide +kernel)⟩
theorem lw_p25 : lw_okq (⟨"TiltListsModel", "reckon", "(IIZ)V"⟩, 30) := ⟨⟨by decide +kernel, by decide +kernel⟩, List.mem_of_getElem? (i := 669) (by decide +kernel), List.mem_of_getElem? (i := 879) (by decide +kernel), List.mem_of_getElem? (i := 880) (by decide +kernel)⟩
theorem lw_p26 : lw_okq (⟨"TiltListsModel", "strokeMany", "(III)I"⟩, 30) := ⟨⟨by decide +kernel, by decide +kernel⟩, List.mem_of_getElem? (i := 669) (by decide +kernel), List.mem_of_getElem? (i := 883) (by decide +kernel), List.mem_of_getElem? (i := 884) (by decide +kernel)⟩
theorem lw_p27 : lw_okq (⟨"TiltListsModel", "isGreater", "(IIZ)Z"⟩, 30) := ⟨⟨by decide +kernel, by decide +kernel⟩, List.mem_of_getElem? (i := 669) (by decide +kernel), List.mem_of_getElem? (i := 891) (by decide +kernel), List.mem_of_getElem? (i := 892) (by decide +kernel)⟩
theorem lw_p28 : lw_okq (⟨"TiltListsModel", "wonBy", "(I)I"⟩, 30) := ⟨⟨by decide +kernel, by decide +kernel⟩, List.mem_of_getElem? (i := 669) (by decide +kernel), List.mem_of_getElem? (i := 899) (by decide +kernel), List.mem_of_getElem? (i := 900) (by decide +kernel)⟩
theorem lw_p29 : lw_okq (⟨"TiltListsModel", "joustsOf", "(I)I"⟩, 30) := ⟨⟨by decide +kernel, by decide +kernel⟩, List.mem_of_getElem? (i := 669) (by decide +kernel), List.mem_of_getElem? (i := 907) (by decide +kernel), List.mem_of_getElem? (i := 908) (by decide +kernel)⟩
theorem lw_p30 : lw_okq (⟨"TiltListsModel", "owedOf", "(II)I"⟩, 30) := ⟨⟨by decide +kernel, by decide +kernel⟩, List.mem_of_getElem? (i := 669) (by decide +kernel), List.mem_of_getElem? (i := 915) (by decide +kernel), List.mem_of_getElem? (i := 916) (by decide +kernel)⟩
theorem lw_p31 : lw_okq (⟨"TiltListsModel", "makePlan", "()I"⟩, 30) := ⟨⟨by decide +kernel, by decide +kernel⟩, List.mem_of_getElem? (i := 669) (by decide +kernel), List.mem_of_getElem? (i := 939) (by decide +kernel), List.mem_of_getElem? (i := 940) (by decide +kernel)⟩
def lw_privs_2 : List (MethodName × Nat) := [(⟨"TiltListsModel", "isKnight", "(I)Z"⟩, 30), (⟨"TiltListsModel", "yieldsTo", "(I)I"⟩, 30), (⟨"TiltListsModel", "doesYield", "(II)Z"⟩, 30), (⟨"TiltListsModel", "areNear", "(II)Z"⟩, 30), (⟨"TiltListsModel", "goOver", "()I"⟩, 30), (⟨"TiltListsModel", "pass", "(I)Z"⟩, 30), (⟨"TiltListsModel", "close", "()V"⟩, 30), (⟨"TiltListsModel", "areTwo", "(II)Z"⟩, 30), (⟨"TiltListsModel", "isJoust", "(I)Z"⟩, 30), (⟨"TiltListsModel", "reckon", "(IIZ)V"⟩, 30), (⟨"TiltListsModel", "strokeMany", "(III)I"⟩, 30), (⟨"TiltListsModel", "isGreater", "(IIZ)Z"⟩, 30), (⟨"TiltListsModel", "wonBy", "(I)I"⟩, 30), (⟨"TiltListsModel", "joustsOf", "(I)I"⟩, 30), (⟨"TiltListsModel", "owedOf", "(II)I"⟩, 30), (⟨"TiltListsModel", "makePlan", "()I"⟩, 30)]
theorem lw_r2 : ∀ q ∈ lw_privs_2, lw_okq q := List.forall_mem_cons.mpr ⟨lw_p16, List.forall_mem_cons.mpr ⟨lw_p17, List.forall_mem_cons.mpr ⟨lw_p18, List.forall_mem_cons.mpr ⟨lw_p19, List.forall_mem_cons.mpr ⟨lw_p20, List.forall_mem_cons.mpr ⟨lw_p21, List.forall_mem_cons.mpr ⟨lw_p22, List.forall_mem_cons.mpr ⟨lw_p23, List.forall_mem_cons.mpr ⟨lw_p24, List.forall_mem_cons.mpr ⟨lw_p25, List.forall_mem_cons.mpr ⟨lw_p26, List.forall_mem_cons.mpr ⟨lw_p27, List.forall_mem_cons.mpr ⟨lw_p28, List.forall_mem_cons.mpr ⟨lw_p29, List.forall_mem_cons.mpr ⟨lw_p30, List.forall_mem_cons.mpr ⟨lw_p31, fun _ h => absurd h List.not_mem_nil⟩⟩⟩⟩⟩⟩⟩⟩⟩⟩⟩⟩⟩⟩⟩⟩
theorem lw_p32 : lw_okq (⟨"TiltListsModel", "findPlan", "(I)Z"⟩, 30) := ⟨⟨by decide +kernel, by decide +kernel⟩, List.mem_of_getElem? (i := 669) (by decide +kernel), List.mem_of_getElem? (i := 943) (by decide +kernel), List.mem_of_getElem? (i := 944) (by decide +kernel)⟩
theorem lw_p33 : lw_okq (⟨"TiltListsModel", "isTurn", "(I)Z"⟩, 30) := ⟨⟨by decide +kernel, by decide +kernel⟩, List.mem_of_getElem? (i := 669) (by decide +kernel), List.mem_of_getElem? (i := 947) (by decide +kernel), List.mem_of_getElem? (i := 948) (by decide +kernel)⟩
theorem lw_p34 : lw_okq (⟨"TiltListsModel", "findCamp", "()Z"⟩, 30) := ⟨⟨by decide +kernel, by decide +kernel⟩, List.mem_of_getElem? (i := 669) (by decide +kernel), List.mem_of_getElem? (i := 963) (by decide +kernel), List.mem_of_getElem? (i := 964) (by decide +kernel)⟩
theorem lw_p35 : lw_okq (⟨"TiltListsModel", "chooseTents", "()V"⟩, 30) := ⟨⟨by decide +kernel, by decide +kernel⟩, List.mem_of_getElem? (i := 669) (by decide +kernel), List.mem_of_getElem? (i := 967) (by decide +kernel), List.mem_of_getElem? (i := 968) (by decide +kernel)⟩
theorem lw_p36 : lw_okq (⟨"TiltListsModel", "mayStand", "(I)Z"⟩, 30) := ⟨⟨by decide +kernel, by decide +kernel⟩, List.mem_of_getElem? (i := 669) (by decide +kernel), List.mem_of_getElem? (i := 971) (by decide +kernel), List.mem_of_getElem? (i := 972) (by decide +kernel)⟩
theorem lw_p37 : lw_okq (⟨"TiltListsModel", "feuds", "()I"⟩, 30) := ⟨⟨by decide +kernel, by decide +kernel⟩, List.mem_of_getElem? (i := 669) (by decide +kernel), List.mem_of_getElem? (i := 979) (by decide +kernel), List.mem_of_getElem? (i := 980) (by decide +kernel)⟩
theorem lw_p38 : lw_okq (⟨"TiltListsModel", "riding", "()I"⟩, 30) := ⟨⟨by decide +kernel, by decide +kernel⟩, List.mem_of_getElem? (i := 669) (by decide +kernel), List.mem_of_getElem? (i := 983) (by decide +kernel), List.mem_of_getElem? (i := 984) (by decide +kernel)⟩
theorem lw_p39 : lw_okq (⟨"TiltListsModel", "sumOf", "(Z)I"⟩, 30) := ⟨⟨by decide +kernel, by decide +kernel⟩, List.mem_of_getElem? (i := 669) (by decide +kernel), List.mem_of_getElem? (i := 987) (by decide +kernel), List.mem_of_getElem? (i := 988) (by decide +kernel)⟩
def lw_privs_3 : List (MethodName × Nat) := [(⟨"TiltListsModel", "findPlan", "(I)Z"⟩, 30), (⟨"TiltListsModel", "isTurn", "(I)Z"⟩, 30), (⟨"TiltListsModel", "findCamp", "()Z"⟩, 30), (⟨"TiltListsModel", "chooseTents", "()V"⟩, 30), (⟨"TiltListsModel", "mayStand", "(I)Z"⟩, 30), (⟨"TiltListsModel", "feuds", "()I"⟩, 30), (⟨"TiltListsModel", "riding", "()I"⟩, 30), (⟨"TiltListsModel", "sumOf", "(Z)I"⟩, 30)]
theorem lw_r3 : ∀ q ∈ lw_privs_3, lw_okq q := List.forall_mem_cons.mpr ⟨lw_p32, List.forall_mem_cons.mpr ⟨lw_p33, List.forall_mem_cons.mpr ⟨lw_p34, List.forall_mem_cons.mpr ⟨lw_p35, List.forall_mem_cons.mpr ⟨lw_p36, List.forall_mem_cons.mpr ⟨lw_p37, List.forall_mem_cons.mpr ⟨lw_p38, List.forall_mem_cons.mpr ⟨lw_p39, fun _ h => absurd h List.not_mem_nil⟩⟩⟩⟩⟩⟩⟩⟩
def lw_privs : List (MethodName × Nat) := lw_privs_1 ++ (lw_privs_2 ++ (lw_privs_3))
def lw_tbl : List Cond := k2_sels lw_privs ++ tables_1
theorem lw_privs_ok : ∀ q ∈ lw_privs, lw_okq q := by
  show ∀ q ∈ lw_privs_1 ++ (lw_privs_2 ++ (lw_privs_3)), lw_okq q
  exact List.forall_mem_append.mpr ⟨lw_r1, List.forall_mem_append.mpr ⟨lw_r2, lw_r3⟩⟩
end
section
def RX0 : String := "TiltLists$Camp"
def TX0 : u_T := fun k => match k with
  | 0 => ("TiltLists$Camp", "feuds", "[I", true)
  | _ => ("TiltLists$Camp", "ring", "[I", true)
def tyX0 : Nat → FieldType := fun k => match k with
  | 0 => .array .int
  | _ => .array .int
abbrev wsX00 : List Cond := u_ws RX0 TX0 2
theorem nmX0 : ∀ a, a < 2 → ∀ b, b < 2 → a ≠ b → (TX0 a).2.1 ≠ (TX0 b).2.1 := by decide +kernel
theorem tyX0_ok : ∀ k, k < 2 → parseFieldDescriptor (TX0 k).2.2.1 = some (tyX0 k) := by decide +kernel
abbrev cX0_init : ByteArray := prog_2_method_1_code
def yX0_init : MethodName := ⟨RX0, "<init>", "()V"⟩
abbrev cX0_areInFeud : ByteArray := prog_2_method_2_code
def yX0_areInFeud : MethodName := ⟨RX0, "areInFeud", "(II)Z"⟩
abbrev cX0_setFeud : ByteArray := prog_2_method_3_code
def yX0_setFeud : MethodName := ⟨RX0, "setFeud", "(IIZ)V"⟩
abbrev cX0_countFeuds : ByteArray := prog_2_method_4_code
def yX0_countFeuds : MethodName := ⟨RX0, "countFeuds", "()I"⟩
abbrev cX0_knightAt : ByteArray := prog_2_method_5_code
def yX0_knightAt : MethodName := ⟨RX0, "knightAt", "(I)I"⟩
abbrev cX0_pitch : ByteArray := prog_2_method_6_code
def yX0_pitch : MethodName := ⟨RX0, "pitch", "(LTiltLists$Roll;)I"⟩
abbrev cX0_seat : ByteArray := prog_2_method_7_code
def yX0_seat : MethodName := ⟨RX0, "seat", "(II)Z"⟩
def RX1 : String := "TiltLists$Challenges"
def TX1 : u_T := fun k => match k with
  | 0 => ("TiltLists$Challenges", "knights", "[I", true)
  | 1 => ("TiltLists$Challenges", "others", "[I", true)
  | 2 => ("TiltLists$Challenges", "planned", "[I", true)
  | _ => ("TiltLists$Challenges", "size", "I", false)
def tyX1 : Nat → FieldType := fun k => match k with
  | 0 => .array .int
  | 1 => .array .int
  | 2 => .array .int
  | _ => .int
abbrev wsX10 : List Cond := u_ws RX1 TX1 4
theorem nmX1 : ∀ a, a < 4 → ∀ b, b < 4 → a ≠ b → (TX1 a).2.1 ≠ (TX1 b).2.1 := by decide +kernel
theorem tyX1_ok : ∀ k, k < 4 → parseFieldDescriptor (TX1 k).2.2.1 = some (tyX1 k) := by decide +kernel
abbrev cX1_init : ByteArray := prog_3_method_1_code
def yX1_init : MethodName := ⟨RX1, "<init>", "()V"⟩
abbrev cX1_size : ByteArray := prog_3_method_2_code
def yX1_size : MethodName := ⟨RX1, "size", "()I"⟩
abbrev cX1_isFull : ByteArray := prog_3_method_3_code
def yX1_isFull : MethodName := ⟨RX1, "isFull", "()Z"⟩
abbrev cX1_areTwo : ByteArray := prog_3_method_4_code
def yX1_areTwo : MethodName := ⟨RX1, "areTwo", "(II)Z"⟩
abbrev cX1_isOf : ByteArray := prog_3_method_5_code
def yX1_isOf : MethodName := ⟨RX1, "isOf", "(II)Z"⟩
abbrev cX1_add : ByteArray := prog_3_method_6_code
def yX1_add : MethodName := ⟨RX1, "add", "(II)I"⟩
abbrev cX1_dropLatest : ByteArray := prog_3_method_7_code
def yX1_dropLatest : MethodName := ⟨RX1, "dropLatest", "()V"⟩
abbrev cX1_plannedTurn : ByteArray := prog_3_method_8_code
def yX1_plannedTurn : MethodName := ⟨RX1, "plannedTurn", "(I)I"⟩
abbrev cX1_plannedLength : ByteArray := prog_3_method_9_code
def yX1_plannedLength : MethodName := ⟨RX1, "plannedLength", "()I"⟩
abbrev cX1_plan : ByteArray := prog_3_method_10_code
def yX1_plan : MethodName := ⟨RX1, "plan", "()V"⟩
abbrev cX1_countOfBusiest : ByteArray := prog_3_method_11_code
def yX1_countOfBusiest : MethodName := ⟨RX1, "countOfBusiest", "()I"⟩
abbrev cX1_settle : ByteArray := prog_3_method_12_code
def yX1_settle : MethodName := ⟨RX1, "settle", "(II)Z"⟩
abbrev cX1_isFree : ByteArray := prog_3_method_13_code
def yX1_isFree : MethodName := ⟨RX1, "isFree", "(II)Z"⟩
def RX2 : String := "TiltLists$Jousts"
def TX2 : u_T := fun k => match k with
  | 0 => ("TiltLists$Jousts", "roll", "LTiltLists$Roll;", true)
  | 1 => ("TiltLists$Jousts", "ordinances", "LTiltLists$Ordinances;", true)
  | 2 => ("TiltLists$Jousts", "laws", "[I", true)
  | 3 => ("TiltLists$Jousts", "riders", "[I", true)
  | 4 => ("TiltLists$Jousts", "paid", "[I", true)
  | 5 => ("TiltLists$Jousts", "strokes", "[I", true)
  | _ => ("TiltLists$Jousts", "size", "I", false)
def tyX2 : Nat → FieldType := fun k => match k with
  | 0 => .object "TiltLists$Roll"
  | 1 => .object "TiltLists$Ordinances"
  | 2 => .array .int
  | 3 => .array .int
  | 4 => .array .int
  | 5 => .array .int
  | _ => .int
abbrev wsX20 : List Cond := u_ws RX2 TX2 7
theorem nmX2 : ∀ a, a < 7 → ∀ b, b < 7 → a ≠ b → (TX2 a).2.1 ≠ (TX2 b).2.1 := by decide +kernel
theorem tyX2_ok : ∀ k, k < 7 → parseFieldDescriptor (TX2 k).2.2.1 = some (tyX2 k) := by decide +kernel
abbrev cX2_init : ByteArray := prog_4_method_1_code
def yX2_init : MethodName := ⟨RX2, "<init>", "(LTiltLists$Roll;LTiltLists$Ordinances;)V"⟩
abbrev cX2_sheetOf : ByteArray := prog_4_method_2_code
def yX2_sheetOf : MethodName := ⟨RX2, "sheetOf", "(II)I"⟩
abbrev cX2_size : ByteArray := prog_4_method_3_code
def yX2_size : MethodName := ⟨RX2, "size", "()I"⟩
abbrev cX2_isFull : ByteArray := prog_4_method_4_code
def yX2_isFull : MethodName := ⟨RX2, "isFull", "()Z"⟩
abbrev cX2_has : ByteArray := prog_4_method_5_code
def yX2_has : MethodName := ⟨RX2, "has", "(II)Z"⟩
abbrev cX2_begin : ByteArray := prog_4_method_6_code
def yX2_begin : MethodName := ⟨RX2, "begin", "(III)I"⟩
abbrev cX2_openSheet : ByteArray := prog_4_method_7_code
def yX2_openSheet : MethodName := ⟨RX2, "openSheet", "(II)V"⟩
abbrev cX2_strokeIn : ByteArray := prog_4_method_8_code
def yX2_strokeIn : MethodName := ⟨RX2, "strokeIn", "(II)I"⟩
abbrev cX2_tell : ByteArray := prog_4_method_9_code
def yX2_tell : MethodName := ⟨RX2, "tell", "(III)I"⟩
abbrev cX2_carryOver : ByteArray := prog_4_method_10_code
def yX2_carryOver : MethodName := ⟨RX2, "carryOver", "(IIIII)V"⟩
abbrev cX2_countOf : ByteArray := prog_4_method_11_code
def yX2_countOf : MethodName := ⟨RX2, "countOf", "(II)I"⟩
abbrev cX2_leastStanding : ByteArray := prog_4_method_12_code
def yX2_leastStanding : MethodName := ⟨RX2, "leastStanding", "(I)I"⟩
abbrev cX2_greatestStanding : ByteArray := prog_4_method_13_code
def yX2_greatestStanding : MethodName := ⟨RX2, "greatestStanding", "(I)I"⟩
abbrev cX2_standingWith : ByteArray := prog_4_method_14_code
def yX2_standingWith : MethodName := ⟨RX2, "standingWith", "(II)I"⟩
abbrev cX2_winsSurely : ByteArray := prog_4_method_15_code
def yX2_winsSurely : MethodName := ⟨RX2, "winsSurely", "(I)Z"⟩
abbrev cX2_mayWin : ByteArray := prog_4_method_16_code
def yX2_mayWin : MethodName := ⟨RX2, "mayWin", "(I)Z"⟩
abbrev cX2_countSureWins : ByteArray := prog_4_method_17_code
def yX2_countSureWins : MethodName := ⟨RX2, "countSureWins", "(I)I"⟩
abbrev cX2_countJousts : ByteArray := prog_4_method_18_code
def yX2_countJousts : MethodName := ⟨RX2, "countJousts", "(I)I"⟩
abbrev cX2_isBetter : ByteArray := prog_4_method_19_code
def yX2_isBetter : MethodName := ⟨RX2, "isBetter", "(II)Z"⟩
abbrev cX2_ransomOf : ByteArray := prog_4_method_20_code
def yX2_ransomOf : MethodName := ⟨RX2, "ransomOf", "(I)I"⟩
abbrev cX2_owedOf : ByteArray := prog_4_method_21_code
def yX2_owedOf : MethodName := ⟨RX2, "owedOf", "(I)I"⟩
abbrev cX2_putDown : ByteArray := prog_4_method_22_code
def yX2_putDown : MethodName := ⟨RX2, "putDown", "(II)V"⟩
abbrev cX2_owedBy : ByteArray := prog_4_method_23_code
def yX2_owedBy : MethodName := ⟨RX2, "owedBy", "(I)I"⟩
abbrev cX2_gainOf : ByteArray := prog_4_method_24_code
def yX2_gainOf : MethodName := ⟨RX2, "gainOf", "(I)I"⟩
abbrev cX2_owedInAll : ByteArray := prog_4_method_25_code
def yX2_owedInAll : MethodName := ⟨RX2, "owedInAll", "()I"⟩
abbrev cX2_paidInAll : ByteArray := prog_4_method_26_code
def yX2_paidInAll : MethodName := ⟨RX2, "paidInAll", "()I"⟩
def RX3 : String := "TiltLists$Ordinances"
def TX3 : u_T := fun k => match k with
  | 0 => ("TiltLists$Ordinances", "worths", "[I", true)
  | 1 => ("TiltLists$Ordinances", "ties", "[I", true)
  | 2 => ("TiltLists$Ordinances", "size", "I", false)
  | _ => ("TiltLists$Ordinances", "inForce", "I", false)
def tyX3 : Nat → FieldType := fun k => match k with
  | 0 => .array .int
  | 1 => .array .int
  | 2 => .int
  | _ => .int
abbrev wsX30 : List Cond := u_ws RX3 TX3 4
theorem nmX3 : ∀ a, a < 4 → ∀ b, b < 4 → a ≠ b → (TX3 a).2.1 ≠ (TX3 b).2.1 := by decide +kernel
theorem tyX3_ok : ∀ k, k < 4 → parseFieldDescriptor (TX3 k).2.2.1 = some (tyX3 k) := by decide +kernel
abbrev cX3_init : ByteArray := prog_5_method_1_code
def yX3_init : MethodName := ⟨RX3, "<init>", "()V"⟩
abbrev cX3_size : ByteArray := prog_5_method_2_code
def yX3_size : MethodName := ⟨RX3, "size", "()I"⟩
abbrev cX3_isFull : ByteArray := prog_5_method_3_code
def yX3_isFull : MethodName := ⟨RX3, "isFull", "()Z"⟩
abbrev cX3_has : ByteArray := prog_5_method_4_code
def yX3_has : MethodName := ⟨RX3, "has", "(I)Z"⟩
abbrev cX3_inForce : ByteArray := prog_5_method_5_code
def yX3_inForce : MethodName := ⟨RX3, "inForce", "()I"⟩
abbrev cX3_putInForce : ByteArray := prog_5_method_6_code
def yX3_putInForce : MethodName := ⟨RX3, "putInForce", "(I)V"⟩
abbrev cX3_worthOf : ByteArray := prog_5_method_7_code
def yX3_worthOf : MethodName := ⟨RX3, "worthOf", "(II)I"⟩
abbrev cX3_tieOf : ByteArray := prog_5_method_8_code
def yX3_tieOf : MethodName := ⟨RX3, "tieOf", "(I)I"⟩
abbrev cX3_standingOf : ByteArray := prog_5_method_9_code
def yX3_standingOf : MethodName := ⟨RX3, "standingOf", "(II)I"⟩
abbrev cX3_scoreIn : ByteArray := prog_5_method_10_code
def yX3_scoreIn : MethodName := ⟨RX3, "scoreIn", "(I)I"⟩
abbrev cX3_leastStanding : ByteArray := prog_5_method_11_code
def yX3_leastStanding : MethodName := ⟨RX3, "leastStanding", "(I)I"⟩
abbrev cX3_greatestStanding : ByteArray := prog_5_method_12_code
def yX3_greatestStanding : MethodName := ⟨RX3, "greatestStanding", "(I)I"⟩
abbrev cX3_clearDraft : ByteArray := prog_5_method_13_code
def yX3_clearDraft : MethodName := ⟨RX3, "clearDraft", "()V"⟩
abbrev cX3_draftWorth : ByteArray := prog_5_method_14_code
def yX3_draftWorth : MethodName := ⟨RX3, "draftWorth", "(II)V"⟩
abbrev cX3_draftTie : ByteArray := prog_5_method_15_code
def yX3_draftTie : MethodName := ⟨RX3, "draftTie", "(I)V"⟩
abbrev cX3_keepDraft : ByteArray := prog_5_method_16_code
def yX3_keepDraft : MethodName := ⟨RX3, "keepDraft", "()I"⟩
def RX4 : String := "TiltLists$Roll"
def TX4 : u_T := fun k => match k with
  | 0 => ("TiltLists$Roll", "ranks", "[I", true)
  | 1 => ("TiltLists$Roll", "fields", "[I", true)
  | 2 => ("TiltLists$Roll", "charges", "[I", true)
  | 3 => ("TiltLists$Roll", "tinctures", "[I", true)
  | _ => ("TiltLists$Roll", "size", "I", false)
def tyX4 : Nat → FieldType := fun k => match k with
  | 0 => .array .int
  | 1 => .array .int
  | 2 => .array .int
  | 3 => .array .int
  | _ => .int
abbrev wsX40 : List Cond := u_ws RX4 TX4 5
theorem nmX4 : ∀ a, a < 5 → ∀ b, b < 5 → a ≠ b → (TX4 a).2.1 ≠ (TX4 b).2.1 := by decide +kernel
theorem tyX4_ok : ∀ k, k < 5 → parseFieldDescriptor (TX4 k).2.2.1 = some (tyX4 k) := by decide +kernel
abbrev cX4_init : ByteArray := prog_6_method_1_code
def yX4_init : MethodName := ⟨RX4, "<init>", "()V"⟩
abbrev cX4_mayBeRank : ByteArray := prog_6_method_2_code
def yX4_mayBeRank : MethodName := ⟨RX4, "mayBeRank", "(I)Z"⟩
abbrev cX4_mayBeArms : ByteArray := prog_6_method_3_code
def yX4_mayBeArms : MethodName := ⟨RX4, "mayBeArms", "(III)Z"⟩
abbrev cX4_size : ByteArray := prog_6_method_4_code
def yX4_size : MethodName := ⟨RX4, "size", "()I"⟩
abbrev cX4_isFull : ByteArray := prog_6_method_5_code
def yX4_isFull : MethodName := ⟨RX4, "isFull", "()Z"⟩
abbrev cX4_has : ByteArray := prog_6_method_6_code
def yX4_has : MethodName := ⟨RX4, "has", "(I)Z"⟩
abbrev cX4_hasPair : ByteArray := prog_6_method_7_code
def yX4_hasPair : MethodName := ⟨RX4, "hasPair", "(II)Z"⟩
abbrev cX4_enter : ByteArray := prog_6_method_8_code
def yX4_enter : MethodName := ⟨RX4, "enter", "(IIII)I"⟩
abbrev cX4_raise : ByteArray := prog_6_method_9_code
def yX4_raise : MethodName := ⟨RX4, "raise", "(II)V"⟩
abbrev cX4_paint : ByteArray := prog_6_method_10_code
def yX4_paint : MethodName := ⟨RX4, "paint", "(IIII)V"⟩
abbrev cX4_rankOf : ByteArray := prog_6_method_11_code
def yX4_rankOf : MethodName := ⟨RX4, "rankOf", "(I)I"⟩
abbrev cX4_fieldOf : ByteArray := prog_6_method_12_code
def yX4_fieldOf : MethodName := ⟨RX4, "fieldOf", "(I)I"⟩
abbrev cX4_chargeOf : ByteArray := prog_6_method_13_code
def yX4_chargeOf : MethodName := ⟨RX4, "chargeOf", "(I)I"⟩
abbrev cX4_tinctureOf : ByteArray := prog_6_method_14_code
def yX4_tinctureOf : MethodName := ⟨RX4, "tinctureOf", "(I)I"⟩
abbrev cX4_areNear : ByteArray := prog_6_method_15_code
def yX4_areNear : MethodName := ⟨RX4, "areNear", "(II)Z"⟩
abbrev cX4_yieldsTo : ByteArray := prog_6_method_16_code
def yX4_yieldsTo : MethodName := ⟨RX4, "yieldsTo", "(II)Z"⟩
abbrev cX4_leastYieldedTo : ByteArray := prog_6_method_17_code
def yX4_leastYieldedTo : MethodName := ⟨RX4, "leastYieldedTo", "(I)I"⟩
abbrev cX4_canRide : ByteArray := prog_6_method_18_code
def yX4_canRide : MethodName := ⟨RX4, "canRide", "(I)Z"⟩
abbrev cX4_countNear : ByteArray := prog_6_method_19_code
def yX4_countNear : MethodName := ⟨RX4, "countNear", "()I"⟩
abbrev cX4_countRiders : ByteArray := prog_6_method_20_code
def yX4_countRiders : MethodName := ⟨RX4, "countRiders", "()I"⟩
def RX5 : String := "TiltLists$Text"
def TX5 : u_T := fun k => match k with
  | 0 => ("TiltLists$Text", "letters", "[I", true)
  | 1 => ("TiltLists$Text", "length", "I", false)
  | 2 => ("TiltLists$Text", "at", "I", false)
  | _ => ("TiltLists$Text", "named", "I", false)
def tyX5 : Nat → FieldType := fun k => match k with
  | 0 => .array .int
  | 1 => .int
  | 2 => .int
  | _ => .int
abbrev wsX50 : List Cond := u_ws RX5 TX5 4
theorem nmX5 : ∀ a, a < 4 → ∀ b, b < 4 → a ≠ b → (TX5 a).2.1 ≠ (TX5 b).2.1 := by decide +kernel
theorem tyX5_ok : ∀ k, k < 4 → parseFieldDescriptor (TX5 k).2.2.1 = some (tyX5 k) := by decide +kernel
abbrev cX5_init : ByteArray := prog_7_method_1_code
def yX5_init : MethodName := ⟨RX5, "<init>", "()V"⟩
abbrev cX5_length : ByteArray := prog_7_method_2_code
def yX5_length : MethodName := ⟨RX5, "length", "()I"⟩
abbrev cX5_wipe : ByteArray := prog_7_method_3_code
def yX5_wipe : MethodName := ⟨RX5, "wipe", "()I"⟩
abbrev cX5_append : ByteArray := prog_7_method_4_code
def yX5_append : MethodName := ⟨RX5, "append", "(I)Z"⟩
abbrev cX5_countLetters : ByteArray := prog_7_method_5_code
def yX5_countLetters : MethodName := ⟨RX5, "countLetters", "(I)I"⟩
abbrev cX5_letterIn : ByteArray := prog_7_method_6_code
def yX5_letterIn : MethodName := ⟨RX5, "letterIn", "(II)I"⟩
abbrev cX5_readInto : ByteArray := prog_7_method_7_code
def yX5_readInto : MethodName := ⟨RX5, "readInto", "(LTiltLists$Ordinances;)I"⟩
abbrev cX5_readItems : ByteArray := prog_7_method_8_code
def yX5_readItems : MethodName := ⟨RX5, "readItems", "(LTiltLists$Ordinances;)Z"⟩
abbrev cX5_startsItem : ByteArray := prog_7_method_9_code
def yX5_startsItem : MethodName := ⟨RX5, "startsItem", "()Z"⟩
abbrev cX5_readItem : ByteArray := prog_7_method_10_code
def yX5_readItem : MethodName := ⟨RX5, "readItem", "(LTiltLists$Ordinances;)Z"⟩
abbrev cX5_readTie : ByteArray := prog_7_method_11_code
def yX5_readTie : MethodName := ⟨RX5, "readTie", "(LTiltLists$Ordinances;)Z"⟩
abbrev cX5_letter : ByteArray := prog_7_method_12_code
def yX5_letter : MethodName := ⟨RX5, "letter", "()I"⟩
abbrev cX5_isFigure : ByteArray := prog_7_method_13_code
def yX5_isFigure : MethodName := ⟨RX5, "isFigure", "(I)Z"⟩
abbrev cX5_strokeBy : ByteArray := prog_7_method_14_code
def yX5_strokeBy : MethodName := ⟨RX5, "strokeBy", "(I)I"⟩
def RX6 : String := "TiltLists"
def TX6 : u_T := fun k => match k with
  | 0 => ("TiltLists", "roll", "LTiltLists$Roll;", true)
  | 1 => ("TiltLists", "ordinances", "LTiltLists$Ordinances;", true)
  | 2 => ("TiltLists", "text", "LTiltLists$Text;", true)
  | 3 => ("TiltLists", "jousts", "LTiltLists$Jousts;", true)
  | 4 => ("TiltLists", "challenges", "LTiltLists$Challenges;", true)
  | _ => ("TiltLists", "camp", "LTiltLists$Camp;", true)
def tyX6 : Nat → FieldType := fun k => match k with
  | 0 => .object "TiltLists$Roll"
  | 1 => .object "TiltLists$Ordinances"
  | 2 => .object "TiltLists$Text"
  | 3 => .object "TiltLists$Jousts"
  | 4 => .object "TiltLists$Challenges"
  | _ => .object "TiltLists$Camp"
abbrev wsX60 : List Cond := u_ws RX6 TX6 6
theorem nmX6 : ∀ a, a < 6 → ∀ b, b < 6 → a ≠ b → (TX6 a).2.1 ≠ (TX6 b).2.1 := by decide +kernel
theorem tyX6_ok : ∀ k, k < 6 → parseFieldDescriptor (TX6 k).2.2.1 = some (tyX6 k) := by decide +kernel
abbrev cX6_init : ByteArray := prog_1_method_1_code
def yX6_init : MethodName := ⟨RX6, "<init>", "()V"⟩
abbrev cX6_knight : ByteArray := prog_1_method_2_code
def yX6_knight : MethodName := ⟨RX6, "knight", "(IIII)I"⟩
abbrev cX6_arms : ByteArray := prog_1_method_3_code
def yX6_arms : MethodName := ⟨RX6, "arms", "(IIII)I"⟩
abbrev cX6_rank : ByteArray := prog_1_method_4_code
def yX6_rank : MethodName := ⟨RX6, "rank", "(II)I"⟩
abbrev cX6_of : ByteArray := prog_1_method_5_code
def yX6_of : MethodName := ⟨RX6, "of", "(II)I"⟩
abbrev cX6_near : ByteArray := prog_1_method_6_code
def yX6_near : MethodName := ⟨RX6, "near", "()I"⟩
abbrev cX6_feed : ByteArray := prog_1_method_7_code
def yX6_feed : MethodName := ⟨RX6, "feed", "(I)I"⟩
abbrev cX6_ordain : ByteArray := prog_1_method_8_code
def yX6_ordain : MethodName := ⟨RX6, "ordain", "()I"⟩
abbrev cX6_scrap : ByteArray := prog_1_method_9_code
def yX6_scrap : MethodName := ⟨RX6, "scrap", "()I"⟩
abbrev cX6_force : ByteArray := prog_1_method_10_code
def yX6_force : MethodName := ⟨RX6, "force", "(I)I"⟩
abbrev cX6_worth : ByteArray := prog_1_method_11_code
def yX6_worth : MethodName := ⟨RX6, "worth", "(II)I"⟩
abbrev cX6_joust : ByteArray := prog_1_method_12_code
def yX6_joust : MethodName := ⟨RX6, "joust", "(II)I"⟩
abbrev cX6_stroke : ByteArray := prog_1_method_13_code
def yX6_stroke : MethodName := ⟨RX6, "stroke", "(IIII)I"⟩
abbrev cX6_copy : ByteArray := prog_1_method_14_code
def yX6_copy : MethodName := ⟨RX6, "copy", "(IIIIII)I"⟩
abbrev cX6_sheet : ByteArray := prog_1_method_15_code
def yX6_sheet : MethodName := ⟨RX6, "sheet", "(III)I"⟩
abbrev cX6_wins : ByteArray := prog_1_method_16_code
def yX6_wins : MethodName := ⟨RX6, "wins", "(II)I"⟩
abbrev cX6_won : ByteArray := prog_1_method_17_code
def yX6_won : MethodName := ⟨RX6, "won", "(I)I"⟩
abbrev cX6_best : ByteArray := prog_1_method_18_code
def yX6_best : MethodName := ⟨RX6, "best", "()I"⟩
abbrev cX6_owes : ByteArray := prog_1_method_19_code
def yX6_owes : MethodName := ⟨RX6, "owes", "(I)I"⟩
abbrev cX6_pay : ByteArray := prog_1_method_20_code
def yX6_pay : MethodName := ⟨RX6, "pay", "(III)I"⟩
abbrev cX6_purse : ByteArray := prog_1_method_21_code
def yX6_purse : MethodName := ⟨RX6, "purse", "(I)I"⟩
abbrev cX6_challenge : ByteArray := prog_1_method_22_code
def yX6_challenge : MethodName := ⟨RX6, "challenge", "(II)I"⟩
abbrev cX6_withdraw : ByteArray := prog_1_method_23_code
def yX6_withdraw : MethodName := ⟨RX6, "withdraw", "()I"⟩
abbrev cX6_turn : ByteArray := prog_1_method_24_code
def yX6_turn : MethodName := ⟨RX6, "turn", "(I)I"⟩
abbrev cX6_turns : ByteArray := prog_1_method_25_code
def yX6_turns : MethodName := ⟨RX6, "turns", "()I"⟩
abbrev cX6_feud : ByteArray := prog_1_method_26_code
def yX6_feud : MethodName := ⟨RX6, "feud", "(IIZ)I"⟩
abbrev cX6_tent : ByteArray := prog_1_method_27_code
def yX6_tent : MethodName := ⟨RX6, "tent", "(I)I"⟩
abbrev cX6_many : ByteArray := prog_1_method_28_code
def yX6_many : MethodName := ⟨RX6, "many", "(I)I"⟩
abbrev cX6_isWithin : ByteArray := prog_1_method_29_code
def yX6_isWithin : MethodName := ⟨RX6, "isWithin", "(III)Z"⟩
def RX7 : String := "TiltListsModel"
def TX7 : u_T := fun k => match k with
  | 0 => ("TiltListsModel", "knights", "I", false)
  | 1 => ("TiltListsModel", "rankOf", "[I", true)
  | 2 => ("TiltListsModel", "fieldOf", "[I", true)
  | 3 => ("TiltListsModel", "chargeOf", "[I", true)
  | 4 => ("TiltListsModel", "tinctureOf", "[I", true)
  | 5 => ("TiltListsModel", "fed", "I", false)
  | 6 => ("TiltListsModel", "letters", "[I", true)
  | 7 => ("TiltListsModel", "ordinances", "I", false)
  | 8 => ("TiltListsModel", "inForce", "I", false)
  | 9 => ("TiltListsModel", "worths", "[I", true)
  | 10 => ("TiltListsModel", "jousts", "I", false)
  | 11 => ("TiltListsModel", "riders", "[I", true)
  | 12 => ("TiltListsModel", "lawOf", "[I", true)
  | 13 => ("TiltListsModel", "strokes", "[I", true)
  | 14 => ("TiltListsModel", "paid", "[I", true)
  | 15 => ("TiltListsModel", "challenges", "I", false)
  | 16 => ("TiltListsModel", "challenger", "[I", true)
  | 17 => ("TiltListsModel", "challenged", "[I", true)
  | 18 => ("TiltListsModel", "isFeud", "[Z", true)
  | 19 => ("TiltListsModel", "read", "[I", true)
  | 20 => ("TiltListsModel", "isNamed", "[Z", true)
  | 21 => ("TiltListsModel", "now", "I", false)
  | 22 => ("TiltListsModel", "at", "I", false)
  | 23 => ("TiltListsModel", "isLess", "Z", false)
  | 24 => ("TiltListsModel", "scoreOf", "I", false)
  | 25 => ("TiltListsModel", "moreOf", "I", false)
  | 26 => ("TiltListsModel", "turnOf", "[I", true)
  | 27 => ("TiltListsModel", "hasTent", "[Z", true)
  | 28 => ("TiltListsModel", "ring", "[I", true)
  | _ => ("TiltListsModel", "tents", "I", false)
def tyX7 : Nat → FieldType := fun k => match k with
  | 0 => .int
  | 1 => .array .int
  | 2 => .array .int
  | 3 => .array .int
  | 4 => .array .int
  | 5 => .int
  | 6 => .array .int
  | 7 => .int
  | 8 => .int
  | 9 => .array .int
  | 10 => .int
  | 11 => .array .int
  | 12 => .array .int
  | 13 => .array .int
  | 14 => .array .int
  | 15 => .int
  | 16 => .array .int
  | 17 => .array .int
  | 18 => .array .boolean
  | 19 => .array .int
  | 20 => .array .boolean
  | 21 => .int
  | 22 => .int
  | 23 => .boolean
  | 24 => .int
  | 25 => .int
  | 26 => .array .int
  | 27 => .array .boolean
  | 28 => .array .int
  | _ => .int
abbrev wsX70 : List Cond := u_ws RX7 TX7 30
theorem nmX7 : ∀ a, a < 30 → ∀ b, b < 30 → a ≠ b → (TX7 a).2.1 ≠ (TX7 b).2.1 := by decide +kernel
theorem tyX7_ok : ∀ k, k < 30 → parseFieldDescriptor (TX7 k).2.2.1 = some (tyX7 k) := by decide +kernel
abbrev cX7_init : ByteArray := prog_9_method_1_code
def yX7_init : MethodName := ⟨RX7, "<init>", "()V"⟩
abbrev cX7_in : ByteArray := prog_9_method_2_code
def yX7_in : MethodName := ⟨RX7, "in", "(III)Z"⟩
abbrev cX7_isKnight : ByteArray := prog_9_method_3_code
def yX7_isKnight : MethodName := ⟨RX7, "isKnight", "(I)Z"⟩
abbrev cX7_areTwo : ByteArray := prog_9_method_4_code
def yX7_areTwo : MethodName := ⟨RX7, "areTwo", "(II)Z"⟩
abbrev cX7_isJoust : ByteArray := prog_9_method_5_code
def yX7_isJoust : MethodName := ⟨RX7, "isJoust", "(I)Z"⟩
abbrev cX7_isSide : ByteArray := prog_9_method_6_code
def yX7_isSide : MethodName := ⟨RX7, "isSide", "(I)Z"⟩
abbrev cX7_areArms : ByteArray := prog_9_method_7_code
def yX7_areArms : MethodName := ⟨RX7, "areArms", "(III)Z"⟩
abbrev cX7_put : ByteArray := prog_9_method_8_code
def yX7_put : MethodName := ⟨RX7, "put", "(IIII)V"⟩
abbrev cX7_knight : ByteArray := prog_9_method_9_code
def yX7_knight : MethodName := ⟨RX7, "knight", "(IIII)I"⟩
abbrev cX7_arms : ByteArray := prog_9_method_10_code
def yX7_arms : MethodName := ⟨RX7, "arms", "(IIII)I"⟩
abbrev cX7_rank : ByteArray := prog_9_method_11_code
def yX7_rank : MethodName := ⟨RX7, "rank", "(II)I"⟩
abbrev cX7_areNear : ByteArray := prog_9_method_12_code
def yX7_areNear : MethodName := ⟨RX7, "areNear", "(II)Z"⟩
abbrev cX7_doesYield : ByteArray := prog_9_method_13_code
def yX7_doesYield : MethodName := ⟨RX7, "doesYield", "(II)Z"⟩
abbrev cX7_yieldsTo : ByteArray := prog_9_method_14_code
def yX7_yieldsTo : MethodName := ⟨RX7, "yieldsTo", "(I)I"⟩
abbrev cX7_of : ByteArray := prog_9_method_15_code
def yX7_of : MethodName := ⟨RX7, "of", "(II)I"⟩
abbrev cX7_near : ByteArray := prog_9_method_16_code
def yX7_near : MethodName := ⟨RX7, "near", "()I"⟩
abbrev cX7_feed : ByteArray := prog_9_method_17_code
def yX7_feed : MethodName := ⟨RX7, "feed", "(I)I"⟩
abbrev cX7_scrap : ByteArray := prog_9_method_18_code
def yX7_scrap : MethodName := ⟨RX7, "scrap", "()I"⟩
abbrev cX7_strokeOf : ByteArray := prog_9_method_19_code
def yX7_strokeOf : MethodName := ⟨RX7, "strokeOf", "(I)I"⟩
abbrev cX7_pass : ByteArray := prog_9_method_20_code
def yX7_pass : MethodName := ⟨RX7, "pass", "(I)Z"⟩
abbrev cX7_close : ByteArray := prog_9_method_21_code
def yX7_close : MethodName := ⟨RX7, "close", "()V"⟩
abbrev cX7_goOver : ByteArray := prog_9_method_22_code
def yX7_goOver : MethodName := ⟨RX7, "goOver", "()I"⟩
abbrev cX7_ordain : ByteArray := prog_9_method_23_code
def yX7_ordain : MethodName := ⟨RX7, "ordain", "()I"⟩
abbrev cX7_force : ByteArray := prog_9_method_24_code
def yX7_force : MethodName := ⟨RX7, "force", "(I)I"⟩
abbrev cX7_worth : ByteArray := prog_9_method_25_code
def yX7_worth : MethodName := ⟨RX7, "worth", "(II)I"⟩
abbrev cX7_joust : ByteArray := prog_9_method_26_code
def yX7_joust : MethodName := ⟨RX7, "joust", "(II)I"⟩
abbrev cX7_sheetAt : ByteArray := prog_9_method_27_code
def yX7_sheetAt : MethodName := ⟨RX7, "sheetAt", "(II)I"⟩
abbrev cX7_stroke : ByteArray := prog_9_method_28_code
def yX7_stroke : MethodName := ⟨RX7, "stroke", "(IIII)I"⟩
abbrev cX7_copy : ByteArray := prog_9_method_29_code
def yX7_copy : MethodName := ⟨RX7, "copy", "(IIIIII)I"⟩
abbrev cX7_strokeMany : ByteArray := prog_9_method_30_code
def yX7_strokeMany : MethodName := ⟨RX7, "strokeMany", "(III)I"⟩
abbrev cX7_reckon : ByteArray := prog_9_method_31_code
def yX7_reckon : MethodName := ⟨RX7, "reckon", "(IIZ)V"⟩
abbrev cX7_sheet : ByteArray := prog_9_method_32_code
def yX7_sheet : MethodName := ⟨RX7, "sheet", "(III)I"⟩
abbrev cX7_isGreater : ByteArray := prog_9_method_33_code
def yX7_isGreater : MethodName := ⟨RX7, "isGreater", "(IIZ)Z"⟩
abbrev cX7_wins : ByteArray := prog_9_method_34_code
def yX7_wins : MethodName := ⟨RX7, "wins", "(II)I"⟩
abbrev cX7_wonBy : ByteArray := prog_9_method_35_code
def yX7_wonBy : MethodName := ⟨RX7, "wonBy", "(I)I"⟩
abbrev cX7_joustsOf : ByteArray := prog_9_method_36_code
def yX7_joustsOf : MethodName := ⟨RX7, "joustsOf", "(I)I"⟩
abbrev cX7_won : ByteArray := prog_9_method_37_code
def yX7_won : MethodName := ⟨RX7, "won", "(I)I"⟩
abbrev cX7_best : ByteArray := prog_9_method_38_code
def yX7_best : MethodName := ⟨RX7, "best", "()I"⟩
abbrev cX7_owedOf : ByteArray := prog_9_method_39_code
def yX7_owedOf : MethodName := ⟨RX7, "owedOf", "(II)I"⟩
abbrev cX7_owes : ByteArray := prog_9_method_40_code
def yX7_owes : MethodName := ⟨RX7, "owes", "(I)I"⟩
abbrev cX7_pay : ByteArray := prog_9_method_41_code
def yX7_pay : MethodName := ⟨RX7, "pay", "(III)I"⟩
abbrev cX7_purse : ByteArray := prog_9_method_42_code
def yX7_purse : MethodName := ⟨RX7, "purse", "(I)I"⟩
abbrev cX7_challenge : ByteArray := prog_9_method_43_code
def yX7_challenge : MethodName := ⟨RX7, "challenge", "(II)I"⟩
abbrev cX7_withdraw : ByteArray := prog_9_method_44_code
def yX7_withdraw : MethodName := ⟨RX7, "withdraw", "()I"⟩
abbrev cX7_isTurn : ByteArray := prog_9_method_45_code
def yX7_isTurn : MethodName := ⟨RX7, "isTurn", "(I)Z"⟩
abbrev cX7_findPlan : ByteArray := prog_9_method_46_code
def yX7_findPlan : MethodName := ⟨RX7, "findPlan", "(I)Z"⟩
abbrev cX7_makePlan : ByteArray := prog_9_method_47_code
def yX7_makePlan : MethodName := ⟨RX7, "makePlan", "()I"⟩
abbrev cX7_turn : ByteArray := prog_9_method_48_code
def yX7_turn : MethodName := ⟨RX7, "turn", "(I)I"⟩
abbrev cX7_turns : ByteArray := prog_9_method_49_code
def yX7_turns : MethodName := ⟨RX7, "turns", "()I"⟩
abbrev cX7_feud : ByteArray := prog_9_method_50_code
def yX7_feud : MethodName := ⟨RX7, "feud", "(IIZ)I"⟩
abbrev cX7_chooseTents : ByteArray := prog_9_method_51_code
def yX7_chooseTents : MethodName := ⟨RX7, "chooseTents", "()V"⟩
abbrev cX7_mayStand : ByteArray := prog_9_method_52_code
def yX7_mayStand : MethodName := ⟨RX7, "mayStand", "(I)Z"⟩
abbrev cX7_findCamp : ByteArray := prog_9_method_53_code
def yX7_findCamp : MethodName := ⟨RX7, "findCamp", "()Z"⟩
abbrev cX7_tent : ByteArray := prog_9_method_54_code
def yX7_tent : MethodName := ⟨RX7, "tent", "(I)I"⟩
abbrev cX7_feuds : ByteArray := prog_9_method_55_code
def yX7_feuds : MethodName := ⟨RX7, "feuds", "()I"⟩
abbrev cX7_riding : ByteArray := prog_9_method_56_code
def yX7_riding : MethodName := ⟨RX7, "riding", "()I"⟩
abbrev cX7_sumOf : ByteArray := prog_9_method_57_code
def yX7_sumOf : MethodName := ⟨RX7, "sumOf", "(Z)I"⟩
abbrev cX7_many : ByteArray := prog_9_method_58_code
def yX7_many : MethodName := ⟨RX7, "many", "(I)I"⟩
def RJ6 : String := "java/lang/Integer"
def TJ6 : u_T := fun k => match k with
  | _ => ("", "", "", false)
def tyJ6 : Nat → FieldType := fun k => match k with
  | _ => .int
abbrev wsJ60 : List Cond := u_ws RJ6 TJ6 0
theorem nmJ6 : ∀ a, a < 0 → ∀ b, b < 0 → a ≠ b → (TJ6 a).2.1 ≠ (TJ6 b).2.1 := by decide +kernel
theorem tyJ6_ok : ∀ k, k < 0 → parseFieldDescriptor (TJ6 k).2.2.1 = some (tyJ6 k) := by decide +kernel
abbrev cJ6_bitCount_0f7a4 : ByteArray := prog_10_method_49_code
def yJ6_bitCount_0f7a4 : MethodName := ⟨RJ6, "bitCount", "(I)I"⟩
def RJ9 : String := "java/lang/Math"
def TJ9 : u_T := fun k => match k with
  | _ => ("", "", "", false)
def tyJ9 : Nat → FieldType := fun k => match k with
  | _ => .int
abbrev wsJ90 : List Cond := u_ws RJ9 TJ9 0
theorem nmJ9 : ∀ a, a < 0 → ∀ b, b < 0 → a ≠ b → (TJ9 a).2.1 ≠ (TJ9 b).2.1 := by decide +kernel
theorem tyJ9_ok : ∀ k, k < 0 → parseFieldDescriptor (TJ9 k).2.2.1 = some (tyJ9 k) := by decide +kernel
abbrev cJ9_floorDiv_7cf53 : ByteArray := prog_11_method_47_code
def yJ9_floorDiv_7cf53 : MethodName := ⟨RJ9, "floorDiv", "(II)I"⟩
abbrev cJ9_abs_0f7a4 : ByteArray := prog_11_method_59_code
def yJ9_abs_0f7a4 : MethodName := ⟨RJ9, "abs", "(I)I"⟩
abbrev cJ9_max_7cf53 : ByteArray := prog_11_method_65_code
def yJ9_max_7cf53 : MethodName := ⟨RJ9, "max", "(II)I"⟩
abbrev cJ9_min_7cf53 : ByteArray := prog_11_method_69_code
def yJ9_min_7cf53 : MethodName := ⟨RJ9, "min", "(II)I"⟩
def RJ10 : String := "java/lang/System"
def TJ10 : u_T := fun k => match k with
  | _ => ("", "", "", false)
def tyJ10 : Nat → FieldType := fun k => match k with
  | _ => .int
abbrev wsJ100 : List Cond := u_ws RJ10 TJ10 0
theorem nmJ10 : ∀ a, a < 0 → ∀ b, b < 0 → a ≠ b → (TJ10 a).2.1 ≠ (TJ10 b).2.1 := by decide +kernel
theorem tyJ10_ok : ∀ k, k < 0 → parseFieldDescriptor (TJ10 k).2.2.1 = some (tyJ10 k) := by decide +kernel
def RL : String := "TiltListsLaw"
abbrev cL_law : ByteArray := code
def yL_law : MethodName := ⟨RL, "law", "([I)Z"⟩
abbrev ex_cl : List vw_C := [(RX0, TX0, 2), (RX1, TX1, 4), (RX2, TX2, 7), (RX3, TX3, 4), (RX4, TX4, 5), (RX5, TX5, 4), (RX6, TX6, 6), (RX7, TX7, 30)]
end
section
abbrev ex_kinds : List (Nat ⊕ (Nat × Bool)) := [.inl 6, .inl 4, .inl 3, .inl 5, .inl 2, .inl 1, .inl 0, .inr (14, false), .inr (14, false), .inr (14, false), .inr (14, false), .inr (36, false), .inr (6, false), .inr (60, false), .inr (30, false), .inr (60, false), .inr (60, false), .inr (360, false), .inr (7, false), .inr (7, false), .inr (7, false), .inr (14, false), .inr (7, false), .inl 7, .inr (14, false), .inr (14, false), .inr (14, false), .inr (14, false), .inr (60, false), .inr (42, false), .inr (60, false), .inr (30, false), .inr (360, false), .inr (60, false), .inr (7, false), .inr (7, false), .inr (196, true), .inr (7, false), .inr (6, true), .inr (8, false), .inr (14, true), .inr (8, false)]
abbrev ex_rfs : List (List (Option Nat)) := [[some 1, some 2, some 3, some 4, some 5, some 6], [some 7, some 8, some 9, some 10, none], [some 11, some 12, none, none], [some 13, none, none, none], [some 1, some 2, some 14, some 15, some 16, some 17, none], [some 18, some 19, some 20, none], [some 21, some 22], [], [], [], [], [], [], [], [], [], [], [], [], [], [], [], [], [none, some 24, some 25, some 26, some 27, none, some 28, none, none, some 29, none, some 30, some 31, some 32, some 33, none, some 34, some 35, some 36, some 37, some 38, none, none, none, none, none, some 39, some 40, some 41, none], [], [], [], [], [], [], [], [], [], [], [], [], [], [], [], [], [], []]
abbrev ex_nfs : List Nat := [2, 4, 7, 4, 5, 4, 6, 30]
abbrev ex_AV : Type := Int32 ⊕ Nat
abbrev ex_MD : Type := MethodName × ByteArray × Nat × Option FieldType
abbrev ex_WW : Type := Nat → Nat → Int32
def ex_tr (ad : Nat → Nat) : ex_AV → Value
  | .inl x => .int x
  | .inr c => .ref (ad c)
def ex_kind (c : Nat) : Nat ⊕ (Nat × Bool) := ex_kinds.getD c (.inl 0)
def ex_rf (c k : Nat) : Option Nat := (ex_rfs.getD c []).getD k none
def ex_nf (ci : Nat) : Nat := ex_nfs.getD ci 0
def ex_fv (ad : Nat → Nat) (c k : Nat) (f : Nat → Int32) : Value := match ex_rf c k with
  | some j => .ref (ad j)
  | none => .int (f k)
def ex_ent (ad : Nat → Nat) (cI cZ : ClassId) (c : Nat) (f : Nat → Int32) : va_E := match ex_kind c with
  | .inl ci => .inr (ci, (List.range (ex_nf ci)).map (fun k => ex_fv ad c k f))
  | .inr (n, b) => .inl (cond b cZ cI, n, .inl f)
def ex_cells (ad : Nat → Nat) (cI cZ : ClassId) (w : ex_WW) : va_W := (List.range 42).map (fun c => (ad c, ex_ent ad cI cZ c (w c)))
def ex_up (w : ex_WW) (c k : Nat) (x : Int32) : ex_WW := fun i => if i = c then upd (w c) k x else w i
def ex_upf (w : ex_WW) (c : Nat) (f : Nat → Int32) : ex_WW := fun i => if i = c then f else w i
theorem ex_up_eq (w : ex_WW) (c k : Nat) (x : Int32) : ex_up w c k x = ex_upf w c (upd (w c) k x) := rfl
theorem ex_cells_at (ad : Nat → Nat) (cI cZ : ClassId) (w : ex_WW) {c : Nat} (h : c < 42) : (ex_cells ad cI cZ w)[c]? = some (ad c, ex_ent ad cI cZ c (w c)) := by
  simp [ex_cells, List.getElem?_map, List.getElem?_range h]
theorem ex_cells_set (ad : Nat → Nat) (cI cZ : ClassId) (w : ex_WW) {c : Nat} (h : c < 42) (f : Nat → Int32) : (ex_cells ad cI cZ w).set c (ad c, ex_ent ad cI cZ c f) = ex_cells ad cI cZ (ex_upf w c f) := by
  apply List.ext_getElem?
  intro i
  by_cases hi : i = c
  · subst hi
    rw [ex_cells_at _ _ _ _ h, List.getElem?_set_self (by simpa [ex_cells] using h)]
    simp [ex_upf]
  · rw [List.getElem?_set_ne (fun q => hi q.symm)]
    by_cases h2 : i < 42
    · rw [ex_cells_at _ _ _ _ h2, ex_cells_at _ _ _ _ h2]
      simp [ex_upf, hi]
    · rw [List.getElem?_eq_none (by simp [ex_cells]; omega), List.getElem?_eq_none (by simp [ex_cells]; omega)]
theorem ex_ent_arr {ad : Nat → Nat} {cI cZ : ClassId} {c n : Nat} {b : Bool} (f : Nat → Int32) (h : ex_kind c = .inr (n, b)) : ex_ent ad cI cZ c f = .inl (cond b cZ cI, n, .inl f) := by
  unfold ex_ent
  rw [h]
theorem ex_ent_obj {ad : Nat → Nat} {cI cZ : ClassId} {c ci : Nat} (f : Nat → Int32) (h : ex_kind c = .inl ci) : ex_ent ad cI cZ c f = .inr (ci, (List.range (ex_nf ci)).map (fun k => ex_fv ad c k f)) := by
  unfold ex_ent
  rw [h]
theorem ex_fs_set {ad : Nat → Nat} {c k N : Nat} (f : Nat → Int32) (x : Int32) (hr : ex_rf c k = none) : ((List.range N).map (fun k => ex_fv ad c k f)).set k (.int x) = (List.range N).map (fun j => ex_fv ad c j (upd f k x)) := by
  apply List.ext_getElem?
  intro i
  by_cases hN : i < N
  · by_cases hi : i = k
    · subst hi
      rw [List.getElem?_set_self (by simpa using hN)]
      simp [List.getElem?_map, List.getElem?_range hN, ex_fv, hr, upd]
    · rw [List.getElem?_set_ne (fun q => hi q.symm)]
      simp only [List.getElem?_map, List.getElem?_range hN, Option.map_some, ex_fv]
      cases ex_rf c i <;> simp [upd, hi]
  · rw [List.getElem?_eq_none (by simp; omega), List.getElem?_eq_none (by simp; omega)]
def ex_A (ad : Nat → Nat) : Nat → Prop := fun q => ∃ c, c < 42 ∧ q = ad c
def ex_inj (ad : Nat → Nat) : Prop := ∀ i j, i < 42 → j < 42 → ad i = ad j → i = j
theorem ex_cells_mem {ad : Nat → Nat} {cI cZ : ClassId} {w : ex_WW} {k : Nat} {q : Nat × va_E} (h : (ex_cells ad cI cZ w)[k]? = some q) : k < 42 ∧ q = (ad k, ex_ent ad cI cZ k (w k)) := by
  have hk : k < 42 := by
    have := (List.getElem?_eq_some_iff.mp h).1
    simpa [ex_cells] using this
  rw [ex_cells_at _ _ _ _ hk] at h
  exact ⟨hk, (Option.some.inj h).symm⟩
theorem ex_cells_D {ad : Nat → Nat} {cI cZ : ClassId} {w : ex_WW} (hi : ex_inj ad) : va_D (ex_A ad) (ex_cells ad cI cZ w) := by
  refine ⟨fun i j p q h1 h2 h3 => ?_, fun k q h => ?_⟩
  · obtain ⟨a1, a2⟩ := ex_cells_mem h1
    obtain ⟨b1, b2⟩ := ex_cells_mem h2
    subst a2
    subst b2
    exact hi i j a1 b1 h3
  · obtain ⟨a1, a2⟩ := ex_cells_mem h
    exact ⟨k, a1, by rw [a2]⟩
-- locals
def ex_lv (ad : Nat → Nat) (ls : List (Option ex_AV)) : List (Nat × Value) := (List.range ls.length).filterMap (fun j => match ls[j]? with
  | some (some x) => some (j, ex_tr ad x)
  | _ => none)
theorem ex_lv_mem {ad : Nat → Nat} {ls : List (Option ex_AV)} {q : Nat × Value} : q ∈ ex_lv ad ls ↔ ∃ x, ls[q.1]? = some (some x) ∧ q.2 = ex_tr ad x := by
  unfold ex_lv
  rw [List.mem_filterMap]
  constructor
  · rintro ⟨j, hj, h⟩
    split at h
    · next x hx =>
      cases h
      exact ⟨x, hx, rfl⟩
    · cases h
  · rintro ⟨x, hx, he⟩
    refine ⟨q.1, List.mem_range.mpr (List.getElem?_eq_some_iff.mp hx).1, ?_⟩
    rw [hx]
    simp only
    rw [← he]
theorem ex_tr_cat (ad : Nat → Nat) (x : ex_AV) : (ex_tr ad x).category = 1 := by cases x <;> rfl
theorem ex_lv_get {ad : Nat → Nat} {a : Array Slot} {n : Nat} {ls : List (Option ex_AV)} (h : lv_has a n (ex_lv ad ls)) {j : Nat} {x : ex_AV} (hx : ls[j]? = some (some x)) : a[j]? = some (.val (ex_tr ad x)) := h.2.2 (j, ex_tr ad x) (ex_lv_mem.mpr ⟨x, hx, rfl⟩)
theorem ex_lv_store {ad : Nat → Nat} {a : Array Slot} {n i : Nat} {ls : List (Option ex_AV)} {x : ex_AV} (h : lv_has a n ((i, ex_tr ad x) :: (ex_lv ad ls).filter (fun q => !(q.1 == i) && !(q.1 + 1 == i && q.2.category == 2)))) : lv_has a n (ex_lv ad (ls.set i (some x))) := by
  refine ⟨h.1, h.2.1, fun q hq => ?_⟩
  obtain ⟨y, hy, he⟩ := ex_lv_mem.mp hq
  by_cases hj : q.1 = i
  · have hlt : q.1 < ls.length := by
      have := (List.getElem?_eq_some_iff.mp hy).1
      simpa using this
    have hi : i < ls.length := by omega
    rw [hj, List.getElem?_set_self hi] at hy
    cases hy
    have := h.2.2 (i, ex_tr ad x) List.mem_cons_self
    rw [he, hj]
    exact this
  · rw [List.getElem?_set_ne (fun z => hj z.symm)] at hy
    refine h.2.2 q (List.mem_cons_of_mem _ (List.mem_filter.mpr ⟨ex_lv_mem.mpr ⟨y, hy, he⟩, ?_⟩))
    rw [he, ex_tr_cat]
    simp [hj]
-- the words that every method's contract takes, its room
def ex_T : List Cond := lw_tbl.filter goodWord
def ex_ws (M : ex_MD) : List Cond := .code M.1 M.2.1 M.2.2.1 M.2.2.2 :: ex_T
def ex_room (d : Nat) : Room := { frames := d, cells := 0, slots := 0, locals := 60 * d }
theorem ex_T_good : ∀ w ∈ ex_T, w ∈ lw_tbl ∧ ((w.onTables && w.keeps) = true ∨ ∃ ty, w = .arrayClass ty) := fun w h => ⟨(List.mem_filter.mp h).1, good_of_word (List.mem_filter.mp h).2⟩
theorem ex_ws_in {big : List Cond} {M : ex_MD} (hb : ∀ w ∈ ex_T, w ∈ big) (hc : Cond.code M.1 M.2.1 M.2.2.1 M.2.2.2 ∈ ex_T) : GoodIn big (ex_ws M) := by
  intro w hw
  have h : w ∈ ex_T := by
    rcases List.mem_cons.mp hw with h | h
    · rw [h]; exact hc
    · exact h
  exact ⟨hb w h, (ex_T_good w h).2⟩
theorem ex_mem {w : Cond} (i : Nat) (h : lw_tbl[i]? = some w) (hg : goodWord w = true) : w ∈ ex_T := List.mem_filter.mpr ⟨List.mem_of_getElem? h, hg⟩
-- a method's start, its end, its walk
def ex_K (D : va_G) (cI cZ : ClassId) (U : State) : Prop := va_K D ex_cl [(cI, .int), (cZ, .boolean)] U ∧ va_Nw (.methodLinkNest RX4 24 yX6_isWithin RX6) U
theorem ex_K.moved {D : va_G} {cI cZ : ClassId} {u U : State} (h : ex_K D cI cZ u) (hW : u.WarmedH U.vm) : ex_K D cI cZ U := ⟨va_K.moved hW.alike h.1, va_Nw.warmM hW h.2⟩
def ex_B (ad : Nat → Nat) (D : va_G) (cI cZ : ClassId) (u : ex_WW) (t : State) : Prop := va_P D ex_cl (ex_cells ad cI cZ u) t.heap
def ex_Q (M : ex_MD) (ad : Nat → Nat) (D : va_G) (cI cZ : ClassId) (P : Int32 → ex_WW → Prop) : Array Value → State → Outcome → State → Prop := match M.2.2.2 with
  | none => va_Qv (fun u => P 0 u) (ex_B ad D cI cZ) (ex_A ad)
  | some _ => va_Qi P (ex_B ad D cI cZ) (ex_A ad)
def ex_C (M : ex_MD) (p : Program) (s : State) (m : MethodId) (args : Array Value) (meth : Method) (c : Code) (ad : Nat → Nat) (D : va_G) (cI cZ : ClassId) : Prop :=
  p.tables.exec = Jvm.exec ∧ c.code = M.2.1 ∧ c.maxLocals = M.2.2.1 ∧ meth.sig.returnType = M.2.2.2 ∧ meth.locks = false ∧ s.vm.findClass M.1.cls = some m.cls ∧ (∀ w ∈ ex_ws M, w.before args s = true) ∧ ex_K D cI cZ s ∧ ex_inj ad
def ex_Ev (d : Nat) (M : ex_MD) (pc : Nat) (ls : List (Option ex_AV)) (st : List ex_AV) (w : ex_WW) (P : Int32 → ex_WW → Prop) : Prop :=
  ∀ (p : Program) (l : Launch) (e : Env) (s : State) (m : MethodId) (args : Array Value) (below : List Frame) (meth : Method) (c : Code) (H : Heap) (locs : List Loc) (ad : Nat → Nat) (D : va_G) (cI cZ : ClassId) (a : Array Slot),
    ex_C M p s m args meth c ad D cI cZ → va_P D ex_cl (ex_cells ad cI cZ w) H → va_S (ex_A ad) s.heap H locs → lv_has a M.2.2.1 (ex_lv ad ls) →
    W p l e (ex_room d) s m args below meth c H locs 0 0 (MQ below (ex_Q M ad D cI cZ P) args s 0 0 (ex_A ad)) (F0 m pc a (st.map (ex_tr ad)))
end
section
section EVR
variable {d : Nat} {M : ex_MD} {pc : Nat} {ls : List (Option ex_AV)} {st : List ex_AV} {w : ex_WW} {P : Int32 → ex_WW → Prop}
theorem ev_mono {P' : Int32 → ex_WW → Prop} (h : ex_Ev d M pc ls st w P) (hp : ∀ r u, P r u → P' r u) : ex_Ev d M pc ls st w P' := by
  intro p l e s m args below meth c H locs ad D cI cZ a C hP hS hl T hT X
  obtain ⟨t, a1, o, b1, b2, b3, L, b4⟩ := h p l e s m args below meth c H locs ad D cI cZ a C hP hS hl T hT X
  refine ⟨t, a1, o, b1, b2, ?_, L, b4⟩
  unfold ex_Q at b3 ⊢
  cases hr : M.2.2.2 with
  | none =>
    rw [hr] at b3
    obtain ⟨⟨u, h1, h2, h3⟩, h4⟩ := b3
    exact ⟨⟨u, h1, hp _ _ h2, h3⟩, h4⟩
  | some ty =>
    rw [hr] at b3
    obtain ⟨⟨r, u, h1, h2, h3⟩, h4⟩ := b3
    exact ⟨⟨r, u, h1, hp _ _ h2, h3⟩, h4⟩
theorem ev_iconst {n : Int} (v : Int32) (hd : decode M.2.1 pc = .ok (.iconst n, 1)) (hv : Int32.ofInt n = v) (k : ex_Ev d M (pc + 1) ls (.inl v :: st) w P) : ex_Ev d M pc ls st w P :=
  fun p l e s m args below meth c H locs ad D cI cZ a C hP hS hl => lv_iconst C.1 C.2.1 hd hv (k p l e s m args below meth c H locs ad D cI cZ a C hP hS hl)
theorem ev_bipush {n : Int} (v : Int32) (hd : decode M.2.1 pc = .ok (.bipush n, 2)) (hv : (Int8.ofInt n).toInt32 = v) (k : ex_Ev d M (pc + 2) ls (.inl v :: st) w P) : ex_Ev d M pc ls st w P :=
  fun p l e s m args below meth c H locs ad D cI cZ a C hP hS hl => lv_bipush C.1 C.2.1 hd hv (k p l e s m args below meth c H locs ad D cI cZ a C hP hS hl)
theorem ev_sipush {n : Int} (v : Int32) (hd : decode M.2.1 pc = .ok (.sipush n, 3)) (hv : (Int16.ofInt n).toInt32 = v) (k : ex_Ev d M (pc + 3) ls (.inl v :: st) w P) : ex_Ev d M pc ls st w P :=
  fun p l e s m args below meth c H locs ad D cI cZ a C hP hS hl => lv_sipush C.1 C.2.1 hd hv (k p l e s m args below meth c H locs ad D cI cZ a C hP hS hl)
theorem ev_ldc {i : Nat} (v : Int32) (hd : decode M.2.1 pc = .ok (.ldc i, 2)) (hc : Cond.constant M.1.cls i v ∈ ex_T) (k : ex_Ev d M (pc + 2) ls (.inl v :: st) w P) : ex_Ev d M pc ls st w P :=
  fun p l e s m args below meth c H locs ad D cI cZ a C hP hS hl => lv_ldc C.1 C.2.1 C.2.2.2.2.2.1 (C.2.2.2.2.2.2.1 _ (List.mem_cons_of_mem _ hc)) hd (k p l e s m args below meth c H locs ad D cI cZ a C hP hS hl)
theorem ev_ldcw {i : Nat} (v : Int32) (hd : decode M.2.1 pc = .ok (.ldc_w i, 3)) (hc : Cond.constant M.1.cls i v ∈ ex_T) (k : ex_Ev d M (pc + 3) ls (.inl v :: st) w P) : ex_Ev d M pc ls st w P :=
  fun p l e s m args below meth c H locs ad D cI cZ a C hP hS hl => lv_ldcw C.1 C.2.1 C.2.2.2.2.2.1 (C.2.2.2.2.2.2.1 _ (List.mem_cons_of_mem _ hc)) hd (k p l e s m args below meth c H locs ad D cI cZ a C hP hS hl)
theorem ev_iload_n {k : Fin 4} {x : Int32} (hd : decode M.2.1 pc = .ok (.iload_n k, 1)) (hx : ls[(k : Nat)]? = some (some (.inl x))) (kk : ex_Ev d M (pc + 1) ls (.inl x :: st) w P) : ex_Ev d M pc ls st w P :=
  fun p l e s m args below meth c H locs ad D cI cZ a C hP hS hl => lv_iload_n C.1 C.2.1 hd rfl (ex_lv_get hl hx) (kk p l e s m args below meth c H locs ad D cI cZ a C hP hS hl)
theorem ev_iload {i : Nat} {x : Int32} (hd : decode M.2.1 pc = .ok (.iload i, 2)) (hx : ls[i]? = some (some (.inl x))) (kk : ex_Ev d M (pc + 2) ls (.inl x :: st) w P) : ex_Ev d M pc ls st w P :=
  fun p l e s m args below meth c H locs ad D cI cZ a C hP hS hl => lv_iload C.1 C.2.1 hd (ex_lv_get hl hx) (kk p l e s m args below meth c H locs ad D cI cZ a C hP hS hl)
theorem ev_aload_n {k : Fin 4} {x : Nat} (hd : decode M.2.1 pc = .ok (.aload_n k, 1)) (hx : ls[(k : Nat)]? = some (some (.inr x))) (kk : ex_Ev d M (pc + 1) ls (.inr x :: st) w P) : ex_Ev d M pc ls st w P :=
  fun p l e s m args below meth c H locs ad D cI cZ a C hP hS hl => lv_aload_n C.1 C.2.1 hd rfl (ex_lv_get hl hx) (kk p l e s m args below meth c H locs ad D cI cZ a C hP hS hl)
theorem ev_aload {i : Nat} {x : Nat} (hd : decode M.2.1 pc = .ok (.aload i, 2)) (hx : ls[i]? = some (some (.inr x))) (kk : ex_Ev d M (pc + 2) ls (.inr x :: st) w P) : ex_Ev d M pc ls st w P :=
  fun p l e s m args below meth c H locs ad D cI cZ a C hP hS hl => lv_aload C.1 C.2.1 hd (ex_lv_get hl hx) (kk p l e s m args below meth c H locs ad D cI cZ a C hP hS hl)
theorem ev_istore_n {k : Fin 4} {x : Int32} (hd : decode M.2.1 pc = .ok (.istore_n k, 1)) (hn : (k : Nat) < M.2.2.1) (kk : ex_Ev d M (pc + 1) (ls.set (k : Nat) (some (.inl x))) st w P) : ex_Ev d M pc ls (.inl x :: st) w P :=
  fun p l e s m args below meth c H locs ad D cI cZ a C hP hS hl => lv_istore_n C.1 C.2.1 hd rfl hl hn rfl (fun a' hl' => kk p l e s m args below meth c H locs ad D cI cZ a' C hP hS (ex_lv_store (x := .inl x) hl'))
theorem ev_istore {i : Nat} {x : Int32} (hd : decode M.2.1 pc = .ok (.istore i, 2)) (hn : i < M.2.2.1) (kk : ex_Ev d M (pc + 2) (ls.set i (some (.inl x))) st w P) : ex_Ev d M pc ls (.inl x :: st) w P :=
  fun p l e s m args below meth c H locs ad D cI cZ a C hP hS hl => lv_istore C.1 C.2.1 hd hl hn rfl (fun a' hl' => kk p l e s m args below meth c H locs ad D cI cZ a' C hP hS (ex_lv_store (x := .inl x) hl'))
theorem ev_iinc {i : Nat} {n : Int} {x : Int32} (v : Int32) (hd : decode M.2.1 pc = .ok (.iinc i n, 3)) (hx : ls[i]? = some (some (.inl x))) (hv : x + Int32.ofInt n = v) (hn : i < M.2.2.1) (kk : ex_Ev d M (pc + 3) (ls.set i (some (.inl v))) st w P) : ex_Ev d M pc ls st w P := by
  intro p l e s m args below meth c H locs ad D cI cZ a C hP hS hl
  obtain ⟨j, hj⟩ := List.getElem?_of_mem (ex_lv_mem (ad := ad) (q := (i, ex_tr ad (.inl x))).mpr ⟨_, hx, rfl⟩)
  exact lv_iinc C.1 C.2.1 hd hl hj hv hn rfl (fun a' hl' => kk p l e s m args below meth c H locs ad D cI cZ a' C hP hS (ex_lv_store (x := .inl v) hl'))
theorem ev_iadd {x y : Int32} (hd : decode M.2.1 pc = .ok (.iadd, 1)) (k : ex_Ev d M (pc + 1) ls (.inl (x + y) :: st) w P) : ex_Ev d M pc ls (.inl y :: .inl x :: st) w P :=
  fun p l e s m args below meth c H locs ad D cI cZ a C hP hS hl => lv_iadd C.1 C.2.1 hd (k p l e s m args below meth c H locs ad D cI cZ a C hP hS hl)
theorem ev_isub {x y : Int32} (hd : decode M.2.1 pc = .ok (.isub, 1)) (k : ex_Ev d M (pc + 1) ls (.inl (x - y) :: st) w P) : ex_Ev d M pc ls (.inl y :: .inl x :: st) w P :=
  fun p l e s m args below meth c H locs ad D cI cZ a C hP hS hl => lv_isub C.1 C.2.1 hd (k p l e s m args below meth c H locs ad D cI cZ a C hP hS hl)
theorem ev_imul {x y : Int32} (hd : decode M.2.1 pc = .ok (.imul, 1)) (k : ex_Ev d M (pc + 1) ls (.inl (x * y) :: st) w P) : ex_Ev d M pc ls (.inl y :: .inl x :: st) w P :=
  fun p l e s m args below meth c H locs ad D cI cZ a C hP hS hl => lv_imul C.1 C.2.1 hd (k p l e s m args below meth c H locs ad D cI cZ a C hP hS hl)
theorem ev_iand {x y : Int32} (hd : decode M.2.1 pc = .ok (.iand, 1)) (k : ex_Ev d M (pc + 1) ls (.inl (x &&& y) :: st) w P) : ex_Ev d M pc ls (.inl y :: .inl x :: st) w P :=
  fun p l e s m args below meth c H locs ad D cI cZ a C hP hS hl => lv_iand C.1 C.2.1 hd (k p l e s m args below meth c H locs ad D cI cZ a C hP hS hl)
theorem ev_ior {x y : Int32} (hd : decode M.2.1 pc = .ok (.ior, 1)) (k : ex_Ev d M (pc + 1) ls (.inl (x ||| y) :: st) w P) : ex_Ev d M pc ls (.inl y :: .inl x :: st) w P :=
  fun p l e s m args below meth c H locs ad D cI cZ a C hP hS hl => lv_ior C.1 C.2.1 hd (k p l e s m args below meth c H locs ad D cI cZ a C hP hS hl)
theorem ev_ixor {x y : Int32} (hd : decode M.2.1 pc = .ok (.ixor, 1)) (k : ex_Ev d M (pc + 1) ls (.inl (x ^^^ y) :: st) w P) : ex_Ev d M pc ls (.inl y :: .inl x :: st) w P :=
  fun p l e s m args below meth c H locs ad D cI cZ a C hP hS hl => lv_ixor C.1 C.2.1 hd (k p l e s m args below meth c H locs ad D cI cZ a C hP hS hl)
theorem ev_ishl {x y : Int32} (hd : decode M.2.1 pc = .ok (.ishl, 1)) (k : ex_Ev d M (pc + 1) ls (.inl (x <<< (y &&& 31)) :: st) w P) : ex_Ev d M pc ls (.inl y :: .inl x :: st) w P :=
  fun p l e s m args below meth c H locs ad D cI cZ a C hP hS hl => lv_ishl C.1 C.2.1 hd (k p l e s m args below meth c H locs ad D cI cZ a C hP hS hl)
theorem ev_ishr {x y : Int32} (hd : decode M.2.1 pc = .ok (.ishr, 1)) (k : ex_Ev d M (pc + 1) ls (.inl (x >>> (y &&& 31)) :: st) w P) : ex_Ev d M pc ls (.inl y :: .inl x :: st) w P :=
  fun p l e s m args below meth c H locs ad D cI cZ a C hP hS hl => lv_ishr C.1 C.2.1 hd (k p l e s m args below meth c H locs ad D cI cZ a C hP hS hl)
theorem ev_iushr {x y : Int32} (hd : decode M.2.1 pc = .ok (.iushr, 1)) (k : ex_Ev d M (pc + 1) ls (.inl ((x.toUInt32 >>> (y.toUInt32 &&& Int32.toUInt32 31)).toInt32) :: st) w P) : ex_Ev d M pc ls (.inl y :: .inl x :: st) w P :=
  fun p l e s m args below meth c H locs ad D cI cZ a C hP hS hl => lv_iushr C.1 C.2.1 hd rfl (k p l e s m args below meth c H locs ad D cI cZ a C hP hS hl)
theorem ev_ineg {x : Int32} (hd : decode M.2.1 pc = .ok (.ineg, 1)) (k : ex_Ev d M (pc + 1) ls (.inl (0 - x) :: st) w P) : ex_Ev d M pc ls (.inl x :: st) w P :=
  fun p l e s m args below meth c H locs ad D cI cZ a C hP hS hl => lv_ineg C.1 C.2.1 hd (k p l e s m args below meth c H locs ad D cI cZ a C hP hS hl)
theorem ev_idiv {x y : Int32} (hd : decode M.2.1 pc = .ok (.idiv, 1)) (hy : ¬ y = 0) (k : ex_Ev d M (pc + 1) ls (.inl (x / y) :: st) w P) : ex_Ev d M pc ls (.inl y :: .inl x :: st) w P :=
  fun p l e s m args below meth c H locs ad D cI cZ a C hP hS hl => lv_idiv C.1 C.2.1 hd hy (k p l e s m args below meth c H locs ad D cI cZ a C hP hS hl)
theorem ev_irem {x y : Int32} (hd : decode M.2.1 pc = .ok (.irem, 1)) (hy : ¬ y = 0) (k : ex_Ev d M (pc + 1) ls (.inl (x - x / y * y) :: st) w P) : ex_Ev d M pc ls (.inl y :: .inl x :: st) w P :=
  fun p l e s m args below meth c H locs ad D cI cZ a C hP hS hl => lv_irem C.1 C.2.1 hd hy (k p l e s m args below meth c H locs ad D cI cZ a C hP hS hl)
theorem ev_dup {v : ex_AV} (hd : decode M.2.1 pc = .ok (.dup, 1)) (k : ex_Ev d M (pc + 1) ls (v :: v :: st) w P) : ex_Ev d M pc ls (v :: st) w P :=
  fun p l e s m args below meth c H locs ad D cI cZ a C hP hS hl => lv_dup C.1 C.2.1 hd (ex_tr_cat ad v) (k p l e s m args below meth c H locs ad D cI cZ a C hP hS hl)
theorem ev_dup2 {v v2 : ex_AV} (hd : decode M.2.1 pc = .ok (.dup2, 1)) (k : ex_Ev d M (pc + 1) ls (v :: v2 :: v :: v2 :: st) w P) : ex_Ev d M pc ls (v :: v2 :: st) w P :=
  fun p l e s m args below meth c H locs ad D cI cZ a C hP hS hl => lv_dup2_11 C.1 C.2.1 hd (ex_tr_cat ad v) (ex_tr_cat ad v2) (k p l e s m args below meth c H locs ad D cI cZ a C hP hS hl)
theorem ev_dup_x1 {v v2 : ex_AV} (hd : decode M.2.1 pc = .ok (.dup_x1, 1)) (k : ex_Ev d M (pc + 1) ls (v :: v2 :: v :: st) w P) : ex_Ev d M pc ls (v :: v2 :: st) w P :=
  fun p l e s m args below meth c H locs ad D cI cZ a C hP hS hl => lv_dup_x1 C.1 C.2.1 hd (ex_tr_cat ad v) (ex_tr_cat ad v2) (k p l e s m args below meth c H locs ad D cI cZ a C hP hS hl)
theorem ev_pop {v : ex_AV} (hd : decode M.2.1 pc = .ok (.pop, 1)) (k : ex_Ev d M (pc + 1) ls st w P) : ex_Ev d M pc ls (v :: st) w P :=
  fun p l e s m args below meth c H locs ad D cI cZ a C hP hS hl => lv_pop C.1 C.2.1 hd (ex_tr_cat ad v) (k p l e s m args below meth c H locs ad D cI cZ a C hP hS hl)
theorem ev_goto {off : Int} (tgt : Nat) (hd : decode M.2.1 pc = .ok (.goto off, 3)) (ht : (pc : Int) + off = (tgt : Int)) (k : ex_Ev d M tgt ls st w P) : ex_Ev d M pc ls st w P :=
  fun p l e s m args below meth c H locs ad D cI cZ a C hP hS hl => lv_goto C.1 C.2.1 hd ht (k p l e s m args below meth c H locs ad D cI cZ a C hP hS hl)
theorem ev_if_eq {x : Int32} {off : Int} (tgt : Nat) (hd : decode M.2.1 pc = .ok (.ifCond .eq off, 3)) (ht : (pc : Int) + off = (tgt : Int)) (kt : x = 0 → ex_Ev d M tgt ls st w P) (kf : ¬ x = 0 → ex_Ev d M (pc + 3) ls st w P) : ex_Ev d M pc ls (.inl x :: st) w P :=
  fun p l e s m args below meth c H locs ad D cI cZ a C hP hS hl => lv_if_eq C.1 C.2.1 hd ht (fun h => kt h p l e s m args below meth c H locs ad D cI cZ a C hP hS hl) (fun h => kf h p l e s m args below meth c H locs ad D cI cZ a C hP hS hl)
theorem ev_icmp_eq {x y : Int32} {off : Int} (tgt : Nat) (hd : decode M.2.1 pc = .ok (.if_icmp .eq off, 3)) (ht : (pc : Int) + off = (tgt : Int)) (kt : x = y → ex_Ev d M tgt ls st w P) (kf : ¬ x = y → ex_Ev d M (pc + 3) ls st w P) : ex_Ev d M pc ls (.inl y :: .inl x :: st) w P :=
  fun p l e s m args below meth c H locs ad D cI cZ a C hP hS hl => lv_icmp_eq C.1 C.2.1 hd ht (fun h => kt h p l e s m args below meth c H locs ad D cI cZ a C hP hS hl) (fun h => kf h p l e s m args below meth c H locs ad D cI cZ a C hP hS hl)
theorem ev_if_ne {x : Int32} {off : Int} (tgt : Nat) (hd : decode M.2.1 pc = .ok (.ifCond .ne off, 3)) (ht : (pc : Int) + off = (tgt : Int)) (kt : ¬ x = 0 → ex_Ev d M tgt ls st w P) (kf : x = 0 → ex_Ev d M (pc + 3) ls st w P) : ex_Ev d M pc ls (.inl x :: st) w P :=
  fun p l e s m args below meth c H locs ad D cI cZ a C hP hS hl => lv_if_ne C.1 C.2.1 hd ht (fun h => kt h p l e s m args below meth c H locs ad D cI cZ a C hP hS hl) (fun h => kf h p l e s m args below meth c H locs ad D cI cZ a C hP hS hl)
theorem ev_icmp_ne {x y : Int32} {off : Int} (tgt : Nat) (hd : decode M.2.1 pc = .ok (.if_icmp .ne off, 3)) (ht : (pc : Int) + off = (tgt : Int)) (kt : ¬ x = y → ex_Ev d M tgt ls st w P) (kf : x = y → ex_Ev d M (pc + 3) ls st w P) : ex_Ev d M pc ls (.inl y :: .inl x :: st) w P :=
  fun p l e s m args below meth c H locs ad D cI cZ a C hP hS hl => lv_icmp_ne C.1 C.2.1 hd ht (fun h => kt h p l e s m args below meth c H locs ad D cI cZ a C hP hS hl) (fun h => kf h p l e s m args below meth c H locs ad D cI cZ a C hP hS hl)
theorem ev_if_lt {x : Int32} {off : Int} (tgt : Nat) (hd : decode M.2.1 pc = .ok (.ifCond .lt off, 3)) (ht : (pc : Int) + off = (tgt : Int)) (kt : x < 0 → ex_Ev d M tgt ls st w P) (kf : ¬ x < 0 → ex_Ev d M (pc + 3) ls st w P) : ex_Ev d M pc ls (.inl x :: st) w P :=
  fun p l e s m args below meth c H locs ad D cI cZ a C hP hS hl => lv_if_lt C.1 C.2.1 hd ht (fun h => kt h p l e s m args below meth c H locs ad D cI cZ a C hP hS hl) (fun h => kf h p l e s m args below meth c H locs ad D cI cZ a C hP hS hl)
theorem ev_icmp_lt {x y : Int32} {off : Int} (tgt : Nat) (hd : decode M.2.1 pc = .ok (.if_icmp .lt off, 3)) (ht : (pc : Int) + off = (tgt : Int)) (kt : x < y → ex_Ev d M tgt ls st w P) (kf : ¬ x < y → ex_Ev d M (pc + 3) ls st w P) : ex_Ev d M pc ls (.inl y :: .inl x :: st) w P :=
  fun p l e s m args below meth c H locs ad D cI cZ a C hP hS hl => lv_icmp_lt C.1 C.2.1 hd ht (fun h => kt h p l e s m args below meth c H locs ad D cI cZ a C hP hS hl) (fun h => kf h p l e s m args below meth c H locs ad D cI cZ a C hP hS hl)
theorem ev_if_ge {x : Int32} {off : Int} (tgt : Nat) (hd : decode M.2.1 pc = .ok (.ifCond .ge off, 3)) (ht : (pc : Int) + off = (tgt : Int)) (kt : 0 ≤ x → ex_Ev d M tgt ls st w P) (kf : ¬ 0 ≤ x → ex_Ev d M (pc + 3) ls st w P) : ex_Ev d M pc ls (.inl x :: st) w P :=
  fun p l e s m args below meth c H locs ad D cI cZ a C hP hS hl => lv_if_ge C.1 C.2.1 hd ht (fun h => kt h p l e s m args below meth c H locs ad D cI cZ a C hP hS hl) (fun h => kf h p l e s m args below meth c H locs ad D cI cZ a C hP hS hl)
theorem ev_icmp_ge {x y : Int32} {off : Int} (tgt : Nat) (hd : decode M.2.1 pc = .ok (.if_icmp .ge off, 3)) (ht : (pc : Int) + off = (tgt : Int)) (kt : y ≤ x → ex_Ev d M tgt ls st w P) (kf : ¬ y ≤ x → ex_Ev d M (pc + 3) ls st w P) : ex_Ev d M pc ls (.inl y :: .inl x :: st) w P :=
  fun p l e s m args below meth c H locs ad D cI cZ a C hP hS hl => lv_icmp_ge C.1 C.2.1 hd ht (fun h => kt h p l e s m args below meth c H locs ad D cI cZ a C hP hS hl) (fun h => kf h p l e s m args below meth c H locs ad D cI cZ a C hP hS hl)
theorem ev_if_gt {x : Int32} {off : Int} (tgt : Nat) (hd : decode M.2.1 pc = .ok (.ifCond .gt off, 3)) (ht : (pc : Int) + off = (tgt : Int)) (kt : 0 < x → ex_Ev d M tgt ls st w P) (kf : ¬ 0 < x → ex_Ev d M (pc + 3) ls st w P) : ex_Ev d M pc ls (.inl x :: st) w P :=
  fun p l e s m args below meth c H locs ad D cI cZ a C hP hS hl => lv_if_gt C.1 C.2.1 hd ht (fun h => kt h p l e s m args below meth c H locs ad D cI cZ a C hP hS hl) (fun h => kf h p l e s m args below meth c H locs ad D cI cZ a C hP hS hl)
theorem ev_icmp_gt {x y : Int32} {off : Int} (tgt : Nat) (hd : decode M.2.1 pc = .ok (.if_icmp .gt off, 3)) (ht : (pc : Int) + off = (tgt : Int)) (kt : y < x → ex_Ev d M tgt ls st w P) (kf : ¬ y < x → ex_Ev d M (pc + 3) ls st w P) : ex_Ev d M pc ls (.inl y :: .inl x :: st) w P :=
  fun p l e s m args below meth c H locs ad D cI cZ a C hP hS hl => lv_icmp_gt C.1 C.2.1 hd ht (fun h => kt h p l e s m args below meth c H locs ad D cI cZ a C hP hS hl) (fun h => kf h p l e s m args below meth c H locs ad D cI cZ a C hP hS hl)
theorem ev_if_le {x : Int32} {off : Int} (tgt : Nat) (hd : decode M.2.1 pc = .ok (.ifCond .le off, 3)) (ht : (pc : Int) + off = (tgt : Int)) (kt : x ≤ 0 → ex_Ev d M tgt ls st w P) (kf : ¬ x ≤ 0 → ex_Ev d M (pc + 3) ls st w P) : ex_Ev d M pc ls (.inl x :: st) w P :=
  fun p l e s m args below meth c H locs ad D cI cZ a C hP hS hl => lv_if_le C.1 C.2.1 hd ht (fun h => kt h p l e s m args below meth c H locs ad D cI cZ a C hP hS hl) (fun h => kf h p l e s m args below meth c H locs ad D cI cZ a C hP hS hl)
theorem ev_icmp_le {x y : Int32} {off : Int} (tgt : Nat) (hd : decode M.2.1 pc = .ok (.if_icmp .le off, 3)) (ht : (pc : Int) + off = (tgt : Int)) (kt : x ≤ y → ex_Ev d M tgt ls st w P) (kf : ¬ x ≤ y → ex_Ev d M (pc + 3) ls st w P) : ex_Ev d M pc ls (.inl y :: .inl x :: st) w P :=
  fun p l e s m args below meth c H locs ad D cI cZ a C hP hS hl => lv_icmp_le C.1 C.2.1 hd ht (fun h => kt h p l e s m args below meth c H locs ad D cI cZ a C hP hS hl) (fun h => kf h p l e s m args below meth c H locs ad D cI cZ a C hP hS hl)
-- fields
def ex_FO (M : ex_MD) (i ci k : Nat) : Prop := ∃ (C : String) (T : u_T) (N : Nat), ex_cl[ci]? = some (C, T, N) ∧ ex_nf ci = N ∧ k < N ∧ (∀ q ∈ u_ws C T N, q ∈ ex_T) ∧ Cond.fieldLink M.1.cls i (T k).1 (T k).2.1 (T k).2.2.1 ∈ ex_T
theorem ev_getR {i ci k c j : Nat} (hd : decode M.2.1 pc = .ok (.getfield i, 3)) (hf : ex_FO M i ci k) (hc : c < 42) (hk : ex_kind c = .inl ci) (hr : ex_rf c k = some j) (kk : ex_Ev d M (pc + 3) ls (.inr j :: st) w P) : ex_Ev d M pc ls (.inr c :: st) w P := by
  intro p l e s m args below meth co H locs ad D cI cZ a C hP hS hl
  obtain ⟨Cn, T, N, h1, h2, h3, h4, h5⟩ := hf
  have he := ex_cells_at ad cI cZ w hc
  rw [ex_ent_obj _ hk] at he
  exact va_get (v := .ref (ad j)) C.1 C.2.1 (Ts := ex_ws M) C.2.2.2.2.2.2.1 (fun q hq => List.mem_cons_of_mem _ (h4 q hq)) C.2.2.2.2.2.1 C.2.2.2.2.2.2.2.1.1 hP c he h1 k h3 (C.2.2.2.2.2.2.1 _ (List.mem_cons_of_mem _ h5)) (fun _ h => h) (by rw [h2]; simp [List.getElem?_map, List.getElem?_range h3, ex_fv, hr]) hd (kk p l e s m args below meth co H locs ad D cI cZ a C hP hS hl)
theorem ev_getI {i ci k c : Nat} (hd : decode M.2.1 pc = .ok (.getfield i, 3)) (hf : ex_FO M i ci k) (hc : c < 42) (hk : ex_kind c = .inl ci) (hr : ex_rf c k = none) (kk : ex_Ev d M (pc + 3) ls (.inl (w c k) :: st) w P) : ex_Ev d M pc ls (.inr c :: st) w P := by
  intro p l e s m args below meth co H locs ad D cI cZ a C hP hS hl
  obtain ⟨Cn, T, N, h1, h2, h3, h4, h5⟩ := hf
  have he := ex_cells_at ad cI cZ w hc
  rw [ex_ent_obj _ hk] at he
  exact va_get (v := .int (w c k)) C.1 C.2.1 (Ts := ex_ws M) C.2.2.2.2.2.2.1 (fun q hq => List.mem_cons_of_mem _ (h4 q hq)) C.2.2.2.2.2.1 C.2.2.2.2.2.2.2.1.1 hP c he h1 k h3 (C.2.2.2.2.2.2.1 _ (List.mem_cons_of_mem _ h5)) (fun _ h => h) (by rw [h2]; simp [List.getElem?_map, List.getElem?_range h3, ex_fv, hr]) hd (kk p l e s m args below meth co H locs ad D cI cZ a C hP hS hl)
def ex_FP (ci k : Nat) (ty : FieldType) : Prop := ∃ (C : String) (T : u_T) (N : Nat), ex_cl[ci]? = some (C, T, N) ∧ (T k).2.2.2 = false ∧ parseFieldDescriptor (T k).2.2.1 = some ty ∧ (∃ ty0 : Nat → FieldType, ∀ k, k < N → parseFieldDescriptor (T k).2.2.1 = some (ty0 k)) ∧ (∀ a, a < N → ∀ b, b < N → a ≠ b → (T a).2.1 ≠ (T b).2.1)
theorem ev_put {i ci k c : Nat} {ty : FieldType} {x : Int32} (hd : decode M.2.1 pc = .ok (.putfield i, 3)) (hf : ex_FO M i ci k) (hg : ex_FP ci k ty) (hc : c < 42) (hk : ex_kind c = .inl ci) (hr : ex_rf c k = none) (hn : narrow ty (.int x) = .int x) (hfit : fits ty (.int x) = true) (kk : ex_Ev d M (pc + 3) ls st (ex_up w c k x) P) : ex_Ev d M pc ls (.inl x :: .inr c :: st) w P := by
  intro p l e s m args below meth co H locs ad D cI cZ a C hP hS hl
  obtain ⟨Cn, T, N, h1, h2, h3, h4, h5⟩ := hf
  obtain ⟨Cn', T', N', g1, g2, g3, ⟨ty0, g4⟩, g5⟩ := hg
  cases h1.symm.trans g1
  have he := ex_cells_at ad cI cZ w hc
  rw [ex_ent_obj _ hk] at he
  refine va_put (v := .int x) C.1 C.2.1 (Ts := ex_ws M) C.2.2.2.2.2.2.1 (fun q hq => List.mem_cons_of_mem _ (h4 q hq)) ty0 g4 g5 C.2.2.2.2.2.1 C.2.2.2.2.2.2.2.1.1 hP (ex_cells_D C.2.2.2.2.2.2.2.2) hS c he h1 k h3 (C.2.2.2.2.2.2.1 _ (List.mem_cons_of_mem _ h5)) (fun _ h => h) g2 g3 hn hfit (by rw [h2]; simpa using h3) hd (fun H1 locs1 hP1 hD1 hS1 => ?_)
  rw [ex_fs_set _ _ hr, ← ex_ent_obj _ hk, ex_cells_set _ _ _ _ hc] at hP1
  exact kk p l e s m args below meth co H1 locs1 ad D cI cZ a C hP1 hS1 hl
-- arrays
theorem ev_iald {c n : Nat} {i : Int32} (hd : decode M.2.1 pc = .ok (.iaload, 1)) (hc : c < 42) (hk : ex_kind c = .inr (n, false)) (hin : vp_in i n) (kk : ex_Ev d M (pc + 1) ls (.inl (w c i.toNatClampNeg) :: st) w P) : ex_Ev d M pc ls (.inl i :: .inr c :: st) w P := by
  intro p l e s m args below meth co H locs ad D cI cZ a C hP hS hl
  have he := ex_cells_at ad cI cZ w hc
  rw [ex_ent_arr _ hk] at he
  exact va_iald C.1 C.2.1 C.2.2.2.2.2.2.2.1.1 hP c 0 he rfl hin hd (kk p l e s m args below meth co H locs ad D cI cZ a C hP hS hl)
theorem ev_zald {c n : Nat} {i : Int32} (hd : decode M.2.1 pc = .ok (.baload, 1)) (hc : c < 42) (hk : ex_kind c = .inr (n, true)) (hin : vp_in i n) (kk : ex_Ev d M (pc + 1) ls (.inl (w c i.toNatClampNeg) :: st) w P) : ex_Ev d M pc ls (.inl i :: .inr c :: st) w P := by
  intro p l e s m args below meth co H locs ad D cI cZ a C hP hS hl
  have he := ex_cells_at ad cI cZ w hc
  rw [ex_ent_arr _ hk] at he
  exact va_zald C.1 C.2.1 C.2.2.2.2.2.2.2.1.1 hP c 1 he rfl hin hd (kk p l e s m args below meth co H locs ad D cI cZ a C hP hS hl)
theorem ev_iast {c n : Nat} {i x : Int32} (hd : decode M.2.1 pc = .ok (.iastore, 1)) (hc : c < 42) (hk : ex_kind c = .inr (n, false)) (hin : vp_in i n) (kk : ex_Ev d M (pc + 1) ls st (ex_up w c i.toNatClampNeg x) P) : ex_Ev d M pc ls (.inl x :: .inl i :: .inr c :: st) w P := by
  intro p l e s m args below meth co H locs ad D cI cZ a C hP hS hl
  have he := ex_cells_at ad cI cZ w hc
  rw [ex_ent_arr _ hk] at he
  refine va_iast C.1 C.2.1 C.2.2.2.2.2.2.2.1.1 hP (ex_cells_D C.2.2.2.2.2.2.2.2) hS c 0 he rfl hin hd (fun H1 locs1 hP1 hD1 hS1 => ?_)
  rw [← ex_ent_arr (ad := ad) (cI := cI) (cZ := cZ) _ hk, ex_cells_set _ _ _ _ hc] at hP1
  exact kk p l e s m args below meth co H1 locs1 ad D cI cZ a C hP1 hS1 hl
theorem ev_zast {c n : Nat} {i x : Int32} (hd : decode M.2.1 pc = .ok (.bastore, 1)) (hc : c < 42) (hk : ex_kind c = .inr (n, true)) (hin : vp_in i n) (hx : x = 0 ∨ x = 1) (kk : ex_Ev d M (pc + 1) ls st (ex_up w c i.toNatClampNeg x) P) : ex_Ev d M pc ls (.inl x :: .inl i :: .inr c :: st) w P := by
  intro p l e s m args below meth co H locs ad D cI cZ a C hP hS hl
  have he := ex_cells_at ad cI cZ w hc
  rw [ex_ent_arr _ hk] at he
  have hx2 : vp_nar .boolean x = x := by rcases hx with rfl | rfl <;> rfl
  refine va_zast C.1 C.2.1 C.2.2.2.2.2.2.2.1.1 hP (ex_cells_D C.2.2.2.2.2.2.2.2) hS c 1 he rfl hin hd (fun H1 locs1 hP1 hD1 hS1 => ?_)
  rw [hx2, ← ex_ent_arr (ad := ad) (cI := cI) (cZ := cZ) _ hk, ex_cells_set _ _ _ _ hc] at hP1
  exact kk p l e s m args below meth co H1 locs1 ad D cI cZ a C hP1 hS1 hl
-- the answers
theorem ev_iret {v : Int32} (hd : decode M.2.1 pc = .ok (.ireturn, 1)) (hr : M.2.2.2 = some .int) (h : P v w) : ex_Ev d M pc ls [.inl v] w P := by
  intro p l e s m args below meth c H locs ad D cI cZ a C hP hS hl
  refine W.iret (v := v) C.1 C.2.1 (C.2.2.2.1.trans hr) (fun t ht hW => ?_) hS.2.2 hd C.2.2.2.2.1
  unfold ex_Q
  rw [hr]
  exact ⟨⟨v, w, rfl, h, by unfold ex_B; rw [ht]; exact hP⟩, hS.F ht⟩
theorem ev_zret {v : Int32} (hd : decode M.2.1 pc = .ok (.ireturn, 1)) (hr : M.2.2.2 = some .boolean) (hv : v = 0 ∨ v = 1) (h : P v w) : ex_Ev d M pc ls [.inl v] w P := by
  intro p l e s m args below meth c H locs ad D cI cZ a C hP hS hl
  refine W.zret (v := v) C.1 C.2.1 (C.2.2.2.1.trans hr) (by rcases hv with rfl | rfl <;> rfl) (fun t ht hW => ?_) hS.2.2 hd C.2.2.2.2.1
  unfold ex_Q
  rw [hr]
  exact ⟨⟨v, w, rfl, h, by unfold ex_B; rw [ht]; exact hP⟩, hS.F ht⟩
theorem ev_vret (hd : decode M.2.1 pc = .ok (.return_, 1)) (hr : M.2.2.2 = none) (h : P 0 w) : ex_Ev d M pc ls [] w P := by
  intro p l e s m args below meth c H locs ad D cI cZ a C hP hS hl
  refine W.vret C.1 C.2.1 (C.2.2.2.1.trans hr) (fun t ht hW => ?_) hS.2.2 hd C.2.2.2.2.1
  unfold ex_Q
  rw [hr]
  exact ⟨⟨w, rfl, h, by unfold ex_B; rw [ht]; exact hP⟩, hS.F ht⟩
end EVR
end
section
-- calls: a method's walk is its contract
def ex_in (As : List ex_AV) (n : Nat) : List (Option ex_AV) := As.map some ++ List.replicate (n - As.length) none
theorem ex_sl (ad : Nat → Nat) (As : List ex_AV) : lg_sl (As.map (ex_tr ad)) = As.map (fun x => Slot.val (ex_tr ad x)) := by
  induction As with
  | nil => rfl
  | cons x r ih =>
    unfold lg_sl at ih ⊢
    rw [List.map_cons, List.flatMap_cons, ih, ex_tr_cat]
    rfl
theorem ex_args (ad : Nat → Nat) (As : List ex_AV) : ∀ (i j : Nat) (x : ex_AV), As[j]? = some x → (i + j, ex_tr ad x) ∈ lv_args i (As.map (ex_tr ad)) := by
  induction As with
  | nil => intro i j x h; simp at h
  | cons y r ih =>
    intro i j x h
    rw [List.map_cons]
    unfold lv_args
    rw [ex_tr_cat]
    cases j with
    | zero =>
      simp at h
      subst h
      exact List.mem_cons_self
    | succ j =>
      simp at h
      have := ih (i + 1) j x h
      refine List.mem_cons_of_mem _ ?_
      simpa [Nat.add_assoc, Nat.add_comm 1 j] using this
theorem ex_entry (ad : Nat → Nat) (As : List ex_AV) {n : Nat} (h : As.length ≤ n) : lv_has ((lg_sl (As.map (ex_tr ad)) ++ List.replicate (n - (lg_sl (As.map (ex_tr ad))).length) Slot.unset).toArray) n (ex_lv ad (ex_in As n)) := by
  have h0 := lv_entry (As.map (ex_tr ad)) (n := n) (by rw [ex_sl]; simpa using h)
  refine ⟨h0.1, h0.2.1, fun q hq => ?_⟩
  obtain ⟨x, hx, he⟩ := ex_lv_mem.mp hq
  obtain ⟨j, v⟩ := q
  simp only at hx he
  subst he
  unfold ex_in at hx
  have hA : As[j]? = some x := by
    by_cases hj : j < As.length
    · rw [List.getElem?_append_left (by simpa using hj)] at hx
      simpa using hx
    · rw [List.getElem?_append_right (by simpa using Nat.le_of_not_lt hj)] at hx
      have := List.mem_of_getElem? hx
      simp at this
  have := ex_args ad As 0 j x hA
  rw [Nat.zero_add] at this
  exact h0.2.2 _ this
def ex_Pc (ad : Nat → Nat) (D : va_G) (cI cZ : ClassId) (w : ex_WW) (As : List ex_AV) : Array Value → State → Prop := va_Pc (As.map (ex_tr ad)) (fun U => va_P D ex_cl (ex_cells ad cI cZ w) U.heap ∧ ex_K D cI cZ U)
theorem ex_met {l : Launch} {d : Nat} {M : ex_MD} {As : List ex_AV} {w : ex_WW} {P : Int32 → ex_WW → Prop} {ad : Nat → Nat} {D : va_G} {cI cZ : ClassId} (hp : plainFor M.1 = true) (hn : As.length ≤ M.2.2.1) (hi : ex_inj ad) (h : ex_Ev d M 0 (ex_in As M.2.2.1) [] w P) :
    Met l M.1 (ex_ws M) (ex_room d) (ex_Pc ad D cI cZ w As) (ex_Q M ad D cI cZ P) 0 0 (ex_A ad) := by
  refine MetFree.of_bodySF (code := M.2.1) (maxLocals := M.2.2.1) (ret := M.2.2.2) hp ?_ ?_
  · intro args s m h hn
    obtain ⟨meth, c, h1, h2, h3, h4, h5, h6, -, -⟩ := Cond.code_spec hn (atoms_spec (ws := ex_ws M) h _ List.mem_cons_self)
    exact ⟨meth, c, h1, h2, h3, h4, h5, h6⟩
  · intro p e s m args below meth c s₁ B hml hv _
    have hh0 : s₁.heap = s.heap := by rw [B.state]; rfl
    obtain ⟨rfl, hP, hK⟩ := hv
    have key := h p l e s m _ below meth c s.heap [] ad D cI cZ _ ⟨B.exec, B.bytes, hml, B.returns, B.notSynchronized, findClass_of_methodNamed B.named, atoms_spec (ws := ex_ws M) B.pre, hK, hi⟩ hP va_S.rf (ex_entry ad As hn)
    obtain ⟨t, a1, o, b1, b2, b3⟩ := key s₁ hh0 (Stand.of_body B)
    rw [lg_entry_eq]
    exact ⟨t, o, a1, b1, b2, ⟨b3.1, b3.2⟩⟩
theorem ex_blind {ad : Nat → Nat} {D : va_G} {cI cZ : ClassId} {w : ex_WW} {As : List ex_AV} : FrameBlind (ex_Pc ad D cI cZ w As) := by
  intro a U g mk q
  obtain ⟨q0, qP, qK, qN⟩ := q
  exact ⟨q0, qP, va_K.moved (u := U) (U := U.calling g mk a) (Vm.Alike.refl U.vm) qK, va_Nw.same rfl rfl qN⟩
/-- what a call needs of the tables -/
def ex_CO (M' : ex_MD) (n : Nat) : Prop := plainFor M'.1 = true ∧ Cond.initialized M'.1.cls ∈ ex_T ∧ Cond.code M'.1 M'.2.1 M'.2.2.1 M'.2.2.2 ∈ ex_T ∧ (M'.1.cls ≠ "java/lang/invoke/MethodHandle" ∧ M'.1.cls ≠ "java/lang/invoke/VarHandle" ∧ (parseMethodDescriptor M'.1.desc).map (fun d => d.parameters.length) = some n) ∧ M'.2.2.1 ≤ 41
theorem ex_cats (ad : Nat → Nat) (st : List ex_AV) : ((st.map (ex_tr ad)).map fun v => v.category).sum = st.length := by
  induction st with
  | nil => rfl
  | cons x r ih =>
    rw [List.map_cons, List.map_cons, List.sum_cons, ih, ex_tr_cat, List.length_cons]
    omega
theorem ex_callB {d n i : Nat} {s : State} {args : Array Value} {M M' : ex_MD} (hts : ∀ w ∈ ex_ws M, w.before args s = true) (hc : ex_CO M' n) (hl : Cond.methodLink M.1.cls i M'.1 ∈ ex_T) : CallB (ex_room (d + 1)) s args M.1.cls i M'.1 M'.2.1 M'.2.2.1 M'.2.2.2 (ex_ws M') (ex_room d) 0 0 n := by
  obtain ⟨h1, h2, h3, h4, h5⟩ := hc
  refine callB_of (Ts := ex_ws M) n hts (ex_ws_in (fun w h => List.mem_cons_of_mem _ h) h3) rfl rfl rfl (hts _ (List.mem_cons_of_mem _ h2)) (hts _ (List.mem_cons_of_mem _ hl)) h4 ⟨Nat.le_refl _, ?_⟩
  show 8 + (M'.2.2.1 + 11) + 60 * d ≤ 60 * (d + 1)
  omega
theorem ex_preS {ad : Nat → Nat} {D : va_G} {cI cZ : ClassId} {w : ex_WW} {As : List ex_AV} {s : State} {H : Heap} (hP : va_P D ex_cl (ex_cells ad cI cZ w) H) (hK : ex_K D cI cZ s) : PreS s H (ex_Pc ad D cI cZ w As) (As.map (ex_tr ad)) :=
  ⟨ex_blind, fun U hU hW => ⟨rfl, by rw [hU]; exact hP, hK.moved hW⟩⟩
section EVC
variable {d : Nat} {M M' : ex_MD} {pc n i : Nat} {ls : List (Option ex_AV)} {st : List ex_AV} {w : ex_WW} {P P' : Int32 → ex_WW → Prop}
theorem ex_goI {p : Program} {l : Launch} {e : Env} {s : State} {m : MethodId} {args : Array Value} {below : List Frame} {meth : Method} {c : Code} {H : Heap} {locs : List Loc} {ad : Nat → Nat} {D : va_G} {cI cZ : ClassId} {a : Array Slot} {st0 : List Value} {ty : FieldType} {av : Array Value} (hr : M'.2.2.2 = some ty)
    (C : ex_C M p s m args meth c ad D cI cZ) (hS : va_S (ex_A ad) s.heap H locs) (hl : lv_has a M.2.2.1 (ex_lv ad ls))
    (hR : va_Run p l e (ex_room d) s m args below meth c H locs 0 0 0 0 (F0 m pc a st0) (st.map (ex_tr ad)) (ex_Q M' ad D cI cZ P' av) (ex_A ad)) (k : ∀ r u, P' r u → ex_Ev d M (pc + 3) ls (.inl r :: st) u P) :
    W p l e (ex_room d) s m args below meth c H locs 0 0 (MQ below (ex_Q M ad D cI cZ P) args s 0 0 (ex_A ad)) (F0 m pc a st0) := by
  have hQ : ex_Q M' ad D cI cZ P' = va_Qi P' (ex_B ad D cI cZ) (ex_A ad) := by unfold ex_Q; rw [hr]
  rw [hQ] at hR
  refine va_calli hR hS (fun _ _ h => h) (fun _ h => h) (fun r u t H1 locs1 ht hvm hp hB hz hk hS1 => ?_)
  unfold ex_B at hB
  rw [ht] at hB
  exact k r u hp p l e s m args below meth c H1 locs1 ad D cI cZ a C hB hS1 hl
theorem ex_goV {p : Program} {l : Launch} {e : Env} {s : State} {m : MethodId} {args : Array Value} {below : List Frame} {meth : Method} {c : Code} {H : Heap} {locs : List Loc} {ad : Nat → Nat} {D : va_G} {cI cZ : ClassId} {a : Array Slot} {st0 : List Value} {av : Array Value} (hr : M'.2.2.2 = none)
    (C : ex_C M p s m args meth c ad D cI cZ) (hS : va_S (ex_A ad) s.heap H locs) (hl : lv_has a M.2.2.1 (ex_lv ad ls))
    (hR : va_Run p l e (ex_room d) s m args below meth c H locs 0 0 0 0 (F0 m pc a st0) (st.map (ex_tr ad)) (ex_Q M' ad D cI cZ P' av) (ex_A ad)) (k : ∀ u, P' 0 u → ex_Ev d M (pc + 3) ls st u P) :
    W p l e (ex_room d) s m args below meth c H locs 0 0 (MQ below (ex_Q M ad D cI cZ P) args s 0 0 (ex_A ad)) (F0 m pc a st0) := by
  have hQ : ex_Q M' ad D cI cZ P' = va_Qv (fun u => P' 0 u) (ex_B ad D cI cZ) (ex_A ad) := by unfold ex_Q; rw [hr]
  rw [hQ] at hR
  refine va_callv hR hS (fun _ _ h => h) (fun _ h => h) (fun u t H1 locs1 ht hvm hp hB hz hk hS1 => ?_)
  unfold ex_B at hB
  rw [ht] at hB
  exact k u hp p l e s m args below meth c H1 locs1 ad D cI cZ a C hB hS1 hl
theorem ex_runS {As : List ex_AV} {p : Program} {l : Launch} {e : Env} {s : State} {m : MethodId} {args : Array Value} {below : List Frame} {meth : Method} {c : Code} {H : Heap} {locs : List Loc} {ad : Nat → Nat} {D : va_G} {cI cZ : ClassId} {a : Array Slot}
    (hd : decode M.2.1 pc = .ok (.invokestatic i, 3)) (hc : ex_CO M' n) (hl : Cond.methodLink M.1.cls i M'.1 ∈ ex_T) (hs : Cond.static M'.1 ∈ ex_T) (hn : As.length = n) (hm : n ≤ M'.2.2.1) (hst : st.length ≤ 8)
    (C : ex_C M p s m args meth c ad D cI cZ) (hP : va_P D ex_cl (ex_cells ad cI cZ w) H) (hlv : lv_has a M.2.2.1 (ex_lv ad ls)) (h : ex_Ev d M' 0 (ex_in As M'.2.2.1) [] w P') :
    va_Run p l e (ex_room (d + 1)) s m args below meth c H locs 0 0 0 0 (F0 m pc a ((As.reverse ++ st).map (ex_tr ad))) (st.map (ex_tr ad)) (ex_Q M' ad D cI cZ P' (As.map (ex_tr ad)).toArray) (ex_A ad) := by
  obtain ⟨hx, hb, hml, hr, hlk, hown, hts, hK, hi⟩ := C
  refine va_runS (As := As.map (ex_tr ad)) (Ts := ex_ws M) ⟨hx, hb, hml, hown, hts⟩ (ex_met hc.1 (by omega) hi h) ⟨ex_callB (n := n) hts hc hl, hts _ (List.mem_cons_of_mem _ hs)⟩ (ex_preS hP hK) rfl (by simpa using hn) hlv.1 ?_ (lv_room (by rw [ex_cats]; exact hst)) hd ⟨Nat.le_refl _, Nat.le_refl _⟩
  show (As.reverse ++ st).map (ex_tr ad) = _
  simp
theorem ex_runSN {As : List ex_AV} {p : Program} {l : Launch} {e : Env} {s : State} {m : MethodId} {args : Array Value} {below : List Frame} {meth : Method} {c : Code} {H : Heap} {locs : List Loc} {ad : Nat → Nat} {D : va_G} {cI cZ : ClassId} {a : Array Slot}
    (hd : decode M.2.1 pc = .ok (.invokestatic i, 3)) (hc : ex_CO M' n) (hl : M.1.cls = RX4 ∧ i = 24 ∧ M'.1 = yX6_isWithin) (hs : Cond.static M'.1 ∈ ex_T) (hn : As.length = n) (hm : n ≤ M'.2.2.1) (hst : st.length ≤ 8)
    (C : ex_C M p s m args meth c ad D cI cZ) (hP : va_P D ex_cl (ex_cells ad cI cZ w) H) (hlv : lv_has a M.2.2.1 (ex_lv ad ls)) (h : ex_Ev d M' 0 (ex_in As M'.2.2.1) [] w P') :
    va_Run p l e (ex_room (d + 1)) s m args below meth c H locs 0 0 0 0 (F0 m pc a ((As.reverse ++ st).map (ex_tr ad))) (st.map (ex_tr ad)) (ex_Q M' ad D cI cZ P' (As.map (ex_tr ad)).toArray) (ex_A ad) := by
  obtain ⟨hx, hb, hml, hr, hlk, hown, hts, hK, hi⟩ := C
  have hcn : va_CN (ex_room (d + 1)) s args M.1.cls i M'.1 RX6 M'.2.1 M'.2.2.1 M'.2.2.2 (ex_ws M') (ex_room d) 0 0 n := by
    obtain ⟨h1, h2, h3, h4, h5⟩ := hc
    refine va_cnB (Ts := ex_ws M) n hts (ex_ws_in (fun w h => List.mem_cons_of_mem _ h) h3) rfl rfl rfl ?_ (hts _ (List.mem_cons_of_mem _ h2)) h4 ⟨Nat.le_refl _, ?_⟩
    · rw [hl.1, hl.2.1, hl.2.2]
      exact hK.2
    · show 8 + (M'.2.2.1 + 11) + 60 * d ≤ 60 * (d + 1)
      omega
  refine va_runSN (As := As.map (ex_tr ad)) (Ts := ex_ws M) ⟨hx, hb, hml, hown, hts⟩ (ex_met hc.1 (by omega) hi h) ⟨hcn, hts _ (List.mem_cons_of_mem _ hs), trivial⟩ (ex_preS hP hK) rfl (by simpa using hn) hlv.1 ?_ (lv_room (by rw [ex_cats]; exact hst)) hd ⟨Nat.le_refl _, Nat.le_refl _⟩
  show (As.reverse ++ st).map (ex_tr ad) = _
  simp
def ex_CV (C : String) (y : MethodName) : Prop := Cond.instanceMethod y ∈ ex_T ∧ Cond.selects C y y ∈ ex_T
theorem ex_runV {As : List ex_AV} {b ci : Nat} {p : Program} {l : Launch} {e : Env} {s : State} {m : MethodId} {args : Array Value} {below : List Frame} {meth : Method} {c : Code} {H : Heap} {locs : List Loc} {ad : Nat → Nat} {D : va_G} {cI cZ : ClassId} {a : Array Slot}
    (hd : decode M.2.1 pc = .ok (.invokevirtual i, 3)) (hc : ex_CO M' n) (hl : Cond.methodLink M.1.cls i M'.1 ∈ ex_T) (hv : ex_CV M'.1.cls M'.1) (hbc : b < 42) (hbk : ex_kind b = .inl ci) (hcl : (ex_cl[ci]?).map (fun q => q.1) = some M'.1.cls) (hn : As.length = n) (hm : n + 1 ≤ M'.2.2.1) (hst : st.length ≤ 8)
    (C : ex_C M p s m args meth c ad D cI cZ) (hP : va_P D ex_cl (ex_cells ad cI cZ w) H) (hlv : lv_has a M.2.2.1 (ex_lv ad ls)) (h : ex_Ev d M' 0 (ex_in (.inr b :: As) M'.2.2.1) [] w P') :
    va_Run p l e (ex_room (d + 1)) s m args below meth c H locs 0 0 0 0 (F0 m pc a ((As.reverse ++ .inr b :: st).map (ex_tr ad))) (st.map (ex_tr ad)) (ex_Q M' ad D cI cZ P' ((.inr b :: As : List ex_AV).map (ex_tr ad)).toArray) (ex_A ad) := by
  obtain ⟨hx, hb, hml, hr, hlk, hown, hts, hK, hi⟩ := C
  have he := ex_cells_at ad cI cZ w hbc
  rw [ex_ent_obj _ hbk] at he
  obtain ⟨q, hq, hq1⟩ := Option.map_eq_some_iff.mp hcl
  have hrec := va_recv hK.1 hP hq he
  rw [hq1] at hrec
  refine va_runV (As := As.map (ex_tr ad)) (b := ad b) (C := M'.1.cls) (Ts := ex_ws M) ⟨hx, hb, hml, hown, hts⟩ (ex_met (As := .inr b :: As) hc.1 (by simp; omega) hi h) ⟨ex_callB (n := n) hts hc hl, hts _ (List.mem_cons_of_mem _ hv.1), hts _ (List.mem_cons_of_mem _ hv.2)⟩ ⟨ex_blind, hrec, fun U hU hW => ⟨rfl, by rw [hU]; exact hP, hK.moved hW⟩⟩ rfl (by simpa using hn) hlv.1 ?_ (lv_room (by rw [ex_cats]; exact hst)) hd ⟨Nat.le_refl _, Nat.le_refl _⟩
  show (As.reverse ++ .inr b :: st).map (ex_tr ad) = _
  simp [ex_tr]
/-- the calls, an answer that is a number -/
theorem ev_callS {ty : FieldType} (As : List ex_AV) {st0 : List ex_AV} (hd : decode M.2.1 pc = .ok (.invokestatic i, 3)) (hc : ex_CO M' n) (hl : Cond.methodLink M.1.cls i M'.1 ∈ ex_T) (hs : Cond.static M'.1 ∈ ex_T) (hr : M'.2.2.2 = some ty) (hn : As.length = n) (hm : n ≤ M'.2.2.1) (hst : st.length ≤ 8) (h0 : st0 = As.reverse ++ st)
    (h : ex_Ev d M' 0 (ex_in As M'.2.2.1) [] w P') (k : ∀ r u, P' r u → ex_Ev (d + 1) M (pc + 3) ls (.inl r :: st) u P) : ex_Ev (d + 1) M pc ls st0 w P := by
  subst h0
  intro p l e s m args below meth c H locs ad D cI cZ a C hP hS hlv
  exact ex_goI hr C hS hlv (ex_runS hd hc hl hs hn hm hst C hP hlv h) k
theorem ev_callSN {ty : FieldType} (As : List ex_AV) {st0 : List ex_AV} (hd : decode M.2.1 pc = .ok (.invokestatic i, 3)) (hc : ex_CO M' n) (hl : M.1.cls = RX4 ∧ i = 24 ∧ M'.1 = yX6_isWithin) (hs : Cond.static M'.1 ∈ ex_T) (hr : M'.2.2.2 = some ty) (hn : As.length = n) (hm : n ≤ M'.2.2.1) (hst : st.length ≤ 8) (h0 : st0 = As.reverse ++ st)
    (h : ex_Ev d M' 0 (ex_in As M'.2.2.1) [] w P') (k : ∀ r u, P' r u → ex_Ev (d + 1) M (pc + 3) ls (.inl r :: st) u P) : ex_Ev (d + 1) M pc ls st0 w P := by
  subst h0
  intro p l e s m args below meth c H locs ad D cI cZ a C hP hS hlv
  exact ex_goI hr C hS hlv (ex_runSN hd hc hl hs hn hm hst C hP hlv h) k
theorem ev_callV {ty : FieldType} {ci : Nat} (b : Nat) (As : List ex_AV) {st0 : List ex_AV} (hd : decode M.2.1 pc = .ok (.invokevirtual i, 3)) (hc : ex_CO M' n) (hl : Cond.methodLink M.1.cls i M'.1 ∈ ex_T) (hv : ex_CV M'.1.cls M'.1) (hbc : b < 42) (hbk : ex_kind b = .inl ci) (hcl : (ex_cl[ci]?).map (fun q => q.1) = some M'.1.cls) (hr : M'.2.2.2 = some ty) (hn : As.length = n) (hm : n + 1 ≤ M'.2.2.1) (hst : st.length ≤ 8) (h0 : st0 = As.reverse ++ .inr b :: st)
    (h : ex_Ev d M' 0 (ex_in (.inr b :: As) M'.2.2.1) [] w P') (k : ∀ r u, P' r u → ex_Ev (d + 1) M (pc + 3) ls (.inl r :: st) u P) : ex_Ev (d + 1) M pc ls st0 w P := by
  subst h0
  intro p l e s m args below meth c H locs ad D cI cZ a C hP hS hlv
  exact ex_goI hr C hS hlv (ex_runV hd hc hl hv hbc hbk hcl hn hm hst C hP hlv h) k
/-- the call, no answer -/
theorem ev_callVv {ci : Nat} (b : Nat) (As : List ex_AV) {st0 : List ex_AV} (hd : decode M.2.1 pc = .ok (.invokevirtual i, 3)) (hc : ex_CO M' n) (hl : Cond.methodLink M.1.cls i M'.1 ∈ ex_T) (hv : ex_CV M'.1.cls M'.1) (hbc : b < 42) (hbk : ex_kind b = .inl ci) (hcl : (ex_cl[ci]?).map (fun q => q.1) = some M'.1.cls) (hr : M'.2.2.2 = none) (hn : As.length = n) (hm : n + 1 ≤ M'.2.2.1) (hst : st.length ≤ 8) (h0 : st0 = As.reverse ++ .inr b :: st)
    (h : ex_Ev d M' 0 (ex_in (.inr b :: As) M'.2.2.1) [] w P') (k : ∀ u, P' 0 u → ex_Ev (d + 1) M (pc + 3) ls st u P) : ex_Ev (d + 1) M pc ls st0 w P := by
  subst h0
  intro p l e s m args below meth c H locs ad D cI cZ a C hP hS hlv
  exact ex_goV hr C hS hlv (ex_runV hd hc hl hv hbc hbk hcl hn hm hst C hP hlv h) k
theorem ev_copy {c0 c1 n0 n1 : Nat} {sp dp k : Int32} (hd : decode M.2.1 pc = .ok (.invokestatic i, 3)) (hl : Cond.methodLink M.1.cls i arraycopyName ∈ ex_T) (hw : Cond.native arraycopyName ∈ ex_T ∧ Cond.static arraycopyName ∈ ex_T ∧ Cond.initialized "java/lang/System" ∈ ex_T) (h0 : c0 < 42) (h1 : c1 < 42) (hk0 : ex_kind c0 = .inr (n0, false)) (hk1 : ex_kind c1 = .inr (n1, false))
    (g1 : ¬ sp < 0) (g2 : ¬ dp < 0) (g3 : ¬ k < 0) (g4 : sp.toNatClampNeg + k.toNatClampNeg ≤ n0) (g5 : dp.toNatClampNeg + k.toNatClampNeg ≤ n1) (hst : st.length ≤ 8)
    (kk : ex_Ev (d + 1) M (pc + 3) ls st (ex_upf w c1 (va_cpy (w c0) (w c1) sp.toNatClampNeg dp.toNatClampNeg k.toNatClampNeg)) P) : ex_Ev (d + 1) M pc ls (.inl k :: .inl dp :: .inr c1 :: .inl sp :: .inr c0 :: st) w P := by
  intro p l e s m args below meth c H locs ad D cI cZ a C hP hS hlv
  have he0 := ex_cells_at ad cI cZ w h0
  rw [ex_ent_arr _ hk0] at he0
  have he1 := ex_cells_at ad cI cZ w h1
  rw [ex_ent_arr _ hk1] at he1
  have hts := C.2.2.2.2.2.2.1
  refine va_copyi C.1 C.2.1 (C.2.2.1.trans hlv.1.symm) C.2.2.2.2.2.1 (hts _ (List.mem_cons_of_mem _ hl)) (hts _ (List.mem_cons_of_mem _ hw.1)) (hts _ (List.mem_cons_of_mem _ hw.2.1)) (hts _ (List.mem_cons_of_mem _ hw.2.2)) C.2.2.2.2.2.2.2.1.1 hP (ex_cells_D C.2.2.2.2.2.2.2.2) hS c0 c1 0 0 he0 he1 rfl rfl rfl g1 g2 g3 g4 g5 (fun _ _ => rfl) (Nat.succ_le_succ (Nat.zero_le _)) ?_ hd (fun H1 locs1 hP1 hD1 hS1 => ?_)
  · rw [ex_cats]
    have : nativeFrameWords "java/lang/System" "arraycopy" 5 + 11 ≤ 40 := by decide +kernel
    show st.length + _ ≤ 60 * (d + 1)
    omega
  · rw [← ex_ent_arr (ad := ad) (cI := cI) (cZ := cZ) _ hk1, ex_cells_set _ _ _ _ h1] at hP1
    exact kk p l e s m args below meth c H1 locs1 ad D cI cZ a C hP1 hS1 hlv
/-- switches -/
theorem ev_tableIn {dflt lo hi : Int} {offs : Array Int} {len : Nat} {x : Int32} {off : Int} (tgt : Nat) (hd : decode M.2.1 pc = .ok (.tableswitch dflt lo hi offs, len)) (h1 : ¬ x.toInt < lo) (h2 : ¬ hi < x.toInt) (ho : offs[(x.toInt - lo).toNat]? = some off) (ht : (pc : Int) + off = (tgt : Int)) (k : ex_Ev d M tgt ls st w P) : ex_Ev d M pc ls (.inl x :: st) w P :=
  fun p l e s m args below meth c H locs ad D cI cZ a C hP hS hl => lv_tableIn C.1 C.2.1 hd h1 h2 ho ht (k p l e s m args below meth c H locs ad D cI cZ a C hP hS hl)
theorem ev_tableOut {dflt lo hi : Int} {offs : Array Int} {len : Nat} {x : Int32} (tgt : Nat) (hd : decode M.2.1 pc = .ok (.tableswitch dflt lo hi offs, len)) (h : x.toInt < lo ∨ hi < x.toInt) (ht : (pc : Int) + dflt = (tgt : Int)) (k : ex_Ev d M tgt ls st w P) : ex_Ev d M pc ls (.inl x :: st) w P :=
  fun p l e s m args below meth c H locs ad D cI cZ a C hP hS hl => lv_tableOut C.1 C.2.1 hd h ht (k p l e s m args below meth c H locs ad D cI cZ a C hP hS hl)
theorem ev_lookup {dflt : Int} {ps : Array (Int × Int)} {len : Nat} {x : Int32} {off : Int} (tgt : Nat) (hd : decode M.2.1 pc = .ok (.lookupswitch dflt ps, len)) (hp : (ps.toList.zip (ps.toList.drop 1)).all (fun (a, next) => a.1 < next.1) = true) (ho : Op.lookupswitch.offset ps.toList dflt x.toInt = off) (ht : (pc : Int) + off = (tgt : Int)) (k : ex_Ev d M tgt ls st w P) : ex_Ev d M pc ls (.inl x :: st) w P :=
  fun p l e s m args below meth c H locs ad D cI cZ a C hP hS hl => lv_lookup C.1 C.2.1 hd hp ho ht (k p l e s m args below meth c H locs ad D cI cZ a C hP hS hl)
end EVC
end
