section
-- ===== PART A: goes FIRST, ahead of the names: the tables' words, and 'selects' of the private methods out of them =====
/-- a private method of a class that the tables say can be made, by its rows of tables_1 -/
def lw_okq (q : MethodName × Nat) : Prop := (q.1.cls ≠ "java/lang/invoke/MethodHandle" ∧ q.1.cls ≠ "java/lang/invoke/VarHandle") ∧ Cond.instantiable q.1.cls q.2 ∈ tables_1 ∧ Cond.privateMethod q.1 ∈ tables_1 ∧ Cond.instanceMethod q.1 ∈ tables_1
theorem lw_p0 : lw_okq (⟨"GloveSigns$Text", "peek", "()I"⟩, 5) := ⟨⟨by decide +kernel, by decide +kernel⟩, List.mem_of_getElem? (i := 153) (by decide +kernel), List.mem_of_getElem? (i := 343) (by decide +kernel), List.mem_of_getElem? (i := 344) (by decide +kernel)⟩
theorem lw_p1 : lw_okq (⟨"GloveSigns$Text", "readClause", "(LGloveSigns$Season;)V"⟩, 5) := ⟨⟨by decide +kernel, by decide +kernel⟩, List.mem_of_getElem? (i := 153) (by decide +kernel), List.mem_of_getElem? (i := 347) (by decide +kernel), List.mem_of_getElem? (i := 348) (by decide +kernel)⟩
theorem lw_p2 : lw_okq (⟨"GloveSigns$Text", "fail", "(II)V"⟩, 5) := ⟨⟨by decide +kernel, by decide +kernel⟩, List.mem_of_getElem? (i := 153) (by decide +kernel), List.mem_of_getElem? (i := 355) (by decide +kernel), List.mem_of_getElem? (i := 356) (by decide +kernel)⟩
theorem lw_p3 : lw_okq (⟨"GloveSigns$Text", "readNumbers", "(ILGloveSigns$Season;)V"⟩, 5) := ⟨⟨by decide +kernel, by decide +kernel⟩, List.mem_of_getElem? (i := 153) (by decide +kernel), List.mem_of_getElem? (i := 359) (by decide +kernel), List.mem_of_getElem? (i := 360) (by decide +kernel)⟩
theorem lw_p4 : lw_okq (⟨"GloveSigns$Text", "number", "(I)I"⟩, 5) := ⟨⟨by decide +kernel, by decide +kernel⟩, List.mem_of_getElem? (i := 153) (by decide +kernel), List.mem_of_getElem? (i := 363) (by decide +kernel), List.mem_of_getElem? (i := 364) (by decide +kernel)⟩
theorem lw_p5 : lw_okq (⟨"GloveSigns$Text", "readPrizes", "(LGloveSigns$Season;)V"⟩, 5) := ⟨⟨by decide +kernel, by decide +kernel⟩, List.mem_of_getElem? (i := 153) (by decide +kernel), List.mem_of_getElem? (i := 381) (by decide +kernel), List.mem_of_getElem? (i := 382) (by decide +kernel)⟩
theorem lw_p6 : lw_okq (⟨"GloveSigns$Text", "expectEnd", "()V"⟩, 5) := ⟨⟨by decide +kernel, by decide +kernel⟩, List.mem_of_getElem? (i := 153) (by decide +kernel), List.mem_of_getElem? (i := 394) (by decide +kernel), List.mem_of_getElem? (i := 395) (by decide +kernel)⟩
theorem lw_p7 : lw_okq (⟨"GloveSigns$Matching", "settle", "()V"⟩, 6) := ⟨⟨by decide +kernel, by decide +kernel⟩, List.mem_of_getElem? (i := 178) (by decide +kernel), List.mem_of_getElem? (i := 477) (by decide +kernel), List.mem_of_getElem? (i := 478) (by decide +kernel)⟩
theorem lw_p8 : lw_okq (⟨"GloveSigns$Matching", "begin", "()V"⟩, 6) := ⟨⟨by decide +kernel, by decide +kernel⟩, List.mem_of_getElem? (i := 178) (by decide +kernel), List.mem_of_getElem? (i := 481) (by decide +kernel), List.mem_of_getElem? (i := 482) (by decide +kernel)⟩
theorem lw_p9 : lw_okq (⟨"GloveSigns$Trial", "stuffingBelieved", "(II)I"⟩, 2) := ⟨⟨by decide +kernel, by decide +kernel⟩, List.mem_of_getElem? (i := 140) (by decide +kernel), List.mem_of_getElem? (i := 498) (by decide +kernel), List.mem_of_getElem? (i := 499) (by decide +kernel)⟩
theorem lw_p10 : lw_okq (⟨"GloveSigns$Trial", "isSaidFor", "(II)Z"⟩, 2) := ⟨⟨by decide +kernel, by decide +kernel⟩, List.mem_of_getElem? (i := 140) (by decide +kernel), List.mem_of_getElem? (i := 506) (by decide +kernel), List.mem_of_getElem? (i := 507) (by decide +kernel)⟩
theorem lw_p11 : lw_okq (⟨"GloveSigns$Trial", "heardStuffed", "(IIII)I"⟩, 2) := ⟨⟨by decide +kernel, by decide +kernel⟩, List.mem_of_getElem? (i := 140) (by decide +kernel), List.mem_of_getElem? (i := 514) (by decide +kernel), List.mem_of_getElem? (i := 515) (by decide +kernel)⟩
theorem lw_p12 : lw_okq (⟨"GloveSigns$Matching", "firstWaiting", "()I"⟩, 6) := ⟨⟨by decide +kernel, by decide +kernel⟩, List.mem_of_getElem? (i := 178) (by decide +kernel), List.mem_of_getElem? (i := 525) (by decide +kernel), List.mem_of_getElem? (i := 526) (by decide +kernel)⟩
theorem lw_p13 : lw_okq (⟨"GloveSigns$Matching", "bestLeft", "(I)I"⟩, 6) := ⟨⟨by decide +kernel, by decide +kernel⟩, List.mem_of_getElem? (i := 178) (by decide +kernel), List.mem_of_getElem? (i := 529) (by decide +kernel), List.mem_of_getElem? (i := 530) (by decide +kernel)⟩
theorem lw_p14 : lw_okq (⟨"GloveSigns$Matching", "ask", "(II)V"⟩, 6) := ⟨⟨by decide +kernel, by decide +kernel⟩, List.mem_of_getElem? (i := 178) (by decide +kernel), List.mem_of_getElem? (i := 533) (by decide +kernel), List.mem_of_getElem? (i := 534) (by decide +kernel)⟩
theorem lw_p15 : lw_okq (⟨"GloveSigns$Matching", "join", "(II)V"⟩, 6) := ⟨⟨by decide +kernel, by decide +kernel⟩, List.mem_of_getElem? (i := 178) (by decide +kernel), List.mem_of_getElem? (i := 537) (by decide +kernel), List.mem_of_getElem? (i := 538) (by decide +kernel)⟩
def lw_privs_1 : List (MethodName × Nat) := [(⟨"GloveSigns$Text", "peek", "()I"⟩, 5), (⟨"GloveSigns$Text", "readClause", "(LGloveSigns$Season;)V"⟩, 5), (⟨"GloveSigns$Text", "fail", "(II)V"⟩, 5), (⟨"GloveSigns$Text", "readNumbers", "(ILGloveSigns$Season;)V"⟩, 5), (⟨"GloveSigns$Text", "number", "(I)I"⟩, 5), (⟨"GloveSigns$Text", "readPrizes", "(LGloveSigns$Season;)V"⟩, 5), (⟨"GloveSigns$Text", "expectEnd", "()V"⟩, 5), (⟨"GloveSigns$Matching", "settle", "()V"⟩, 6), (⟨"GloveSigns$Matching", "begin", "()V"⟩, 6), (⟨"GloveSigns$Trial", "stuffingBelieved", "(II)I"⟩, 2), (⟨"GloveSigns$Trial", "isSaidFor", "(II)Z"⟩, 2), (⟨"GloveSigns$Trial", "heardStuffed", "(IIII)I"⟩, 2), (⟨"GloveSigns$Matching", "firstWaiting", "()I"⟩, 6), (⟨"GloveSigns$Matching", "bestLeft", "(I)I"⟩, 6), (⟨"GloveSigns$Matching", "ask", "(II)V"⟩, 6), (⟨"GloveSigns$Matching", "join", "(II)V"⟩, 6)]
theorem lw_r1 : ∀ q ∈ lw_privs_1, lw_okq q := List.forall_mem_cons.mpr ⟨lw_p0, List.forall_mem_cons.mpr ⟨lw_p1, List.forall_mem_cons.mpr ⟨lw_p2, List.forall_mem_cons.mpr ⟨lw_p3, List.forall_mem_cons.mpr ⟨lw_p4, List.forall_mem_cons.mpr ⟨lw_p5, List.forall_mem_cons.mpr ⟨lw_p6, List.forall_mem_cons.mpr ⟨lw_p7, List.forall_mem_cons.mpr ⟨lw_p8, List.forall_mem_cons.mpr ⟨lw_p9, List.forall_mem_cons.mpr ⟨lw_p10, List.forall_mem_cons.mpr ⟨lw_p11, List.forall_mem_cons.mpr ⟨lw_p12, List.forall_mem_cons.mpr ⟨lw_p13, List.forall_mem_cons.mpr ⟨lw_p14, List.forall_mem_cons.mpr ⟨lw_p15, fun _ h => absurd h List.not_mem_nil⟩⟩⟩⟩⟩⟩⟩⟩⟩⟩⟩⟩⟩⟩⟩⟩
theorem lw_p16 : lw_okq (⟨"GloveSigns$Matching", "isPreferred", "(III)Z"⟩, 6) := ⟨⟨by decide +kernel, by decide +kernel⟩, List.mem_of_getElem? (i := 178) (by decide +kernel), List.mem_of_getElem? (i := 541) (by decide +kernel), List.mem_of_getElem? (i := 542) (by decide +kernel)⟩
theorem lw_p17 : lw_okq (⟨"GloveSigns", "lay", "(III)I"⟩, 12) := ⟨⟨by decide +kernel, by decide +kernel⟩, List.mem_of_getElem? (i := 19) (by decide +kernel), List.mem_of_getElem? (i := 607) (by decide +kernel), List.mem_of_getElem? (i := 608) (by decide +kernel)⟩
theorem lw_p18 : lw_okq (⟨"GloveSigns", "refusalOfDays", "(I)I"⟩, 12) := ⟨⟨by decide +kernel, by decide +kernel⟩, List.mem_of_getElem? (i := 19) (by decide +kernel), List.mem_of_getElem? (i := 633) (by decide +kernel), List.mem_of_getElem? (i := 634) (by decide +kernel)⟩
theorem lw_p19 : lw_okq (⟨"GloveSigns", "layByDraws", "()V"⟩, 12) := ⟨⟨by decide +kernel, by decide +kernel⟩, List.mem_of_getElem? (i := 19) (by decide +kernel), List.mem_of_getElem? (i := 664) (by decide +kernel), List.mem_of_getElem? (i := 665) (by decide +kernel)⟩
theorem lw_p20 : lw_okq (⟨"GloveSigns", "draw", "(I)I"⟩, 12) := ⟨⟨by decide +kernel, by decide +kernel⟩, List.mem_of_getElem? (i := 19) (by decide +kernel), List.mem_of_getElem? (i := 668) (by decide +kernel), List.mem_of_getElem? (i := 669) (by decide +kernel)⟩
theorem lw_p21 : lw_okq (⟨"GloveSigns$Trial", "mostHeard", "(III)I"⟩, 2) := ⟨⟨by decide +kernel, by decide +kernel⟩, List.mem_of_getElem? (i := 140) (by decide +kernel), List.mem_of_getElem? (i := 719) (by decide +kernel), List.mem_of_getElem? (i := 720) (by decide +kernel)⟩
theorem lw_p22 : lw_okq (⟨"GloveSigns$Seen", "fits", "(II)Z"⟩, 3) := ⟨⟨by decide +kernel, by decide +kernel⟩, List.mem_of_getElem? (i := 244) (by decide +kernel), List.mem_of_getElem? (i := 786) (by decide +kernel), List.mem_of_getElem? (i := 787) (by decide +kernel)⟩
theorem lw_p23 : lw_okq (⟨"GloveSigns$Seen", "mostAlike", "(II)I"⟩, 3) := ⟨⟨by decide +kernel, by decide +kernel⟩, List.mem_of_getElem? (i := 244) (by decide +kernel), List.mem_of_getElem? (i := 810) (by decide +kernel), List.mem_of_getElem? (i := 811) (by decide +kernel)⟩
theorem lw_p24 : lw_okq (⟨"GloveSigns$Seen", "countAlike", "(III)I"⟩, 3) := ⟨⟨by decide +kernel, by decide +kernel⟩, List.mem_of_getElem? (i := 244) (by decide +kernel), List.mem_of_getElem? (i := 814) (by decide +kernel), List.mem_of_getElem? (i := 815) (by decide +kernel)⟩
theorem lw_p25 : lw_okq (⟨"GloveSignsModel", "readsSeason", "()Z"⟩, 38) := ⟨⟨by decide +kernel, by decide +kernel⟩, List.mem_of_getElem? (i := 852) (by decide +kernel), List.mem_of_getElem? (i := 988) (by decide +kernel), List.mem_of_getElem? (i := 989) (by decide +kernel)⟩
theorem lw_p26 : lw_okq (⟨"GloveSignsModel", "nextLetter", "()I"⟩, 38) := ⟨⟨by decide +kernel, by decide +kernel⟩, List.mem_of_getElem? (i := 852) (by decide +kernel), List.mem_of_getElem? (i := 992) (by decide +kernel), List.mem_of_getElem? (i := 993) (by decide +kernel)⟩
theorem lw_p27 : lw_okq (⟨"GloveSignsModel", "letterAt", "(I)I"⟩, 38) := ⟨⟨by decide +kernel, by decide +kernel⟩, List.mem_of_getElem? (i := 852) (by decide +kernel), List.mem_of_getElem? (i := 996) (by decide +kernel), List.mem_of_getElem? (i := 997) (by decide +kernel)⟩
theorem lw_p28 : lw_okq (⟨"GloveSignsModel", "readsClause", "()Z"⟩, 38) := ⟨⟨by decide +kernel, by decide +kernel⟩, List.mem_of_getElem? (i := 852) (by decide +kernel), List.mem_of_getElem? (i := 1000) (by decide +kernel), List.mem_of_getElem? (i := 1001) (by decide +kernel)⟩
theorem lw_p29 : lw_okq (⟨"GloveSignsModel", "readsHead", "()Z"⟩, 38) := ⟨⟨by decide +kernel, by decide +kernel⟩, List.mem_of_getElem? (i := 852) (by decide +kernel), List.mem_of_getElem? (i := 1004) (by decide +kernel), List.mem_of_getElem? (i := 1005) (by decide +kernel)⟩
theorem lw_p30 : lw_okq (⟨"GloveSignsModel", "readsNumber", "(II)I"⟩, 38) := ⟨⟨by decide +kernel, by decide +kernel⟩, List.mem_of_getElem? (i := 852) (by decide +kernel), List.mem_of_getElem? (i := 1008) (by decide +kernel), List.mem_of_getElem? (i := 1009) (by decide +kernel)⟩
theorem lw_p31 : lw_okq (⟨"GloveSignsModel", "fails", "(II)I"⟩, 38) := ⟨⟨by decide +kernel, by decide +kernel⟩, List.mem_of_getElem? (i := 852) (by decide +kernel), List.mem_of_getElem? (i := 1012) (by decide +kernel), List.mem_of_getElem? (i := 1013) (by decide +kernel)⟩
def lw_privs_2 : List (MethodName × Nat) := [(⟨"GloveSigns$Matching", "isPreferred", "(III)Z"⟩, 6), (⟨"GloveSigns", "lay", "(III)I"⟩, 12), (⟨"GloveSigns", "refusalOfDays", "(I)I"⟩, 12), (⟨"GloveSigns", "layByDraws", "()V"⟩, 12), (⟨"GloveSigns", "draw", "(I)I"⟩, 12), (⟨"GloveSigns$Trial", "mostHeard", "(III)I"⟩, 2), (⟨"GloveSigns$Seen", "fits", "(II)Z"⟩, 3), (⟨"GloveSigns$Seen", "mostAlike", "(II)I"⟩, 3), (⟨"GloveSigns$Seen", "countAlike", "(III)I"⟩, 3), (⟨"GloveSignsModel", "readsSeason", "()Z"⟩, 38), (⟨"GloveSignsModel", "nextLetter", "()I"⟩, 38), (⟨"GloveSignsModel", "letterAt", "(I)I"⟩, 38), (⟨"GloveSignsModel", "readsClause", "()Z"⟩, 38), (⟨"GloveSignsModel", "readsHead", "()Z"⟩, 38), (⟨"GloveSignsModel", "readsNumber", "(II)I"⟩, 38), (⟨"GloveSignsModel", "fails", "(II)I"⟩, 38)]
theorem lw_r2 : ∀ q ∈ lw_privs_2, lw_okq q := List.forall_mem_cons.mpr ⟨lw_p16, List.forall_mem_cons.mpr ⟨lw_p17, List.forall_mem_cons.mpr ⟨lw_p18, List.forall_mem_cons.mpr ⟨lw_p19, List.forall_mem_cons.mpr ⟨lw_p20, List.forall_mem_cons.mpr ⟨lw_p21, List.forall_mem_cons.mpr ⟨lw_p22, List.forall_mem_cons.mpr ⟨lw_p23, List.forall_mem_cons.mpr ⟨lw_p24, List.forall_mem_cons.mpr ⟨lw_p25, List.forall_mem_cons.mpr ⟨lw_p26, List.forall_mem_cons.mpr ⟨lw_p27, List.forall_mem_cons.mpr ⟨lw_p28, List.forall_mem_cons.mpr ⟨lw_p29, List.forall_mem_cons.mpr ⟨lw_p30, List.forall_mem_cons.mpr ⟨lw_p31, fun _ h => absurd h List.not_mem_nil⟩⟩⟩⟩⟩⟩⟩⟩⟩⟩⟩⟩⟩⟩⟩⟩
theorem lw_p32 : lw_okq (⟨"GloveSignsModel", "readsSign", "(I)Z"⟩, 38) := ⟨⟨by decide +kernel, by decide +kernel⟩, List.mem_of_getElem? (i := 852) (by decide +kernel), List.mem_of_getElem? (i := 1016) (by decide +kernel), List.mem_of_getElem? (i := 1017) (by decide +kernel)⟩
theorem lw_p33 : lw_okq (⟨"GloveSignsModel", "readsComer", "()Z"⟩, 38) := ⟨⟨by decide +kernel, by decide +kernel⟩, List.mem_of_getElem? (i := 852) (by decide +kernel), List.mem_of_getElem? (i := 1020) (by decide +kernel), List.mem_of_getElem? (i := 1021) (by decide +kernel)⟩
theorem lw_p34 : lw_okq (⟨"GloveSignsModel", "readsHouse", "()Z"⟩, 38) := ⟨⟨by decide +kernel, by decide +kernel⟩, List.mem_of_getElem? (i := 852) (by decide +kernel), List.mem_of_getElem? (i := 1024) (by decide +kernel), List.mem_of_getElem? (i := 1025) (by decide +kernel)⟩
theorem lw_p35 : lw_okq (⟨"GloveSignsModel", "callsOfAll", "()I"⟩, 38) := ⟨⟨by decide +kernel, by decide +kernel⟩, List.mem_of_getElem? (i := 852) (by decide +kernel), List.mem_of_getElem? (i := 1036) (by decide +kernel), List.mem_of_getElem? (i := 1037) (by decide +kernel)⟩
theorem lw_p36 : lw_okq (⟨"GloveSignsModel", "callsAt", "(I)I"⟩, 38) := ⟨⟨by decide +kernel, by decide +kernel⟩, List.mem_of_getElem? (i := 852) (by decide +kernel), List.mem_of_getElem? (i := 1040) (by decide +kernel), List.mem_of_getElem? (i := 1041) (by decide +kernel)⟩
theorem lw_p37 : lw_okq (⟨"GloveSignsModel", "welcome", "()I"⟩, 38) := ⟨⟨by decide +kernel, by decide +kernel⟩, List.mem_of_getElem? (i := 852) (by decide +kernel), List.mem_of_getElem? (i := 1044) (by decide +kernel), List.mem_of_getElem? (i := 1045) (by decide +kernel)⟩
theorem lw_p38 : lw_okq (⟨"GloveSignsModel", "coldest", "()I"⟩, 38) := ⟨⟨by decide +kernel, by decide +kernel⟩, List.mem_of_getElem? (i := 852) (by decide +kernel), List.mem_of_getElem? (i := 1048) (by decide +kernel), List.mem_of_getElem? (i := 1049) (by decide +kernel)⟩
theorem lw_p39 : lw_okq (⟨"GloveSignsModel", "saidMany", "()I"⟩, 38) := ⟨⟨by decide +kernel, by decide +kernel⟩, List.mem_of_getElem? (i := 852) (by decide +kernel), List.mem_of_getElem? (i := 1052) (by decide +kernel), List.mem_of_getElem? (i := 1053) (by decide +kernel)⟩
theorem lw_p40 : lw_okq (⟨"GloveSignsModel", "isSeason", "()Z"⟩, 38) := ⟨⟨by decide +kernel, by decide +kernel⟩, List.mem_of_getElem? (i := 852) (by decide +kernel), List.mem_of_getElem? (i := 1056) (by decide +kernel), List.mem_of_getElem? (i := 1057) (by decide +kernel)⟩
theorem lw_p41 : lw_okq (⟨"GloveSignsModel", "isSaid", "(I)Z"⟩, 38) := ⟨⟨by decide +kernel, by decide +kernel⟩, List.mem_of_getElem? (i := 852) (by decide +kernel), List.mem_of_getElem? (i := 1060) (by decide +kernel), List.mem_of_getElem? (i := 1061) (by decide +kernel)⟩
theorem lw_p42 : lw_okq (⟨"GloveSignsModel", "isComer", "(I)Z"⟩, 38) := ⟨⟨by decide +kernel, by decide +kernel⟩, List.mem_of_getElem? (i := 852) (by decide +kernel), List.mem_of_getElem? (i := 1071) (by decide +kernel), List.mem_of_getElem? (i := 1072) (by decide +kernel)⟩
theorem lw_p43 : lw_okq (⟨"GloveSignsModel", "matches", "()V"⟩, 38) := ⟨⟨by decide +kernel, by decide +kernel⟩, List.mem_of_getElem? (i := 852) (by decide +kernel), List.mem_of_getElem? (i := 1076) (by decide +kernel), List.mem_of_getElem? (i := 1077) (by decide +kernel)⟩
theorem lw_p44 : lw_okq (⟨"GloveSignsModel", "bestHouse", "(I)I"⟩, 38) := ⟨⟨by decide +kernel, by decide +kernel⟩, List.mem_of_getElem? (i := 852) (by decide +kernel), List.mem_of_getElem? (i := 1080) (by decide +kernel), List.mem_of_getElem? (i := 1081) (by decide +kernel)⟩
theorem lw_p45 : lw_okq (⟨"GloveSignsModel", "suitsOf", "(II)I"⟩, 38) := ⟨⟨by decide +kernel, by decide +kernel⟩, List.mem_of_getElem? (i := 852) (by decide +kernel), List.mem_of_getElem? (i := 1084) (by decide +kernel), List.mem_of_getElem? (i := 1085) (by decide +kernel)⟩
theorem lw_p46 : lw_okq (⟨"GloveSignsModel", "isHonest", "(II)Z"⟩, 38) := ⟨⟨by decide +kernel, by decide +kernel⟩, List.mem_of_getElem? (i := 852) (by decide +kernel), List.mem_of_getElem? (i := 1088) (by decide +kernel), List.mem_of_getElem? (i := 1089) (by decide +kernel)⟩
theorem lw_p47 : lw_okq (⟨"GloveSignsModel", "heard", "(III)I"⟩, 38) := ⟨⟨by decide +kernel, by decide +kernel⟩, List.mem_of_getElem? (i := 852) (by decide +kernel), List.mem_of_getElem? (i := 1095) (by decide +kernel), List.mem_of_getElem? (i := 1096) (by decide +kernel)⟩
def lw_privs_3 : List (MethodName × Nat) := [(⟨"GloveSignsModel", "readsSign", "(I)Z"⟩, 38), (⟨"GloveSignsModel", "readsComer", "()Z"⟩, 38), (⟨"GloveSignsModel", "readsHouse", "()Z"⟩, 38), (⟨"GloveSignsModel", "callsOfAll", "()I"⟩, 38), (⟨"GloveSignsModel", "callsAt", "(I)I"⟩, 38), (⟨"GloveSignsModel", "welcome", "()I"⟩, 38), (⟨"GloveSignsModel", "coldest", "()I"⟩, 38), (⟨"GloveSignsModel", "saidMany", "()I"⟩, 38), (⟨"GloveSignsModel", "isSeason", "()Z"⟩, 38), (⟨"GloveSignsModel", "isSaid", "(I)Z"⟩, 38), (⟨"GloveSignsModel", "isComer", "(I)Z"⟩, 38), (⟨"GloveSignsModel", "matches", "()V"⟩, 38), (⟨"GloveSignsModel", "bestHouse", "(I)I"⟩, 38), (⟨"GloveSignsModel", "suitsOf", "(II)I"⟩, 38), (⟨"GloveSignsModel", "isHonest", "(II)Z"⟩, 38), (⟨"GloveSignsModel", "heard", "(III)I"⟩, 38)]
theorem lw_r3 : ∀ q ∈ lw_privs_3, lw_okq q := List.forall_mem_cons.mpr ⟨lw_p32, List.forall_mem_cons.mpr ⟨lw_p33, List.forall_mem_cons.mpr ⟨lw_p34, List.forall_mem_cons.mpr ⟨lw_p35, List.forall_mem_cons.mpr ⟨lw_p36, List.forall_mem_cons.mpr ⟨lw_p37, List.forall_mem_cons.mpr ⟨lw_p38, List.forall_mem_cons.mpr ⟨lw_p39, List.forall_mem_cons.mpr ⟨lw_p40, List.forall_mem_cons.mpr ⟨lw_p41, List.forall_mem_cons.mpr ⟨lw_p42, List.forall_mem_cons.mpr ⟨lw_p43, List.forall_mem_cons.mpr ⟨lw_p44, List.forall_mem_cons.mpr ⟨lw_p45, List.forall_mem_cons.mpr ⟨lw_p46, List.forall_mem_cons.mpr ⟨lw_p47, fun _ h => absurd h List.not_mem_nil⟩⟩⟩⟩⟩⟩⟩⟩⟩⟩⟩⟩⟩⟩⟩⟩
theorem lw_p48 : lw_okq (⟨"GloveSignsModel", "hears", "(IIII)I"⟩, 38) := ⟨⟨by decide +kernel, by decide +kernel⟩, List.mem_of_getElem? (i := 852) (by decide +kernel), List.mem_of_getElem? (i := 1099) (by decide +kernel), List.mem_of_getElem? (i := 1100) (by decide +kernel)⟩
theorem lw_p49 : lw_okq (⟨"GloveSignsModel", "asks", "(II)V"⟩, 38) := ⟨⟨by decide +kernel, by decide +kernel⟩, List.mem_of_getElem? (i := 852) (by decide +kernel), List.mem_of_getElem? (i := 1103) (by decide +kernel), List.mem_of_getElem? (i := 1104) (by decide +kernel)⟩
theorem lw_p50 : lw_okq (⟨"GloveSignsModel", "isHouse", "(I)Z"⟩, 38) := ⟨⟨by decide +kernel, by decide +kernel⟩, List.mem_of_getElem? (i := 852) (by decide +kernel), List.mem_of_getElem? (i := 1111) (by decide +kernel), List.mem_of_getElem? (i := 1112) (by decide +kernel)⟩
theorem lw_p51 : lw_okq (⟨"GloveSignsModel", "areBoth", "(II)Z"⟩, 38) := ⟨⟨by decide +kernel, by decide +kernel⟩, List.mem_of_getElem? (i := 852) (by decide +kernel), List.mem_of_getElem? (i := 1123) (by decide +kernel), List.mem_of_getElem? (i := 1124) (by decide +kernel)⟩
theorem lw_p52 : lw_okq (⟨"GloveSignsModel", "remember", "()V"⟩, 38) := ⟨⟨by decide +kernel, by decide +kernel⟩, List.mem_of_getElem? (i := 852) (by decide +kernel), List.mem_of_getElem? (i := 1143) (by decide +kernel), List.mem_of_getElem? (i := 1144) (by decide +kernel)⟩
theorem lw_p53 : lw_okq (⟨"GloveSignsModel", "visits", "(III)I"⟩, 38) := ⟨⟨by decide +kernel, by decide +kernel⟩, List.mem_of_getElem? (i := 852) (by decide +kernel), List.mem_of_getElem? (i := 1147) (by decide +kernel), List.mem_of_getElem? (i := 1148) (by decide +kernel)⟩
theorem lw_p54 : lw_okq (⟨"GloveSignsModel", "answer", "(III)I"⟩, 38) := ⟨⟨by decide +kernel, by decide +kernel⟩, List.mem_of_getElem? (i := 852) (by decide +kernel), List.mem_of_getElem? (i := 1151) (by decide +kernel), List.mem_of_getElem? (i := 1152) (by decide +kernel)⟩
theorem lw_p55 : lw_okq (⟨"GloveSignsModel", "enters", "(IIII)V"⟩, 38) := ⟨⟨by decide +kernel, by decide +kernel⟩, List.mem_of_getElem? (i := 852) (by decide +kernel), List.mem_of_getElem? (i := 1155) (by decide +kernel), List.mem_of_getElem? (i := 1156) (by decide +kernel)⟩
theorem lw_p56 : lw_okq (⟨"GloveSignsModel", "needDays", "(I)I"⟩, 38) := ⟨⟨by decide +kernel, by decide +kernel⟩, List.mem_of_getElem? (i := 852) (by decide +kernel), List.mem_of_getElem? (i := 1163) (by decide +kernel), List.mem_of_getElem? (i := 1164) (by decide +kernel)⟩
theorem lw_p57 : lw_okq (⟨"GloveSignsModel", "days", "()V"⟩, 38) := ⟨⟨by decide +kernel, by decide +kernel⟩, List.mem_of_getElem? (i := 852) (by decide +kernel), List.mem_of_getElem? (i := 1168) (by decide +kernel), List.mem_of_getElem? (i := 1169) (by decide +kernel)⟩
theorem lw_p58 : lw_okq (⟨"GloveSignsModel", "becomes", "(II)I"⟩, 38) := ⟨⟨by decide +kernel, by decide +kernel⟩, List.mem_of_getElem? (i := 852) (by decide +kernel), List.mem_of_getElem? (i := 1176) (by decide +kernel), List.mem_of_getElem? (i := 1177) (by decide +kernel)⟩
theorem lw_p59 : lw_okq (⟨"GloveSignsModel", "draw", "(I)I"⟩, 38) := ⟨⟨by decide +kernel, by decide +kernel⟩, List.mem_of_getElem? (i := 852) (by decide +kernel), List.mem_of_getElem? (i := 1192) (by decide +kernel), List.mem_of_getElem? (i := 1193) (by decide +kernel)⟩
theorem lw_p60 : lw_okq (⟨"GloveSignsModel", "mostHeard", "(III)I"⟩, 38) := ⟨⟨by decide +kernel, by decide +kernel⟩, List.mem_of_getElem? (i := 852) (by decide +kernel), List.mem_of_getElem? (i := 1222) (by decide +kernel), List.mem_of_getElem? (i := 1223) (by decide +kernel)⟩
theorem lw_p61 : lw_okq (⟨"GloveSignsModel", "letInBy", "(II)I"⟩, 38) := ⟨⟨by decide +kernel, by decide +kernel⟩, List.mem_of_getElem? (i := 852) (by decide +kernel), List.mem_of_getElem? (i := 1234) (by decide +kernel), List.mem_of_getElem? (i := 1235) (by decide +kernel)⟩
theorem lw_p62 : lw_okq (⟨"GloveSignsModel", "couldBeSo", "(I)Z"⟩, 38) := ⟨⟨by decide +kernel, by decide +kernel⟩, List.mem_of_getElem? (i := 852) (by decide +kernel), List.mem_of_getElem? (i := 1260) (by decide +kernel), List.mem_of_getElem? (i := 1261) (by decide +kernel)⟩
theorem lw_p63 : lw_okq (⟨"GloveSignsModel", "alike", "(I)I"⟩, 38) := ⟨⟨by decide +kernel, by decide +kernel⟩, List.mem_of_getElem? (i := 852) (by decide +kernel), List.mem_of_getElem? (i := 1272) (by decide +kernel), List.mem_of_getElem? (i := 1273) (by decide +kernel)⟩
def lw_privs_4 : List (MethodName × Nat) := [(⟨"GloveSignsModel", "hears", "(IIII)I"⟩, 38), (⟨"GloveSignsModel", "asks", "(II)V"⟩, 38), (⟨"GloveSignsModel", "isHouse", "(I)Z"⟩, 38), (⟨"GloveSignsModel", "areBoth", "(II)Z"⟩, 38), (⟨"GloveSignsModel", "remember", "()V"⟩, 38), (⟨"GloveSignsModel", "visits", "(III)I"⟩, 38), (⟨"GloveSignsModel", "answer", "(III)I"⟩, 38), (⟨"GloveSignsModel", "enters", "(IIII)V"⟩, 38), (⟨"GloveSignsModel", "needDays", "(I)I"⟩, 38), (⟨"GloveSignsModel", "days", "()V"⟩, 38), (⟨"GloveSignsModel", "becomes", "(II)I"⟩, 38), (⟨"GloveSignsModel", "draw", "(I)I"⟩, 38), (⟨"GloveSignsModel", "mostHeard", "(III)I"⟩, 38), (⟨"GloveSignsModel", "letInBy", "(II)I"⟩, 38), (⟨"GloveSignsModel", "couldBeSo", "(I)Z"⟩, 38), (⟨"GloveSignsModel", "alike", "(I)I"⟩, 38)]
theorem lw_r4 : ∀ q ∈ lw_privs_4, lw_okq q := List.forall_mem_cons.mpr ⟨lw_p48, List.forall_mem_cons.mpr ⟨lw_p49, List.forall_mem_cons.mpr ⟨lw_p50, List.forall_mem_cons.mpr ⟨lw_p51, List.forall_mem_cons.mpr ⟨lw_p52, List.forall_mem_cons.mpr ⟨lw_p53, List.forall_mem_cons.mpr ⟨lw_p54, List.forall_mem_cons.mpr ⟨lw_p55, List.forall_mem_cons.mpr ⟨lw_p56, List.forall_mem_cons.mpr ⟨lw_p57, List.forall_mem_cons.mpr ⟨lw_p58, List.forall_mem_cons.mpr ⟨lw_p59, List.forall_mem_cons.mpr ⟨lw_p60, List.forall_mem_cons.mpr ⟨lw_p61, List.forall_mem_cons.mpr ⟨lw_p62, List.forall_mem_cons.mpr ⟨lw_p63, fun _ h => absurd h List.not_mem_nil⟩⟩⟩⟩⟩⟩⟩⟩⟩⟩⟩⟩⟩⟩⟩⟩
def lw_privs : List (MethodName × Nat) := lw_privs_1 ++ (lw_privs_2 ++ (lw_privs_3 ++ (lw_privs_4)))
def lw_tbl : List Cond := k2_sels lw_privs ++ tables_1
theorem lw_privs_ok : ∀ q ∈ lw_privs, lw_okq q := by
  show ∀ q ∈ lw_privs_1 ++ (lw_privs_2 ++ (lw_privs_3 ++ (lw_privs_4))), lw_okq q
  exact List.forall_mem_append.mpr ⟨lw_r1, List.forall_mem_append.mpr ⟨lw_r2, List.forall_mem_append.mpr ⟨lw_r3, lw_r4⟩⟩⟩
end
section
def RX0 : String := "GloveSigns$Book"
def TX0 : u_T := fun k => match k with
  | 0 => ("GloveSigns$Book", "houses", "[I", true)
  | 1 => ("GloveSigns$Book", "hardness", "[I", true)
  | _ => ("GloveSigns$Book", "size", "I", false)
def tyX0 : Nat → FieldType := fun k => match k with
  | 0 => .array .int
  | 1 => .array .int
  | _ => .int
theorem nmX0 : ∀ a, a < 3 → ∀ b, b < 3 → a ≠ b → (TX0 a).2.1 ≠ (TX0 b).2.1 := by decide +kernel
theorem tyX0_ok : ∀ k, k < 3 → parseFieldDescriptor (TX0 k).2.2.1 = some (tyX0 k) := by decide +kernel
abbrev cX0_init : ByteArray := prog_2_method_1_code
def yX0_init : MethodName := ⟨RX0, "<init>", "()V"⟩
abbrev cX0_append : ByteArray := prog_2_method_2_code
def yX0_append : MethodName := ⟨RX0, "append", "(II)Z"⟩
abbrev cX0_forget : ByteArray := prog_2_method_3_code
def yX0_forget : MethodName := ⟨RX0, "forget", "()V"⟩
abbrev cX0_firstWrong : ByteArray := prog_2_method_4_code
def yX0_firstWrong : MethodName := ⟨RX0, "firstWrong", "(LGloveSigns$Hall;)I"⟩
def RX1 : String := "GloveSigns$Glove"
def TX1 : u_T := fun k => match k with
  | _ => ("", "", "", false)
def tyX1 : Nat → FieldType := fun k => match k with
  | _ => .int
theorem nmX1 : ∀ a, a < 0 → ∀ b, b < 0 → a ≠ b → (TX1 a).2.1 ≠ (TX1 b).2.1 := by decide +kernel
theorem tyX1_ok : ∀ k, k < 0 → parseFieldDescriptor (TX1 k).2.2.1 = some (tyX1 k) := by decide +kernel
abbrev cX1_isSign : ByteArray := prog_3_method_2_code
def yX1_isSign : MethodName := ⟨RX1, "isSign", "(I)Z"⟩
abbrev cX1_partOf : ByteArray := prog_3_method_3_code
def yX1_partOf : MethodName := ⟨RX1, "partOf", "(II)I"⟩
abbrev cX1_meaning : ByteArray := prog_3_method_4_code
def yX1_meaning : MethodName := ⟨RX1, "meaning", "(I)I"⟩
abbrev cX1_isSaid : ByteArray := prog_3_method_5_code
def yX1_isSaid : MethodName := ⟨RX1, "isSaid", "(II)Z"⟩
abbrev cX1_countSaid : ByteArray := prog_3_method_6_code
def yX1_countSaid : MethodName := ⟨RX1, "countSaid", "(I)I"⟩
abbrev cX1_partsLaid : ByteArray := prog_3_method_7_code
def yX1_partsLaid : MethodName := ⟨RX1, "partsLaid", "(I)I"⟩
def RX2 : String := "GloveSigns$Hall"
def TX2 : u_T := fun k => match k with
  | 0 => ("GloveSigns$Hall", "days", "I", false)
  | 1 => ("GloveSigns$Hall", "openToday", "I", false)
  | 2 => ("GloveSigns$Hall", "stuffing", "[I", true)
  | 3 => ("GloveSigns$Hall", "meaning", "[I", true)
  | 4 => ("GloveSigns$Hall", "shamAt", "[I", true)
  | 5 => ("GloveSigns$Hall", "hardness", "[I", true)
  | 6 => ("GloveSigns$Hall", "callsMade", "[I", true)
  | 7 => ("GloveSigns$Hall", "letInStuffed", "[I", true)
  | _ => ("GloveSigns$Hall", "log", "LGloveSigns$Log;", true)
def tyX2 : Nat → FieldType := fun k => match k with
  | 0 => .int
  | 1 => .int
  | 2 => .array .int
  | 3 => .array .int
  | 4 => .array .int
  | 5 => .array .int
  | 6 => .array .int
  | 7 => .array .int
  | _ => .object "GloveSigns$Log"
theorem nmX2 : ∀ a, a < 9 → ∀ b, b < 9 → a ≠ b → (TX2 a).2.1 ≠ (TX2 b).2.1 := by decide +kernel
theorem tyX2_ok : ∀ k, k < 9 → parseFieldDescriptor (TX2 k).2.2.1 = some (tyX2 k) := by decide +kernel
abbrev cX2_init : ByteArray := prog_4_method_1_code
def yX2_init : MethodName := ⟨RX2, "<init>", "()V"⟩
abbrev cX2_open : ByteArray := prog_4_method_2_code
def yX2_open : MethodName := ⟨RX2, "open", "(LGloveSigns$Season;)V"⟩
abbrev cX2_become : ByteArray := prog_4_method_3_code
def yX2_become : MethodName := ⟨RX2, "become", "(LGloveSigns$Hall;)V"⟩
abbrev cX2_pair : ByteArray := prog_4_method_4_code
def yX2_pair : MethodName := ⟨RX2, "pair", "(II)I"⟩
abbrev cX2_callsOf : ByteArray := prog_4_method_5_code
def yX2_callsOf : MethodName := ⟨RX2, "callsOf", "(II)I"⟩
abbrev cX2_callsAt : ByteArray := prog_4_method_6_code
def yX2_callsAt : MethodName := ⟨RX2, "callsAt", "(I)I"⟩
abbrev cX2_callsOfAll : ByteArray := prog_4_method_7_code
def yX2_callsOfAll : MethodName := ⟨RX2, "callsOfAll", "()I"⟩
abbrev cX2_welcome : ByteArray := prog_4_method_8_code
def yX2_welcome : MethodName := ⟨RX2, "welcome", "()I"⟩
abbrev cX2_coldest : ByteArray := prog_4_method_9_code
def yX2_coldest : MethodName := ⟨RX2, "coldest", "(I)I"⟩
abbrev cX2_isSham : ByteArray := prog_4_method_10_code
def yX2_isSham : MethodName := ⟨RX2, "isSham", "(II)Z"⟩
abbrev cX2_welcomeIn : ByteArray := prog_4_method_11_code
def yX2_welcomeIn : MethodName := ⟨RX2, "welcomeIn", "(II)V"⟩
abbrev cX2_forgive : ByteArray := prog_4_method_12_code
def yX2_forgive : MethodName := ⟨RX2, "forgive", "(II)V"⟩
abbrev cX2_endDay : ByteArray := prog_4_method_13_code
def yX2_endDay : MethodName := ⟨RX2, "endDay", "(I)V"⟩
def RX3 : String := "GloveSigns$Image"
def TX3 : u_T := fun k => match k with
  | 0 => ("GloveSigns$Image", "kept", "Z", false)
  | 1 => ("GloveSigns$Image", "seedThen", "I", false)
  | _ => ("GloveSigns$Image", "hall", "LGloveSigns$Hall;", true)
def tyX3 : Nat → FieldType := fun k => match k with
  | 0 => .boolean
  | 1 => .int
  | _ => .object "GloveSigns$Hall"
theorem nmX3 : ∀ a, a < 3 → ∀ b, b < 3 → a ≠ b → (TX3 a).2.1 ≠ (TX3 b).2.1 := by decide +kernel
theorem tyX3_ok : ∀ k, k < 3 → parseFieldDescriptor (TX3 k).2.2.1 = some (tyX3 k) := by decide +kernel
abbrev cX3_init : ByteArray := prog_5_method_1_code
def yX3_init : MethodName := ⟨RX3, "<init>", "()V"⟩
def RX4 : String := "GloveSigns$Log"
def TX4 : u_T := fun k => match k with
  | 0 => ("GloveSigns$Log", "rows", "[I", true)
  | 1 => ("GloveSigns$Log", "newest", "I", false)
  | _ => ("GloveSigns$Log", "size", "I", false)
def tyX4 : Nat → FieldType := fun k => match k with
  | 0 => .array .int
  | 1 => .int
  | _ => .int
theorem nmX4 : ∀ a, a < 3 → ∀ b, b < 3 → a ≠ b → (TX4 a).2.1 ≠ (TX4 b).2.1 := by decide +kernel
theorem tyX4_ok : ∀ k, k < 3 → parseFieldDescriptor (TX4 k).2.2.1 = some (tyX4 k) := by decide +kernel
abbrev cX4_init : ByteArray := prog_6_method_1_code
def yX4_init : MethodName := ⟨RX4, "<init>", "()V"⟩
abbrev cX4_append : ByteArray := prog_6_method_2_code
def yX4_append : MethodName := ⟨RX4, "append", "(IIIII)V"⟩
abbrev cX4_look : ByteArray := prog_6_method_3_code
def yX4_look : MethodName := ⟨RX4, "look", "(II)I"⟩
abbrev cX4_empty : ByteArray := prog_6_method_4_code
def yX4_empty : MethodName := ⟨RX4, "empty", "()V"⟩
abbrev cX4_become : ByteArray := prog_6_method_5_code
def yX4_become : MethodName := ⟨RX4, "become", "(LGloveSigns$Log;)V"⟩
def RX5 : String := "GloveSigns$Matching"
def TX5 : u_T := fun k => match k with
  | 0 => ("GloveSigns$Matching", "trial", "LGloveSigns$Trial;", true)
  | 1 => ("GloveSigns$Matching", "suit", "[I", true)
  | 2 => ("GloveSigns$Matching", "refusedBy", "[I", true)
  | 3 => ("GloveSigns$Matching", "houseFor", "[I", true)
  | 4 => ("GloveSigns$Matching", "comerFor", "[I", true)
  | _ => ("GloveSigns$Matching", "givenUp", "I", false)
def tyX5 : Nat → FieldType := fun k => match k with
  | 0 => .object "GloveSigns$Trial"
  | 1 => .array .int
  | 2 => .array .int
  | 3 => .array .int
  | 4 => .array .int
  | _ => .int
theorem nmX5 : ∀ a, a < 6 → ∀ b, b < 6 → a ≠ b → (TX5 a).2.1 ≠ (TX5 b).2.1 := by decide +kernel
theorem tyX5_ok : ∀ k, k < 6 → parseFieldDescriptor (TX5 k).2.2.1 = some (tyX5 k) := by decide +kernel
abbrev cX5_init : ByteArray := prog_7_method_1_code
def yX5_init : MethodName := ⟨RX5, "<init>", "(LGloveSigns$Trial;)V"⟩
abbrev cX5_houseOf : ByteArray := prog_7_method_2_code
def yX5_houseOf : MethodName := ⟨RX5, "houseOf", "(I)I"⟩
abbrev cX5_comerOf : ByteArray := prog_7_method_3_code
def yX5_comerOf : MethodName := ⟨RX5, "comerOf", "(I)I"⟩
abbrev cX5_settle : ByteArray := prog_7_method_4_code
def yX5_settle : MethodName := ⟨RX5, "settle", "()V"⟩
abbrev cX5_begin : ByteArray := prog_7_method_5_code
def yX5_begin : MethodName := ⟨RX5, "begin", "()V"⟩
abbrev cX5_firstWaiting : ByteArray := prog_7_method_6_code
def yX5_firstWaiting : MethodName := ⟨RX5, "firstWaiting", "()I"⟩
abbrev cX5_bestLeft : ByteArray := prog_7_method_7_code
def yX5_bestLeft : MethodName := ⟨RX5, "bestLeft", "(I)I"⟩
abbrev cX5_ask : ByteArray := prog_7_method_8_code
def yX5_ask : MethodName := ⟨RX5, "ask", "(II)V"⟩
abbrev cX5_isPreferred : ByteArray := prog_7_method_9_code
def yX5_isPreferred : MethodName := ⟨RX5, "isPreferred", "(III)Z"⟩
abbrev cX5_join : ByteArray := prog_7_method_10_code
def yX5_join : MethodName := ⟨RX5, "join", "(II)V"⟩
def RX6 : String := "GloveSigns$Past"
def TX6 : u_T := fun k => match k with
  | 0 => ("GloveSigns$Past", "halls", "[LGloveSigns$Hall;", true)
  | 1 => ("GloveSigns$Past", "next", "I", false)
  | _ => ("GloveSigns$Past", "size", "I", false)
def tyX6 : Nat → FieldType := fun k => match k with
  | 0 => .array (.object "GloveSigns$Hall")
  | 1 => .int
  | _ => .int
theorem nmX6 : ∀ a, a < 3 → ∀ b, b < 3 → a ≠ b → (TX6 a).2.1 ≠ (TX6 b).2.1 := by decide +kernel
theorem tyX6_ok : ∀ k, k < 3 → parseFieldDescriptor (TX6 k).2.2.1 = some (tyX6 k) := by decide +kernel
abbrev cX6_init : ByteArray := prog_8_method_1_code
def yX6_init : MethodName := ⟨RX6, "<init>", "()V"⟩
abbrev cX6_remember : ByteArray := prog_8_method_2_code
def yX6_remember : MethodName := ⟨RX6, "remember", "(LGloveSigns$Hall;)V"⟩
abbrev cX6_bringBack : ByteArray := prog_8_method_3_code
def yX6_bringBack : MethodName := ⟨RX6, "bringBack", "(ILGloveSigns$Hall;)Z"⟩
abbrev cX6_forget : ByteArray := prog_8_method_4_code
def yX6_forget : MethodName := ⟨RX6, "forget", "()V"⟩
def RX7 : String := "GloveSigns$Season"
def TX7 : u_T := fun k => match k with
  | 0 => ("GloveSigns$Season", "manners", "I", false)
  | 1 => ("GloveSigns$Season", "comers", "I", false)
  | 2 => ("GloveSigns$Season", "houses", "I", false)
  | 3 => ("GloveSigns$Season", "worth", "[I", true)
  | 4 => ("GloveSigns$Season", "firstStuffing", "[I", true)
  | 5 => ("GloveSigns$Season", "firstMeaning", "[I", true)
  | 6 => ("GloveSigns$Season", "firstHardness", "[I", true)
  | 7 => ("GloveSigns$Season", "fern", "[I", true)
  | _ => ("GloveSigns$Season", "prizes", "[I", true)
def tyX7 : Nat → FieldType := fun k => match k with
  | 0 => .int
  | 1 => .int
  | 2 => .int
  | 3 => .array .int
  | 4 => .array .int
  | 5 => .array .int
  | 6 => .array .int
  | 7 => .array .int
  | _ => .array .int
theorem nmX7 : ∀ a, a < 9 → ∀ b, b < 9 → a ≠ b → (TX7 a).2.1 ≠ (TX7 b).2.1 := by decide +kernel
theorem tyX7_ok : ∀ k, k < 9 → parseFieldDescriptor (TX7 k).2.2.1 = some (tyX7 k) := by decide +kernel
abbrev cX7_init : ByteArray := prog_9_method_1_code
def yX7_init : MethodName := ⟨RX7, "<init>", "()V"⟩
abbrev cX7_isOn : ByteArray := prog_9_method_2_code
def yX7_isOn : MethodName := ⟨RX7, "isOn", "()Z"⟩
abbrev cX7_hasComer : ByteArray := prog_9_method_3_code
def yX7_hasComer : MethodName := ⟨RX7, "hasComer", "(I)Z"⟩
abbrev cX7_hasHouse : ByteArray := prog_9_method_4_code
def yX7_hasHouse : MethodName := ⟨RX7, "hasHouse", "(I)Z"⟩
abbrev cX7_hasBoth : ByteArray := prog_9_method_5_code
def yX7_hasBoth : MethodName := ⟨RX7, "hasBoth", "(II)Z"⟩
abbrev cX7_prizeOf : ByteArray := prog_9_method_6_code
def yX7_prizeOf : MethodName := ⟨RX7, "prizeOf", "(II)I"⟩
abbrev cX7_setPrize : ByteArray := prog_9_method_7_code
def yX7_setPrize : MethodName := ⟨RX7, "setPrize", "(III)V"⟩
abbrev cX7_addComer : ByteArray := prog_9_method_8_code
def yX7_addComer : MethodName := ⟨RX7, "addComer", "(III)V"⟩
abbrev cX7_addHouse : ByteArray := prog_9_method_9_code
def yX7_addHouse : MethodName := ⟨RX7, "addHouse", "(II)V"⟩
abbrev cX7_empty : ByteArray := prog_9_method_10_code
def yX7_empty : MethodName := ⟨RX7, "empty", "()V"⟩
abbrev cX7_become : ByteArray := prog_9_method_11_code
def yX7_become : MethodName := ⟨RX7, "become", "(LGloveSigns$Season;)V"⟩
def RX8 : String := "GloveSigns$Seen"
def TX8 : u_T := fun k => match k with
  | 0 => ("GloveSigns$Seen", "parts", "[I", true)
  | 1 => ("GloveSigns$Seen", "values", "[I", true)
  | _ => ("GloveSigns$Seen", "size", "I", false)
def tyX8 : Nat → FieldType := fun k => match k with
  | 0 => .array .int
  | 1 => .array .int
  | _ => .int
theorem nmX8 : ∀ a, a < 3 → ∀ b, b < 3 → a ≠ b → (TX8 a).2.1 ≠ (TX8 b).2.1 := by decide +kernel
theorem tyX8_ok : ∀ k, k < 3 → parseFieldDescriptor (TX8 k).2.2.1 = some (tyX8 k) := by decide +kernel
abbrev cX8_init : ByteArray := prog_10_method_1_code
def yX8_init : MethodName := ⟨RX8, "<init>", "()V"⟩
abbrev cX8_append : ByteArray := prog_10_method_2_code
def yX8_append : MethodName := ⟨RX8, "append", "(II)Z"⟩
abbrev cX8_forget : ByteArray := prog_10_method_3_code
def yX8_forget : MethodName := ⟨RX8, "forget", "()V"⟩
abbrev cX8_fits : ByteArray := prog_10_method_4_code
def yX8_fits : MethodName := ⟨RX8, "fits", "(II)Z"⟩
abbrev cX8_countFits : ByteArray := prog_10_method_5_code
def yX8_countFits : MethodName := ⟨RX8, "countFits", "(I)I"⟩
abbrev cX8_leastFit : ByteArray := prog_10_method_6_code
def yX8_leastFit : MethodName := ⟨RX8, "leastFit", "(I)I"⟩
abbrev cX8_meaningsThatFit : ByteArray := prog_10_method_7_code
def yX8_meaningsThatFit : MethodName := ⟨RX8, "meaningsThatFit", "(I)I"⟩
abbrev cX8_bestPart : ByteArray := prog_10_method_8_code
def yX8_bestPart : MethodName := ⟨RX8, "bestPart", "(I)I"⟩
abbrev cX8_mostAlike : ByteArray := prog_10_method_9_code
def yX8_mostAlike : MethodName := ⟨RX8, "mostAlike", "(II)I"⟩
abbrev cX8_countAlike : ByteArray := prog_10_method_10_code
def yX8_countAlike : MethodName := ⟨RX8, "countAlike", "(III)I"⟩
def RX9 : String := "GloveSigns$Text"
def TX9 : u_T := fun k => match k with
  | 0 => ("GloveSigns$Text", "letters", "[I", true)
  | 1 => ("GloveSigns$Text", "at", "I", false)
  | 2 => ("GloveSigns$Text", "size", "I", false)
  | 3 => ("GloveSigns$Text", "faultNumber", "I", false)
  | _ => ("GloveSigns$Text", "faultAt", "I", false)
def tyX9 : Nat → FieldType := fun k => match k with
  | 0 => .array .int
  | 1 => .int
  | 2 => .int
  | 3 => .int
  | _ => .int
theorem nmX9 : ∀ a, a < 5 → ∀ b, b < 5 → a ≠ b → (TX9 a).2.1 ≠ (TX9 b).2.1 := by decide +kernel
theorem tyX9_ok : ∀ k, k < 5 → parseFieldDescriptor (TX9 k).2.2.1 = some (tyX9 k) := by decide +kernel
abbrev cX9_init : ByteArray := prog_11_method_1_code
def yX9_init : MethodName := ⟨RX9, "<init>", "()V"⟩
abbrev cX9_append : ByteArray := prog_11_method_2_code
def yX9_append : MethodName := ⟨RX9, "append", "(I)Z"⟩
abbrev cX9_read : ByteArray := prog_11_method_3_code
def yX9_read : MethodName := ⟨RX9, "read", "(LGloveSigns$Season;)Z"⟩
abbrev cX9_readClause : ByteArray := prog_11_method_4_code
def yX9_readClause : MethodName := ⟨RX9, "readClause", "(LGloveSigns$Season;)V"⟩
abbrev cX9_readNumbers : ByteArray := prog_11_method_5_code
def yX9_readNumbers : MethodName := ⟨RX9, "readNumbers", "(ILGloveSigns$Season;)V"⟩
abbrev cX9_readPrizes : ByteArray := prog_11_method_6_code
def yX9_readPrizes : MethodName := ⟨RX9, "readPrizes", "(LGloveSigns$Season;)V"⟩
abbrev cX9_number : ByteArray := prog_11_method_7_code
def yX9_number : MethodName := ⟨RX9, "number", "(I)I"⟩
abbrev cX9_isFigure : ByteArray := prog_11_method_8_code
def yX9_isFigure : MethodName := ⟨RX9, "isFigure", "(I)Z"⟩
abbrev cX9_expectEnd : ByteArray := prog_11_method_9_code
def yX9_expectEnd : MethodName := ⟨RX9, "expectEnd", "()V"⟩
abbrev cX9_peek : ByteArray := prog_11_method_10_code
def yX9_peek : MethodName := ⟨RX9, "peek", "()I"⟩
abbrev cX9_fail : ByteArray := prog_11_method_11_code
def yX9_fail : MethodName := ⟨RX9, "fail", "(II)V"⟩
def RX10 : String := "GloveSigns$Trial"
def TX10 : u_T := fun k => match k with
  | 0 => ("GloveSigns$Trial", "told", "LGloveSigns$Season;", true)
  | _ => ("GloveSigns$Trial", "hall", "LGloveSigns$Hall;", true)
def tyX10 : Nat → FieldType := fun k => match k with
  | 0 => .object "GloveSigns$Season"
  | _ => .object "GloveSigns$Hall"
theorem nmX10 : ∀ a, a < 2 → ∀ b, b < 2 → a ≠ b → (TX10 a).2.1 ≠ (TX10 b).2.1 := by decide +kernel
theorem tyX10_ok : ∀ k, k < 2 → parseFieldDescriptor (TX10 k).2.2.1 = some (tyX10 k) := by decide +kernel
abbrev cX10_init : ByteArray := prog_12_method_1_code
def yX10_init : MethodName := ⟨RX10, "<init>", "(LGloveSigns$Season;LGloveSigns$Hall;)V"⟩
abbrev cX10_comers : ByteArray := prog_12_method_2_code
def yX10_comers : MethodName := ⟨RX10, "comers", "()I"⟩
abbrev cX10_houses : ByteArray := prog_12_method_3_code
def yX10_houses : MethodName := ⟨RX10, "houses", "()I"⟩
abbrev cX10_stuffingBelieved : ByteArray := prog_12_method_4_code
def yX10_stuffingBelieved : MethodName := ⟨RX10, "stuffingBelieved", "(II)I"⟩
abbrev cX10_heardStuffed : ByteArray := prog_12_method_5_code
def yX10_heardStuffed : MethodName := ⟨RX10, "heardStuffed", "(IIII)I"⟩
abbrev cX10_heard : ByteArray := prog_12_method_6_code
def yX10_heard : MethodName := ⟨RX10, "heard", "(III)I"⟩
abbrev cX10_answer : ByteArray := prog_12_method_7_code
def yX10_answer : MethodName := ⟨RX10, "answer", "(III)I"⟩
abbrev cX10_isSaidFor : ByteArray := prog_12_method_8_code
def yX10_isSaidFor : MethodName := ⟨RX10, "isSaidFor", "(II)Z"⟩
abbrev cX10_countLetIn : ByteArray := prog_12_method_9_code
def yX10_countLetIn : MethodName := ⟨RX10, "countLetIn", "(II)I"⟩
abbrev cX10_plainest : ByteArray := prog_12_method_10_code
def yX10_plainest : MethodName := ⟨RX10, "plainest", "(II)I"⟩
abbrev cX10_honest : ByteArray := prog_12_method_11_code
def yX10_honest : MethodName := ⟨RX10, "honest", "(II)I"⟩
abbrev cX10_gain : ByteArray := prog_12_method_12_code
def yX10_gain : MethodName := ⟨RX10, "gain", "(II)I"⟩
abbrev cX10_mostHeard : ByteArray := prog_12_method_13_code
def yX10_mostHeard : MethodName := ⟨RX10, "mostHeard", "(III)I"⟩
abbrev cX10_countMeaning : ByteArray := prog_12_method_14_code
def yX10_countMeaning : MethodName := ⟨RX10, "countMeaning", "(I)I"⟩
abbrev cX10_leastMeaning : ByteArray := prog_12_method_15_code
def yX10_leastMeaning : MethodName := ⟨RX10, "leastMeaning", "(I)I"⟩
abbrev cX10_openHouses : ByteArray := prog_12_method_16_code
def yX10_openHouses : MethodName := ⟨RX10, "openHouses", "(II)I"⟩
abbrev cX10_widestSign : ByteArray := prog_12_method_17_code
def yX10_widestSign : MethodName := ⟨RX10, "widestSign", "(I)I"⟩
abbrev cX10_suit : ByteArray := prog_12_method_18_code
def yX10_suit : MethodName := ⟨RX10, "suit", "(II)I"⟩
def RX11 : String := "GloveSigns"
def TX11 : u_T := fun k => match k with
  | 0 => ("GloveSigns", "text", "LGloveSigns$Text;", true)
  | 1 => ("GloveSigns", "draft", "LGloveSigns$Season;", true)
  | 2 => ("GloveSigns", "theSeason", "LGloveSigns$Season;", true)
  | 3 => ("GloveSigns", "hall", "LGloveSigns$Hall;", true)
  | 4 => ("GloveSigns", "trial", "LGloveSigns$Trial;", true)
  | 5 => ("GloveSigns", "matching", "LGloveSigns$Matching;", true)
  | 6 => ("GloveSigns", "past", "LGloveSigns$Past;", true)
  | 7 => ("GloveSigns", "firstImage", "LGloveSigns$Image;", true)
  | 8 => ("GloveSigns", "secondImage", "LGloveSigns$Image;", true)
  | 9 => ("GloveSigns", "seen", "LGloveSigns$Seen;", true)
  | 10 => ("GloveSigns", "book", "LGloveSigns$Book;", true)
  | _ => ("GloveSigns", "theSeed", "I", false)
def tyX11 : Nat → FieldType := fun k => match k with
  | 0 => .object "GloveSigns$Text"
  | 1 => .object "GloveSigns$Season"
  | 2 => .object "GloveSigns$Season"
  | 3 => .object "GloveSigns$Hall"
  | 4 => .object "GloveSigns$Trial"
  | 5 => .object "GloveSigns$Matching"
  | 6 => .object "GloveSigns$Past"
  | 7 => .object "GloveSigns$Image"
  | 8 => .object "GloveSigns$Image"
  | 9 => .object "GloveSigns$Seen"
  | 10 => .object "GloveSigns$Book"
  | _ => .int
theorem nmX11 : ∀ a, a < 12 → ∀ b, b < 12 → a ≠ b → (TX11 a).2.1 ≠ (TX11 b).2.1 := by decide +kernel
theorem tyX11_ok : ∀ k, k < 12 → parseFieldDescriptor (TX11 k).2.2.1 = some (tyX11 k) := by decide +kernel
abbrev cX11_init : ByteArray := prog_1_method_1_code
def yX11_init : MethodName := ⟨RX11, "<init>", "()V"⟩
abbrev cX11_feed : ByteArray := prog_1_method_2_code
def yX11_feed : MethodName := ⟨RX11, "feed", "(I)I"⟩
abbrev cX11_season : ByteArray := prog_1_method_3_code
def yX11_season : MethodName := ⟨RX11, "season", "()I"⟩
abbrev cX11_fault : ByteArray := prog_1_method_4_code
def yX11_fault : MethodName := ⟨RX11, "fault", "()I"⟩
abbrev cX11_told : ByteArray := prog_1_method_5_code
def yX11_told : MethodName := ⟨RX11, "told", "(I)I"⟩
abbrev cX11_comer : ByteArray := prog_1_method_6_code
def yX11_comer : MethodName := ⟨RX11, "comer", "(II)I"⟩
abbrev cX11_house : ByteArray := prog_1_method_7_code
def yX11_house : MethodName := ⟨RX11, "house", "(II)I"⟩
abbrev cX11_prize : ByteArray := prog_1_method_8_code
def yX11_prize : MethodName := ⟨RX11, "prize", "(II)I"⟩
abbrev cX11_calls : ByteArray := prog_1_method_9_code
def yX11_calls : MethodName := ⟨RX11, "calls", "(II)I"⟩
abbrev cX11_sign : ByteArray := prog_1_method_10_code
def yX11_sign : MethodName := ⟨RX11, "sign", "(II)I"⟩
abbrev cX11_logged : ByteArray := prog_1_method_11_code
def yX11_logged : MethodName := ⟨RX11, "logged", "(II)I"⟩
abbrev cX11_visit : ByteArray := prog_1_method_12_code
def yX11_visit : MethodName := ⟨RX11, "visit", "(III)I"⟩
abbrev cX11_day : ByteArray := prog_1_method_13_code
def yX11_day : MethodName := ⟨RX11, "day", "(I)I"⟩
abbrev cX11_mean : ByteArray := prog_1_method_14_code
def yX11_mean : MethodName := ⟨RX11, "mean", "(II)I"⟩
abbrev cX11_stuff : ByteArray := prog_1_method_15_code
def yX11_stuff : MethodName := ⟨RX11, "stuff", "(II)I"⟩
abbrev cX11_pardon : ByteArray := prog_1_method_16_code
def yX11_pardon : MethodName := ⟨RX11, "pardon", "(II)I"⟩
abbrev cX11_drift : ByteArray := prog_1_method_17_code
def yX11_drift : MethodName := ⟨RX11, "drift", "(I)I"⟩
abbrev cX11_undo : ByteArray := prog_1_method_18_code
def yX11_undo : MethodName := ⟨RX11, "undo", "(I)I"⟩
abbrev cX11_says : ByteArray := prog_1_method_19_code
def yX11_says : MethodName := ⟨RX11, "says", "(IIII)I"⟩
abbrev cX11_signs : ByteArray := prog_1_method_20_code
def yX11_signs : MethodName := ⟨RX11, "signs", "(III)I"⟩
abbrev cX11_gains : ByteArray := prog_1_method_21_code
def yX11_gains : MethodName := ⟨RX11, "gains", "(II)I"⟩
abbrev cX11_clear : ByteArray := prog_1_method_22_code
def yX11_clear : MethodName := ⟨RX11, "clear", "(II)I"⟩
abbrev cX11_letIn : ByteArray := prog_1_method_23_code
def yX11_letIn : MethodName := ⟨RX11, "letIn", "(II)I"⟩
abbrev cX11_round : ByteArray := prog_1_method_24_code
def yX11_round : MethodName := ⟨RX11, "round", "(II)I"⟩
abbrev cX11_suits : ByteArray := prog_1_method_25_code
def yX11_suits : MethodName := ⟨RX11, "suits", "(II)I"⟩
abbrev cX11_dry : ByteArray := prog_1_method_26_code
def yX11_dry : MethodName := ⟨RX11, "dry", "(II)I"⟩
abbrev cX11_meant : ByteArray := prog_1_method_27_code
def yX11_meant : MethodName := ⟨RX11, "meant", "(II)I"⟩
abbrev cX11_couldBe : ByteArray := prog_1_method_28_code
def yX11_couldBe : MethodName := ⟨RX11, "couldBe", "(I)I"⟩
abbrev cX11_part : ByteArray := prog_1_method_29_code
def yX11_part : MethodName := ⟨RX11, "part", "()I"⟩
abbrev cX11_write : ByteArray := prog_1_method_30_code
def yX11_write : MethodName := ⟨RX11, "write", "(II)I"⟩
abbrev cX11_judge : ByteArray := prog_1_method_31_code
def yX11_judge : MethodName := ⟨RX11, "judge", "()I"⟩
abbrev cX11_tear : ByteArray := prog_1_method_32_code
def yX11_tear : MethodName := ⟨RX11, "tear", "()I"⟩
abbrev cX11_seed : ByteArray := prog_1_method_33_code
def yX11_seed : MethodName := ⟨RX11, "seed", "(I)I"⟩
abbrev cX11_keep : ByteArray := prog_1_method_34_code
def yX11_keep : MethodName := ⟨RX11, "keep", "(I)I"⟩
abbrev cX11_goBack : ByteArray := prog_1_method_35_code
def yX11_goBack : MethodName := ⟨RX11, "goBack", "(I)I"⟩
abbrev cX11_isWithin : ByteArray := prog_1_method_36_code
def yX11_isWithin : MethodName := ⟨RX11, "isWithin", "(II)Z"⟩
abbrev cX11_refusalOfDays : ByteArray := prog_1_method_37_code
def yX11_refusalOfDays : MethodName := ⟨RX11, "refusalOfDays", "(I)I"⟩
abbrev cX11_lay : ByteArray := prog_1_method_38_code
def yX11_lay : MethodName := ⟨RX11, "lay", "(III)I"⟩
abbrev cX11_layByDraws : ByteArray := prog_1_method_39_code
def yX11_layByDraws : MethodName := ⟨RX11, "layByDraws", "()V"⟩
abbrev cX11_draw : ByteArray := prog_1_method_40_code
def yX11_draw : MethodName := ⟨RX11, "draw", "(I)I"⟩
def RX12 : String := "GloveSignsModel"
def TX12 : u_T := fun k => match k with
  | 0 => ("GloveSignsModel", "letterMany", "I", false)
  | 1 => ("GloveSignsModel", "text", "[I", true)
  | 2 => ("GloveSignsModel", "readAt", "I", false)
  | 3 => ("GloveSignsModel", "numberAt", "I", false)
  | 4 => ("GloveSignsModel", "readFault", "I", false)
  | 5 => ("GloveSignsModel", "faultAt", "I", false)
  | 6 => ("GloveSignsModel", "readManners", "I", false)
  | 7 => ("GloveSignsModel", "readComers", "I", false)
  | 8 => ("GloveSignsModel", "readHouses", "I", false)
  | 9 => ("GloveSignsModel", "readWorth", "[I", true)
  | 10 => ("GloveSignsModel", "readStuff", "[I", true)
  | 11 => ("GloveSignsModel", "readMeans", "[I", true)
  | 12 => ("GloveSignsModel", "readUp", "[I", true)
  | 13 => ("GloveSignsModel", "readFern", "[I", true)
  | 14 => ("GloveSignsModel", "readPrize", "[I", true)
  | 15 => ("GloveSignsModel", "manners", "I", false)
  | 16 => ("GloveSignsModel", "m", "I", false)
  | 17 => ("GloveSignsModel", "n", "I", false)
  | 18 => ("GloveSignsModel", "worths", "[I", true)
  | 19 => ("GloveSignsModel", "ferns", "[I", true)
  | 20 => ("GloveSignsModel", "prizes", "[I", true)
  | 21 => ("GloveSignsModel", "now", "[I", true)
  | 22 => ("GloveSignsModel", "matched", "[I", true)
  | 23 => ("GloveSignsModel", "keeps", "[I", true)
  | 24 => ("GloveSignsModel", "refused", "[I", true)
  | 25 => ("GloveSignsModel", "undoMany", "I", false)
  | 26 => ("GloveSignsModel", "undoAt", "I", false)
  | 27 => ("GloveSignsModel", "undos", "[I", true)
  | 28 => ("GloveSignsModel", "seeded", "J", false)
  | 29 => ("GloveSignsModel", "meantMany", "I", false)
  | 30 => ("GloveSignsModel", "meantPart", "[I", true)
  | 31 => ("GloveSignsModel", "meantIs", "[I", true)
  | 32 => ("GloveSignsModel", "bookMany", "I", false)
  | 33 => ("GloveSignsModel", "bookHouse", "[I", true)
  | 34 => ("GloveSignsModel", "bookUp", "[I", true)
  | 35 => ("GloveSignsModel", "isKept", "[Z", true)
  | 36 => ("GloveSignsModel", "kept", "[I", true)
  | _ => ("GloveSignsModel", "keptSeed", "[J", true)
def tyX12 : Nat → FieldType := fun k => match k with
  | 0 => .int
  | 1 => .array .int
  | 2 => .int
  | 3 => .int
  | 4 => .int
  | 5 => .int
  | 6 => .int
  | 7 => .int
  | 8 => .int
  | 9 => .array .int
  | 10 => .array .int
  | 11 => .array .int
  | 12 => .array .int
  | 13 => .array .int
  | 14 => .array .int
  | 15 => .int
  | 16 => .int
  | 17 => .int
  | 18 => .array .int
  | 19 => .array .int
  | 20 => .array .int
  | 21 => .array .int
  | 22 => .array .int
  | 23 => .array .int
  | 24 => .array .int
  | 25 => .int
  | 26 => .int
  | 27 => .array .int
  | 28 => .long
  | 29 => .int
  | 30 => .array .int
  | 31 => .array .int
  | 32 => .int
  | 33 => .array .int
  | 34 => .array .int
  | 35 => .array .boolean
  | 36 => .array .int
  | _ => .array .long
theorem nmX12 : ∀ a, a < 38 → ∀ b, b < 38 → a ≠ b → (TX12 a).2.1 ≠ (TX12 b).2.1 := by decide +kernel
theorem tyX12_ok : ∀ k, k < 38 → parseFieldDescriptor (TX12 k).2.2.1 = some (tyX12 k) := by decide +kernel
abbrev cX12_init : ByteArray := prog_14_method_1_code
def yX12_init : MethodName := ⟨RX12, "<init>", "()V"⟩
abbrev cX12_in : ByteArray := prog_14_method_2_code
def yX12_in : MethodName := ⟨RX12, "in", "(III)Z"⟩
abbrev cX12_has : ByteArray := prog_14_method_3_code
def yX12_has : MethodName := ⟨RX12, "has", "(II)Z"⟩
abbrev cX12_bits : ByteArray := prog_14_method_4_code
def yX12_bits : MethodName := ⟨RX12, "bits", "(I)I"⟩
abbrev cX12_feed : ByteArray := prog_14_method_5_code
def yX12_feed : MethodName := ⟨RX12, "feed", "(I)I"⟩
abbrev cX12_letterAt : ByteArray := prog_14_method_6_code
def yX12_letterAt : MethodName := ⟨RX12, "letterAt", "(I)I"⟩
abbrev cX12_nextLetter : ByteArray := prog_14_method_7_code
def yX12_nextLetter : MethodName := ⟨RX12, "nextLetter", "()I"⟩
abbrev cX12_fails : ByteArray := prog_14_method_8_code
def yX12_fails : MethodName := ⟨RX12, "fails", "(II)I"⟩
abbrev cX12_readsNumber : ByteArray := prog_14_method_9_code
def yX12_readsNumber : MethodName := ⟨RX12, "readsNumber", "(II)I"⟩
abbrev cX12_readsSign : ByteArray := prog_14_method_10_code
def yX12_readsSign : MethodName := ⟨RX12, "readsSign", "(I)Z"⟩
abbrev cX12_readsHead : ByteArray := prog_14_method_11_code
def yX12_readsHead : MethodName := ⟨RX12, "readsHead", "()Z"⟩
abbrev cX12_readsComer : ByteArray := prog_14_method_12_code
def yX12_readsComer : MethodName := ⟨RX12, "readsComer", "()Z"⟩
abbrev cX12_readsHouse : ByteArray := prog_14_method_13_code
def yX12_readsHouse : MethodName := ⟨RX12, "readsHouse", "()Z"⟩
abbrev cX12_readsClause : ByteArray := prog_14_method_14_code
def yX12_readsClause : MethodName := ⟨RX12, "readsClause", "()Z"⟩
abbrev cX12_readsSeason : ByteArray := prog_14_method_15_code
def yX12_readsSeason : MethodName := ⟨RX12, "readsSeason", "()Z"⟩
abbrev cX12_season : ByteArray := prog_14_method_16_code
def yX12_season : MethodName := ⟨RX12, "season", "()I"⟩
abbrev cX12_fault : ByteArray := prog_14_method_17_code
def yX12_fault : MethodName := ⟨RX12, "fault", "()I"⟩
abbrev cX12_isSeason : ByteArray := prog_14_method_18_code
def yX12_isSeason : MethodName := ⟨RX12, "isSeason", "()Z"⟩
abbrev cX12_isComer : ByteArray := prog_14_method_19_code
def yX12_isComer : MethodName := ⟨RX12, "isComer", "(I)Z"⟩
abbrev cX12_isHouse : ByteArray := prog_14_method_20_code
def yX12_isHouse : MethodName := ⟨RX12, "isHouse", "(I)Z"⟩
abbrev cX12_areBoth : ByteArray := prog_14_method_21_code
def yX12_areBoth : MethodName := ⟨RX12, "areBoth", "(II)Z"⟩
abbrev cX12_isSign : ByteArray := prog_14_method_22_code
def yX12_isSign : MethodName := ⟨RX12, "isSign", "(I)Z"⟩
abbrev cX12_isSaid : ByteArray := prog_14_method_23_code
def yX12_isSaid : MethodName := ⟨RX12, "isSaid", "(I)Z"⟩
abbrev cX12_meaning : ByteArray := prog_14_method_24_code
def yX12_meaning : MethodName := ⟨RX12, "meaning", "(I)I"⟩
abbrev cX12_hears : ByteArray := prog_14_method_25_code
def yX12_hears : MethodName := ⟨RX12, "hears", "(IIII)I"⟩
abbrev cX12_heard : ByteArray := prog_14_method_26_code
def yX12_heard : MethodName := ⟨RX12, "heard", "(III)I"⟩
abbrev cX12_answer : ByteArray := prog_14_method_27_code
def yX12_answer : MethodName := ⟨RX12, "answer", "(III)I"⟩
abbrev cX12_callsAt : ByteArray := prog_14_method_28_code
def yX12_callsAt : MethodName := ⟨RX12, "callsAt", "(I)I"⟩
abbrev cX12_callsOfAll : ByteArray := prog_14_method_29_code
def yX12_callsOfAll : MethodName := ⟨RX12, "callsOfAll", "()I"⟩
abbrev cX12_welcome : ByteArray := prog_14_method_30_code
def yX12_welcome : MethodName := ⟨RX12, "welcome", "()I"⟩
abbrev cX12_coldest : ByteArray := prog_14_method_31_code
def yX12_coldest : MethodName := ⟨RX12, "coldest", "()I"⟩
abbrev cX12_saidMany : ByteArray := prog_14_method_32_code
def yX12_saidMany : MethodName := ⟨RX12, "saidMany", "()I"⟩
abbrev cX12_told : ByteArray := prog_14_method_33_code
def yX12_told : MethodName := ⟨RX12, "told", "(I)I"⟩
abbrev cX12_bestHouse : ByteArray := prog_14_method_34_code
def yX12_bestHouse : MethodName := ⟨RX12, "bestHouse", "(I)I"⟩
abbrev cX12_asks : ByteArray := prog_14_method_35_code
def yX12_asks : MethodName := ⟨RX12, "asks", "(II)V"⟩
abbrev cX12_matches : ByteArray := prog_14_method_36_code
def yX12_matches : MethodName := ⟨RX12, "matches", "()V"⟩
abbrev cX12_comer : ByteArray := prog_14_method_37_code
def yX12_comer : MethodName := ⟨RX12, "comer", "(II)I"⟩
abbrev cX12_house : ByteArray := prog_14_method_38_code
def yX12_house : MethodName := ⟨RX12, "house", "(II)I"⟩
abbrev cX12_prize : ByteArray := prog_14_method_39_code
def yX12_prize : MethodName := ⟨RX12, "prize", "(II)I"⟩
abbrev cX12_calls : ByteArray := prog_14_method_40_code
def yX12_calls : MethodName := ⟨RX12, "calls", "(II)I"⟩
abbrev cX12_sign : ByteArray := prog_14_method_41_code
def yX12_sign : MethodName := ⟨RX12, "sign", "(II)I"⟩
abbrev cX12_logged : ByteArray := prog_14_method_42_code
def yX12_logged : MethodName := ⟨RX12, "logged", "(II)I"⟩
abbrev cX12_remember : ByteArray := prog_14_method_43_code
def yX12_remember : MethodName := ⟨RX12, "remember", "()V"⟩
abbrev cX12_enters : ByteArray := prog_14_method_44_code
def yX12_enters : MethodName := ⟨RX12, "enters", "(IIII)V"⟩
abbrev cX12_visits : ByteArray := prog_14_method_45_code
def yX12_visits : MethodName := ⟨RX12, "visits", "(III)I"⟩
abbrev cX12_visit : ByteArray := prog_14_method_46_code
def yX12_visit : MethodName := ⟨RX12, "visit", "(III)I"⟩
abbrev cX12_days : ByteArray := prog_14_method_47_code
def yX12_days : MethodName := ⟨RX12, "days", "()V"⟩
abbrev cX12_needDays : ByteArray := prog_14_method_48_code
def yX12_needDays : MethodName := ⟨RX12, "needDays", "(I)I"⟩
abbrev cX12_day : ByteArray := prog_14_method_49_code
def yX12_day : MethodName := ⟨RX12, "day", "(I)I"⟩
abbrev cX12_becomes : ByteArray := prog_14_method_50_code
def yX12_becomes : MethodName := ⟨RX12, "becomes", "(II)I"⟩
abbrev cX12_mean : ByteArray := prog_14_method_51_code
def yX12_mean : MethodName := ⟨RX12, "mean", "(II)I"⟩
abbrev cX12_stuff : ByteArray := prog_14_method_52_code
def yX12_stuff : MethodName := ⟨RX12, "stuff", "(II)I"⟩
abbrev cX12_pardon : ByteArray := prog_14_method_53_code
def yX12_pardon : MethodName := ⟨RX12, "pardon", "(II)I"⟩
abbrev cX12_draw : ByteArray := prog_14_method_54_code
def yX12_draw : MethodName := ⟨RX12, "draw", "(I)I"⟩
abbrev cX12_drift : ByteArray := prog_14_method_55_code
def yX12_drift : MethodName := ⟨RX12, "drift", "(I)I"⟩
abbrev cX12_undo : ByteArray := prog_14_method_56_code
def yX12_undo : MethodName := ⟨RX12, "undo", "(I)I"⟩
abbrev cX12_says : ByteArray := prog_14_method_57_code
def yX12_says : MethodName := ⟨RX12, "says", "(IIII)I"⟩
abbrev cX12_partsOf : ByteArray := prog_14_method_58_code
def yX12_partsOf : MethodName := ⟨RX12, "partsOf", "(I)I"⟩
abbrev cX12_isHonest : ByteArray := prog_14_method_59_code
def yX12_isHonest : MethodName := ⟨RX12, "isHonest", "(II)Z"⟩
abbrev cX12_signs : ByteArray := prog_14_method_60_code
def yX12_signs : MethodName := ⟨RX12, "signs", "(III)I"⟩
abbrev cX12_mostHeard : ByteArray := prog_14_method_61_code
def yX12_mostHeard : MethodName := ⟨RX12, "mostHeard", "(III)I"⟩
abbrev cX12_gains : ByteArray := prog_14_method_62_code
def yX12_gains : MethodName := ⟨RX12, "gains", "(II)I"⟩
abbrev cX12_clear : ByteArray := prog_14_method_63_code
def yX12_clear : MethodName := ⟨RX12, "clear", "(II)I"⟩
abbrev cX12_letInBy : ByteArray := prog_14_method_64_code
def yX12_letInBy : MethodName := ⟨RX12, "letInBy", "(II)I"⟩
abbrev cX12_letIn : ByteArray := prog_14_method_65_code
def yX12_letIn : MethodName := ⟨RX12, "letIn", "(II)I"⟩
abbrev cX12_round : ByteArray := prog_14_method_66_code
def yX12_round : MethodName := ⟨RX12, "round", "(II)I"⟩
abbrev cX12_suitsOf : ByteArray := prog_14_method_67_code
def yX12_suitsOf : MethodName := ⟨RX12, "suitsOf", "(II)I"⟩
abbrev cX12_suits : ByteArray := prog_14_method_68_code
def yX12_suits : MethodName := ⟨RX12, "suits", "(II)I"⟩
abbrev cX12_dry : ByteArray := prog_14_method_69_code
def yX12_dry : MethodName := ⟨RX12, "dry", "(II)I"⟩
abbrev cX12_meant : ByteArray := prog_14_method_70_code
def yX12_meant : MethodName := ⟨RX12, "meant", "(II)I"⟩
abbrev cX12_partOf : ByteArray := prog_14_method_71_code
def yX12_partOf : MethodName := ⟨RX12, "partOf", "(II)I"⟩
abbrev cX12_couldBeSo : ByteArray := prog_14_method_72_code
def yX12_couldBeSo : MethodName := ⟨RX12, "couldBeSo", "(I)Z"⟩
abbrev cX12_couldBe : ByteArray := prog_14_method_73_code
def yX12_couldBe : MethodName := ⟨RX12, "couldBe", "(I)I"⟩
abbrev cX12_alike : ByteArray := prog_14_method_74_code
def yX12_alike : MethodName := ⟨RX12, "alike", "(I)I"⟩
abbrev cX12_part : ByteArray := prog_14_method_75_code
def yX12_part : MethodName := ⟨RX12, "part", "()I"⟩
abbrev cX12_write : ByteArray := prog_14_method_76_code
def yX12_write : MethodName := ⟨RX12, "write", "(II)I"⟩
abbrev cX12_judge : ByteArray := prog_14_method_77_code
def yX12_judge : MethodName := ⟨RX12, "judge", "()I"⟩
abbrev cX12_tear : ByteArray := prog_14_method_78_code
def yX12_tear : MethodName := ⟨RX12, "tear", "()I"⟩
abbrev cX12_seed : ByteArray := prog_14_method_79_code
def yX12_seed : MethodName := ⟨RX12, "seed", "(I)I"⟩
abbrev cX12_keep : ByteArray := prog_14_method_80_code
def yX12_keep : MethodName := ⟨RX12, "keep", "(I)I"⟩
abbrev cX12_goBack : ByteArray := prog_14_method_81_code
def yX12_goBack : MethodName := ⟨RX12, "goBack", "(I)I"⟩
def RJ6 : String := "java/lang/Integer"
def TJ6 : u_T := fun k => match k with
  | _ => ("", "", "", false)
def tyJ6 : Nat → FieldType := fun k => match k with
  | _ => .int
abbrev wsJ60 : List Cond := u_ws RJ6 TJ6 0
theorem nmJ6 : ∀ a, a < 0 → ∀ b, b < 0 → a ≠ b → (TJ6 a).2.1 ≠ (TJ6 b).2.1 := by decide +kernel
theorem tyJ6_ok : ∀ k, k < 0 → parseFieldDescriptor (TJ6 k).2.2.1 = some (tyJ6 k) := by decide +kernel
abbrev cJ6_bitCount_0f7a4 : ByteArray := prog_15_method_49_code
def yJ6_bitCount_0f7a4 : MethodName := ⟨RJ6, "bitCount", "(I)I"⟩
def RJ9 : String := "java/lang/Math"
def TJ9 : u_T := fun k => match k with
  | _ => ("", "", "", false)
def tyJ9 : Nat → FieldType := fun k => match k with
  | _ => .int
abbrev wsJ90 : List Cond := u_ws RJ9 TJ9 0
theorem nmJ9 : ∀ a, a < 0 → ∀ b, b < 0 → a ≠ b → (TJ9 a).2.1 ≠ (TJ9 b).2.1 := by decide +kernel
theorem tyJ9_ok : ∀ k, k < 0 → parseFieldDescriptor (TJ9 k).2.2.1 = some (tyJ9 k) := by decide +kernel
abbrev cJ9_max_7cf53 : ByteArray := prog_16_method_65_code
def yJ9_max_7cf53 : MethodName := ⟨RJ9, "max", "(II)I"⟩
abbrev cJ9_min_7cf53 : ByteArray := prog_16_method_69_code
def yJ9_min_7cf53 : MethodName := ⟨RJ9, "min", "(II)I"⟩
def RJ10 : String := "java/lang/System"
def TJ10 : u_T := fun k => match k with
  | _ => ("", "", "", false)
def tyJ10 : Nat → FieldType := fun k => match k with
  | _ => .int
abbrev wsJ100 : List Cond := u_ws RJ10 TJ10 0
theorem nmJ10 : ∀ a, a < 0 → ∀ b, b < 0 → a ≠ b → (TJ10 a).2.1 ≠ (TJ10 b).2.1 := by decide +kernel
theorem tyJ10_ok : ∀ k, k < 0 → parseFieldDescriptor (TJ10 k).2.2.1 = some (tyJ10 k) := by decide +kernel
def RJ7 : String := "java/util/Arrays"
def TJ7 : u_T := fun k => match k with
  | _ => ("", "", "", false)
def tyJ7 : Nat → FieldType := fun k => match k with
  | _ => .int
abbrev wsJ70 : List Cond := u_ws RJ7 TJ7 0
theorem nmJ7 : ∀ a, a < 0 → ∀ b, b < 0 → a ≠ b → (TJ7 a).2.1 ≠ (TJ7 b).2.1 := by decide +kernel
theorem tyJ7_ok : ∀ k, k < 0 → parseFieldDescriptor (TJ7 k).2.2.1 = some (tyJ7 k) := by decide +kernel
abbrev cJ7_fill_53178 : ByteArray := prog_18_method_103_code
def yJ7_fill_53178 : MethodName := ⟨RJ7, "fill", "([II)V"⟩
def RL : String := "GloveSignsLaw"
abbrev cL_law : ByteArray := code
def yL_law : MethodName := ⟨RL, "law", "([I)Z"⟩
abbrev qcl : List vw_C := [(RX0, TX0, 3), (RX1, TX1, 0), (RX2, TX2, 9), (RX3, TX3, 3), (RX4, TX4, 3), (RX5, TX5, 6), (RX6, TX6, 3), (RX7, TX7, 9), (RX8, TX8, 3), (RX9, TX9, 5), (RX10, TX10, 2), (RX11, TX11, 12), (RX12, TX12, 38)]
def qtb : List Cond := lw_tbl.filter goodWord
theorem q_mt (i : Nat) {w : Cond} (h : lw_tbl[i]? = some w) (hg : goodWord w = true) : w ∈ qtb := List.mem_filter.mpr ⟨List.mem_of_getElem? h, hg⟩
theorem q_mts (ps : List Nat) {ws : List Cond} (h : ws = ps.filterMap (fun i => lw_tbl[i]?)) (hg : ws.all goodWord = true) : ∀ w ∈ ws, w ∈ qtb := by
  intro w hw
  have h1 := List.all_eq_true.mp hg w hw
  rw [h] at hw
  obtain ⟨i, -, hi⟩ := List.mem_filterMap.mp hw
  exact q_mt i hi h1
theorem q_fX0 : ∀ w ∈ u_ws RX0 TX0 3, w ∈ qtb := q_mts [334, 336, 338] (by decide +kernel) (by decide +kernel)
theorem q_fX2 : ∀ w ∈ u_ws RX2 TX2 9, w ∈ qtb := q_mts [184, 186, 188, 190, 192, 194, 196, 198, 200] (by decide +kernel) (by decide +kernel)
theorem q_fX3 : ∀ w ∈ u_ws RX3 TX3 3, w ∈ qtb := q_mts [300, 302, 304] (by decide +kernel) (by decide +kernel)
theorem q_fX4 : ∀ w ∈ u_ws RX4 TX4 3, w ∈ qtb := q_mts [157, 159, 161] (by decide +kernel) (by decide +kernel)
theorem q_fX5 : ∀ w ∈ u_ws RX5 TX5 6, w ∈ qtb := q_mts [253, 255, 257, 259, 261, 263] (by decide +kernel) (by decide +kernel)
theorem q_fX6 : ∀ w ∈ u_ws RX6 TX6 3, w ∈ qtb := q_mts [279, 281, 283] (by decide +kernel) (by decide +kernel)
theorem q_fX7 : ∀ w ∈ u_ws RX7 TX7 9, w ∈ qtb := q_mts [121, 123, 125, 127, 129, 131, 133, 135, 137] (by decide +kernel) (by decide +kernel)
theorem q_fX8 : ∀ w ∈ u_ws RX8 TX8 3, w ∈ qtb := q_mts [317, 319, 321] (by decide +kernel) (by decide +kernel)
theorem q_fX9 : ∀ w ∈ u_ws RX9 TX9 5, w ∈ qtb := q_mts [230, 232, 234, 236, 238] (by decide +kernel) (by decide +kernel)
theorem q_fX10 : ∀ w ∈ u_ws RX10 TX10 2, w ∈ qtb := q_mts [211, 213] (by decide +kernel) (by decide +kernel)
theorem q_fX11 : ∀ w ∈ u_ws RX11 TX11 12, w ∈ qtb := q_mts [353, 355, 357, 359, 361, 363, 365, 367, 369, 371, 373, 375] (by decide +kernel) (by decide +kernel)
theorem q_fX12 : ∀ w ∈ u_ws RX12 TX12 38, w ∈ qtb := q_mts [959, 961, 963, 965, 967, 969, 971, 973, 975, 977, 979, 981, 983, 985, 987, 989, 991, 993, 995, 997, 999, 1001, 1003, 1005, 1007, 1009, 1011, 1013, 1015, 1017, 1019, 1021, 1023, 1025, 1027, 1029, 1031, 1033] (by decide +kernel) (by decide +kernel)
theorem q_se_yX9_peek : (Cond.selects RX9 yX9_peek yX9_peek) ∈ qtb := q_mt 0 (by decide +kernel) (by decide +kernel)
theorem q_se_yX9_readClause : (Cond.selects RX9 yX9_readClause yX9_readClause) ∈ qtb := q_mt 1 (by decide +kernel) (by decide +kernel)
theorem q_se_yX9_fail : (Cond.selects RX9 yX9_fail yX9_fail) ∈ qtb := q_mt 2 (by decide +kernel) (by decide +kernel)
theorem q_se_yX9_readNumbers : (Cond.selects RX9 yX9_readNumbers yX9_readNumbers) ∈ qtb := q_mt 3 (by decide +kernel) (by decide +kernel)
theorem q_se_yX9_number : (Cond.selects RX9 yX9_number yX9_number) ∈ qtb := q_mt 4 (by decide +kernel) (by decide +kernel)
theorem q_se_yX9_readPrizes : (Cond.selects RX9 yX9_readPrizes yX9_readPrizes) ∈ qtb := q_mt 5 (by decide +kernel) (by decide +kernel)
theorem q_se_yX9_expectEnd : (Cond.selects RX9 yX9_expectEnd yX9_expectEnd) ∈ qtb := q_mt 6 (by decide +kernel) (by decide +kernel)
theorem q_se_yX5_settle : (Cond.selects RX5 yX5_settle yX5_settle) ∈ qtb := q_mt 7 (by decide +kernel) (by decide +kernel)
theorem q_se_yX5_begin : (Cond.selects RX5 yX5_begin yX5_begin) ∈ qtb := q_mt 8 (by decide +kernel) (by decide +kernel)
theorem q_se_yX10_stuffingBelieved : (Cond.selects RX10 yX10_stuffingBelieved yX10_stuffingBelieved) ∈ qtb := q_mt 9 (by decide +kernel) (by decide +kernel)
theorem q_se_yX10_isSaidFor : (Cond.selects RX10 yX10_isSaidFor yX10_isSaidFor) ∈ qtb := q_mt 10 (by decide +kernel) (by decide +kernel)
theorem q_se_yX10_heardStuffed : (Cond.selects RX10 yX10_heardStuffed yX10_heardStuffed) ∈ qtb := q_mt 11 (by decide +kernel) (by decide +kernel)
theorem q_se_yX5_firstWaiting : (Cond.selects RX5 yX5_firstWaiting yX5_firstWaiting) ∈ qtb := q_mt 12 (by decide +kernel) (by decide +kernel)
theorem q_se_yX5_bestLeft : (Cond.selects RX5 yX5_bestLeft yX5_bestLeft) ∈ qtb := q_mt 13 (by decide +kernel) (by decide +kernel)
theorem q_se_yX5_ask : (Cond.selects RX5 yX5_ask yX5_ask) ∈ qtb := q_mt 14 (by decide +kernel) (by decide +kernel)
theorem q_se_yX5_join : (Cond.selects RX5 yX5_join yX5_join) ∈ qtb := q_mt 15 (by decide +kernel) (by decide +kernel)
theorem q_se_yX5_isPreferred : (Cond.selects RX5 yX5_isPreferred yX5_isPreferred) ∈ qtb := q_mt 16 (by decide +kernel) (by decide +kernel)
theorem q_se_yX11_lay : (Cond.selects RX11 yX11_lay yX11_lay) ∈ qtb := q_mt 17 (by decide +kernel) (by decide +kernel)
theorem q_se_yX11_refusalOfDays : (Cond.selects RX11 yX11_refusalOfDays yX11_refusalOfDays) ∈ qtb := q_mt 18 (by decide +kernel) (by decide +kernel)
theorem q_se_yX11_layByDraws : (Cond.selects RX11 yX11_layByDraws yX11_layByDraws) ∈ qtb := q_mt 19 (by decide +kernel) (by decide +kernel)
theorem q_se_yX11_draw : (Cond.selects RX11 yX11_draw yX11_draw) ∈ qtb := q_mt 20 (by decide +kernel) (by decide +kernel)
theorem q_se_yX10_mostHeard : (Cond.selects RX10 yX10_mostHeard yX10_mostHeard) ∈ qtb := q_mt 21 (by decide +kernel) (by decide +kernel)
theorem q_se_yX8_fits : (Cond.selects RX8 yX8_fits yX8_fits) ∈ qtb := q_mt 22 (by decide +kernel) (by decide +kernel)
theorem q_se_yX8_mostAlike : (Cond.selects RX8 yX8_mostAlike yX8_mostAlike) ∈ qtb := q_mt 23 (by decide +kernel) (by decide +kernel)
theorem q_se_yX8_countAlike : (Cond.selects RX8 yX8_countAlike yX8_countAlike) ∈ qtb := q_mt 24 (by decide +kernel) (by decide +kernel)
theorem q_se_yX12_readsSeason : (Cond.selects RX12 yX12_readsSeason yX12_readsSeason) ∈ qtb := q_mt 25 (by decide +kernel) (by decide +kernel)
theorem q_se_yX12_nextLetter : (Cond.selects RX12 yX12_nextLetter yX12_nextLetter) ∈ qtb := q_mt 26 (by decide +kernel) (by decide +kernel)
theorem q_se_yX12_letterAt : (Cond.selects RX12 yX12_letterAt yX12_letterAt) ∈ qtb := q_mt 27 (by decide +kernel) (by decide +kernel)
theorem q_se_yX12_readsClause : (Cond.selects RX12 yX12_readsClause yX12_readsClause) ∈ qtb := q_mt 28 (by decide +kernel) (by decide +kernel)
theorem q_se_yX12_readsHead : (Cond.selects RX12 yX12_readsHead yX12_readsHead) ∈ qtb := q_mt 29 (by decide +kernel) (by decide +kernel)
theorem q_se_yX12_readsNumber : (Cond.selects RX12 yX12_readsNumber yX12_readsNumber) ∈ qtb := q_mt 30 (by decide +kernel) (by decide +kernel)
theorem q_se_yX12_fails : (Cond.selects RX12 yX12_fails yX12_fails) ∈ qtb := q_mt 31 (by decide +kernel) (by decide +kernel)
theorem q_se_yX12_readsSign : (Cond.selects RX12 yX12_readsSign yX12_readsSign) ∈ qtb := q_mt 32 (by decide +kernel) (by decide +kernel)
theorem q_se_yX12_readsComer : (Cond.selects RX12 yX12_readsComer yX12_readsComer) ∈ qtb := q_mt 33 (by decide +kernel) (by decide +kernel)
theorem q_se_yX12_readsHouse : (Cond.selects RX12 yX12_readsHouse yX12_readsHouse) ∈ qtb := q_mt 34 (by decide +kernel) (by decide +kernel)
theorem q_se_yX12_callsOfAll : (Cond.selects RX12 yX12_callsOfAll yX12_callsOfAll) ∈ qtb := q_mt 35 (by decide +kernel) (by decide +kernel)
theorem q_se_yX12_callsAt : (Cond.selects RX12 yX12_callsAt yX12_callsAt) ∈ qtb := q_mt 36 (by decide +kernel) (by decide +kernel)
theorem q_se_yX12_welcome : (Cond.selects RX12 yX12_welcome yX12_welcome) ∈ qtb := q_mt 37 (by decide +kernel) (by decide +kernel)
theorem q_se_yX12_coldest : (Cond.selects RX12 yX12_coldest yX12_coldest) ∈ qtb := q_mt 38 (by decide +kernel) (by decide +kernel)
theorem q_se_yX12_saidMany : (Cond.selects RX12 yX12_saidMany yX12_saidMany) ∈ qtb := q_mt 39 (by decide +kernel) (by decide +kernel)
theorem q_se_yX12_isSeason : (Cond.selects RX12 yX12_isSeason yX12_isSeason) ∈ qtb := q_mt 40 (by decide +kernel) (by decide +kernel)
theorem q_se_yX12_isSaid : (Cond.selects RX12 yX12_isSaid yX12_isSaid) ∈ qtb := q_mt 41 (by decide +kernel) (by decide +kernel)
theorem q_se_yX12_isComer : (Cond.selects RX12 yX12_isComer yX12_isComer) ∈ qtb := q_mt 42 (by decide +kernel) (by decide +kernel)
theorem q_se_yX12_matches : (Cond.selects RX12 yX12_matches yX12_matches) ∈ qtb := q_mt 43 (by decide +kernel) (by decide +kernel)
theorem q_se_yX12_bestHouse : (Cond.selects RX12 yX12_bestHouse yX12_bestHouse) ∈ qtb := q_mt 44 (by decide +kernel) (by decide +kernel)
theorem q_se_yX12_suitsOf : (Cond.selects RX12 yX12_suitsOf yX12_suitsOf) ∈ qtb := q_mt 45 (by decide +kernel) (by decide +kernel)
theorem q_se_yX12_isHonest : (Cond.selects RX12 yX12_isHonest yX12_isHonest) ∈ qtb := q_mt 46 (by decide +kernel) (by decide +kernel)
theorem q_se_yX12_heard : (Cond.selects RX12 yX12_heard yX12_heard) ∈ qtb := q_mt 47 (by decide +kernel) (by decide +kernel)
theorem q_se_yX12_hears : (Cond.selects RX12 yX12_hears yX12_hears) ∈ qtb := q_mt 48 (by decide +kernel) (by decide +kernel)
theorem q_se_yX12_asks : (Cond.selects RX12 yX12_asks yX12_asks) ∈ qtb := q_mt 49 (by decide +kernel) (by decide +kernel)
theorem q_se_yX12_isHouse : (Cond.selects RX12 yX12_isHouse yX12_isHouse) ∈ qtb := q_mt 50 (by decide +kernel) (by decide +kernel)
theorem q_se_yX12_areBoth : (Cond.selects RX12 yX12_areBoth yX12_areBoth) ∈ qtb := q_mt 51 (by decide +kernel) (by decide +kernel)
theorem q_se_yX12_remember : (Cond.selects RX12 yX12_remember yX12_remember) ∈ qtb := q_mt 52 (by decide +kernel) (by decide +kernel)
theorem q_se_yX12_visits : (Cond.selects RX12 yX12_visits yX12_visits) ∈ qtb := q_mt 53 (by decide +kernel) (by decide +kernel)
theorem q_se_yX12_answer : (Cond.selects RX12 yX12_answer yX12_answer) ∈ qtb := q_mt 54 (by decide +kernel) (by decide +kernel)
theorem q_se_yX12_enters : (Cond.selects RX12 yX12_enters yX12_enters) ∈ qtb := q_mt 55 (by decide +kernel) (by decide +kernel)
theorem q_se_yX12_needDays : (Cond.selects RX12 yX12_needDays yX12_needDays) ∈ qtb := q_mt 56 (by decide +kernel) (by decide +kernel)
theorem q_se_yX12_days : (Cond.selects RX12 yX12_days yX12_days) ∈ qtb := q_mt 57 (by decide +kernel) (by decide +kernel)
theorem q_se_yX12_becomes : (Cond.selects RX12 yX12_becomes yX12_becomes) ∈ qtb := q_mt 58 (by decide +kernel) (by decide +kernel)
theorem q_se_yX12_draw : (Cond.selects RX12 yX12_draw yX12_draw) ∈ qtb := q_mt 59 (by decide +kernel) (by decide +kernel)
theorem q_se_yX12_mostHeard : (Cond.selects RX12 yX12_mostHeard yX12_mostHeard) ∈ qtb := q_mt 60 (by decide +kernel) (by decide +kernel)
theorem q_se_yX12_letInBy : (Cond.selects RX12 yX12_letInBy yX12_letInBy) ∈ qtb := q_mt 61 (by decide +kernel) (by decide +kernel)
theorem q_se_yX12_couldBeSo : (Cond.selects RX12 yX12_couldBeSo yX12_couldBeSo) ∈ qtb := q_mt 62 (by decide +kernel) (by decide +kernel)
theorem q_se_yX12_alike : (Cond.selects RX12 yX12_alike yX12_alike) ∈ qtb := q_mt 63 (by decide +kernel) (by decide +kernel)
theorem q_in_RL : (Cond.initialized RL) ∈ qtb := q_mt 64 (by decide +kernel) (by decide +kernel)
theorem q_in_RX11 : (Cond.initialized RX11) ∈ qtb := q_mt 65 (by decide +kernel) (by decide +kernel)
theorem q_in_RX7 : (Cond.initialized RX7) ∈ qtb := q_mt 66 (by decide +kernel) (by decide +kernel)
theorem q_in_RX2 : (Cond.initialized RX2) ∈ qtb := q_mt 67 (by decide +kernel) (by decide +kernel)
theorem q_in_RX4 : (Cond.initialized RX4) ∈ qtb := q_mt 68 (by decide +kernel) (by decide +kernel)
theorem q_in_RX10 : (Cond.initialized RX10) ∈ qtb := q_mt 69 (by decide +kernel) (by decide +kernel)
theorem q_in_RX9 : (Cond.initialized RX9) ∈ qtb := q_mt 70 (by decide +kernel) (by decide +kernel)
theorem q_in_RX5 : (Cond.initialized RX5) ∈ qtb := q_mt 71 (by decide +kernel) (by decide +kernel)
theorem q_in_RX6 : (Cond.initialized RX6) ∈ qtb := q_mt 72 (by decide +kernel) (by decide +kernel)
theorem q_in_RX3 : (Cond.initialized RX3) ∈ qtb := q_mt 73 (by decide +kernel) (by decide +kernel)
theorem q_in_RX8 : (Cond.initialized RX8) ∈ qtb := q_mt 74 (by decide +kernel) (by decide +kernel)
theorem q_in_RX0 : (Cond.initialized RX0) ∈ qtb := q_mt 75 (by decide +kernel) (by decide +kernel)
theorem q_in_RX12 : (Cond.initialized RX12) ∈ qtb := q_mt 76 (by decide +kernel) (by decide +kernel)
theorem q_in_RJ7 : (Cond.initialized RJ7) ∈ qtb := q_mt 77 (by decide +kernel) (by decide +kernel)
theorem q_in_RJ9 : (Cond.initialized RJ9) ∈ qtb := q_mt 78 (by decide +kernel) (by decide +kernel)
theorem q_in_RJ10 : (Cond.initialized RJ10) ∈ qtb := q_mt 79 (by decide +kernel) (by decide +kernel)
theorem q_in_RX1 : (Cond.initialized RX1) ∈ qtb := q_mt 80 (by decide +kernel) (by decide +kernel)
theorem q_in_RJ6 : (Cond.initialized RJ6) ∈ qtb := q_mt 81 (by decide +kernel) (by decide +kernel)
theorem q_ml_RL_9 : (Cond.methodLink RL 9 yX11_init) ∈ qtb := q_mt 84 (by decide +kernel) (by decide +kernel)
theorem q_im_yX11_init : (Cond.instanceMethod yX11_init) ∈ qtb := q_mt 85 (by decide +kernel) (by decide +kernel)
theorem q_cd_yX11_init : (Cond.code yX11_init cX11_init 4 none) ∈ qtb := q_mt 86 (by decide +kernel) (by decide +kernel)
theorem q_ml_RX11_1 : (Cond.methodLink RX11 1 objectInit) ∈ qtb := q_mt 87 (by decide +kernel) (by decide +kernel)
theorem q_im_yX7_init : (Cond.instanceMethod yX7_init) ∈ qtb := q_mt 93 (by decide +kernel) (by decide +kernel)
theorem q_cd_yX7_init : (Cond.code yX7_init cX7_init 1 none) ∈ qtb := q_mt 94 (by decide +kernel) (by decide +kernel)
theorem q_ml_RX7_3 : (Cond.methodLink RX7 3 objectInit) ∈ qtb := q_mt 95 (by decide +kernel) (by decide +kernel)
theorem q_fl_RX7_9 : (Cond.fieldLink RX7 9 "GloveSigns$Season" "manners" "I") ∈ qtb := q_mt 96 (by decide +kernel) (by decide +kernel)
theorem q_fl_RX9_66 : (Cond.fieldLink RX9 66 "GloveSigns$Season" "manners" "I") ∈ qtb := q_mt 97 (by decide +kernel) (by decide +kernel)
theorem q_fl_RX10_51 : (Cond.fieldLink RX10 51 "GloveSigns$Season" "manners" "I") ∈ qtb := q_mt 98 (by decide +kernel) (by decide +kernel)
theorem q_fl_RX11_128 : (Cond.fieldLink RX11 128 "GloveSigns$Season" "manners" "I") ∈ qtb := q_mt 99 (by decide +kernel) (by decide +kernel)
theorem q_fl_RX7_15 : (Cond.fieldLink RX7 15 "GloveSigns$Season" "comers" "I") ∈ qtb := q_mt 100 (by decide +kernel) (by decide +kernel)
theorem q_fl_RX10_19 : (Cond.fieldLink RX10 19 "GloveSigns$Season" "comers" "I") ∈ qtb := q_mt 101 (by decide +kernel) (by decide +kernel)
theorem q_fl_RX11_122 : (Cond.fieldLink RX11 122 "GloveSigns$Season" "comers" "I") ∈ qtb := q_mt 102 (by decide +kernel) (by decide +kernel)
theorem q_fl_RX9_49 : (Cond.fieldLink RX9 49 "GloveSigns$Season" "comers" "I") ∈ qtb := q_mt 103 (by decide +kernel) (by decide +kernel)
theorem q_fl_RX7_18 : (Cond.fieldLink RX7 18 "GloveSigns$Season" "houses" "I") ∈ qtb := q_mt 104 (by decide +kernel) (by decide +kernel)
theorem q_fl_RX10_25 : (Cond.fieldLink RX10 25 "GloveSigns$Season" "houses" "I") ∈ qtb := q_mt 105 (by decide +kernel) (by decide +kernel)
theorem q_fl_RX9_52 : (Cond.fieldLink RX9 52 "GloveSigns$Season" "houses" "I") ∈ qtb := q_mt 106 (by decide +kernel) (by decide +kernel)
theorem q_fl_RX11_131 : (Cond.fieldLink RX11 131 "GloveSigns$Season" "houses" "I") ∈ qtb := q_mt 107 (by decide +kernel) (by decide +kernel)
theorem q_fl_RX7_21 : (Cond.fieldLink RX7 21 "GloveSigns$Season" "worth" "[I") ∈ qtb := q_mt 108 (by decide +kernel) (by decide +kernel)
theorem q_fl_RX10_38 : (Cond.fieldLink RX10 38 "GloveSigns$Season" "worth" "[I") ∈ qtb := q_mt 109 (by decide +kernel) (by decide +kernel)
theorem q_fl_RX11_170 : (Cond.fieldLink RX11 170 "GloveSigns$Season" "worth" "[I") ∈ qtb := q_mt 110 (by decide +kernel) (by decide +kernel)
theorem q_fl_RX7_25 : (Cond.fieldLink RX7 25 "GloveSigns$Season" "firstStuffing" "[I") ∈ qtb := q_mt 111 (by decide +kernel) (by decide +kernel)
theorem q_fl_RX2_44 : (Cond.fieldLink RX2 44 "GloveSigns$Season" "firstStuffing" "[I") ∈ qtb := q_mt 112 (by decide +kernel) (by decide +kernel)
theorem q_fl_RX7_28 : (Cond.fieldLink RX7 28 "GloveSigns$Season" "firstMeaning" "[I") ∈ qtb := q_mt 113 (by decide +kernel) (by decide +kernel)
theorem q_fl_RX2_55 : (Cond.fieldLink RX2 55 "GloveSigns$Season" "firstMeaning" "[I") ∈ qtb := q_mt 114 (by decide +kernel) (by decide +kernel)
theorem q_fl_RX7_31 : (Cond.fieldLink RX7 31 "GloveSigns$Season" "firstHardness" "[I") ∈ qtb := q_mt 115 (by decide +kernel) (by decide +kernel)
theorem q_fl_RX2_58 : (Cond.fieldLink RX2 58 "GloveSigns$Season" "firstHardness" "[I") ∈ qtb := q_mt 116 (by decide +kernel) (by decide +kernel)
theorem q_fl_RX7_34 : (Cond.fieldLink RX7 34 "GloveSigns$Season" "fern" "[I") ∈ qtb := q_mt 117 (by decide +kernel) (by decide +kernel)
theorem q_fl_RX10_73 : (Cond.fieldLink RX10 73 "GloveSigns$Season" "fern" "[I") ∈ qtb := q_mt 118 (by decide +kernel) (by decide +kernel)
theorem q_fl_RX11_192 : (Cond.fieldLink RX11 192 "GloveSigns$Season" "fern" "[I") ∈ qtb := q_mt 119 (by decide +kernel) (by decide +kernel)
theorem q_fl_RX7_37 : (Cond.fieldLink RX7 37 "GloveSigns$Season" "prizes" "[I") ∈ qtb := q_mt 120 (by decide +kernel) (by decide +kernel)
theorem q_im_yX2_init : (Cond.instanceMethod yX2_init) ∈ qtb := q_mt 144 (by decide +kernel) (by decide +kernel)
theorem q_cd_yX2_init : (Cond.code yX2_init cX2_init 1 none) ∈ qtb := q_mt 145 (by decide +kernel) (by decide +kernel)
theorem q_ml_RX2_3 : (Cond.methodLink RX2 3 objectInit) ∈ qtb := q_mt 146 (by decide +kernel) (by decide +kernel)
theorem q_im_yX4_init : (Cond.instanceMethod yX4_init) ∈ qtb := q_mt 150 (by decide +kernel) (by decide +kernel)
theorem q_cd_yX4_init : (Cond.code yX4_init cX4_init 1 none) ∈ qtb := q_mt 151 (by decide +kernel) (by decide +kernel)
theorem q_ml_RX4_3 : (Cond.methodLink RX4 3 objectInit) ∈ qtb := q_mt 152 (by decide +kernel) (by decide +kernel)
theorem q_fl_RX4_11 : (Cond.fieldLink RX4 11 "GloveSigns$Log" "rows" "[I") ∈ qtb := q_mt 153 (by decide +kernel) (by decide +kernel)
theorem q_fl_RX4_15 : (Cond.fieldLink RX4 15 "GloveSigns$Log" "newest" "I") ∈ qtb := q_mt 154 (by decide +kernel) (by decide +kernel)
theorem q_fl_RX4_19 : (Cond.fieldLink RX4 19 "GloveSigns$Log" "size" "I") ∈ qtb := q_mt 155 (by decide +kernel) (by decide +kernel)
theorem q_fl_RX11_160 : (Cond.fieldLink RX11 160 "GloveSigns$Log" "size" "I") ∈ qtb := q_mt 156 (by decide +kernel) (by decide +kernel)
theorem q_fl_RX2_9 : (Cond.fieldLink RX2 9 "GloveSigns$Hall" "days" "I") ∈ qtb := q_mt 164 (by decide +kernel) (by decide +kernel)
theorem q_fl_RX11_134 : (Cond.fieldLink RX11 134 "GloveSigns$Hall" "days" "I") ∈ qtb := q_mt 165 (by decide +kernel) (by decide +kernel)
theorem q_fl_RX2_15 : (Cond.fieldLink RX2 15 "GloveSigns$Hall" "openToday" "I") ∈ qtb := q_mt 166 (by decide +kernel) (by decide +kernel)
theorem q_fl_RX11_137 : (Cond.fieldLink RX11 137 "GloveSigns$Hall" "openToday" "I") ∈ qtb := q_mt 167 (by decide +kernel) (by decide +kernel)
theorem q_fl_RX2_18 : (Cond.fieldLink RX2 18 "GloveSigns$Hall" "stuffing" "[I") ∈ qtb := q_mt 168 (by decide +kernel) (by decide +kernel)
theorem q_fl_RX10_34 : (Cond.fieldLink RX10 34 "GloveSigns$Hall" "stuffing" "[I") ∈ qtb := q_mt 169 (by decide +kernel) (by decide +kernel)
theorem q_fl_RX11_174 : (Cond.fieldLink RX11 174 "GloveSigns$Hall" "stuffing" "[I") ∈ qtb := q_mt 170 (by decide +kernel) (by decide +kernel)
theorem q_fl_RX2_22 : (Cond.fieldLink RX2 22 "GloveSigns$Hall" "meaning" "[I") ∈ qtb := q_mt 171 (by decide +kernel) (by decide +kernel)
theorem q_fl_RX11_177 : (Cond.fieldLink RX11 177 "GloveSigns$Hall" "meaning" "[I") ∈ qtb := q_mt 172 (by decide +kernel) (by decide +kernel)
theorem q_fl_RX10_85 : (Cond.fieldLink RX10 85 "GloveSigns$Hall" "meaning" "[I") ∈ qtb := q_mt 173 (by decide +kernel) (by decide +kernel)
theorem q_fl_RX2_25 : (Cond.fieldLink RX2 25 "GloveSigns$Hall" "shamAt" "[I") ∈ qtb := q_mt 174 (by decide +kernel) (by decide +kernel)
theorem q_fl_RX11_180 : (Cond.fieldLink RX11 180 "GloveSigns$Hall" "shamAt" "[I") ∈ qtb := q_mt 175 (by decide +kernel) (by decide +kernel)
theorem q_fl_RX2_28 : (Cond.fieldLink RX2 28 "GloveSigns$Hall" "hardness" "[I") ∈ qtb := q_mt 176 (by decide +kernel) (by decide +kernel)
theorem q_fl_RX0_22 : (Cond.fieldLink RX0 22 "GloveSigns$Hall" "hardness" "[I") ∈ qtb := q_mt 177 (by decide +kernel) (by decide +kernel)
theorem q_fl_RX10_76 : (Cond.fieldLink RX10 76 "GloveSigns$Hall" "hardness" "[I") ∈ qtb := q_mt 178 (by decide +kernel) (by decide +kernel)
theorem q_fl_RX11_189 : (Cond.fieldLink RX11 189 "GloveSigns$Hall" "hardness" "[I") ∈ qtb := q_mt 179 (by decide +kernel) (by decide +kernel)
theorem q_fl_RX2_31 : (Cond.fieldLink RX2 31 "GloveSigns$Hall" "callsMade" "[I") ∈ qtb := q_mt 180 (by decide +kernel) (by decide +kernel)
theorem q_fl_RX2_34 : (Cond.fieldLink RX2 34 "GloveSigns$Hall" "letInStuffed" "[I") ∈ qtb := q_mt 181 (by decide +kernel) (by decide +kernel)
theorem q_fl_RX2_40 : (Cond.fieldLink RX2 40 "GloveSigns$Hall" "log" "LGloveSigns$Log;") ∈ qtb := q_mt 182 (by decide +kernel) (by decide +kernel)
theorem q_fl_RX11_156 : (Cond.fieldLink RX11 156 "GloveSigns$Hall" "log" "LGloveSigns$Log;") ∈ qtb := q_mt 183 (by decide +kernel) (by decide +kernel)
theorem q_ml_RX11_15 : (Cond.methodLink RX11 15 yX10_init) ∈ qtb := q_mt 205 (by decide +kernel) (by decide +kernel)
theorem q_im_yX10_init : (Cond.instanceMethod yX10_init) ∈ qtb := q_mt 206 (by decide +kernel) (by decide +kernel)
theorem q_cd_yX10_init : (Cond.code yX10_init cX10_init 3 none) ∈ qtb := q_mt 207 (by decide +kernel) (by decide +kernel)
theorem q_ml_RX10_3 : (Cond.methodLink RX10 3 objectInit) ∈ qtb := q_mt 208 (by decide +kernel) (by decide +kernel)
theorem q_fl_RX10_9 : (Cond.fieldLink RX10 9 "GloveSigns$Trial" "told" "LGloveSigns$Season;") ∈ qtb := q_mt 209 (by decide +kernel) (by decide +kernel)
theorem q_fl_RX10_15 : (Cond.fieldLink RX10 15 "GloveSigns$Trial" "hall" "LGloveSigns$Hall;") ∈ qtb := q_mt 210 (by decide +kernel) (by decide +kernel)
theorem q_im_yX9_init : (Cond.instanceMethod yX9_init) ∈ qtb := q_mt 219 (by decide +kernel) (by decide +kernel)
theorem q_cd_yX9_init : (Cond.code yX9_init cX9_init 1 none) ∈ qtb := q_mt 220 (by decide +kernel) (by decide +kernel)
theorem q_ml_RX9_3 : (Cond.methodLink RX9 3 objectInit) ∈ qtb := q_mt 221 (by decide +kernel) (by decide +kernel)
theorem q_fl_RX9_9 : (Cond.fieldLink RX9 9 "GloveSigns$Text" "letters" "[I") ∈ qtb := q_mt 222 (by decide +kernel) (by decide +kernel)
theorem q_fl_RX9_15 : (Cond.fieldLink RX9 15 "GloveSigns$Text" "at" "I") ∈ qtb := q_mt 223 (by decide +kernel) (by decide +kernel)
theorem q_fl_RX9_19 : (Cond.fieldLink RX9 19 "GloveSigns$Text" "size" "I") ∈ qtb := q_mt 224 (by decide +kernel) (by decide +kernel)
theorem q_fl_RX11_95 : (Cond.fieldLink RX11 95 "GloveSigns$Text" "size" "I") ∈ qtb := q_mt 225 (by decide +kernel) (by decide +kernel)
theorem q_fl_RX9_22 : (Cond.fieldLink RX9 22 "GloveSigns$Text" "faultNumber" "I") ∈ qtb := q_mt 226 (by decide +kernel) (by decide +kernel)
theorem q_fl_RX11_103 : (Cond.fieldLink RX11 103 "GloveSigns$Text" "faultNumber" "I") ∈ qtb := q_mt 227 (by decide +kernel) (by decide +kernel)
theorem q_fl_RX9_25 : (Cond.fieldLink RX9 25 "GloveSigns$Text" "faultAt" "I") ∈ qtb := q_mt 228 (by decide +kernel) (by decide +kernel)
theorem q_fl_RX11_125 : (Cond.fieldLink RX11 125 "GloveSigns$Text" "faultAt" "I") ∈ qtb := q_mt 229 (by decide +kernel) (by decide +kernel)
theorem q_ml_RX11_44 : (Cond.methodLink RX11 44 yX5_init) ∈ qtb := q_mt 243 (by decide +kernel) (by decide +kernel)
theorem q_im_yX5_init : (Cond.instanceMethod yX5_init) ∈ qtb := q_mt 244 (by decide +kernel) (by decide +kernel)
theorem q_cd_yX5_init : (Cond.code yX5_init cX5_init 2 none) ∈ qtb := q_mt 245 (by decide +kernel) (by decide +kernel)
theorem q_ml_RX5_3 : (Cond.methodLink RX5 3 objectInit) ∈ qtb := q_mt 246 (by decide +kernel) (by decide +kernel)
theorem q_fl_RX5_28 : (Cond.fieldLink RX5 28 "GloveSigns$Matching" "trial" "LGloveSigns$Trial;") ∈ qtb := q_mt 247 (by decide +kernel) (by decide +kernel)
theorem q_fl_RX5_9 : (Cond.fieldLink RX5 9 "GloveSigns$Matching" "suit" "[I") ∈ qtb := q_mt 248 (by decide +kernel) (by decide +kernel)
theorem q_fl_RX5_15 : (Cond.fieldLink RX5 15 "GloveSigns$Matching" "refusedBy" "[I") ∈ qtb := q_mt 249 (by decide +kernel) (by decide +kernel)
theorem q_fl_RX5_18 : (Cond.fieldLink RX5 18 "GloveSigns$Matching" "houseFor" "[I") ∈ qtb := q_mt 250 (by decide +kernel) (by decide +kernel)
theorem q_fl_RX5_21 : (Cond.fieldLink RX5 21 "GloveSigns$Matching" "comerFor" "[I") ∈ qtb := q_mt 251 (by decide +kernel) (by decide +kernel)
theorem q_fl_RX5_24 : (Cond.fieldLink RX5 24 "GloveSigns$Matching" "givenUp" "I") ∈ qtb := q_mt 252 (by decide +kernel) (by decide +kernel)
theorem q_ml_RX11_53 : (Cond.methodLink RX11 53 yX6_init) ∈ qtb := q_mt 268 (by decide +kernel) (by decide +kernel)
theorem q_im_yX6_init : (Cond.instanceMethod yX6_init) ∈ qtb := q_mt 269 (by decide +kernel) (by decide +kernel)
theorem q_cd_yX6_init : (Cond.code yX6_init cX6_init 2 none) ∈ qtb := q_mt 270 (by decide +kernel) (by decide +kernel)
theorem q_ml_RX6_3 : (Cond.methodLink RX6 3 objectInit) ∈ qtb := q_mt 271 (by decide +kernel) (by decide +kernel)
theorem q_fl_RX6_11 : (Cond.fieldLink RX6 11 "GloveSigns$Past" "halls" "[LGloveSigns$Hall;") ∈ qtb := q_mt 275 (by decide +kernel) (by decide +kernel)
theorem q_fl_RX6_17 : (Cond.fieldLink RX6 17 "GloveSigns$Past" "next" "I") ∈ qtb := q_mt 276 (by decide +kernel) (by decide +kernel)
theorem q_fl_RX6_21 : (Cond.fieldLink RX6 21 "GloveSigns$Past" "size" "I") ∈ qtb := q_mt 277 (by decide +kernel) (by decide +kernel)
theorem q_fl_RX11_165 : (Cond.fieldLink RX11 165 "GloveSigns$Past" "size" "I") ∈ qtb := q_mt 278 (by decide +kernel) (by decide +kernel)
theorem q_im_yX3_init : (Cond.instanceMethod yX3_init) ∈ qtb := q_mt 289 (by decide +kernel) (by decide +kernel)
theorem q_cd_yX3_init : (Cond.code yX3_init cX3_init 1 none) ∈ qtb := q_mt 290 (by decide +kernel) (by decide +kernel)
theorem q_ml_RX3_1 : (Cond.methodLink RX3 1 objectInit) ∈ qtb := q_mt 291 (by decide +kernel) (by decide +kernel)
theorem q_fl_RX3_7 : (Cond.fieldLink RX3 7 "GloveSigns$Image" "kept" "Z") ∈ qtb := q_mt 294 (by decide +kernel) (by decide +kernel)
theorem q_fl_RX11_116 : (Cond.fieldLink RX11 116 "GloveSigns$Image" "kept" "Z") ∈ qtb := q_mt 295 (by decide +kernel) (by decide +kernel)
theorem q_fl_RX3_13 : (Cond.fieldLink RX3 13 "GloveSigns$Image" "seedThen" "I") ∈ qtb := q_mt 296 (by decide +kernel) (by decide +kernel)
theorem q_fl_RX11_320 : (Cond.fieldLink RX11 320 "GloveSigns$Image" "seedThen" "I") ∈ qtb := q_mt 297 (by decide +kernel) (by decide +kernel)
theorem q_fl_RX3_20 : (Cond.fieldLink RX3 20 "GloveSigns$Image" "hall" "LGloveSigns$Hall;") ∈ qtb := q_mt 298 (by decide +kernel) (by decide +kernel)
theorem q_fl_RX11_317 : (Cond.fieldLink RX11 317 "GloveSigns$Image" "hall" "LGloveSigns$Hall;") ∈ qtb := q_mt 299 (by decide +kernel) (by decide +kernel)
theorem q_im_yX8_init : (Cond.instanceMethod yX8_init) ∈ qtb := q_mt 310 (by decide +kernel) (by decide +kernel)
theorem q_cd_yX8_init : (Cond.code yX8_init cX8_init 1 none) ∈ qtb := q_mt 311 (by decide +kernel) (by decide +kernel)
theorem q_ml_RX8_3 : (Cond.methodLink RX8 3 objectInit) ∈ qtb := q_mt 312 (by decide +kernel) (by decide +kernel)
theorem q_fl_RX8_9 : (Cond.fieldLink RX8 9 "GloveSigns$Seen" "parts" "[I") ∈ qtb := q_mt 313 (by decide +kernel) (by decide +kernel)
theorem q_fl_RX8_15 : (Cond.fieldLink RX8 15 "GloveSigns$Seen" "values" "[I") ∈ qtb := q_mt 314 (by decide +kernel) (by decide +kernel)
theorem q_fl_RX8_18 : (Cond.fieldLink RX8 18 "GloveSigns$Seen" "size" "I") ∈ qtb := q_mt 315 (by decide +kernel) (by decide +kernel)
theorem q_fl_RX11_163 : (Cond.fieldLink RX11 163 "GloveSigns$Seen" "size" "I") ∈ qtb := q_mt 316 (by decide +kernel) (by decide +kernel)
theorem q_im_yX0_init : (Cond.instanceMethod yX0_init) ∈ qtb := q_mt 327 (by decide +kernel) (by decide +kernel)
theorem q_cd_yX0_init : (Cond.code yX0_init cX0_init 1 none) ∈ qtb := q_mt 328 (by decide +kernel) (by decide +kernel)
theorem q_ml_RX0_3 : (Cond.methodLink RX0 3 objectInit) ∈ qtb := q_mt 329 (by decide +kernel) (by decide +kernel)
theorem q_fl_RX0_9 : (Cond.fieldLink RX0 9 "GloveSigns$Book" "houses" "[I") ∈ qtb := q_mt 330 (by decide +kernel) (by decide +kernel)
theorem q_fl_RX0_15 : (Cond.fieldLink RX0 15 "GloveSigns$Book" "hardness" "[I") ∈ qtb := q_mt 331 (by decide +kernel) (by decide +kernel)
theorem q_fl_RX0_18 : (Cond.fieldLink RX0 18 "GloveSigns$Book" "size" "I") ∈ qtb := q_mt 332 (by decide +kernel) (by decide +kernel)
theorem q_fl_RX11_164 : (Cond.fieldLink RX11 164 "GloveSigns$Book" "size" "I") ∈ qtb := q_mt 333 (by decide +kernel) (by decide +kernel)
theorem q_fl_RX11_21 : (Cond.fieldLink RX11 21 "GloveSigns" "text" "LGloveSigns$Text;") ∈ qtb := q_mt 341 (by decide +kernel) (by decide +kernel)
theorem q_fl_RX11_27 : (Cond.fieldLink RX11 27 "GloveSigns" "draft" "LGloveSigns$Season;") ∈ qtb := q_mt 342 (by decide +kernel) (by decide +kernel)
theorem q_fl_RX11_31 : (Cond.fieldLink RX11 31 "GloveSigns" "theSeason" "LGloveSigns$Season;") ∈ qtb := q_mt 343 (by decide +kernel) (by decide +kernel)
theorem q_fl_RX11_34 : (Cond.fieldLink RX11 34 "GloveSigns" "hall" "LGloveSigns$Hall;") ∈ qtb := q_mt 344 (by decide +kernel) (by decide +kernel)
theorem q_fl_RX11_38 : (Cond.fieldLink RX11 38 "GloveSigns" "trial" "LGloveSigns$Trial;") ∈ qtb := q_mt 345 (by decide +kernel) (by decide +kernel)
theorem q_fl_RX11_47 : (Cond.fieldLink RX11 47 "GloveSigns" "matching" "LGloveSigns$Matching;") ∈ qtb := q_mt 346 (by decide +kernel) (by decide +kernel)
theorem q_fl_RX11_54 : (Cond.fieldLink RX11 54 "GloveSigns" "past" "LGloveSigns$Past;") ∈ qtb := q_mt 347 (by decide +kernel) (by decide +kernel)
theorem q_fl_RX11_61 : (Cond.fieldLink RX11 61 "GloveSigns" "firstImage" "LGloveSigns$Image;") ∈ qtb := q_mt 348 (by decide +kernel) (by decide +kernel)
theorem q_fl_RX11_65 : (Cond.fieldLink RX11 65 "GloveSigns" "secondImage" "LGloveSigns$Image;") ∈ qtb := q_mt 349 (by decide +kernel) (by decide +kernel)
theorem q_fl_RX11_71 : (Cond.fieldLink RX11 71 "GloveSigns" "seen" "LGloveSigns$Seen;") ∈ qtb := q_mt 350 (by decide +kernel) (by decide +kernel)
theorem q_fl_RX11_78 : (Cond.fieldLink RX11 78 "GloveSigns" "book" "LGloveSigns$Book;") ∈ qtb := q_mt 351 (by decide +kernel) (by decide +kernel)
theorem q_fl_RX11_82 : (Cond.fieldLink RX11 82 "GloveSigns" "theSeed" "I") ∈ qtb := q_mt 352 (by decide +kernel) (by decide +kernel)
theorem q_ml_RL_13 : (Cond.methodLink RL 13 yX11_feed) ∈ qtb := q_mt 378 (by decide +kernel) (by decide +kernel)
theorem q_im_yX11_feed : (Cond.instanceMethod yX11_feed) ∈ qtb := q_mt 379 (by decide +kernel) (by decide +kernel)
theorem q_se_yX11_feed : (Cond.selects RX11 yX11_feed yX11_feed) ∈ qtb := q_mt 380 (by decide +kernel) (by decide +kernel)
theorem q_cd_yX11_feed : (Cond.code yX11_feed cX11_feed 2 (some .int)) ∈ qtb := q_mt 381 (by decide +kernel) (by decide +kernel)
theorem q_ml_RX11_86 : (Cond.methodLink RX11 86 yX11_isWithin) ∈ qtb := q_mt 382 (by decide +kernel) (by decide +kernel)
theorem q_st_yX11_isWithin : (Cond.static yX11_isWithin) ∈ qtb := q_mt 383 (by decide +kernel) (by decide +kernel)
theorem q_cd_yX11_isWithin : (Cond.code yX11_isWithin cX11_isWithin 2 (some .boolean)) ∈ qtb := q_mt 384 (by decide +kernel) (by decide +kernel)
theorem q_ci_RX11_90 : (Cond.constant RX11 90 (-1000000002)) ∈ qtb := q_mt 385 (by decide +kernel) (by decide +kernel)
theorem q_ml_RX11_91 : (Cond.methodLink RX11 91 yX9_append) ∈ qtb := q_mt 386 (by decide +kernel) (by decide +kernel)
theorem q_im_yX9_append : (Cond.instanceMethod yX9_append) ∈ qtb := q_mt 387 (by decide +kernel) (by decide +kernel)
theorem q_se_yX9_append : (Cond.selects RX9 yX9_append yX9_append) ∈ qtb := q_mt 388 (by decide +kernel) (by decide +kernel)
theorem q_cd_yX9_append : (Cond.code yX9_append cX9_append 2 (some .boolean)) ∈ qtb := q_mt 389 (by decide +kernel) (by decide +kernel)
theorem q_ci_RX11_98 : (Cond.constant RX11 98 (-1000000004)) ∈ qtb := q_mt 390 (by decide +kernel) (by decide +kernel)
theorem q_ml_RL_18 : (Cond.methodLink RL 18 yX11_season) ∈ qtb := q_mt 391 (by decide +kernel) (by decide +kernel)
theorem q_im_yX11_season : (Cond.instanceMethod yX11_season) ∈ qtb := q_mt 392 (by decide +kernel) (by decide +kernel)
theorem q_se_yX11_season : (Cond.selects RX11 yX11_season yX11_season) ∈ qtb := q_mt 393 (by decide +kernel) (by decide +kernel)
theorem q_cd_yX11_season : (Cond.code yX11_season cX11_season 1 (some .int)) ∈ qtb := q_mt 394 (by decide +kernel) (by decide +kernel)
theorem q_ml_RX11_99 : (Cond.methodLink RX11 99 yX9_read) ∈ qtb := q_mt 395 (by decide +kernel) (by decide +kernel)
theorem q_im_yX9_read : (Cond.instanceMethod yX9_read) ∈ qtb := q_mt 396 (by decide +kernel) (by decide +kernel)
theorem q_se_yX9_read : (Cond.selects RX9 yX9_read yX9_read) ∈ qtb := q_mt 397 (by decide +kernel) (by decide +kernel)
theorem q_cd_yX9_read : (Cond.code yX9_read cX9_read 3 (some .boolean)) ∈ qtb := q_mt 398 (by decide +kernel) (by decide +kernel)
theorem q_ml_RX9_28 : (Cond.methodLink RX9 28 yX7_empty) ∈ qtb := q_mt 399 (by decide +kernel) (by decide +kernel)
theorem q_im_yX7_empty : (Cond.instanceMethod yX7_empty) ∈ qtb := q_mt 400 (by decide +kernel) (by decide +kernel)
theorem q_se_yX7_empty : (Cond.selects RX7 yX7_empty yX7_empty) ∈ qtb := q_mt 401 (by decide +kernel) (by decide +kernel)
theorem q_cd_yX7_empty : (Cond.code yX7_empty cX7_empty 1 none) ∈ qtb := q_mt 402 (by decide +kernel) (by decide +kernel)
theorem q_ml_RX7_51 : (Cond.methodLink RX7 51 yJ7_fill_53178) ∈ qtb := q_mt 403 (by decide +kernel) (by decide +kernel)
theorem q_st_yJ7_fill_53178 : (Cond.static yJ7_fill_53178) ∈ qtb := q_mt 404 (by decide +kernel) (by decide +kernel)
theorem q_cd_yJ7_fill_53178 : (Cond.code yJ7_fill_53178 cJ7_fill_53178 4 none) ∈ qtb := q_mt 405 (by decide +kernel) (by decide +kernel)
theorem q_ml_RX9_33 : (Cond.methodLink RX9 33 yX9_peek) ∈ qtb := q_mt 406 (by decide +kernel) (by decide +kernel)
theorem q_im_yX9_peek : (Cond.instanceMethod yX9_peek) ∈ qtb := q_mt 408 (by decide +kernel) (by decide +kernel)
theorem q_cd_yX9_peek : (Cond.code yX9_peek cX9_peek 1 (some .int)) ∈ qtb := q_mt 409 (by decide +kernel) (by decide +kernel)
theorem q_ml_RX9_37 : (Cond.methodLink RX9 37 yX9_readClause) ∈ qtb := q_mt 410 (by decide +kernel) (by decide +kernel)
theorem q_im_yX9_readClause : (Cond.instanceMethod yX9_readClause) ∈ qtb := q_mt 412 (by decide +kernel) (by decide +kernel)
theorem q_cd_yX9_readClause : (Cond.code yX9_readClause cX9_readClause 3 none) ∈ qtb := q_mt 413 (by decide +kernel) (by decide +kernel)
theorem q_ml_RX9_41 : (Cond.methodLink RX9 41 yX7_isOn) ∈ qtb := q_mt 414 (by decide +kernel) (by decide +kernel)
theorem q_im_yX7_isOn : (Cond.instanceMethod yX7_isOn) ∈ qtb := q_mt 415 (by decide +kernel) (by decide +kernel)
theorem q_se_yX7_isOn : (Cond.selects RX7 yX7_isOn yX7_isOn) ∈ qtb := q_mt 416 (by decide +kernel) (by decide +kernel)
theorem q_cd_yX7_isOn : (Cond.code yX7_isOn cX7_isOn 1 (some .boolean)) ∈ qtb := q_mt 417 (by decide +kernel) (by decide +kernel)
theorem q_ml_RX9_45 : (Cond.methodLink RX9 45 yX9_fail) ∈ qtb := q_mt 418 (by decide +kernel) (by decide +kernel)
theorem q_im_yX9_fail : (Cond.instanceMethod yX9_fail) ∈ qtb := q_mt 420 (by decide +kernel) (by decide +kernel)
theorem q_cd_yX9_fail : (Cond.code yX9_fail cX9_fail 3 none) ∈ qtb := q_mt 421 (by decide +kernel) (by decide +kernel)
theorem q_ml_RX9_55 : (Cond.methodLink RX9 55 yX9_readNumbers) ∈ qtb := q_mt 422 (by decide +kernel) (by decide +kernel)
theorem q_im_yX9_readNumbers : (Cond.instanceMethod yX9_readNumbers) ∈ qtb := q_mt 424 (by decide +kernel) (by decide +kernel)
theorem q_cd_yX9_readNumbers : (Cond.code yX9_readNumbers cX9_readNumbers 5 none) ∈ qtb := q_mt 425 (by decide +kernel) (by decide +kernel)
theorem q_ml_RX9_62 : (Cond.methodLink RX9 62 yX9_number) ∈ qtb := q_mt 426 (by decide +kernel) (by decide +kernel)
theorem q_im_yX9_number : (Cond.instanceMethod yX9_number) ∈ qtb := q_mt 428 (by decide +kernel) (by decide +kernel)
theorem q_cd_yX9_number : (Cond.code yX9_number cX9_number 4 (some .int)) ∈ qtb := q_mt 429 (by decide +kernel) (by decide +kernel)
theorem q_ml_RX9_82 : (Cond.methodLink RX9 82 yX9_isFigure) ∈ qtb := q_mt 430 (by decide +kernel) (by decide +kernel)
theorem q_st_yX9_isFigure : (Cond.static yX9_isFigure) ∈ qtb := q_mt 431 (by decide +kernel) (by decide +kernel)
theorem q_cd_yX9_isFigure : (Cond.code yX9_isFigure cX9_isFigure 1 (some .boolean)) ∈ qtb := q_mt 432 (by decide +kernel) (by decide +kernel)
theorem q_ml_RX9_86 : (Cond.methodLink RX9 86 yJ9_min_7cf53) ∈ qtb := q_mt 433 (by decide +kernel) (by decide +kernel)
theorem q_st_yJ9_min_7cf53 : (Cond.static yJ9_min_7cf53) ∈ qtb := q_mt 434 (by decide +kernel) (by decide +kernel)
theorem q_cd_yJ9_min_7cf53 : (Cond.code yJ9_min_7cf53 cJ9_min_7cf53 2 (some .int)) ∈ qtb := q_mt 435 (by decide +kernel) (by decide +kernel)
theorem q_ml_RX9_69 : (Cond.methodLink RX9 69 yX7_addComer) ∈ qtb := q_mt 436 (by decide +kernel) (by decide +kernel)
theorem q_im_yX7_addComer : (Cond.instanceMethod yX7_addComer) ∈ qtb := q_mt 437 (by decide +kernel) (by decide +kernel)
theorem q_se_yX7_addComer : (Cond.selects RX7 yX7_addComer yX7_addComer) ∈ qtb := q_mt 438 (by decide +kernel) (by decide +kernel)
theorem q_cd_yX7_addComer : (Cond.code yX7_addComer cX7_addComer 4 none) ∈ qtb := q_mt 439 (by decide +kernel) (by decide +kernel)
theorem q_ml_RX9_73 : (Cond.methodLink RX9 73 yX7_addHouse) ∈ qtb := q_mt 440 (by decide +kernel) (by decide +kernel)
theorem q_im_yX7_addHouse : (Cond.instanceMethod yX7_addHouse) ∈ qtb := q_mt 441 (by decide +kernel) (by decide +kernel)
theorem q_se_yX7_addHouse : (Cond.selects RX7 yX7_addHouse yX7_addHouse) ∈ qtb := q_mt 442 (by decide +kernel) (by decide +kernel)
theorem q_cd_yX7_addHouse : (Cond.code yX7_addHouse cX7_addHouse 3 none) ∈ qtb := q_mt 443 (by decide +kernel) (by decide +kernel)
theorem q_ml_RX9_76 : (Cond.methodLink RX9 76 yX9_readPrizes) ∈ qtb := q_mt 444 (by decide +kernel) (by decide +kernel)
theorem q_im_yX9_readPrizes : (Cond.instanceMethod yX9_readPrizes) ∈ qtb := q_mt 446 (by decide +kernel) (by decide +kernel)
theorem q_cd_yX9_readPrizes : (Cond.code yX9_readPrizes cX9_readPrizes 4 none) ∈ qtb := q_mt 447 (by decide +kernel) (by decide +kernel)
theorem q_ml_RX9_79 : (Cond.methodLink RX9 79 yX7_setPrize) ∈ qtb := q_mt 448 (by decide +kernel) (by decide +kernel)
theorem q_im_yX7_setPrize : (Cond.instanceMethod yX7_setPrize) ∈ qtb := q_mt 449 (by decide +kernel) (by decide +kernel)
theorem q_se_yX7_setPrize : (Cond.selects RX7 yX7_setPrize yX7_setPrize) ∈ qtb := q_mt 450 (by decide +kernel) (by decide +kernel)
theorem q_cd_yX7_setPrize : (Cond.code yX7_setPrize cX7_setPrize 4 none) ∈ qtb := q_mt 451 (by decide +kernel) (by decide +kernel)
theorem q_ml_RX7_44 : (Cond.methodLink RX7 44 yX7_hasHouse) ∈ qtb := q_mt 452 (by decide +kernel) (by decide +kernel)
theorem q_im_yX7_hasHouse : (Cond.instanceMethod yX7_hasHouse) ∈ qtb := q_mt 453 (by decide +kernel) (by decide +kernel)
theorem q_se_yX7_hasHouse : (Cond.selects RX7 yX7_hasHouse yX7_hasHouse) ∈ qtb := q_mt 454 (by decide +kernel) (by decide +kernel)
theorem q_cd_yX7_hasHouse : (Cond.code yX7_hasHouse cX7_hasHouse 2 (some .boolean)) ∈ qtb := q_mt 455 (by decide +kernel) (by decide +kernel)
theorem q_ml_RX9_59 : (Cond.methodLink RX9 59 yX9_expectEnd) ∈ qtb := q_mt 457 (by decide +kernel) (by decide +kernel)
theorem q_im_yX9_expectEnd : (Cond.instanceMethod yX9_expectEnd) ∈ qtb := q_mt 459 (by decide +kernel) (by decide +kernel)
theorem q_cd_yX9_expectEnd : (Cond.code yX9_expectEnd cX9_expectEnd 1 none) ∈ qtb := q_mt 460 (by decide +kernel) (by decide +kernel)
theorem q_ml_RX11_106 : (Cond.methodLink RX11 106 yX7_become) ∈ qtb := q_mt 461 (by decide +kernel) (by decide +kernel)
theorem q_im_yX7_become : (Cond.instanceMethod yX7_become) ∈ qtb := q_mt 462 (by decide +kernel) (by decide +kernel)
theorem q_se_yX7_become : (Cond.selects RX7 yX7_become yX7_become) ∈ qtb := q_mt 463 (by decide +kernel) (by decide +kernel)
theorem q_cd_yX7_become : (Cond.code yX7_become cX7_become 2 none) ∈ qtb := q_mt 464 (by decide +kernel) (by decide +kernel)
theorem q_ml_RX7_57 : (Cond.methodLink RX7 57 ⟨"java/lang/System", "arraycopy", "(Ljava/lang/Object;ILjava/lang/Object;II)V"⟩) ∈ qtb := q_mt 465 (by decide +kernel) (by decide +kernel)
theorem q_ml_RX11_110 : (Cond.methodLink RX11 110 yX2_open) ∈ qtb := q_mt 468 (by decide +kernel) (by decide +kernel)
theorem q_im_yX2_open : (Cond.instanceMethod yX2_open) ∈ qtb := q_mt 469 (by decide +kernel) (by decide +kernel)
theorem q_se_yX2_open : (Cond.selects RX2 yX2_open yX2_open) ∈ qtb := q_mt 470 (by decide +kernel) (by decide +kernel)
theorem q_cd_yX2_open : (Cond.code yX2_open cX2_open 2 none) ∈ qtb := q_mt 471 (by decide +kernel) (by decide +kernel)
theorem q_ml_RX2_49 : (Cond.methodLink RX2 49 ⟨"java/lang/System", "arraycopy", "(Ljava/lang/Object;ILjava/lang/Object;II)V"⟩) ∈ qtb := q_mt 472 (by decide +kernel) (by decide +kernel)
theorem q_ml_RX2_61 : (Cond.methodLink RX2 61 yJ7_fill_53178) ∈ qtb := q_mt 473 (by decide +kernel) (by decide +kernel)
theorem q_ml_RX2_67 : (Cond.methodLink RX2 67 yX4_empty) ∈ qtb := q_mt 474 (by decide +kernel) (by decide +kernel)
theorem q_im_yX4_empty : (Cond.instanceMethod yX4_empty) ∈ qtb := q_mt 475 (by decide +kernel) (by decide +kernel)
theorem q_se_yX4_empty : (Cond.selects RX4 yX4_empty yX4_empty) ∈ qtb := q_mt 476 (by decide +kernel) (by decide +kernel)
theorem q_cd_yX4_empty : (Cond.code yX4_empty cX4_empty 1 none) ∈ qtb := q_mt 477 (by decide +kernel) (by decide +kernel)
theorem q_ml_RX11_113 : (Cond.methodLink RX11 113 yX6_forget) ∈ qtb := q_mt 478 (by decide +kernel) (by decide +kernel)
theorem q_im_yX6_forget : (Cond.instanceMethod yX6_forget) ∈ qtb := q_mt 479 (by decide +kernel) (by decide +kernel)
theorem q_se_yX6_forget : (Cond.selects RX6 yX6_forget yX6_forget) ∈ qtb := q_mt 480 (by decide +kernel) (by decide +kernel)
theorem q_cd_yX6_forget : (Cond.code yX6_forget cX6_forget 1 none) ∈ qtb := q_mt 481 (by decide +kernel) (by decide +kernel)
theorem q_ml_RX11_120 : (Cond.methodLink RX11 120 yX8_forget) ∈ qtb := q_mt 482 (by decide +kernel) (by decide +kernel)
theorem q_im_yX8_forget : (Cond.instanceMethod yX8_forget) ∈ qtb := q_mt 483 (by decide +kernel) (by decide +kernel)
theorem q_se_yX8_forget : (Cond.selects RX8 yX8_forget yX8_forget) ∈ qtb := q_mt 484 (by decide +kernel) (by decide +kernel)
theorem q_cd_yX8_forget : (Cond.code yX8_forget cX8_forget 1 none) ∈ qtb := q_mt 485 (by decide +kernel) (by decide +kernel)
theorem q_ml_RX11_121 : (Cond.methodLink RX11 121 yX0_forget) ∈ qtb := q_mt 486 (by decide +kernel) (by decide +kernel)
theorem q_im_yX0_forget : (Cond.instanceMethod yX0_forget) ∈ qtb := q_mt 487 (by decide +kernel) (by decide +kernel)
theorem q_se_yX0_forget : (Cond.selects RX0 yX0_forget yX0_forget) ∈ qtb := q_mt 488 (by decide +kernel) (by decide +kernel)
theorem q_cd_yX0_forget : (Cond.code yX0_forget cX0_forget 1 none) ∈ qtb := q_mt 489 (by decide +kernel) (by decide +kernel)
theorem q_ml_RL_23 : (Cond.methodLink RL 23 yX11_fault) ∈ qtb := q_mt 490 (by decide +kernel) (by decide +kernel)
theorem q_im_yX11_fault : (Cond.instanceMethod yX11_fault) ∈ qtb := q_mt 491 (by decide +kernel) (by decide +kernel)
theorem q_se_yX11_fault : (Cond.selects RX11 yX11_fault yX11_fault) ∈ qtb := q_mt 492 (by decide +kernel) (by decide +kernel)
theorem q_cd_yX11_fault : (Cond.code yX11_fault cX11_fault 1 (some .int)) ∈ qtb := q_mt 493 (by decide +kernel) (by decide +kernel)
theorem q_ml_RL_27 : (Cond.methodLink RL 27 yX11_told) ∈ qtb := q_mt 494 (by decide +kernel) (by decide +kernel)
theorem q_im_yX11_told : (Cond.instanceMethod yX11_told) ∈ qtb := q_mt 495 (by decide +kernel) (by decide +kernel)
theorem q_se_yX11_told : (Cond.selects RX11 yX11_told yX11_told) ∈ qtb := q_mt 496 (by decide +kernel) (by decide +kernel)
theorem q_cd_yX11_told : (Cond.code yX11_told cX11_told 2 (some .int)) ∈ qtb := q_mt 497 (by decide +kernel) (by decide +kernel)
theorem q_ml_RX11_140 : (Cond.methodLink RX11 140 yX2_callsOfAll) ∈ qtb := q_mt 498 (by decide +kernel) (by decide +kernel)
theorem q_im_yX2_callsOfAll : (Cond.instanceMethod yX2_callsOfAll) ∈ qtb := q_mt 499 (by decide +kernel) (by decide +kernel)
theorem q_se_yX2_callsOfAll : (Cond.selects RX2 yX2_callsOfAll yX2_callsOfAll) ∈ qtb := q_mt 500 (by decide +kernel) (by decide +kernel)
theorem q_cd_yX2_callsOfAll : (Cond.code yX2_callsOfAll cX2_callsOfAll 3 (some .int)) ∈ qtb := q_mt 501 (by decide +kernel) (by decide +kernel)
theorem q_ml_RX2_81 : (Cond.methodLink RX2 81 yX2_callsAt) ∈ qtb := q_mt 502 (by decide +kernel) (by decide +kernel)
theorem q_im_yX2_callsAt : (Cond.instanceMethod yX2_callsAt) ∈ qtb := q_mt 503 (by decide +kernel) (by decide +kernel)
theorem q_se_yX2_callsAt : (Cond.selects RX2 yX2_callsAt yX2_callsAt) ∈ qtb := q_mt 504 (by decide +kernel) (by decide +kernel)
theorem q_cd_yX2_callsAt : (Cond.code yX2_callsAt cX2_callsAt 4 (some .int)) ∈ qtb := q_mt 505 (by decide +kernel) (by decide +kernel)
theorem q_ml_RX2_78 : (Cond.methodLink RX2 78 yX2_callsOf) ∈ qtb := q_mt 506 (by decide +kernel) (by decide +kernel)
theorem q_im_yX2_callsOf : (Cond.instanceMethod yX2_callsOf) ∈ qtb := q_mt 507 (by decide +kernel) (by decide +kernel)
theorem q_se_yX2_callsOf : (Cond.selects RX2 yX2_callsOf yX2_callsOf) ∈ qtb := q_mt 508 (by decide +kernel) (by decide +kernel)
theorem q_cd_yX2_callsOf : (Cond.code yX2_callsOf cX2_callsOf 3 (some .int)) ∈ qtb := q_mt 509 (by decide +kernel) (by decide +kernel)
theorem q_ml_RX2_74 : (Cond.methodLink RX2 74 yX2_pair) ∈ qtb := q_mt 510 (by decide +kernel) (by decide +kernel)
theorem q_st_yX2_pair : (Cond.static yX2_pair) ∈ qtb := q_mt 511 (by decide +kernel) (by decide +kernel)
theorem q_cd_yX2_pair : (Cond.code yX2_pair cX2_pair 2 (some .int)) ∈ qtb := q_mt 512 (by decide +kernel) (by decide +kernel)
theorem q_ml_RX11_144 : (Cond.methodLink RX11 144 yX2_welcome) ∈ qtb := q_mt 513 (by decide +kernel) (by decide +kernel)
theorem q_im_yX2_welcome : (Cond.instanceMethod yX2_welcome) ∈ qtb := q_mt 514 (by decide +kernel) (by decide +kernel)
theorem q_se_yX2_welcome : (Cond.selects RX2 yX2_welcome yX2_welcome) ∈ qtb := q_mt 515 (by decide +kernel) (by decide +kernel)
theorem q_cd_yX2_welcome : (Cond.code yX2_welcome cX2_welcome 4 (some .int)) ∈ qtb := q_mt 516 (by decide +kernel) (by decide +kernel)
theorem q_ml_RX11_147 : (Cond.methodLink RX11 147 yX2_coldest) ∈ qtb := q_mt 517 (by decide +kernel) (by decide +kernel)
theorem q_im_yX2_coldest : (Cond.instanceMethod yX2_coldest) ∈ qtb := q_mt 518 (by decide +kernel) (by decide +kernel)
theorem q_se_yX2_coldest : (Cond.selects RX2 yX2_coldest yX2_coldest) ∈ qtb := q_mt 519 (by decide +kernel) (by decide +kernel)
theorem q_cd_yX2_coldest : (Cond.code yX2_coldest cX2_coldest 4 (some .int)) ∈ qtb := q_mt 520 (by decide +kernel) (by decide +kernel)
theorem q_ml_RX11_151 : (Cond.methodLink RX11 151 yX1_countSaid) ∈ qtb := q_mt 521 (by decide +kernel) (by decide +kernel)
theorem q_st_yX1_countSaid : (Cond.static yX1_countSaid) ∈ qtb := q_mt 522 (by decide +kernel) (by decide +kernel)
theorem q_cd_yX1_countSaid : (Cond.code yX1_countSaid cX1_countSaid 3 (some .int)) ∈ qtb := q_mt 523 (by decide +kernel) (by decide +kernel)
theorem q_ml_RX1_9 : (Cond.methodLink RX1 9 yX1_isSaid) ∈ qtb := q_mt 524 (by decide +kernel) (by decide +kernel)
theorem q_st_yX1_isSaid : (Cond.static yX1_isSaid) ∈ qtb := q_mt 525 (by decide +kernel) (by decide +kernel)
theorem q_cd_yX1_isSaid : (Cond.code yX1_isSaid cX1_isSaid 5 (some .boolean)) ∈ qtb := q_mt 526 (by decide +kernel) (by decide +kernel)
theorem q_ml_RL_31 : (Cond.methodLink RL 31 yX11_comer) ∈ qtb := q_mt 527 (by decide +kernel) (by decide +kernel)
theorem q_im_yX11_comer : (Cond.instanceMethod yX11_comer) ∈ qtb := q_mt 528 (by decide +kernel) (by decide +kernel)
theorem q_se_yX11_comer : (Cond.selects RX11 yX11_comer yX11_comer) ∈ qtb := q_mt 529 (by decide +kernel) (by decide +kernel)
theorem q_cd_yX11_comer : (Cond.code yX11_comer cX11_comer 3 (some .int)) ∈ qtb := q_mt 530 (by decide +kernel) (by decide +kernel)
theorem q_ml_RX11_166 : (Cond.methodLink RX11 166 yX7_hasComer) ∈ qtb := q_mt 531 (by decide +kernel) (by decide +kernel)
theorem q_im_yX7_hasComer : (Cond.instanceMethod yX7_hasComer) ∈ qtb := q_mt 532 (by decide +kernel) (by decide +kernel)
theorem q_se_yX7_hasComer : (Cond.selects RX7 yX7_hasComer yX7_hasComer) ∈ qtb := q_mt 533 (by decide +kernel) (by decide +kernel)
theorem q_cd_yX7_hasComer : (Cond.code yX7_hasComer cX7_hasComer 2 (some .boolean)) ∈ qtb := q_mt 534 (by decide +kernel) (by decide +kernel)
theorem q_ci_RX11_169 : (Cond.constant RX11 169 (-1000000001)) ∈ qtb := q_mt 535 (by decide +kernel) (by decide +kernel)
theorem q_ml_RX11_183 : (Cond.methodLink RX11 183 yX5_houseOf) ∈ qtb := q_mt 536 (by decide +kernel) (by decide +kernel)
theorem q_im_yX5_houseOf : (Cond.instanceMethod yX5_houseOf) ∈ qtb := q_mt 537 (by decide +kernel) (by decide +kernel)
theorem q_se_yX5_houseOf : (Cond.selects RX5 yX5_houseOf yX5_houseOf) ∈ qtb := q_mt 538 (by decide +kernel) (by decide +kernel)
theorem q_cd_yX5_houseOf : (Cond.code yX5_houseOf cX5_houseOf 2 (some .int)) ∈ qtb := q_mt 539 (by decide +kernel) (by decide +kernel)
theorem q_ml_RX5_32 : (Cond.methodLink RX5 32 yX5_settle) ∈ qtb := q_mt 540 (by decide +kernel) (by decide +kernel)
theorem q_im_yX5_settle : (Cond.instanceMethod yX5_settle) ∈ qtb := q_mt 542 (by decide +kernel) (by decide +kernel)
theorem q_cd_yX5_settle : (Cond.code yX5_settle cX5_settle 4 none) ∈ qtb := q_mt 543 (by decide +kernel) (by decide +kernel)
theorem q_ml_RX5_35 : (Cond.methodLink RX5 35 yX5_begin) ∈ qtb := q_mt 544 (by decide +kernel) (by decide +kernel)
theorem q_im_yX5_begin : (Cond.instanceMethod yX5_begin) ∈ qtb := q_mt 546 (by decide +kernel) (by decide +kernel)
theorem q_cd_yX5_begin : (Cond.code yX5_begin cX5_begin 3 none) ∈ qtb := q_mt 547 (by decide +kernel) (by decide +kernel)
theorem q_ml_RX5_50 : (Cond.methodLink RX5 50 yJ7_fill_53178) ∈ qtb := q_mt 548 (by decide +kernel) (by decide +kernel)
theorem q_ml_RX5_56 : (Cond.methodLink RX5 56 yX10_comers) ∈ qtb := q_mt 549 (by decide +kernel) (by decide +kernel)
theorem q_im_yX10_comers : (Cond.instanceMethod yX10_comers) ∈ qtb := q_mt 550 (by decide +kernel) (by decide +kernel)
theorem q_se_yX10_comers : (Cond.selects RX10 yX10_comers yX10_comers) ∈ qtb := q_mt 551 (by decide +kernel) (by decide +kernel)
theorem q_cd_yX10_comers : (Cond.code yX10_comers cX10_comers 1 (some .int)) ∈ qtb := q_mt 552 (by decide +kernel) (by decide +kernel)
theorem q_ml_RX5_61 : (Cond.methodLink RX5 61 yX10_houses) ∈ qtb := q_mt 553 (by decide +kernel) (by decide +kernel)
theorem q_im_yX10_houses : (Cond.instanceMethod yX10_houses) ∈ qtb := q_mt 554 (by decide +kernel) (by decide +kernel)
theorem q_se_yX10_houses : (Cond.selects RX10 yX10_houses yX10_houses) ∈ qtb := q_mt 555 (by decide +kernel) (by decide +kernel)
theorem q_cd_yX10_houses : (Cond.code yX10_houses cX10_houses 1 (some .int)) ∈ qtb := q_mt 556 (by decide +kernel) (by decide +kernel)
theorem q_ml_RX5_64 : (Cond.methodLink RX5 64 yX10_suit) ∈ qtb := q_mt 557 (by decide +kernel) (by decide +kernel)
theorem q_im_yX10_suit : (Cond.instanceMethod yX10_suit) ∈ qtb := q_mt 558 (by decide +kernel) (by decide +kernel)
theorem q_se_yX10_suit : (Cond.selects RX10 yX10_suit yX10_suit) ∈ qtb := q_mt 559 (by decide +kernel) (by decide +kernel)
theorem q_cd_yX10_suit : (Cond.code yX10_suit cX10_suit 6 (some .int)) ∈ qtb := q_mt 560 (by decide +kernel) (by decide +kernel)
theorem q_ml_RX10_62 : (Cond.methodLink RX10 62 yX10_stuffingBelieved) ∈ qtb := q_mt 561 (by decide +kernel) (by decide +kernel)
theorem q_im_yX10_stuffingBelieved : (Cond.instanceMethod yX10_stuffingBelieved) ∈ qtb := q_mt 563 (by decide +kernel) (by decide +kernel)
theorem q_cd_yX10_stuffingBelieved : (Cond.code yX10_stuffingBelieved cX10_stuffingBelieved 3 (some .int)) ∈ qtb := q_mt 564 (by decide +kernel) (by decide +kernel)
theorem q_ml_RX10_28 : (Cond.methodLink RX10 28 yX2_isSham) ∈ qtb := q_mt 565 (by decide +kernel) (by decide +kernel)
theorem q_im_yX2_isSham : (Cond.instanceMethod yX2_isSham) ∈ qtb := q_mt 566 (by decide +kernel) (by decide +kernel)
theorem q_se_yX2_isSham : (Cond.selects RX2 yX2_isSham yX2_isSham) ∈ qtb := q_mt 567 (by decide +kernel) (by decide +kernel)
theorem q_cd_yX2_isSham : (Cond.code yX2_isSham cX2_isSham 3 (some .boolean)) ∈ qtb := q_mt 568 (by decide +kernel) (by decide +kernel)
theorem q_ml_RX10_87 : (Cond.methodLink RX10 87 yX10_isSaidFor) ∈ qtb := q_mt 569 (by decide +kernel) (by decide +kernel)
theorem q_im_yX10_isSaidFor : (Cond.instanceMethod yX10_isSaidFor) ∈ qtb := q_mt 571 (by decide +kernel) (by decide +kernel)
theorem q_cd_yX10_isSaidFor : (Cond.code yX10_isSaidFor cX10_isSaidFor 3 (some .boolean)) ∈ qtb := q_mt 572 (by decide +kernel) (by decide +kernel)
theorem q_ml_RX10_54 : (Cond.methodLink RX10 54 yX1_isSaid) ∈ qtb := q_mt 573 (by decide +kernel) (by decide +kernel)
theorem q_ml_RX10_41 : (Cond.methodLink RX10 41 yX1_meaning) ∈ qtb := q_mt 574 (by decide +kernel) (by decide +kernel)
theorem q_st_yX1_meaning : (Cond.static yX1_meaning) ∈ qtb := q_mt 575 (by decide +kernel) (by decide +kernel)
theorem q_cd_yX1_meaning : (Cond.code yX1_meaning cX1_meaning 3 (some .int)) ∈ qtb := q_mt 576 (by decide +kernel) (by decide +kernel)
theorem q_ml_RX10_65 : (Cond.methodLink RX10 65 yX10_heardStuffed) ∈ qtb := q_mt 577 (by decide +kernel) (by decide +kernel)
theorem q_im_yX10_heardStuffed : (Cond.instanceMethod yX10_heardStuffed) ∈ qtb := q_mt 579 (by decide +kernel) (by decide +kernel)
theorem q_cd_yX10_heardStuffed : (Cond.code yX10_heardStuffed cX10_heardStuffed 6 (some .int)) ∈ qtb := q_mt 580 (by decide +kernel) (by decide +kernel)
theorem q_ml_RX10_47 : (Cond.methodLink RX10 47 yX7_prizeOf) ∈ qtb := q_mt 581 (by decide +kernel) (by decide +kernel)
theorem q_im_yX7_prizeOf : (Cond.instanceMethod yX7_prizeOf) ∈ qtb := q_mt 582 (by decide +kernel) (by decide +kernel)
theorem q_se_yX7_prizeOf : (Cond.selects RX7 yX7_prizeOf yX7_prizeOf) ∈ qtb := q_mt 583 (by decide +kernel) (by decide +kernel)
theorem q_cd_yX7_prizeOf : (Cond.code yX7_prizeOf cX7_prizeOf 3 (some .int)) ∈ qtb := q_mt 584 (by decide +kernel) (by decide +kernel)
theorem q_ml_RX10_57 : (Cond.methodLink RX10 57 yJ9_max_7cf53) ∈ qtb := q_mt 585 (by decide +kernel) (by decide +kernel)
theorem q_st_yJ9_max_7cf53 : (Cond.static yJ9_max_7cf53) ∈ qtb := q_mt 586 (by decide +kernel) (by decide +kernel)
theorem q_cd_yJ9_max_7cf53 : (Cond.code yJ9_max_7cf53 cJ9_max_7cf53 2 (some .int)) ∈ qtb := q_mt 587 (by decide +kernel) (by decide +kernel)
theorem q_ml_RX5_38 : (Cond.methodLink RX5 38 yX5_firstWaiting) ∈ qtb := q_mt 588 (by decide +kernel) (by decide +kernel)
theorem q_im_yX5_firstWaiting : (Cond.instanceMethod yX5_firstWaiting) ∈ qtb := q_mt 590 (by decide +kernel) (by decide +kernel)
theorem q_cd_yX5_firstWaiting : (Cond.code yX5_firstWaiting cX5_firstWaiting 2 (some .int)) ∈ qtb := q_mt 591 (by decide +kernel) (by decide +kernel)
theorem q_ml_RX5_42 : (Cond.methodLink RX5 42 yX5_bestLeft) ∈ qtb := q_mt 592 (by decide +kernel) (by decide +kernel)
theorem q_im_yX5_bestLeft : (Cond.instanceMethod yX5_bestLeft) ∈ qtb := q_mt 594 (by decide +kernel) (by decide +kernel)
theorem q_cd_yX5_bestLeft : (Cond.code yX5_bestLeft cX5_bestLeft 5 (some .int)) ∈ qtb := q_mt 595 (by decide +kernel) (by decide +kernel)
theorem q_ml_RX5_46 : (Cond.methodLink RX5 46 yX5_ask) ∈ qtb := q_mt 596 (by decide +kernel) (by decide +kernel)
theorem q_im_yX5_ask : (Cond.instanceMethod yX5_ask) ∈ qtb := q_mt 598 (by decide +kernel) (by decide +kernel)
theorem q_cd_yX5_ask : (Cond.code yX5_ask cX5_ask 4 none) ∈ qtb := q_mt 599 (by decide +kernel) (by decide +kernel)
theorem q_ml_RX5_67 : (Cond.methodLink RX5 67 yX5_join) ∈ qtb := q_mt 600 (by decide +kernel) (by decide +kernel)
theorem q_im_yX5_join : (Cond.instanceMethod yX5_join) ∈ qtb := q_mt 602 (by decide +kernel) (by decide +kernel)
theorem q_cd_yX5_join : (Cond.code yX5_join cX5_join 3 none) ∈ qtb := q_mt 603 (by decide +kernel) (by decide +kernel)
theorem q_ml_RX5_70 : (Cond.methodLink RX5 70 yX5_isPreferred) ∈ qtb := q_mt 604 (by decide +kernel) (by decide +kernel)
theorem q_im_yX5_isPreferred : (Cond.instanceMethod yX5_isPreferred) ∈ qtb := q_mt 606 (by decide +kernel) (by decide +kernel)
theorem q_cd_yX5_isPreferred : (Cond.code yX5_isPreferred cX5_isPreferred 6 (some .boolean)) ∈ qtb := q_mt 607 (by decide +kernel) (by decide +kernel)
theorem q_ml_RL_36 : (Cond.methodLink RL 36 yX11_house) ∈ qtb := q_mt 608 (by decide +kernel) (by decide +kernel)
theorem q_im_yX11_house : (Cond.instanceMethod yX11_house) ∈ qtb := q_mt 609 (by decide +kernel) (by decide +kernel)
theorem q_se_yX11_house : (Cond.selects RX11 yX11_house yX11_house) ∈ qtb := q_mt 610 (by decide +kernel) (by decide +kernel)
theorem q_cd_yX11_house : (Cond.code yX11_house cX11_house 3 (some .int)) ∈ qtb := q_mt 611 (by decide +kernel) (by decide +kernel)
theorem q_ml_RX11_186 : (Cond.methodLink RX11 186 yX7_hasHouse) ∈ qtb := q_mt 612 (by decide +kernel) (by decide +kernel)
theorem q_ml_RX11_195 : (Cond.methodLink RX11 195 yX5_comerOf) ∈ qtb := q_mt 613 (by decide +kernel) (by decide +kernel)
theorem q_im_yX5_comerOf : (Cond.instanceMethod yX5_comerOf) ∈ qtb := q_mt 614 (by decide +kernel) (by decide +kernel)
theorem q_se_yX5_comerOf : (Cond.selects RX5 yX5_comerOf yX5_comerOf) ∈ qtb := q_mt 615 (by decide +kernel) (by decide +kernel)
theorem q_cd_yX5_comerOf : (Cond.code yX5_comerOf cX5_comerOf 2 (some .int)) ∈ qtb := q_mt 616 (by decide +kernel) (by decide +kernel)
theorem q_ml_RX11_198 : (Cond.methodLink RX11 198 yX2_callsAt) ∈ qtb := q_mt 617 (by decide +kernel) (by decide +kernel)
theorem q_ml_RL_40 : (Cond.methodLink RL 40 yX11_prize) ∈ qtb := q_mt 618 (by decide +kernel) (by decide +kernel)
theorem q_im_yX11_prize : (Cond.instanceMethod yX11_prize) ∈ qtb := q_mt 619 (by decide +kernel) (by decide +kernel)
theorem q_se_yX11_prize : (Cond.selects RX11 yX11_prize yX11_prize) ∈ qtb := q_mt 620 (by decide +kernel) (by decide +kernel)
theorem q_cd_yX11_prize : (Cond.code yX11_prize cX11_prize 3 (some .int)) ∈ qtb := q_mt 621 (by decide +kernel) (by decide +kernel)
theorem q_ml_RX11_201 : (Cond.methodLink RX11 201 yX7_prizeOf) ∈ qtb := q_mt 622 (by decide +kernel) (by decide +kernel)
theorem q_ml_RL_44 : (Cond.methodLink RL 44 yX11_calls) ∈ qtb := q_mt 623 (by decide +kernel) (by decide +kernel)
theorem q_im_yX11_calls : (Cond.instanceMethod yX11_calls) ∈ qtb := q_mt 624 (by decide +kernel) (by decide +kernel)
theorem q_se_yX11_calls : (Cond.selects RX11 yX11_calls yX11_calls) ∈ qtb := q_mt 625 (by decide +kernel) (by decide +kernel)
theorem q_cd_yX11_calls : (Cond.code yX11_calls cX11_calls 3 (some .int)) ∈ qtb := q_mt 626 (by decide +kernel) (by decide +kernel)
theorem q_ml_RX11_205 : (Cond.methodLink RX11 205 yX7_hasBoth) ∈ qtb := q_mt 627 (by decide +kernel) (by decide +kernel)
theorem q_im_yX7_hasBoth : (Cond.instanceMethod yX7_hasBoth) ∈ qtb := q_mt 628 (by decide +kernel) (by decide +kernel)
theorem q_se_yX7_hasBoth : (Cond.selects RX7 yX7_hasBoth yX7_hasBoth) ∈ qtb := q_mt 629 (by decide +kernel) (by decide +kernel)
theorem q_cd_yX7_hasBoth : (Cond.code yX7_hasBoth cX7_hasBoth 3 (some .boolean)) ∈ qtb := q_mt 630 (by decide +kernel) (by decide +kernel)
theorem q_ml_RX7_40 : (Cond.methodLink RX7 40 yX7_hasComer) ∈ qtb := q_mt 631 (by decide +kernel) (by decide +kernel)
theorem q_ml_RX11_208 : (Cond.methodLink RX11 208 yX2_callsOf) ∈ qtb := q_mt 632 (by decide +kernel) (by decide +kernel)
theorem q_ml_RL_48 : (Cond.methodLink RL 48 yX11_sign) ∈ qtb := q_mt 633 (by decide +kernel) (by decide +kernel)
theorem q_im_yX11_sign : (Cond.instanceMethod yX11_sign) ∈ qtb := q_mt 634 (by decide +kernel) (by decide +kernel)
theorem q_se_yX11_sign : (Cond.selects RX11 yX11_sign yX11_sign) ∈ qtb := q_mt 635 (by decide +kernel) (by decide +kernel)
theorem q_cd_yX11_sign : (Cond.code yX11_sign cX11_sign 3 (some .int)) ∈ qtb := q_mt 636 (by decide +kernel) (by decide +kernel)
theorem q_ml_RX11_211 : (Cond.methodLink RX11 211 yX1_isSign) ∈ qtb := q_mt 637 (by decide +kernel) (by decide +kernel)
theorem q_st_yX1_isSign : (Cond.static yX1_isSign) ∈ qtb := q_mt 638 (by decide +kernel) (by decide +kernel)
theorem q_cd_yX1_isSign : (Cond.code yX1_isSign cX1_isSign 1 (some .boolean)) ∈ qtb := q_mt 639 (by decide +kernel) (by decide +kernel)
theorem q_ml_RX11_214 : (Cond.methodLink RX11 214 yX7_isOn) ∈ qtb := q_mt 640 (by decide +kernel) (by decide +kernel)
theorem q_ci_RX11_218 : (Cond.constant RX11 218 (-1000000003)) ∈ qtb := q_mt 641 (by decide +kernel) (by decide +kernel)
theorem q_ml_RX11_219 : (Cond.methodLink RX11 219 yX1_meaning) ∈ qtb := q_mt 642 (by decide +kernel) (by decide +kernel)
theorem q_ml_RX11_221 : (Cond.methodLink RX11 221 yX1_isSaid) ∈ qtb := q_mt 643 (by decide +kernel) (by decide +kernel)
theorem q_ml_RL_52 : (Cond.methodLink RL 52 yX11_logged) ∈ qtb := q_mt 644 (by decide +kernel) (by decide +kernel)
theorem q_im_yX11_logged : (Cond.instanceMethod yX11_logged) ∈ qtb := q_mt 645 (by decide +kernel) (by decide +kernel)
theorem q_se_yX11_logged : (Cond.selects RX11 yX11_logged yX11_logged) ∈ qtb := q_mt 646 (by decide +kernel) (by decide +kernel)
theorem q_cd_yX11_logged : (Cond.code yX11_logged cX11_logged 3 (some .int)) ∈ qtb := q_mt 647 (by decide +kernel) (by decide +kernel)
theorem q_ml_RX11_224 : (Cond.methodLink RX11 224 yX4_look) ∈ qtb := q_mt 648 (by decide +kernel) (by decide +kernel)
theorem q_im_yX4_look : (Cond.instanceMethod yX4_look) ∈ qtb := q_mt 649 (by decide +kernel) (by decide +kernel)
theorem q_se_yX4_look : (Cond.selects RX4 yX4_look yX4_look) ∈ qtb := q_mt 650 (by decide +kernel) (by decide +kernel)
theorem q_cd_yX4_look : (Cond.code yX4_look cX4_look 4 (some .int)) ∈ qtb := q_mt 651 (by decide +kernel) (by decide +kernel)
theorem q_ml_RL_56 : (Cond.methodLink RL 56 yX11_visit) ∈ qtb := q_mt 652 (by decide +kernel) (by decide +kernel)
theorem q_im_yX11_visit : (Cond.instanceMethod yX11_visit) ∈ qtb := q_mt 653 (by decide +kernel) (by decide +kernel)
theorem q_se_yX11_visit : (Cond.selects RX11 yX11_visit yX11_visit) ∈ qtb := q_mt 654 (by decide +kernel) (by decide +kernel)
theorem q_cd_yX11_visit : (Cond.code yX11_visit cX11_visit 4 (some .int)) ∈ qtb := q_mt 655 (by decide +kernel) (by decide +kernel)
theorem q_ml_RX11_227 : (Cond.methodLink RX11 227 yX6_remember) ∈ qtb := q_mt 656 (by decide +kernel) (by decide +kernel)
theorem q_im_yX6_remember : (Cond.instanceMethod yX6_remember) ∈ qtb := q_mt 657 (by decide +kernel) (by decide +kernel)
theorem q_se_yX6_remember : (Cond.selects RX6 yX6_remember yX6_remember) ∈ qtb := q_mt 658 (by decide +kernel) (by decide +kernel)
theorem q_cd_yX6_remember : (Cond.code yX6_remember cX6_remember 2 none) ∈ qtb := q_mt 659 (by decide +kernel) (by decide +kernel)
theorem q_ml_RX6_25 : (Cond.methodLink RX6 25 yX2_become) ∈ qtb := q_mt 660 (by decide +kernel) (by decide +kernel)
theorem q_im_yX2_become : (Cond.instanceMethod yX2_become) ∈ qtb := q_mt 661 (by decide +kernel) (by decide +kernel)
theorem q_se_yX2_become : (Cond.selects RX2 yX2_become yX2_become) ∈ qtb := q_mt 662 (by decide +kernel) (by decide +kernel)
theorem q_cd_yX2_become : (Cond.code yX2_become cX2_become 2 none) ∈ qtb := q_mt 663 (by decide +kernel) (by decide +kernel)
theorem q_ml_RX2_70 : (Cond.methodLink RX2 70 yX4_become) ∈ qtb := q_mt 664 (by decide +kernel) (by decide +kernel)
theorem q_im_yX4_become : (Cond.instanceMethod yX4_become) ∈ qtb := q_mt 665 (by decide +kernel) (by decide +kernel)
theorem q_se_yX4_become : (Cond.selects RX4 yX4_become yX4_become) ∈ qtb := q_mt 666 (by decide +kernel) (by decide +kernel)
theorem q_cd_yX4_become : (Cond.code yX4_become cX4_become 2 none) ∈ qtb := q_mt 667 (by decide +kernel) (by decide +kernel)
theorem q_ml_RX4_28 : (Cond.methodLink RX4 28 ⟨"java/lang/System", "arraycopy", "(Ljava/lang/Object;ILjava/lang/Object;II)V"⟩) ∈ qtb := q_mt 668 (by decide +kernel) (by decide +kernel)
theorem q_ml_RX6_29 : (Cond.methodLink RX6 29 yJ9_min_7cf53) ∈ qtb := q_mt 669 (by decide +kernel) (by decide +kernel)
theorem q_ml_RX11_231 : (Cond.methodLink RX11 231 yX11_lay) ∈ qtb := q_mt 670 (by decide +kernel) (by decide +kernel)
theorem q_im_yX11_lay : (Cond.instanceMethod yX11_lay) ∈ qtb := q_mt 672 (by decide +kernel) (by decide +kernel)
theorem q_cd_yX11_lay : (Cond.code yX11_lay cX11_lay 5 (some .int)) ∈ qtb := q_mt 673 (by decide +kernel) (by decide +kernel)
theorem q_ml_RX11_259 : (Cond.methodLink RX11 259 yX10_answer) ∈ qtb := q_mt 674 (by decide +kernel) (by decide +kernel)
theorem q_im_yX10_answer : (Cond.instanceMethod yX10_answer) ∈ qtb := q_mt 675 (by decide +kernel) (by decide +kernel)
theorem q_se_yX10_answer : (Cond.selects RX10 yX10_answer yX10_answer) ∈ qtb := q_mt 676 (by decide +kernel) (by decide +kernel)
theorem q_cd_yX10_answer : (Cond.code yX10_answer cX10_answer 5 (some .int)) ∈ qtb := q_mt 677 (by decide +kernel) (by decide +kernel)
theorem q_ml_RX10_69 : (Cond.methodLink RX10 69 yX10_heard) ∈ qtb := q_mt 678 (by decide +kernel) (by decide +kernel)
theorem q_im_yX10_heard : (Cond.instanceMethod yX10_heard) ∈ qtb := q_mt 679 (by decide +kernel) (by decide +kernel)
theorem q_se_yX10_heard : (Cond.selects RX10 yX10_heard yX10_heard) ∈ qtb := q_mt 680 (by decide +kernel) (by decide +kernel)
theorem q_cd_yX10_heard : (Cond.code yX10_heard cX10_heard 4 (some .int)) ∈ qtb := q_mt 681 (by decide +kernel) (by decide +kernel)
theorem q_ml_RX11_324 : (Cond.methodLink RX11 324 yX4_append) ∈ qtb := q_mt 682 (by decide +kernel) (by decide +kernel)
theorem q_im_yX4_append : (Cond.instanceMethod yX4_append) ∈ qtb := q_mt 683 (by decide +kernel) (by decide +kernel)
theorem q_se_yX4_append : (Cond.selects RX4 yX4_append yX4_append) ∈ qtb := q_mt 684 (by decide +kernel) (by decide +kernel)
theorem q_cd_yX4_append : (Cond.code yX4_append cX4_append 7 none) ∈ qtb := q_mt 685 (by decide +kernel) (by decide +kernel)
theorem q_ml_RX4_22 : (Cond.methodLink RX4 22 yJ9_min_7cf53) ∈ qtb := q_mt 686 (by decide +kernel) (by decide +kernel)
theorem q_ml_RX11_327 : (Cond.methodLink RX11 327 yX2_welcomeIn) ∈ qtb := q_mt 687 (by decide +kernel) (by decide +kernel)
theorem q_im_yX2_welcomeIn : (Cond.instanceMethod yX2_welcomeIn) ∈ qtb := q_mt 688 (by decide +kernel) (by decide +kernel)
theorem q_se_yX2_welcomeIn : (Cond.selects RX2 yX2_welcomeIn yX2_welcomeIn) ∈ qtb := q_mt 689 (by decide +kernel) (by decide +kernel)
theorem q_cd_yX2_welcomeIn : (Cond.code yX2_welcomeIn cX2_welcomeIn 4 none) ∈ qtb := q_mt 690 (by decide +kernel) (by decide +kernel)
theorem q_ml_RX2_85 : (Cond.methodLink RX2 85 yJ9_min_7cf53) ∈ qtb := q_mt 691 (by decide +kernel) (by decide +kernel)
theorem q_ml_RL_61 : (Cond.methodLink RL 61 yX11_day) ∈ qtb := q_mt 692 (by decide +kernel) (by decide +kernel)
theorem q_im_yX11_day : (Cond.instanceMethod yX11_day) ∈ qtb := q_mt 693 (by decide +kernel) (by decide +kernel)
theorem q_se_yX11_day : (Cond.selects RX11 yX11_day yX11_day) ∈ qtb := q_mt 694 (by decide +kernel) (by decide +kernel)
theorem q_cd_yX11_day : (Cond.code yX11_day cX11_day 4 (some .int)) ∈ qtb := q_mt 695 (by decide +kernel) (by decide +kernel)
theorem q_ml_RX11_235 : (Cond.methodLink RX11 235 yX11_refusalOfDays) ∈ qtb := q_mt 696 (by decide +kernel) (by decide +kernel)
theorem q_im_yX11_refusalOfDays : (Cond.instanceMethod yX11_refusalOfDays) ∈ qtb := q_mt 698 (by decide +kernel) (by decide +kernel)
theorem q_cd_yX11_refusalOfDays : (Cond.code yX11_refusalOfDays cX11_refusalOfDays 2 (some .int)) ∈ qtb := q_mt 699 (by decide +kernel) (by decide +kernel)
theorem q_ci_RX11_323 : (Cond.constant RX11 323 (90000)) ∈ qtb := q_mt 700 (by decide +kernel) (by decide +kernel)
theorem q_ml_RX11_238 : (Cond.methodLink RX11 238 yX2_endDay) ∈ qtb := q_mt 701 (by decide +kernel) (by decide +kernel)
theorem q_im_yX2_endDay : (Cond.instanceMethod yX2_endDay) ∈ qtb := q_mt 702 (by decide +kernel) (by decide +kernel)
theorem q_se_yX2_endDay : (Cond.selects RX2 yX2_endDay yX2_endDay) ∈ qtb := q_mt 703 (by decide +kernel) (by decide +kernel)
theorem q_cd_yX2_endDay : (Cond.code yX2_endDay cX2_endDay 4 none) ∈ qtb := q_mt 704 (by decide +kernel) (by decide +kernel)
theorem q_ml_RX2_90 : (Cond.methodLink RX2 90 yJ9_max_7cf53) ∈ qtb := q_mt 705 (by decide +kernel) (by decide +kernel)
theorem q_ml_RL_65 : (Cond.methodLink RL 65 yX11_mean) ∈ qtb := q_mt 706 (by decide +kernel) (by decide +kernel)
theorem q_im_yX11_mean : (Cond.instanceMethod yX11_mean) ∈ qtb := q_mt 707 (by decide +kernel) (by decide +kernel)
theorem q_se_yX11_mean : (Cond.selects RX11 yX11_mean yX11_mean) ∈ qtb := q_mt 708 (by decide +kernel) (by decide +kernel)
theorem q_cd_yX11_mean : (Cond.code yX11_mean cX11_mean 4 (some .int)) ∈ qtb := q_mt 709 (by decide +kernel) (by decide +kernel)
theorem q_ml_RL_69 : (Cond.methodLink RL 69 yX11_stuff) ∈ qtb := q_mt 710 (by decide +kernel) (by decide +kernel)
theorem q_im_yX11_stuff : (Cond.instanceMethod yX11_stuff) ∈ qtb := q_mt 711 (by decide +kernel) (by decide +kernel)
theorem q_se_yX11_stuff : (Cond.selects RX11 yX11_stuff yX11_stuff) ∈ qtb := q_mt 712 (by decide +kernel) (by decide +kernel)
theorem q_cd_yX11_stuff : (Cond.code yX11_stuff cX11_stuff 4 (some .int)) ∈ qtb := q_mt 713 (by decide +kernel) (by decide +kernel)
theorem q_ml_RL_73 : (Cond.methodLink RL 73 yX11_pardon) ∈ qtb := q_mt 714 (by decide +kernel) (by decide +kernel)
theorem q_im_yX11_pardon : (Cond.instanceMethod yX11_pardon) ∈ qtb := q_mt 715 (by decide +kernel) (by decide +kernel)
theorem q_se_yX11_pardon : (Cond.selects RX11 yX11_pardon yX11_pardon) ∈ qtb := q_mt 716 (by decide +kernel) (by decide +kernel)
theorem q_cd_yX11_pardon : (Cond.code yX11_pardon cX11_pardon 4 (some .int)) ∈ qtb := q_mt 717 (by decide +kernel) (by decide +kernel)
theorem q_ml_RX11_242 : (Cond.methodLink RX11 242 yX2_isSham) ∈ qtb := q_mt 718 (by decide +kernel) (by decide +kernel)
theorem q_ml_RX11_245 : (Cond.methodLink RX11 245 yX2_forgive) ∈ qtb := q_mt 719 (by decide +kernel) (by decide +kernel)
theorem q_im_yX2_forgive : (Cond.instanceMethod yX2_forgive) ∈ qtb := q_mt 720 (by decide +kernel) (by decide +kernel)
theorem q_se_yX2_forgive : (Cond.selects RX2 yX2_forgive yX2_forgive) ∈ qtb := q_mt 721 (by decide +kernel) (by decide +kernel)
theorem q_cd_yX2_forgive : (Cond.code yX2_forgive cX2_forgive 3 none) ∈ qtb := q_mt 722 (by decide +kernel) (by decide +kernel)
theorem q_ml_RL_77 : (Cond.methodLink RL 77 yX11_drift) ∈ qtb := q_mt 723 (by decide +kernel) (by decide +kernel)
theorem q_im_yX11_drift : (Cond.instanceMethod yX11_drift) ∈ qtb := q_mt 724 (by decide +kernel) (by decide +kernel)
theorem q_se_yX11_drift : (Cond.selects RX11 yX11_drift yX11_drift) ∈ qtb := q_mt 725 (by decide +kernel) (by decide +kernel)
theorem q_cd_yX11_drift : (Cond.code yX11_drift cX11_drift 4 (some .int)) ∈ qtb := q_mt 726 (by decide +kernel) (by decide +kernel)
theorem q_ml_RX11_249 : (Cond.methodLink RX11 249 yX11_layByDraws) ∈ qtb := q_mt 727 (by decide +kernel) (by decide +kernel)
theorem q_im_yX11_layByDraws : (Cond.instanceMethod yX11_layByDraws) ∈ qtb := q_mt 729 (by decide +kernel) (by decide +kernel)
theorem q_cd_yX11_layByDraws : (Cond.code yX11_layByDraws cX11_layByDraws 4 none) ∈ qtb := q_mt 730 (by decide +kernel) (by decide +kernel)
theorem q_ml_RX11_330 : (Cond.methodLink RX11 330 yX11_draw) ∈ qtb := q_mt 731 (by decide +kernel) (by decide +kernel)
theorem q_im_yX11_draw : (Cond.instanceMethod yX11_draw) ∈ qtb := q_mt 733 (by decide +kernel) (by decide +kernel)
theorem q_cd_yX11_draw : (Cond.code yX11_draw cX11_draw 2 (some .int)) ∈ qtb := q_mt 734 (by decide +kernel) (by decide +kernel)
theorem q_ci_RX11_333 : (Cond.constant RX11 333 (1103515245)) ∈ qtb := q_mt 735 (by decide +kernel) (by decide +kernel)
theorem q_ci_RX11_334 : (Cond.constant RX11 334 (2147483647)) ∈ qtb := q_mt 736 (by decide +kernel) (by decide +kernel)
theorem q_ci_RX11_335 : (Cond.constant RX11 335 (65536)) ∈ qtb := q_mt 737 (by decide +kernel) (by decide +kernel)
theorem q_ml_RL_81 : (Cond.methodLink RL 81 yX11_undo) ∈ qtb := q_mt 738 (by decide +kernel) (by decide +kernel)
theorem q_im_yX11_undo : (Cond.instanceMethod yX11_undo) ∈ qtb := q_mt 739 (by decide +kernel) (by decide +kernel)
theorem q_se_yX11_undo : (Cond.selects RX11 yX11_undo yX11_undo) ∈ qtb := q_mt 740 (by decide +kernel) (by decide +kernel)
theorem q_cd_yX11_undo : (Cond.code yX11_undo cX11_undo 2 (some .int)) ∈ qtb := q_mt 741 (by decide +kernel) (by decide +kernel)
theorem q_ml_RX11_252 : (Cond.methodLink RX11 252 yX6_bringBack) ∈ qtb := q_mt 742 (by decide +kernel) (by decide +kernel)
theorem q_im_yX6_bringBack : (Cond.instanceMethod yX6_bringBack) ∈ qtb := q_mt 743 (by decide +kernel) (by decide +kernel)
theorem q_se_yX6_bringBack : (Cond.selects RX6 yX6_bringBack yX6_bringBack) ∈ qtb := q_mt 744 (by decide +kernel) (by decide +kernel)
theorem q_cd_yX6_bringBack : (Cond.code yX6_bringBack cX6_bringBack 3 (some .boolean)) ∈ qtb := q_mt 745 (by decide +kernel) (by decide +kernel)
theorem q_ml_RL_85 : (Cond.methodLink RL 85 yX11_says) ∈ qtb := q_mt 746 (by decide +kernel) (by decide +kernel)
theorem q_im_yX11_says : (Cond.instanceMethod yX11_says) ∈ qtb := q_mt 747 (by decide +kernel) (by decide +kernel)
theorem q_se_yX11_says : (Cond.selects RX11 yX11_says yX11_says) ∈ qtb := q_mt 748 (by decide +kernel) (by decide +kernel)
theorem q_cd_yX11_says : (Cond.code yX11_says cX11_says 5 (some .int)) ∈ qtb := q_mt 749 (by decide +kernel) (by decide +kernel)
theorem q_ml_RX11_256 : (Cond.methodLink RX11 256 yX10_heard) ∈ qtb := q_mt 750 (by decide +kernel) (by decide +kernel)
theorem q_ml_RL_90 : (Cond.methodLink RL 90 yX11_signs) ∈ qtb := q_mt 751 (by decide +kernel) (by decide +kernel)
theorem q_im_yX11_signs : (Cond.instanceMethod yX11_signs) ∈ qtb := q_mt 752 (by decide +kernel) (by decide +kernel)
theorem q_se_yX11_signs : (Cond.selects RX11 yX11_signs yX11_signs) ∈ qtb := q_mt 753 (by decide +kernel) (by decide +kernel)
theorem q_cd_yX11_signs : (Cond.code yX11_signs cX11_signs 4 (some .int)) ∈ qtb := q_mt 754 (by decide +kernel) (by decide +kernel)
theorem q_ml_RX11_262 : (Cond.methodLink RX11 262 yX10_countLetIn) ∈ qtb := q_mt 755 (by decide +kernel) (by decide +kernel)
theorem q_im_yX10_countLetIn : (Cond.instanceMethod yX10_countLetIn) ∈ qtb := q_mt 756 (by decide +kernel) (by decide +kernel)
theorem q_se_yX10_countLetIn : (Cond.selects RX10 yX10_countLetIn yX10_countLetIn) ∈ qtb := q_mt 757 (by decide +kernel) (by decide +kernel)
theorem q_cd_yX10_countLetIn : (Cond.code yX10_countLetIn cX10_countLetIn 5 (some .int)) ∈ qtb := q_mt 758 (by decide +kernel) (by decide +kernel)
theorem q_ml_RX10_79 : (Cond.methodLink RX10 79 yX10_answer) ∈ qtb := q_mt 759 (by decide +kernel) (by decide +kernel)
theorem q_ml_RX11_265 : (Cond.methodLink RX11 265 yX10_plainest) ∈ qtb := q_mt 760 (by decide +kernel) (by decide +kernel)
theorem q_im_yX10_plainest : (Cond.instanceMethod yX10_plainest) ∈ qtb := q_mt 761 (by decide +kernel) (by decide +kernel)
theorem q_se_yX10_plainest : (Cond.selects RX10 yX10_plainest yX10_plainest) ∈ qtb := q_mt 762 (by decide +kernel) (by decide +kernel)
theorem q_cd_yX10_plainest : (Cond.code yX10_plainest cX10_plainest 5 (some .int)) ∈ qtb := q_mt 763 (by decide +kernel) (by decide +kernel)
theorem q_ml_RX10_82 : (Cond.methodLink RX10 82 yX1_partsLaid) ∈ qtb := q_mt 764 (by decide +kernel) (by decide +kernel)
theorem q_st_yX1_partsLaid : (Cond.static yX1_partsLaid) ∈ qtb := q_mt 765 (by decide +kernel) (by decide +kernel)
theorem q_cd_yX1_partsLaid : (Cond.code yX1_partsLaid cX1_partsLaid 3 (some .int)) ∈ qtb := q_mt 766 (by decide +kernel) (by decide +kernel)
theorem q_ml_RX1_15 : (Cond.methodLink RX1 15 yX1_partOf) ∈ qtb := q_mt 767 (by decide +kernel) (by decide +kernel)
theorem q_st_yX1_partOf : (Cond.static yX1_partOf) ∈ qtb := q_mt 768 (by decide +kernel) (by decide +kernel)
theorem q_cd_yX1_partOf : (Cond.code yX1_partOf cX1_partOf 2 (some .int)) ∈ qtb := q_mt 769 (by decide +kernel) (by decide +kernel)
theorem q_ml_RX11_268 : (Cond.methodLink RX11 268 yX10_honest) ∈ qtb := q_mt 770 (by decide +kernel) (by decide +kernel)
theorem q_im_yX10_honest : (Cond.instanceMethod yX10_honest) ∈ qtb := q_mt 771 (by decide +kernel) (by decide +kernel)
theorem q_se_yX10_honest : (Cond.selects RX10 yX10_honest yX10_honest) ∈ qtb := q_mt 772 (by decide +kernel) (by decide +kernel)
theorem q_cd_yX10_honest : (Cond.code yX10_honest cX10_honest 4 (some .int)) ∈ qtb := q_mt 773 (by decide +kernel) (by decide +kernel)
theorem q_ml_RL_94 : (Cond.methodLink RL 94 yX11_gains) ∈ qtb := q_mt 774 (by decide +kernel) (by decide +kernel)
theorem q_im_yX11_gains : (Cond.instanceMethod yX11_gains) ∈ qtb := q_mt 775 (by decide +kernel) (by decide +kernel)
theorem q_se_yX11_gains : (Cond.selects RX11 yX11_gains yX11_gains) ∈ qtb := q_mt 776 (by decide +kernel) (by decide +kernel)
theorem q_cd_yX11_gains : (Cond.code yX11_gains cX11_gains 3 (some .int)) ∈ qtb := q_mt 777 (by decide +kernel) (by decide +kernel)
theorem q_ml_RX11_271 : (Cond.methodLink RX11 271 yX10_gain) ∈ qtb := q_mt 778 (by decide +kernel) (by decide +kernel)
theorem q_im_yX10_gain : (Cond.instanceMethod yX10_gain) ∈ qtb := q_mt 779 (by decide +kernel) (by decide +kernel)
theorem q_se_yX10_gain : (Cond.selects RX10 yX10_gain yX10_gain) ∈ qtb := q_mt 780 (by decide +kernel) (by decide +kernel)
theorem q_cd_yX10_gain : (Cond.code yX10_gain cX10_gain 3 (some .int)) ∈ qtb := q_mt 781 (by decide +kernel) (by decide +kernel)
theorem q_ml_RX10_90 : (Cond.methodLink RX10 90 yX10_mostHeard) ∈ qtb := q_mt 782 (by decide +kernel) (by decide +kernel)
theorem q_im_yX10_mostHeard : (Cond.instanceMethod yX10_mostHeard) ∈ qtb := q_mt 784 (by decide +kernel) (by decide +kernel)
theorem q_cd_yX10_mostHeard : (Cond.code yX10_mostHeard cX10_mostHeard 6 (some .int)) ∈ qtb := q_mt 785 (by decide +kernel) (by decide +kernel)
theorem q_ml_RL_98 : (Cond.methodLink RL 98 yX11_clear) ∈ qtb := q_mt 786 (by decide +kernel) (by decide +kernel)
theorem q_im_yX11_clear : (Cond.instanceMethod yX11_clear) ∈ qtb := q_mt 787 (by decide +kernel) (by decide +kernel)
theorem q_se_yX11_clear : (Cond.selects RX11 yX11_clear yX11_clear) ∈ qtb := q_mt 788 (by decide +kernel) (by decide +kernel)
theorem q_cd_yX11_clear : (Cond.code yX11_clear cX11_clear 3 (some .int)) ∈ qtb := q_mt 789 (by decide +kernel) (by decide +kernel)
theorem q_ml_RX11_274 : (Cond.methodLink RX11 274 yX10_countMeaning) ∈ qtb := q_mt 790 (by decide +kernel) (by decide +kernel)
theorem q_im_yX10_countMeaning : (Cond.instanceMethod yX10_countMeaning) ∈ qtb := q_mt 791 (by decide +kernel) (by decide +kernel)
theorem q_se_yX10_countMeaning : (Cond.selects RX10 yX10_countMeaning yX10_countMeaning) ∈ qtb := q_mt 792 (by decide +kernel) (by decide +kernel)
theorem q_cd_yX10_countMeaning : (Cond.code yX10_countMeaning cX10_countMeaning 4 (some .int)) ∈ qtb := q_mt 793 (by decide +kernel) (by decide +kernel)
theorem q_ml_RX11_277 : (Cond.methodLink RX11 277 yX10_leastMeaning) ∈ qtb := q_mt 794 (by decide +kernel) (by decide +kernel)
theorem q_im_yX10_leastMeaning : (Cond.instanceMethod yX10_leastMeaning) ∈ qtb := q_mt 795 (by decide +kernel) (by decide +kernel)
theorem q_se_yX10_leastMeaning : (Cond.selects RX10 yX10_leastMeaning yX10_leastMeaning) ∈ qtb := q_mt 796 (by decide +kernel) (by decide +kernel)
theorem q_cd_yX10_leastMeaning : (Cond.code yX10_leastMeaning cX10_leastMeaning 3 (some .int)) ∈ qtb := q_mt 797 (by decide +kernel) (by decide +kernel)
theorem q_ml_RL_102 : (Cond.methodLink RL 102 yX11_letIn) ∈ qtb := q_mt 798 (by decide +kernel) (by decide +kernel)
theorem q_im_yX11_letIn : (Cond.instanceMethod yX11_letIn) ∈ qtb := q_mt 799 (by decide +kernel) (by decide +kernel)
theorem q_se_yX11_letIn : (Cond.selects RX11 yX11_letIn yX11_letIn) ∈ qtb := q_mt 800 (by decide +kernel) (by decide +kernel)
theorem q_cd_yX11_letIn : (Cond.code yX11_letIn cX11_letIn 3 (some .int)) ∈ qtb := q_mt 801 (by decide +kernel) (by decide +kernel)
theorem q_ml_RX11_280 : (Cond.methodLink RX11 280 yX10_openHouses) ∈ qtb := q_mt 802 (by decide +kernel) (by decide +kernel)
theorem q_im_yX10_openHouses : (Cond.instanceMethod yX10_openHouses) ∈ qtb := q_mt 803 (by decide +kernel) (by decide +kernel)
theorem q_se_yX10_openHouses : (Cond.selects RX10 yX10_openHouses yX10_openHouses) ∈ qtb := q_mt 804 (by decide +kernel) (by decide +kernel)
theorem q_cd_yX10_openHouses : (Cond.code yX10_openHouses cX10_openHouses 5 (some .int)) ∈ qtb := q_mt 805 (by decide +kernel) (by decide +kernel)
theorem q_ml_RL_106 : (Cond.methodLink RL 106 yX11_round) ∈ qtb := q_mt 806 (by decide +kernel) (by decide +kernel)
theorem q_im_yX11_round : (Cond.instanceMethod yX11_round) ∈ qtb := q_mt 807 (by decide +kernel) (by decide +kernel)
theorem q_se_yX11_round : (Cond.selects RX11 yX11_round yX11_round) ∈ qtb := q_mt 808 (by decide +kernel) (by decide +kernel)
theorem q_cd_yX11_round : (Cond.code yX11_round cX11_round 4 (some .int)) ∈ qtb := q_mt 809 (by decide +kernel) (by decide +kernel)
theorem q_ml_RX11_283 : (Cond.methodLink RX11 283 yX10_widestSign) ∈ qtb := q_mt 810 (by decide +kernel) (by decide +kernel)
theorem q_im_yX10_widestSign : (Cond.instanceMethod yX10_widestSign) ∈ qtb := q_mt 811 (by decide +kernel) (by decide +kernel)
theorem q_se_yX10_widestSign : (Cond.selects RX10 yX10_widestSign yX10_widestSign) ∈ qtb := q_mt 812 (by decide +kernel) (by decide +kernel)
theorem q_cd_yX10_widestSign : (Cond.code yX10_widestSign cX10_widestSign 6 (some .int)) ∈ qtb := q_mt 813 (by decide +kernel) (by decide +kernel)
theorem q_ml_RX10_93 : (Cond.methodLink RX10 93 yX10_openHouses) ∈ qtb := q_mt 814 (by decide +kernel) (by decide +kernel)
theorem q_ml_RX10_96 : (Cond.methodLink RX10 96 yJ6_bitCount_0f7a4) ∈ qtb := q_mt 815 (by decide +kernel) (by decide +kernel)
theorem q_st_yJ6_bitCount_0f7a4 : (Cond.static yJ6_bitCount_0f7a4) ∈ qtb := q_mt 816 (by decide +kernel) (by decide +kernel)
theorem q_cd_yJ6_bitCount_0f7a4 : (Cond.code yJ6_bitCount_0f7a4 cJ6_bitCount_0f7a4 1 (some .int)) ∈ qtb := q_mt 817 (by decide +kernel) (by decide +kernel)
theorem q_ci_RJ6_265 : (Cond.constant RJ6 265 (1431655765)) ∈ qtb := q_mt 818 (by decide +kernel) (by decide +kernel)
theorem q_ci_RJ6_266 : (Cond.constant RJ6 266 (858993459)) ∈ qtb := q_mt 819 (by decide +kernel) (by decide +kernel)
theorem q_ci_RJ6_267 : (Cond.constant RJ6 267 (252645135)) ∈ qtb := q_mt 820 (by decide +kernel) (by decide +kernel)
theorem q_ml_RX11_286 : (Cond.methodLink RX11 286 yJ6_bitCount_0f7a4) ∈ qtb := q_mt 821 (by decide +kernel) (by decide +kernel)
theorem q_ml_RL_110 : (Cond.methodLink RL 110 yX11_suits) ∈ qtb := q_mt 822 (by decide +kernel) (by decide +kernel)
theorem q_im_yX11_suits : (Cond.instanceMethod yX11_suits) ∈ qtb := q_mt 823 (by decide +kernel) (by decide +kernel)
theorem q_se_yX11_suits : (Cond.selects RX11 yX11_suits yX11_suits) ∈ qtb := q_mt 824 (by decide +kernel) (by decide +kernel)
theorem q_cd_yX11_suits : (Cond.code yX11_suits cX11_suits 3 (some .int)) ∈ qtb := q_mt 825 (by decide +kernel) (by decide +kernel)
theorem q_ml_RX11_291 : (Cond.methodLink RX11 291 yX10_suit) ∈ qtb := q_mt 826 (by decide +kernel) (by decide +kernel)
theorem q_ml_RL_114 : (Cond.methodLink RL 114 yX11_dry) ∈ qtb := q_mt 827 (by decide +kernel) (by decide +kernel)
theorem q_im_yX11_dry : (Cond.instanceMethod yX11_dry) ∈ qtb := q_mt 828 (by decide +kernel) (by decide +kernel)
theorem q_se_yX11_dry : (Cond.selects RX11 yX11_dry yX11_dry) ∈ qtb := q_mt 829 (by decide +kernel) (by decide +kernel)
theorem q_cd_yX11_dry : (Cond.code yX11_dry cX11_dry 6 (some .int)) ∈ qtb := q_mt 830 (by decide +kernel) (by decide +kernel)
theorem q_cl_RX11_294 : (Cond.constantLong RX11 294 (1000000000)) ∈ qtb := q_mt 831 (by decide +kernel) (by decide +kernel)
theorem q_cl_RX11_296 : (Cond.constantLong RX11 296 (100)) ∈ qtb := q_mt 832 (by decide +kernel) (by decide +kernel)
theorem q_ml_RL_118 : (Cond.methodLink RL 118 yX11_meant) ∈ qtb := q_mt 833 (by decide +kernel) (by decide +kernel)
theorem q_im_yX11_meant : (Cond.instanceMethod yX11_meant) ∈ qtb := q_mt 834 (by decide +kernel) (by decide +kernel)
theorem q_se_yX11_meant : (Cond.selects RX11 yX11_meant yX11_meant) ∈ qtb := q_mt 835 (by decide +kernel) (by decide +kernel)
theorem q_cd_yX11_meant : (Cond.code yX11_meant cX11_meant 3 (some .int)) ∈ qtb := q_mt 836 (by decide +kernel) (by decide +kernel)
theorem q_ml_RX11_298 : (Cond.methodLink RX11 298 yX8_append) ∈ qtb := q_mt 837 (by decide +kernel) (by decide +kernel)
theorem q_im_yX8_append : (Cond.instanceMethod yX8_append) ∈ qtb := q_mt 838 (by decide +kernel) (by decide +kernel)
theorem q_se_yX8_append : (Cond.selects RX8 yX8_append yX8_append) ∈ qtb := q_mt 839 (by decide +kernel) (by decide +kernel)
theorem q_cd_yX8_append : (Cond.code yX8_append cX8_append 3 (some .boolean)) ∈ qtb := q_mt 840 (by decide +kernel) (by decide +kernel)
theorem q_ml_RL_122 : (Cond.methodLink RL 122 yX11_couldBe) ∈ qtb := q_mt 841 (by decide +kernel) (by decide +kernel)
theorem q_im_yX11_couldBe : (Cond.instanceMethod yX11_couldBe) ∈ qtb := q_mt 842 (by decide +kernel) (by decide +kernel)
theorem q_se_yX11_couldBe : (Cond.selects RX11 yX11_couldBe yX11_couldBe) ∈ qtb := q_mt 843 (by decide +kernel) (by decide +kernel)
theorem q_cd_yX11_couldBe : (Cond.code yX11_couldBe cX11_couldBe 2 (some .int)) ∈ qtb := q_mt 844 (by decide +kernel) (by decide +kernel)
theorem q_ml_RX11_300 : (Cond.methodLink RX11 300 yX8_countFits) ∈ qtb := q_mt 845 (by decide +kernel) (by decide +kernel)
theorem q_im_yX8_countFits : (Cond.instanceMethod yX8_countFits) ∈ qtb := q_mt 846 (by decide +kernel) (by decide +kernel)
theorem q_se_yX8_countFits : (Cond.selects RX8 yX8_countFits yX8_countFits) ∈ qtb := q_mt 847 (by decide +kernel) (by decide +kernel)
theorem q_cd_yX8_countFits : (Cond.code yX8_countFits cX8_countFits 4 (some .int)) ∈ qtb := q_mt 848 (by decide +kernel) (by decide +kernel)
theorem q_ml_RX8_32 : (Cond.methodLink RX8 32 yX8_fits) ∈ qtb := q_mt 849 (by decide +kernel) (by decide +kernel)
theorem q_im_yX8_fits : (Cond.instanceMethod yX8_fits) ∈ qtb := q_mt 851 (by decide +kernel) (by decide +kernel)
theorem q_cd_yX8_fits : (Cond.code yX8_fits cX8_fits 4 (some .boolean)) ∈ qtb := q_mt 852 (by decide +kernel) (by decide +kernel)
theorem q_ml_RX8_22 : (Cond.methodLink RX8 22 yX1_partOf) ∈ qtb := q_mt 853 (by decide +kernel) (by decide +kernel)
theorem q_ml_RX8_28 : (Cond.methodLink RX8 28 yX1_isSaid) ∈ qtb := q_mt 854 (by decide +kernel) (by decide +kernel)
theorem q_ml_RX11_303 : (Cond.methodLink RX11 303 yX8_leastFit) ∈ qtb := q_mt 855 (by decide +kernel) (by decide +kernel)
theorem q_im_yX8_leastFit : (Cond.instanceMethod yX8_leastFit) ∈ qtb := q_mt 856 (by decide +kernel) (by decide +kernel)
theorem q_se_yX8_leastFit : (Cond.selects RX8 yX8_leastFit yX8_leastFit) ∈ qtb := q_mt 857 (by decide +kernel) (by decide +kernel)
theorem q_cd_yX8_leastFit : (Cond.code yX8_leastFit cX8_leastFit 3 (some .int)) ∈ qtb := q_mt 858 (by decide +kernel) (by decide +kernel)
theorem q_ml_RX11_306 : (Cond.methodLink RX11 306 yX8_meaningsThatFit) ∈ qtb := q_mt 859 (by decide +kernel) (by decide +kernel)
theorem q_im_yX8_meaningsThatFit : (Cond.instanceMethod yX8_meaningsThatFit) ∈ qtb := q_mt 860 (by decide +kernel) (by decide +kernel)
theorem q_se_yX8_meaningsThatFit : (Cond.selects RX8 yX8_meaningsThatFit yX8_meaningsThatFit) ∈ qtb := q_mt 861 (by decide +kernel) (by decide +kernel)
theorem q_cd_yX8_meaningsThatFit : (Cond.code yX8_meaningsThatFit cX8_meaningsThatFit 4 (some .int)) ∈ qtb := q_mt 862 (by decide +kernel) (by decide +kernel)
theorem q_ml_RX8_35 : (Cond.methodLink RX8 35 yX1_meaning) ∈ qtb := q_mt 863 (by decide +kernel) (by decide +kernel)
theorem q_ml_RL_126 : (Cond.methodLink RL 126 yX11_part) ∈ qtb := q_mt 864 (by decide +kernel) (by decide +kernel)
theorem q_im_yX11_part : (Cond.instanceMethod yX11_part) ∈ qtb := q_mt 865 (by decide +kernel) (by decide +kernel)
theorem q_se_yX11_part : (Cond.selects RX11 yX11_part yX11_part) ∈ qtb := q_mt 866 (by decide +kernel) (by decide +kernel)
theorem q_cd_yX11_part : (Cond.code yX11_part cX11_part 1 (some .int)) ∈ qtb := q_mt 867 (by decide +kernel) (by decide +kernel)
theorem q_ml_RX11_309 : (Cond.methodLink RX11 309 yX8_bestPart) ∈ qtb := q_mt 868 (by decide +kernel) (by decide +kernel)
theorem q_im_yX8_bestPart : (Cond.instanceMethod yX8_bestPart) ∈ qtb := q_mt 869 (by decide +kernel) (by decide +kernel)
theorem q_se_yX8_bestPart : (Cond.selects RX8 yX8_bestPart yX8_bestPart) ∈ qtb := q_mt 870 (by decide +kernel) (by decide +kernel)
theorem q_cd_yX8_bestPart : (Cond.code yX8_bestPart cX8_bestPart 6 (some .int)) ∈ qtb := q_mt 871 (by decide +kernel) (by decide +kernel)
theorem q_ml_RX8_39 : (Cond.methodLink RX8 39 yX8_countFits) ∈ qtb := q_mt 872 (by decide +kernel) (by decide +kernel)
theorem q_ml_RX8_42 : (Cond.methodLink RX8 42 yX8_mostAlike) ∈ qtb := q_mt 873 (by decide +kernel) (by decide +kernel)
theorem q_im_yX8_mostAlike : (Cond.instanceMethod yX8_mostAlike) ∈ qtb := q_mt 875 (by decide +kernel) (by decide +kernel)
theorem q_cd_yX8_mostAlike : (Cond.code yX8_mostAlike cX8_mostAlike 5 (some .int)) ∈ qtb := q_mt 876 (by decide +kernel) (by decide +kernel)
theorem q_ml_RX8_45 : (Cond.methodLink RX8 45 yX8_countAlike) ∈ qtb := q_mt 877 (by decide +kernel) (by decide +kernel)
theorem q_im_yX8_countAlike : (Cond.instanceMethod yX8_countAlike) ∈ qtb := q_mt 879 (by decide +kernel) (by decide +kernel)
theorem q_cd_yX8_countAlike : (Cond.code yX8_countAlike cX8_countAlike 6 (some .int)) ∈ qtb := q_mt 880 (by decide +kernel) (by decide +kernel)
theorem q_ml_RX8_49 : (Cond.methodLink RX8 49 yJ9_max_7cf53) ∈ qtb := q_mt 881 (by decide +kernel) (by decide +kernel)
theorem q_ml_RL_130 : (Cond.methodLink RL 130 yX11_write) ∈ qtb := q_mt 882 (by decide +kernel) (by decide +kernel)
theorem q_im_yX11_write : (Cond.instanceMethod yX11_write) ∈ qtb := q_mt 883 (by decide +kernel) (by decide +kernel)
theorem q_se_yX11_write : (Cond.selects RX11 yX11_write yX11_write) ∈ qtb := q_mt 884 (by decide +kernel) (by decide +kernel)
theorem q_cd_yX11_write : (Cond.code yX11_write cX11_write 3 (some .int)) ∈ qtb := q_mt 885 (by decide +kernel) (by decide +kernel)
theorem q_ml_RX11_312 : (Cond.methodLink RX11 312 yX0_append) ∈ qtb := q_mt 886 (by decide +kernel) (by decide +kernel)
theorem q_im_yX0_append : (Cond.instanceMethod yX0_append) ∈ qtb := q_mt 887 (by decide +kernel) (by decide +kernel)
theorem q_se_yX0_append : (Cond.selects RX0 yX0_append yX0_append) ∈ qtb := q_mt 888 (by decide +kernel) (by decide +kernel)
theorem q_cd_yX0_append : (Cond.code yX0_append cX0_append 3 (some .boolean)) ∈ qtb := q_mt 889 (by decide +kernel) (by decide +kernel)
theorem q_ml_RL_134 : (Cond.methodLink RL 134 yX11_judge) ∈ qtb := q_mt 890 (by decide +kernel) (by decide +kernel)
theorem q_im_yX11_judge : (Cond.instanceMethod yX11_judge) ∈ qtb := q_mt 891 (by decide +kernel) (by decide +kernel)
theorem q_se_yX11_judge : (Cond.selects RX11 yX11_judge yX11_judge) ∈ qtb := q_mt 892 (by decide +kernel) (by decide +kernel)
theorem q_cd_yX11_judge : (Cond.code yX11_judge cX11_judge 1 (some .int)) ∈ qtb := q_mt 893 (by decide +kernel) (by decide +kernel)
theorem q_ml_RX11_313 : (Cond.methodLink RX11 313 yX0_firstWrong) ∈ qtb := q_mt 894 (by decide +kernel) (by decide +kernel)
theorem q_im_yX0_firstWrong : (Cond.instanceMethod yX0_firstWrong) ∈ qtb := q_mt 895 (by decide +kernel) (by decide +kernel)
theorem q_se_yX0_firstWrong : (Cond.selects RX0 yX0_firstWrong yX0_firstWrong) ∈ qtb := q_mt 896 (by decide +kernel) (by decide +kernel)
theorem q_cd_yX0_firstWrong : (Cond.code yX0_firstWrong cX0_firstWrong 3 (some .int)) ∈ qtb := q_mt 897 (by decide +kernel) (by decide +kernel)
theorem q_ml_RL_138 : (Cond.methodLink RL 138 yX11_tear) ∈ qtb := q_mt 898 (by decide +kernel) (by decide +kernel)
theorem q_im_yX11_tear : (Cond.instanceMethod yX11_tear) ∈ qtb := q_mt 899 (by decide +kernel) (by decide +kernel)
theorem q_se_yX11_tear : (Cond.selects RX11 yX11_tear yX11_tear) ∈ qtb := q_mt 900 (by decide +kernel) (by decide +kernel)
theorem q_cd_yX11_tear : (Cond.code yX11_tear cX11_tear 2 (some .int)) ∈ qtb := q_mt 901 (by decide +kernel) (by decide +kernel)
theorem q_ml_RL_142 : (Cond.methodLink RL 142 yX11_seed) ∈ qtb := q_mt 902 (by decide +kernel) (by decide +kernel)
theorem q_im_yX11_seed : (Cond.instanceMethod yX11_seed) ∈ qtb := q_mt 903 (by decide +kernel) (by decide +kernel)
theorem q_se_yX11_seed : (Cond.selects RX11 yX11_seed yX11_seed) ∈ qtb := q_mt 904 (by decide +kernel) (by decide +kernel)
theorem q_cd_yX11_seed : (Cond.code yX11_seed cX11_seed 3 (some .int)) ∈ qtb := q_mt 905 (by decide +kernel) (by decide +kernel)
theorem q_ml_RL_146 : (Cond.methodLink RL 146 yX11_keep) ∈ qtb := q_mt 906 (by decide +kernel) (by decide +kernel)
theorem q_im_yX11_keep : (Cond.instanceMethod yX11_keep) ∈ qtb := q_mt 907 (by decide +kernel) (by decide +kernel)
theorem q_se_yX11_keep : (Cond.selects RX11 yX11_keep yX11_keep) ∈ qtb := q_mt 908 (by decide +kernel) (by decide +kernel)
theorem q_cd_yX11_keep : (Cond.code yX11_keep cX11_keep 3 (some .int)) ∈ qtb := q_mt 909 (by decide +kernel) (by decide +kernel)
theorem q_ml_RX11_318 : (Cond.methodLink RX11 318 yX2_become) ∈ qtb := q_mt 910 (by decide +kernel) (by decide +kernel)
theorem q_ml_RL_150 : (Cond.methodLink RL 150 yX11_goBack) ∈ qtb := q_mt 911 (by decide +kernel) (by decide +kernel)
theorem q_im_yX11_goBack : (Cond.instanceMethod yX11_goBack) ∈ qtb := q_mt 912 (by decide +kernel) (by decide +kernel)
theorem q_se_yX11_goBack : (Cond.selects RX11 yX11_goBack yX11_goBack) ∈ qtb := q_mt 913 (by decide +kernel) (by decide +kernel)
theorem q_cd_yX11_goBack : (Cond.code yX11_goBack cX11_goBack 3 (some .int)) ∈ qtb := q_mt 914 (by decide +kernel) (by decide +kernel)
theorem q_ml_RL_12 : (Cond.methodLink RL 12 yX12_init) ∈ qtb := q_mt 917 (by decide +kernel) (by decide +kernel)
theorem q_im_yX12_init : (Cond.instanceMethod yX12_init) ∈ qtb := q_mt 918 (by decide +kernel) (by decide +kernel)
theorem q_cd_yX12_init : (Cond.code yX12_init cX12_init 1 none) ∈ qtb := q_mt 919 (by decide +kernel) (by decide +kernel)
theorem q_ml_RX12_1 : (Cond.methodLink RX12 1 objectInit) ∈ qtb := q_mt 920 (by decide +kernel) (by decide +kernel)
theorem q_fl_RX12_90 : (Cond.fieldLink RX12 90 "GloveSignsModel" "letterMany" "I") ∈ qtb := q_mt 921 (by decide +kernel) (by decide +kernel)
theorem q_fl_RX12_7 : (Cond.fieldLink RX12 7 "GloveSignsModel" "text" "[I") ∈ qtb := q_mt 922 (by decide +kernel) (by decide +kernel)
theorem q_fl_RX12_94 : (Cond.fieldLink RX12 94 "GloveSignsModel" "readAt" "I") ∈ qtb := q_mt 923 (by decide +kernel) (by decide +kernel)
theorem q_fl_RX12_112 : (Cond.fieldLink RX12 112 "GloveSignsModel" "numberAt" "I") ∈ qtb := q_mt 924 (by decide +kernel) (by decide +kernel)
theorem q_fl_RX12_101 : (Cond.fieldLink RX12 101 "GloveSignsModel" "readFault" "I") ∈ qtb := q_mt 925 (by decide +kernel) (by decide +kernel)
theorem q_fl_RX12_13 : (Cond.fieldLink RX12 13 "GloveSignsModel" "faultAt" "I") ∈ qtb := q_mt 926 (by decide +kernel) (by decide +kernel)
theorem q_fl_RX12_118 : (Cond.fieldLink RX12 118 "GloveSignsModel" "readManners" "I") ∈ qtb := q_mt 927 (by decide +kernel) (by decide +kernel)
theorem q_fl_RX12_125 : (Cond.fieldLink RX12 125 "GloveSignsModel" "readComers" "I") ∈ qtb := q_mt 928 (by decide +kernel) (by decide +kernel)
theorem q_fl_RX12_128 : (Cond.fieldLink RX12 128 "GloveSignsModel" "readHouses" "I") ∈ qtb := q_mt 929 (by decide +kernel) (by decide +kernel)
theorem q_fl_RX12_17 : (Cond.fieldLink RX12 17 "GloveSignsModel" "readWorth" "[I") ∈ qtb := q_mt 930 (by decide +kernel) (by decide +kernel)
theorem q_fl_RX12_20 : (Cond.fieldLink RX12 20 "GloveSignsModel" "readStuff" "[I") ∈ qtb := q_mt 931 (by decide +kernel) (by decide +kernel)
theorem q_fl_RX12_23 : (Cond.fieldLink RX12 23 "GloveSignsModel" "readMeans" "[I") ∈ qtb := q_mt 932 (by decide +kernel) (by decide +kernel)
theorem q_fl_RX12_26 : (Cond.fieldLink RX12 26 "GloveSignsModel" "readUp" "[I") ∈ qtb := q_mt 933 (by decide +kernel) (by decide +kernel)
theorem q_fl_RX12_29 : (Cond.fieldLink RX12 29 "GloveSignsModel" "readFern" "[I") ∈ qtb := q_mt 934 (by decide +kernel) (by decide +kernel)
theorem q_fl_RX12_32 : (Cond.fieldLink RX12 32 "GloveSignsModel" "readPrize" "[I") ∈ qtb := q_mt 935 (by decide +kernel) (by decide +kernel)
theorem q_fl_RX12_35 : (Cond.fieldLink RX12 35 "GloveSignsModel" "manners" "I") ∈ qtb := q_mt 936 (by decide +kernel) (by decide +kernel)
theorem q_fl_RX12_147 : (Cond.fieldLink RX12 147 "GloveSignsModel" "m" "I") ∈ qtb := q_mt 937 (by decide +kernel) (by decide +kernel)
theorem q_fl_RX12_150 : (Cond.fieldLink RX12 150 "GloveSignsModel" "n" "I") ∈ qtb := q_mt 938 (by decide +kernel) (by decide +kernel)
theorem q_fl_RX12_38 : (Cond.fieldLink RX12 38 "GloveSignsModel" "worths" "[I") ∈ qtb := q_mt 939 (by decide +kernel) (by decide +kernel)
theorem q_fl_RX12_41 : (Cond.fieldLink RX12 41 "GloveSignsModel" "ferns" "[I") ∈ qtb := q_mt 940 (by decide +kernel) (by decide +kernel)
theorem q_fl_RX12_44 : (Cond.fieldLink RX12 44 "GloveSignsModel" "prizes" "[I") ∈ qtb := q_mt 941 (by decide +kernel) (by decide +kernel)
theorem q_fl_RX12_47 : (Cond.fieldLink RX12 47 "GloveSignsModel" "now" "[I") ∈ qtb := q_mt 942 (by decide +kernel) (by decide +kernel)
theorem q_fl_RX12_50 : (Cond.fieldLink RX12 50 "GloveSignsModel" "matched" "[I") ∈ qtb := q_mt 943 (by decide +kernel) (by decide +kernel)
theorem q_fl_RX12_53 : (Cond.fieldLink RX12 53 "GloveSignsModel" "keeps" "[I") ∈ qtb := q_mt 944 (by decide +kernel) (by decide +kernel)
theorem q_fl_RX12_56 : (Cond.fieldLink RX12 56 "GloveSignsModel" "refused" "[I") ∈ qtb := q_mt 945 (by decide +kernel) (by decide +kernel)
theorem q_fl_RX12_153 : (Cond.fieldLink RX12 153 "GloveSignsModel" "undoMany" "I") ∈ qtb := q_mt 946 (by decide +kernel) (by decide +kernel)
theorem q_fl_RX12_225 : (Cond.fieldLink RX12 225 "GloveSignsModel" "undoAt" "I") ∈ qtb := q_mt 947 (by decide +kernel) (by decide +kernel)
theorem q_fl_RX12_59 : (Cond.fieldLink RX12 59 "GloveSignsModel" "undos" "[I") ∈ qtb := q_mt 948 (by decide +kernel) (by decide +kernel)
theorem q_fl_RX12_251 : (Cond.fieldLink RX12 251 "GloveSignsModel" "seeded" "J") ∈ qtb := q_mt 949 (by decide +kernel) (by decide +kernel)
theorem q_fl_RX12_156 : (Cond.fieldLink RX12 156 "GloveSignsModel" "meantMany" "I") ∈ qtb := q_mt 950 (by decide +kernel) (by decide +kernel)
theorem q_fl_RX12_62 : (Cond.fieldLink RX12 62 "GloveSignsModel" "meantPart" "[I") ∈ qtb := q_mt 951 (by decide +kernel) (by decide +kernel)
theorem q_fl_RX12_65 : (Cond.fieldLink RX12 65 "GloveSignsModel" "meantIs" "[I") ∈ qtb := q_mt 952 (by decide +kernel) (by decide +kernel)
theorem q_fl_RX12_159 : (Cond.fieldLink RX12 159 "GloveSignsModel" "bookMany" "I") ∈ qtb := q_mt 953 (by decide +kernel) (by decide +kernel)
theorem q_fl_RX12_68 : (Cond.fieldLink RX12 68 "GloveSignsModel" "bookHouse" "[I") ∈ qtb := q_mt 954 (by decide +kernel) (by decide +kernel)
theorem q_fl_RX12_71 : (Cond.fieldLink RX12 71 "GloveSignsModel" "bookUp" "[I") ∈ qtb := q_mt 955 (by decide +kernel) (by decide +kernel)
theorem q_fl_RX12_74 : (Cond.fieldLink RX12 74 "GloveSignsModel" "isKept" "[Z") ∈ qtb := q_mt 956 (by decide +kernel) (by decide +kernel)
theorem q_fl_RX12_78 : (Cond.fieldLink RX12 78 "GloveSignsModel" "kept" "[I") ∈ qtb := q_mt 957 (by decide +kernel) (by decide +kernel)
theorem q_fl_RX12_81 : (Cond.fieldLink RX12 81 "GloveSignsModel" "keptSeed" "[J") ∈ qtb := q_mt 958 (by decide +kernel) (by decide +kernel)
theorem q_ml_RL_17 : (Cond.methodLink RL 17 yX12_feed) ∈ qtb := q_mt 1038 (by decide +kernel) (by decide +kernel)
theorem q_im_yX12_feed : (Cond.instanceMethod yX12_feed) ∈ qtb := q_mt 1039 (by decide +kernel) (by decide +kernel)
theorem q_se_yX12_feed : (Cond.selects RX12 yX12_feed yX12_feed) ∈ qtb := q_mt 1040 (by decide +kernel) (by decide +kernel)
theorem q_cd_yX12_feed : (Cond.code yX12_feed cX12_feed 2 (some .int)) ∈ qtb := q_mt 1041 (by decide +kernel) (by decide +kernel)
theorem q_ml_RX12_85 : (Cond.methodLink RX12 85 yX12_in) ∈ qtb := q_mt 1042 (by decide +kernel) (by decide +kernel)
theorem q_st_yX12_in : (Cond.static yX12_in) ∈ qtb := q_mt 1043 (by decide +kernel) (by decide +kernel)
theorem q_cd_yX12_in : (Cond.code yX12_in cX12_in 3 (some .boolean)) ∈ qtb := q_mt 1044 (by decide +kernel) (by decide +kernel)
theorem q_ci_RX12_89 : (Cond.constant RX12 89 (-1000000002)) ∈ qtb := q_mt 1045 (by decide +kernel) (by decide +kernel)
theorem q_ci_RX12_93 : (Cond.constant RX12 93 (-1000000004)) ∈ qtb := q_mt 1046 (by decide +kernel) (by decide +kernel)
theorem q_ml_RL_22 : (Cond.methodLink RL 22 yX12_season) ∈ qtb := q_mt 1047 (by decide +kernel) (by decide +kernel)
theorem q_im_yX12_season : (Cond.instanceMethod yX12_season) ∈ qtb := q_mt 1048 (by decide +kernel) (by decide +kernel)
theorem q_se_yX12_season : (Cond.selects RX12 yX12_season yX12_season) ∈ qtb := q_mt 1049 (by decide +kernel) (by decide +kernel)
theorem q_cd_yX12_season : (Cond.code yX12_season cX12_season 3 (some .int)) ∈ qtb := q_mt 1050 (by decide +kernel) (by decide +kernel)
theorem q_ml_RX12_144 : (Cond.methodLink RX12 144 yX12_readsSeason) ∈ qtb := q_mt 1051 (by decide +kernel) (by decide +kernel)
theorem q_im_yX12_readsSeason : (Cond.instanceMethod yX12_readsSeason) ∈ qtb := q_mt 1053 (by decide +kernel) (by decide +kernel)
theorem q_cd_yX12_readsSeason : (Cond.code yX12_readsSeason cX12_readsSeason 2 (some .boolean)) ∈ qtb := q_mt 1054 (by decide +kernel) (by decide +kernel)
theorem q_ml_RX12_104 : (Cond.methodLink RX12 104 yX12_nextLetter) ∈ qtb := q_mt 1055 (by decide +kernel) (by decide +kernel)
theorem q_im_yX12_nextLetter : (Cond.instanceMethod yX12_nextLetter) ∈ qtb := q_mt 1057 (by decide +kernel) (by decide +kernel)
theorem q_cd_yX12_nextLetter : (Cond.code yX12_nextLetter cX12_nextLetter 1 (some .int)) ∈ qtb := q_mt 1058 (by decide +kernel) (by decide +kernel)
theorem q_ml_RX12_97 : (Cond.methodLink RX12 97 yX12_letterAt) ∈ qtb := q_mt 1059 (by decide +kernel) (by decide +kernel)
theorem q_im_yX12_letterAt : (Cond.instanceMethod yX12_letterAt) ∈ qtb := q_mt 1061 (by decide +kernel) (by decide +kernel)
theorem q_cd_yX12_letterAt : (Cond.code yX12_letterAt cX12_letterAt 2 (some .int)) ∈ qtb := q_mt 1062 (by decide +kernel) (by decide +kernel)
theorem q_ml_RX12_141 : (Cond.methodLink RX12 141 yX12_readsClause) ∈ qtb := q_mt 1063 (by decide +kernel) (by decide +kernel)
theorem q_im_yX12_readsClause : (Cond.instanceMethod yX12_readsClause) ∈ qtb := q_mt 1065 (by decide +kernel) (by decide +kernel)
theorem q_cd_yX12_readsClause : (Cond.code yX12_readsClause cX12_readsClause 4 (some .boolean)) ∈ qtb := q_mt 1066 (by decide +kernel) (by decide +kernel)
theorem q_ml_RX12_131 : (Cond.methodLink RX12 131 yX12_readsHead) ∈ qtb := q_mt 1067 (by decide +kernel) (by decide +kernel)
theorem q_im_yX12_readsHead : (Cond.instanceMethod yX12_readsHead) ∈ qtb := q_mt 1069 (by decide +kernel) (by decide +kernel)
theorem q_cd_yX12_readsHead : (Cond.code yX12_readsHead cX12_readsHead 1 (some .boolean)) ∈ qtb := q_mt 1070 (by decide +kernel) (by decide +kernel)
theorem q_ml_RX12_115 : (Cond.methodLink RX12 115 yX12_readsNumber) ∈ qtb := q_mt 1071 (by decide +kernel) (by decide +kernel)
theorem q_im_yX12_readsNumber : (Cond.instanceMethod yX12_readsNumber) ∈ qtb := q_mt 1073 (by decide +kernel) (by decide +kernel)
theorem q_cd_yX12_readsNumber : (Cond.code yX12_readsNumber cX12_readsNumber 4 (some .int)) ∈ qtb := q_mt 1074 (by decide +kernel) (by decide +kernel)
theorem q_ml_RX12_108 : (Cond.methodLink RX12 108 yX12_fails) ∈ qtb := q_mt 1075 (by decide +kernel) (by decide +kernel)
theorem q_im_yX12_fails : (Cond.instanceMethod yX12_fails) ∈ qtb := q_mt 1077 (by decide +kernel) (by decide +kernel)
theorem q_cd_yX12_fails : (Cond.code yX12_fails cX12_fails 3 (some .int)) ∈ qtb := q_mt 1078 (by decide +kernel) (by decide +kernel)
theorem q_ml_RX12_121 : (Cond.methodLink RX12 121 yX12_readsSign) ∈ qtb := q_mt 1079 (by decide +kernel) (by decide +kernel)
theorem q_im_yX12_readsSign : (Cond.instanceMethod yX12_readsSign) ∈ qtb := q_mt 1081 (by decide +kernel) (by decide +kernel)
theorem q_cd_yX12_readsSign : (Cond.code yX12_readsSign cX12_readsSign 2 (some .boolean)) ∈ qtb := q_mt 1082 (by decide +kernel) (by decide +kernel)
theorem q_ml_RX12_135 : (Cond.methodLink RX12 135 yX12_readsComer) ∈ qtb := q_mt 1083 (by decide +kernel) (by decide +kernel)
theorem q_im_yX12_readsComer : (Cond.instanceMethod yX12_readsComer) ∈ qtb := q_mt 1085 (by decide +kernel) (by decide +kernel)
theorem q_cd_yX12_readsComer : (Cond.code yX12_readsComer cX12_readsComer 2 (some .boolean)) ∈ qtb := q_mt 1086 (by decide +kernel) (by decide +kernel)
theorem q_ml_RX12_138 : (Cond.methodLink RX12 138 yX12_readsHouse) ∈ qtb := q_mt 1087 (by decide +kernel) (by decide +kernel)
theorem q_im_yX12_readsHouse : (Cond.instanceMethod yX12_readsHouse) ∈ qtb := q_mt 1089 (by decide +kernel) (by decide +kernel)
theorem q_cd_yX12_readsHouse : (Cond.code yX12_readsHouse cX12_readsHouse 4 (some .boolean)) ∈ qtb := q_mt 1090 (by decide +kernel) (by decide +kernel)
theorem q_ml_RL_26 : (Cond.methodLink RL 26 yX12_fault) ∈ qtb := q_mt 1091 (by decide +kernel) (by decide +kernel)
theorem q_im_yX12_fault : (Cond.instanceMethod yX12_fault) ∈ qtb := q_mt 1092 (by decide +kernel) (by decide +kernel)
theorem q_se_yX12_fault : (Cond.selects RX12 yX12_fault yX12_fault) ∈ qtb := q_mt 1093 (by decide +kernel) (by decide +kernel)
theorem q_cd_yX12_fault : (Cond.code yX12_fault cX12_fault 1 (some .int)) ∈ qtb := q_mt 1094 (by decide +kernel) (by decide +kernel)
theorem q_ml_RL_30 : (Cond.methodLink RL 30 yX12_told) ∈ qtb := q_mt 1095 (by decide +kernel) (by decide +kernel)
theorem q_im_yX12_told : (Cond.instanceMethod yX12_told) ∈ qtb := q_mt 1096 (by decide +kernel) (by decide +kernel)
theorem q_se_yX12_told : (Cond.selects RX12 yX12_told yX12_told) ∈ qtb := q_mt 1097 (by decide +kernel) (by decide +kernel)
theorem q_cd_yX12_told : (Cond.code yX12_told cX12_told 2 (some .int)) ∈ qtb := q_mt 1098 (by decide +kernel) (by decide +kernel)
theorem q_ml_RX12_192 : (Cond.methodLink RX12 192 yX12_callsOfAll) ∈ qtb := q_mt 1099 (by decide +kernel) (by decide +kernel)
theorem q_im_yX12_callsOfAll : (Cond.instanceMethod yX12_callsOfAll) ∈ qtb := q_mt 1101 (by decide +kernel) (by decide +kernel)
theorem q_cd_yX12_callsOfAll : (Cond.code yX12_callsOfAll cX12_callsOfAll 3 (some .int)) ∈ qtb := q_mt 1102 (by decide +kernel) (by decide +kernel)
theorem q_ml_RX12_186 : (Cond.methodLink RX12 186 yX12_callsAt) ∈ qtb := q_mt 1103 (by decide +kernel) (by decide +kernel)
theorem q_im_yX12_callsAt : (Cond.instanceMethod yX12_callsAt) ∈ qtb := q_mt 1105 (by decide +kernel) (by decide +kernel)
theorem q_cd_yX12_callsAt : (Cond.code yX12_callsAt cX12_callsAt 4 (some .int)) ∈ qtb := q_mt 1106 (by decide +kernel) (by decide +kernel)
theorem q_ml_RX12_195 : (Cond.methodLink RX12 195 yX12_welcome) ∈ qtb := q_mt 1107 (by decide +kernel) (by decide +kernel)
theorem q_im_yX12_welcome : (Cond.instanceMethod yX12_welcome) ∈ qtb := q_mt 1109 (by decide +kernel) (by decide +kernel)
theorem q_cd_yX12_welcome : (Cond.code yX12_welcome cX12_welcome 4 (some .int)) ∈ qtb := q_mt 1110 (by decide +kernel) (by decide +kernel)
theorem q_ml_RX12_198 : (Cond.methodLink RX12 198 yX12_coldest) ∈ qtb := q_mt 1111 (by decide +kernel) (by decide +kernel)
theorem q_im_yX12_coldest : (Cond.instanceMethod yX12_coldest) ∈ qtb := q_mt 1113 (by decide +kernel) (by decide +kernel)
theorem q_cd_yX12_coldest : (Cond.code yX12_coldest cX12_coldest 3 (some .int)) ∈ qtb := q_mt 1114 (by decide +kernel) (by decide +kernel)
theorem q_ml_RX12_201 : (Cond.methodLink RX12 201 yX12_saidMany) ∈ qtb := q_mt 1115 (by decide +kernel) (by decide +kernel)
theorem q_im_yX12_saidMany : (Cond.instanceMethod yX12_saidMany) ∈ qtb := q_mt 1117 (by decide +kernel) (by decide +kernel)
theorem q_cd_yX12_saidMany : (Cond.code yX12_saidMany cX12_saidMany 3 (some .int)) ∈ qtb := q_mt 1118 (by decide +kernel) (by decide +kernel)
theorem q_ml_RX12_189 : (Cond.methodLink RX12 189 yX12_isSeason) ∈ qtb := q_mt 1119 (by decide +kernel) (by decide +kernel)
theorem q_im_yX12_isSeason : (Cond.instanceMethod yX12_isSeason) ∈ qtb := q_mt 1121 (by decide +kernel) (by decide +kernel)
theorem q_cd_yX12_isSeason : (Cond.code yX12_isSeason cX12_isSeason 1 (some .boolean)) ∈ qtb := q_mt 1122 (by decide +kernel) (by decide +kernel)
theorem q_ml_RX12_175 : (Cond.methodLink RX12 175 yX12_isSaid) ∈ qtb := q_mt 1123 (by decide +kernel) (by decide +kernel)
theorem q_im_yX12_isSaid : (Cond.instanceMethod yX12_isSaid) ∈ qtb := q_mt 1125 (by decide +kernel) (by decide +kernel)
theorem q_cd_yX12_isSaid : (Cond.code yX12_isSaid cX12_isSaid 3 (some .boolean)) ∈ qtb := q_mt 1126 (by decide +kernel) (by decide +kernel)
theorem q_ml_RX12_168 : (Cond.methodLink RX12 168 yX12_has) ∈ qtb := q_mt 1127 (by decide +kernel) (by decide +kernel)
theorem q_st_yX12_has : (Cond.static yX12_has) ∈ qtb := q_mt 1128 (by decide +kernel) (by decide +kernel)
theorem q_cd_yX12_has : (Cond.code yX12_has cX12_has 2 (some .boolean)) ∈ qtb := q_mt 1129 (by decide +kernel) (by decide +kernel)
theorem q_ml_RL_35 : (Cond.methodLink RL 35 yX12_comer) ∈ qtb := q_mt 1130 (by decide +kernel) (by decide +kernel)
theorem q_im_yX12_comer : (Cond.instanceMethod yX12_comer) ∈ qtb := q_mt 1131 (by decide +kernel) (by decide +kernel)
theorem q_se_yX12_comer : (Cond.selects RX12 yX12_comer yX12_comer) ∈ qtb := q_mt 1132 (by decide +kernel) (by decide +kernel)
theorem q_cd_yX12_comer : (Cond.code yX12_comer cX12_comer 3 (some .int)) ∈ qtb := q_mt 1133 (by decide +kernel) (by decide +kernel)
theorem q_ml_RX12_162 : (Cond.methodLink RX12 162 yX12_isComer) ∈ qtb := q_mt 1134 (by decide +kernel) (by decide +kernel)
theorem q_im_yX12_isComer : (Cond.instanceMethod yX12_isComer) ∈ qtb := q_mt 1136 (by decide +kernel) (by decide +kernel)
theorem q_cd_yX12_isComer : (Cond.code yX12_isComer cX12_isComer 2 (some .boolean)) ∈ qtb := q_mt 1137 (by decide +kernel) (by decide +kernel)
theorem q_ci_RX12_214 : (Cond.constant RX12 214 (-1000000001)) ∈ qtb := q_mt 1138 (by decide +kernel) (by decide +kernel)
theorem q_ml_RX12_215 : (Cond.methodLink RX12 215 yX12_matches) ∈ qtb := q_mt 1139 (by decide +kernel) (by decide +kernel)
theorem q_im_yX12_matches : (Cond.instanceMethod yX12_matches) ∈ qtb := q_mt 1141 (by decide +kernel) (by decide +kernel)
theorem q_cd_yX12_matches : (Cond.code yX12_matches cX12_matches 4 none) ∈ qtb := q_mt 1142 (by decide +kernel) (by decide +kernel)
theorem q_ml_RX12_207 : (Cond.methodLink RX12 207 yX12_bestHouse) ∈ qtb := q_mt 1143 (by decide +kernel) (by decide +kernel)
theorem q_im_yX12_bestHouse : (Cond.instanceMethod yX12_bestHouse) ∈ qtb := q_mt 1145 (by decide +kernel) (by decide +kernel)
theorem q_cd_yX12_bestHouse : (Cond.code yX12_bestHouse cX12_bestHouse 5 (some .int)) ∈ qtb := q_mt 1146 (by decide +kernel) (by decide +kernel)
theorem q_ml_RX12_204 : (Cond.methodLink RX12 204 yX12_suitsOf) ∈ qtb := q_mt 1147 (by decide +kernel) (by decide +kernel)
theorem q_im_yX12_suitsOf : (Cond.instanceMethod yX12_suitsOf) ∈ qtb := q_mt 1149 (by decide +kernel) (by decide +kernel)
theorem q_cd_yX12_suitsOf : (Cond.code yX12_suitsOf cX12_suitsOf 6 (some .int)) ∈ qtb := q_mt 1150 (by decide +kernel) (by decide +kernel)
theorem q_ml_RX12_272 : (Cond.methodLink RX12 272 yX12_isHonest) ∈ qtb := q_mt 1151 (by decide +kernel) (by decide +kernel)
theorem q_im_yX12_isHonest : (Cond.instanceMethod yX12_isHonest) ∈ qtb := q_mt 1153 (by decide +kernel) (by decide +kernel)
theorem q_cd_yX12_isHonest : (Cond.code yX12_isHonest cX12_isHonest 3 (some .boolean)) ∈ qtb := q_mt 1154 (by decide +kernel) (by decide +kernel)
theorem q_ml_RX12_172 : (Cond.methodLink RX12 172 yX12_meaning) ∈ qtb := q_mt 1155 (by decide +kernel) (by decide +kernel)
theorem q_st_yX12_meaning : (Cond.static yX12_meaning) ∈ qtb := q_mt 1156 (by decide +kernel) (by decide +kernel)
theorem q_cd_yX12_meaning : (Cond.code yX12_meaning cX12_meaning 1 (some .int)) ∈ qtb := q_mt 1157 (by decide +kernel) (by decide +kernel)
theorem q_ml_RX12_182 : (Cond.methodLink RX12 182 yX12_heard) ∈ qtb := q_mt 1158 (by decide +kernel) (by decide +kernel)
theorem q_im_yX12_heard : (Cond.instanceMethod yX12_heard) ∈ qtb := q_mt 1160 (by decide +kernel) (by decide +kernel)
theorem q_cd_yX12_heard : (Cond.code yX12_heard cX12_heard 4 (some .int)) ∈ qtb := q_mt 1161 (by decide +kernel) (by decide +kernel)
theorem q_ml_RX12_178 : (Cond.methodLink RX12 178 yX12_hears) ∈ qtb := q_mt 1162 (by decide +kernel) (by decide +kernel)
theorem q_im_yX12_hears : (Cond.instanceMethod yX12_hears) ∈ qtb := q_mt 1164 (by decide +kernel) (by decide +kernel)
theorem q_cd_yX12_hears : (Cond.code yX12_hears cX12_hears 7 (some .int)) ∈ qtb := q_mt 1165 (by decide +kernel) (by decide +kernel)
theorem q_ml_RX12_210 : (Cond.methodLink RX12 210 yX12_asks) ∈ qtb := q_mt 1166 (by decide +kernel) (by decide +kernel)
theorem q_im_yX12_asks : (Cond.instanceMethod yX12_asks) ∈ qtb := q_mt 1168 (by decide +kernel) (by decide +kernel)
theorem q_cd_yX12_asks : (Cond.code yX12_asks cX12_asks 5 none) ∈ qtb := q_mt 1169 (by decide +kernel) (by decide +kernel)
theorem q_ml_RL_39 : (Cond.methodLink RL 39 yX12_house) ∈ qtb := q_mt 1170 (by decide +kernel) (by decide +kernel)
theorem q_im_yX12_house : (Cond.instanceMethod yX12_house) ∈ qtb := q_mt 1171 (by decide +kernel) (by decide +kernel)
theorem q_se_yX12_house : (Cond.selects RX12 yX12_house yX12_house) ∈ qtb := q_mt 1172 (by decide +kernel) (by decide +kernel)
theorem q_cd_yX12_house : (Cond.code yX12_house cX12_house 3 (some .int)) ∈ qtb := q_mt 1173 (by decide +kernel) (by decide +kernel)
theorem q_ml_RX12_165 : (Cond.methodLink RX12 165 yX12_isHouse) ∈ qtb := q_mt 1174 (by decide +kernel) (by decide +kernel)
theorem q_im_yX12_isHouse : (Cond.instanceMethod yX12_isHouse) ∈ qtb := q_mt 1176 (by decide +kernel) (by decide +kernel)
theorem q_cd_yX12_isHouse : (Cond.code yX12_isHouse cX12_isHouse 2 (some .boolean)) ∈ qtb := q_mt 1177 (by decide +kernel) (by decide +kernel)
theorem q_ml_RL_43 : (Cond.methodLink RL 43 yX12_prize) ∈ qtb := q_mt 1178 (by decide +kernel) (by decide +kernel)
theorem q_im_yX12_prize : (Cond.instanceMethod yX12_prize) ∈ qtb := q_mt 1179 (by decide +kernel) (by decide +kernel)
theorem q_se_yX12_prize : (Cond.selects RX12 yX12_prize yX12_prize) ∈ qtb := q_mt 1180 (by decide +kernel) (by decide +kernel)
theorem q_cd_yX12_prize : (Cond.code yX12_prize cX12_prize 3 (some .int)) ∈ qtb := q_mt 1181 (by decide +kernel) (by decide +kernel)
theorem q_ml_RL_47 : (Cond.methodLink RL 47 yX12_calls) ∈ qtb := q_mt 1182 (by decide +kernel) (by decide +kernel)
theorem q_im_yX12_calls : (Cond.instanceMethod yX12_calls) ∈ qtb := q_mt 1183 (by decide +kernel) (by decide +kernel)
theorem q_se_yX12_calls : (Cond.selects RX12 yX12_calls yX12_calls) ∈ qtb := q_mt 1184 (by decide +kernel) (by decide +kernel)
theorem q_cd_yX12_calls : (Cond.code yX12_calls cX12_calls 3 (some .int)) ∈ qtb := q_mt 1185 (by decide +kernel) (by decide +kernel)
theorem q_ml_RX12_218 : (Cond.methodLink RX12 218 yX12_areBoth) ∈ qtb := q_mt 1186 (by decide +kernel) (by decide +kernel)
theorem q_im_yX12_areBoth : (Cond.instanceMethod yX12_areBoth) ∈ qtb := q_mt 1188 (by decide +kernel) (by decide +kernel)
theorem q_cd_yX12_areBoth : (Cond.code yX12_areBoth cX12_areBoth 3 (some .boolean)) ∈ qtb := q_mt 1189 (by decide +kernel) (by decide +kernel)
theorem q_ml_RL_51 : (Cond.methodLink RL 51 yX12_sign) ∈ qtb := q_mt 1190 (by decide +kernel) (by decide +kernel)
theorem q_im_yX12_sign : (Cond.instanceMethod yX12_sign) ∈ qtb := q_mt 1191 (by decide +kernel) (by decide +kernel)
theorem q_se_yX12_sign : (Cond.selects RX12 yX12_sign yX12_sign) ∈ qtb := q_mt 1192 (by decide +kernel) (by decide +kernel)
theorem q_cd_yX12_sign : (Cond.code yX12_sign cX12_sign 3 (some .int)) ∈ qtb := q_mt 1193 (by decide +kernel) (by decide +kernel)
theorem q_ml_RX12_221 : (Cond.methodLink RX12 221 yX12_isSign) ∈ qtb := q_mt 1194 (by decide +kernel) (by decide +kernel)
theorem q_st_yX12_isSign : (Cond.static yX12_isSign) ∈ qtb := q_mt 1195 (by decide +kernel) (by decide +kernel)
theorem q_cd_yX12_isSign : (Cond.code yX12_isSign cX12_isSign 1 (some .boolean)) ∈ qtb := q_mt 1196 (by decide +kernel) (by decide +kernel)
theorem q_ci_RX12_224 : (Cond.constant RX12 224 (-1000000003)) ∈ qtb := q_mt 1197 (by decide +kernel) (by decide +kernel)
theorem q_ml_RL_55 : (Cond.methodLink RL 55 yX12_logged) ∈ qtb := q_mt 1198 (by decide +kernel) (by decide +kernel)
theorem q_im_yX12_logged : (Cond.instanceMethod yX12_logged) ∈ qtb := q_mt 1199 (by decide +kernel) (by decide +kernel)
theorem q_se_yX12_logged : (Cond.selects RX12 yX12_logged yX12_logged) ∈ qtb := q_mt 1200 (by decide +kernel) (by decide +kernel)
theorem q_cd_yX12_logged : (Cond.code yX12_logged cX12_logged 3 (some .int)) ∈ qtb := q_mt 1201 (by decide +kernel) (by decide +kernel)
theorem q_ml_RL_60 : (Cond.methodLink RL 60 yX12_visit) ∈ qtb := q_mt 1202 (by decide +kernel) (by decide +kernel)
theorem q_im_yX12_visit : (Cond.instanceMethod yX12_visit) ∈ qtb := q_mt 1203 (by decide +kernel) (by decide +kernel)
theorem q_se_yX12_visit : (Cond.selects RX12 yX12_visit yX12_visit) ∈ qtb := q_mt 1204 (by decide +kernel) (by decide +kernel)
theorem q_cd_yX12_visit : (Cond.code yX12_visit cX12_visit 4 (some .int)) ∈ qtb := q_mt 1205 (by decide +kernel) (by decide +kernel)
theorem q_ml_RX12_235 : (Cond.methodLink RX12 235 yX12_remember) ∈ qtb := q_mt 1206 (by decide +kernel) (by decide +kernel)
theorem q_im_yX12_remember : (Cond.instanceMethod yX12_remember) ∈ qtb := q_mt 1208 (by decide +kernel) (by decide +kernel)
theorem q_cd_yX12_remember : (Cond.code yX12_remember cX12_remember 2 none) ∈ qtb := q_mt 1209 (by decide +kernel) (by decide +kernel)
theorem q_ml_RX12_238 : (Cond.methodLink RX12 238 yX12_visits) ∈ qtb := q_mt 1210 (by decide +kernel) (by decide +kernel)
theorem q_im_yX12_visits : (Cond.instanceMethod yX12_visits) ∈ qtb := q_mt 1212 (by decide +kernel) (by decide +kernel)
theorem q_cd_yX12_visits : (Cond.code yX12_visits cX12_visits 6 (some .int)) ∈ qtb := q_mt 1213 (by decide +kernel) (by decide +kernel)
theorem q_ml_RX12_228 : (Cond.methodLink RX12 228 yX12_answer) ∈ qtb := q_mt 1214 (by decide +kernel) (by decide +kernel)
theorem q_im_yX12_answer : (Cond.instanceMethod yX12_answer) ∈ qtb := q_mt 1216 (by decide +kernel) (by decide +kernel)
theorem q_cd_yX12_answer : (Cond.code yX12_answer cX12_answer 5 (some .int)) ∈ qtb := q_mt 1217 (by decide +kernel) (by decide +kernel)
theorem q_ml_RX12_231 : (Cond.methodLink RX12 231 yX12_enters) ∈ qtb := q_mt 1218 (by decide +kernel) (by decide +kernel)
theorem q_im_yX12_enters : (Cond.instanceMethod yX12_enters) ∈ qtb := q_mt 1220 (by decide +kernel) (by decide +kernel)
theorem q_cd_yX12_enters : (Cond.code yX12_enters cX12_enters 6 none) ∈ qtb := q_mt 1221 (by decide +kernel) (by decide +kernel)
theorem q_ml_RL_64 : (Cond.methodLink RL 64 yX12_day) ∈ qtb := q_mt 1222 (by decide +kernel) (by decide +kernel)
theorem q_im_yX12_day : (Cond.instanceMethod yX12_day) ∈ qtb := q_mt 1223 (by decide +kernel) (by decide +kernel)
theorem q_se_yX12_day : (Cond.selects RX12 yX12_day yX12_day) ∈ qtb := q_mt 1224 (by decide +kernel) (by decide +kernel)
theorem q_cd_yX12_day : (Cond.code yX12_day cX12_day 4 (some .int)) ∈ qtb := q_mt 1225 (by decide +kernel) (by decide +kernel)
theorem q_ml_RX12_242 : (Cond.methodLink RX12 242 yX12_needDays) ∈ qtb := q_mt 1226 (by decide +kernel) (by decide +kernel)
theorem q_im_yX12_needDays : (Cond.instanceMethod yX12_needDays) ∈ qtb := q_mt 1228 (by decide +kernel) (by decide +kernel)
theorem q_cd_yX12_needDays : (Cond.code yX12_needDays cX12_needDays 2 (some .int)) ∈ qtb := q_mt 1229 (by decide +kernel) (by decide +kernel)
theorem q_ci_RX12_241 : (Cond.constant RX12 241 (90000)) ∈ qtb := q_mt 1230 (by decide +kernel) (by decide +kernel)
theorem q_ml_RX12_245 : (Cond.methodLink RX12 245 yX12_days) ∈ qtb := q_mt 1231 (by decide +kernel) (by decide +kernel)
theorem q_im_yX12_days : (Cond.instanceMethod yX12_days) ∈ qtb := q_mt 1233 (by decide +kernel) (by decide +kernel)
theorem q_cd_yX12_days : (Cond.code yX12_days cX12_days 3 none) ∈ qtb := q_mt 1234 (by decide +kernel) (by decide +kernel)
theorem q_ml_RL_68 : (Cond.methodLink RL 68 yX12_mean) ∈ qtb := q_mt 1235 (by decide +kernel) (by decide +kernel)
theorem q_im_yX12_mean : (Cond.instanceMethod yX12_mean) ∈ qtb := q_mt 1236 (by decide +kernel) (by decide +kernel)
theorem q_se_yX12_mean : (Cond.selects RX12 yX12_mean yX12_mean) ∈ qtb := q_mt 1237 (by decide +kernel) (by decide +kernel)
theorem q_cd_yX12_mean : (Cond.code yX12_mean cX12_mean 3 (some .int)) ∈ qtb := q_mt 1238 (by decide +kernel) (by decide +kernel)
theorem q_ml_RX12_248 : (Cond.methodLink RX12 248 yX12_becomes) ∈ qtb := q_mt 1239 (by decide +kernel) (by decide +kernel)
theorem q_im_yX12_becomes : (Cond.instanceMethod yX12_becomes) ∈ qtb := q_mt 1241 (by decide +kernel) (by decide +kernel)
theorem q_cd_yX12_becomes : (Cond.code yX12_becomes cX12_becomes 4 (some .int)) ∈ qtb := q_mt 1242 (by decide +kernel) (by decide +kernel)
theorem q_ml_RL_72 : (Cond.methodLink RL 72 yX12_stuff) ∈ qtb := q_mt 1243 (by decide +kernel) (by decide +kernel)
theorem q_im_yX12_stuff : (Cond.instanceMethod yX12_stuff) ∈ qtb := q_mt 1244 (by decide +kernel) (by decide +kernel)
theorem q_se_yX12_stuff : (Cond.selects RX12 yX12_stuff yX12_stuff) ∈ qtb := q_mt 1245 (by decide +kernel) (by decide +kernel)
theorem q_cd_yX12_stuff : (Cond.code yX12_stuff cX12_stuff 3 (some .int)) ∈ qtb := q_mt 1246 (by decide +kernel) (by decide +kernel)
theorem q_ml_RL_76 : (Cond.methodLink RL 76 yX12_pardon) ∈ qtb := q_mt 1247 (by decide +kernel) (by decide +kernel)
theorem q_im_yX12_pardon : (Cond.instanceMethod yX12_pardon) ∈ qtb := q_mt 1248 (by decide +kernel) (by decide +kernel)
theorem q_se_yX12_pardon : (Cond.selects RX12 yX12_pardon yX12_pardon) ∈ qtb := q_mt 1249 (by decide +kernel) (by decide +kernel)
theorem q_cd_yX12_pardon : (Cond.code yX12_pardon cX12_pardon 4 (some .int)) ∈ qtb := q_mt 1250 (by decide +kernel) (by decide +kernel)
theorem q_ml_RL_80 : (Cond.methodLink RL 80 yX12_drift) ∈ qtb := q_mt 1251 (by decide +kernel) (by decide +kernel)
theorem q_im_yX12_drift : (Cond.instanceMethod yX12_drift) ∈ qtb := q_mt 1252 (by decide +kernel) (by decide +kernel)
theorem q_se_yX12_drift : (Cond.selects RX12 yX12_drift yX12_drift) ∈ qtb := q_mt 1253 (by decide +kernel) (by decide +kernel)
theorem q_cd_yX12_drift : (Cond.code yX12_drift cX12_drift 7 (some .int)) ∈ qtb := q_mt 1254 (by decide +kernel) (by decide +kernel)
theorem q_ml_RX12_263 : (Cond.methodLink RX12 263 yX12_draw) ∈ qtb := q_mt 1255 (by decide +kernel) (by decide +kernel)
theorem q_im_yX12_draw : (Cond.instanceMethod yX12_draw) ∈ qtb := q_mt 1257 (by decide +kernel) (by decide +kernel)
theorem q_cd_yX12_draw : (Cond.code yX12_draw cX12_draw 2 (some .int)) ∈ qtb := q_mt 1258 (by decide +kernel) (by decide +kernel)
theorem q_cl_RX12_255 : (Cond.constantLong RX12 255 (1103515245)) ∈ qtb := q_mt 1259 (by decide +kernel) (by decide +kernel)
theorem q_cl_RX12_257 : (Cond.constantLong RX12 257 (12345)) ∈ qtb := q_mt 1260 (by decide +kernel) (by decide +kernel)
theorem q_cl_RX12_259 : (Cond.constantLong RX12 259 (2147483648)) ∈ qtb := q_mt 1261 (by decide +kernel) (by decide +kernel)
theorem q_cl_RX12_261 : (Cond.constantLong RX12 261 (65536)) ∈ qtb := q_mt 1262 (by decide +kernel) (by decide +kernel)
theorem q_ml_RL_84 : (Cond.methodLink RL 84 yX12_undo) ∈ qtb := q_mt 1263 (by decide +kernel) (by decide +kernel)
theorem q_im_yX12_undo : (Cond.instanceMethod yX12_undo) ∈ qtb := q_mt 1264 (by decide +kernel) (by decide +kernel)
theorem q_se_yX12_undo : (Cond.selects RX12 yX12_undo yX12_undo) ∈ qtb := q_mt 1265 (by decide +kernel) (by decide +kernel)
theorem q_cd_yX12_undo : (Cond.code yX12_undo cX12_undo 3 (some .int)) ∈ qtb := q_mt 1266 (by decide +kernel) (by decide +kernel)
theorem q_ml_RL_89 : (Cond.methodLink RL 89 yX12_says) ∈ qtb := q_mt 1267 (by decide +kernel) (by decide +kernel)
theorem q_im_yX12_says : (Cond.instanceMethod yX12_says) ∈ qtb := q_mt 1268 (by decide +kernel) (by decide +kernel)
theorem q_se_yX12_says : (Cond.selects RX12 yX12_says yX12_says) ∈ qtb := q_mt 1269 (by decide +kernel) (by decide +kernel)
theorem q_cd_yX12_says : (Cond.code yX12_says cX12_says 5 (some .int)) ∈ qtb := q_mt 1270 (by decide +kernel) (by decide +kernel)
theorem q_ml_RL_93 : (Cond.methodLink RL 93 yX12_signs) ∈ qtb := q_mt 1271 (by decide +kernel) (by decide +kernel)
theorem q_im_yX12_signs : (Cond.instanceMethod yX12_signs) ∈ qtb := q_mt 1272 (by decide +kernel) (by decide +kernel)
theorem q_se_yX12_signs : (Cond.selects RX12 yX12_signs yX12_signs) ∈ qtb := q_mt 1273 (by decide +kernel) (by decide +kernel)
theorem q_cd_yX12_signs : (Cond.code yX12_signs cX12_signs 8 (some .int)) ∈ qtb := q_mt 1274 (by decide +kernel) (by decide +kernel)
theorem q_ml_RX12_269 : (Cond.methodLink RX12 269 yX12_partsOf) ∈ qtb := q_mt 1275 (by decide +kernel) (by decide +kernel)
theorem q_st_yX12_partsOf : (Cond.static yX12_partsOf) ∈ qtb := q_mt 1276 (by decide +kernel) (by decide +kernel)
theorem q_cd_yX12_partsOf : (Cond.code yX12_partsOf cX12_partsOf 1 (some .int)) ∈ qtb := q_mt 1277 (by decide +kernel) (by decide +kernel)
theorem q_ml_RX12_266 : (Cond.methodLink RX12 266 yX12_bits) ∈ qtb := q_mt 1278 (by decide +kernel) (by decide +kernel)
theorem q_st_yX12_bits : (Cond.static yX12_bits) ∈ qtb := q_mt 1279 (by decide +kernel) (by decide +kernel)
theorem q_cd_yX12_bits : (Cond.code yX12_bits cX12_bits 3 (some .int)) ∈ qtb := q_mt 1280 (by decide +kernel) (by decide +kernel)
theorem q_ml_RL_97 : (Cond.methodLink RL 97 yX12_gains) ∈ qtb := q_mt 1281 (by decide +kernel) (by decide +kernel)
theorem q_im_yX12_gains : (Cond.instanceMethod yX12_gains) ∈ qtb := q_mt 1282 (by decide +kernel) (by decide +kernel)
theorem q_se_yX12_gains : (Cond.selects RX12 yX12_gains yX12_gains) ∈ qtb := q_mt 1283 (by decide +kernel) (by decide +kernel)
theorem q_cd_yX12_gains : (Cond.code yX12_gains cX12_gains 3 (some .int)) ∈ qtb := q_mt 1284 (by decide +kernel) (by decide +kernel)
theorem q_ml_RX12_275 : (Cond.methodLink RX12 275 yX12_mostHeard) ∈ qtb := q_mt 1285 (by decide +kernel) (by decide +kernel)
theorem q_im_yX12_mostHeard : (Cond.instanceMethod yX12_mostHeard) ∈ qtb := q_mt 1287 (by decide +kernel) (by decide +kernel)
theorem q_cd_yX12_mostHeard : (Cond.code yX12_mostHeard cX12_mostHeard 7 (some .int)) ∈ qtb := q_mt 1288 (by decide +kernel) (by decide +kernel)
theorem q_ml_RL_101 : (Cond.methodLink RL 101 yX12_clear) ∈ qtb := q_mt 1289 (by decide +kernel) (by decide +kernel)
theorem q_im_yX12_clear : (Cond.instanceMethod yX12_clear) ∈ qtb := q_mt 1290 (by decide +kernel) (by decide +kernel)
theorem q_se_yX12_clear : (Cond.selects RX12 yX12_clear yX12_clear) ∈ qtb := q_mt 1291 (by decide +kernel) (by decide +kernel)
theorem q_cd_yX12_clear : (Cond.code yX12_clear cX12_clear 7 (some .int)) ∈ qtb := q_mt 1292 (by decide +kernel) (by decide +kernel)
theorem q_ml_RL_105 : (Cond.methodLink RL 105 yX12_letIn) ∈ qtb := q_mt 1293 (by decide +kernel) (by decide +kernel)
theorem q_im_yX12_letIn : (Cond.instanceMethod yX12_letIn) ∈ qtb := q_mt 1294 (by decide +kernel) (by decide +kernel)
theorem q_se_yX12_letIn : (Cond.selects RX12 yX12_letIn yX12_letIn) ∈ qtb := q_mt 1295 (by decide +kernel) (by decide +kernel)
theorem q_cd_yX12_letIn : (Cond.code yX12_letIn cX12_letIn 3 (some .int)) ∈ qtb := q_mt 1296 (by decide +kernel) (by decide +kernel)
theorem q_ml_RX12_278 : (Cond.methodLink RX12 278 yX12_letInBy) ∈ qtb := q_mt 1297 (by decide +kernel) (by decide +kernel)
theorem q_im_yX12_letInBy : (Cond.instanceMethod yX12_letInBy) ∈ qtb := q_mt 1299 (by decide +kernel) (by decide +kernel)
theorem q_cd_yX12_letInBy : (Cond.code yX12_letInBy cX12_letInBy 5 (some .int)) ∈ qtb := q_mt 1300 (by decide +kernel) (by decide +kernel)
theorem q_ml_RL_109 : (Cond.methodLink RL 109 yX12_round) ∈ qtb := q_mt 1301 (by decide +kernel) (by decide +kernel)
theorem q_im_yX12_round : (Cond.instanceMethod yX12_round) ∈ qtb := q_mt 1302 (by decide +kernel) (by decide +kernel)
theorem q_se_yX12_round : (Cond.selects RX12 yX12_round yX12_round) ∈ qtb := q_mt 1303 (by decide +kernel) (by decide +kernel)
theorem q_cd_yX12_round : (Cond.code yX12_round cX12_round 7 (some .int)) ∈ qtb := q_mt 1304 (by decide +kernel) (by decide +kernel)
theorem q_ml_RL_113 : (Cond.methodLink RL 113 yX12_suits) ∈ qtb := q_mt 1305 (by decide +kernel) (by decide +kernel)
theorem q_im_yX12_suits : (Cond.instanceMethod yX12_suits) ∈ qtb := q_mt 1306 (by decide +kernel) (by decide +kernel)
theorem q_se_yX12_suits : (Cond.selects RX12 yX12_suits yX12_suits) ∈ qtb := q_mt 1307 (by decide +kernel) (by decide +kernel)
theorem q_cd_yX12_suits : (Cond.code yX12_suits cX12_suits 3 (some .int)) ∈ qtb := q_mt 1308 (by decide +kernel) (by decide +kernel)
theorem q_ml_RL_117 : (Cond.methodLink RL 117 yX12_dry) ∈ qtb := q_mt 1309 (by decide +kernel) (by decide +kernel)
theorem q_im_yX12_dry : (Cond.instanceMethod yX12_dry) ∈ qtb := q_mt 1310 (by decide +kernel) (by decide +kernel)
theorem q_se_yX12_dry : (Cond.selects RX12 yX12_dry yX12_dry) ∈ qtb := q_mt 1311 (by decide +kernel) (by decide +kernel)
theorem q_cd_yX12_dry : (Cond.code yX12_dry cX12_dry 6 (some .int)) ∈ qtb := q_mt 1312 (by decide +kernel) (by decide +kernel)
theorem q_cl_RX12_281 : (Cond.constantLong RX12 281 (1000000000)) ∈ qtb := q_mt 1313 (by decide +kernel) (by decide +kernel)
theorem q_cl_RX12_283 : (Cond.constantLong RX12 283 (100)) ∈ qtb := q_mt 1314 (by decide +kernel) (by decide +kernel)
theorem q_ml_RL_121 : (Cond.methodLink RL 121 yX12_meant) ∈ qtb := q_mt 1315 (by decide +kernel) (by decide +kernel)
theorem q_im_yX12_meant : (Cond.instanceMethod yX12_meant) ∈ qtb := q_mt 1316 (by decide +kernel) (by decide +kernel)
theorem q_se_yX12_meant : (Cond.selects RX12 yX12_meant yX12_meant) ∈ qtb := q_mt 1317 (by decide +kernel) (by decide +kernel)
theorem q_cd_yX12_meant : (Cond.code yX12_meant cX12_meant 3 (some .int)) ∈ qtb := q_mt 1318 (by decide +kernel) (by decide +kernel)
theorem q_ml_RL_125 : (Cond.methodLink RL 125 yX12_couldBe) ∈ qtb := q_mt 1319 (by decide +kernel) (by decide +kernel)
theorem q_im_yX12_couldBe : (Cond.instanceMethod yX12_couldBe) ∈ qtb := q_mt 1320 (by decide +kernel) (by decide +kernel)
theorem q_se_yX12_couldBe : (Cond.selects RX12 yX12_couldBe yX12_couldBe) ∈ qtb := q_mt 1321 (by decide +kernel) (by decide +kernel)
theorem q_cd_yX12_couldBe : (Cond.code yX12_couldBe cX12_couldBe 6 (some .int)) ∈ qtb := q_mt 1322 (by decide +kernel) (by decide +kernel)
theorem q_ml_RX12_288 : (Cond.methodLink RX12 288 yX12_couldBeSo) ∈ qtb := q_mt 1323 (by decide +kernel) (by decide +kernel)
theorem q_im_yX12_couldBeSo : (Cond.instanceMethod yX12_couldBeSo) ∈ qtb := q_mt 1325 (by decide +kernel) (by decide +kernel)
theorem q_cd_yX12_couldBeSo : (Cond.code yX12_couldBeSo cX12_couldBeSo 4 (some .boolean)) ∈ qtb := q_mt 1326 (by decide +kernel) (by decide +kernel)
theorem q_ml_RX12_285 : (Cond.methodLink RX12 285 yX12_partOf) ∈ qtb := q_mt 1327 (by decide +kernel) (by decide +kernel)
theorem q_st_yX12_partOf : (Cond.static yX12_partOf) ∈ qtb := q_mt 1328 (by decide +kernel) (by decide +kernel)
theorem q_cd_yX12_partOf : (Cond.code yX12_partOf cX12_partOf 2 (some .int)) ∈ qtb := q_mt 1329 (by decide +kernel) (by decide +kernel)
theorem q_ml_RL_129 : (Cond.methodLink RL 129 yX12_part) ∈ qtb := q_mt 1330 (by decide +kernel) (by decide +kernel)
theorem q_im_yX12_part : (Cond.instanceMethod yX12_part) ∈ qtb := q_mt 1331 (by decide +kernel) (by decide +kernel)
theorem q_se_yX12_part : (Cond.selects RX12 yX12_part yX12_part) ∈ qtb := q_mt 1332 (by decide +kernel) (by decide +kernel)
theorem q_cd_yX12_part : (Cond.code yX12_part cX12_part 5 (some .int)) ∈ qtb := q_mt 1333 (by decide +kernel) (by decide +kernel)
theorem q_ml_RX12_291 : (Cond.methodLink RX12 291 yX12_couldBe) ∈ qtb := q_mt 1334 (by decide +kernel) (by decide +kernel)
theorem q_ml_RX12_294 : (Cond.methodLink RX12 294 yX12_alike) ∈ qtb := q_mt 1335 (by decide +kernel) (by decide +kernel)
theorem q_im_yX12_alike : (Cond.instanceMethod yX12_alike) ∈ qtb := q_mt 1337 (by decide +kernel) (by decide +kernel)
theorem q_cd_yX12_alike : (Cond.code yX12_alike cX12_alike 6 (some .int)) ∈ qtb := q_mt 1338 (by decide +kernel) (by decide +kernel)
theorem q_ml_RL_133 : (Cond.methodLink RL 133 yX12_write) ∈ qtb := q_mt 1339 (by decide +kernel) (by decide +kernel)
theorem q_im_yX12_write : (Cond.instanceMethod yX12_write) ∈ qtb := q_mt 1340 (by decide +kernel) (by decide +kernel)
theorem q_se_yX12_write : (Cond.selects RX12 yX12_write yX12_write) ∈ qtb := q_mt 1341 (by decide +kernel) (by decide +kernel)
theorem q_cd_yX12_write : (Cond.code yX12_write cX12_write 3 (some .int)) ∈ qtb := q_mt 1342 (by decide +kernel) (by decide +kernel)
theorem q_ml_RL_137 : (Cond.methodLink RL 137 yX12_judge) ∈ qtb := q_mt 1343 (by decide +kernel) (by decide +kernel)
theorem q_im_yX12_judge : (Cond.instanceMethod yX12_judge) ∈ qtb := q_mt 1344 (by decide +kernel) (by decide +kernel)
theorem q_se_yX12_judge : (Cond.selects RX12 yX12_judge yX12_judge) ∈ qtb := q_mt 1345 (by decide +kernel) (by decide +kernel)
theorem q_cd_yX12_judge : (Cond.code yX12_judge cX12_judge 2 (some .int)) ∈ qtb := q_mt 1346 (by decide +kernel) (by decide +kernel)
theorem q_ml_RL_141 : (Cond.methodLink RL 141 yX12_tear) ∈ qtb := q_mt 1347 (by decide +kernel) (by decide +kernel)
theorem q_im_yX12_tear : (Cond.instanceMethod yX12_tear) ∈ qtb := q_mt 1348 (by decide +kernel) (by decide +kernel)
theorem q_se_yX12_tear : (Cond.selects RX12 yX12_tear yX12_tear) ∈ qtb := q_mt 1349 (by decide +kernel) (by decide +kernel)
theorem q_cd_yX12_tear : (Cond.code yX12_tear cX12_tear 2 (some .int)) ∈ qtb := q_mt 1350 (by decide +kernel) (by decide +kernel)
theorem q_ml_RL_145 : (Cond.methodLink RL 145 yX12_seed) ∈ qtb := q_mt 1351 (by decide +kernel) (by decide +kernel)
theorem q_im_yX12_seed : (Cond.instanceMethod yX12_seed) ∈ qtb := q_mt 1352 (by decide +kernel) (by decide +kernel)
theorem q_se_yX12_seed : (Cond.selects RX12 yX12_seed yX12_seed) ∈ qtb := q_mt 1353 (by decide +kernel) (by decide +kernel)
theorem q_cd_yX12_seed : (Cond.code yX12_seed cX12_seed 3 (some .int)) ∈ qtb := q_mt 1354 (by decide +kernel) (by decide +kernel)
theorem q_ml_RL_149 : (Cond.methodLink RL 149 yX12_keep) ∈ qtb := q_mt 1355 (by decide +kernel) (by decide +kernel)
theorem q_im_yX12_keep : (Cond.instanceMethod yX12_keep) ∈ qtb := q_mt 1356 (by decide +kernel) (by decide +kernel)
theorem q_se_yX12_keep : (Cond.selects RX12 yX12_keep yX12_keep) ∈ qtb := q_mt 1357 (by decide +kernel) (by decide +kernel)
theorem q_cd_yX12_keep : (Cond.code yX12_keep cX12_keep 3 (some .int)) ∈ qtb := q_mt 1358 (by decide +kernel) (by decide +kernel)
theorem q_ml_RL_153 : (Cond.methodLink RL 153 yX12_goBack) ∈ qtb := q_mt 1359 (by decide +kernel) (by decide +kernel)
theorem q_im_yX12_goBack : (Cond.instanceMethod yX12_goBack) ∈ qtb := q_mt 1360 (by decide +kernel) (by decide +kernel)
theorem q_se_yX12_goBack : (Cond.selects RX12 yX12_goBack yX12_goBack) ∈ qtb := q_mt 1361 (by decide +kernel) (by decide +kernel)
theorem q_cd_yX12_goBack : (Cond.code yX12_goBack cX12_goBack 3 (some .int)) ∈ qtb := q_mt 1362 (by decide +kernel) (by decide +kernel)
end
section
/-! numbers: a Java int is written by a whole number z, an int row of the machine by qI z -/
abbrev qMem : Type := Nat → Nat → Int → Int
abbrev qGm : Type := va_G × (ClassId × ClassId × ClassId × ClassId) × (Nat → Nat → Nat)
abbrev qIn (z : Int) : Prop := -2147483648 ≤ z ∧ z ≤ 2147483647
abbrev qI (z : Int) : Value := .int (Int32.ofInt z)
abbrev qJ (z : Int) : Value := .long (Int64.ofInt z)
abbrev qR (g : qGm) (j u : Nat) : Value := .ref (g.2.2 j u)
theorem q_ti {z : Int} (h : qIn z) : (Int32.ofInt z).toInt = z := Int32.toInt_ofInt_of_le (by omega) (by omega)
theorem q_tj {z : Int} (h1 : -9223372036854775808 ≤ z) (h2 : z ≤ 9223372036854775807) : (Int64.ofInt z).toInt = z := Int64.toInt_ofInt_of_le (by omega) (by omega)
theorem q_inj {a b : Int} (ha : qIn a) (hb : qIn b) : Int32.ofInt a = Int32.ofInt b ↔ a = b := by
  constructor
  · intro h
    have := congrArg Int32.toInt h
    rwa [q_ti ha, q_ti hb] at this
  · intro h; rw [h]
theorem q_lt {a b : Int} (ha : qIn a) (hb : qIn b) : Int32.ofInt a < Int32.ofInt b ↔ a < b := by rw [Int32.lt_iff_toInt_lt, q_ti ha, q_ti hb]
theorem q_le {a b : Int} (ha : qIn a) (hb : qIn b) : Int32.ofInt a ≤ Int32.ofInt b ↔ a ≤ b := by rw [Int32.le_iff_toInt_le, q_ti ha, q_ti hb]
theorem q_tin (x : Int32) : qIn x.toInt := by
  have h1 := x.toInt_lt
  have h2 := x.le_toInt
  omega
theorem q_cl {z : Int} (h0 : 0 ≤ z) (h : z ≤ 2147483647) : (Int32.ofInt z).toNatClampNeg = z.toNat := Int32.toNatClampNeg_ofInt_of_le (by omega) (by omega)
theorem q_vin {z : Int} {n : Nat} (h0 : 0 ≤ z) (h : z < n) (hn : n ≤ 2147483647) : vp_in (Int32.ofInt z) n := by
  rw [vp_in_iff, q_ti ⟨by omega, by omega⟩]
  exact ⟨h0, h⟩
/-! the memory: kind j, which one of it u, place i -/
def qUp (M : qMem) (j u : Nat) (i z : Int) : qMem := fun j' u' i' => if j' = j then if u' = u then if i' = i then z else M j' u' i' else M j' u' i' else M j' u' i'
def qSet (M : qMem) (j u : Nat) (f : Int → Int) : qMem := fun j' u' => if j' = j then if u' = u then f else M j' u' else M j' u'
def qRg (M : qMem) : Prop := ∀ (j u : Nat) (i : Int), qIn (M j u i)
theorem q_rgUp {M : qMem} (h : qRg M) {j u : Nat} {i z : Int} (hz : qIn z) : qRg (qUp M j u i z) := by
  intro j' u' i'
  unfold qUp
  split
  · split
    · split
      · exact hz
      · exact h _ _ _
    · exact h _ _ _
  · exact h _ _ _
theorem q_rgSet {M : qMem} (h : qRg M) {j u : Nat} {f : Int → Int} (hz : ∀ i, qIn (f i)) : qRg (qSet M j u f) := by
  intro j' u' i'
  unfold qSet
  split
  · split
    · exact hz _
    · exact h _ _ _
  · exact h _ _ _
theorem q_upOff {M : qMem} {j u j' u' : Nat} {i z : Int} (h : ¬ (j' = j ∧ u' = u)) : qUp M j u i z j' u' = M j' u' := by
  funext i'
  unfold qUp
  split
  · split
    · exact absurd ⟨by assumption, by assumption⟩ h
    · rfl
  · rfl
theorem q_setOff {M : qMem} {j u j' u' : Nat} {f : Int → Int} (h : ¬ (j' = j ∧ u' = u)) : qSet M j u f j' u' = M j' u' := by
  unfold qSet
  split
  · split
    · exact absurd ⟨by assumption, by assumption⟩ h
    · rfl
  · rfl
theorem q_upOn {M : qMem} {j u : Nat} {i z : Int} : qUp M j u i z j u = fun k => if k = i then z else M j u k := by
  funext k; simp [qUp]
theorem q_setOn {M : qMem} {j u : Nat} {f : Int → Int} : qSet M j u f j u = f := by simp [qSet]
theorem q_rd (M : qMem) (j u : Nat) (i z : Int) (j' u' : Nat) (i' : Int) : qUp M j u i z j' u' i' = if j' = j then if u' = u then if i' = i then z else M j' u' i' else M j' u' i' else M j' u' i' := rfl
theorem q_rdS (M : qMem) (j u : Nat) (f : Int → Int) (j' u' : Nat) (i' : Int) : qSet M j u f j' u' i' = if j' = j then if u' = u then f i' else M j' u' i' else M j' u' i' := by
  unfold qSet
  split
  · split <;> rfl
  · rfl
/-! the cells -/
def qRow (g : qGm) (M : qMem) (j u n : Nat) : va_E := .inl (g.2.1.1, n, .inl (fun k => Int32.ofInt (M j u (k : Int))))
def qCnt : Nat → Nat := fun j => match j with
  | 0 => 1 | 1 => 1 | 2 => 1 | 3 => 2 | 4 => 2 | 5 => 2 | 6 => 2 | 7 => 2 | 8 => 2 | 9 => 2
  | 10 => 33 | 11 => 33 | 12 => 33 | 13 => 33 | 14 => 33 | 15 => 33 | 16 => 33 | 17 => 33 | 18 => 33
  | 19 => 1 | 20 => 1 | 21 => 1 | 22 => 1 | 23 => 1 | 24 => 1 | 26 => 1 | 27 => 1 | 28 => 2 | 29 => 1 | 30 => 1 | 31 => 1 | 32 => 1 | 33 => 1 | 34 => 1 | 35 => 1
  | 41 => 1 | 49 => 1 | 50 => 1 | 51 => 1 | 52 => 1 | 53 => 1 | 54 => 1 | 58 => 1 | 59 => 1 | 60 => 1 | 61 => 1 | 62 => 1 | 63 => 1 | 64 => 1 | 67 => 1 | 70 => 1 | 71 => 1 | 73 => 1 | 74 => 1 | 75 => 1 | 76 => 1 | 77 => 1
  | _ => 0
def qCell (g : qGm) (M : qMem) (j u : Nat) : va_E := match j with
  | 0 => .inr (11, [qR g 1 0, qR g 3 0, qR g 3 1, qR g 10 0, qR g 19 0, qR g 20 0, qR g 26 0, qR g 28 0, qR g 28 1, qR g 29 0, qR g 32 0, qI (M 0 u 11)])
  | 1 => .inr (9, [qR g 2 u, qI (M 1 u 1), qI (M 1 u 2), qI (M 1 u 3), qI (M 1 u 4)])
  | 2 => qRow g M 2 u 240
  | 3 => .inr (7, [qI (M 3 u 0), qI (M 3 u 1), qI (M 3 u 2), qR g 4 u, qR g 5 u, qR g 6 u, qR g 7 u, qR g 8 u, qR g 9 u])
  | 4 => qRow g M 4 u 6
  | 5 => qRow g M 5 u 6
  | 6 => qRow g M 6 u 6
  | 7 => qRow g M 7 u 6
  | 8 => qRow g M 8 u 6
  | 9 => qRow g M 9 u 48
  | 10 => .inr (2, [qI (M 10 u 0), qI (M 10 u 1), qR g 11 u, qR g 12 u, qR g 13 u, qR g 14 u, qR g 15 u, qR g 16 u, qR g 17 u])
  | 11 => qRow g M 11 u 6
  | 12 => qRow g M 12 u 6
  | 13 => qRow g M 13 u 6
  | 14 => qRow g M 14 u 6
  | 15 => qRow g M 15 u 36
  | 16 => qRow g M 16 u 36
  | 17 => .inr (4, [qR g 18 u, qI (M 17 u 1), qI (M 17 u 2)])
  | 18 => qRow g M 18 u 100
  | 19 => .inr (10, [qR g 3 1, qR g 10 0])
  | 20 => .inr (5, [qR g 19 0, qR g 21 u, qR g 22 u, qR g 23 u, qR g 24 u, qI (M 20 u 5)])
  | 21 => qRow g M 21 u 36
  | 22 => qRow g M 22 u 6
  | 23 => qRow g M 23 u 6
  | 24 => qRow g M 24 u 6
  | 26 => .inr (6, [qR g 27 u, qI (M 26 u 1), qI (M 26 u 2)])
  | 27 => .inl (g.2.1.2.2.2, 30, .inr (.inr (.inr (.inr (fun k => some (g.2.2 10 (k + 1)))))))
  | 28 => .inr (3, [qI (M 28 u 0), qI (M 28 u 1), qR g 10 (31 + u)])
  | 29 => .inr (8, [qR g 30 u, qR g 31 u, qI (M 29 u 2)])
  | 30 => qRow g M 30 u 6
  | 31 => qRow g M 31 u 6
  | 32 => .inr (0, [qR g 33 u, qR g 34 u, qI (M 32 u 2)])
  | 33 => qRow g M 33 u 20
  | 34 => qRow g M 34 u 20
  | 35 => .inr (12, [qI (M 35 u 0), qR g 41 u, qI (M 35 u 2), qI (M 35 u 3), qI (M 35 u 4), qI (M 35 u 5), qI (M 35 u 6), qI (M 35 u 7), qI (M 35 u 8), qR g 49 u, qR g 50 u, qR g 51 u, qR g 52 u, qR g 53 u, qR g 54 u, qI (M 35 u 15), qI (M 35 u 16), qI (M 35 u 17), qR g 58 u, qR g 59 u, qR g 60 u, qR g 61 u, qR g 62 u, qR g 63 u, qR g 64 u, qI (M 35 u 25), qI (M 35 u 26), qR g 67 u, qJ (M 35 u 28), qI (M 35 u 29), qR g 70 u, qR g 71 u, qI (M 35 u 32), qR g 73 u, qR g 74 u, qR g 75 u, qR g 76 u, qR g 77 u])
  | 41 => qRow g M 41 u 240
  | 49 => qRow g M 49 u 6
  | 50 => qRow g M 50 u 6
  | 51 => qRow g M 51 u 6
  | 52 => qRow g M 52 u 6
  | 53 => qRow g M 53 u 6
  | 54 => qRow g M 54 u 48
  | 58 => qRow g M 58 u 6
  | 59 => qRow g M 59 u 6
  | 60 => qRow g M 60 u 48
  | 61 => qRow g M 61 u 199
  | 62 => qRow g M 62 u 6
  | 63 => qRow g M 63 u 6
  | 64 => qRow g M 64 u 6
  | 67 => qRow g M 67 u 5970
  | 70 => qRow g M 70 u 6
  | 71 => qRow g M 71 u 6
  | 73 => qRow g M 73 u 20
  | 74 => qRow g M 74 u 20
  | 75 => .inl (g.2.1.2.2.1, 2, .inl (fun k => Int32.ofInt (M 75 u (k : Int))))
  | 76 => qRow g M 76 u 398
  | 77 => .inl (g.2.1.2.1, 2, .inr (.inl (fun k => Int64.ofInt (M 77 u (k : Int)))))
  | _ => .inr (0, [])
set_option maxRecDepth 20000 in
/-- a cell looks at its own row of the memory alone -/
theorem q_cellOff (g : qGm) (M M' : qMem) (j u : Nat) (h : M' j u = M j u) : qCell g M' j u = qCell g M j u := by
  unfold qCell qRow
  split <;> simp only [h]
/-- all cells' places -/
def qIx : List (Nat × Nat) := (List.range 78).flatMap (fun j => (List.range (qCnt j)).map (fun u => (j, u)))
theorem q_ixMem {j u : Nat} : (j, u) ∈ qIx ↔ j < 78 ∧ u < qCnt j := by
  simp [qIx, List.mem_flatMap]
theorem q_cntLt {j u : Nat} (h : u < qCnt j) : j < 78 := by
  unfold qCnt at h
  split at h <;> omega
theorem q_ixMem' {j u : Nat} : (j, u) ∈ qIx ↔ u < qCnt j := by
  rw [q_ixMem]
  exact ⟨fun h => h.2, fun h => ⟨q_cntLt h, h⟩⟩
theorem q_ixNd : qIx.Nodup := by decide +kernel
def qWl (g : qGm) (M : qMem) : va_W := qIx.map (fun q => (g.2.2 q.1 q.2, qCell g M q.1 q.2))
def qWd (g : qGm) (M : qMem) (H : Heap) : Prop := va_P g.1 qcl (qWl g M) H
def qDj (g : qGm) : Prop := ∀ j u j' u', u < qCnt j → u' < qCnt j' → g.2.2 j u = g.2.2 j' u' → j = j' ∧ u = u'
def qFr (g : qGm) : Nat → Prop := fun q => ∃ j u, u < qCnt j ∧ q = g.2.2 j u
theorem q_at {j u : Nat} (h : u < qCnt j) (g : qGm) (M : qMem) : ∃ k : Nat, qIx[k]? = some (j, u) ∧ (qWl g M)[k]? = some (g.2.2 j u, qCell g M j u) := by
  obtain ⟨k, hk⟩ := List.getElem?_of_mem (q_ixMem'.mpr h)
  exact ⟨k, hk, by simp [qWl, hk]⟩
theorem q_wlAt {g : qGm} {M : qMem} {k : Nat} {q : Nat × va_E} (h : (qWl g M)[k]? = some q) : ∃ j u, u < qCnt j ∧ qIx[k]? = some (j, u) ∧ q = (g.2.2 j u, qCell g M j u) := by
  simp only [qWl, List.getElem?_map, Option.map_eq_some_iff] at h
  obtain ⟨⟨j, u⟩, h1, h2⟩ := h
  exact ⟨j, u, q_ixMem'.mp (List.mem_of_getElem? h1), h1, h2.symm⟩
theorem q_D {g : qGm} {A : Nat → Prop} (hd : qDj g) (hA : ∀ q, qFr g q → A q) (M : qMem) : va_D A (qWl g M) := by
  refine ⟨fun i j p q hi hj hpq => ?_, fun k q hk => ?_⟩
  · obtain ⟨j1, u1, h1, h2, rfl⟩ := q_wlAt hi
    obtain ⟨j2, u2, h3, h4, rfl⟩ := q_wlAt hj
    obtain ⟨rfl, rfl⟩ := hd j1 u1 j2 u2 h1 h3 hpq
    exact (List.getElem?_inj (by exact (List.getElem?_eq_some_iff.mp h2).1) q_ixNd).mp (h2.trans h4.symm)
  · obtain ⟨j1, u1, h1, h2, rfl⟩ := q_wlAt hk
    exact hA _ ⟨j1, u1, h1, rfl⟩
/-- one cell new, the others as they were -/
theorem q_wdSetA {g : qGm} {M M' : qMem} {j u k : Nat} {H1 : Heap} (hu : u < qCnt j) (hk : qIx[k]? = some (j, u)) (ho : ∀ j' u', ¬ (j' = j ∧ u' = u) → M' j' u' = M j' u') {e : va_E} (he : va_at g.1 qcl (g.2.2 j u, e) H1 → va_at g.1 qcl (g.2.2 j u, qCell g M' j u) H1) (h : va_P g.1 qcl ((qWl g M).set k (g.2.2 j u, e)) H1) : qWd g M' H1 := by
  intro k' q hq
  obtain ⟨j1, u1, h1, h2, rfl⟩ := q_wlAt hq
  have hlen : k < (qWl g M).length := by
    have := (List.getElem?_eq_some_iff.mp hk).1
    simpa [qWl] using this
  by_cases hkk : k' = k
  · subst hkk
    rw [hk] at h2
    cases h2
    have := h k' (g.2.2 j u, e) (by rw [List.getElem?_set_self hlen])
    exact he this
  · have hne : ¬ (j1 = j ∧ u1 = u) := by
      rintro ⟨rfl, rfl⟩
      exact hkk ((List.getElem?_inj (by exact (List.getElem?_eq_some_iff.mp h2).1) q_ixNd).mp (h2.trans hk.symm))
    have h3 := h k' (g.2.2 j1 u1, qCell g M j1 u1) (by rw [List.getElem?_set_ne (Ne.symm hkk)]; simp [qWl, h2])
    rw [q_cellOff g M M' j1 u1 (ho j1 u1 hne)]
    exact h3
theorem q_wdSet {g : qGm} {M M' : qMem} {j u k : Nat} {H1 : Heap} (hu : u < qCnt j) (hk : qIx[k]? = some (j, u)) (ho : ∀ j' u', ¬ (j' = j ∧ u' = u) → M' j' u' = M j' u') {e : va_E} (he : qCell g M' j u = e) (h : va_P g.1 qcl ((qWl g M).set k (g.2.2 j u, e)) H1) : qWd g M' H1 := q_wdSetA hu hk ho (fun h => by rw [he]; exact h) h
/-! the locals: the first value listed of a place holds -/
def qLg : List (Nat × Value) → Nat → Option Value
  | [], _ => none
  | q :: r, k => match Nat.beq q.1 k with
    | true => some q.2
    | false => qLg r k
def qLh (la : Array Slot) (nL : Nat) (ls : List (Nat × Value)) : Prop := la.size = nL ∧ lv_wf la ∧ ∀ k v, qLg ls k = some v → la[k]? = some (.val v)
def qLc (nL : Nat) (ls : List (Nat × Value)) : List (Nat × Value) := (List.range nL).filterMap (fun k => (qLg ls k).map (fun w => (k, w)))
theorem q_lcMem {nL : Nat} {ls : List (Nat × Value)} {k : Nat} {v : Value} : (k, v) ∈ qLc nL ls ↔ k < nL ∧ qLg ls k = some v := by
  simp only [qLc, List.mem_filterMap, List.mem_range, Option.map_eq_some_iff, Prod.mk.injEq]
  constructor
  · rintro ⟨a, h1, w, h2, rfl, rfl⟩
    exact ⟨h1, h2⟩
  · rintro ⟨h1, h2⟩
    exact ⟨k, h1, v, h2, rfl, rfl⟩
theorem qLh.has {la : Array Slot} {nL : Nat} {ls : List (Nat × Value)} (h : qLh la nL ls) : lv_has la nL (qLc nL ls) := by
  refine ⟨h.1, h.2.1, fun q hq => ?_⟩
  obtain ⟨k, v⟩ := q
  exact h.2.2 k v (q_lcMem.mp hq).2
theorem qLg_cons {k i : Nat} {v w : Value} {ls : List (Nat × Value)} (h : qLg ((i, v) :: ls) k = some w) : (k = i ∧ w = v) ∨ (k ≠ i ∧ qLg ls k = some w) := by
  unfold qLg at h
  cases hb : Nat.beq i k with
  | true =>
    simp only [hb] at h
    exact Or.inl ⟨(Nat.eq_of_beq_eq_true hb).symm, (Option.some.inj h).symm⟩
  | false =>
    simp only [hb] at h
    exact Or.inr ⟨fun e => by rw [e] at hb; simp at hb, h⟩
/-- no long ahead of place i -/
def qL1 (ls : List (Nat × Value)) (i : Nat) : Bool := match qLg ls (i - 1) with
  | some (.long _) => false
  | some (.double _) => false
  | _ => true
theorem qLh.put1 {la0 la : Array Slot} {nL i : Nat} {v : Value} {ls : List (Nat × Value)} (h0 : qLh la0 nL ls) (hc : qL1 ls i = true) (h : lv_has la nL ((i, v) :: (qLc nL ls).filter (fun q => !(q.1 == i) && !(q.1 + 1 == i && q.2.category == 2)))) : qLh la nL ((i, v) :: ls) := by
  refine ⟨h.1, h.2.1, fun k w hk => ?_⟩
  rcases qLg_cons hk with ⟨rfl, rfl⟩ | ⟨hne, hg⟩
  · exact h.2.2 (k, w) List.mem_cons_self
  · have hw : k + 1 = i → w.category = 1 := by
      intro e
      subst e
      unfold qL1 at hc
      rw [Nat.add_sub_cancel, hg] at hc
      cases w <;> first | rfl | cases hc
    by_cases hkn : k < nL
    · refine h.2.2 (k, w) (List.mem_cons_of_mem _ (List.mem_filter.mpr ⟨q_lcMem.mpr ⟨hkn, hg⟩, ?_⟩))
      simp only [Bool.and_eq_true, Bool.not_eq_true', beq_eq_false_iff_ne, ne_eq, Bool.and_eq_false_iff]
      refine ⟨hne, ?_⟩
      by_cases e : k + 1 = i
      · right; rw [hw e]; decide
      · left; exact e
    · have h9 := lv_lt (h0.2.2 k w hg)
      rw [h0.1] at h9
      exact absurd h9 hkn
end
section
/-! the judgement: the machine at a place of a method, the world holding the memory M -/
abbrev qCt : Type := Program × Env × Room × State × MethodId × Array Value × List Frame × Method × Code × (State → Prop) × (Nat → Prop) × Nat × Nat × Nat
abbrev qNL (X : qCt) : Nat := X.2.2.2.2.2.2.2.2.2.2.2.1
def qV (l : Launch) (g : qGm) (X : qCt) (M : qMem) (pc : Nat) (ls : List (Nat × Value)) (st : List Value) : Prop := match X with
  | (p, e, R, s, m, args, below, meth, c, Q, A, nL, nc, ns) => ∀ (H : Heap) (locs : List Loc) (la : Array Slot), qRg M → qWd g M H → va_S A s.heap H locs → qLh la nL ls → W p l e R s m args below meth c H locs nc ns Q (F0 m pc la st)
def qTy (g : qGm) : List (ClassId × FieldType) := [(g.2.1.1, .int), (g.2.1.2.1, .long), (g.2.1.2.2.1, .boolean), (g.2.1.2.2.2, .object RX2)]
def qNest : Cond := .methodLinkNest RX7 47 yX11_isWithin RX11
def qKd (g : qGm) (U : State) : Prop := va_K g.1 qcl (qTy g) U ∧ va_Nw qNest U
def qCx (l : Launch) (g : qGm) (X : qCt) (b : ByteArray) (own : String) (d : Nat) : Prop := match X with
  | (p, e, R, s, m, args, below, meth, c, Q, A, nL, nc, ns) => p.tables.exec = Jvm.exec ∧ c.code = b ∧ c.maxLocals = nL ∧ s.vm.findClass own = some m.cls ∧ (∀ w ∈ qtb, w.before args s = true) ∧ (d ≤ R.frames ∧ 32 * d ≤ R.locals) ∧ qKd g s ∧ qDj g ∧ (∀ q, qFr g q → A q) ∧ meth.locks = false ∧ nc ≤ R.cells ∧ ns ≤ R.slots
def qRm (d : Nat) : Room := { frames := d, cells := 0, slots := 0, locals := 32 * d }
def qQQ (g : qGm) (P : Option Int → qMem → Prop) : Array Value → State → Outcome → State → Prop := fun _ st oc t =>
  (∃ (r : Option Int) (M : qMem), oc = .returned (r.map qI) ∧ (∀ z, r = some z → qIn z) ∧ P r M ∧ qRg M ∧ qWd g M t.heap) ∧ va_F (qFr g) st t
def qWs (y : MethodName) (b : ByteArray) (mL : Nat) (rt : Option FieldType) : List Cond := .code y b mL rt :: qtb
def qPc (g : qGm) (M : qMem) (av : List Value) : Array Value → State → Prop := va_Pc av (fun U => qRg M ∧ qWd g M U.heap ∧ qKd g U ∧ qDj g)
/-- a method's contract: called so, at the memory M, it ends with P -/
def qOk (l : Launch) (g : qGm) (d : Nat) (y : MethodName) (b : ByteArray) (mL : Nat) (rt : Option FieldType) (av : List Value) (M : qMem) (P : Option Int → qMem → Prop) : Prop :=
  Met l y (qWs y b mL rt) (qRm d) (qPc g M av) (qQQ g P) 0 0 (qFr g)
def qCm (l : Launch) (g : qGm) (X : qCt) (b : ByteArray) (own : String) (d : Nat) (rt : Option FieldType) (P : Option Int → qMem → Prop) : Prop := qCx l g X b own d ∧ match X with
  | (p, e, R, s, m, args, below, meth, c, Q, A, nL, nc, ns) => Q = MQ below (qQQ g P) args s 0 0 (qFr g) ∧ meth.sig.returnType = rt ∧ A = qFr g ∧ nc = 0 ∧ ns = 0
theorem q_blind (g : qGm) (M : qMem) (av : List Value) : FrameBlind (qPc g M av) := fun a U gg mk q => by
  obtain ⟨q0, q1, q2, ⟨q3, q4⟩, q5⟩ := q
  exact ⟨q0, q1, q2, ⟨va_K.moved (u := U) (U := U.calling gg mk a) (Vm.Alike.refl U.vm) q3, va_Nw.same rfl rfl q4⟩, q5⟩
theorem qKd.warm {g : qGm} {s U : State} (hW : s.WarmedH U.vm) (h : qKd g s) : qKd g U := ⟨va_K.moved hW.alike h.1, va_Nw.warmM hW h.2⟩
theorem q_ok {l : Launch} {g : qGm} {d : Nat} {y : MethodName} {b : ByteArray} {mL : Nat} {rt : Option FieldType} {av : List Value} {M : qMem} {P : Option Int → qMem → Prop} (hy : plainName y.cls = true) (hav : (lg_sl av).length ≤ mL)
    (body : ∀ X, qCm l g X b y.cls d rt P → qNL X = mL → qV l g X M 0 (lv_args 0 av) []) : qOk l g d y b mL rt av M P := by
  refine Met.ofW (cc := b) (maxL := mL) (ret := rt) hy rfl ?_
  intro p e s m args below meth c s₁ B hml hv
  obtain ⟨rfl, hR, hW, hK, hDj⟩ := hv
  have hts := atoms_spec (ws := qWs y b mL rt) B.pre
  have hown : s.vm.findClass y.cls = some m.cls := findClass_of_methodNamed B.named
  have hl := lv_entry av (n := mL) hav
  rw [lg_entry_eq]
  generalize (lg_sl av ++ List.replicate (mL - (lg_sl av).length) Slot.unset).toArray = la at hl ⊢
  have key := body (p, e, (headSpec (qWs y b mL rt) (qRm d)).room, s, m, av.toArray, below, meth, c, MQ below (qQQ g P) av.toArray s 0 0 (qFr g), qFr g, mL, 0, 0) ⟨⟨B.exec, B.bytes, hml, hown, fun w hw => hts w (List.mem_cons_of_mem _ hw), ⟨Nat.le_refl _, Nat.le_refl _⟩, hK, hDj, fun _ h => h, B.notSynchronized, Nat.zero_le _, Nat.zero_le _⟩, rfl, B.returns, rfl, rfl, rfl⟩ rfl
  refine key s.heap [] la hR hW va_S.rf ⟨hl.1, hl.2.1, fun k v hk => ?_⟩
  have : ∀ (ls : List (Nat × Value)) (k : Nat) (v : Value), qLg ls k = some v → (k, v) ∈ ls := by
    intro ls
    induction ls with
    | nil => intro k v h; cases h
    | cons q r ih =>
      intro k v h
      rcases qLg_cons (i := q.1) (v := q.2) h with ⟨rfl, rfl⟩ | ⟨-, h⟩
      · exact List.mem_cons_self
      · exact List.mem_cons_of_mem _ (ih k v h)
  exact hl.2.2 (k, v) (this _ _ _ hk)
section QROWS
variable {l : Launch} {g : qGm} {X : qCt} {M : qMem} {b : ByteArray} {own : String} {d pc : Nat} {ls : List (Nat × Value)} {st : List Value}
/-- other words for the locals -/
def qLs (ls : List (Nat × Value)) : List (Nat × Value) → Prop
  | [] => True
  | q :: r => qLg ls q.1 = some q.2 ∧ qLs ls r
theorem q_ls {ls' : List (Nat × Value)} (h : qLs ls ls') (k : qV l g X M pc ls' st) : qV l g X M pc ls st := by
  obtain ⟨p, e, R, s, m, args, below, meth, c, Q, A, nL, nc, ns⟩ := X
  intro H locs la hR hW hS hL
  refine k H locs la hR hW hS ⟨hL.1, hL.2.1, fun i v hi => hL.2.2 i v ?_⟩
  clear k hL hS hW hR
  induction ls' with
  | nil => cases hi
  | cons q r ih =>
    rcases qLg_cons (i := q.1) (v := q.2) hi with ⟨rfl, rfl⟩ | ⟨-, h2⟩
    · exact h.1
    · exact ih h.2 h2
theorem q_iconst (C : qCx l g X b own d) {n : Int} (hd : decode b pc = .ok (.iconst n, 1)) (k : qV l g X M (pc + 1) ls (qI n :: st)) : qV l g X M pc ls st := by
  obtain ⟨p, e, R, s, m, args, below, meth, c, Q, A, nL, nc, ns⟩ := X
  intro H locs la hR hW hS hL
  exact lv_iconst C.1 C.2.1 hd rfl (k H locs la hR hW hS hL)
theorem q_bipush (C : qCx l g X b own d) {n : Int} (hd : decode b pc = .ok (.bipush n, 2)) (hn : (Int8.ofInt n).toInt32 = Int32.ofInt n) (k : qV l g X M (pc + 2) ls (qI n :: st)) : qV l g X M pc ls st := by
  obtain ⟨p, e, R, s, m, args, below, meth, c, Q, A, nL, nc, ns⟩ := X
  intro H locs la hR hW hS hL
  exact lv_bipush C.1 C.2.1 hd hn (k H locs la hR hW hS hL)
theorem q_sipush (C : qCx l g X b own d) {n : Int} (hd : decode b pc = .ok (.sipush n, 3)) (hn : (Int16.ofInt n).toInt32 = Int32.ofInt n) (k : qV l g X M (pc + 3) ls (qI n :: st)) : qV l g X M pc ls st := by
  obtain ⟨p, e, R, s, m, args, below, meth, c, Q, A, nL, nc, ns⟩ := X
  intro H locs la hR hW hS hL
  exact lv_sipush C.1 C.2.1 hd hn (k H locs la hR hW hS hL)
theorem q_ldc (C : qCx l g X b own d) {i : Nat} {z : Int} (hw : Cond.constant own i (Int32.ofInt z) ∈ qtb) (hd : decode b pc = .ok (.ldc i, 2)) (k : qV l g X M (pc + 2) ls (qI z :: st)) : qV l g X M pc ls st := by
  obtain ⟨p, e, R, s, m, args, below, meth, c, Q, A, nL, nc, ns⟩ := X
  intro H locs la hR hW hS hL
  exact lv_ldc C.1 C.2.1 C.2.2.2.1 (C.2.2.2.2.1 _ hw) hd (k H locs la hR hW hS hL)
theorem q_ldcw (C : qCx l g X b own d) {i : Nat} {z : Int} (hw : Cond.constant own i (Int32.ofInt z) ∈ qtb) (hd : decode b pc = .ok (.ldc_w i, 3)) (k : qV l g X M (pc + 3) ls (qI z :: st)) : qV l g X M pc ls st := by
  obtain ⟨p, e, R, s, m, args, below, meth, c, Q, A, nL, nc, ns⟩ := X
  intro H locs la hR hW hS hL
  exact lv_ldcw C.1 C.2.1 C.2.2.2.1 (C.2.2.2.2.1 _ hw) hd (k H locs la hR hW hS hL)
theorem q_ldc2 (C : qCx l g X b own d) {i : Nat} {z : Int} (hw : Cond.constantLong own i (Int64.ofInt z) ∈ qtb) (hd : decode b pc = .ok (.ldc2_w i, 3)) (k : qV l g X M (pc + 3) ls (qJ z :: st)) : qV l g X M pc ls st := by
  obtain ⟨p, e, R, s, m, args, below, meth, c, Q, A, nL, nc, ns⟩ := X
  intro H locs la hR hW hS hL
  exact lv_ldc2 C.1 C.2.1 C.2.2.2.1 (C.2.2.2.2.1 _ hw) hd (k H locs la hR hW hS hL)
theorem q_iloadn (C : qCx l g X b own d) {i : Fin 4} {z : Int} (hd : decode b pc = .ok (.iload_n i, 1)) (hl : qLg ls i = some (qI z)) (k : qV l g X M (pc + 1) ls (qI z :: st)) : qV l g X M pc ls st := by
  obtain ⟨p, e, R, s, m, args, below, meth, c, Q, A, nL, nc, ns⟩ := X
  intro H locs la hR hW hS hL
  exact lv_iload_n C.1 C.2.1 hd rfl (hL.2.2 _ _ hl) (k H locs la hR hW hS hL)
theorem q_iload (C : qCx l g X b own d) {i : Nat} {z : Int} (hd : decode b pc = .ok (.iload i, 2)) (hl : qLg ls i = some (qI z)) (k : qV l g X M (pc + 2) ls (qI z :: st)) : qV l g X M pc ls st := by
  obtain ⟨p, e, R, s, m, args, below, meth, c, Q, A, nL, nc, ns⟩ := X
  intro H locs la hR hW hS hL
  exact lv_iload C.1 C.2.1 hd (hL.2.2 _ _ hl) (k H locs la hR hW hS hL)
theorem q_aloadn (C : qCx l g X b own d) {i : Fin 4} {a : Nat} (hd : decode b pc = .ok (.aload_n i, 1)) (hl : qLg ls i = some (.ref a)) (k : qV l g X M (pc + 1) ls (.ref a :: st)) : qV l g X M pc ls st := by
  obtain ⟨p, e, R, s, m, args, below, meth, c, Q, A, nL, nc, ns⟩ := X
  intro H locs la hR hW hS hL
  exact lv_aload_n C.1 C.2.1 hd rfl (hL.2.2 _ _ hl) (k H locs la hR hW hS hL)
theorem q_lloadn (C : qCx l g X b own d) {i : Fin 4} {z : Int} (hd : decode b pc = .ok (.lload_n i, 1)) (hl : qLg ls i = some (qJ z)) (k : qV l g X M (pc + 1) ls (qJ z :: st)) : qV l g X M pc ls st := by
  obtain ⟨p, e, R, s, m, args, below, meth, c, Q, A, nL, nc, ns⟩ := X
  intro H locs la hR hW hS hL
  exact lv_lload_n C.1 C.2.1 hd rfl (hL.2.2 _ _ hl) (k H locs la hR hW hS hL)
theorem q_istoren (C : qCx l g X b own d) {i : Fin 4} {z : Int} (hd : decode b pc = .ok (.istore_n i, 1)) {nl : Nat} (hn : qNL X = nl) (hi : (i : Nat) < nl) (hc : qL1 ls i = true) (k : qV l g X M (pc + 1) ((i, qI z) :: ls) st) : qV l g X M pc ls (qI z :: st) := by
  subst hn
  obtain ⟨p, e, R, s, m, args, below, meth, c, Q, A, nL, nc, ns⟩ := X
  intro H locs la hR hW hS hL
  exact lv_istore_n C.1 C.2.1 hd rfl hL.has hi rfl (fun la' h => k H locs la' hR hW hS (hL.put1 hc h))
theorem q_istore (C : qCx l g X b own d) {i : Nat} {z : Int} (hd : decode b pc = .ok (.istore i, 2)) {nl : Nat} (hn : qNL X = nl) (hi : i < nl) (hc : qL1 ls i = true) (k : qV l g X M (pc + 2) ((i, qI z) :: ls) st) : qV l g X M pc ls (qI z :: st) := by
  subst hn
  obtain ⟨p, e, R, s, m, args, below, meth, c, Q, A, nL, nc, ns⟩ := X
  intro H locs la hR hW hS hL
  exact lv_istore C.1 C.2.1 hd hL.has hi rfl (fun la' h => k H locs la' hR hW hS (hL.put1 hc h))
theorem q_astoren (C : qCx l g X b own d) {i : Fin 4} {a : Nat} (hd : decode b pc = .ok (.astore_n i, 1)) {nl : Nat} (hn : qNL X = nl) (hi : (i : Nat) < nl) (hc : qL1 ls i = true) (k : qV l g X M (pc + 1) ((i, .ref a) :: ls) st) : qV l g X M pc ls (.ref a :: st) := by
  subst hn
  obtain ⟨p, e, R, s, m, args, below, meth, c, Q, A, nL, nc, ns⟩ := X
  intro H locs la hR hW hS hL
  exact lv_astore_n C.1 C.2.1 hd rfl hL.has hi rfl (fun la' h => k H locs la' hR hW hS (hL.put1 hc h))
theorem q_goto (C : qCx l g X b own d) {off : Int} {tgt : Nat} (hd : decode b pc = .ok (.goto off, 3)) (ht : (pc : Int) + off = (tgt : Int)) (k : qV l g X M tgt ls st) : qV l g X M pc ls st := by
  obtain ⟨p, e, R, s, m, args, below, meth, c, Q, A, nL, nc, ns⟩ := X
  intro H locs la hR hW hS hL
  exact lv_goto C.1 C.2.1 hd ht (k H locs la hR hW hS hL)
theorem q_dup (C : qCx l g X b own d) {v : Value} (hd : decode b pc = .ok (.dup, 1)) (hv : v.category = 1) (k : qV l g X M (pc + 1) ls (v :: v :: st)) : qV l g X M pc ls (v :: st) := by
  obtain ⟨p, e, R, s, m, args, below, meth, c, Q, A, nL, nc, ns⟩ := X
  intro H locs la hR hW hS hL
  exact lv_dup C.1 C.2.1 hd hv (k H locs la hR hW hS hL)
theorem q_pop (C : qCx l g X b own d) {v : Value} (hd : decode b pc = .ok (.pop, 1)) (hv : v.category = 1) (k : qV l g X M (pc + 1) ls st) : qV l g X M pc ls (v :: st) := by
  obtain ⟨p, e, R, s, m, args, below, meth, c, Q, A, nL, nc, ns⟩ := X
  intro H locs la hR hW hS hL
  exact lv_pop C.1 C.2.1 hd hv (k H locs la hR hW hS hL)
theorem q_dup2 (C : qCx l g X b own d) {v w : Value} (hd : decode b pc = .ok (.dup2, 1)) (hv : v.category = 1) (hw : w.category = 1) (k : qV l g X M (pc + 1) ls (v :: w :: v :: w :: st)) : qV l g X M pc ls (v :: w :: st) := by
  obtain ⟨p, e, R, s, m, args, below, meth, c, Q, A, nL, nc, ns⟩ := X
  intro H locs la hR hW hS hL
  exact lv_dup2_11 C.1 C.2.1 hd hv hw (k H locs la hR hW hS hL)
theorem q_iadd (C : qCx l g X b own d) {x y : Int} (hd : decode b pc = .ok (.iadd, 1)) (k : qV l g X M (pc + 1) ls (qI (x + y) :: st)) : qV l g X M pc ls (qI y :: qI x :: st) := by
  obtain ⟨p, e, R, s, m, args, below, meth, c, Q, A, nL, nc, ns⟩ := X
  intro H locs la hR hW hS hL
  exact lv_iadd C.1 C.2.1 hd (by rw [← Int32.ofInt_add]; exact k H locs la hR hW hS hL)
theorem q_isub (C : qCx l g X b own d) {x y : Int} (hd : decode b pc = .ok (.isub, 1)) (k : qV l g X M (pc + 1) ls (qI (x - y) :: st)) : qV l g X M pc ls (qI y :: qI x :: st) := by
  obtain ⟨p, e, R, s, m, args, below, meth, c, Q, A, nL, nc, ns⟩ := X
  intro H locs la hR hW hS hL
  exact lv_isub C.1 C.2.1 hd (by rw [← Int32.ofInt_sub]; exact k H locs la hR hW hS hL)
theorem q_imul (C : qCx l g X b own d) {x y : Int} (hd : decode b pc = .ok (.imul, 1)) (k : qV l g X M (pc + 1) ls (qI (x * y) :: st)) : qV l g X M pc ls (qI y :: qI x :: st) := by
  obtain ⟨p, e, R, s, m, args, below, meth, c, Q, A, nL, nc, ns⟩ := X
  intro H locs la hR hW hS hL
  exact lv_imul C.1 C.2.1 hd (by rw [← Int32.ofInt_mul]; exact k H locs la hR hW hS hL)
theorem q_iinc (C : qCx l g X b own d) {i : Nat} {n x : Int} (hd : decode b pc = .ok (.iinc i n, 3)) (hl : qLg ls i = some (qI x)) {nl : Nat} (hn : qNL X = nl) (hi : i < nl) (hc : qL1 ls i = true) (k : qV l g X M (pc + 3) ((i, qI (x + n)) :: ls) st) : qV l g X M pc ls st := by
  subst hn
  obtain ⟨p, e, R, s, m, args, below, meth, c, Q, A, nL, nc, ns⟩ := X
  intro H locs la hR hW hS hL
  obtain ⟨kk, hkk⟩ := List.getElem?_of_mem (q_lcMem.mpr ⟨hi, hl⟩)
  exact lv_iinc C.1 C.2.1 hd hL.has hkk (Int32.ofInt_add x n).symm hi rfl (fun la' h => k H locs la' hR hW hS (hL.put1 hc h))
/-- the value on top, in other words -/
theorem q_top {x y : Int} (h : x = y) (k : qV l g X M pc ls (qI y :: st)) : qV l g X M pc ls (qI x :: st) := by rw [h]; exact k
theorem q_mem {M' : qMem} (h : M = M') (k : qV l g X M' pc ls st) : qV l g X M pc ls st := by rw [h]; exact k
theorem q_rng (k : qRg M → qV l g X M pc ls st) : qV l g X M pc ls st := by
  obtain ⟨p, e, R, s, m, args, below, meth, c, Q, A, nL, nc, ns⟩ := X
  intro H locs la hR hW hS hL
  exact k hR H locs la hR hW hS hL
theorem q_iret {P : Option Int → qMem → Prop} (C : qCm l g X b own d (some .int) P) {z : Int} (hd : decode b pc = .ok (.ireturn, 1)) (hz : qIn z) (h : P (some z) M) : qV l g X M pc ls [qI z] := by
  obtain ⟨p, e, R, s, m, args, below, meth, c, Q, A, nL, nc, ns⟩ := X
  obtain ⟨C, hQ, hr, hA, h0c, h0s⟩ := C
  subst hQ; subst hA; subst h0c; subst h0s
  intro H locs la hR hW hS hL
  exact W.iret C.1 C.2.1 hr (fun t ht _ => ⟨⟨some z, M, rfl, fun z' hz' => by cases hz'; exact hz, h, hR, by rw [ht]; exact hW⟩, hS.F ht⟩) hS.2.2 hd C.2.2.2.2.2.2.2.2.2.1
theorem q_zret {P : Option Int → qMem → Prop} (C : qCm l g X b own d (some .boolean) P) {z : Int} (hd : decode b pc = .ok (.ireturn, 1)) (hz : z = 0 ∨ z = 1) (h : P (some z) M) : qV l g X M pc ls [qI z] := by
  obtain ⟨p, e, R, s, m, args, below, meth, c, Q, A, nL, nc, ns⟩ := X
  obtain ⟨C, hQ, hr, hA, h0c, h0s⟩ := C
  subst hQ; subst hA; subst h0c; subst h0s
  intro H locs la hR hW hS hL
  exact W.zret C.1 C.2.1 hr (by rcases hz with rfl | rfl <;> decide) (fun t ht _ => ⟨⟨some z, M, rfl, fun z' hz' => by cases hz'; omega, h, hR, by rw [ht]; exact hW⟩, hS.F ht⟩) hS.2.2 hd C.2.2.2.2.2.2.2.2.2.1
theorem q_vret {P : Option Int → qMem → Prop} (C : qCm l g X b own d none P) (hd : decode b pc = .ok (.return_, 1)) (h : P none M) : qV l g X M pc ls [] := by
  obtain ⟨p, e, R, s, m, args, below, meth, c, Q, A, nL, nc, ns⟩ := X
  obtain ⟨C, hQ, hr, hA, h0c, h0s⟩ := C
  subst hQ; subst hA; subst h0c; subst h0s
  intro H locs la hR hW hS hL
  exact W.vret C.1 C.2.1 hr (fun t ht _ => ⟨⟨none, M, rfl, (by intro z' hz'; cases hz'), h, hR, by rw [ht]; exact hW⟩, hS.F ht⟩) hS.2.2 hd C.2.2.2.2.2.2.2.2.2.1
end QROWS
end
section
section QROWS2
variable {l : Launch} {g : qGm} {X : qCt} {M : qMem} {b : ByteArray} {own : String} {d pc : Nat} {ls : List (Nat × Value)} {st : List Value}
theorem q_in0 : qIn 0 := by omega
theorem q_icmp_eq (C : qCx l g X b own d) {x y : Int} {off : Int} (tgt : Nat) (hd : decode b pc = .ok (.if_icmp .eq off, 3)) (ht : (pc : Int) + off = (tgt : Int)) (hx : qIn x) (hy : qIn y)
    (kt : x = y → qV l g X M tgt ls st) (kf : ¬ (x = y) → qV l g X M (pc + 3) ls st) : qV l g X M pc ls (qI y :: qI x :: st) := by
  obtain ⟨p, e, R, s, m, args, below, meth, c, Q, A, nL, nc, ns⟩ := X
  intro H locs la hR hW hS hL
  exact lv_icmp_eq C.1 C.2.1 hd ht (fun h => kt (by first | exact (q_inj hx hy).mp h | exact fun e => h ((q_inj hx hy).mpr e)) H locs la hR hW hS hL) (fun h => kf (by first | exact fun e => h ((q_inj hx hy).mpr e) | exact fun e => e ((q_inj hx hy).mp h)) H locs la hR hW hS hL)
theorem q_if_eq (C : qCx l g X b own d) {x : Int} {off : Int} (tgt : Nat) (hd : decode b pc = .ok (.ifCond .eq off, 3)) (ht : (pc : Int) + off = (tgt : Int)) (hx : qIn x)
    (kt : x = 0 → qV l g X M tgt ls st) (kf : ¬ (x = 0) → qV l g X M (pc + 3) ls st) : qV l g X M pc ls (qI x :: st) := by
  obtain ⟨p, e, R, s, m, args, below, meth, c, Q, A, nL, nc, ns⟩ := X
  intro H locs la hR hW hS hL
  exact lv_if_eq C.1 C.2.1 hd ht (fun h => kt (by first | exact (q_inj hx q_in0).mp h | exact fun e => h ((q_inj hx q_in0).mpr e)) H locs la hR hW hS hL) (fun h => kf (by first | exact fun e => h ((q_inj hx q_in0).mpr e) | exact fun e => e ((q_inj hx q_in0).mp h)) H locs la hR hW hS hL)
theorem q_icmp_ne (C : qCx l g X b own d) {x y : Int} {off : Int} (tgt : Nat) (hd : decode b pc = .ok (.if_icmp .ne off, 3)) (ht : (pc : Int) + off = (tgt : Int)) (hx : qIn x) (hy : qIn y)
    (kt : x ≠ y → qV l g X M tgt ls st) (kf : ¬ (x ≠ y) → qV l g X M (pc + 3) ls st) : qV l g X M pc ls (qI y :: qI x :: st) := by
  obtain ⟨p, e, R, s, m, args, below, meth, c, Q, A, nL, nc, ns⟩ := X
  intro H locs la hR hW hS hL
  exact lv_icmp_ne C.1 C.2.1 hd ht (fun h => kt (by first | exact (q_inj hx hy).mp h | exact fun e => h ((q_inj hx hy).mpr e)) H locs la hR hW hS hL) (fun h => kf (by first | exact fun e => h ((q_inj hx hy).mpr e) | exact fun e => e ((q_inj hx hy).mp h)) H locs la hR hW hS hL)
theorem q_if_ne (C : qCx l g X b own d) {x : Int} {off : Int} (tgt : Nat) (hd : decode b pc = .ok (.ifCond .ne off, 3)) (ht : (pc : Int) + off = (tgt : Int)) (hx : qIn x)
    (kt : x ≠ 0 → qV l g X M tgt ls st) (kf : ¬ (x ≠ 0) → qV l g X M (pc + 3) ls st) : qV l g X M pc ls (qI x :: st) := by
  obtain ⟨p, e, R, s, m, args, below, meth, c, Q, A, nL, nc, ns⟩ := X
  intro H locs la hR hW hS hL
  exact lv_if_ne C.1 C.2.1 hd ht (fun h => kt (by first | exact (q_inj hx q_in0).mp h | exact fun e => h ((q_inj hx q_in0).mpr e)) H locs la hR hW hS hL) (fun h => kf (by first | exact fun e => h ((q_inj hx q_in0).mpr e) | exact fun e => e ((q_inj hx q_in0).mp h)) H locs la hR hW hS hL)
theorem q_icmp_lt (C : qCx l g X b own d) {x y : Int} {off : Int} (tgt : Nat) (hd : decode b pc = .ok (.if_icmp .lt off, 3)) (ht : (pc : Int) + off = (tgt : Int)) (hx : qIn x) (hy : qIn y)
    (kt : x < y → qV l g X M tgt ls st) (kf : ¬ (x < y) → qV l g X M (pc + 3) ls st) : qV l g X M pc ls (qI y :: qI x :: st) := by
  obtain ⟨p, e, R, s, m, args, below, meth, c, Q, A, nL, nc, ns⟩ := X
  intro H locs la hR hW hS hL
  exact lv_icmp_lt C.1 C.2.1 hd ht (fun h => kt (by first | exact (q_lt hx hy).mp h | exact fun e => h ((q_lt hx hy).mpr e)) H locs la hR hW hS hL) (fun h => kf (by first | exact fun e => h ((q_lt hx hy).mpr e) | exact fun e => h (fun e2 => e ((q_lt hx hy).mp e2))) H locs la hR hW hS hL)
theorem q_if_lt (C : qCx l g X b own d) {x : Int} {off : Int} (tgt : Nat) (hd : decode b pc = .ok (.ifCond .lt off, 3)) (ht : (pc : Int) + off = (tgt : Int)) (hx : qIn x)
    (kt : x < 0 → qV l g X M tgt ls st) (kf : ¬ (x < 0) → qV l g X M (pc + 3) ls st) : qV l g X M pc ls (qI x :: st) := by
  obtain ⟨p, e, R, s, m, args, below, meth, c, Q, A, nL, nc, ns⟩ := X
  intro H locs la hR hW hS hL
  exact lv_if_lt C.1 C.2.1 hd ht (fun h => kt (by first | exact (q_lt hx q_in0).mp h | exact fun e => h ((q_lt hx q_in0).mpr e)) H locs la hR hW hS hL) (fun h => kf (by first | exact fun e => h ((q_lt hx q_in0).mpr e) | exact fun e => h (fun e2 => e ((q_lt hx q_in0).mp e2))) H locs la hR hW hS hL)
theorem q_icmp_ge (C : qCx l g X b own d) {x y : Int} {off : Int} (tgt : Nat) (hd : decode b pc = .ok (.if_icmp .ge off, 3)) (ht : (pc : Int) + off = (tgt : Int)) (hx : qIn x) (hy : qIn y)
    (kt : y ≤ x → qV l g X M tgt ls st) (kf : ¬ (y ≤ x) → qV l g X M (pc + 3) ls st) : qV l g X M pc ls (qI y :: qI x :: st) := by
  obtain ⟨p, e, R, s, m, args, below, meth, c, Q, A, nL, nc, ns⟩ := X
  intro H locs la hR hW hS hL
  exact lv_icmp_ge C.1 C.2.1 hd ht (fun h => kt (by first | exact (q_le hy hx).mp h | exact fun e => h ((q_le hy hx).mpr e)) H locs la hR hW hS hL) (fun h => kf (by first | exact fun e => h ((q_le hy hx).mpr e) | exact fun e => h (fun e2 => e ((q_le hy hx).mp e2))) H locs la hR hW hS hL)
theorem q_if_ge (C : qCx l g X b own d) {x : Int} {off : Int} (tgt : Nat) (hd : decode b pc = .ok (.ifCond .ge off, 3)) (ht : (pc : Int) + off = (tgt : Int)) (hx : qIn x)
    (kt : 0 ≤ x → qV l g X M tgt ls st) (kf : ¬ (0 ≤ x) → qV l g X M (pc + 3) ls st) : qV l g X M pc ls (qI x :: st) := by
  obtain ⟨p, e, R, s, m, args, below, meth, c, Q, A, nL, nc, ns⟩ := X
  intro H locs la hR hW hS hL
  exact lv_if_ge C.1 C.2.1 hd ht (fun h => kt (by first | exact (q_le q_in0 hx).mp h | exact fun e => h ((q_le q_in0 hx).mpr e)) H locs la hR hW hS hL) (fun h => kf (by first | exact fun e => h ((q_le q_in0 hx).mpr e) | exact fun e => h (fun e2 => e ((q_le q_in0 hx).mp e2))) H locs la hR hW hS hL)
theorem q_icmp_gt (C : qCx l g X b own d) {x y : Int} {off : Int} (tgt : Nat) (hd : decode b pc = .ok (.if_icmp .gt off, 3)) (ht : (pc : Int) + off = (tgt : Int)) (hx : qIn x) (hy : qIn y)
    (kt : y < x → qV l g X M tgt ls st) (kf : ¬ (y < x) → qV l g X M (pc + 3) ls st) : qV l g X M pc ls (qI y :: qI x :: st) := by
  obtain ⟨p, e, R, s, m, args, below, meth, c, Q, A, nL, nc, ns⟩ := X
  intro H locs la hR hW hS hL
  exact lv_icmp_gt C.1 C.2.1 hd ht (fun h => kt (by first | exact (q_lt hy hx).mp h | exact fun e => h ((q_lt hy hx).mpr e)) H locs la hR hW hS hL) (fun h => kf (by first | exact fun e => h ((q_lt hy hx).mpr e) | exact fun e => h (fun e2 => e ((q_lt hy hx).mp e2))) H locs la hR hW hS hL)
theorem q_if_gt (C : qCx l g X b own d) {x : Int} {off : Int} (tgt : Nat) (hd : decode b pc = .ok (.ifCond .gt off, 3)) (ht : (pc : Int) + off = (tgt : Int)) (hx : qIn x)
    (kt : 0 < x → qV l g X M tgt ls st) (kf : ¬ (0 < x) → qV l g X M (pc + 3) ls st) : qV l g X M pc ls (qI x :: st) := by
  obtain ⟨p, e, R, s, m, args, below, meth, c, Q, A, nL, nc, ns⟩ := X
  intro H locs la hR hW hS hL
  exact lv_if_gt C.1 C.2.1 hd ht (fun h => kt (by first | exact (q_lt q_in0 hx).mp h | exact fun e => h ((q_lt q_in0 hx).mpr e)) H locs la hR hW hS hL) (fun h => kf (by first | exact fun e => h ((q_lt q_in0 hx).mpr e) | exact fun e => h (fun e2 => e ((q_lt q_in0 hx).mp e2))) H locs la hR hW hS hL)
theorem q_icmp_le (C : qCx l g X b own d) {x y : Int} {off : Int} (tgt : Nat) (hd : decode b pc = .ok (.if_icmp .le off, 3)) (ht : (pc : Int) + off = (tgt : Int)) (hx : qIn x) (hy : qIn y)
    (kt : x ≤ y → qV l g X M tgt ls st) (kf : ¬ (x ≤ y) → qV l g X M (pc + 3) ls st) : qV l g X M pc ls (qI y :: qI x :: st) := by
  obtain ⟨p, e, R, s, m, args, below, meth, c, Q, A, nL, nc, ns⟩ := X
  intro H locs la hR hW hS hL
  exact lv_icmp_le C.1 C.2.1 hd ht (fun h => kt (by first | exact (q_le hx hy).mp h | exact fun e => h ((q_le hx hy).mpr e)) H locs la hR hW hS hL) (fun h => kf (by first | exact fun e => h ((q_le hx hy).mpr e) | exact fun e => h (fun e2 => e ((q_le hx hy).mp e2))) H locs la hR hW hS hL)
theorem q_if_le (C : qCx l g X b own d) {x : Int} {off : Int} (tgt : Nat) (hd : decode b pc = .ok (.ifCond .le off, 3)) (ht : (pc : Int) + off = (tgt : Int)) (hx : qIn x)
    (kt : x ≤ 0 → qV l g X M tgt ls st) (kf : ¬ (x ≤ 0) → qV l g X M (pc + 3) ls st) : qV l g X M pc ls (qI x :: st) := by
  obtain ⟨p, e, R, s, m, args, below, meth, c, Q, A, nL, nc, ns⟩ := X
  intro H locs la hR hW hS hL
  exact lv_if_le C.1 C.2.1 hd ht (fun h => kt (by first | exact (q_le hx q_in0).mp h | exact fun e => h ((q_le hx q_in0).mpr e)) H locs la hR hW hS hL) (fun h => kf (by first | exact fun e => h ((q_le hx q_in0).mpr e) | exact fun e => h (fun e2 => e ((q_le hx q_in0).mp e2))) H locs la hR hW hS hL)
/-- a truth value as a number -/
def qB (p : Prop) [Decidable p] : Int := if p then 1 else 0
theorem q_bT {p : Prop} [Decidable p] (h : p) : qB p = 1 := if_pos h
theorem q_bF {p : Prop} [Decidable p] (h : ¬ p) : qB p = 0 := if_neg h
theorem q_b01 (p : Prop) [Decidable p] : qB p = 0 ∨ qB p = 1 := by unfold qB; split <;> simp
theorem q_ifeqB (C : qCx l g X b own d) {p : Prop} [Decidable p] {off : Int} (tgt : Nat) (hd : decode b pc = .ok (.ifCond .eq off, 3)) (ht : (pc : Int) + off = (tgt : Int))
    (kt : ¬ p → qV l g X M tgt ls st) (kf : p → qV l g X M (pc + 3) ls st) : qV l g X M pc ls (qI (qB p) :: st) := by
  refine q_if_eq C tgt hd ht (by rcases q_b01 p with h | h <;> omega) (fun h => kt (fun hp => ?_)) (fun h => kf ?_)
  · rw [q_bT hp] at h; cases h
  · by_cases hp : p
    · exact hp
    · exact absurd (q_bF hp) h
theorem q_ifneB (C : qCx l g X b own d) {p : Prop} [Decidable p] {off : Int} (tgt : Nat) (hd : decode b pc = .ok (.ifCond .ne off, 3)) (ht : (pc : Int) + off = (tgt : Int))
    (kt : p → qV l g X M tgt ls st) (kf : ¬ p → qV l g X M (pc + 3) ls st) : qV l g X M pc ls (qI (qB p) :: st) := by
  refine q_if_ne C tgt hd ht (by rcases q_b01 p with h | h <;> omega) (fun h => kt ?_) (fun h => kf (fun hp => ?_))
  · by_cases hp : p
    · exact hp
    · exact absurd (q_bF hp) h
  · exact h (by rw [q_bT hp]; decide)
theorem q_idiv (C : qCx l g X b own d) {x y : Int} (hd : decode b pc = .ok (.idiv, 1)) (hx : 0 ≤ x) (hx2 : x ≤ 2147483647) (hy : 0 < y) (hy2 : y ≤ 2147483647) (k : qV l g X M (pc + 1) ls (qI (x / y) :: st)) : qV l g X M pc ls (qI y :: qI x :: st) := by
  obtain ⟨p, e, R, s, m, args, below, meth, c, Q, A, nL, nc, ns⟩ := X
  intro H locs la hR hW hS hL
  refine lv_idiv C.1 C.2.1 hd (fun h => ?_) ?_
  · have := (q_inj (a := y) (b := 0) ⟨by omega, by omega⟩ q_in0).mp h
    omega
  · have e1 : Int32.ofInt x / Int32.ofInt y = Int32.ofInt (x / y) := by
      rw [← Int.tdiv_eq_ediv_of_nonneg hx]
      exact (Int32.ofInt_tdiv (by show (-2147483648 : Int) ≤ x; omega) (by show x ≤ (2147483647 : Int); omega) (by show (-2147483648 : Int) ≤ y; omega) (by show y ≤ (2147483647 : Int); omega)).symm
    rw [e1]
    exact k H locs la hR hW hS hL
theorem q_irem (C : qCx l g X b own d) {x y : Int} (hd : decode b pc = .ok (.irem, 1)) (hx : 0 ≤ x) (hx2 : x ≤ 2147483647) (hy : 0 < y) (hy2 : y ≤ 2147483647) (k : qV l g X M (pc + 1) ls (qI (x % y) :: st)) : qV l g X M pc ls (qI y :: qI x :: st) := by
  obtain ⟨p, e, R, s, m, args, below, meth, c, Q, A, nL, nc, ns⟩ := X
  intro H locs la hR hW hS hL
  refine lv_irem C.1 C.2.1 hd (fun h => ?_) ?_
  · have := (q_inj (a := y) (b := 0) ⟨by omega, by omega⟩ q_in0).mp h
    omega
  · have e1 : Int32.ofInt x / Int32.ofInt y = Int32.ofInt (x / y) := by
      rw [← Int.tdiv_eq_ediv_of_nonneg hx]
      exact (Int32.ofInt_tdiv (by show (-2147483648 : Int) ≤ x; omega) (by show x ≤ (2147483647 : Int); omega) (by show (-2147483648 : Int) ≤ y; omega) (by show y ≤ (2147483647 : Int); omega)).symm
    rw [e1, ← Int32.ofInt_mul, ← Int32.ofInt_sub]
    have e2 : x - x / y * y = x % y := by
      have := Int.mul_ediv_add_emod x y
      rw [Int.mul_comm]; omega
    rw [e2]
    exact k H locs la hR hW hS hL
/-- the other operations, as they are -/
def qAnd (x y : Int) : Int := (Int32.ofInt x &&& Int32.ofInt y).toInt
def qOr (x y : Int) : Int := (Int32.ofInt x ||| Int32.ofInt y).toInt
def qXor (x y : Int) : Int := (Int32.ofInt x ^^^ Int32.ofInt y).toInt
def qShl (x y : Int) : Int := (Int32.ofInt x <<< (Int32.ofInt y &&& 31)).toInt
def qShr (x y : Int) : Int := (Int32.ofInt x >>> (Int32.ofInt y &&& 31)).toInt
def qUshr (x y : Int) : Int := ((Int32.ofInt x).toUInt32 >>> ((Int32.ofInt y).toUInt32 &&& Int32.toUInt32 31)).toInt32.toInt
theorem q_andIn (x y : Int) : qIn (qAnd x y) := q_tin _
theorem q_orIn (x y : Int) : qIn (qOr x y) := q_tin _
theorem q_xorIn (x y : Int) : qIn (qXor x y) := q_tin _
theorem q_shlIn (x y : Int) : qIn (qShl x y) := q_tin _
theorem q_shrIn (x y : Int) : qIn (qShr x y) := q_tin _
theorem q_ushrIn (x y : Int) : qIn (qUshr x y) := q_tin _
theorem q_iand (C : qCx l g X b own d) {x y : Int} (hd : decode b pc = .ok (.iand, 1)) (k : qV l g X M (pc + 1) ls (qI (qAnd x y) :: st)) : qV l g X M pc ls (qI y :: qI x :: st) := by
  obtain ⟨p, e, R, s, m, args, below, meth, c, Q, A, nL, nc, ns⟩ := X
  intro H locs la hR hW hS hL
  refine lv_iand C.1 C.2.1 hd ?_
  have := k H locs la hR hW hS hL
  rw [qI, qAnd, Int32.ofInt_toInt] at this
  exact this
theorem q_ior (C : qCx l g X b own d) {x y : Int} (hd : decode b pc = .ok (.ior, 1)) (k : qV l g X M (pc + 1) ls (qI (qOr x y) :: st)) : qV l g X M pc ls (qI y :: qI x :: st) := by
  obtain ⟨p, e, R, s, m, args, below, meth, c, Q, A, nL, nc, ns⟩ := X
  intro H locs la hR hW hS hL
  refine lv_ior C.1 C.2.1 hd ?_
  have := k H locs la hR hW hS hL
  rw [qI, qOr, Int32.ofInt_toInt] at this
  exact this
theorem q_ixor (C : qCx l g X b own d) {x y : Int} (hd : decode b pc = .ok (.ixor, 1)) (k : qV l g X M (pc + 1) ls (qI (qXor x y) :: st)) : qV l g X M pc ls (qI y :: qI x :: st) := by
  obtain ⟨p, e, R, s, m, args, below, meth, c, Q, A, nL, nc, ns⟩ := X
  intro H locs la hR hW hS hL
  refine lv_ixor C.1 C.2.1 hd ?_
  have := k H locs la hR hW hS hL
  rw [qI, qXor, Int32.ofInt_toInt] at this
  exact this
theorem q_ishl (C : qCx l g X b own d) {x y : Int} (hd : decode b pc = .ok (.ishl, 1)) (k : qV l g X M (pc + 1) ls (qI (qShl x y) :: st)) : qV l g X M pc ls (qI y :: qI x :: st) := by
  obtain ⟨p, e, R, s, m, args, below, meth, c, Q, A, nL, nc, ns⟩ := X
  intro H locs la hR hW hS hL
  refine lv_ishl C.1 C.2.1 hd ?_
  have := k H locs la hR hW hS hL
  rw [qI, qShl, Int32.ofInt_toInt] at this
  exact this
theorem q_ishr (C : qCx l g X b own d) {x y : Int} (hd : decode b pc = .ok (.ishr, 1)) (k : qV l g X M (pc + 1) ls (qI (qShr x y) :: st)) : qV l g X M pc ls (qI y :: qI x :: st) := by
  obtain ⟨p, e, R, s, m, args, below, meth, c, Q, A, nL, nc, ns⟩ := X
  intro H locs la hR hW hS hL
  refine lv_ishr C.1 C.2.1 hd ?_
  have := k H locs la hR hW hS hL
  rw [qI, qShr, Int32.ofInt_toInt] at this
  exact this
theorem q_iushr (C : qCx l g X b own d) {x y : Int} (hd : decode b pc = .ok (.iushr, 1)) (k : qV l g X M (pc + 1) ls (qI (qUshr x y) :: st)) : qV l g X M pc ls (qI y :: qI x :: st) := by
  obtain ⟨p, e, R, s, m, args, below, meth, c, Q, A, nL, nc, ns⟩ := X
  intro H locs la hR hW hS hL
  exact lv_iushr C.1 C.2.1 hd (by rw [qUshr, Int32.ofInt_toInt]) (k H locs la hR hW hS hL)
theorem q_tsIn (C : qCx l g X b own d) {dflt lo hi : Int} {offs : Array Int} {len : Nat} {x : Int} {off : Int} (tgt : Nat) (hd : decode b pc = .ok (.tableswitch dflt lo hi offs, len)) (hx : qIn x) (h1 : ¬ x < lo) (h2 : ¬ hi < x) (ho : offs[(x - lo).toNat]? = some off) (ht : (pc : Int) + off = (tgt : Int)) (k : qV l g X M tgt ls st) : qV l g X M pc ls (qI x :: st) := by
  obtain ⟨p, e, R, s, m, args, below, meth, c, Q, A, nL, nc, ns⟩ := X
  intro H locs la hR hW hS hL
  exact lv_tableIn C.1 C.2.1 hd (by rw [q_ti hx]; exact h1) (by rw [q_ti hx]; exact h2) (by rw [q_ti hx]; exact ho) ht (k H locs la hR hW hS hL)
theorem q_tsOut (C : qCx l g X b own d) {dflt lo hi : Int} {offs : Array Int} {len : Nat} {x : Int} (tgt : Nat) (hd : decode b pc = .ok (.tableswitch dflt lo hi offs, len)) (hx : qIn x) (h : x < lo ∨ hi < x) (ht : (pc : Int) + dflt = (tgt : Int)) (k : qV l g X M tgt ls st) : qV l g X M pc ls (qI x :: st) := by
  obtain ⟨p, e, R, s, m, args, below, meth, c, Q, A, nL, nc, ns⟩ := X
  intro H locs la hR hW hS hL
  exact lv_tableOut C.1 C.2.1 hd (by rw [q_ti hx]; exact h) ht (k H locs la hR hW hS hL)
theorem q_lsw (C : qCx l g X b own d) {dflt : Int} {ps : Array (Int × Int)} {len : Nat} {x : Int} {off : Int} (tgt : Nat) (hd : decode b pc = .ok (.lookupswitch dflt ps, len)) (hp : (ps.toList.zip (ps.toList.drop 1)).all (fun (a, next) => a.1 < next.1) = true) (hx : qIn x) (ho : Op.lookupswitch.offset ps.toList dflt x = off) (ht : (pc : Int) + off = (tgt : Int)) (k : qV l g X M tgt ls st) : qV l g X M pc ls (qI x :: st) := by
  obtain ⟨p, e, R, s, m, args, below, meth, c, Q, A, nL, nc, ns⟩ := X
  intro H locs la hR hW hS hL
  exact lv_lookup C.1 C.2.1 hd hp (by rw [q_ti hx]; exact ho) ht (k H locs la hR hW hS hL)
theorem q_i2l (C : qCx l g X b own d) {x : Int} (hx : qIn x) (hd : decode b pc = .ok (.i2l, 1)) (k : qV l g X M (pc + 1) ls (qJ x :: st)) : qV l g X M pc ls (qI x :: st) := by
  obtain ⟨p, e, R, s, m, args, below, meth, c, Q, A, nL, nc, ns⟩ := X
  intro H locs la hR hW hS hL
  exact lv_i2l C.1 C.2.1 hd (Int32.toInt64_ofInt (by show (-2147483648 : Int) ≤ x; omega) (by show x ≤ (2147483647 : Int); omega)) (k H locs la hR hW hS hL)
theorem q_l2i (C : qCx l g X b own d) {x : Int} (hd : decode b pc = .ok (.l2i, 1)) (k : qV l g X M (pc + 1) ls (qI x :: st)) : qV l g X M pc ls (qJ x :: st) := by
  obtain ⟨p, e, R, s, m, args, below, meth, c, Q, A, nL, nc, ns⟩ := X
  intro H locs la hR hW hS hL
  exact lv_l2i C.1 C.2.1 hd Int64.toInt32_ofInt (k H locs la hR hW hS hL)
theorem q_lmul (C : qCx l g X b own d) {x y : Int} (hd : decode b pc = .ok (.lmul, 1)) (k : qV l g X M (pc + 1) ls (qJ (x * y) :: st)) : qV l g X M pc ls (qJ y :: qJ x :: st) := by
  obtain ⟨p, e, R, s, m, args, below, meth, c, Q, A, nL, nc, ns⟩ := X
  intro H locs la hR hW hS hL
  exact lv_lmul C.1 C.2.1 hd (by rw [← Int64.ofInt_mul]; exact k H locs la hR hW hS hL)
theorem q_ladd (C : qCx l g X b own d) {x y : Int} (hd : decode b pc = .ok (.ladd, 1)) (k : qV l g X M (pc + 1) ls (qJ (x + y) :: st)) : qV l g X M pc ls (qJ y :: qJ x :: st) := by
  obtain ⟨p, e, R, s, m, args, below, meth, c, Q, A, nL, nc, ns⟩ := X
  intro H locs la hR hW hS hL
  exact lv_ladd C.1 C.2.1 hd (by rw [← Int64.ofInt_add]; exact k H locs la hR hW hS hL)
theorem q_lne {y : Int} (hy : 0 < y) (hy2 : y ≤ 9223372036854775807) : ¬ Int64.ofInt y = 0 := fun h => by
  have := congrArg Int64.toInt h
  rw [q_tj (by omega) hy2] at this
  have h0 : (0 : Int64).toInt = 0 := by decide
  omega
theorem q_ldq {x y : Int} (hx : 0 ≤ x) (hx2 : x ≤ 9223372036854775807) (hy : 0 < y) (hy2 : y ≤ 9223372036854775807) : Int64.ofInt x / Int64.ofInt y = Int64.ofInt (x / y) := by
  rw [← Int.tdiv_eq_ediv_of_nonneg hx]
  exact (Int64.ofInt_tdiv (by show (-9223372036854775808 : Int) ≤ x; omega) (by show x ≤ (9223372036854775807 : Int); omega) (by show (-9223372036854775808 : Int) ≤ y; omega) (by show y ≤ (9223372036854775807 : Int); omega)).symm
theorem q_ldiv (C : qCx l g X b own d) {x y : Int} (hd : decode b pc = .ok (.ldiv, 1)) (hx : 0 ≤ x) (hx2 : x ≤ 9223372036854775807) (hy : 0 < y) (hy2 : y ≤ 9223372036854775807) (k : qV l g X M (pc + 1) ls (qJ (x / y) :: st)) : qV l g X M pc ls (qJ y :: qJ x :: st) := by
  obtain ⟨p, e, R, s, m, args, below, meth, c, Q, A, nL, nc, ns⟩ := X
  intro H locs la hR hW hS hL
  refine lv_ldiv C.1 C.2.1 hd (q_lne hy hy2) ?_
  rw [q_ldq hx hx2 hy hy2]
  exact k H locs la hR hW hS hL
theorem q_lrem (C : qCx l g X b own d) {x y : Int} (hd : decode b pc = .ok (.lrem, 1)) (hx : 0 ≤ x) (hx2 : x ≤ 9223372036854775807) (hy : 0 < y) (hy2 : y ≤ 9223372036854775807) (k : qV l g X M (pc + 1) ls (qJ (x % y) :: st)) : qV l g X M pc ls (qJ y :: qJ x :: st) := by
  obtain ⟨p, e, R, s, m, args, below, meth, c, Q, A, nL, nc, ns⟩ := X
  intro H locs la hR hW hS hL
  refine lv_lrem C.1 C.2.1 hd (q_lne hy hy2) ?_
  rw [q_ldq hx hx2 hy hy2, ← Int64.ofInt_mul, ← Int64.ofInt_sub]
  have e2 : x - x / y * y = x % y := by
    have := Int.mul_ediv_add_emod x y
    rw [Int.mul_comm]; omega
  rw [e2]
  exact k H locs la hR hW hS hL
/-- a long local at place 3 (and 4): the listed places below 3 stay -/
theorem q_lstore3 (C : qCx l g X b own d) {z : Int} {ls' : List (Nat × Value)} (hd : decode b pc = .ok (.lstore_n 3, 1)) {nl : Nat} (hn : qNL X = nl) (hi : 4 < nl) (hl : qLs ls ls') (hb : ls'.all (fun q => q.1 != 3 && q.1 != 4 && q.2.category == 1) = true) (k : qV l g X M (pc + 1) ((3, qJ z) :: ls') st) : qV l g X M pc ls (qJ z :: st) := by
  subst hn
  obtain ⟨p, e, R, s, m, args, below, meth, c, Q, A, nL, nc, ns⟩ := X
  intro H locs la hR hW hS hL
  have hL2 : lv_has la nL ls' := by
    refine ⟨hL.1, hL.2.1, fun q hq => ?_⟩
    clear hb k
    induction ls' with
    | nil => cases hq
    | cons a r ih =>
      rcases List.mem_cons.mp hq with rfl | h
      · exact hL.2.2 _ _ hl.1
      · exact ih hl.2 h
  refine lv_lstore_n (lv' := (3, qJ z) :: ls') C.1 C.2.1 hd rfl hL2 hi ?_ (fun la' h => k H locs la' hR hW hS ⟨h.1, h.2.1, fun kk v hk => ?_⟩)
  · congr 1
    refine List.filter_eq_self.mpr (fun q hq => ?_)
    have := List.all_eq_true.mp hb q hq
    simp only [Bool.and_eq_true, bne_iff_ne, ne_eq, beq_iff_eq] at this
    obtain ⟨⟨h1, h2⟩, h3⟩ := this
    simp [h3]
    exact ⟨h1, h2⟩
  · have : ∀ (ls : List (Nat × Value)) (k : Nat) (v : Value), qLg ls k = some v → (k, v) ∈ ls := by
      intro ls
      induction ls with
      | nil => intro k v h; cases h
      | cons q r ih =>
        intro k v h
        rcases qLg_cons (i := q.1) (v := q.2) h with ⟨rfl, rfl⟩ | ⟨-, h⟩
        · exact List.mem_cons_self
        · exact List.mem_cons_of_mem _ (ih k v h)
    exact h.2.2 (kk, v) (this _ _ _ hk)
end QROWS2
end
section
section QROWS3
variable {l : Launch} {g : qGm} {X : qCt} {M : qMem} {b : ByteArray} {own : String} {d pc : Nat} {ls : List (Nat × Value)} {st : List Value}
theorem q_get (C : qCx l g X b own d) {j u ci kf idx N : Nat} {Cn : String} {T : u_T} {fs : List Value} {v : Value} (hu : u < qCnt j) (he : qCell g M j u = .inr (ci, fs)) (hc : qcl[ci]? = some (Cn, T, N)) (fx : ∀ w ∈ u_ws Cn T N, w ∈ qtb) (hk : kf < N) (hl : Cond.fieldLink own idx (T kf).1 (T kf).2.1 (T kf).2.2.1 ∈ qtb) (hv : fs[kf]? = some v) (hd : decode b pc = .ok (.getfield idx, 3)) (k : qV l g X M (pc + 3) ls (v :: st)) : qV l g X M pc ls (qR g j u :: st) := by
  obtain ⟨p, e, R, s, m, args, below, meth, c, Q, A, nL, nc, ns⟩ := X
  intro H locs la hR hW hS hL
  obtain ⟨q0, -, hq⟩ := q_at hu g M
  rw [he] at hq
  exact va_get C.1 C.2.1 C.2.2.2.2.1 fx C.2.2.2.1 C.2.2.2.2.2.2.1.1 hW q0 hq hc kf hk (C.2.2.2.2.1 _ hl) (fun _ h => h) hv hd (k H locs la hR hW hS hL)
theorem q_put (C : qCx l g X b own d) {j u ci kf idx N : Nat} {Cn : String} {T : u_T} {fs : List Value} {v : Value} {z : Int} {ty : FieldType} (hu : u < qCnt j) (he : qCell g M j u = .inr (ci, fs)) (hc : qcl[ci]? = some (Cn, T, N)) (fx : ∀ w ∈ u_ws Cn T N, w ∈ qtb) (ty0 : Nat → FieldType) (hty : ∀ k, k < N → parseFieldDescriptor (T k).2.2.1 = some (ty0 k)) (hnm : ∀ a, a < N → ∀ b, b < N → a ≠ b → (T a).2.1 ≠ (T b).2.1) (hk : kf < N) (hl : Cond.fieldLink own idx (T kf).1 (T kf).2.1 (T kf).2.2.1 ∈ qtb) (hfin : (T kf).2.2.2 = false) (hd0 : parseFieldDescriptor (T kf).2.2.1 = some ty) (hn : narrow ty v = v) (hfit : fits ty v = true) (hlen : kf < fs.length) (hz : qIn z) (hnew : qCell g (qUp M j u kf z) j u = .inr (ci, fs.set kf v)) (hd : decode b pc = .ok (.putfield idx, 3)) (k : qV l g X (qUp M j u kf z) (pc + 3) ls st) : qV l g X M pc ls (v :: qR g j u :: st) := by
  obtain ⟨p, e, R, s, m, args, below, meth, c, Q, A, nL, nc, ns⟩ := X
  intro H locs la hR hW hS hL
  obtain ⟨q0, hi, hq⟩ := q_at hu g M
  rw [he] at hq
  refine va_put C.1 C.2.1 C.2.2.2.2.1 fx ty0 hty hnm C.2.2.2.1 C.2.2.2.2.2.2.1.1 hW (q_D C.2.2.2.2.2.2.2.1 C.2.2.2.2.2.2.2.2.1 M) hS q0 hq hc kf hk (C.2.2.2.2.1 _ hl) (fun _ h => h) hfin hd0 hn hfit hlen hd (fun H1 locs1 hP hD hS1 => k H1 locs1 la (q_rgUp hR hz) ?_ hS1 hL)
  exact q_wdSet hu hi (fun j' u' h => q_upOff h) hnew hP
theorem q_idx {z : Int} {n : Nat} (h0 : 0 ≤ z) (h1 : z < n) (hn : n ≤ 2147483647) : (((Int32.ofInt z).toNatClampNeg : Nat) : Int) = z := by
  rw [q_cl h0 (by omega)]
  exact Int.toNat_of_nonneg h0
/-- an array's cell looks at its places alone -/
theorem q_rowEq {cA : ClassId} {n : Nat} {f f' : Nat → Int32} (h : ∀ q, q < n → f q = f' q) : vp_cell cA (n, .inl f) = vp_cell cA (n, .inl f') := by
  rw [vp_cell_i, vp_cell_i]
  unfold arrV
  congr 2
  funext j
  show Value.int (f j.val) = Value.int (f' j.val)
  rw [h j.val j.isLt]
theorem q_iald (C : qCx l g X b own d) {j u n : Nat} {i : Int} (hu : u < qCnt j) (he : qCell g M j u = qRow g M j u n) (hd : decode b pc = .ok (.iaload, 1)) (h0 : 0 ≤ i) (h1 : i < n) (hn : n ≤ 2147483647) (k : qIn (M j u i) → qV l g X M (pc + 1) ls (qI (M j u i) :: st)) : qV l g X M pc ls (qI i :: qR g j u :: st) := by
  obtain ⟨p, e, R, s, m, args, below, meth, c, Q, A, nL, nc, ns⟩ := X
  intro H locs la hR hW hS hL
  obtain ⟨q0, -, hq⟩ := q_at hu g M
  rw [he] at hq
  refine va_iald C.1 C.2.1 C.2.2.2.2.2.2.1.1 hW q0 0 hq rfl (q_vin h0 h1 hn) hd ?_
  have := k (hR j u i) H locs la hR hW hS hL
  show W p l e R s m args below meth c H locs nc ns Q (F0 m (pc + 1) la (qI (M j u (((Int32.ofInt i).toNatClampNeg : Nat) : Int)) :: st))
  rw [q_idx h0 h1 hn]
  exact this
theorem q_iast (C : qCx l g X b own d) {j u n : Nat} {i z : Int} (hu : u < qCnt j) (he : ∀ M, qCell g M j u = qRow g M j u n) (hd : decode b pc = .ok (.iastore, 1)) (h0 : 0 ≤ i) (h1 : i < n) (hn : n ≤ 2147483647) (hz : qIn z) (k : qV l g X (qUp M j u i z) (pc + 1) ls st) : qV l g X M pc ls (qI z :: qI i :: qR g j u :: st) := by
  obtain ⟨p, e, R, s, m, args, below, meth, c, Q, A, nL, nc, ns⟩ := X
  intro H locs la hR hW hS hL
  obtain ⟨q0, hi, hq⟩ := q_at hu g M
  rw [he] at hq
  refine va_iast C.1 C.2.1 C.2.2.2.2.2.2.1.1 hW (q_D C.2.2.2.2.2.2.2.1 C.2.2.2.2.2.2.2.2.1 M) hS q0 0 hq rfl (q_vin h0 h1 hn) hd (fun H1 locs1 hP hD hS1 => k H1 locs1 la (q_rgUp hR hz) ?_ hS1 hL)
  refine q_wdSet hu hi (fun j' u' h => q_upOff h) ?_ hP
  rw [he]
  unfold qRow
  congr 4
  funext q
  have e := q_idx h0 h1 hn
  rw [q_upOn]
  by_cases hq : q = (Int32.ofInt i).toNatClampNeg
  · subst hq
    simp [upd, e]
  · have : ¬ ((q : Int) = i) := fun h => hq (by omega)
    simp [upd, hq, this]
theorem q_zald (C : qCx l g X b own d) {i : Int} (hd : decode b pc = .ok (.baload, 1)) (h0 : 0 ≤ i) (h1 : i < 2) (k : qIn (M 75 0 i) → qV l g X M (pc + 1) ls (qI (M 75 0 i) :: st)) : qV l g X M pc ls (qI i :: qR g 75 0 :: st) := by
  obtain ⟨p, e, R, s, m, args, below, meth, c, Q, A, nL, nc, ns⟩ := X
  intro H locs la hR hW hS hL
  obtain ⟨q0, -, hq⟩ := q_at (j := 75) (u := 0) (by decide) g M
  refine va_zald C.1 C.2.1 C.2.2.2.2.2.2.1.1 hW q0 2 hq rfl (q_vin h0 h1 (by decide)) hd ?_
  have := k (hR 75 0 i) H locs la hR hW hS hL
  show W p l e R s m args below meth c H locs nc ns Q (F0 m (pc + 1) la (qI (M 75 0 (((Int32.ofInt i).toNatClampNeg : Nat) : Int)) :: st))
  rw [q_idx (n := 2) h0 h1 (by decide)]
  exact this
theorem q_zast (C : qCx l g X b own d) {i z : Int} (hd : decode b pc = .ok (.bastore, 1)) (h0 : 0 ≤ i) (h1 : i < 2) (hz : z = 0 ∨ z = 1) (k : qV l g X (qUp M 75 0 i z) (pc + 1) ls st) : qV l g X M pc ls (qI z :: qI i :: qR g 75 0 :: st) := by
  obtain ⟨p, e, R, s, m, args, below, meth, c, Q, A, nL, nc, ns⟩ := X
  intro H locs la hR hW hS hL
  obtain ⟨q0, hi, hq⟩ := q_at (j := 75) (u := 0) (by decide) g M
  refine va_zast C.1 C.2.1 C.2.2.2.2.2.2.1.1 hW (q_D C.2.2.2.2.2.2.2.1 C.2.2.2.2.2.2.2.2.1 M) hS q0 2 hq rfl (q_vin h0 h1 (by decide)) hd (fun H1 locs1 hP hD hS1 => k H1 locs1 la (q_rgUp hR (by omega)) ?_ hS1 hL)
  refine q_wdSet (by decide) hi (fun j' u' h => q_upOff h) ?_ hP
  have hn : vp_nar .boolean (Int32.ofInt z) = Int32.ofInt z := by rcases hz with rfl | rfl <;> decide
  rw [hn]
  show (Sum.inl (_, 2, Sum.inl _) : va_E) = _
  congr 4
  funext q
  have e := q_idx (n := 2) h0 h1 (by decide)
  rw [q_upOn]
  by_cases hq : q = (Int32.ofInt i).toNatClampNeg
  · subst hq
    simp [upd, e]
  · have : ¬ ((q : Int) = i) := fun h => hq (by omega)
    simp [upd, hq, this]
theorem q_lald (C : qCx l g X b own d) {i : Int} (hd : decode b pc = .ok (.laload, 1)) (h0 : 0 ≤ i) (h1 : i < 2) (k : qIn (M 77 0 i) → qV l g X M (pc + 1) ls (qJ (M 77 0 i) :: st)) : qV l g X M pc ls (qI i :: qR g 77 0 :: st) := by
  obtain ⟨p, e, R, s, m, args, below, meth, c, Q, A, nL, nc, ns⟩ := X
  intro H locs la hR hW hS hL
  obtain ⟨q0, -, hq⟩ := q_at (j := 77) (u := 0) (by decide) g M
  refine va_lald C.1 C.2.1 C.2.2.2.2.2.2.1.1 hW q0 1 hq rfl (q_vin h0 h1 (by decide)) hd ?_
  have := k (hR 77 0 i) H locs la hR hW hS hL
  show W p l e R s m args below meth c H locs nc ns Q (F0 m (pc + 1) la (qJ (M 77 0 (((Int32.ofInt i).toNatClampNeg : Nat) : Int)) :: st))
  rw [q_idx (n := 2) h0 h1 (by decide)]
  exact this
theorem q_last (C : qCx l g X b own d) {i z : Int} (hd : decode b pc = .ok (.lastore, 1)) (h0 : 0 ≤ i) (h1 : i < 2) (hz : qIn z) (k : qV l g X (qUp M 77 0 i z) (pc + 1) ls st) : qV l g X M pc ls (qJ z :: qI i :: qR g 77 0 :: st) := by
  obtain ⟨p, e, R, s, m, args, below, meth, c, Q, A, nL, nc, ns⟩ := X
  intro H locs la hR hW hS hL
  obtain ⟨q0, hi, hq⟩ := q_at (j := 77) (u := 0) (by decide) g M
  refine va_last C.1 C.2.1 C.2.2.2.2.2.2.1.1 hW (q_D C.2.2.2.2.2.2.2.1 C.2.2.2.2.2.2.2.2.1 M) hS q0 1 hq rfl (q_vin h0 h1 (by decide)) hd (fun H1 locs1 hP hD hS1 => k H1 locs1 la (q_rgUp hR hz) ?_ hS1 hL)
  refine q_wdSet (by decide) hi (fun j' u' h => q_upOff h) ?_ hP
  show (Sum.inl (_, 2, Sum.inr (Sum.inl _)) : va_E) = _
  congr 5
  funext q
  have e := q_idx (n := 2) h0 h1 (by decide)
  rw [q_upOn]
  by_cases hq : q = (Int32.ofInt i).toNatClampNeg
  · subst hq
    simp [vp_updL, e]
  · have : ¬ ((q : Int) = i) := fun h => hq (by omega)
    simp [vp_updL, hq, this]
theorem q_aald (C : qCx l g X b own d) {i : Int} (hd : decode b pc = .ok (.aaload, 1)) (h0 : 0 ≤ i) (h1 : i < 30) (k : qV l g X M (pc + 1) ls (qR g 10 (i.toNat + 1) :: st)) : qV l g X M pc ls (qI i :: qR g 27 0 :: st) := by
  obtain ⟨p, e, R, s, m, args, below, meth, c, Q, A, nL, nc, ns⟩ := X
  intro H locs la hR hW hS hL
  obtain ⟨q0, -, hq⟩ := q_at (j := 27) (u := 0) (by decide) g M
  refine va_aldq C.1 C.2.1 C.2.2.2.2.2.2.1.1 hW q0 3 hq rfl (q_vin h0 h1 (by decide)) hd ?_
  show W p l e R s m args below meth c H locs nc ns Q (F0 m (pc + 1) la (qR g 10 ((Int32.ofInt i).toNatClampNeg + 1) :: st))
  rw [q_cl h0 (by omega)]
  exact k H locs la hR hW hS hL
theorem q_alen (C : qCx l g X b own d) {j u n : Nat} (hu : u < qCnt j) (he : qCell g M j u = qRow g M j u n) (hd : decode b pc = .ok (.arraylength, 1)) (k : qV l g X M (pc + 1) ls (qI n :: st)) : qV l g X M pc ls (qR g j u :: st) := by
  obtain ⟨p, e, R, s, m, args, below, meth, c, Q, A, nL, nc, ns⟩ := X
  intro H locs la hR hW hS hL
  obtain ⟨q0, -, hq⟩ := q_at hu g M
  rw [he] at hq
  exact va_alen C.1 C.2.1 C.2.2.2.2.2.2.1.1 hW q0 0 hq (ty := .int) rfl (v := Int32.ofInt n) Int32.ofInt_eq_ofNat.symm hd (k H locs la hR hW hS hL)
/-- all of one int array into another of the same length -/
theorem q_copy (C : qCx l g X b own d) {j u j' u' n idx : Nat} (hu : u < qCnt j) (hu' : u' < qCnt j') (he : qCell g M j u = qRow g M j u n) (he' : ∀ M, qCell g M j' u' = qRow g M j' u' n) (hn : n ≤ 2147483647)
    (hml : Cond.methodLink own idx arraycopyName ∈ qtb) (hna : Cond.native arraycopyName ∈ qtb) (hst : Cond.static arraycopyName ∈ qtb) (hin : Cond.initialized "java/lang/System" ∈ qtb) (hdd : 1 ≤ d) (hrest : (st.map fun v => v.category).sum ≤ 2) (hd : decode b pc = .ok (.invokestatic idx, 3))
    (k : qV l g X (qSet M j' u' (M j u)) (pc + 3) ls st) : qV l g X M pc ls (qI n :: qI 0 :: qR g j' u' :: qI 0 :: qR g j u :: st) := by
  obtain ⟨p, e, R, s, m, args, below, meth, c, Q, A, nL, nc, ns⟩ := X
  intro H locs la hR hW hS hL
  obtain ⟨q0, hi0, hq0⟩ := q_at hu g M
  obtain ⟨q1, hi1, hq1⟩ := q_at hu' g M
  rw [he] at hq0
  rw [he'] at hq1
  have hnn : (Int32.ofInt (n : Int)).toNatClampNeg = n := by rw [q_cl (by omega) (by omega)]; exact Int.toNat_natCast n
  have hn0 : ¬ Int32.ofInt (n : Int) < 0 := fun h => by
    have := (q_lt (a := (n : Int)) (b := 0) ⟨by omega, by omega⟩ q_in0).mp h
    omega
  have h00 : (Int32.ofInt 0).toNatClampNeg = 0 := by decide
  refine va_copyi (ty := .int) C.1 C.2.1 (C.2.2.1.trans hL.1.symm) C.2.2.2.1 (C.2.2.2.2.1 _ hml) (C.2.2.2.2.1 _ hna) (C.2.2.2.2.1 _ hst) (C.2.2.2.2.1 _ hin) C.2.2.2.2.2.2.1.1 hW (q_D C.2.2.2.2.2.2.2.1 C.2.2.2.2.2.2.2.2.1 M) hS q0 q1 0 0 hq0 hq1 rfl rfl rfl (by decide) (by decide) hn0 (by rw [hnn, h00]; omega) (by rw [hnn, h00]; omega) (fun _ _ => rfl) (by have := C.2.2.2.2.2.1.1; omega) ?_ hd (fun H1 locs1 hP hD hS1 => k H1 locs1 la (q_rgSet hR (fun i => hR j u i)) ?_ hS1 hL)
  · have h9 := C.2.2.2.2.2.1.2
    have h8 : nativeFrameWords "java/lang/System" "arraycopy" 5 + 11 ≤ 30 := by decide
    omega
  · refine q_wdSetA hu' hi1 (fun j' u' h => q_setOff h) (fun h => ?_) hP
    rw [he', qRow, q_setOn]
    refine h.trans (congrArg some (q_rowEq (fun q hq => ?_)))
    rw [hnn, h00]
    simp [va_cpy, hq]
/-! calls -/
def qLk (own : String) (idx : Nat) (y : MethodName) (b' : ByteArray) (mL : Nat) (rt : Option FieldType) (n : Nat) : Prop := Cond.methodLink own idx y ∈ qtb ∧ Cond.initialized y.cls ∈ qtb ∧ Cond.code y b' mL rt ∈ qtb ∧ (y.cls ≠ "java/lang/invoke/MethodHandle" ∧ y.cls ≠ "java/lang/invoke/VarHandle") ∧ (parseMethodDescriptor y.desc).map (fun d => d.parameters.length) = some n ∧ mL ≤ 13
theorem q_good {y : MethodName} {b' : ByteArray} {mL : Nat} {rt : Option FieldType} (h : Cond.code y b' mL rt ∈ qtb) : GoodIn qtb (qWs y b' mL rt) := by
  intro w hw
  have : w ∈ qtb := by
    rcases List.mem_cons.mp hw with rfl | h2
    · exact h
    · exact h2
  exact ⟨this, good_of_word (List.mem_filter.mp this).2⟩
theorem q_callB {R : Room} {s : State} {args : Array Value} {idx mL n d' : Nat} {y : MethodName} {b' : ByteArray} {rt : Option FieldType} (ht : ∀ w ∈ qtb, w.before args s = true) (L : qLk own idx y b' mL rt n) (hd' : d' < d) (hR : d ≤ R.frames ∧ 32 * d ≤ R.locals) : CallB R s args own idx y b' mL rt (qWs y b' mL rt) (qRm d') 0 0 n := by
  obtain ⟨h1, h2, h3, h4, h5, h6⟩ := L
  refine ⟨rfl, rfl, ?_, ?_, pay_in ht (q_good h3), List.mem_cons_self, ht _ h3, ht _ h2, h4, fun sig h => ?_, ht _ h1⟩
  · show d' + 1 ≤ R.frames
    omega
  · show 8 + (mL + 11) + 32 * d' ≤ R.locals
    omega
  · rw [h] at h5
    exact (Option.some.inj h5).symm
theorem q_back {p : Program} {e : Env} {R : Room} {s : State} {m : MethodId} {args : Array Value} {below : List Frame} {meth : Method} {c : Code} {Q : State → Prop} {A : Nat → Prop} {nL nc ns : Nat} {H : Heap} {locs : List Loc} {la : Array Slot} {st0 rest : List Value} {P : Option Int → qMem → Prop} {a : Array Value}
    (hr : va_Run p l e R s m args below meth c H locs nc ns 0 0 (F0 m pc la st0) rest (qQQ g P a) (qFr g)) (hS : va_S A s.heap H locs) (hA : ∀ q, qFr g q → A q) (hL : qLh la nL ls)
    (k : ∀ (r : Option Int) (M' : qMem), (∀ z, r = some z → qIn z) → P r M' → qV l g (p, e, R, s, m, args, below, meth, c, Q, A, nL, nc, ns) M' (pc + 3) ls ((r.map qI).toList ++ rest)) : W p l e R s m args below meth c H locs nc ns Q (F0 m pc la st0) := by
  intro T hT X
  obtain ⟨v, st₀, t, T', L, h0, X', hL2, e1, e2, ⟨⟨r, M', hv, hz, hp, hRg, hW⟩, hsz, hk⟩, st⟩ := hr T hT X
  cases hv
  rw [h0] at hsz hk
  obtain ⟨t2, a1, b1⟩ := k r M' hz hp T'.heap (locs ++ L) la hRg (by rw [e1]; exact hW)
    ⟨Nat.le_trans hS.1 (by rw [e1]; exact hsz), fun q h1 h2 => by rw [e1, hk q (Nat.lt_of_lt_of_le h1 hS.1) (fun z => h2 (hA q z))]; exact hS.2.1 q h1 h2, fun q hq => by
      rcases List.mem_append.mp hq with h | h
      · exact hS.2.2 q h
      · exact hA _ (hL2 q h)⟩ hL T' rfl X'
  exact ⟨t2, st t2 a1, b1⟩
theorem q_callV (C : qCx l g X b own d) {j u ci idx mL n d' N : Nat} {y : MethodName} {b' : ByteArray} {rt : Option FieldType} {T : u_T} {fs As rest : List Value} {P : Option Int → qMem → Prop} (L : qLk own idx y b' mL rt n) (hin : Cond.instanceMethod y ∈ qtb) (hse : Cond.selects y.cls y y ∈ qtb) (hn : As.length = n) (hd' : d' < d) (hu : u < qCnt j) (he : qCell g M j u = .inr (ci, fs)) (hc : qcl[ci]? = some (y.cls, T, N))
    (hok : qOk l g d' y b' mL rt (qR g j u :: As) M P) (hd : decode b pc = .ok (.invokevirtual idx, 3)) (hrest : (rest.map fun v => v.category).sum ≤ 8) (hst : st = As.reverse ++ qR g j u :: rest)
    (k : ∀ (r : Option Int) (M' : qMem), (∀ z, r = some z → qIn z) → P r M' → qV l g X M' (pc + 3) ls ((r.map qI).toList ++ rest)) : qV l g X M pc ls st := by
  subst hst
  obtain ⟨p, e, R, s, m, args, below, meth, c, Q, A, nL, nc, ns⟩ := X
  intro H locs la hR hW hS hL
  obtain ⟨q0, hi, hq⟩ := q_at hu g M
  rw [he] at hq
  refine q_back (va_runV (As := As) (rest := rest) ⟨C.1, C.2.1, C.2.2.1, C.2.2.2.1, C.2.2.2.2.1⟩ hok ⟨q_callB C.2.2.2.2.1 L hd' C.2.2.2.2.2.1, C.2.2.2.2.1 _ hin, C.2.2.2.2.1 _ hse⟩ ⟨q_blind g M _, va_recv C.2.2.2.2.2.2.1.1 hW hc hq, fun U hU hWm => ⟨rfl, hR, by rw [hU]; exact hW, C.2.2.2.2.2.2.1.warm hWm, C.2.2.2.2.2.2.2.1⟩⟩ rfl hn hL.1 rfl (lv_room hrest) hd C.2.2.2.2.2.2.2.2.2.2) hS C.2.2.2.2.2.2.2.2.1 hL k
theorem q_callS (C : qCx l g X b own d) {idx mL n d' : Nat} {y : MethodName} {b' : ByteArray} {rt : Option FieldType} {As rest : List Value} {P : Option Int → qMem → Prop} (L : qLk own idx y b' mL rt n) (hsta : Cond.static y ∈ qtb) (hn : As.length = n) (hd' : d' < d)
    (hok : qOk l g d' y b' mL rt As M P) (hd : decode b pc = .ok (.invokestatic idx, 3)) (hrest : (rest.map fun v => v.category).sum ≤ 8) (hst : st = As.reverse ++ rest)
    (k : ∀ (r : Option Int) (M' : qMem), (∀ z, r = some z → qIn z) → P r M' → qV l g X M' (pc + 3) ls ((r.map qI).toList ++ rest)) : qV l g X M pc ls st := by
  subst hst
  obtain ⟨p, e, R, s, m, args, below, meth, c, Q, A, nL, nc, ns⟩ := X
  intro H locs la hR hW hS hL
  refine q_back (va_runS (As := As) (rest := rest) ⟨C.1, C.2.1, C.2.2.1, C.2.2.2.1, C.2.2.2.2.1⟩ hok ⟨q_callB C.2.2.2.2.1 L hd' C.2.2.2.2.2.1, C.2.2.2.2.1 _ hsta⟩ ⟨q_blind g M _, fun U hU hWm => ⟨rfl, hR, by rw [hU]; exact hW, C.2.2.2.2.2.2.1.warm hWm, C.2.2.2.2.2.2.2.1⟩⟩ rfl hn hL.1 rfl (lv_room hrest) hd C.2.2.2.2.2.2.2.2.2.2) hS C.2.2.2.2.2.2.2.2.1 hL k
/-- Season.setPrize's call of the private GloveSigns.isWithin -/
theorem q_callN (C : qCx l g X b RX7 d) {d' : Nat} {As rest : List Value} {P : Option Int → qMem → Prop} (hn : As.length = 2) (hd' : d' < d)
    (hok : qOk l g d' yX11_isWithin cX11_isWithin 2 (some .boolean) As M P) (hd : decode b pc = .ok (.invokestatic 47, 3)) (hrest : (rest.map fun v => v.category).sum ≤ 8) (hst : st = As.reverse ++ rest)
    (k : ∀ (r : Option Int) (M' : qMem), (∀ z, r = some z → qIn z) → P r M' → qV l g X M' (pc + 3) ls ((r.map qI).toList ++ rest)) : qV l g X M pc ls st := by
  subst hst
  obtain ⟨p, e, R, s, m, args, below, meth, c, Q, A, nL, nc, ns⟩ := X
  intro H locs la hR hW hS hL
  have hf := C.2.2.2.2.2.1
  refine q_back (va_runSN (As := As) (rest := rest) ⟨C.1, C.2.1, C.2.2.1, C.2.2.2.1, C.2.2.2.2.1⟩ hok ⟨va_cnB (ws' := qtb) 2 C.2.2.2.2.1 (q_good q_cd_yX11_isWithin) rfl rfl rfl C.2.2.2.2.2.2.1.2 (C.2.2.2.2.1 _ q_in_RX11) (by decide +kernel) ⟨by show d' + 1 ≤ R.frames; omega, by show 8 + (2 + 11) + 32 * d' ≤ R.locals; omega⟩, C.2.2.2.2.1 _ q_st_yX11_isWithin, trivial⟩ ⟨q_blind g M _, fun U hU hWm => ⟨rfl, hR, by rw [hU]; exact hW, C.2.2.2.2.2.2.1.warm hWm, C.2.2.2.2.2.2.2.1⟩⟩ rfl hn hL.1 rfl (lv_room hrest) hd C.2.2.2.2.2.2.2.2.2.2) hS C.2.2.2.2.2.2.2.2.1 hL k
/-- the plain end of a call: this answer, this memory -/
def qEv (z : Option Int) (M' : qMem) : Option Int → qMem → Prop := fun r N => r = z ∧ N = M'
theorem q_evI {z : Int} {M' : qMem} {rest : List Value} (k : qIn z → qV l g X M' pc ls (qI z :: rest)) : ∀ (r : Option Int) (N : qMem), (∀ z, r = some z → qIn z) → qEv (some z) M' r N → qV l g X N pc ls ((r.map qI).toList ++ rest) := by
  rintro r N hz ⟨rfl, rfl⟩
  exact k (hz z rfl)
theorem q_evV {M' : qMem} {rest : List Value} (k : qV l g X M' pc ls rest) : ∀ (r : Option Int) (N : qMem), (∀ z, r = some z → qIn z) → qEv none M' r N → qV l g X N pc ls ((r.map qI).toList ++ rest) := by
  rintro r N hz ⟨rfl, rfl⟩
  exact k
end QROWS3
end
section
section QLINKS
variable {l : Launch} {g : qGm} {X : qCt} {M : qMem} {b : ByteArray} {d pc : Nat} {ls : List (Nat × Value)} {st : List Value}
theorem gf_RX7_9 (C : qCx l g X b RX7 d) {u : Nat} (hu : u < 2) (hd : decode b pc = .ok (.getfield 9, 3)) (k : qIn (M 3 u 0) → qV l g X M (pc + 3) ls (qI (M 3 u 0) :: st)) : qV l g X M pc ls (qR g 3 u :: st) := q_rng (fun hR => q_get C (j := 3) (u := u) hu rfl rfl q_fX7 (kf := 0) (by decide) q_fl_RX7_9 rfl hd (k (hR 3 u 0)))
theorem pf_RX7_9 (C : qCx l g X b RX7 d) {u : Nat} (hu : u < 2) {z : Int} (hz : qIn z) (hd : decode b pc = .ok (.putfield 9, 3)) (k : qV l g X (qUp M 3 u 0 z) (pc + 3) ls st) : qV l g X M pc ls (qI z :: qR g 3 u :: st) := q_put C (j := 3) (u := u) (kf := 0) (z := z) (ty := .int) hu rfl rfl q_fX7 tyX7 tyX7_ok nmX7 (by decide) q_fl_RX7_9 rfl (by decide +kernel) rfl rfl (by simp) hz (by simp [qCell, qUp]) hd k
theorem gf_RX9_66 (C : qCx l g X b RX9 d) {u : Nat} (hu : u < 2) (hd : decode b pc = .ok (.getfield 66, 3)) (k : qIn (M 3 u 0) → qV l g X M (pc + 3) ls (qI (M 3 u 0) :: st)) : qV l g X M pc ls (qR g 3 u :: st) := q_rng (fun hR => q_get C (j := 3) (u := u) hu rfl rfl q_fX7 (kf := 0) (by decide) q_fl_RX9_66 rfl hd (k (hR 3 u 0)))
theorem pf_RX9_66 (C : qCx l g X b RX9 d) {u : Nat} (hu : u < 2) {z : Int} (hz : qIn z) (hd : decode b pc = .ok (.putfield 66, 3)) (k : qV l g X (qUp M 3 u 0 z) (pc + 3) ls st) : qV l g X M pc ls (qI z :: qR g 3 u :: st) := q_put C (j := 3) (u := u) (kf := 0) (z := z) (ty := .int) hu rfl rfl q_fX7 tyX7 tyX7_ok nmX7 (by decide) q_fl_RX9_66 rfl (by decide +kernel) rfl rfl (by simp) hz (by simp [qCell, qUp]) hd k
theorem gf_RX10_51 (C : qCx l g X b RX10 d) {u : Nat} (hu : u < 2) (hd : decode b pc = .ok (.getfield 51, 3)) (k : qIn (M 3 u 0) → qV l g X M (pc + 3) ls (qI (M 3 u 0) :: st)) : qV l g X M pc ls (qR g 3 u :: st) := q_rng (fun hR => q_get C (j := 3) (u := u) hu rfl rfl q_fX7 (kf := 0) (by decide) q_fl_RX10_51 rfl hd (k (hR 3 u 0)))
theorem pf_RX10_51 (C : qCx l g X b RX10 d) {u : Nat} (hu : u < 2) {z : Int} (hz : qIn z) (hd : decode b pc = .ok (.putfield 51, 3)) (k : qV l g X (qUp M 3 u 0 z) (pc + 3) ls st) : qV l g X M pc ls (qI z :: qR g 3 u :: st) := q_put C (j := 3) (u := u) (kf := 0) (z := z) (ty := .int) hu rfl rfl q_fX7 tyX7 tyX7_ok nmX7 (by decide) q_fl_RX10_51 rfl (by decide +kernel) rfl rfl (by simp) hz (by simp [qCell, qUp]) hd k
theorem gf_RX11_128 (C : qCx l g X b RX11 d) {u : Nat} (hu : u < 2) (hd : decode b pc = .ok (.getfield 128, 3)) (k : qIn (M 3 u 0) → qV l g X M (pc + 3) ls (qI (M 3 u 0) :: st)) : qV l g X M pc ls (qR g 3 u :: st) := q_rng (fun hR => q_get C (j := 3) (u := u) hu rfl rfl q_fX7 (kf := 0) (by decide) q_fl_RX11_128 rfl hd (k (hR 3 u 0)))
theorem pf_RX11_128 (C : qCx l g X b RX11 d) {u : Nat} (hu : u < 2) {z : Int} (hz : qIn z) (hd : decode b pc = .ok (.putfield 128, 3)) (k : qV l g X (qUp M 3 u 0 z) (pc + 3) ls st) : qV l g X M pc ls (qI z :: qR g 3 u :: st) := q_put C (j := 3) (u := u) (kf := 0) (z := z) (ty := .int) hu rfl rfl q_fX7 tyX7 tyX7_ok nmX7 (by decide) q_fl_RX11_128 rfl (by decide +kernel) rfl rfl (by simp) hz (by simp [qCell, qUp]) hd k
theorem gf_RX7_15 (C : qCx l g X b RX7 d) {u : Nat} (hu : u < 2) (hd : decode b pc = .ok (.getfield 15, 3)) (k : qIn (M 3 u 1) → qV l g X M (pc + 3) ls (qI (M 3 u 1) :: st)) : qV l g X M pc ls (qR g 3 u :: st) := q_rng (fun hR => q_get C (j := 3) (u := u) hu rfl rfl q_fX7 (kf := 1) (by decide) q_fl_RX7_15 rfl hd (k (hR 3 u 1)))
theorem pf_RX7_15 (C : qCx l g X b RX7 d) {u : Nat} (hu : u < 2) {z : Int} (hz : qIn z) (hd : decode b pc = .ok (.putfield 15, 3)) (k : qV l g X (qUp M 3 u 1 z) (pc + 3) ls st) : qV l g X M pc ls (qI z :: qR g 3 u :: st) := q_put C (j := 3) (u := u) (kf := 1) (z := z) (ty := .int) hu rfl rfl q_fX7 tyX7 tyX7_ok nmX7 (by decide) q_fl_RX7_15 rfl (by decide +kernel) rfl rfl (by simp) hz (by simp [qCell, qUp]) hd k
theorem gf_RX10_19 (C : qCx l g X b RX10 d) {u : Nat} (hu : u < 2) (hd : decode b pc = .ok (.getfield 19, 3)) (k : qIn (M 3 u 1) → qV l g X M (pc + 3) ls (qI (M 3 u 1) :: st)) : qV l g X M pc ls (qR g 3 u :: st) := q_rng (fun hR => q_get C (j := 3) (u := u) hu rfl rfl q_fX7 (kf := 1) (by decide) q_fl_RX10_19 rfl hd (k (hR 3 u 1)))
theorem pf_RX10_19 (C : qCx l g X b RX10 d) {u : Nat} (hu : u < 2) {z : Int} (hz : qIn z) (hd : decode b pc = .ok (.putfield 19, 3)) (k : qV l g X (qUp M 3 u 1 z) (pc + 3) ls st) : qV l g X M pc ls (qI z :: qR g 3 u :: st) := q_put C (j := 3) (u := u) (kf := 1) (z := z) (ty := .int) hu rfl rfl q_fX7 tyX7 tyX7_ok nmX7 (by decide) q_fl_RX10_19 rfl (by decide +kernel) rfl rfl (by simp) hz (by simp [qCell, qUp]) hd k
theorem gf_RX11_122 (C : qCx l g X b RX11 d) {u : Nat} (hu : u < 2) (hd : decode b pc = .ok (.getfield 122, 3)) (k : qIn (M 3 u 1) → qV l g X M (pc + 3) ls (qI (M 3 u 1) :: st)) : qV l g X M pc ls (qR g 3 u :: st) := q_rng (fun hR => q_get C (j := 3) (u := u) hu rfl rfl q_fX7 (kf := 1) (by decide) q_fl_RX11_122 rfl hd (k (hR 3 u 1)))
theorem pf_RX11_122 (C : qCx l g X b RX11 d) {u : Nat} (hu : u < 2) {z : Int} (hz : qIn z) (hd : decode b pc = .ok (.putfield 122, 3)) (k : qV l g X (qUp M 3 u 1 z) (pc + 3) ls st) : qV l g X M pc ls (qI z :: qR g 3 u :: st) := q_put C (j := 3) (u := u) (kf := 1) (z := z) (ty := .int) hu rfl rfl q_fX7 tyX7 tyX7_ok nmX7 (by decide) q_fl_RX11_122 rfl (by decide +kernel) rfl rfl (by simp) hz (by simp [qCell, qUp]) hd k
theorem gf_RX9_49 (C : qCx l g X b RX9 d) {u : Nat} (hu : u < 2) (hd : decode b pc = .ok (.getfield 49, 3)) (k : qIn (M 3 u 1) → qV l g X M (pc + 3) ls (qI (M 3 u 1) :: st)) : qV l g X M pc ls (qR g 3 u :: st) := q_rng (fun hR => q_get C (j := 3) (u := u) hu rfl rfl q_fX7 (kf := 1) (by decide) q_fl_RX9_49 rfl hd (k (hR 3 u 1)))
theorem pf_RX9_49 (C : qCx l g X b RX9 d) {u : Nat} (hu : u < 2) {z : Int} (hz : qIn z) (hd : decode b pc = .ok (.putfield 49, 3)) (k : qV l g X (qUp M 3 u 1 z) (pc + 3) ls st) : qV l g X M pc ls (qI z :: qR g 3 u :: st) := q_put C (j := 3) (u := u) (kf := 1) (z := z) (ty := .int) hu rfl rfl q_fX7 tyX7 tyX7_ok nmX7 (by decide) q_fl_RX9_49 rfl (by decide +kernel) rfl rfl (by simp) hz (by simp [qCell, qUp]) hd k
theorem gf_RX7_18 (C : qCx l g X b RX7 d) {u : Nat} (hu : u < 2) (hd : decode b pc = .ok (.getfield 18, 3)) (k : qIn (M 3 u 2) → qV l g X M (pc + 3) ls (qI (M 3 u 2) :: st)) : qV l g X M pc ls (qR g 3 u :: st) := q_rng (fun hR => q_get C (j := 3) (u := u) hu rfl rfl q_fX7 (kf := 2) (by decide) q_fl_RX7_18 rfl hd (k (hR 3 u 2)))
theorem pf_RX7_18 (C : qCx l g X b RX7 d) {u : Nat} (hu : u < 2) {z : Int} (hz : qIn z) (hd : decode b pc = .ok (.putfield 18, 3)) (k : qV l g X (qUp M 3 u 2 z) (pc + 3) ls st) : qV l g X M pc ls (qI z :: qR g 3 u :: st) := q_put C (j := 3) (u := u) (kf := 2) (z := z) (ty := .int) hu rfl rfl q_fX7 tyX7 tyX7_ok nmX7 (by decide) q_fl_RX7_18 rfl (by decide +kernel) rfl rfl (by simp) hz (by simp [qCell, qUp]) hd k
theorem gf_RX10_25 (C : qCx l g X b RX10 d) {u : Nat} (hu : u < 2) (hd : decode b pc = .ok (.getfield 25, 3)) (k : qIn (M 3 u 2) → qV l g X M (pc + 3) ls (qI (M 3 u 2) :: st)) : qV l g X M pc ls (qR g 3 u :: st) := q_rng (fun hR => q_get C (j := 3) (u := u) hu rfl rfl q_fX7 (kf := 2) (by decide) q_fl_RX10_25 rfl hd (k (hR 3 u 2)))
theorem pf_RX10_25 (C : qCx l g X b RX10 d) {u : Nat} (hu : u < 2) {z : Int} (hz : qIn z) (hd : decode b pc = .ok (.putfield 25, 3)) (k : qV l g X (qUp M 3 u 2 z) (pc + 3) ls st) : qV l g X M pc ls (qI z :: qR g 3 u :: st) := q_put C (j := 3) (u := u) (kf := 2) (z := z) (ty := .int) hu rfl rfl q_fX7 tyX7 tyX7_ok nmX7 (by decide) q_fl_RX10_25 rfl (by decide +kernel) rfl rfl (by simp) hz (by simp [qCell, qUp]) hd k
theorem gf_RX9_52 (C : qCx l g X b RX9 d) {u : Nat} (hu : u < 2) (hd : decode b pc = .ok (.getfield 52, 3)) (k : qIn (M 3 u 2) → qV l g X M (pc + 3) ls (qI (M 3 u 2) :: st)) : qV l g X M pc ls (qR g 3 u :: st) := q_rng (fun hR => q_get C (j := 3) (u := u) hu rfl rfl q_fX7 (kf := 2) (by decide) q_fl_RX9_52 rfl hd (k (hR 3 u 2)))
theorem pf_RX9_52 (C : qCx l g X b RX9 d) {u : Nat} (hu : u < 2) {z : Int} (hz : qIn z) (hd : decode b pc = .ok (.putfield 52, 3)) (k : qV l g X (qUp M 3 u 2 z) (pc + 3) ls st) : qV l g X M pc ls (qI z :: qR g 3 u :: st) := q_put C (j := 3) (u := u) (kf := 2) (z := z) (ty := .int) hu rfl rfl q_fX7 tyX7 tyX7_ok nmX7 (by decide) q_fl_RX9_52 rfl (by decide +kernel) rfl rfl (by simp) hz (by simp [qCell, qUp]) hd k
theorem gf_RX11_131 (C : qCx l g X b RX11 d) {u : Nat} (hu : u < 2) (hd : decode b pc = .ok (.getfield 131, 3)) (k : qIn (M 3 u 2) → qV l g X M (pc + 3) ls (qI (M 3 u 2) :: st)) : qV l g X M pc ls (qR g 3 u :: st) := q_rng (fun hR => q_get C (j := 3) (u := u) hu rfl rfl q_fX7 (kf := 2) (by decide) q_fl_RX11_131 rfl hd (k (hR 3 u 2)))
theorem pf_RX11_131 (C : qCx l g X b RX11 d) {u : Nat} (hu : u < 2) {z : Int} (hz : qIn z) (hd : decode b pc = .ok (.putfield 131, 3)) (k : qV l g X (qUp M 3 u 2 z) (pc + 3) ls st) : qV l g X M pc ls (qI z :: qR g 3 u :: st) := q_put C (j := 3) (u := u) (kf := 2) (z := z) (ty := .int) hu rfl rfl q_fX7 tyX7 tyX7_ok nmX7 (by decide) q_fl_RX11_131 rfl (by decide +kernel) rfl rfl (by simp) hz (by simp [qCell, qUp]) hd k
theorem gf_RX7_21 (C : qCx l g X b RX7 d) {u : Nat} (hu : u < 2) (hd : decode b pc = .ok (.getfield 21, 3)) (k : qV l g X M (pc + 3) ls (qR g 4 u :: st)) : qV l g X M pc ls (qR g 3 u :: st) := q_get C (j := 3) (u := u) hu rfl rfl q_fX7 (kf := 3) (by decide) q_fl_RX7_21 rfl hd k
theorem gf_RX10_38 (C : qCx l g X b RX10 d) {u : Nat} (hu : u < 2) (hd : decode b pc = .ok (.getfield 38, 3)) (k : qV l g X M (pc + 3) ls (qR g 4 u :: st)) : qV l g X M pc ls (qR g 3 u :: st) := q_get C (j := 3) (u := u) hu rfl rfl q_fX7 (kf := 3) (by decide) q_fl_RX10_38 rfl hd k
theorem gf_RX11_170 (C : qCx l g X b RX11 d) {u : Nat} (hu : u < 2) (hd : decode b pc = .ok (.getfield 170, 3)) (k : qV l g X M (pc + 3) ls (qR g 4 u :: st)) : qV l g X M pc ls (qR g 3 u :: st) := q_get C (j := 3) (u := u) hu rfl rfl q_fX7 (kf := 3) (by decide) q_fl_RX11_170 rfl hd k
theorem gf_RX7_25 (C : qCx l g X b RX7 d) {u : Nat} (hu : u < 2) (hd : decode b pc = .ok (.getfield 25, 3)) (k : qV l g X M (pc + 3) ls (qR g 5 u :: st)) : qV l g X M pc ls (qR g 3 u :: st) := q_get C (j := 3) (u := u) hu rfl rfl q_fX7 (kf := 4) (by decide) q_fl_RX7_25 rfl hd k
theorem gf_RX2_44 (C : qCx l g X b RX2 d) {u : Nat} (hu : u < 2) (hd : decode b pc = .ok (.getfield 44, 3)) (k : qV l g X M (pc + 3) ls (qR g 5 u :: st)) : qV l g X M pc ls (qR g 3 u :: st) := q_get C (j := 3) (u := u) hu rfl rfl q_fX7 (kf := 4) (by decide) q_fl_RX2_44 rfl hd k
theorem gf_RX7_28 (C : qCx l g X b RX7 d) {u : Nat} (hu : u < 2) (hd : decode b pc = .ok (.getfield 28, 3)) (k : qV l g X M (pc + 3) ls (qR g 6 u :: st)) : qV l g X M pc ls (qR g 3 u :: st) := q_get C (j := 3) (u := u) hu rfl rfl q_fX7 (kf := 5) (by decide) q_fl_RX7_28 rfl hd k
theorem gf_RX2_55 (C : qCx l g X b RX2 d) {u : Nat} (hu : u < 2) (hd : decode b pc = .ok (.getfield 55, 3)) (k : qV l g X M (pc + 3) ls (qR g 6 u :: st)) : qV l g X M pc ls (qR g 3 u :: st) := q_get C (j := 3) (u := u) hu rfl rfl q_fX7 (kf := 5) (by decide) q_fl_RX2_55 rfl hd k
theorem gf_RX7_31 (C : qCx l g X b RX7 d) {u : Nat} (hu : u < 2) (hd : decode b pc = .ok (.getfield 31, 3)) (k : qV l g X M (pc + 3) ls (qR g 7 u :: st)) : qV l g X M pc ls (qR g 3 u :: st) := q_get C (j := 3) (u := u) hu rfl rfl q_fX7 (kf := 6) (by decide) q_fl_RX7_31 rfl hd k
theorem gf_RX2_58 (C : qCx l g X b RX2 d) {u : Nat} (hu : u < 2) (hd : decode b pc = .ok (.getfield 58, 3)) (k : qV l g X M (pc + 3) ls (qR g 7 u :: st)) : qV l g X M pc ls (qR g 3 u :: st) := q_get C (j := 3) (u := u) hu rfl rfl q_fX7 (kf := 6) (by decide) q_fl_RX2_58 rfl hd k
theorem gf_RX7_34 (C : qCx l g X b RX7 d) {u : Nat} (hu : u < 2) (hd : decode b pc = .ok (.getfield 34, 3)) (k : qV l g X M (pc + 3) ls (qR g 8 u :: st)) : qV l g X M pc ls (qR g 3 u :: st) := q_get C (j := 3) (u := u) hu rfl rfl q_fX7 (kf := 7) (by decide) q_fl_RX7_34 rfl hd k
theorem gf_RX10_73 (C : qCx l g X b RX10 d) {u : Nat} (hu : u < 2) (hd : decode b pc = .ok (.getfield 73, 3)) (k : qV l g X M (pc + 3) ls (qR g 8 u :: st)) : qV l g X M pc ls (qR g 3 u :: st) := q_get C (j := 3) (u := u) hu rfl rfl q_fX7 (kf := 7) (by decide) q_fl_RX10_73 rfl hd k
theorem gf_RX11_192 (C : qCx l g X b RX11 d) {u : Nat} (hu : u < 2) (hd : decode b pc = .ok (.getfield 192, 3)) (k : qV l g X M (pc + 3) ls (qR g 8 u :: st)) : qV l g X M pc ls (qR g 3 u :: st) := q_get C (j := 3) (u := u) hu rfl rfl q_fX7 (kf := 7) (by decide) q_fl_RX11_192 rfl hd k
theorem gf_RX7_37 (C : qCx l g X b RX7 d) {u : Nat} (hu : u < 2) (hd : decode b pc = .ok (.getfield 37, 3)) (k : qV l g X M (pc + 3) ls (qR g 9 u :: st)) : qV l g X M pc ls (qR g 3 u :: st) := q_get C (j := 3) (u := u) hu rfl rfl q_fX7 (kf := 8) (by decide) q_fl_RX7_37 rfl hd k
theorem gf_RX4_11 (C : qCx l g X b RX4 d) {u : Nat} (hu : u < 33) (hd : decode b pc = .ok (.getfield 11, 3)) (k : qV l g X M (pc + 3) ls (qR g 18 u :: st)) : qV l g X M pc ls (qR g 17 u :: st) := q_get C (j := 17) (u := u) hu rfl rfl q_fX4 (kf := 0) (by decide) q_fl_RX4_11 rfl hd k
theorem gf_RX4_15 (C : qCx l g X b RX4 d) {u : Nat} (hu : u < 33) (hd : decode b pc = .ok (.getfield 15, 3)) (k : qIn (M 17 u 1) → qV l g X M (pc + 3) ls (qI (M 17 u 1) :: st)) : qV l g X M pc ls (qR g 17 u :: st) := q_rng (fun hR => q_get C (j := 17) (u := u) hu rfl rfl q_fX4 (kf := 1) (by decide) q_fl_RX4_15 rfl hd (k (hR 17 u 1)))
theorem pf_RX4_15 (C : qCx l g X b RX4 d) {u : Nat} (hu : u < 33) {z : Int} (hz : qIn z) (hd : decode b pc = .ok (.putfield 15, 3)) (k : qV l g X (qUp M 17 u 1 z) (pc + 3) ls st) : qV l g X M pc ls (qI z :: qR g 17 u :: st) := q_put C (j := 17) (u := u) (kf := 1) (z := z) (ty := .int) hu rfl rfl q_fX4 tyX4 tyX4_ok nmX4 (by decide) q_fl_RX4_15 rfl (by decide +kernel) rfl rfl (by simp) hz (by simp [qCell, qUp]) hd k
theorem gf_RX4_19 (C : qCx l g X b RX4 d) {u : Nat} (hu : u < 33) (hd : decode b pc = .ok (.getfield 19, 3)) (k : qIn (M 17 u 2) → qV l g X M (pc + 3) ls (qI (M 17 u 2) :: st)) : qV l g X M pc ls (qR g 17 u :: st) := q_rng (fun hR => q_get C (j := 17) (u := u) hu rfl rfl q_fX4 (kf := 2) (by decide) q_fl_RX4_19 rfl hd (k (hR 17 u 2)))
theorem pf_RX4_19 (C : qCx l g X b RX4 d) {u : Nat} (hu : u < 33) {z : Int} (hz : qIn z) (hd : decode b pc = .ok (.putfield 19, 3)) (k : qV l g X (qUp M 17 u 2 z) (pc + 3) ls st) : qV l g X M pc ls (qI z :: qR g 17 u :: st) := q_put C (j := 17) (u := u) (kf := 2) (z := z) (ty := .int) hu rfl rfl q_fX4 tyX4 tyX4_ok nmX4 (by decide) q_fl_RX4_19 rfl (by decide +kernel) rfl rfl (by simp) hz (by simp [qCell, qUp]) hd k
theorem gf_RX11_160 (C : qCx l g X b RX11 d) {u : Nat} (hu : u < 33) (hd : decode b pc = .ok (.getfield 160, 3)) (k : qIn (M 17 u 2) → qV l g X M (pc + 3) ls (qI (M 17 u 2) :: st)) : qV l g X M pc ls (qR g 17 u :: st) := q_rng (fun hR => q_get C (j := 17) (u := u) hu rfl rfl q_fX4 (kf := 2) (by decide) q_fl_RX11_160 rfl hd (k (hR 17 u 2)))
theorem pf_RX11_160 (C : qCx l g X b RX11 d) {u : Nat} (hu : u < 33) {z : Int} (hz : qIn z) (hd : decode b pc = .ok (.putfield 160, 3)) (k : qV l g X (qUp M 17 u 2 z) (pc + 3) ls st) : qV l g X M pc ls (qI z :: qR g 17 u :: st) := q_put C (j := 17) (u := u) (kf := 2) (z := z) (ty := .int) hu rfl rfl q_fX4 tyX4 tyX4_ok nmX4 (by decide) q_fl_RX11_160 rfl (by decide +kernel) rfl rfl (by simp) hz (by simp [qCell, qUp]) hd k
theorem gf_RX2_9 (C : qCx l g X b RX2 d) {u : Nat} (hu : u < 33) (hd : decode b pc = .ok (.getfield 9, 3)) (k : qIn (M 10 u 0) → qV l g X M (pc + 3) ls (qI (M 10 u 0) :: st)) : qV l g X M pc ls (qR g 10 u :: st) := q_rng (fun hR => q_get C (j := 10) (u := u) hu rfl rfl q_fX2 (kf := 0) (by decide) q_fl_RX2_9 rfl hd (k (hR 10 u 0)))
theorem pf_RX2_9 (C : qCx l g X b RX2 d) {u : Nat} (hu : u < 33) {z : Int} (hz : qIn z) (hd : decode b pc = .ok (.putfield 9, 3)) (k : qV l g X (qUp M 10 u 0 z) (pc + 3) ls st) : qV l g X M pc ls (qI z :: qR g 10 u :: st) := q_put C (j := 10) (u := u) (kf := 0) (z := z) (ty := .int) hu rfl rfl q_fX2 tyX2 tyX2_ok nmX2 (by decide) q_fl_RX2_9 rfl (by decide +kernel) rfl rfl (by simp) hz (by simp [qCell, qUp]) hd k
theorem gf_RX11_134 (C : qCx l g X b RX11 d) {u : Nat} (hu : u < 33) (hd : decode b pc = .ok (.getfield 134, 3)) (k : qIn (M 10 u 0) → qV l g X M (pc + 3) ls (qI (M 10 u 0) :: st)) : qV l g X M pc ls (qR g 10 u :: st) := q_rng (fun hR => q_get C (j := 10) (u := u) hu rfl rfl q_fX2 (kf := 0) (by decide) q_fl_RX11_134 rfl hd (k (hR 10 u 0)))
theorem pf_RX11_134 (C : qCx l g X b RX11 d) {u : Nat} (hu : u < 33) {z : Int} (hz : qIn z) (hd : decode b pc = .ok (.putfield 134, 3)) (k : qV l g X (qUp M 10 u 0 z) (pc + 3) ls st) : qV l g X M pc ls (qI z :: qR g 10 u :: st) := q_put C (j := 10) (u := u) (kf := 0) (z := z) (ty := .int) hu rfl rfl q_fX2 tyX2 tyX2_ok nmX2 (by decide) q_fl_RX11_134 rfl (by decide +kernel) rfl rfl (by simp) hz (by simp [qCell, qUp]) hd k
theorem gf_RX2_15 (C : qCx l g X b RX2 d) {u : Nat} (hu : u < 33) (hd : decode b pc = .ok (.getfield 15, 3)) (k : qIn (M 10 u 1) → qV l g X M (pc + 3) ls (qI (M 10 u 1) :: st)) : qV l g X M pc ls (qR g 10 u :: st) := q_rng (fun hR => q_get C (j := 10) (u := u) hu rfl rfl q_fX2 (kf := 1) (by decide) q_fl_RX2_15 rfl hd (k (hR 10 u 1)))
theorem pf_RX2_15 (C : qCx l g X b RX2 d) {u : Nat} (hu : u < 33) {z : Int} (hz : qIn z) (hd : decode b pc = .ok (.putfield 15, 3)) (k : qV l g X (qUp M 10 u 1 z) (pc + 3) ls st) : qV l g X M pc ls (qI z :: qR g 10 u :: st) := q_put C (j := 10) (u := u) (kf := 1) (z := z) (ty := .int) hu rfl rfl q_fX2 tyX2 tyX2_ok nmX2 (by decide) q_fl_RX2_15 rfl (by decide +kernel) rfl rfl (by simp) hz (by simp [qCell, qUp]) hd k
theorem gf_RX11_137 (C : qCx l g X b RX11 d) {u : Nat} (hu : u < 33) (hd : decode b pc = .ok (.getfield 137, 3)) (k : qIn (M 10 u 1) → qV l g X M (pc + 3) ls (qI (M 10 u 1) :: st)) : qV l g X M pc ls (qR g 10 u :: st) := q_rng (fun hR => q_get C (j := 10) (u := u) hu rfl rfl q_fX2 (kf := 1) (by decide) q_fl_RX11_137 rfl hd (k (hR 10 u 1)))
theorem pf_RX11_137 (C : qCx l g X b RX11 d) {u : Nat} (hu : u < 33) {z : Int} (hz : qIn z) (hd : decode b pc = .ok (.putfield 137, 3)) (k : qV l g X (qUp M 10 u 1 z) (pc + 3) ls st) : qV l g X M pc ls (qI z :: qR g 10 u :: st) := q_put C (j := 10) (u := u) (kf := 1) (z := z) (ty := .int) hu rfl rfl q_fX2 tyX2 tyX2_ok nmX2 (by decide) q_fl_RX11_137 rfl (by decide +kernel) rfl rfl (by simp) hz (by simp [qCell, qUp]) hd k
theorem gf_RX2_18 (C : qCx l g X b RX2 d) {u : Nat} (hu : u < 33) (hd : decode b pc = .ok (.getfield 18, 3)) (k : qV l g X M (pc + 3) ls (qR g 11 u :: st)) : qV l g X M pc ls (qR g 10 u :: st) := q_get C (j := 10) (u := u) hu rfl rfl q_fX2 (kf := 2) (by decide) q_fl_RX2_18 rfl hd k
theorem gf_RX10_34 (C : qCx l g X b RX10 d) {u : Nat} (hu : u < 33) (hd : decode b pc = .ok (.getfield 34, 3)) (k : qV l g X M (pc + 3) ls (qR g 11 u :: st)) : qV l g X M pc ls (qR g 10 u :: st) := q_get C (j := 10) (u := u) hu rfl rfl q_fX2 (kf := 2) (by decide) q_fl_RX10_34 rfl hd k
theorem gf_RX11_174 (C : qCx l g X b RX11 d) {u : Nat} (hu : u < 33) (hd : decode b pc = .ok (.getfield 174, 3)) (k : qV l g X M (pc + 3) ls (qR g 11 u :: st)) : qV l g X M pc ls (qR g 10 u :: st) := q_get C (j := 10) (u := u) hu rfl rfl q_fX2 (kf := 2) (by decide) q_fl_RX11_174 rfl hd k
theorem gf_RX2_22 (C : qCx l g X b RX2 d) {u : Nat} (hu : u < 33) (hd : decode b pc = .ok (.getfield 22, 3)) (k : qV l g X M (pc + 3) ls (qR g 12 u :: st)) : qV l g X M pc ls (qR g 10 u :: st) := q_get C (j := 10) (u := u) hu rfl rfl q_fX2 (kf := 3) (by decide) q_fl_RX2_22 rfl hd k
theorem gf_RX11_177 (C : qCx l g X b RX11 d) {u : Nat} (hu : u < 33) (hd : decode b pc = .ok (.getfield 177, 3)) (k : qV l g X M (pc + 3) ls (qR g 12 u :: st)) : qV l g X M pc ls (qR g 10 u :: st) := q_get C (j := 10) (u := u) hu rfl rfl q_fX2 (kf := 3) (by decide) q_fl_RX11_177 rfl hd k
theorem gf_RX10_85 (C : qCx l g X b RX10 d) {u : Nat} (hu : u < 33) (hd : decode b pc = .ok (.getfield 85, 3)) (k : qV l g X M (pc + 3) ls (qR g 12 u :: st)) : qV l g X M pc ls (qR g 10 u :: st) := q_get C (j := 10) (u := u) hu rfl rfl q_fX2 (kf := 3) (by decide) q_fl_RX10_85 rfl hd k
theorem gf_RX2_25 (C : qCx l g X b RX2 d) {u : Nat} (hu : u < 33) (hd : decode b pc = .ok (.getfield 25, 3)) (k : qV l g X M (pc + 3) ls (qR g 13 u :: st)) : qV l g X M pc ls (qR g 10 u :: st) := q_get C (j := 10) (u := u) hu rfl rfl q_fX2 (kf := 4) (by decide) q_fl_RX2_25 rfl hd k
theorem gf_RX11_180 (C : qCx l g X b RX11 d) {u : Nat} (hu : u < 33) (hd : decode b pc = .ok (.getfield 180, 3)) (k : qV l g X M (pc + 3) ls (qR g 13 u :: st)) : qV l g X M pc ls (qR g 10 u :: st) := q_get C (j := 10) (u := u) hu rfl rfl q_fX2 (kf := 4) (by decide) q_fl_RX11_180 rfl hd k
theorem gf_RX2_28 (C : qCx l g X b RX2 d) {u : Nat} (hu : u < 33) (hd : decode b pc = .ok (.getfield 28, 3)) (k : qV l g X M (pc + 3) ls (qR g 14 u :: st)) : qV l g X M pc ls (qR g 10 u :: st) := q_get C (j := 10) (u := u) hu rfl rfl q_fX2 (kf := 5) (by decide) q_fl_RX2_28 rfl hd k
theorem gf_RX0_22 (C : qCx l g X b RX0 d) {u : Nat} (hu : u < 33) (hd : decode b pc = .ok (.getfield 22, 3)) (k : qV l g X M (pc + 3) ls (qR g 14 u :: st)) : qV l g X M pc ls (qR g 10 u :: st) := q_get C (j := 10) (u := u) hu rfl rfl q_fX2 (kf := 5) (by decide) q_fl_RX0_22 rfl hd k
theorem gf_RX10_76 (C : qCx l g X b RX10 d) {u : Nat} (hu : u < 33) (hd : decode b pc = .ok (.getfield 76, 3)) (k : qV l g X M (pc + 3) ls (qR g 14 u :: st)) : qV l g X M pc ls (qR g 10 u :: st) := q_get C (j := 10) (u := u) hu rfl rfl q_fX2 (kf := 5) (by decide) q_fl_RX10_76 rfl hd k
theorem gf_RX11_189 (C : qCx l g X b RX11 d) {u : Nat} (hu : u < 33) (hd : decode b pc = .ok (.getfield 189, 3)) (k : qV l g X M (pc + 3) ls (qR g 14 u :: st)) : qV l g X M pc ls (qR g 10 u :: st) := q_get C (j := 10) (u := u) hu rfl rfl q_fX2 (kf := 5) (by decide) q_fl_RX11_189 rfl hd k
theorem gf_RX2_31 (C : qCx l g X b RX2 d) {u : Nat} (hu : u < 33) (hd : decode b pc = .ok (.getfield 31, 3)) (k : qV l g X M (pc + 3) ls (qR g 15 u :: st)) : qV l g X M pc ls (qR g 10 u :: st) := q_get C (j := 10) (u := u) hu rfl rfl q_fX2 (kf := 6) (by decide) q_fl_RX2_31 rfl hd k
theorem gf_RX2_34 (C : qCx l g X b RX2 d) {u : Nat} (hu : u < 33) (hd : decode b pc = .ok (.getfield 34, 3)) (k : qV l g X M (pc + 3) ls (qR g 16 u :: st)) : qV l g X M pc ls (qR g 10 u :: st) := q_get C (j := 10) (u := u) hu rfl rfl q_fX2 (kf := 7) (by decide) q_fl_RX2_34 rfl hd k
theorem gf_RX2_40 (C : qCx l g X b RX2 d) {u : Nat} (hu : u < 33) (hd : decode b pc = .ok (.getfield 40, 3)) (k : qV l g X M (pc + 3) ls (qR g 17 u :: st)) : qV l g X M pc ls (qR g 10 u :: st) := q_get C (j := 10) (u := u) hu rfl rfl q_fX2 (kf := 8) (by decide) q_fl_RX2_40 rfl hd k
theorem gf_RX11_156 (C : qCx l g X b RX11 d) {u : Nat} (hu : u < 33) (hd : decode b pc = .ok (.getfield 156, 3)) (k : qV l g X M (pc + 3) ls (qR g 17 u :: st)) : qV l g X M pc ls (qR g 10 u :: st) := q_get C (j := 10) (u := u) hu rfl rfl q_fX2 (kf := 8) (by decide) q_fl_RX11_156 rfl hd k
theorem gf_RX10_9 (C : qCx l g X b RX10 d) (hd : decode b pc = .ok (.getfield 9, 3)) (k : qV l g X M (pc + 3) ls (qR g 3 1 :: st)) : qV l g X M pc ls (qR g 19 0 :: st) := q_get C (j := 19) (u := 0) (by decide) rfl rfl q_fX10 (kf := 0) (by decide) q_fl_RX10_9 rfl hd k
theorem gf_RX10_15 (C : qCx l g X b RX10 d) (hd : decode b pc = .ok (.getfield 15, 3)) (k : qV l g X M (pc + 3) ls (qR g 10 0 :: st)) : qV l g X M pc ls (qR g 19 0 :: st) := q_get C (j := 19) (u := 0) (by decide) rfl rfl q_fX10 (kf := 1) (by decide) q_fl_RX10_15 rfl hd k
theorem gf_RX9_9 (C : qCx l g X b RX9 d) (hd : decode b pc = .ok (.getfield 9, 3)) (k : qV l g X M (pc + 3) ls (qR g 2 0 :: st)) : qV l g X M pc ls (qR g 1 0 :: st) := q_get C (j := 1) (u := 0) (by decide) rfl rfl q_fX9 (kf := 0) (by decide) q_fl_RX9_9 rfl hd k
theorem gf_RX9_15 (C : qCx l g X b RX9 d) (hd : decode b pc = .ok (.getfield 15, 3)) (k : qIn (M 1 0 1) → qV l g X M (pc + 3) ls (qI (M 1 0 1) :: st)) : qV l g X M pc ls (qR g 1 0 :: st) := q_rng (fun hR => q_get C (j := 1) (u := 0) (by decide) rfl rfl q_fX9 (kf := 1) (by decide) q_fl_RX9_15 rfl hd (k (hR 1 0 1)))
theorem pf_RX9_15 (C : qCx l g X b RX9 d) {z : Int} (hz : qIn z) (hd : decode b pc = .ok (.putfield 15, 3)) (k : qV l g X (qUp M 1 0 1 z) (pc + 3) ls st) : qV l g X M pc ls (qI z :: qR g 1 0 :: st) := q_put C (j := 1) (u := 0) (kf := 1) (z := z) (ty := .int) (by decide) rfl rfl q_fX9 tyX9 tyX9_ok nmX9 (by decide) q_fl_RX9_15 rfl (by decide +kernel) rfl rfl (by simp) hz (by simp [qCell, qUp]) hd k
theorem gf_RX9_19 (C : qCx l g X b RX9 d) (hd : decode b pc = .ok (.getfield 19, 3)) (k : qIn (M 1 0 2) → qV l g X M (pc + 3) ls (qI (M 1 0 2) :: st)) : qV l g X M pc ls (qR g 1 0 :: st) := q_rng (fun hR => q_get C (j := 1) (u := 0) (by decide) rfl rfl q_fX9 (kf := 2) (by decide) q_fl_RX9_19 rfl hd (k (hR 1 0 2)))
theorem pf_RX9_19 (C : qCx l g X b RX9 d) {z : Int} (hz : qIn z) (hd : decode b pc = .ok (.putfield 19, 3)) (k : qV l g X (qUp M 1 0 2 z) (pc + 3) ls st) : qV l g X M pc ls (qI z :: qR g 1 0 :: st) := q_put C (j := 1) (u := 0) (kf := 2) (z := z) (ty := .int) (by decide) rfl rfl q_fX9 tyX9 tyX9_ok nmX9 (by decide) q_fl_RX9_19 rfl (by decide +kernel) rfl rfl (by simp) hz (by simp [qCell, qUp]) hd k
theorem gf_RX11_95 (C : qCx l g X b RX11 d) (hd : decode b pc = .ok (.getfield 95, 3)) (k : qIn (M 1 0 2) → qV l g X M (pc + 3) ls (qI (M 1 0 2) :: st)) : qV l g X M pc ls (qR g 1 0 :: st) := q_rng (fun hR => q_get C (j := 1) (u := 0) (by decide) rfl rfl q_fX9 (kf := 2) (by decide) q_fl_RX11_95 rfl hd (k (hR 1 0 2)))
theorem pf_RX11_95 (C : qCx l g X b RX11 d) {z : Int} (hz : qIn z) (hd : decode b pc = .ok (.putfield 95, 3)) (k : qV l g X (qUp M 1 0 2 z) (pc + 3) ls st) : qV l g X M pc ls (qI z :: qR g 1 0 :: st) := q_put C (j := 1) (u := 0) (kf := 2) (z := z) (ty := .int) (by decide) rfl rfl q_fX9 tyX9 tyX9_ok nmX9 (by decide) q_fl_RX11_95 rfl (by decide +kernel) rfl rfl (by simp) hz (by simp [qCell, qUp]) hd k
theorem gf_RX9_22 (C : qCx l g X b RX9 d) (hd : decode b pc = .ok (.getfield 22, 3)) (k : qIn (M 1 0 3) → qV l g X M (pc + 3) ls (qI (M 1 0 3) :: st)) : qV l g X M pc ls (qR g 1 0 :: st) := q_rng (fun hR => q_get C (j := 1) (u := 0) (by decide) rfl rfl q_fX9 (kf := 3) (by decide) q_fl_RX9_22 rfl hd (k (hR 1 0 3)))
theorem pf_RX9_22 (C : qCx l g X b RX9 d) {z : Int} (hz : qIn z) (hd : decode b pc = .ok (.putfield 22, 3)) (k : qV l g X (qUp M 1 0 3 z) (pc + 3) ls st) : qV l g X M pc ls (qI z :: qR g 1 0 :: st) := q_put C (j := 1) (u := 0) (kf := 3) (z := z) (ty := .int) (by decide) rfl rfl q_fX9 tyX9 tyX9_ok nmX9 (by decide) q_fl_RX9_22 rfl (by decide +kernel) rfl rfl (by simp) hz (by simp [qCell, qUp]) hd k
theorem gf_RX11_103 (C : qCx l g X b RX11 d) (hd : decode b pc = .ok (.getfield 103, 3)) (k : qIn (M 1 0 3) → qV l g X M (pc + 3) ls (qI (M 1 0 3) :: st)) : qV l g X M pc ls (qR g 1 0 :: st) := q_rng (fun hR => q_get C (j := 1) (u := 0) (by decide) rfl rfl q_fX9 (kf := 3) (by decide) q_fl_RX11_103 rfl hd (k (hR 1 0 3)))
theorem pf_RX11_103 (C : qCx l g X b RX11 d) {z : Int} (hz : qIn z) (hd : decode b pc = .ok (.putfield 103, 3)) (k : qV l g X (qUp M 1 0 3 z) (pc + 3) ls st) : qV l g X M pc ls (qI z :: qR g 1 0 :: st) := q_put C (j := 1) (u := 0) (kf := 3) (z := z) (ty := .int) (by decide) rfl rfl q_fX9 tyX9 tyX9_ok nmX9 (by decide) q_fl_RX11_103 rfl (by decide +kernel) rfl rfl (by simp) hz (by simp [qCell, qUp]) hd k
theorem gf_RX9_25 (C : qCx l g X b RX9 d) (hd : decode b pc = .ok (.getfield 25, 3)) (k : qIn (M 1 0 4) → qV l g X M (pc + 3) ls (qI (M 1 0 4) :: st)) : qV l g X M pc ls (qR g 1 0 :: st) := q_rng (fun hR => q_get C (j := 1) (u := 0) (by decide) rfl rfl q_fX9 (kf := 4) (by decide) q_fl_RX9_25 rfl hd (k (hR 1 0 4)))
theorem pf_RX9_25 (C : qCx l g X b RX9 d) {z : Int} (hz : qIn z) (hd : decode b pc = .ok (.putfield 25, 3)) (k : qV l g X (qUp M 1 0 4 z) (pc + 3) ls st) : qV l g X M pc ls (qI z :: qR g 1 0 :: st) := q_put C (j := 1) (u := 0) (kf := 4) (z := z) (ty := .int) (by decide) rfl rfl q_fX9 tyX9 tyX9_ok nmX9 (by decide) q_fl_RX9_25 rfl (by decide +kernel) rfl rfl (by simp) hz (by simp [qCell, qUp]) hd k
theorem gf_RX11_125 (C : qCx l g X b RX11 d) (hd : decode b pc = .ok (.getfield 125, 3)) (k : qIn (M 1 0 4) → qV l g X M (pc + 3) ls (qI (M 1 0 4) :: st)) : qV l g X M pc ls (qR g 1 0 :: st) := q_rng (fun hR => q_get C (j := 1) (u := 0) (by decide) rfl rfl q_fX9 (kf := 4) (by decide) q_fl_RX11_125 rfl hd (k (hR 1 0 4)))
theorem pf_RX11_125 (C : qCx l g X b RX11 d) {z : Int} (hz : qIn z) (hd : decode b pc = .ok (.putfield 125, 3)) (k : qV l g X (qUp M 1 0 4 z) (pc + 3) ls st) : qV l g X M pc ls (qI z :: qR g 1 0 :: st) := q_put C (j := 1) (u := 0) (kf := 4) (z := z) (ty := .int) (by decide) rfl rfl q_fX9 tyX9 tyX9_ok nmX9 (by decide) q_fl_RX11_125 rfl (by decide +kernel) rfl rfl (by simp) hz (by simp [qCell, qUp]) hd k
theorem gf_RX5_28 (C : qCx l g X b RX5 d) (hd : decode b pc = .ok (.getfield 28, 3)) (k : qV l g X M (pc + 3) ls (qR g 19 0 :: st)) : qV l g X M pc ls (qR g 20 0 :: st) := q_get C (j := 20) (u := 0) (by decide) rfl rfl q_fX5 (kf := 0) (by decide) q_fl_RX5_28 rfl hd k
theorem gf_RX5_9 (C : qCx l g X b RX5 d) (hd : decode b pc = .ok (.getfield 9, 3)) (k : qV l g X M (pc + 3) ls (qR g 21 0 :: st)) : qV l g X M pc ls (qR g 20 0 :: st) := q_get C (j := 20) (u := 0) (by decide) rfl rfl q_fX5 (kf := 1) (by decide) q_fl_RX5_9 rfl hd k
theorem gf_RX5_15 (C : qCx l g X b RX5 d) (hd : decode b pc = .ok (.getfield 15, 3)) (k : qV l g X M (pc + 3) ls (qR g 22 0 :: st)) : qV l g X M pc ls (qR g 20 0 :: st) := q_get C (j := 20) (u := 0) (by decide) rfl rfl q_fX5 (kf := 2) (by decide) q_fl_RX5_15 rfl hd k
theorem gf_RX5_18 (C : qCx l g X b RX5 d) (hd : decode b pc = .ok (.getfield 18, 3)) (k : qV l g X M (pc + 3) ls (qR g 23 0 :: st)) : qV l g X M pc ls (qR g 20 0 :: st) := q_get C (j := 20) (u := 0) (by decide) rfl rfl q_fX5 (kf := 3) (by decide) q_fl_RX5_18 rfl hd k
theorem gf_RX5_21 (C : qCx l g X b RX5 d) (hd : decode b pc = .ok (.getfield 21, 3)) (k : qV l g X M (pc + 3) ls (qR g 24 0 :: st)) : qV l g X M pc ls (qR g 20 0 :: st) := q_get C (j := 20) (u := 0) (by decide) rfl rfl q_fX5 (kf := 4) (by decide) q_fl_RX5_21 rfl hd k
theorem gf_RX5_24 (C : qCx l g X b RX5 d) (hd : decode b pc = .ok (.getfield 24, 3)) (k : qIn (M 20 0 5) → qV l g X M (pc + 3) ls (qI (M 20 0 5) :: st)) : qV l g X M pc ls (qR g 20 0 :: st) := q_rng (fun hR => q_get C (j := 20) (u := 0) (by decide) rfl rfl q_fX5 (kf := 5) (by decide) q_fl_RX5_24 rfl hd (k (hR 20 0 5)))
theorem pf_RX5_24 (C : qCx l g X b RX5 d) {z : Int} (hz : qIn z) (hd : decode b pc = .ok (.putfield 24, 3)) (k : qV l g X (qUp M 20 0 5 z) (pc + 3) ls st) : qV l g X M pc ls (qI z :: qR g 20 0 :: st) := q_put C (j := 20) (u := 0) (kf := 5) (z := z) (ty := .int) (by decide) rfl rfl q_fX5 tyX5 tyX5_ok nmX5 (by decide) q_fl_RX5_24 rfl (by decide +kernel) rfl rfl (by simp) hz (by simp [qCell, qUp]) hd k
theorem gf_RX6_11 (C : qCx l g X b RX6 d) (hd : decode b pc = .ok (.getfield 11, 3)) (k : qV l g X M (pc + 3) ls (qR g 27 0 :: st)) : qV l g X M pc ls (qR g 26 0 :: st) := q_get C (j := 26) (u := 0) (by decide) rfl rfl q_fX6 (kf := 0) (by decide) q_fl_RX6_11 rfl hd k
theorem gf_RX6_17 (C : qCx l g X b RX6 d) (hd : decode b pc = .ok (.getfield 17, 3)) (k : qIn (M 26 0 1) → qV l g X M (pc + 3) ls (qI (M 26 0 1) :: st)) : qV l g X M pc ls (qR g 26 0 :: st) := q_rng (fun hR => q_get C (j := 26) (u := 0) (by decide) rfl rfl q_fX6 (kf := 1) (by decide) q_fl_RX6_17 rfl hd (k (hR 26 0 1)))
theorem pf_RX6_17 (C : qCx l g X b RX6 d) {z : Int} (hz : qIn z) (hd : decode b pc = .ok (.putfield 17, 3)) (k : qV l g X (qUp M 26 0 1 z) (pc + 3) ls st) : qV l g X M pc ls (qI z :: qR g 26 0 :: st) := q_put C (j := 26) (u := 0) (kf := 1) (z := z) (ty := .int) (by decide) rfl rfl q_fX6 tyX6 tyX6_ok nmX6 (by decide) q_fl_RX6_17 rfl (by decide +kernel) rfl rfl (by simp) hz (by simp [qCell, qUp]) hd k
theorem gf_RX6_21 (C : qCx l g X b RX6 d) (hd : decode b pc = .ok (.getfield 21, 3)) (k : qIn (M 26 0 2) → qV l g X M (pc + 3) ls (qI (M 26 0 2) :: st)) : qV l g X M pc ls (qR g 26 0 :: st) := q_rng (fun hR => q_get C (j := 26) (u := 0) (by decide) rfl rfl q_fX6 (kf := 2) (by decide) q_fl_RX6_21 rfl hd (k (hR 26 0 2)))
theorem pf_RX6_21 (C : qCx l g X b RX6 d) {z : Int} (hz : qIn z) (hd : decode b pc = .ok (.putfield 21, 3)) (k : qV l g X (qUp M 26 0 2 z) (pc + 3) ls st) : qV l g X M pc ls (qI z :: qR g 26 0 :: st) := q_put C (j := 26) (u := 0) (kf := 2) (z := z) (ty := .int) (by decide) rfl rfl q_fX6 tyX6 tyX6_ok nmX6 (by decide) q_fl_RX6_21 rfl (by decide +kernel) rfl rfl (by simp) hz (by simp [qCell, qUp]) hd k
theorem gf_RX11_165 (C : qCx l g X b RX11 d) (hd : decode b pc = .ok (.getfield 165, 3)) (k : qIn (M 26 0 2) → qV l g X M (pc + 3) ls (qI (M 26 0 2) :: st)) : qV l g X M pc ls (qR g 26 0 :: st) := q_rng (fun hR => q_get C (j := 26) (u := 0) (by decide) rfl rfl q_fX6 (kf := 2) (by decide) q_fl_RX11_165 rfl hd (k (hR 26 0 2)))
theorem pf_RX11_165 (C : qCx l g X b RX11 d) {z : Int} (hz : qIn z) (hd : decode b pc = .ok (.putfield 165, 3)) (k : qV l g X (qUp M 26 0 2 z) (pc + 3) ls st) : qV l g X M pc ls (qI z :: qR g 26 0 :: st) := q_put C (j := 26) (u := 0) (kf := 2) (z := z) (ty := .int) (by decide) rfl rfl q_fX6 tyX6 tyX6_ok nmX6 (by decide) q_fl_RX11_165 rfl (by decide +kernel) rfl rfl (by simp) hz (by simp [qCell, qUp]) hd k
theorem gf_RX3_7 (C : qCx l g X b RX3 d) {u : Nat} (hu : u < 2) (hd : decode b pc = .ok (.getfield 7, 3)) (k : qIn (M 28 u 0) → qV l g X M (pc + 3) ls (qI (M 28 u 0) :: st)) : qV l g X M pc ls (qR g 28 u :: st) := q_rng (fun hR => q_get C (j := 28) (u := u) hu rfl rfl q_fX3 (kf := 0) (by decide) q_fl_RX3_7 rfl hd (k (hR 28 u 0)))
theorem pf_RX3_7 (C : qCx l g X b RX3 d) {u : Nat} (hu : u < 2) {z : Int} (hz : z = 0 ∨ z = 1) (hd : decode b pc = .ok (.putfield 7, 3)) (k : qV l g X (qUp M 28 u 0 z) (pc + 3) ls st) : qV l g X M pc ls (qI z :: qR g 28 u :: st) := q_put C (j := 28) (u := u) (kf := 0) (z := z) (ty := .boolean) hu rfl rfl q_fX3 tyX3 tyX3_ok nmX3 (by decide) q_fl_RX3_7 rfl (by decide +kernel) (by rcases hz with rfl | rfl <;> decide) (by rcases hz with rfl | rfl <;> decide) (by simp) (by omega) (by simp [qCell, qUp]) hd k
theorem gf_RX11_116 (C : qCx l g X b RX11 d) {u : Nat} (hu : u < 2) (hd : decode b pc = .ok (.getfield 116, 3)) (k : qIn (M 28 u 0) → qV l g X M (pc + 3) ls (qI (M 28 u 0) :: st)) : qV l g X M pc ls (qR g 28 u :: st) := q_rng (fun hR => q_get C (j := 28) (u := u) hu rfl rfl q_fX3 (kf := 0) (by decide) q_fl_RX11_116 rfl hd (k (hR 28 u 0)))
theorem pf_RX11_116 (C : qCx l g X b RX11 d) {u : Nat} (hu : u < 2) {z : Int} (hz : z = 0 ∨ z = 1) (hd : decode b pc = .ok (.putfield 116, 3)) (k : qV l g X (qUp M 28 u 0 z) (pc + 3) ls st) : qV l g X M pc ls (qI z :: qR g 28 u :: st) := q_put C (j := 28) (u := u) (kf := 0) (z := z) (ty := .boolean) hu rfl rfl q_fX3 tyX3 tyX3_ok nmX3 (by decide) q_fl_RX11_116 rfl (by decide +kernel) (by rcases hz with rfl | rfl <;> decide) (by rcases hz with rfl | rfl <;> decide) (by simp) (by omega) (by simp [qCell, qUp]) hd k
theorem gf_RX3_13 (C : qCx l g X b RX3 d) {u : Nat} (hu : u < 2) (hd : decode b pc = .ok (.getfield 13, 3)) (k : qIn (M 28 u 1) → qV l g X M (pc + 3) ls (qI (M 28 u 1) :: st)) : qV l g X M pc ls (qR g 28 u :: st) := q_rng (fun hR => q_get C (j := 28) (u := u) hu rfl rfl q_fX3 (kf := 1) (by decide) q_fl_RX3_13 rfl hd (k (hR 28 u 1)))
theorem pf_RX3_13 (C : qCx l g X b RX3 d) {u : Nat} (hu : u < 2) {z : Int} (hz : qIn z) (hd : decode b pc = .ok (.putfield 13, 3)) (k : qV l g X (qUp M 28 u 1 z) (pc + 3) ls st) : qV l g X M pc ls (qI z :: qR g 28 u :: st) := q_put C (j := 28) (u := u) (kf := 1) (z := z) (ty := .int) hu rfl rfl q_fX3 tyX3 tyX3_ok nmX3 (by decide) q_fl_RX3_13 rfl (by decide +kernel) rfl rfl (by simp) hz (by simp [qCell, qUp]) hd k
theorem gf_RX11_320 (C : qCx l g X b RX11 d) {u : Nat} (hu : u < 2) (hd : decode b pc = .ok (.getfield 320, 3)) (k : qIn (M 28 u 1) → qV l g X M (pc + 3) ls (qI (M 28 u 1) :: st)) : qV l g X M pc ls (qR g 28 u :: st) := q_rng (fun hR => q_get C (j := 28) (u := u) hu rfl rfl q_fX3 (kf := 1) (by decide) q_fl_RX11_320 rfl hd (k (hR 28 u 1)))
theorem pf_RX11_320 (C : qCx l g X b RX11 d) {u : Nat} (hu : u < 2) {z : Int} (hz : qIn z) (hd : decode b pc = .ok (.putfield 320, 3)) (k : qV l g X (qUp M 28 u 1 z) (pc + 3) ls st) : qV l g X M pc ls (qI z :: qR g 28 u :: st) := q_put C (j := 28) (u := u) (kf := 1) (z := z) (ty := .int) hu rfl rfl q_fX3 tyX3 tyX3_ok nmX3 (by decide) q_fl_RX11_320 rfl (by decide +kernel) rfl rfl (by simp) hz (by simp [qCell, qUp]) hd k
theorem gf_RX3_20 (C : qCx l g X b RX3 d) {u : Nat} (hu : u < 2) (hd : decode b pc = .ok (.getfield 20, 3)) (k : qV l g X M (pc + 3) ls (qR g 10 (31 + u) :: st)) : qV l g X M pc ls (qR g 28 u :: st) := q_get C (j := 28) (u := u) hu rfl rfl q_fX3 (kf := 2) (by decide) q_fl_RX3_20 rfl hd k
theorem gf_RX11_317 (C : qCx l g X b RX11 d) {u : Nat} (hu : u < 2) (hd : decode b pc = .ok (.getfield 317, 3)) (k : qV l g X M (pc + 3) ls (qR g 10 (31 + u) :: st)) : qV l g X M pc ls (qR g 28 u :: st) := q_get C (j := 28) (u := u) hu rfl rfl q_fX3 (kf := 2) (by decide) q_fl_RX11_317 rfl hd k
theorem gf_RX8_9 (C : qCx l g X b RX8 d) (hd : decode b pc = .ok (.getfield 9, 3)) (k : qV l g X M (pc + 3) ls (qR g 30 0 :: st)) : qV l g X M pc ls (qR g 29 0 :: st) := q_get C (j := 29) (u := 0) (by decide) rfl rfl q_fX8 (kf := 0) (by decide) q_fl_RX8_9 rfl hd k
theorem gf_RX8_15 (C : qCx l g X b RX8 d) (hd : decode b pc = .ok (.getfield 15, 3)) (k : qV l g X M (pc + 3) ls (qR g 31 0 :: st)) : qV l g X M pc ls (qR g 29 0 :: st) := q_get C (j := 29) (u := 0) (by decide) rfl rfl q_fX8 (kf := 1) (by decide) q_fl_RX8_15 rfl hd k
theorem gf_RX8_18 (C : qCx l g X b RX8 d) (hd : decode b pc = .ok (.getfield 18, 3)) (k : qIn (M 29 0 2) → qV l g X M (pc + 3) ls (qI (M 29 0 2) :: st)) : qV l g X M pc ls (qR g 29 0 :: st) := q_rng (fun hR => q_get C (j := 29) (u := 0) (by decide) rfl rfl q_fX8 (kf := 2) (by decide) q_fl_RX8_18 rfl hd (k (hR 29 0 2)))
theorem pf_RX8_18 (C : qCx l g X b RX8 d) {z : Int} (hz : qIn z) (hd : decode b pc = .ok (.putfield 18, 3)) (k : qV l g X (qUp M 29 0 2 z) (pc + 3) ls st) : qV l g X M pc ls (qI z :: qR g 29 0 :: st) := q_put C (j := 29) (u := 0) (kf := 2) (z := z) (ty := .int) (by decide) rfl rfl q_fX8 tyX8 tyX8_ok nmX8 (by decide) q_fl_RX8_18 rfl (by decide +kernel) rfl rfl (by simp) hz (by simp [qCell, qUp]) hd k
theorem gf_RX11_163 (C : qCx l g X b RX11 d) (hd : decode b pc = .ok (.getfield 163, 3)) (k : qIn (M 29 0 2) → qV l g X M (pc + 3) ls (qI (M 29 0 2) :: st)) : qV l g X M pc ls (qR g 29 0 :: st) := q_rng (fun hR => q_get C (j := 29) (u := 0) (by decide) rfl rfl q_fX8 (kf := 2) (by decide) q_fl_RX11_163 rfl hd (k (hR 29 0 2)))
theorem pf_RX11_163 (C : qCx l g X b RX11 d) {z : Int} (hz : qIn z) (hd : decode b pc = .ok (.putfield 163, 3)) (k : qV l g X (qUp M 29 0 2 z) (pc + 3) ls st) : qV l g X M pc ls (qI z :: qR g 29 0 :: st) := q_put C (j := 29) (u := 0) (kf := 2) (z := z) (ty := .int) (by decide) rfl rfl q_fX8 tyX8 tyX8_ok nmX8 (by decide) q_fl_RX11_163 rfl (by decide +kernel) rfl rfl (by simp) hz (by simp [qCell, qUp]) hd k
theorem gf_RX0_9 (C : qCx l g X b RX0 d) (hd : decode b pc = .ok (.getfield 9, 3)) (k : qV l g X M (pc + 3) ls (qR g 33 0 :: st)) : qV l g X M pc ls (qR g 32 0 :: st) := q_get C (j := 32) (u := 0) (by decide) rfl rfl q_fX0 (kf := 0) (by decide) q_fl_RX0_9 rfl hd k
theorem gf_RX0_15 (C : qCx l g X b RX0 d) (hd : decode b pc = .ok (.getfield 15, 3)) (k : qV l g X M (pc + 3) ls (qR g 34 0 :: st)) : qV l g X M pc ls (qR g 32 0 :: st) := q_get C (j := 32) (u := 0) (by decide) rfl rfl q_fX0 (kf := 1) (by decide) q_fl_RX0_15 rfl hd k
theorem gf_RX0_18 (C : qCx l g X b RX0 d) (hd : decode b pc = .ok (.getfield 18, 3)) (k : qIn (M 32 0 2) → qV l g X M (pc + 3) ls (qI (M 32 0 2) :: st)) : qV l g X M pc ls (qR g 32 0 :: st) := q_rng (fun hR => q_get C (j := 32) (u := 0) (by decide) rfl rfl q_fX0 (kf := 2) (by decide) q_fl_RX0_18 rfl hd (k (hR 32 0 2)))
theorem pf_RX0_18 (C : qCx l g X b RX0 d) {z : Int} (hz : qIn z) (hd : decode b pc = .ok (.putfield 18, 3)) (k : qV l g X (qUp M 32 0 2 z) (pc + 3) ls st) : qV l g X M pc ls (qI z :: qR g 32 0 :: st) := q_put C (j := 32) (u := 0) (kf := 2) (z := z) (ty := .int) (by decide) rfl rfl q_fX0 tyX0 tyX0_ok nmX0 (by decide) q_fl_RX0_18 rfl (by decide +kernel) rfl rfl (by simp) hz (by simp [qCell, qUp]) hd k
theorem gf_RX11_164 (C : qCx l g X b RX11 d) (hd : decode b pc = .ok (.getfield 164, 3)) (k : qIn (M 32 0 2) → qV l g X M (pc + 3) ls (qI (M 32 0 2) :: st)) : qV l g X M pc ls (qR g 32 0 :: st) := q_rng (fun hR => q_get C (j := 32) (u := 0) (by decide) rfl rfl q_fX0 (kf := 2) (by decide) q_fl_RX11_164 rfl hd (k (hR 32 0 2)))
theorem pf_RX11_164 (C : qCx l g X b RX11 d) {z : Int} (hz : qIn z) (hd : decode b pc = .ok (.putfield 164, 3)) (k : qV l g X (qUp M 32 0 2 z) (pc + 3) ls st) : qV l g X M pc ls (qI z :: qR g 32 0 :: st) := q_put C (j := 32) (u := 0) (kf := 2) (z := z) (ty := .int) (by decide) rfl rfl q_fX0 tyX0 tyX0_ok nmX0 (by decide) q_fl_RX11_164 rfl (by decide +kernel) rfl rfl (by simp) hz (by simp [qCell, qUp]) hd k
theorem gf_RX11_21 (C : qCx l g X b RX11 d) (hd : decode b pc = .ok (.getfield 21, 3)) (k : qV l g X M (pc + 3) ls (qR g 1 0 :: st)) : qV l g X M pc ls (qR g 0 0 :: st) := q_get C (j := 0) (u := 0) (by decide) rfl rfl q_fX11 (kf := 0) (by decide) q_fl_RX11_21 rfl hd k
theorem gf_RX11_27 (C : qCx l g X b RX11 d) (hd : decode b pc = .ok (.getfield 27, 3)) (k : qV l g X M (pc + 3) ls (qR g 3 0 :: st)) : qV l g X M pc ls (qR g 0 0 :: st) := q_get C (j := 0) (u := 0) (by decide) rfl rfl q_fX11 (kf := 1) (by decide) q_fl_RX11_27 rfl hd k
theorem gf_RX11_31 (C : qCx l g X b RX11 d) (hd : decode b pc = .ok (.getfield 31, 3)) (k : qV l g X M (pc + 3) ls (qR g 3 1 :: st)) : qV l g X M pc ls (qR g 0 0 :: st) := q_get C (j := 0) (u := 0) (by decide) rfl rfl q_fX11 (kf := 2) (by decide) q_fl_RX11_31 rfl hd k
theorem gf_RX11_34 (C : qCx l g X b RX11 d) (hd : decode b pc = .ok (.getfield 34, 3)) (k : qV l g X M (pc + 3) ls (qR g 10 0 :: st)) : qV l g X M pc ls (qR g 0 0 :: st) := q_get C (j := 0) (u := 0) (by decide) rfl rfl q_fX11 (kf := 3) (by decide) q_fl_RX11_34 rfl hd k
theorem gf_RX11_38 (C : qCx l g X b RX11 d) (hd : decode b pc = .ok (.getfield 38, 3)) (k : qV l g X M (pc + 3) ls (qR g 19 0 :: st)) : qV l g X M pc ls (qR g 0 0 :: st) := q_get C (j := 0) (u := 0) (by decide) rfl rfl q_fX11 (kf := 4) (by decide) q_fl_RX11_38 rfl hd k
theorem gf_RX11_47 (C : qCx l g X b RX11 d) (hd : decode b pc = .ok (.getfield 47, 3)) (k : qV l g X M (pc + 3) ls (qR g 20 0 :: st)) : qV l g X M pc ls (qR g 0 0 :: st) := q_get C (j := 0) (u := 0) (by decide) rfl rfl q_fX11 (kf := 5) (by decide) q_fl_RX11_47 rfl hd k
theorem gf_RX11_54 (C : qCx l g X b RX11 d) (hd : decode b pc = .ok (.getfield 54, 3)) (k : qV l g X M (pc + 3) ls (qR g 26 0 :: st)) : qV l g X M pc ls (qR g 0 0 :: st) := q_get C (j := 0) (u := 0) (by decide) rfl rfl q_fX11 (kf := 6) (by decide) q_fl_RX11_54 rfl hd k
theorem gf_RX11_61 (C : qCx l g X b RX11 d) (hd : decode b pc = .ok (.getfield 61, 3)) (k : qV l g X M (pc + 3) ls (qR g 28 0 :: st)) : qV l g X M pc ls (qR g 0 0 :: st) := q_get C (j := 0) (u := 0) (by decide) rfl rfl q_fX11 (kf := 7) (by decide) q_fl_RX11_61 rfl hd k
theorem gf_RX11_65 (C : qCx l g X b RX11 d) (hd : decode b pc = .ok (.getfield 65, 3)) (k : qV l g X M (pc + 3) ls (qR g 28 1 :: st)) : qV l g X M pc ls (qR g 0 0 :: st) := q_get C (j := 0) (u := 0) (by decide) rfl rfl q_fX11 (kf := 8) (by decide) q_fl_RX11_65 rfl hd k
theorem gf_RX11_71 (C : qCx l g X b RX11 d) (hd : decode b pc = .ok (.getfield 71, 3)) (k : qV l g X M (pc + 3) ls (qR g 29 0 :: st)) : qV l g X M pc ls (qR g 0 0 :: st) := q_get C (j := 0) (u := 0) (by decide) rfl rfl q_fX11 (kf := 9) (by decide) q_fl_RX11_71 rfl hd k
theorem gf_RX11_78 (C : qCx l g X b RX11 d) (hd : decode b pc = .ok (.getfield 78, 3)) (k : qV l g X M (pc + 3) ls (qR g 32 0 :: st)) : qV l g X M pc ls (qR g 0 0 :: st) := q_get C (j := 0) (u := 0) (by decide) rfl rfl q_fX11 (kf := 10) (by decide) q_fl_RX11_78 rfl hd k
theorem gf_RX11_82 (C : qCx l g X b RX11 d) (hd : decode b pc = .ok (.getfield 82, 3)) (k : qIn (M 0 0 11) → qV l g X M (pc + 3) ls (qI (M 0 0 11) :: st)) : qV l g X M pc ls (qR g 0 0 :: st) := q_rng (fun hR => q_get C (j := 0) (u := 0) (by decide) rfl rfl q_fX11 (kf := 11) (by decide) q_fl_RX11_82 rfl hd (k (hR 0 0 11)))
theorem pf_RX11_82 (C : qCx l g X b RX11 d) {z : Int} (hz : qIn z) (hd : decode b pc = .ok (.putfield 82, 3)) (k : qV l g X (qUp M 0 0 11 z) (pc + 3) ls st) : qV l g X M pc ls (qI z :: qR g 0 0 :: st) := q_put C (j := 0) (u := 0) (kf := 11) (z := z) (ty := .int) (by decide) rfl rfl q_fX11 tyX11 tyX11_ok nmX11 (by decide) q_fl_RX11_82 rfl (by decide +kernel) rfl rfl (by simp) hz (by simp [qCell, qUp]) hd k
theorem gf_RX12_90 (C : qCx l g X b RX12 d) (hd : decode b pc = .ok (.getfield 90, 3)) (k : qIn (M 35 0 0) → qV l g X M (pc + 3) ls (qI (M 35 0 0) :: st)) : qV l g X M pc ls (qR g 35 0 :: st) := q_rng (fun hR => q_get C (j := 35) (u := 0) (by decide) rfl rfl q_fX12 (kf := 0) (by decide) q_fl_RX12_90 rfl hd (k (hR 35 0 0)))
theorem pf_RX12_90 (C : qCx l g X b RX12 d) {z : Int} (hz : qIn z) (hd : decode b pc = .ok (.putfield 90, 3)) (k : qV l g X (qUp M 35 0 0 z) (pc + 3) ls st) : qV l g X M pc ls (qI z :: qR g 35 0 :: st) := q_put C (j := 35) (u := 0) (kf := 0) (z := z) (ty := .int) (by decide) rfl rfl q_fX12 tyX12 tyX12_ok nmX12 (by decide) q_fl_RX12_90 rfl (by decide +kernel) rfl rfl (by simp) hz (by simp [qCell, qUp]) hd k
theorem gf_RX12_7 (C : qCx l g X b RX12 d) (hd : decode b pc = .ok (.getfield 7, 3)) (k : qV l g X M (pc + 3) ls (qR g 41 0 :: st)) : qV l g X M pc ls (qR g 35 0 :: st) := q_get C (j := 35) (u := 0) (by decide) rfl rfl q_fX12 (kf := 1) (by decide) q_fl_RX12_7 rfl hd k
theorem gf_RX12_94 (C : qCx l g X b RX12 d) (hd : decode b pc = .ok (.getfield 94, 3)) (k : qIn (M 35 0 2) → qV l g X M (pc + 3) ls (qI (M 35 0 2) :: st)) : qV l g X M pc ls (qR g 35 0 :: st) := q_rng (fun hR => q_get C (j := 35) (u := 0) (by decide) rfl rfl q_fX12 (kf := 2) (by decide) q_fl_RX12_94 rfl hd (k (hR 35 0 2)))
theorem pf_RX12_94 (C : qCx l g X b RX12 d) {z : Int} (hz : qIn z) (hd : decode b pc = .ok (.putfield 94, 3)) (k : qV l g X (qUp M 35 0 2 z) (pc + 3) ls st) : qV l g X M pc ls (qI z :: qR g 35 0 :: st) := q_put C (j := 35) (u := 0) (kf := 2) (z := z) (ty := .int) (by decide) rfl rfl q_fX12 tyX12 tyX12_ok nmX12 (by decide) q_fl_RX12_94 rfl (by decide +kernel) rfl rfl (by simp) hz (by simp [qCell, qUp]) hd k
theorem gf_RX12_112 (C : qCx l g X b RX12 d) (hd : decode b pc = .ok (.getfield 112, 3)) (k : qIn (M 35 0 3) → qV l g X M (pc + 3) ls (qI (M 35 0 3) :: st)) : qV l g X M pc ls (qR g 35 0 :: st) := q_rng (fun hR => q_get C (j := 35) (u := 0) (by decide) rfl rfl q_fX12 (kf := 3) (by decide) q_fl_RX12_112 rfl hd (k (hR 35 0 3)))
theorem pf_RX12_112 (C : qCx l g X b RX12 d) {z : Int} (hz : qIn z) (hd : decode b pc = .ok (.putfield 112, 3)) (k : qV l g X (qUp M 35 0 3 z) (pc + 3) ls st) : qV l g X M pc ls (qI z :: qR g 35 0 :: st) := q_put C (j := 35) (u := 0) (kf := 3) (z := z) (ty := .int) (by decide) rfl rfl q_fX12 tyX12 tyX12_ok nmX12 (by decide) q_fl_RX12_112 rfl (by decide +kernel) rfl rfl (by simp) hz (by simp [qCell, qUp]) hd k
theorem gf_RX12_101 (C : qCx l g X b RX12 d) (hd : decode b pc = .ok (.getfield 101, 3)) (k : qIn (M 35 0 4) → qV l g X M (pc + 3) ls (qI (M 35 0 4) :: st)) : qV l g X M pc ls (qR g 35 0 :: st) := q_rng (fun hR => q_get C (j := 35) (u := 0) (by decide) rfl rfl q_fX12 (kf := 4) (by decide) q_fl_RX12_101 rfl hd (k (hR 35 0 4)))
theorem pf_RX12_101 (C : qCx l g X b RX12 d) {z : Int} (hz : qIn z) (hd : decode b pc = .ok (.putfield 101, 3)) (k : qV l g X (qUp M 35 0 4 z) (pc + 3) ls st) : qV l g X M pc ls (qI z :: qR g 35 0 :: st) := q_put C (j := 35) (u := 0) (kf := 4) (z := z) (ty := .int) (by decide) rfl rfl q_fX12 tyX12 tyX12_ok nmX12 (by decide) q_fl_RX12_101 rfl (by decide +kernel) rfl rfl (by simp) hz (by simp [qCell, qUp]) hd k
theorem gf_RX12_13 (C : qCx l g X b RX12 d) (hd : decode b pc = .ok (.getfield 13, 3)) (k : qIn (M 35 0 5) → qV l g X M (pc + 3) ls (qI (M 35 0 5) :: st)) : qV l g X M pc ls (qR g 35 0 :: st) := q_rng (fun hR => q_get C (j := 35) (u := 0) (by decide) rfl rfl q_fX12 (kf := 5) (by decide) q_fl_RX12_13 rfl hd (k (hR 35 0 5)))
theorem pf_RX12_13 (C : qCx l g X b RX12 d) {z : Int} (hz : qIn z) (hd : decode b pc = .ok (.putfield 13, 3)) (k : qV l g X (qUp M 35 0 5 z) (pc + 3) ls st) : qV l g X M pc ls (qI z :: qR g 35 0 :: st) := q_put C (j := 35) (u := 0) (kf := 5) (z := z) (ty := .int) (by decide) rfl rfl q_fX12 tyX12 tyX12_ok nmX12 (by decide) q_fl_RX12_13 rfl (by decide +kernel) rfl rfl (by simp) hz (by simp [qCell, qUp]) hd k
theorem gf_RX12_118 (C : qCx l g X b RX12 d) (hd : decode b pc = .ok (.getfield 118, 3)) (k : qIn (M 35 0 6) → qV l g X M (pc + 3) ls (qI (M 35 0 6) :: st)) : qV l g X M pc ls (qR g 35 0 :: st) := q_rng (fun hR => q_get C (j := 35) (u := 0) (by decide) rfl rfl q_fX12 (kf := 6) (by decide) q_fl_RX12_118 rfl hd (k (hR 35 0 6)))
theorem pf_RX12_118 (C : qCx l g X b RX12 d) {z : Int} (hz : qIn z) (hd : decode b pc = .ok (.putfield 118, 3)) (k : qV l g X (qUp M 35 0 6 z) (pc + 3) ls st) : qV l g X M pc ls (qI z :: qR g 35 0 :: st) := q_put C (j := 35) (u := 0) (kf := 6) (z := z) (ty := .int) (by decide) rfl rfl q_fX12 tyX12 tyX12_ok nmX12 (by decide) q_fl_RX12_118 rfl (by decide +kernel) rfl rfl (by simp) hz (by simp [qCell, qUp]) hd k
theorem gf_RX12_125 (C : qCx l g X b RX12 d) (hd : decode b pc = .ok (.getfield 125, 3)) (k : qIn (M 35 0 7) → qV l g X M (pc + 3) ls (qI (M 35 0 7) :: st)) : qV l g X M pc ls (qR g 35 0 :: st) := q_rng (fun hR => q_get C (j := 35) (u := 0) (by decide) rfl rfl q_fX12 (kf := 7) (by decide) q_fl_RX12_125 rfl hd (k (hR 35 0 7)))
theorem pf_RX12_125 (C : qCx l g X b RX12 d) {z : Int} (hz : qIn z) (hd : decode b pc = .ok (.putfield 125, 3)) (k : qV l g X (qUp M 35 0 7 z) (pc + 3) ls st) : qV l g X M pc ls (qI z :: qR g 35 0 :: st) := q_put C (j := 35) (u := 0) (kf := 7) (z := z) (ty := .int) (by decide) rfl rfl q_fX12 tyX12 tyX12_ok nmX12 (by decide) q_fl_RX12_125 rfl (by decide +kernel) rfl rfl (by simp) hz (by simp [qCell, qUp]) hd k
theorem gf_RX12_128 (C : qCx l g X b RX12 d) (hd : decode b pc = .ok (.getfield 128, 3)) (k : qIn (M 35 0 8) → qV l g X M (pc + 3) ls (qI (M 35 0 8) :: st)) : qV l g X M pc ls (qR g 35 0 :: st) := q_rng (fun hR => q_get C (j := 35) (u := 0) (by decide) rfl rfl q_fX12 (kf := 8) (by decide) q_fl_RX12_128 rfl hd (k (hR 35 0 8)))
theorem pf_RX12_128 (C : qCx l g X b RX12 d) {z : Int} (hz : qIn z) (hd : decode b pc = .ok (.putfield 128, 3)) (k : qV l g X (qUp M 35 0 8 z) (pc + 3) ls st) : qV l g X M pc ls (qI z :: qR g 35 0 :: st) := q_put C (j := 35) (u := 0) (kf := 8) (z := z) (ty := .int) (by decide) rfl rfl q_fX12 tyX12 tyX12_ok nmX12 (by decide) q_fl_RX12_128 rfl (by decide +kernel) rfl rfl (by simp) hz (by simp [qCell, qUp]) hd k
theorem gf_RX12_17 (C : qCx l g X b RX12 d) (hd : decode b pc = .ok (.getfield 17, 3)) (k : qV l g X M (pc + 3) ls (qR g 49 0 :: st)) : qV l g X M pc ls (qR g 35 0 :: st) := q_get C (j := 35) (u := 0) (by decide) rfl rfl q_fX12 (kf := 9) (by decide) q_fl_RX12_17 rfl hd k
theorem gf_RX12_20 (C : qCx l g X b RX12 d) (hd : decode b pc = .ok (.getfield 20, 3)) (k : qV l g X M (pc + 3) ls (qR g 50 0 :: st)) : qV l g X M pc ls (qR g 35 0 :: st) := q_get C (j := 35) (u := 0) (by decide) rfl rfl q_fX12 (kf := 10) (by decide) q_fl_RX12_20 rfl hd k
theorem gf_RX12_23 (C : qCx l g X b RX12 d) (hd : decode b pc = .ok (.getfield 23, 3)) (k : qV l g X M (pc + 3) ls (qR g 51 0 :: st)) : qV l g X M pc ls (qR g 35 0 :: st) := q_get C (j := 35) (u := 0) (by decide) rfl rfl q_fX12 (kf := 11) (by decide) q_fl_RX12_23 rfl hd k
theorem gf_RX12_26 (C : qCx l g X b RX12 d) (hd : decode b pc = .ok (.getfield 26, 3)) (k : qV l g X M (pc + 3) ls (qR g 52 0 :: st)) : qV l g X M pc ls (qR g 35 0 :: st) := q_get C (j := 35) (u := 0) (by decide) rfl rfl q_fX12 (kf := 12) (by decide) q_fl_RX12_26 rfl hd k
theorem gf_RX12_29 (C : qCx l g X b RX12 d) (hd : decode b pc = .ok (.getfield 29, 3)) (k : qV l g X M (pc + 3) ls (qR g 53 0 :: st)) : qV l g X M pc ls (qR g 35 0 :: st) := q_get C (j := 35) (u := 0) (by decide) rfl rfl q_fX12 (kf := 13) (by decide) q_fl_RX12_29 rfl hd k
theorem gf_RX12_32 (C : qCx l g X b RX12 d) (hd : decode b pc = .ok (.getfield 32, 3)) (k : qV l g X M (pc + 3) ls (qR g 54 0 :: st)) : qV l g X M pc ls (qR g 35 0 :: st) := q_get C (j := 35) (u := 0) (by decide) rfl rfl q_fX12 (kf := 14) (by decide) q_fl_RX12_32 rfl hd k
theorem gf_RX12_35 (C : qCx l g X b RX12 d) (hd : decode b pc = .ok (.getfield 35, 3)) (k : qIn (M 35 0 15) → qV l g X M (pc + 3) ls (qI (M 35 0 15) :: st)) : qV l g X M pc ls (qR g 35 0 :: st) := q_rng (fun hR => q_get C (j := 35) (u := 0) (by decide) rfl rfl q_fX12 (kf := 15) (by decide) q_fl_RX12_35 rfl hd (k (hR 35 0 15)))
theorem pf_RX12_35 (C : qCx l g X b RX12 d) {z : Int} (hz : qIn z) (hd : decode b pc = .ok (.putfield 35, 3)) (k : qV l g X (qUp M 35 0 15 z) (pc + 3) ls st) : qV l g X M pc ls (qI z :: qR g 35 0 :: st) := q_put C (j := 35) (u := 0) (kf := 15) (z := z) (ty := .int) (by decide) rfl rfl q_fX12 tyX12 tyX12_ok nmX12 (by decide) q_fl_RX12_35 rfl (by decide +kernel) rfl rfl (by simp) hz (by simp [qCell, qUp]) hd k
theorem gf_RX12_147 (C : qCx l g X b RX12 d) (hd : decode b pc = .ok (.getfield 147, 3)) (k : qIn (M 35 0 16) → qV l g X M (pc + 3) ls (qI (M 35 0 16) :: st)) : qV l g X M pc ls (qR g 35 0 :: st) := q_rng (fun hR => q_get C (j := 35) (u := 0) (by decide) rfl rfl q_fX12 (kf := 16) (by decide) q_fl_RX12_147 rfl hd (k (hR 35 0 16)))
theorem pf_RX12_147 (C : qCx l g X b RX12 d) {z : Int} (hz : qIn z) (hd : decode b pc = .ok (.putfield 147, 3)) (k : qV l g X (qUp M 35 0 16 z) (pc + 3) ls st) : qV l g X M pc ls (qI z :: qR g 35 0 :: st) := q_put C (j := 35) (u := 0) (kf := 16) (z := z) (ty := .int) (by decide) rfl rfl q_fX12 tyX12 tyX12_ok nmX12 (by decide) q_fl_RX12_147 rfl (by decide +kernel) rfl rfl (by simp) hz (by simp [qCell, qUp]) hd k
theorem gf_RX12_150 (C : qCx l g X b RX12 d) (hd : decode b pc = .ok (.getfield 150, 3)) (k : qIn (M 35 0 17) → qV l g X M (pc + 3) ls (qI (M 35 0 17) :: st)) : qV l g X M pc ls (qR g 35 0 :: st) := q_rng (fun hR => q_get C (j := 35) (u := 0) (by decide) rfl rfl q_fX12 (kf := 17) (by decide) q_fl_RX12_150 rfl hd (k (hR 35 0 17)))
theorem pf_RX12_150 (C : qCx l g X b RX12 d) {z : Int} (hz : qIn z) (hd : decode b pc = .ok (.putfield 150, 3)) (k : qV l g X (qUp M 35 0 17 z) (pc + 3) ls st) : qV l g X M pc ls (qI z :: qR g 35 0 :: st) := q_put C (j := 35) (u := 0) (kf := 17) (z := z) (ty := .int) (by decide) rfl rfl q_fX12 tyX12 tyX12_ok nmX12 (by decide) q_fl_RX12_150 rfl (by decide +kernel) rfl rfl (by simp) hz (by simp [qCell, qUp]) hd k
theorem gf_RX12_38 (C : qCx l g X b RX12 d) (hd : decode b pc = .ok (.getfield 38, 3)) (k : qV l g X M (pc + 3) ls (qR g 58 0 :: st)) : qV l g X M pc ls (qR g 35 0 :: st) := q_get C (j := 35) (u := 0) (by decide) rfl rfl q_fX12 (kf := 18) (by decide) q_fl_RX12_38 rfl hd k
theorem gf_RX12_41 (C : qCx l g X b RX12 d) (hd : decode b pc = .ok (.getfield 41, 3)) (k : qV l g X M (pc + 3) ls (qR g 59 0 :: st)) : qV l g X M pc ls (qR g 35 0 :: st) := q_get C (j := 35) (u := 0) (by decide) rfl rfl q_fX12 (kf := 19) (by decide) q_fl_RX12_41 rfl hd k
theorem gf_RX12_44 (C : qCx l g X b RX12 d) (hd : decode b pc = .ok (.getfield 44, 3)) (k : qV l g X M (pc + 3) ls (qR g 60 0 :: st)) : qV l g X M pc ls (qR g 35 0 :: st) := q_get C (j := 35) (u := 0) (by decide) rfl rfl q_fX12 (kf := 20) (by decide) q_fl_RX12_44 rfl hd k
theorem gf_RX12_47 (C : qCx l g X b RX12 d) (hd : decode b pc = .ok (.getfield 47, 3)) (k : qV l g X M (pc + 3) ls (qR g 61 0 :: st)) : qV l g X M pc ls (qR g 35 0 :: st) := q_get C (j := 35) (u := 0) (by decide) rfl rfl q_fX12 (kf := 21) (by decide) q_fl_RX12_47 rfl hd k
theorem gf_RX12_50 (C : qCx l g X b RX12 d) (hd : decode b pc = .ok (.getfield 50, 3)) (k : qV l g X M (pc + 3) ls (qR g 62 0 :: st)) : qV l g X M pc ls (qR g 35 0 :: st) := q_get C (j := 35) (u := 0) (by decide) rfl rfl q_fX12 (kf := 22) (by decide) q_fl_RX12_50 rfl hd k
theorem gf_RX12_53 (C : qCx l g X b RX12 d) (hd : decode b pc = .ok (.getfield 53, 3)) (k : qV l g X M (pc + 3) ls (qR g 63 0 :: st)) : qV l g X M pc ls (qR g 35 0 :: st) := q_get C (j := 35) (u := 0) (by decide) rfl rfl q_fX12 (kf := 23) (by decide) q_fl_RX12_53 rfl hd k
theorem gf_RX12_56 (C : qCx l g X b RX12 d) (hd : decode b pc = .ok (.getfield 56, 3)) (k : qV l g X M (pc + 3) ls (qR g 64 0 :: st)) : qV l g X M pc ls (qR g 35 0 :: st) := q_get C (j := 35) (u := 0) (by decide) rfl rfl q_fX12 (kf := 24) (by decide) q_fl_RX12_56 rfl hd k
theorem gf_RX12_153 (C : qCx l g X b RX12 d) (hd : decode b pc = .ok (.getfield 153, 3)) (k : qIn (M 35 0 25) → qV l g X M (pc + 3) ls (qI (M 35 0 25) :: st)) : qV l g X M pc ls (qR g 35 0 :: st) := q_rng (fun hR => q_get C (j := 35) (u := 0) (by decide) rfl rfl q_fX12 (kf := 25) (by decide) q_fl_RX12_153 rfl hd (k (hR 35 0 25)))
theorem pf_RX12_153 (C : qCx l g X b RX12 d) {z : Int} (hz : qIn z) (hd : decode b pc = .ok (.putfield 153, 3)) (k : qV l g X (qUp M 35 0 25 z) (pc + 3) ls st) : qV l g X M pc ls (qI z :: qR g 35 0 :: st) := q_put C (j := 35) (u := 0) (kf := 25) (z := z) (ty := .int) (by decide) rfl rfl q_fX12 tyX12 tyX12_ok nmX12 (by decide) q_fl_RX12_153 rfl (by decide +kernel) rfl rfl (by simp) hz (by simp [qCell, qUp]) hd k
theorem gf_RX12_225 (C : qCx l g X b RX12 d) (hd : decode b pc = .ok (.getfield 225, 3)) (k : qIn (M 35 0 26) → qV l g X M (pc + 3) ls (qI (M 35 0 26) :: st)) : qV l g X M pc ls (qR g 35 0 :: st) := q_rng (fun hR => q_get C (j := 35) (u := 0) (by decide) rfl rfl q_fX12 (kf := 26) (by decide) q_fl_RX12_225 rfl hd (k (hR 35 0 26)))
theorem pf_RX12_225 (C : qCx l g X b RX12 d) {z : Int} (hz : qIn z) (hd : decode b pc = .ok (.putfield 225, 3)) (k : qV l g X (qUp M 35 0 26 z) (pc + 3) ls st) : qV l g X M pc ls (qI z :: qR g 35 0 :: st) := q_put C (j := 35) (u := 0) (kf := 26) (z := z) (ty := .int) (by decide) rfl rfl q_fX12 tyX12 tyX12_ok nmX12 (by decide) q_fl_RX12_225 rfl (by decide +kernel) rfl rfl (by simp) hz (by simp [qCell, qUp]) hd k
theorem gf_RX12_59 (C : qCx l g X b RX12 d) (hd : decode b pc = .ok (.getfield 59, 3)) (k : qV l g X M (pc + 3) ls (qR g 67 0 :: st)) : qV l g X M pc ls (qR g 35 0 :: st) := q_get C (j := 35) (u := 0) (by decide) rfl rfl q_fX12 (kf := 27) (by decide) q_fl_RX12_59 rfl hd k
theorem gf_RX12_251 (C : qCx l g X b RX12 d) (hd : decode b pc = .ok (.getfield 251, 3)) (k : qIn (M 35 0 28) → qV l g X M (pc + 3) ls (qJ (M 35 0 28) :: st)) : qV l g X M pc ls (qR g 35 0 :: st) := q_rng (fun hR => q_get C (j := 35) (u := 0) (by decide) rfl rfl q_fX12 (kf := 28) (by decide) q_fl_RX12_251 rfl hd (k (hR 35 0 28)))
theorem pf_RX12_251 (C : qCx l g X b RX12 d) {z : Int} (hz : qIn z) (hd : decode b pc = .ok (.putfield 251, 3)) (k : qV l g X (qUp M 35 0 28 z) (pc + 3) ls st) : qV l g X M pc ls (qJ z :: qR g 35 0 :: st) := q_put C (j := 35) (u := 0) (kf := 28) (z := z) (ty := .long) (by decide) rfl rfl q_fX12 tyX12 tyX12_ok nmX12 (by decide) q_fl_RX12_251 rfl (by decide +kernel) rfl rfl (by simp) hz (by simp [qCell, qUp]) hd k
theorem gf_RX12_156 (C : qCx l g X b RX12 d) (hd : decode b pc = .ok (.getfield 156, 3)) (k : qIn (M 35 0 29) → qV l g X M (pc + 3) ls (qI (M 35 0 29) :: st)) : qV l g X M pc ls (qR g 35 0 :: st) := q_rng (fun hR => q_get C (j := 35) (u := 0) (by decide) rfl rfl q_fX12 (kf := 29) (by decide) q_fl_RX12_156 rfl hd (k (hR 35 0 29)))
theorem pf_RX12_156 (C : qCx l g X b RX12 d) {z : Int} (hz : qIn z) (hd : decode b pc = .ok (.putfield 156, 3)) (k : qV l g X (qUp M 35 0 29 z) (pc + 3) ls st) : qV l g X M pc ls (qI z :: qR g 35 0 :: st) := q_put C (j := 35) (u := 0) (kf := 29) (z := z) (ty := .int) (by decide) rfl rfl q_fX12 tyX12 tyX12_ok nmX12 (by decide) q_fl_RX12_156 rfl (by decide +kernel) rfl rfl (by simp) hz (by simp [qCell, qUp]) hd k
theorem gf_RX12_62 (C : qCx l g X b RX12 d) (hd : decode b pc = .ok (.getfield 62, 3)) (k : qV l g X M (pc + 3) ls (qR g 70 0 :: st)) : qV l g X M pc ls (qR g 35 0 :: st) := q_get C (j := 35) (u := 0) (by decide) rfl rfl q_fX12 (kf := 30) (by decide) q_fl_RX12_62 rfl hd k
theorem gf_RX12_65 (C : qCx l g X b RX12 d) (hd : decode b pc = .ok (.getfield 65, 3)) (k : qV l g X M (pc + 3) ls (qR g 71 0 :: st)) : qV l g X M pc ls (qR g 35 0 :: st) := q_get C (j := 35) (u := 0) (by decide) rfl rfl q_fX12 (kf := 31) (by decide) q_fl_RX12_65 rfl hd k
theorem gf_RX12_159 (C : qCx l g X b RX12 d) (hd : decode b pc = .ok (.getfield 159, 3)) (k : qIn (M 35 0 32) → qV l g X M (pc + 3) ls (qI (M 35 0 32) :: st)) : qV l g X M pc ls (qR g 35 0 :: st) := q_rng (fun hR => q_get C (j := 35) (u := 0) (by decide) rfl rfl q_fX12 (kf := 32) (by decide) q_fl_RX12_159 rfl hd (k (hR 35 0 32)))
theorem pf_RX12_159 (C : qCx l g X b RX12 d) {z : Int} (hz : qIn z) (hd : decode b pc = .ok (.putfield 159, 3)) (k : qV l g X (qUp M 35 0 32 z) (pc + 3) ls st) : qV l g X M pc ls (qI z :: qR g 35 0 :: st) := q_put C (j := 35) (u := 0) (kf := 32) (z := z) (ty := .int) (by decide) rfl rfl q_fX12 tyX12 tyX12_ok nmX12 (by decide) q_fl_RX12_159 rfl (by decide +kernel) rfl rfl (by simp) hz (by simp [qCell, qUp]) hd k
theorem gf_RX12_68 (C : qCx l g X b RX12 d) (hd : decode b pc = .ok (.getfield 68, 3)) (k : qV l g X M (pc + 3) ls (qR g 73 0 :: st)) : qV l g X M pc ls (qR g 35 0 :: st) := q_get C (j := 35) (u := 0) (by decide) rfl rfl q_fX12 (kf := 33) (by decide) q_fl_RX12_68 rfl hd k
theorem gf_RX12_71 (C : qCx l g X b RX12 d) (hd : decode b pc = .ok (.getfield 71, 3)) (k : qV l g X M (pc + 3) ls (qR g 74 0 :: st)) : qV l g X M pc ls (qR g 35 0 :: st) := q_get C (j := 35) (u := 0) (by decide) rfl rfl q_fX12 (kf := 34) (by decide) q_fl_RX12_71 rfl hd k
theorem gf_RX12_74 (C : qCx l g X b RX12 d) (hd : decode b pc = .ok (.getfield 74, 3)) (k : qV l g X M (pc + 3) ls (qR g 75 0 :: st)) : qV l g X M pc ls (qR g 35 0 :: st) := q_get C (j := 35) (u := 0) (by decide) rfl rfl q_fX12 (kf := 35) (by decide) q_fl_RX12_74 rfl hd k
theorem gf_RX12_78 (C : qCx l g X b RX12 d) (hd : decode b pc = .ok (.getfield 78, 3)) (k : qV l g X M (pc + 3) ls (qR g 76 0 :: st)) : qV l g X M pc ls (qR g 35 0 :: st) := q_get C (j := 35) (u := 0) (by decide) rfl rfl q_fX12 (kf := 36) (by decide) q_fl_RX12_78 rfl hd k
theorem gf_RX12_81 (C : qCx l g X b RX12 d) (hd : decode b pc = .ok (.getfield 81, 3)) (k : qV l g X M (pc + 3) ls (qR g 77 0 :: st)) : qV l g X M pc ls (qR g 35 0 :: st) := q_get C (j := 35) (u := 0) (by decide) rfl rfl q_fX12 (kf := 37) (by decide) q_fl_RX12_81 rfl hd k
theorem lk_RL_13 : qLk RL 13 yX11_feed cX11_feed 2 (some .int) 1 := ⟨q_ml_RL_13, q_in_RX11, q_cd_yX11_feed, ⟨by decide, by decide⟩, by decide +kernel, by decide⟩
theorem cv_RL_13 (C : qCx l g X b RL d) {d' : Nat} (hd' : d' < d) {a1 : Value} {rest : List Value} {z : Int} {M' : qMem} (hok : qOk l g d' yX11_feed cX11_feed 2 (some .int) [qR g 0 0, a1] M (qEv (some z) M')) (hd : decode b pc = .ok (.invokevirtual 13, 3)) (hrest : (rest.map fun v => v.category).sum ≤ 8) (k : qIn z → qV l g X M' (pc + 3) ls (qI z :: rest)) : qV l g X M pc ls (a1 :: qR g 0 0 :: rest) := q_callV C lk_RL_13 q_im_yX11_feed q_se_yX11_feed rfl hd' (j := 0) (u := 0) (by decide) rfl rfl hok hd hrest rfl (q_evI k)
theorem cw_RL_13 (C : qCx l g X b RL d) {d' : Nat} (hd' : d' < d) {a1 : Value} {rest : List Value} {P : Option Int → qMem → Prop} (hok : qOk l g d' yX11_feed cX11_feed 2 (some .int) [qR g 0 0, a1] M P) (hd : decode b pc = .ok (.invokevirtual 13, 3)) (hrest : (rest.map fun v => v.category).sum ≤ 8) (k : ∀ (r : Option Int) (M' : qMem), (∀ z, r = some z → qIn z) → P r M' → qV l g X M' (pc + 3) ls ((r.map qI).toList ++ rest)) : qV l g X M pc ls (a1 :: qR g 0 0 :: rest) := q_callV C lk_RL_13 q_im_yX11_feed q_se_yX11_feed rfl hd' (j := 0) (u := 0) (by decide) rfl rfl hok hd hrest rfl k
theorem lk_RX11_86 : qLk RX11 86 yX11_isWithin cX11_isWithin 2 (some .boolean) 2 := ⟨q_ml_RX11_86, q_in_RX11, q_cd_yX11_isWithin, ⟨by decide, by decide⟩, by decide +kernel, by decide⟩
theorem cv_RX11_86 (C : qCx l g X b RX11 d) {d' : Nat} (hd' : d' < d) {a1 a2 : Value} {rest : List Value} {z : Int} {M' : qMem} (hok : qOk l g d' yX11_isWithin cX11_isWithin 2 (some .boolean) [a1, a2] M (qEv (some z) M')) (hd : decode b pc = .ok (.invokestatic 86, 3)) (hrest : (rest.map fun v => v.category).sum ≤ 8) (k : qIn z → qV l g X M' (pc + 3) ls (qI z :: rest)) : qV l g X M pc ls (a2 :: a1 :: rest) := q_callS C lk_RX11_86 q_st_yX11_isWithin rfl hd' hok hd hrest rfl (q_evI k)
theorem cw_RX11_86 (C : qCx l g X b RX11 d) {d' : Nat} (hd' : d' < d) {a1 a2 : Value} {rest : List Value} {P : Option Int → qMem → Prop} (hok : qOk l g d' yX11_isWithin cX11_isWithin 2 (some .boolean) [a1, a2] M P) (hd : decode b pc = .ok (.invokestatic 86, 3)) (hrest : (rest.map fun v => v.category).sum ≤ 8) (k : ∀ (r : Option Int) (M' : qMem), (∀ z, r = some z → qIn z) → P r M' → qV l g X M' (pc + 3) ls ((r.map qI).toList ++ rest)) : qV l g X M pc ls (a2 :: a1 :: rest) := q_callS C lk_RX11_86 q_st_yX11_isWithin rfl hd' hok hd hrest rfl k
theorem lk_RX11_91 : qLk RX11 91 yX9_append cX9_append 2 (some .boolean) 1 := ⟨q_ml_RX11_91, q_in_RX9, q_cd_yX9_append, ⟨by decide, by decide⟩, by decide +kernel, by decide⟩
theorem cv_RX11_91 (C : qCx l g X b RX11 d) {d' : Nat} (hd' : d' < d) {a1 : Value} {rest : List Value} {z : Int} {M' : qMem} (hok : qOk l g d' yX9_append cX9_append 2 (some .boolean) [qR g 1 0, a1] M (qEv (some z) M')) (hd : decode b pc = .ok (.invokevirtual 91, 3)) (hrest : (rest.map fun v => v.category).sum ≤ 8) (k : qIn z → qV l g X M' (pc + 3) ls (qI z :: rest)) : qV l g X M pc ls (a1 :: qR g 1 0 :: rest) := q_callV C lk_RX11_91 q_im_yX9_append q_se_yX9_append rfl hd' (j := 1) (u := 0) (by decide) rfl rfl hok hd hrest rfl (q_evI k)
theorem cw_RX11_91 (C : qCx l g X b RX11 d) {d' : Nat} (hd' : d' < d) {a1 : Value} {rest : List Value} {P : Option Int → qMem → Prop} (hok : qOk l g d' yX9_append cX9_append 2 (some .boolean) [qR g 1 0, a1] M P) (hd : decode b pc = .ok (.invokevirtual 91, 3)) (hrest : (rest.map fun v => v.category).sum ≤ 8) (k : ∀ (r : Option Int) (M' : qMem), (∀ z, r = some z → qIn z) → P r M' → qV l g X M' (pc + 3) ls ((r.map qI).toList ++ rest)) : qV l g X M pc ls (a1 :: qR g 1 0 :: rest) := q_callV C lk_RX11_91 q_im_yX9_append q_se_yX9_append rfl hd' (j := 1) (u := 0) (by decide) rfl rfl hok hd hrest rfl k
theorem lk_RL_18 : qLk RL 18 yX11_season cX11_season 1 (some .int) 0 := ⟨q_ml_RL_18, q_in_RX11, q_cd_yX11_season, ⟨by decide, by decide⟩, by decide +kernel, by decide⟩
theorem cv_RL_18 (C : qCx l g X b RL d) {d' : Nat} (hd' : d' < d) {rest : List Value} {z : Int} {M' : qMem} (hok : qOk l g d' yX11_season cX11_season 1 (some .int) [qR g 0 0] M (qEv (some z) M')) (hd : decode b pc = .ok (.invokevirtual 18, 3)) (hrest : (rest.map fun v => v.category).sum ≤ 8) (k : qIn z → qV l g X M' (pc + 3) ls (qI z :: rest)) : qV l g X M pc ls (qR g 0 0 :: rest) := q_callV C lk_RL_18 q_im_yX11_season q_se_yX11_season rfl hd' (j := 0) (u := 0) (by decide) rfl rfl hok hd hrest rfl (q_evI k)
theorem cw_RL_18 (C : qCx l g X b RL d) {d' : Nat} (hd' : d' < d) {rest : List Value} {P : Option Int → qMem → Prop} (hok : qOk l g d' yX11_season cX11_season 1 (some .int) [qR g 0 0] M P) (hd : decode b pc = .ok (.invokevirtual 18, 3)) (hrest : (rest.map fun v => v.category).sum ≤ 8) (k : ∀ (r : Option Int) (M' : qMem), (∀ z, r = some z → qIn z) → P r M' → qV l g X M' (pc + 3) ls ((r.map qI).toList ++ rest)) : qV l g X M pc ls (qR g 0 0 :: rest) := q_callV C lk_RL_18 q_im_yX11_season q_se_yX11_season rfl hd' (j := 0) (u := 0) (by decide) rfl rfl hok hd hrest rfl k
theorem lk_RX11_99 : qLk RX11 99 yX9_read cX9_read 3 (some .boolean) 1 := ⟨q_ml_RX11_99, q_in_RX9, q_cd_yX9_read, ⟨by decide, by decide⟩, by decide +kernel, by decide⟩
theorem cv_RX11_99 (C : qCx l g X b RX11 d) {d' : Nat} (hd' : d' < d) {a1 : Value} {rest : List Value} {z : Int} {M' : qMem} (hok : qOk l g d' yX9_read cX9_read 3 (some .boolean) [qR g 1 0, a1] M (qEv (some z) M')) (hd : decode b pc = .ok (.invokevirtual 99, 3)) (hrest : (rest.map fun v => v.category).sum ≤ 8) (k : qIn z → qV l g X M' (pc + 3) ls (qI z :: rest)) : qV l g X M pc ls (a1 :: qR g 1 0 :: rest) := q_callV C lk_RX11_99 q_im_yX9_read q_se_yX9_read rfl hd' (j := 1) (u := 0) (by decide) rfl rfl hok hd hrest rfl (q_evI k)
theorem cw_RX11_99 (C : qCx l g X b RX11 d) {d' : Nat} (hd' : d' < d) {a1 : Value} {rest : List Value} {P : Option Int → qMem → Prop} (hok : qOk l g d' yX9_read cX9_read 3 (some .boolean) [qR g 1 0, a1] M P) (hd : decode b pc = .ok (.invokevirtual 99, 3)) (hrest : (rest.map fun v => v.category).sum ≤ 8) (k : ∀ (r : Option Int) (M' : qMem), (∀ z, r = some z → qIn z) → P r M' → qV l g X M' (pc + 3) ls ((r.map qI).toList ++ rest)) : qV l g X M pc ls (a1 :: qR g 1 0 :: rest) := q_callV C lk_RX11_99 q_im_yX9_read q_se_yX9_read rfl hd' (j := 1) (u := 0) (by decide) rfl rfl hok hd hrest rfl k
theorem lk_RX9_28 : qLk RX9 28 yX7_empty cX7_empty 1 none 0 := ⟨q_ml_RX9_28, q_in_RX7, q_cd_yX7_empty, ⟨by decide, by decide⟩, by decide +kernel, by decide⟩
theorem cv_RX9_28 (C : qCx l g X b RX9 d) {d' : Nat} (hd' : d' < d) {u : Nat} (hu : u < 2) {rest : List Value} {M' : qMem} (hok : qOk l g d' yX7_empty cX7_empty 1 none [qR g 3 u] M (qEv none M')) (hd : decode b pc = .ok (.invokevirtual 28, 3)) (hrest : (rest.map fun v => v.category).sum ≤ 8) (k : qV l g X M' (pc + 3) ls rest) : qV l g X M pc ls (qR g 3 u :: rest) := q_callV C lk_RX9_28 q_im_yX7_empty q_se_yX7_empty rfl hd' (j := 3) (u := u) hu rfl rfl hok hd hrest rfl (q_evV k)
theorem cw_RX9_28 (C : qCx l g X b RX9 d) {d' : Nat} (hd' : d' < d) {u : Nat} (hu : u < 2) {rest : List Value} {P : Option Int → qMem → Prop} (hok : qOk l g d' yX7_empty cX7_empty 1 none [qR g 3 u] M P) (hd : decode b pc = .ok (.invokevirtual 28, 3)) (hrest : (rest.map fun v => v.category).sum ≤ 8) (k : ∀ (r : Option Int) (M' : qMem), (∀ z, r = some z → qIn z) → P r M' → qV l g X M' (pc + 3) ls ((r.map qI).toList ++ rest)) : qV l g X M pc ls (qR g 3 u :: rest) := q_callV C lk_RX9_28 q_im_yX7_empty q_se_yX7_empty rfl hd' (j := 3) (u := u) hu rfl rfl hok hd hrest rfl k
theorem lk_RX7_51 : qLk RX7 51 yJ7_fill_53178 cJ7_fill_53178 4 none 2 := ⟨q_ml_RX7_51, q_in_RJ7, q_cd_yJ7_fill_53178, ⟨by decide, by decide⟩, by decide +kernel, by decide⟩
theorem cv_RX7_51 (C : qCx l g X b RX7 d) {d' : Nat} (hd' : d' < d) {a1 a2 : Value} {rest : List Value} {M' : qMem} (hok : qOk l g d' yJ7_fill_53178 cJ7_fill_53178 4 none [a1, a2] M (qEv none M')) (hd : decode b pc = .ok (.invokestatic 51, 3)) (hrest : (rest.map fun v => v.category).sum ≤ 8) (k : qV l g X M' (pc + 3) ls rest) : qV l g X M pc ls (a2 :: a1 :: rest) := q_callS C lk_RX7_51 q_st_yJ7_fill_53178 rfl hd' hok hd hrest rfl (q_evV k)
theorem cw_RX7_51 (C : qCx l g X b RX7 d) {d' : Nat} (hd' : d' < d) {a1 a2 : Value} {rest : List Value} {P : Option Int → qMem → Prop} (hok : qOk l g d' yJ7_fill_53178 cJ7_fill_53178 4 none [a1, a2] M P) (hd : decode b pc = .ok (.invokestatic 51, 3)) (hrest : (rest.map fun v => v.category).sum ≤ 8) (k : ∀ (r : Option Int) (M' : qMem), (∀ z, r = some z → qIn z) → P r M' → qV l g X M' (pc + 3) ls ((r.map qI).toList ++ rest)) : qV l g X M pc ls (a2 :: a1 :: rest) := q_callS C lk_RX7_51 q_st_yJ7_fill_53178 rfl hd' hok hd hrest rfl k
theorem lk_RX9_33 : qLk RX9 33 yX9_peek cX9_peek 1 (some .int) 0 := ⟨q_ml_RX9_33, q_in_RX9, q_cd_yX9_peek, ⟨by decide, by decide⟩, by decide +kernel, by decide⟩
theorem cv_RX9_33 (C : qCx l g X b RX9 d) {d' : Nat} (hd' : d' < d) {rest : List Value} {z : Int} {M' : qMem} (hok : qOk l g d' yX9_peek cX9_peek 1 (some .int) [qR g 1 0] M (qEv (some z) M')) (hd : decode b pc = .ok (.invokevirtual 33, 3)) (hrest : (rest.map fun v => v.category).sum ≤ 8) (k : qIn z → qV l g X M' (pc + 3) ls (qI z :: rest)) : qV l g X M pc ls (qR g 1 0 :: rest) := q_callV C lk_RX9_33 q_im_yX9_peek q_se_yX9_peek rfl hd' (j := 1) (u := 0) (by decide) rfl rfl hok hd hrest rfl (q_evI k)
theorem cw_RX9_33 (C : qCx l g X b RX9 d) {d' : Nat} (hd' : d' < d) {rest : List Value} {P : Option Int → qMem → Prop} (hok : qOk l g d' yX9_peek cX9_peek 1 (some .int) [qR g 1 0] M P) (hd : decode b pc = .ok (.invokevirtual 33, 3)) (hrest : (rest.map fun v => v.category).sum ≤ 8) (k : ∀ (r : Option Int) (M' : qMem), (∀ z, r = some z → qIn z) → P r M' → qV l g X M' (pc + 3) ls ((r.map qI).toList ++ rest)) : qV l g X M pc ls (qR g 1 0 :: rest) := q_callV C lk_RX9_33 q_im_yX9_peek q_se_yX9_peek rfl hd' (j := 1) (u := 0) (by decide) rfl rfl hok hd hrest rfl k
theorem lk_RX9_37 : qLk RX9 37 yX9_readClause cX9_readClause 3 none 1 := ⟨q_ml_RX9_37, q_in_RX9, q_cd_yX9_readClause, ⟨by decide, by decide⟩, by decide +kernel, by decide⟩
theorem cv_RX9_37 (C : qCx l g X b RX9 d) {d' : Nat} (hd' : d' < d) {a1 : Value} {rest : List Value} {M' : qMem} (hok : qOk l g d' yX9_readClause cX9_readClause 3 none [qR g 1 0, a1] M (qEv none M')) (hd : decode b pc = .ok (.invokevirtual 37, 3)) (hrest : (rest.map fun v => v.category).sum ≤ 8) (k : qV l g X M' (pc + 3) ls rest) : qV l g X M pc ls (a1 :: qR g 1 0 :: rest) := q_callV C lk_RX9_37 q_im_yX9_readClause q_se_yX9_readClause rfl hd' (j := 1) (u := 0) (by decide) rfl rfl hok hd hrest rfl (q_evV k)
theorem cw_RX9_37 (C : qCx l g X b RX9 d) {d' : Nat} (hd' : d' < d) {a1 : Value} {rest : List Value} {P : Option Int → qMem → Prop} (hok : qOk l g d' yX9_readClause cX9_readClause 3 none [qR g 1 0, a1] M P) (hd : decode b pc = .ok (.invokevirtual 37, 3)) (hrest : (rest.map fun v => v.category).sum ≤ 8) (k : ∀ (r : Option Int) (M' : qMem), (∀ z, r = some z → qIn z) → P r M' → qV l g X M' (pc + 3) ls ((r.map qI).toList ++ rest)) : qV l g X M pc ls (a1 :: qR g 1 0 :: rest) := q_callV C lk_RX9_37 q_im_yX9_readClause q_se_yX9_readClause rfl hd' (j := 1) (u := 0) (by decide) rfl rfl hok hd hrest rfl k
theorem lk_RX9_41 : qLk RX9 41 yX7_isOn cX7_isOn 1 (some .boolean) 0 := ⟨q_ml_RX9_41, q_in_RX7, q_cd_yX7_isOn, ⟨by decide, by decide⟩, by decide +kernel, by decide⟩
theorem cv_RX9_41 (C : qCx l g X b RX9 d) {d' : Nat} (hd' : d' < d) {u : Nat} (hu : u < 2) {rest : List Value} {z : Int} {M' : qMem} (hok : qOk l g d' yX7_isOn cX7_isOn 1 (some .boolean) [qR g 3 u] M (qEv (some z) M')) (hd : decode b pc = .ok (.invokevirtual 41, 3)) (hrest : (rest.map fun v => v.category).sum ≤ 8) (k : qIn z → qV l g X M' (pc + 3) ls (qI z :: rest)) : qV l g X M pc ls (qR g 3 u :: rest) := q_callV C lk_RX9_41 q_im_yX7_isOn q_se_yX7_isOn rfl hd' (j := 3) (u := u) hu rfl rfl hok hd hrest rfl (q_evI k)
theorem cw_RX9_41 (C : qCx l g X b RX9 d) {d' : Nat} (hd' : d' < d) {u : Nat} (hu : u < 2) {rest : List Value} {P : Option Int → qMem → Prop} (hok : qOk l g d' yX7_isOn cX7_isOn 1 (some .boolean) [qR g 3 u] M P) (hd : decode b pc = .ok (.invokevirtual 41, 3)) (hrest : (rest.map fun v => v.category).sum ≤ 8) (k : ∀ (r : Option Int) (M' : qMem), (∀ z, r = some z → qIn z) → P r M' → qV l g X M' (pc + 3) ls ((r.map qI).toList ++ rest)) : qV l g X M pc ls (qR g 3 u :: rest) := q_callV C lk_RX9_41 q_im_yX7_isOn q_se_yX7_isOn rfl hd' (j := 3) (u := u) hu rfl rfl hok hd hrest rfl k
theorem lk_RX9_45 : qLk RX9 45 yX9_fail cX9_fail 3 none 2 := ⟨q_ml_RX9_45, q_in_RX9, q_cd_yX9_fail, ⟨by decide, by decide⟩, by decide +kernel, by decide⟩
theorem cv_RX9_45 (C : qCx l g X b RX9 d) {d' : Nat} (hd' : d' < d) {a1 a2 : Value} {rest : List Value} {M' : qMem} (hok : qOk l g d' yX9_fail cX9_fail 3 none [qR g 1 0, a1, a2] M (qEv none M')) (hd : decode b pc = .ok (.invokevirtual 45, 3)) (hrest : (rest.map fun v => v.category).sum ≤ 8) (k : qV l g X M' (pc + 3) ls rest) : qV l g X M pc ls (a2 :: a1 :: qR g 1 0 :: rest) := q_callV C lk_RX9_45 q_im_yX9_fail q_se_yX9_fail rfl hd' (j := 1) (u := 0) (by decide) rfl rfl hok hd hrest rfl (q_evV k)
theorem cw_RX9_45 (C : qCx l g X b RX9 d) {d' : Nat} (hd' : d' < d) {a1 a2 : Value} {rest : List Value} {P : Option Int → qMem → Prop} (hok : qOk l g d' yX9_fail cX9_fail 3 none [qR g 1 0, a1, a2] M P) (hd : decode b pc = .ok (.invokevirtual 45, 3)) (hrest : (rest.map fun v => v.category).sum ≤ 8) (k : ∀ (r : Option Int) (M' : qMem), (∀ z, r = some z → qIn z) → P r M' → qV l g X M' (pc + 3) ls ((r.map qI).toList ++ rest)) : qV l g X M pc ls (a2 :: a1 :: qR g 1 0 :: rest) := q_callV C lk_RX9_45 q_im_yX9_fail q_se_yX9_fail rfl hd' (j := 1) (u := 0) (by decide) rfl rfl hok hd hrest rfl k
theorem lk_RX9_55 : qLk RX9 55 yX9_readNumbers cX9_readNumbers 5 none 2 := ⟨q_ml_RX9_55, q_in_RX9, q_cd_yX9_readNumbers, ⟨by decide, by decide⟩, by decide +kernel, by decide⟩
theorem cv_RX9_55 (C : qCx l g X b RX9 d) {d' : Nat} (hd' : d' < d) {a1 a2 : Value} {rest : List Value} {M' : qMem} (hok : qOk l g d' yX9_readNumbers cX9_readNumbers 5 none [qR g 1 0, a1, a2] M (qEv none M')) (hd : decode b pc = .ok (.invokevirtual 55, 3)) (hrest : (rest.map fun v => v.category).sum ≤ 8) (k : qV l g X M' (pc + 3) ls rest) : qV l g X M pc ls (a2 :: a1 :: qR g 1 0 :: rest) := q_callV C lk_RX9_55 q_im_yX9_readNumbers q_se_yX9_readNumbers rfl hd' (j := 1) (u := 0) (by decide) rfl rfl hok hd hrest rfl (q_evV k)
theorem cw_RX9_55 (C : qCx l g X b RX9 d) {d' : Nat} (hd' : d' < d) {a1 a2 : Value} {rest : List Value} {P : Option Int → qMem → Prop} (hok : qOk l g d' yX9_readNumbers cX9_readNumbers 5 none [qR g 1 0, a1, a2] M P) (hd : decode b pc = .ok (.invokevirtual 55, 3)) (hrest : (rest.map fun v => v.category).sum ≤ 8) (k : ∀ (r : Option Int) (M' : qMem), (∀ z, r = some z → qIn z) → P r M' → qV l g X M' (pc + 3) ls ((r.map qI).toList ++ rest)) : qV l g X M pc ls (a2 :: a1 :: qR g 1 0 :: rest) := q_callV C lk_RX9_55 q_im_yX9_readNumbers q_se_yX9_readNumbers rfl hd' (j := 1) (u := 0) (by decide) rfl rfl hok hd hrest rfl k
theorem lk_RX9_62 : qLk RX9 62 yX9_number cX9_number 4 (some .int) 1 := ⟨q_ml_RX9_62, q_in_RX9, q_cd_yX9_number, ⟨by decide, by decide⟩, by decide +kernel, by decide⟩
theorem cv_RX9_62 (C : qCx l g X b RX9 d) {d' : Nat} (hd' : d' < d) {a1 : Value} {rest : List Value} {z : Int} {M' : qMem} (hok : qOk l g d' yX9_number cX9_number 4 (some .int) [qR g 1 0, a1] M (qEv (some z) M')) (hd : decode b pc = .ok (.invokevirtual 62, 3)) (hrest : (rest.map fun v => v.category).sum ≤ 8) (k : qIn z → qV l g X M' (pc + 3) ls (qI z :: rest)) : qV l g X M pc ls (a1 :: qR g 1 0 :: rest) := q_callV C lk_RX9_62 q_im_yX9_number q_se_yX9_number rfl hd' (j := 1) (u := 0) (by decide) rfl rfl hok hd hrest rfl (q_evI k)
theorem cw_RX9_62 (C : qCx l g X b RX9 d) {d' : Nat} (hd' : d' < d) {a1 : Value} {rest : List Value} {P : Option Int → qMem → Prop} (hok : qOk l g d' yX9_number cX9_number 4 (some .int) [qR g 1 0, a1] M P) (hd : decode b pc = .ok (.invokevirtual 62, 3)) (hrest : (rest.map fun v => v.category).sum ≤ 8) (k : ∀ (r : Option Int) (M' : qMem), (∀ z, r = some z → qIn z) → P r M' → qV l g X M' (pc + 3) ls ((r.map qI).toList ++ rest)) : qV l g X M pc ls (a1 :: qR g 1 0 :: rest) := q_callV C lk_RX9_62 q_im_yX9_number q_se_yX9_number rfl hd' (j := 1) (u := 0) (by decide) rfl rfl hok hd hrest rfl k
theorem lk_RX9_82 : qLk RX9 82 yX9_isFigure cX9_isFigure 1 (some .boolean) 1 := ⟨q_ml_RX9_82, q_in_RX9, q_cd_yX9_isFigure, ⟨by decide, by decide⟩, by decide +kernel, by decide⟩
theorem cv_RX9_82 (C : qCx l g X b RX9 d) {d' : Nat} (hd' : d' < d) {a1 : Value} {rest : List Value} {z : Int} {M' : qMem} (hok : qOk l g d' yX9_isFigure cX9_isFigure 1 (some .boolean) [a1] M (qEv (some z) M')) (hd : decode b pc = .ok (.invokestatic 82, 3)) (hrest : (rest.map fun v => v.category).sum ≤ 8) (k : qIn z → qV l g X M' (pc + 3) ls (qI z :: rest)) : qV l g X M pc ls (a1 :: rest) := q_callS C lk_RX9_82 q_st_yX9_isFigure rfl hd' hok hd hrest rfl (q_evI k)
theorem cw_RX9_82 (C : qCx l g X b RX9 d) {d' : Nat} (hd' : d' < d) {a1 : Value} {rest : List Value} {P : Option Int → qMem → Prop} (hok : qOk l g d' yX9_isFigure cX9_isFigure 1 (some .boolean) [a1] M P) (hd : decode b pc = .ok (.invokestatic 82, 3)) (hrest : (rest.map fun v => v.category).sum ≤ 8) (k : ∀ (r : Option Int) (M' : qMem), (∀ z, r = some z → qIn z) → P r M' → qV l g X M' (pc + 3) ls ((r.map qI).toList ++ rest)) : qV l g X M pc ls (a1 :: rest) := q_callS C lk_RX9_82 q_st_yX9_isFigure rfl hd' hok hd hrest rfl k
theorem lk_RX9_86 : qLk RX9 86 yJ9_min_7cf53 cJ9_min_7cf53 2 (some .int) 2 := ⟨q_ml_RX9_86, q_in_RJ9, q_cd_yJ9_min_7cf53, ⟨by decide, by decide⟩, by decide +kernel, by decide⟩
theorem cv_RX9_86 (C : qCx l g X b RX9 d) {d' : Nat} (hd' : d' < d) {a1 a2 : Value} {rest : List Value} {z : Int} {M' : qMem} (hok : qOk l g d' yJ9_min_7cf53 cJ9_min_7cf53 2 (some .int) [a1, a2] M (qEv (some z) M')) (hd : decode b pc = .ok (.invokestatic 86, 3)) (hrest : (rest.map fun v => v.category).sum ≤ 8) (k : qIn z → qV l g X M' (pc + 3) ls (qI z :: rest)) : qV l g X M pc ls (a2 :: a1 :: rest) := q_callS C lk_RX9_86 q_st_yJ9_min_7cf53 rfl hd' hok hd hrest rfl (q_evI k)
theorem cw_RX9_86 (C : qCx l g X b RX9 d) {d' : Nat} (hd' : d' < d) {a1 a2 : Value} {rest : List Value} {P : Option Int → qMem → Prop} (hok : qOk l g d' yJ9_min_7cf53 cJ9_min_7cf53 2 (some .int) [a1, a2] M P) (hd : decode b pc = .ok (.invokestatic 86, 3)) (hrest : (rest.map fun v => v.category).sum ≤ 8) (k : ∀ (r : Option Int) (M' : qMem), (∀ z, r = some z → qIn z) → P r M' → qV l g X M' (pc + 3) ls ((r.map qI).toList ++ rest)) : qV l g X M pc ls (a2 :: a1 :: rest) := q_callS C lk_RX9_86 q_st_yJ9_min_7cf53 rfl hd' hok hd hrest rfl k
theorem lk_RX9_69 : qLk RX9 69 yX7_addComer cX7_addComer 4 none 3 := ⟨q_ml_RX9_69, q_in_RX7, q_cd_yX7_addComer, ⟨by decide, by decide⟩, by decide +kernel, by decide⟩
theorem cv_RX9_69 (C : qCx l g X b RX9 d) {d' : Nat} (hd' : d' < d) {u : Nat} (hu : u < 2) {a1 a2 a3 : Value} {rest : List Value} {M' : qMem} (hok : qOk l g d' yX7_addComer cX7_addComer 4 none [qR g 3 u, a1, a2, a3] M (qEv none M')) (hd : decode b pc = .ok (.invokevirtual 69, 3)) (hrest : (rest.map fun v => v.category).sum ≤ 8) (k : qV l g X M' (pc + 3) ls rest) : qV l g X M pc ls (a3 :: a2 :: a1 :: qR g 3 u :: rest) := q_callV C lk_RX9_69 q_im_yX7_addComer q_se_yX7_addComer rfl hd' (j := 3) (u := u) hu rfl rfl hok hd hrest rfl (q_evV k)
theorem cw_RX9_69 (C : qCx l g X b RX9 d) {d' : Nat} (hd' : d' < d) {u : Nat} (hu : u < 2) {a1 a2 a3 : Value} {rest : List Value} {P : Option Int → qMem → Prop} (hok : qOk l g d' yX7_addComer cX7_addComer 4 none [qR g 3 u, a1, a2, a3] M P) (hd : decode b pc = .ok (.invokevirtual 69, 3)) (hrest : (rest.map fun v => v.category).sum ≤ 8) (k : ∀ (r : Option Int) (M' : qMem), (∀ z, r = some z → qIn z) → P r M' → qV l g X M' (pc + 3) ls ((r.map qI).toList ++ rest)) : qV l g X M pc ls (a3 :: a2 :: a1 :: qR g 3 u :: rest) := q_callV C lk_RX9_69 q_im_yX7_addComer q_se_yX7_addComer rfl hd' (j := 3) (u := u) hu rfl rfl hok hd hrest rfl k
theorem lk_RX9_73 : qLk RX9 73 yX7_addHouse cX7_addHouse 3 none 2 := ⟨q_ml_RX9_73, q_in_RX7, q_cd_yX7_addHouse, ⟨by decide, by decide⟩, by decide +kernel, by decide⟩
theorem cv_RX9_73 (C : qCx l g X b RX9 d) {d' : Nat} (hd' : d' < d) {u : Nat} (hu : u < 2) {a1 a2 : Value} {rest : List Value} {M' : qMem} (hok : qOk l g d' yX7_addHouse cX7_addHouse 3 none [qR g 3 u, a1, a2] M (qEv none M')) (hd : decode b pc = .ok (.invokevirtual 73, 3)) (hrest : (rest.map fun v => v.category).sum ≤ 8) (k : qV l g X M' (pc + 3) ls rest) : qV l g X M pc ls (a2 :: a1 :: qR g 3 u :: rest) := q_callV C lk_RX9_73 q_im_yX7_addHouse q_se_yX7_addHouse rfl hd' (j := 3) (u := u) hu rfl rfl hok hd hrest rfl (q_evV k)
theorem cw_RX9_73 (C : qCx l g X b RX9 d) {d' : Nat} (hd' : d' < d) {u : Nat} (hu : u < 2) {a1 a2 : Value} {rest : List Value} {P : Option Int → qMem → Prop} (hok : qOk l g d' yX7_addHouse cX7_addHouse 3 none [qR g 3 u, a1, a2] M P) (hd : decode b pc = .ok (.invokevirtual 73, 3)) (hrest : (rest.map fun v => v.category).sum ≤ 8) (k : ∀ (r : Option Int) (M' : qMem), (∀ z, r = some z → qIn z) → P r M' → qV l g X M' (pc + 3) ls ((r.map qI).toList ++ rest)) : qV l g X M pc ls (a2 :: a1 :: qR g 3 u :: rest) := q_callV C lk_RX9_73 q_im_yX7_addHouse q_se_yX7_addHouse rfl hd' (j := 3) (u := u) hu rfl rfl hok hd hrest rfl k
theorem lk_RX9_76 : qLk RX9 76 yX9_readPrizes cX9_readPrizes 4 none 1 := ⟨q_ml_RX9_76, q_in_RX9, q_cd_yX9_readPrizes, ⟨by decide, by decide⟩, by decide +kernel, by decide⟩
theorem cv_RX9_76 (C : qCx l g X b RX9 d) {d' : Nat} (hd' : d' < d) {a1 : Value} {rest : List Value} {M' : qMem} (hok : qOk l g d' yX9_readPrizes cX9_readPrizes 4 none [qR g 1 0, a1] M (qEv none M')) (hd : decode b pc = .ok (.invokevirtual 76, 3)) (hrest : (rest.map fun v => v.category).sum ≤ 8) (k : qV l g X M' (pc + 3) ls rest) : qV l g X M pc ls (a1 :: qR g 1 0 :: rest) := q_callV C lk_RX9_76 q_im_yX9_readPrizes q_se_yX9_readPrizes rfl hd' (j := 1) (u := 0) (by decide) rfl rfl hok hd hrest rfl (q_evV k)
theorem cw_RX9_76 (C : qCx l g X b RX9 d) {d' : Nat} (hd' : d' < d) {a1 : Value} {rest : List Value} {P : Option Int → qMem → Prop} (hok : qOk l g d' yX9_readPrizes cX9_readPrizes 4 none [qR g 1 0, a1] M P) (hd : decode b pc = .ok (.invokevirtual 76, 3)) (hrest : (rest.map fun v => v.category).sum ≤ 8) (k : ∀ (r : Option Int) (M' : qMem), (∀ z, r = some z → qIn z) → P r M' → qV l g X M' (pc + 3) ls ((r.map qI).toList ++ rest)) : qV l g X M pc ls (a1 :: qR g 1 0 :: rest) := q_callV C lk_RX9_76 q_im_yX9_readPrizes q_se_yX9_readPrizes rfl hd' (j := 1) (u := 0) (by decide) rfl rfl hok hd hrest rfl k
theorem lk_RX9_79 : qLk RX9 79 yX7_setPrize cX7_setPrize 4 none 3 := ⟨q_ml_RX9_79, q_in_RX7, q_cd_yX7_setPrize, ⟨by decide, by decide⟩, by decide +kernel, by decide⟩
theorem cv_RX9_79 (C : qCx l g X b RX9 d) {d' : Nat} (hd' : d' < d) {u : Nat} (hu : u < 2) {a1 a2 a3 : Value} {rest : List Value} {M' : qMem} (hok : qOk l g d' yX7_setPrize cX7_setPrize 4 none [qR g 3 u, a1, a2, a3] M (qEv none M')) (hd : decode b pc = .ok (.invokevirtual 79, 3)) (hrest : (rest.map fun v => v.category).sum ≤ 8) (k : qV l g X M' (pc + 3) ls rest) : qV l g X M pc ls (a3 :: a2 :: a1 :: qR g 3 u :: rest) := q_callV C lk_RX9_79 q_im_yX7_setPrize q_se_yX7_setPrize rfl hd' (j := 3) (u := u) hu rfl rfl hok hd hrest rfl (q_evV k)
theorem cw_RX9_79 (C : qCx l g X b RX9 d) {d' : Nat} (hd' : d' < d) {u : Nat} (hu : u < 2) {a1 a2 a3 : Value} {rest : List Value} {P : Option Int → qMem → Prop} (hok : qOk l g d' yX7_setPrize cX7_setPrize 4 none [qR g 3 u, a1, a2, a3] M P) (hd : decode b pc = .ok (.invokevirtual 79, 3)) (hrest : (rest.map fun v => v.category).sum ≤ 8) (k : ∀ (r : Option Int) (M' : qMem), (∀ z, r = some z → qIn z) → P r M' → qV l g X M' (pc + 3) ls ((r.map qI).toList ++ rest)) : qV l g X M pc ls (a3 :: a2 :: a1 :: qR g 3 u :: rest) := q_callV C lk_RX9_79 q_im_yX7_setPrize q_se_yX7_setPrize rfl hd' (j := 3) (u := u) hu rfl rfl hok hd hrest rfl k
theorem lk_RX7_44 : qLk RX7 44 yX7_hasHouse cX7_hasHouse 2 (some .boolean) 1 := ⟨q_ml_RX7_44, q_in_RX7, q_cd_yX7_hasHouse, ⟨by decide, by decide⟩, by decide +kernel, by decide⟩
theorem cv_RX7_44 (C : qCx l g X b RX7 d) {d' : Nat} (hd' : d' < d) {u : Nat} (hu : u < 2) {a1 : Value} {rest : List Value} {z : Int} {M' : qMem} (hok : qOk l g d' yX7_hasHouse cX7_hasHouse 2 (some .boolean) [qR g 3 u, a1] M (qEv (some z) M')) (hd : decode b pc = .ok (.invokevirtual 44, 3)) (hrest : (rest.map fun v => v.category).sum ≤ 8) (k : qIn z → qV l g X M' (pc + 3) ls (qI z :: rest)) : qV l g X M pc ls (a1 :: qR g 3 u :: rest) := q_callV C lk_RX7_44 q_im_yX7_hasHouse q_se_yX7_hasHouse rfl hd' (j := 3) (u := u) hu rfl rfl hok hd hrest rfl (q_evI k)
theorem cw_RX7_44 (C : qCx l g X b RX7 d) {d' : Nat} (hd' : d' < d) {u : Nat} (hu : u < 2) {a1 : Value} {rest : List Value} {P : Option Int → qMem → Prop} (hok : qOk l g d' yX7_hasHouse cX7_hasHouse 2 (some .boolean) [qR g 3 u, a1] M P) (hd : decode b pc = .ok (.invokevirtual 44, 3)) (hrest : (rest.map fun v => v.category).sum ≤ 8) (k : ∀ (r : Option Int) (M' : qMem), (∀ z, r = some z → qIn z) → P r M' → qV l g X M' (pc + 3) ls ((r.map qI).toList ++ rest)) : qV l g X M pc ls (a1 :: qR g 3 u :: rest) := q_callV C lk_RX7_44 q_im_yX7_hasHouse q_se_yX7_hasHouse rfl hd' (j := 3) (u := u) hu rfl rfl hok hd hrest rfl k
theorem lk_RX9_59 : qLk RX9 59 yX9_expectEnd cX9_expectEnd 1 none 0 := ⟨q_ml_RX9_59, q_in_RX9, q_cd_yX9_expectEnd, ⟨by decide, by decide⟩, by decide +kernel, by decide⟩
theorem cv_RX9_59 (C : qCx l g X b RX9 d) {d' : Nat} (hd' : d' < d) {rest : List Value} {M' : qMem} (hok : qOk l g d' yX9_expectEnd cX9_expectEnd 1 none [qR g 1 0] M (qEv none M')) (hd : decode b pc = .ok (.invokevirtual 59, 3)) (hrest : (rest.map fun v => v.category).sum ≤ 8) (k : qV l g X M' (pc + 3) ls rest) : qV l g X M pc ls (qR g 1 0 :: rest) := q_callV C lk_RX9_59 q_im_yX9_expectEnd q_se_yX9_expectEnd rfl hd' (j := 1) (u := 0) (by decide) rfl rfl hok hd hrest rfl (q_evV k)
theorem cw_RX9_59 (C : qCx l g X b RX9 d) {d' : Nat} (hd' : d' < d) {rest : List Value} {P : Option Int → qMem → Prop} (hok : qOk l g d' yX9_expectEnd cX9_expectEnd 1 none [qR g 1 0] M P) (hd : decode b pc = .ok (.invokevirtual 59, 3)) (hrest : (rest.map fun v => v.category).sum ≤ 8) (k : ∀ (r : Option Int) (M' : qMem), (∀ z, r = some z → qIn z) → P r M' → qV l g X M' (pc + 3) ls ((r.map qI).toList ++ rest)) : qV l g X M pc ls (qR g 1 0 :: rest) := q_callV C lk_RX9_59 q_im_yX9_expectEnd q_se_yX9_expectEnd rfl hd' (j := 1) (u := 0) (by decide) rfl rfl hok hd hrest rfl k
theorem lk_RX11_106 : qLk RX11 106 yX7_become cX7_become 2 none 1 := ⟨q_ml_RX11_106, q_in_RX7, q_cd_yX7_become, ⟨by decide, by decide⟩, by decide +kernel, by decide⟩
theorem cv_RX11_106 (C : qCx l g X b RX11 d) {d' : Nat} (hd' : d' < d) {u : Nat} (hu : u < 2) {a1 : Value} {rest : List Value} {M' : qMem} (hok : qOk l g d' yX7_become cX7_become 2 none [qR g 3 u, a1] M (qEv none M')) (hd : decode b pc = .ok (.invokevirtual 106, 3)) (hrest : (rest.map fun v => v.category).sum ≤ 8) (k : qV l g X M' (pc + 3) ls rest) : qV l g X M pc ls (a1 :: qR g 3 u :: rest) := q_callV C lk_RX11_106 q_im_yX7_become q_se_yX7_become rfl hd' (j := 3) (u := u) hu rfl rfl hok hd hrest rfl (q_evV k)
theorem cw_RX11_106 (C : qCx l g X b RX11 d) {d' : Nat} (hd' : d' < d) {u : Nat} (hu : u < 2) {a1 : Value} {rest : List Value} {P : Option Int → qMem → Prop} (hok : qOk l g d' yX7_become cX7_become 2 none [qR g 3 u, a1] M P) (hd : decode b pc = .ok (.invokevirtual 106, 3)) (hrest : (rest.map fun v => v.category).sum ≤ 8) (k : ∀ (r : Option Int) (M' : qMem), (∀ z, r = some z → qIn z) → P r M' → qV l g X M' (pc + 3) ls ((r.map qI).toList ++ rest)) : qV l g X M pc ls (a1 :: qR g 3 u :: rest) := q_callV C lk_RX11_106 q_im_yX7_become q_se_yX7_become rfl hd' (j := 3) (u := u) hu rfl rfl hok hd hrest rfl k
theorem lk_RX11_110 : qLk RX11 110 yX2_open cX2_open 2 none 1 := ⟨q_ml_RX11_110, q_in_RX2, q_cd_yX2_open, ⟨by decide, by decide⟩, by decide +kernel, by decide⟩
theorem cv_RX11_110 (C : qCx l g X b RX11 d) {d' : Nat} (hd' : d' < d) {u : Nat} (hu : u < 33) {a1 : Value} {rest : List Value} {M' : qMem} (hok : qOk l g d' yX2_open cX2_open 2 none [qR g 10 u, a1] M (qEv none M')) (hd : decode b pc = .ok (.invokevirtual 110, 3)) (hrest : (rest.map fun v => v.category).sum ≤ 8) (k : qV l g X M' (pc + 3) ls rest) : qV l g X M pc ls (a1 :: qR g 10 u :: rest) := q_callV C lk_RX11_110 q_im_yX2_open q_se_yX2_open rfl hd' (j := 10) (u := u) hu rfl rfl hok hd hrest rfl (q_evV k)
theorem cw_RX11_110 (C : qCx l g X b RX11 d) {d' : Nat} (hd' : d' < d) {u : Nat} (hu : u < 33) {a1 : Value} {rest : List Value} {P : Option Int → qMem → Prop} (hok : qOk l g d' yX2_open cX2_open 2 none [qR g 10 u, a1] M P) (hd : decode b pc = .ok (.invokevirtual 110, 3)) (hrest : (rest.map fun v => v.category).sum ≤ 8) (k : ∀ (r : Option Int) (M' : qMem), (∀ z, r = some z → qIn z) → P r M' → qV l g X M' (pc + 3) ls ((r.map qI).toList ++ rest)) : qV l g X M pc ls (a1 :: qR g 10 u :: rest) := q_callV C lk_RX11_110 q_im_yX2_open q_se_yX2_open rfl hd' (j := 10) (u := u) hu rfl rfl hok hd hrest rfl k
theorem lk_RX2_61 : qLk RX2 61 yJ7_fill_53178 cJ7_fill_53178 4 none 2 := ⟨q_ml_RX2_61, q_in_RJ7, q_cd_yJ7_fill_53178, ⟨by decide, by decide⟩, by decide +kernel, by decide⟩
theorem cv_RX2_61 (C : qCx l g X b RX2 d) {d' : Nat} (hd' : d' < d) {a1 a2 : Value} {rest : List Value} {M' : qMem} (hok : qOk l g d' yJ7_fill_53178 cJ7_fill_53178 4 none [a1, a2] M (qEv none M')) (hd : decode b pc = .ok (.invokestatic 61, 3)) (hrest : (rest.map fun v => v.category).sum ≤ 8) (k : qV l g X M' (pc + 3) ls rest) : qV l g X M pc ls (a2 :: a1 :: rest) := q_callS C lk_RX2_61 q_st_yJ7_fill_53178 rfl hd' hok hd hrest rfl (q_evV k)
theorem cw_RX2_61 (C : qCx l g X b RX2 d) {d' : Nat} (hd' : d' < d) {a1 a2 : Value} {rest : List Value} {P : Option Int → qMem → Prop} (hok : qOk l g d' yJ7_fill_53178 cJ7_fill_53178 4 none [a1, a2] M P) (hd : decode b pc = .ok (.invokestatic 61, 3)) (hrest : (rest.map fun v => v.category).sum ≤ 8) (k : ∀ (r : Option Int) (M' : qMem), (∀ z, r = some z → qIn z) → P r M' → qV l g X M' (pc + 3) ls ((r.map qI).toList ++ rest)) : qV l g X M pc ls (a2 :: a1 :: rest) := q_callS C lk_RX2_61 q_st_yJ7_fill_53178 rfl hd' hok hd hrest rfl k
theorem lk_RX2_67 : qLk RX2 67 yX4_empty cX4_empty 1 none 0 := ⟨q_ml_RX2_67, q_in_RX4, q_cd_yX4_empty, ⟨by decide, by decide⟩, by decide +kernel, by decide⟩
theorem cv_RX2_67 (C : qCx l g X b RX2 d) {d' : Nat} (hd' : d' < d) {u : Nat} (hu : u < 33) {rest : List Value} {M' : qMem} (hok : qOk l g d' yX4_empty cX4_empty 1 none [qR g 17 u] M (qEv none M')) (hd : decode b pc = .ok (.invokevirtual 67, 3)) (hrest : (rest.map fun v => v.category).sum ≤ 8) (k : qV l g X M' (pc + 3) ls rest) : qV l g X M pc ls (qR g 17 u :: rest) := q_callV C lk_RX2_67 q_im_yX4_empty q_se_yX4_empty rfl hd' (j := 17) (u := u) hu rfl rfl hok hd hrest rfl (q_evV k)
theorem cw_RX2_67 (C : qCx l g X b RX2 d) {d' : Nat} (hd' : d' < d) {u : Nat} (hu : u < 33) {rest : List Value} {P : Option Int → qMem → Prop} (hok : qOk l g d' yX4_empty cX4_empty 1 none [qR g 17 u] M P) (hd : decode b pc = .ok (.invokevirtual 67, 3)) (hrest : (rest.map fun v => v.category).sum ≤ 8) (k : ∀ (r : Option Int) (M' : qMem), (∀ z, r = some z → qIn z) → P r M' → qV l g X M' (pc + 3) ls ((r.map qI).toList ++ rest)) : qV l g X M pc ls (qR g 17 u :: rest) := q_callV C lk_RX2_67 q_im_yX4_empty q_se_yX4_empty rfl hd' (j := 17) (u := u) hu rfl rfl hok hd hrest rfl k
theorem lk_RX11_113 : qLk RX11 113 yX6_forget cX6_forget 1 none 0 := ⟨q_ml_RX11_113, q_in_RX6, q_cd_yX6_forget, ⟨by decide, by decide⟩, by decide +kernel, by decide⟩
theorem cv_RX11_113 (C : qCx l g X b RX11 d) {d' : Nat} (hd' : d' < d) {rest : List Value} {M' : qMem} (hok : qOk l g d' yX6_forget cX6_forget 1 none [qR g 26 0] M (qEv none M')) (hd : decode b pc = .ok (.invokevirtual 113, 3)) (hrest : (rest.map fun v => v.category).sum ≤ 8) (k : qV l g X M' (pc + 3) ls rest) : qV l g X M pc ls (qR g 26 0 :: rest) := q_callV C lk_RX11_113 q_im_yX6_forget q_se_yX6_forget rfl hd' (j := 26) (u := 0) (by decide) rfl rfl hok hd hrest rfl (q_evV k)
theorem cw_RX11_113 (C : qCx l g X b RX11 d) {d' : Nat} (hd' : d' < d) {rest : List Value} {P : Option Int → qMem → Prop} (hok : qOk l g d' yX6_forget cX6_forget 1 none [qR g 26 0] M P) (hd : decode b pc = .ok (.invokevirtual 113, 3)) (hrest : (rest.map fun v => v.category).sum ≤ 8) (k : ∀ (r : Option Int) (M' : qMem), (∀ z, r = some z → qIn z) → P r M' → qV l g X M' (pc + 3) ls ((r.map qI).toList ++ rest)) : qV l g X M pc ls (qR g 26 0 :: rest) := q_callV C lk_RX11_113 q_im_yX6_forget q_se_yX6_forget rfl hd' (j := 26) (u := 0) (by decide) rfl rfl hok hd hrest rfl k
theorem lk_RX11_120 : qLk RX11 120 yX8_forget cX8_forget 1 none 0 := ⟨q_ml_RX11_120, q_in_RX8, q_cd_yX8_forget, ⟨by decide, by decide⟩, by decide +kernel, by decide⟩
theorem cv_RX11_120 (C : qCx l g X b RX11 d) {d' : Nat} (hd' : d' < d) {rest : List Value} {M' : qMem} (hok : qOk l g d' yX8_forget cX8_forget 1 none [qR g 29 0] M (qEv none M')) (hd : decode b pc = .ok (.invokevirtual 120, 3)) (hrest : (rest.map fun v => v.category).sum ≤ 8) (k : qV l g X M' (pc + 3) ls rest) : qV l g X M pc ls (qR g 29 0 :: rest) := q_callV C lk_RX11_120 q_im_yX8_forget q_se_yX8_forget rfl hd' (j := 29) (u := 0) (by decide) rfl rfl hok hd hrest rfl (q_evV k)
theorem cw_RX11_120 (C : qCx l g X b RX11 d) {d' : Nat} (hd' : d' < d) {rest : List Value} {P : Option Int → qMem → Prop} (hok : qOk l g d' yX8_forget cX8_forget 1 none [qR g 29 0] M P) (hd : decode b pc = .ok (.invokevirtual 120, 3)) (hrest : (rest.map fun v => v.category).sum ≤ 8) (k : ∀ (r : Option Int) (M' : qMem), (∀ z, r = some z → qIn z) → P r M' → qV l g X M' (pc + 3) ls ((r.map qI).toList ++ rest)) : qV l g X M pc ls (qR g 29 0 :: rest) := q_callV C lk_RX11_120 q_im_yX8_forget q_se_yX8_forget rfl hd' (j := 29) (u := 0) (by decide) rfl rfl hok hd hrest rfl k
theorem lk_RX11_121 : qLk RX11 121 yX0_forget cX0_forget 1 none 0 := ⟨q_ml_RX11_121, q_in_RX0, q_cd_yX0_forget, ⟨by decide, by decide⟩, by decide +kernel, by decide⟩
theorem cv_RX11_121 (C : qCx l g X b RX11 d) {d' : Nat} (hd' : d' < d) {rest : List Value} {M' : qMem} (hok : qOk l g d' yX0_forget cX0_forget 1 none [qR g 32 0] M (qEv none M')) (hd : decode b pc = .ok (.invokevirtual 121, 3)) (hrest : (rest.map fun v => v.category).sum ≤ 8) (k : qV l g X M' (pc + 3) ls rest) : qV l g X M pc ls (qR g 32 0 :: rest) := q_callV C lk_RX11_121 q_im_yX0_forget q_se_yX0_forget rfl hd' (j := 32) (u := 0) (by decide) rfl rfl hok hd hrest rfl (q_evV k)
theorem cw_RX11_121 (C : qCx l g X b RX11 d) {d' : Nat} (hd' : d' < d) {rest : List Value} {P : Option Int → qMem → Prop} (hok : qOk l g d' yX0_forget cX0_forget 1 none [qR g 32 0] M P) (hd : decode b pc = .ok (.invokevirtual 121, 3)) (hrest : (rest.map fun v => v.category).sum ≤ 8) (k : ∀ (r : Option Int) (M' : qMem), (∀ z, r = some z → qIn z) → P r M' → qV l g X M' (pc + 3) ls ((r.map qI).toList ++ rest)) : qV l g X M pc ls (qR g 32 0 :: rest) := q_callV C lk_RX11_121 q_im_yX0_forget q_se_yX0_forget rfl hd' (j := 32) (u := 0) (by decide) rfl rfl hok hd hrest rfl k
theorem lk_RL_23 : qLk RL 23 yX11_fault cX11_fault 1 (some .int) 0 := ⟨q_ml_RL_23, q_in_RX11, q_cd_yX11_fault, ⟨by decide, by decide⟩, by decide +kernel, by decide⟩
theorem cv_RL_23 (C : qCx l g X b RL d) {d' : Nat} (hd' : d' < d) {rest : List Value} {z : Int} {M' : qMem} (hok : qOk l g d' yX11_fault cX11_fault 1 (some .int) [qR g 0 0] M (qEv (some z) M')) (hd : decode b pc = .ok (.invokevirtual 23, 3)) (hrest : (rest.map fun v => v.category).sum ≤ 8) (k : qIn z → qV l g X M' (pc + 3) ls (qI z :: rest)) : qV l g X M pc ls (qR g 0 0 :: rest) := q_callV C lk_RL_23 q_im_yX11_fault q_se_yX11_fault rfl hd' (j := 0) (u := 0) (by decide) rfl rfl hok hd hrest rfl (q_evI k)
theorem cw_RL_23 (C : qCx l g X b RL d) {d' : Nat} (hd' : d' < d) {rest : List Value} {P : Option Int → qMem → Prop} (hok : qOk l g d' yX11_fault cX11_fault 1 (some .int) [qR g 0 0] M P) (hd : decode b pc = .ok (.invokevirtual 23, 3)) (hrest : (rest.map fun v => v.category).sum ≤ 8) (k : ∀ (r : Option Int) (M' : qMem), (∀ z, r = some z → qIn z) → P r M' → qV l g X M' (pc + 3) ls ((r.map qI).toList ++ rest)) : qV l g X M pc ls (qR g 0 0 :: rest) := q_callV C lk_RL_23 q_im_yX11_fault q_se_yX11_fault rfl hd' (j := 0) (u := 0) (by decide) rfl rfl hok hd hrest rfl k
theorem lk_RL_27 : qLk RL 27 yX11_told cX11_told 2 (some .int) 1 := ⟨q_ml_RL_27, q_in_RX11, q_cd_yX11_told, ⟨by decide, by decide⟩, by decide +kernel, by decide⟩
theorem cv_RL_27 (C : qCx l g X b RL d) {d' : Nat} (hd' : d' < d) {a1 : Value} {rest : List Value} {z : Int} {M' : qMem} (hok : qOk l g d' yX11_told cX11_told 2 (some .int) [qR g 0 0, a1] M (qEv (some z) M')) (hd : decode b pc = .ok (.invokevirtual 27, 3)) (hrest : (rest.map fun v => v.category).sum ≤ 8) (k : qIn z → qV l g X M' (pc + 3) ls (qI z :: rest)) : qV l g X M pc ls (a1 :: qR g 0 0 :: rest) := q_callV C lk_RL_27 q_im_yX11_told q_se_yX11_told rfl hd' (j := 0) (u := 0) (by decide) rfl rfl hok hd hrest rfl (q_evI k)
theorem cw_RL_27 (C : qCx l g X b RL d) {d' : Nat} (hd' : d' < d) {a1 : Value} {rest : List Value} {P : Option Int → qMem → Prop} (hok : qOk l g d' yX11_told cX11_told 2 (some .int) [qR g 0 0, a1] M P) (hd : decode b pc = .ok (.invokevirtual 27, 3)) (hrest : (rest.map fun v => v.category).sum ≤ 8) (k : ∀ (r : Option Int) (M' : qMem), (∀ z, r = some z → qIn z) → P r M' → qV l g X M' (pc + 3) ls ((r.map qI).toList ++ rest)) : qV l g X M pc ls (a1 :: qR g 0 0 :: rest) := q_callV C lk_RL_27 q_im_yX11_told q_se_yX11_told rfl hd' (j := 0) (u := 0) (by decide) rfl rfl hok hd hrest rfl k
theorem lk_RX11_140 : qLk RX11 140 yX2_callsOfAll cX2_callsOfAll 3 (some .int) 0 := ⟨q_ml_RX11_140, q_in_RX2, q_cd_yX2_callsOfAll, ⟨by decide, by decide⟩, by decide +kernel, by decide⟩
theorem cv_RX11_140 (C : qCx l g X b RX11 d) {d' : Nat} (hd' : d' < d) {u : Nat} (hu : u < 33) {rest : List Value} {z : Int} {M' : qMem} (hok : qOk l g d' yX2_callsOfAll cX2_callsOfAll 3 (some .int) [qR g 10 u] M (qEv (some z) M')) (hd : decode b pc = .ok (.invokevirtual 140, 3)) (hrest : (rest.map fun v => v.category).sum ≤ 8) (k : qIn z → qV l g X M' (pc + 3) ls (qI z :: rest)) : qV l g X M pc ls (qR g 10 u :: rest) := q_callV C lk_RX11_140 q_im_yX2_callsOfAll q_se_yX2_callsOfAll rfl hd' (j := 10) (u := u) hu rfl rfl hok hd hrest rfl (q_evI k)
theorem cw_RX11_140 (C : qCx l g X b RX11 d) {d' : Nat} (hd' : d' < d) {u : Nat} (hu : u < 33) {rest : List Value} {P : Option Int → qMem → Prop} (hok : qOk l g d' yX2_callsOfAll cX2_callsOfAll 3 (some .int) [qR g 10 u] M P) (hd : decode b pc = .ok (.invokevirtual 140, 3)) (hrest : (rest.map fun v => v.category).sum ≤ 8) (k : ∀ (r : Option Int) (M' : qMem), (∀ z, r = some z → qIn z) → P r M' → qV l g X M' (pc + 3) ls ((r.map qI).toList ++ rest)) : qV l g X M pc ls (qR g 10 u :: rest) := q_callV C lk_RX11_140 q_im_yX2_callsOfAll q_se_yX2_callsOfAll rfl hd' (j := 10) (u := u) hu rfl rfl hok hd hrest rfl k
theorem lk_RX2_81 : qLk RX2 81 yX2_callsAt cX2_callsAt 4 (some .int) 1 := ⟨q_ml_RX2_81, q_in_RX2, q_cd_yX2_callsAt, ⟨by decide, by decide⟩, by decide +kernel, by decide⟩
theorem cv_RX2_81 (C : qCx l g X b RX2 d) {d' : Nat} (hd' : d' < d) {u : Nat} (hu : u < 33) {a1 : Value} {rest : List Value} {z : Int} {M' : qMem} (hok : qOk l g d' yX2_callsAt cX2_callsAt 4 (some .int) [qR g 10 u, a1] M (qEv (some z) M')) (hd : decode b pc = .ok (.invokevirtual 81, 3)) (hrest : (rest.map fun v => v.category).sum ≤ 8) (k : qIn z → qV l g X M' (pc + 3) ls (qI z :: rest)) : qV l g X M pc ls (a1 :: qR g 10 u :: rest) := q_callV C lk_RX2_81 q_im_yX2_callsAt q_se_yX2_callsAt rfl hd' (j := 10) (u := u) hu rfl rfl hok hd hrest rfl (q_evI k)
theorem cw_RX2_81 (C : qCx l g X b RX2 d) {d' : Nat} (hd' : d' < d) {u : Nat} (hu : u < 33) {a1 : Value} {rest : List Value} {P : Option Int → qMem → Prop} (hok : qOk l g d' yX2_callsAt cX2_callsAt 4 (some .int) [qR g 10 u, a1] M P) (hd : decode b pc = .ok (.invokevirtual 81, 3)) (hrest : (rest.map fun v => v.category).sum ≤ 8) (k : ∀ (r : Option Int) (M' : qMem), (∀ z, r = some z → qIn z) → P r M' → qV l g X M' (pc + 3) ls ((r.map qI).toList ++ rest)) : qV l g X M pc ls (a1 :: qR g 10 u :: rest) := q_callV C lk_RX2_81 q_im_yX2_callsAt q_se_yX2_callsAt rfl hd' (j := 10) (u := u) hu rfl rfl hok hd hrest rfl k
theorem lk_RX2_78 : qLk RX2 78 yX2_callsOf cX2_callsOf 3 (some .int) 2 := ⟨q_ml_RX2_78, q_in_RX2, q_cd_yX2_callsOf, ⟨by decide, by decide⟩, by decide +kernel, by decide⟩
theorem cv_RX2_78 (C : qCx l g X b RX2 d) {d' : Nat} (hd' : d' < d) {u : Nat} (hu : u < 33) {a1 a2 : Value} {rest : List Value} {z : Int} {M' : qMem} (hok : qOk l g d' yX2_callsOf cX2_callsOf 3 (some .int) [qR g 10 u, a1, a2] M (qEv (some z) M')) (hd : decode b pc = .ok (.invokevirtual 78, 3)) (hrest : (rest.map fun v => v.category).sum ≤ 8) (k : qIn z → qV l g X M' (pc + 3) ls (qI z :: rest)) : qV l g X M pc ls (a2 :: a1 :: qR g 10 u :: rest) := q_callV C lk_RX2_78 q_im_yX2_callsOf q_se_yX2_callsOf rfl hd' (j := 10) (u := u) hu rfl rfl hok hd hrest rfl (q_evI k)
theorem cw_RX2_78 (C : qCx l g X b RX2 d) {d' : Nat} (hd' : d' < d) {u : Nat} (hu : u < 33) {a1 a2 : Value} {rest : List Value} {P : Option Int → qMem → Prop} (hok : qOk l g d' yX2_callsOf cX2_callsOf 3 (some .int) [qR g 10 u, a1, a2] M P) (hd : decode b pc = .ok (.invokevirtual 78, 3)) (hrest : (rest.map fun v => v.category).sum ≤ 8) (k : ∀ (r : Option Int) (M' : qMem), (∀ z, r = some z → qIn z) → P r M' → qV l g X M' (pc + 3) ls ((r.map qI).toList ++ rest)) : qV l g X M pc ls (a2 :: a1 :: qR g 10 u :: rest) := q_callV C lk_RX2_78 q_im_yX2_callsOf q_se_yX2_callsOf rfl hd' (j := 10) (u := u) hu rfl rfl hok hd hrest rfl k
theorem lk_RX2_74 : qLk RX2 74 yX2_pair cX2_pair 2 (some .int) 2 := ⟨q_ml_RX2_74, q_in_RX2, q_cd_yX2_pair, ⟨by decide, by decide⟩, by decide +kernel, by decide⟩
theorem cv_RX2_74 (C : qCx l g X b RX2 d) {d' : Nat} (hd' : d' < d) {a1 a2 : Value} {rest : List Value} {z : Int} {M' : qMem} (hok : qOk l g d' yX2_pair cX2_pair 2 (some .int) [a1, a2] M (qEv (some z) M')) (hd : decode b pc = .ok (.invokestatic 74, 3)) (hrest : (rest.map fun v => v.category).sum ≤ 8) (k : qIn z → qV l g X M' (pc + 3) ls (qI z :: rest)) : qV l g X M pc ls (a2 :: a1 :: rest) := q_callS C lk_RX2_74 q_st_yX2_pair rfl hd' hok hd hrest rfl (q_evI k)
theorem cw_RX2_74 (C : qCx l g X b RX2 d) {d' : Nat} (hd' : d' < d) {a1 a2 : Value} {rest : List Value} {P : Option Int → qMem → Prop} (hok : qOk l g d' yX2_pair cX2_pair 2 (some .int) [a1, a2] M P) (hd : decode b pc = .ok (.invokestatic 74, 3)) (hrest : (rest.map fun v => v.category).sum ≤ 8) (k : ∀ (r : Option Int) (M' : qMem), (∀ z, r = some z → qIn z) → P r M' → qV l g X M' (pc + 3) ls ((r.map qI).toList ++ rest)) : qV l g X M pc ls (a2 :: a1 :: rest) := q_callS C lk_RX2_74 q_st_yX2_pair rfl hd' hok hd hrest rfl k
theorem lk_RX11_144 : qLk RX11 144 yX2_welcome cX2_welcome 4 (some .int) 0 := ⟨q_ml_RX11_144, q_in_RX2, q_cd_yX2_welcome, ⟨by decide, by decide⟩, by decide +kernel, by decide⟩
theorem cv_RX11_144 (C : qCx l g X b RX11 d) {d' : Nat} (hd' : d' < d) {u : Nat} (hu : u < 33) {rest : List Value} {z : Int} {M' : qMem} (hok : qOk l g d' yX2_welcome cX2_welcome 4 (some .int) [qR g 10 u] M (qEv (some z) M')) (hd : decode b pc = .ok (.invokevirtual 144, 3)) (hrest : (rest.map fun v => v.category).sum ≤ 8) (k : qIn z → qV l g X M' (pc + 3) ls (qI z :: rest)) : qV l g X M pc ls (qR g 10 u :: rest) := q_callV C lk_RX11_144 q_im_yX2_welcome q_se_yX2_welcome rfl hd' (j := 10) (u := u) hu rfl rfl hok hd hrest rfl (q_evI k)
theorem cw_RX11_144 (C : qCx l g X b RX11 d) {d' : Nat} (hd' : d' < d) {u : Nat} (hu : u < 33) {rest : List Value} {P : Option Int → qMem → Prop} (hok : qOk l g d' yX2_welcome cX2_welcome 4 (some .int) [qR g 10 u] M P) (hd : decode b pc = .ok (.invokevirtual 144, 3)) (hrest : (rest.map fun v => v.category).sum ≤ 8) (k : ∀ (r : Option Int) (M' : qMem), (∀ z, r = some z → qIn z) → P r M' → qV l g X M' (pc + 3) ls ((r.map qI).toList ++ rest)) : qV l g X M pc ls (qR g 10 u :: rest) := q_callV C lk_RX11_144 q_im_yX2_welcome q_se_yX2_welcome rfl hd' (j := 10) (u := u) hu rfl rfl hok hd hrest rfl k
theorem lk_RX11_147 : qLk RX11 147 yX2_coldest cX2_coldest 4 (some .int) 1 := ⟨q_ml_RX11_147, q_in_RX2, q_cd_yX2_coldest, ⟨by decide, by decide⟩, by decide +kernel, by decide⟩
theorem cv_RX11_147 (C : qCx l g X b RX11 d) {d' : Nat} (hd' : d' < d) {u : Nat} (hu : u < 33) {a1 : Value} {rest : List Value} {z : Int} {M' : qMem} (hok : qOk l g d' yX2_coldest cX2_coldest 4 (some .int) [qR g 10 u, a1] M (qEv (some z) M')) (hd : decode b pc = .ok (.invokevirtual 147, 3)) (hrest : (rest.map fun v => v.category).sum ≤ 8) (k : qIn z → qV l g X M' (pc + 3) ls (qI z :: rest)) : qV l g X M pc ls (a1 :: qR g 10 u :: rest) := q_callV C lk_RX11_147 q_im_yX2_coldest q_se_yX2_coldest rfl hd' (j := 10) (u := u) hu rfl rfl hok hd hrest rfl (q_evI k)
theorem cw_RX11_147 (C : qCx l g X b RX11 d) {d' : Nat} (hd' : d' < d) {u : Nat} (hu : u < 33) {a1 : Value} {rest : List Value} {P : Option Int → qMem → Prop} (hok : qOk l g d' yX2_coldest cX2_coldest 4 (some .int) [qR g 10 u, a1] M P) (hd : decode b pc = .ok (.invokevirtual 147, 3)) (hrest : (rest.map fun v => v.category).sum ≤ 8) (k : ∀ (r : Option Int) (M' : qMem), (∀ z, r = some z → qIn z) → P r M' → qV l g X M' (pc + 3) ls ((r.map qI).toList ++ rest)) : qV l g X M pc ls (a1 :: qR g 10 u :: rest) := q_callV C lk_RX11_147 q_im_yX2_coldest q_se_yX2_coldest rfl hd' (j := 10) (u := u) hu rfl rfl hok hd hrest rfl k
theorem lk_RX11_151 : qLk RX11 151 yX1_countSaid cX1_countSaid 3 (some .int) 1 := ⟨q_ml_RX11_151, q_in_RX1, q_cd_yX1_countSaid, ⟨by decide, by decide⟩, by decide +kernel, by decide⟩
theorem cv_RX11_151 (C : qCx l g X b RX11 d) {d' : Nat} (hd' : d' < d) {a1 : Value} {rest : List Value} {z : Int} {M' : qMem} (hok : qOk l g d' yX1_countSaid cX1_countSaid 3 (some .int) [a1] M (qEv (some z) M')) (hd : decode b pc = .ok (.invokestatic 151, 3)) (hrest : (rest.map fun v => v.category).sum ≤ 8) (k : qIn z → qV l g X M' (pc + 3) ls (qI z :: rest)) : qV l g X M pc ls (a1 :: rest) := q_callS C lk_RX11_151 q_st_yX1_countSaid rfl hd' hok hd hrest rfl (q_evI k)
theorem cw_RX11_151 (C : qCx l g X b RX11 d) {d' : Nat} (hd' : d' < d) {a1 : Value} {rest : List Value} {P : Option Int → qMem → Prop} (hok : qOk l g d' yX1_countSaid cX1_countSaid 3 (some .int) [a1] M P) (hd : decode b pc = .ok (.invokestatic 151, 3)) (hrest : (rest.map fun v => v.category).sum ≤ 8) (k : ∀ (r : Option Int) (M' : qMem), (∀ z, r = some z → qIn z) → P r M' → qV l g X M' (pc + 3) ls ((r.map qI).toList ++ rest)) : qV l g X M pc ls (a1 :: rest) := q_callS C lk_RX11_151 q_st_yX1_countSaid rfl hd' hok hd hrest rfl k
theorem lk_RX1_9 : qLk RX1 9 yX1_isSaid cX1_isSaid 5 (some .boolean) 2 := ⟨q_ml_RX1_9, q_in_RX1, q_cd_yX1_isSaid, ⟨by decide, by decide⟩, by decide +kernel, by decide⟩
theorem cv_RX1_9 (C : qCx l g X b RX1 d) {d' : Nat} (hd' : d' < d) {a1 a2 : Value} {rest : List Value} {z : Int} {M' : qMem} (hok : qOk l g d' yX1_isSaid cX1_isSaid 5 (some .boolean) [a1, a2] M (qEv (some z) M')) (hd : decode b pc = .ok (.invokestatic 9, 3)) (hrest : (rest.map fun v => v.category).sum ≤ 8) (k : qIn z → qV l g X M' (pc + 3) ls (qI z :: rest)) : qV l g X M pc ls (a2 :: a1 :: rest) := q_callS C lk_RX1_9 q_st_yX1_isSaid rfl hd' hok hd hrest rfl (q_evI k)
theorem cw_RX1_9 (C : qCx l g X b RX1 d) {d' : Nat} (hd' : d' < d) {a1 a2 : Value} {rest : List Value} {P : Option Int → qMem → Prop} (hok : qOk l g d' yX1_isSaid cX1_isSaid 5 (some .boolean) [a1, a2] M P) (hd : decode b pc = .ok (.invokestatic 9, 3)) (hrest : (rest.map fun v => v.category).sum ≤ 8) (k : ∀ (r : Option Int) (M' : qMem), (∀ z, r = some z → qIn z) → P r M' → qV l g X M' (pc + 3) ls ((r.map qI).toList ++ rest)) : qV l g X M pc ls (a2 :: a1 :: rest) := q_callS C lk_RX1_9 q_st_yX1_isSaid rfl hd' hok hd hrest rfl k
theorem lk_RL_31 : qLk RL 31 yX11_comer cX11_comer 3 (some .int) 2 := ⟨q_ml_RL_31, q_in_RX11, q_cd_yX11_comer, ⟨by decide, by decide⟩, by decide +kernel, by decide⟩
theorem cv_RL_31 (C : qCx l g X b RL d) {d' : Nat} (hd' : d' < d) {a1 a2 : Value} {rest : List Value} {z : Int} {M' : qMem} (hok : qOk l g d' yX11_comer cX11_comer 3 (some .int) [qR g 0 0, a1, a2] M (qEv (some z) M')) (hd : decode b pc = .ok (.invokevirtual 31, 3)) (hrest : (rest.map fun v => v.category).sum ≤ 8) (k : qIn z → qV l g X M' (pc + 3) ls (qI z :: rest)) : qV l g X M pc ls (a2 :: a1 :: qR g 0 0 :: rest) := q_callV C lk_RL_31 q_im_yX11_comer q_se_yX11_comer rfl hd' (j := 0) (u := 0) (by decide) rfl rfl hok hd hrest rfl (q_evI k)
theorem cw_RL_31 (C : qCx l g X b RL d) {d' : Nat} (hd' : d' < d) {a1 a2 : Value} {rest : List Value} {P : Option Int → qMem → Prop} (hok : qOk l g d' yX11_comer cX11_comer 3 (some .int) [qR g 0 0, a1, a2] M P) (hd : decode b pc = .ok (.invokevirtual 31, 3)) (hrest : (rest.map fun v => v.category).sum ≤ 8) (k : ∀ (r : Option Int) (M' : qMem), (∀ z, r = some z → qIn z) → P r M' → qV l g X M' (pc + 3) ls ((r.map qI).toList ++ rest)) : qV l g X M pc ls (a2 :: a1 :: qR g 0 0 :: rest) := q_callV C lk_RL_31 q_im_yX11_comer q_se_yX11_comer rfl hd' (j := 0) (u := 0) (by decide) rfl rfl hok hd hrest rfl k
theorem lk_RX11_166 : qLk RX11 166 yX7_hasComer cX7_hasComer 2 (some .boolean) 1 := ⟨q_ml_RX11_166, q_in_RX7, q_cd_yX7_hasComer, ⟨by decide, by decide⟩, by decide +kernel, by decide⟩
theorem cv_RX11_166 (C : qCx l g X b RX11 d) {d' : Nat} (hd' : d' < d) {u : Nat} (hu : u < 2) {a1 : Value} {rest : List Value} {z : Int} {M' : qMem} (hok : qOk l g d' yX7_hasComer cX7_hasComer 2 (some .boolean) [qR g 3 u, a1] M (qEv (some z) M')) (hd : decode b pc = .ok (.invokevirtual 166, 3)) (hrest : (rest.map fun v => v.category).sum ≤ 8) (k : qIn z → qV l g X M' (pc + 3) ls (qI z :: rest)) : qV l g X M pc ls (a1 :: qR g 3 u :: rest) := q_callV C lk_RX11_166 q_im_yX7_hasComer q_se_yX7_hasComer rfl hd' (j := 3) (u := u) hu rfl rfl hok hd hrest rfl (q_evI k)
theorem cw_RX11_166 (C : qCx l g X b RX11 d) {d' : Nat} (hd' : d' < d) {u : Nat} (hu : u < 2) {a1 : Value} {rest : List Value} {P : Option Int → qMem → Prop} (hok : qOk l g d' yX7_hasComer cX7_hasComer 2 (some .boolean) [qR g 3 u, a1] M P) (hd : decode b pc = .ok (.invokevirtual 166, 3)) (hrest : (rest.map fun v => v.category).sum ≤ 8) (k : ∀ (r : Option Int) (M' : qMem), (∀ z, r = some z → qIn z) → P r M' → qV l g X M' (pc + 3) ls ((r.map qI).toList ++ rest)) : qV l g X M pc ls (a1 :: qR g 3 u :: rest) := q_callV C lk_RX11_166 q_im_yX7_hasComer q_se_yX7_hasComer rfl hd' (j := 3) (u := u) hu rfl rfl hok hd hrest rfl k
theorem lk_RX11_183 : qLk RX11 183 yX5_houseOf cX5_houseOf 2 (some .int) 1 := ⟨q_ml_RX11_183, q_in_RX5, q_cd_yX5_houseOf, ⟨by decide, by decide⟩, by decide +kernel, by decide⟩
theorem cv_RX11_183 (C : qCx l g X b RX11 d) {d' : Nat} (hd' : d' < d) {a1 : Value} {rest : List Value} {z : Int} {M' : qMem} (hok : qOk l g d' yX5_houseOf cX5_houseOf 2 (some .int) [qR g 20 0, a1] M (qEv (some z) M')) (hd : decode b pc = .ok (.invokevirtual 183, 3)) (hrest : (rest.map fun v => v.category).sum ≤ 8) (k : qIn z → qV l g X M' (pc + 3) ls (qI z :: rest)) : qV l g X M pc ls (a1 :: qR g 20 0 :: rest) := q_callV C lk_RX11_183 q_im_yX5_houseOf q_se_yX5_houseOf rfl hd' (j := 20) (u := 0) (by decide) rfl rfl hok hd hrest rfl (q_evI k)
theorem cw_RX11_183 (C : qCx l g X b RX11 d) {d' : Nat} (hd' : d' < d) {a1 : Value} {rest : List Value} {P : Option Int → qMem → Prop} (hok : qOk l g d' yX5_houseOf cX5_houseOf 2 (some .int) [qR g 20 0, a1] M P) (hd : decode b pc = .ok (.invokevirtual 183, 3)) (hrest : (rest.map fun v => v.category).sum ≤ 8) (k : ∀ (r : Option Int) (M' : qMem), (∀ z, r = some z → qIn z) → P r M' → qV l g X M' (pc + 3) ls ((r.map qI).toList ++ rest)) : qV l g X M pc ls (a1 :: qR g 20 0 :: rest) := q_callV C lk_RX11_183 q_im_yX5_houseOf q_se_yX5_houseOf rfl hd' (j := 20) (u := 0) (by decide) rfl rfl hok hd hrest rfl k
theorem lk_RX5_32 : qLk RX5 32 yX5_settle cX5_settle 4 none 0 := ⟨q_ml_RX5_32, q_in_RX5, q_cd_yX5_settle, ⟨by decide, by decide⟩, by decide +kernel, by decide⟩
theorem cv_RX5_32 (C : qCx l g X b RX5 d) {d' : Nat} (hd' : d' < d) {rest : List Value} {M' : qMem} (hok : qOk l g d' yX5_settle cX5_settle 4 none [qR g 20 0] M (qEv none M')) (hd : decode b pc = .ok (.invokevirtual 32, 3)) (hrest : (rest.map fun v => v.category).sum ≤ 8) (k : qV l g X M' (pc + 3) ls rest) : qV l g X M pc ls (qR g 20 0 :: rest) := q_callV C lk_RX5_32 q_im_yX5_settle q_se_yX5_settle rfl hd' (j := 20) (u := 0) (by decide) rfl rfl hok hd hrest rfl (q_evV k)
theorem cw_RX5_32 (C : qCx l g X b RX5 d) {d' : Nat} (hd' : d' < d) {rest : List Value} {P : Option Int → qMem → Prop} (hok : qOk l g d' yX5_settle cX5_settle 4 none [qR g 20 0] M P) (hd : decode b pc = .ok (.invokevirtual 32, 3)) (hrest : (rest.map fun v => v.category).sum ≤ 8) (k : ∀ (r : Option Int) (M' : qMem), (∀ z, r = some z → qIn z) → P r M' → qV l g X M' (pc + 3) ls ((r.map qI).toList ++ rest)) : qV l g X M pc ls (qR g 20 0 :: rest) := q_callV C lk_RX5_32 q_im_yX5_settle q_se_yX5_settle rfl hd' (j := 20) (u := 0) (by decide) rfl rfl hok hd hrest rfl k
theorem lk_RX5_35 : qLk RX5 35 yX5_begin cX5_begin 3 none 0 := ⟨q_ml_RX5_35, q_in_RX5, q_cd_yX5_begin, ⟨by decide, by decide⟩, by decide +kernel, by decide⟩
theorem cv_RX5_35 (C : qCx l g X b RX5 d) {d' : Nat} (hd' : d' < d) {rest : List Value} {M' : qMem} (hok : qOk l g d' yX5_begin cX5_begin 3 none [qR g 20 0] M (qEv none M')) (hd : decode b pc = .ok (.invokevirtual 35, 3)) (hrest : (rest.map fun v => v.category).sum ≤ 8) (k : qV l g X M' (pc + 3) ls rest) : qV l g X M pc ls (qR g 20 0 :: rest) := q_callV C lk_RX5_35 q_im_yX5_begin q_se_yX5_begin rfl hd' (j := 20) (u := 0) (by decide) rfl rfl hok hd hrest rfl (q_evV k)
theorem cw_RX5_35 (C : qCx l g X b RX5 d) {d' : Nat} (hd' : d' < d) {rest : List Value} {P : Option Int → qMem → Prop} (hok : qOk l g d' yX5_begin cX5_begin 3 none [qR g 20 0] M P) (hd : decode b pc = .ok (.invokevirtual 35, 3)) (hrest : (rest.map fun v => v.category).sum ≤ 8) (k : ∀ (r : Option Int) (M' : qMem), (∀ z, r = some z → qIn z) → P r M' → qV l g X M' (pc + 3) ls ((r.map qI).toList ++ rest)) : qV l g X M pc ls (qR g 20 0 :: rest) := q_callV C lk_RX5_35 q_im_yX5_begin q_se_yX5_begin rfl hd' (j := 20) (u := 0) (by decide) rfl rfl hok hd hrest rfl k
theorem lk_RX5_50 : qLk RX5 50 yJ7_fill_53178 cJ7_fill_53178 4 none 2 := ⟨q_ml_RX5_50, q_in_RJ7, q_cd_yJ7_fill_53178, ⟨by decide, by decide⟩, by decide +kernel, by decide⟩
theorem cv_RX5_50 (C : qCx l g X b RX5 d) {d' : Nat} (hd' : d' < d) {a1 a2 : Value} {rest : List Value} {M' : qMem} (hok : qOk l g d' yJ7_fill_53178 cJ7_fill_53178 4 none [a1, a2] M (qEv none M')) (hd : decode b pc = .ok (.invokestatic 50, 3)) (hrest : (rest.map fun v => v.category).sum ≤ 8) (k : qV l g X M' (pc + 3) ls rest) : qV l g X M pc ls (a2 :: a1 :: rest) := q_callS C lk_RX5_50 q_st_yJ7_fill_53178 rfl hd' hok hd hrest rfl (q_evV k)
theorem cw_RX5_50 (C : qCx l g X b RX5 d) {d' : Nat} (hd' : d' < d) {a1 a2 : Value} {rest : List Value} {P : Option Int → qMem → Prop} (hok : qOk l g d' yJ7_fill_53178 cJ7_fill_53178 4 none [a1, a2] M P) (hd : decode b pc = .ok (.invokestatic 50, 3)) (hrest : (rest.map fun v => v.category).sum ≤ 8) (k : ∀ (r : Option Int) (M' : qMem), (∀ z, r = some z → qIn z) → P r M' → qV l g X M' (pc + 3) ls ((r.map qI).toList ++ rest)) : qV l g X M pc ls (a2 :: a1 :: rest) := q_callS C lk_RX5_50 q_st_yJ7_fill_53178 rfl hd' hok hd hrest rfl k
theorem lk_RX5_56 : qLk RX5 56 yX10_comers cX10_comers 1 (some .int) 0 := ⟨q_ml_RX5_56, q_in_RX10, q_cd_yX10_comers, ⟨by decide, by decide⟩, by decide +kernel, by decide⟩
theorem cv_RX5_56 (C : qCx l g X b RX5 d) {d' : Nat} (hd' : d' < d) {rest : List Value} {z : Int} {M' : qMem} (hok : qOk l g d' yX10_comers cX10_comers 1 (some .int) [qR g 19 0] M (qEv (some z) M')) (hd : decode b pc = .ok (.invokevirtual 56, 3)) (hrest : (rest.map fun v => v.category).sum ≤ 8) (k : qIn z → qV l g X M' (pc + 3) ls (qI z :: rest)) : qV l g X M pc ls (qR g 19 0 :: rest) := q_callV C lk_RX5_56 q_im_yX10_comers q_se_yX10_comers rfl hd' (j := 19) (u := 0) (by decide) rfl rfl hok hd hrest rfl (q_evI k)
theorem cw_RX5_56 (C : qCx l g X b RX5 d) {d' : Nat} (hd' : d' < d) {rest : List Value} {P : Option Int → qMem → Prop} (hok : qOk l g d' yX10_comers cX10_comers 1 (some .int) [qR g 19 0] M P) (hd : decode b pc = .ok (.invokevirtual 56, 3)) (hrest : (rest.map fun v => v.category).sum ≤ 8) (k : ∀ (r : Option Int) (M' : qMem), (∀ z, r = some z → qIn z) → P r M' → qV l g X M' (pc + 3) ls ((r.map qI).toList ++ rest)) : qV l g X M pc ls (qR g 19 0 :: rest) := q_callV C lk_RX5_56 q_im_yX10_comers q_se_yX10_comers rfl hd' (j := 19) (u := 0) (by decide) rfl rfl hok hd hrest rfl k
theorem lk_RX5_61 : qLk RX5 61 yX10_houses cX10_houses 1 (some .int) 0 := ⟨q_ml_RX5_61, q_in_RX10, q_cd_yX10_houses, ⟨by decide, by decide⟩, by decide +kernel, by decide⟩
theorem cv_RX5_61 (C : qCx l g X b RX5 d) {d' : Nat} (hd' : d' < d) {rest : List Value} {z : Int} {M' : qMem} (hok : qOk l g d' yX10_houses cX10_houses 1 (some .int) [qR g 19 0] M (qEv (some z) M')) (hd : decode b pc = .ok (.invokevirtual 61, 3)) (hrest : (rest.map fun v => v.category).sum ≤ 8) (k : qIn z → qV l g X M' (pc + 3) ls (qI z :: rest)) : qV l g X M pc ls (qR g 19 0 :: rest) := q_callV C lk_RX5_61 q_im_yX10_houses q_se_yX10_houses rfl hd' (j := 19) (u := 0) (by decide) rfl rfl hok hd hrest rfl (q_evI k)
theorem cw_RX5_61 (C : qCx l g X b RX5 d) {d' : Nat} (hd' : d' < d) {rest : List Value} {P : Option Int → qMem → Prop} (hok : qOk l g d' yX10_houses cX10_houses 1 (some .int) [qR g 19 0] M P) (hd : decode b pc = .ok (.invokevirtual 61, 3)) (hrest : (rest.map fun v => v.category).sum ≤ 8) (k : ∀ (r : Option Int) (M' : qMem), (∀ z, r = some z → qIn z) → P r M' → qV l g X M' (pc + 3) ls ((r.map qI).toList ++ rest)) : qV l g X M pc ls (qR g 19 0 :: rest) := q_callV C lk_RX5_61 q_im_yX10_houses q_se_yX10_houses rfl hd' (j := 19) (u := 0) (by decide) rfl rfl hok hd hrest rfl k
theorem lk_RX5_64 : qLk RX5 64 yX10_suit cX10_suit 6 (some .int) 2 := ⟨q_ml_RX5_64, q_in_RX10, q_cd_yX10_suit, ⟨by decide, by decide⟩, by decide +kernel, by decide⟩
theorem cv_RX5_64 (C : qCx l g X b RX5 d) {d' : Nat} (hd' : d' < d) {a1 a2 : Value} {rest : List Value} {z : Int} {M' : qMem} (hok : qOk l g d' yX10_suit cX10_suit 6 (some .int) [qR g 19 0, a1, a2] M (qEv (some z) M')) (hd : decode b pc = .ok (.invokevirtual 64, 3)) (hrest : (rest.map fun v => v.category).sum ≤ 8) (k : qIn z → qV l g X M' (pc + 3) ls (qI z :: rest)) : qV l g X M pc ls (a2 :: a1 :: qR g 19 0 :: rest) := q_callV C lk_RX5_64 q_im_yX10_suit q_se_yX10_suit rfl hd' (j := 19) (u := 0) (by decide) rfl rfl hok hd hrest rfl (q_evI k)
theorem cw_RX5_64 (C : qCx l g X b RX5 d) {d' : Nat} (hd' : d' < d) {a1 a2 : Value} {rest : List Value} {P : Option Int → qMem → Prop} (hok : qOk l g d' yX10_suit cX10_suit 6 (some .int) [qR g 19 0, a1, a2] M P) (hd : decode b pc = .ok (.invokevirtual 64, 3)) (hrest : (rest.map fun v => v.category).sum ≤ 8) (k : ∀ (r : Option Int) (M' : qMem), (∀ z, r = some z → qIn z) → P r M' → qV l g X M' (pc + 3) ls ((r.map qI).toList ++ rest)) : qV l g X M pc ls (a2 :: a1 :: qR g 19 0 :: rest) := q_callV C lk_RX5_64 q_im_yX10_suit q_se_yX10_suit rfl hd' (j := 19) (u := 0) (by decide) rfl rfl hok hd hrest rfl k
theorem lk_RX10_62 : qLk RX10 62 yX10_stuffingBelieved cX10_stuffingBelieved 3 (some .int) 2 := ⟨q_ml_RX10_62, q_in_RX10, q_cd_yX10_stuffingBelieved, ⟨by decide, by decide⟩, by decide +kernel, by decide⟩
theorem cv_RX10_62 (C : qCx l g X b RX10 d) {d' : Nat} (hd' : d' < d) {a1 a2 : Value} {rest : List Value} {z : Int} {M' : qMem} (hok : qOk l g d' yX10_stuffingBelieved cX10_stuffingBelieved 3 (some .int) [qR g 19 0, a1, a2] M (qEv (some z) M')) (hd : decode b pc = .ok (.invokevirtual 62, 3)) (hrest : (rest.map fun v => v.category).sum ≤ 8) (k : qIn z → qV l g X M' (pc + 3) ls (qI z :: rest)) : qV l g X M pc ls (a2 :: a1 :: qR g 19 0 :: rest) := q_callV C lk_RX10_62 q_im_yX10_stuffingBelieved q_se_yX10_stuffingBelieved rfl hd' (j := 19) (u := 0) (by decide) rfl rfl hok hd hrest rfl (q_evI k)
theorem cw_RX10_62 (C : qCx l g X b RX10 d) {d' : Nat} (hd' : d' < d) {a1 a2 : Value} {rest : List Value} {P : Option Int → qMem → Prop} (hok : qOk l g d' yX10_stuffingBelieved cX10_stuffingBelieved 3 (some .int) [qR g 19 0, a1, a2] M P) (hd : decode b pc = .ok (.invokevirtual 62, 3)) (hrest : (rest.map fun v => v.category).sum ≤ 8) (k : ∀ (r : Option Int) (M' : qMem), (∀ z, r = some z → qIn z) → P r M' → qV l g X M' (pc + 3) ls ((r.map qI).toList ++ rest)) : qV l g X M pc ls (a2 :: a1 :: qR g 19 0 :: rest) := q_callV C lk_RX10_62 q_im_yX10_stuffingBelieved q_se_yX10_stuffingBelieved rfl hd' (j := 19) (u := 0) (by decide) rfl rfl hok hd hrest rfl k
theorem lk_RX10_28 : qLk RX10 28 yX2_isSham cX2_isSham 3 (some .boolean) 2 := ⟨q_ml_RX10_28, q_in_RX2, q_cd_yX2_isSham, ⟨by decide, by decide⟩, by decide +kernel, by decide⟩
theorem cv_RX10_28 (C : qCx l g X b RX10 d) {d' : Nat} (hd' : d' < d) {u : Nat} (hu : u < 33) {a1 a2 : Value} {rest : List Value} {z : Int} {M' : qMem} (hok : qOk l g d' yX2_isSham cX2_isSham 3 (some .boolean) [qR g 10 u, a1, a2] M (qEv (some z) M')) (hd : decode b pc = .ok (.invokevirtual 28, 3)) (hrest : (rest.map fun v => v.category).sum ≤ 8) (k : qIn z → qV l g X M' (pc + 3) ls (qI z :: rest)) : qV l g X M pc ls (a2 :: a1 :: qR g 10 u :: rest) := q_callV C lk_RX10_28 q_im_yX2_isSham q_se_yX2_isSham rfl hd' (j := 10) (u := u) hu rfl rfl hok hd hrest rfl (q_evI k)
theorem cw_RX10_28 (C : qCx l g X b RX10 d) {d' : Nat} (hd' : d' < d) {u : Nat} (hu : u < 33) {a1 a2 : Value} {rest : List Value} {P : Option Int → qMem → Prop} (hok : qOk l g d' yX2_isSham cX2_isSham 3 (some .boolean) [qR g 10 u, a1, a2] M P) (hd : decode b pc = .ok (.invokevirtual 28, 3)) (hrest : (rest.map fun v => v.category).sum ≤ 8) (k : ∀ (r : Option Int) (M' : qMem), (∀ z, r = some z → qIn z) → P r M' → qV l g X M' (pc + 3) ls ((r.map qI).toList ++ rest)) : qV l g X M pc ls (a2 :: a1 :: qR g 10 u :: rest) := q_callV C lk_RX10_28 q_im_yX2_isSham q_se_yX2_isSham rfl hd' (j := 10) (u := u) hu rfl rfl hok hd hrest rfl k
theorem lk_RX10_87 : qLk RX10 87 yX10_isSaidFor cX10_isSaidFor 3 (some .boolean) 2 := ⟨q_ml_RX10_87, q_in_RX10, q_cd_yX10_isSaidFor, ⟨by decide, by decide⟩, by decide +kernel, by decide⟩
theorem cv_RX10_87 (C : qCx l g X b RX10 d) {d' : Nat} (hd' : d' < d) {a1 a2 : Value} {rest : List Value} {z : Int} {M' : qMem} (hok : qOk l g d' yX10_isSaidFor cX10_isSaidFor 3 (some .boolean) [qR g 19 0, a1, a2] M (qEv (some z) M')) (hd : decode b pc = .ok (.invokevirtual 87, 3)) (hrest : (rest.map fun v => v.category).sum ≤ 8) (k : qIn z → qV l g X M' (pc + 3) ls (qI z :: rest)) : qV l g X M pc ls (a2 :: a1 :: qR g 19 0 :: rest) := q_callV C lk_RX10_87 q_im_yX10_isSaidFor q_se_yX10_isSaidFor rfl hd' (j := 19) (u := 0) (by decide) rfl rfl hok hd hrest rfl (q_evI k)
theorem cw_RX10_87 (C : qCx l g X b RX10 d) {d' : Nat} (hd' : d' < d) {a1 a2 : Value} {rest : List Value} {P : Option Int → qMem → Prop} (hok : qOk l g d' yX10_isSaidFor cX10_isSaidFor 3 (some .boolean) [qR g 19 0, a1, a2] M P) (hd : decode b pc = .ok (.invokevirtual 87, 3)) (hrest : (rest.map fun v => v.category).sum ≤ 8) (k : ∀ (r : Option Int) (M' : qMem), (∀ z, r = some z → qIn z) → P r M' → qV l g X M' (pc + 3) ls ((r.map qI).toList ++ rest)) : qV l g X M pc ls (a2 :: a1 :: qR g 19 0 :: rest) := q_callV C lk_RX10_87 q_im_yX10_isSaidFor q_se_yX10_isSaidFor rfl hd' (j := 19) (u := 0) (by decide) rfl rfl hok hd hrest rfl k
theorem lk_RX10_54 : qLk RX10 54 yX1_isSaid cX1_isSaid 5 (some .boolean) 2 := ⟨q_ml_RX10_54, q_in_RX1, q_cd_yX1_isSaid, ⟨by decide, by decide⟩, by decide +kernel, by decide⟩
theorem cv_RX10_54 (C : qCx l g X b RX10 d) {d' : Nat} (hd' : d' < d) {a1 a2 : Value} {rest : List Value} {z : Int} {M' : qMem} (hok : qOk l g d' yX1_isSaid cX1_isSaid 5 (some .boolean) [a1, a2] M (qEv (some z) M')) (hd : decode b pc = .ok (.invokestatic 54, 3)) (hrest : (rest.map fun v => v.category).sum ≤ 8) (k : qIn z → qV l g X M' (pc + 3) ls (qI z :: rest)) : qV l g X M pc ls (a2 :: a1 :: rest) := q_callS C lk_RX10_54 q_st_yX1_isSaid rfl hd' hok hd hrest rfl (q_evI k)
theorem cw_RX10_54 (C : qCx l g X b RX10 d) {d' : Nat} (hd' : d' < d) {a1 a2 : Value} {rest : List Value} {P : Option Int → qMem → Prop} (hok : qOk l g d' yX1_isSaid cX1_isSaid 5 (some .boolean) [a1, a2] M P) (hd : decode b pc = .ok (.invokestatic 54, 3)) (hrest : (rest.map fun v => v.category).sum ≤ 8) (k : ∀ (r : Option Int) (M' : qMem), (∀ z, r = some z → qIn z) → P r M' → qV l g X M' (pc + 3) ls ((r.map qI).toList ++ rest)) : qV l g X M pc ls (a2 :: a1 :: rest) := q_callS C lk_RX10_54 q_st_yX1_isSaid rfl hd' hok hd hrest rfl k
theorem lk_RX10_41 : qLk RX10 41 yX1_meaning cX1_meaning 3 (some .int) 1 := ⟨q_ml_RX10_41, q_in_RX1, q_cd_yX1_meaning, ⟨by decide, by decide⟩, by decide +kernel, by decide⟩
theorem cv_RX10_41 (C : qCx l g X b RX10 d) {d' : Nat} (hd' : d' < d) {a1 : Value} {rest : List Value} {z : Int} {M' : qMem} (hok : qOk l g d' yX1_meaning cX1_meaning 3 (some .int) [a1] M (qEv (some z) M')) (hd : decode b pc = .ok (.invokestatic 41, 3)) (hrest : (rest.map fun v => v.category).sum ≤ 8) (k : qIn z → qV l g X M' (pc + 3) ls (qI z :: rest)) : qV l g X M pc ls (a1 :: rest) := q_callS C lk_RX10_41 q_st_yX1_meaning rfl hd' hok hd hrest rfl (q_evI k)
theorem cw_RX10_41 (C : qCx l g X b RX10 d) {d' : Nat} (hd' : d' < d) {a1 : Value} {rest : List Value} {P : Option Int → qMem → Prop} (hok : qOk l g d' yX1_meaning cX1_meaning 3 (some .int) [a1] M P) (hd : decode b pc = .ok (.invokestatic 41, 3)) (hrest : (rest.map fun v => v.category).sum ≤ 8) (k : ∀ (r : Option Int) (M' : qMem), (∀ z, r = some z → qIn z) → P r M' → qV l g X M' (pc + 3) ls ((r.map qI).toList ++ rest)) : qV l g X M pc ls (a1 :: rest) := q_callS C lk_RX10_41 q_st_yX1_meaning rfl hd' hok hd hrest rfl k
theorem lk_RX10_65 : qLk RX10 65 yX10_heardStuffed cX10_heardStuffed 6 (some .int) 4 := ⟨q_ml_RX10_65, q_in_RX10, q_cd_yX10_heardStuffed, ⟨by decide, by decide⟩, by decide +kernel, by decide⟩
theorem cv_RX10_65 (C : qCx l g X b RX10 d) {d' : Nat} (hd' : d' < d) {a1 a2 a3 a4 : Value} {rest : List Value} {z : Int} {M' : qMem} (hok : qOk l g d' yX10_heardStuffed cX10_heardStuffed 6 (some .int) [qR g 19 0, a1, a2, a3, a4] M (qEv (some z) M')) (hd : decode b pc = .ok (.invokevirtual 65, 3)) (hrest : (rest.map fun v => v.category).sum ≤ 8) (k : qIn z → qV l g X M' (pc + 3) ls (qI z :: rest)) : qV l g X M pc ls (a4 :: a3 :: a2 :: a1 :: qR g 19 0 :: rest) := q_callV C lk_RX10_65 q_im_yX10_heardStuffed q_se_yX10_heardStuffed rfl hd' (j := 19) (u := 0) (by decide) rfl rfl hok hd hrest rfl (q_evI k)
theorem cw_RX10_65 (C : qCx l g X b RX10 d) {d' : Nat} (hd' : d' < d) {a1 a2 a3 a4 : Value} {rest : List Value} {P : Option Int → qMem → Prop} (hok : qOk l g d' yX10_heardStuffed cX10_heardStuffed 6 (some .int) [qR g 19 0, a1, a2, a3, a4] M P) (hd : decode b pc = .ok (.invokevirtual 65, 3)) (hrest : (rest.map fun v => v.category).sum ≤ 8) (k : ∀ (r : Option Int) (M' : qMem), (∀ z, r = some z → qIn z) → P r M' → qV l g X M' (pc + 3) ls ((r.map qI).toList ++ rest)) : qV l g X M pc ls (a4 :: a3 :: a2 :: a1 :: qR g 19 0 :: rest) := q_callV C lk_RX10_65 q_im_yX10_heardStuffed q_se_yX10_heardStuffed rfl hd' (j := 19) (u := 0) (by decide) rfl rfl hok hd hrest rfl k
theorem lk_RX10_47 : qLk RX10 47 yX7_prizeOf cX7_prizeOf 3 (some .int) 2 := ⟨q_ml_RX10_47, q_in_RX7, q_cd_yX7_prizeOf, ⟨by decide, by decide⟩, by decide +kernel, by decide⟩
theorem cv_RX10_47 (C : qCx l g X b RX10 d) {d' : Nat} (hd' : d' < d) {u : Nat} (hu : u < 2) {a1 a2 : Value} {rest : List Value} {z : Int} {M' : qMem} (hok : qOk l g d' yX7_prizeOf cX7_prizeOf 3 (some .int) [qR g 3 u, a1, a2] M (qEv (some z) M')) (hd : decode b pc = .ok (.invokevirtual 47, 3)) (hrest : (rest.map fun v => v.category).sum ≤ 8) (k : qIn z → qV l g X M' (pc + 3) ls (qI z :: rest)) : qV l g X M pc ls (a2 :: a1 :: qR g 3 u :: rest) := q_callV C lk_RX10_47 q_im_yX7_prizeOf q_se_yX7_prizeOf rfl hd' (j := 3) (u := u) hu rfl rfl hok hd hrest rfl (q_evI k)
theorem cw_RX10_47 (C : qCx l g X b RX10 d) {d' : Nat} (hd' : d' < d) {u : Nat} (hu : u < 2) {a1 a2 : Value} {rest : List Value} {P : Option Int → qMem → Prop} (hok : qOk l g d' yX7_prizeOf cX7_prizeOf 3 (some .int) [qR g 3 u, a1, a2] M P) (hd : decode b pc = .ok (.invokevirtual 47, 3)) (hrest : (rest.map fun v => v.category).sum ≤ 8) (k : ∀ (r : Option Int) (M' : qMem), (∀ z, r = some z → qIn z) → P r M' → qV l g X M' (pc + 3) ls ((r.map qI).toList ++ rest)) : qV l g X M pc ls (a2 :: a1 :: qR g 3 u :: rest) := q_callV C lk_RX10_47 q_im_yX7_prizeOf q_se_yX7_prizeOf rfl hd' (j := 3) (u := u) hu rfl rfl hok hd hrest rfl k
theorem lk_RX10_57 : qLk RX10 57 yJ9_max_7cf53 cJ9_max_7cf53 2 (some .int) 2 := ⟨q_ml_RX10_57, q_in_RJ9, q_cd_yJ9_max_7cf53, ⟨by decide, by decide⟩, by decide +kernel, by decide⟩
theorem cv_RX10_57 (C : qCx l g X b RX10 d) {d' : Nat} (hd' : d' < d) {a1 a2 : Value} {rest : List Value} {z : Int} {M' : qMem} (hok : qOk l g d' yJ9_max_7cf53 cJ9_max_7cf53 2 (some .int) [a1, a2] M (qEv (some z) M')) (hd : decode b pc = .ok (.invokestatic 57, 3)) (hrest : (rest.map fun v => v.category).sum ≤ 8) (k : qIn z → qV l g X M' (pc + 3) ls (qI z :: rest)) : qV l g X M pc ls (a2 :: a1 :: rest) := q_callS C lk_RX10_57 q_st_yJ9_max_7cf53 rfl hd' hok hd hrest rfl (q_evI k)
theorem cw_RX10_57 (C : qCx l g X b RX10 d) {d' : Nat} (hd' : d' < d) {a1 a2 : Value} {rest : List Value} {P : Option Int → qMem → Prop} (hok : qOk l g d' yJ9_max_7cf53 cJ9_max_7cf53 2 (some .int) [a1, a2] M P) (hd : decode b pc = .ok (.invokestatic 57, 3)) (hrest : (rest.map fun v => v.category).sum ≤ 8) (k : ∀ (r : Option Int) (M' : qMem), (∀ z, r = some z → qIn z) → P r M' → qV l g X M' (pc + 3) ls ((r.map qI).toList ++ rest)) : qV l g X M pc ls (a2 :: a1 :: rest) := q_callS C lk_RX10_57 q_st_yJ9_max_7cf53 rfl hd' hok hd hrest rfl k
theorem lk_RX5_38 : qLk RX5 38 yX5_firstWaiting cX5_firstWaiting 2 (some .int) 0 := ⟨q_ml_RX5_38, q_in_RX5, q_cd_yX5_firstWaiting, ⟨by decide, by decide⟩, by decide +kernel, by decide⟩
theorem cv_RX5_38 (C : qCx l g X b RX5 d) {d' : Nat} (hd' : d' < d) {rest : List Value} {z : Int} {M' : qMem} (hok : qOk l g d' yX5_firstWaiting cX5_firstWaiting 2 (some .int) [qR g 20 0] M (qEv (some z) M')) (hd : decode b pc = .ok (.invokevirtual 38, 3)) (hrest : (rest.map fun v => v.category).sum ≤ 8) (k : qIn z → qV l g X M' (pc + 3) ls (qI z :: rest)) : qV l g X M pc ls (qR g 20 0 :: rest) := q_callV C lk_RX5_38 q_im_yX5_firstWaiting q_se_yX5_firstWaiting rfl hd' (j := 20) (u := 0) (by decide) rfl rfl hok hd hrest rfl (q_evI k)
theorem cw_RX5_38 (C : qCx l g X b RX5 d) {d' : Nat} (hd' : d' < d) {rest : List Value} {P : Option Int → qMem → Prop} (hok : qOk l g d' yX5_firstWaiting cX5_firstWaiting 2 (some .int) [qR g 20 0] M P) (hd : decode b pc = .ok (.invokevirtual 38, 3)) (hrest : (rest.map fun v => v.category).sum ≤ 8) (k : ∀ (r : Option Int) (M' : qMem), (∀ z, r = some z → qIn z) → P r M' → qV l g X M' (pc + 3) ls ((r.map qI).toList ++ rest)) : qV l g X M pc ls (qR g 20 0 :: rest) := q_callV C lk_RX5_38 q_im_yX5_firstWaiting q_se_yX5_firstWaiting rfl hd' (j := 20) (u := 0) (by decide) rfl rfl hok hd hrest rfl k
theorem lk_RX5_42 : qLk RX5 42 yX5_bestLeft cX5_bestLeft 5 (some .int) 1 := ⟨q_ml_RX5_42, q_in_RX5, q_cd_yX5_bestLeft, ⟨by decide, by decide⟩, by decide +kernel, by decide⟩
theorem cv_RX5_42 (C : qCx l g X b RX5 d) {d' : Nat} (hd' : d' < d) {a1 : Value} {rest : List Value} {z : Int} {M' : qMem} (hok : qOk l g d' yX5_bestLeft cX5_bestLeft 5 (some .int) [qR g 20 0, a1] M (qEv (some z) M')) (hd : decode b pc = .ok (.invokevirtual 42, 3)) (hrest : (rest.map fun v => v.category).sum ≤ 8) (k : qIn z → qV l g X M' (pc + 3) ls (qI z :: rest)) : qV l g X M pc ls (a1 :: qR g 20 0 :: rest) := q_callV C lk_RX5_42 q_im_yX5_bestLeft q_se_yX5_bestLeft rfl hd' (j := 20) (u := 0) (by decide) rfl rfl hok hd hrest rfl (q_evI k)
theorem cw_RX5_42 (C : qCx l g X b RX5 d) {d' : Nat} (hd' : d' < d) {a1 : Value} {rest : List Value} {P : Option Int → qMem → Prop} (hok : qOk l g d' yX5_bestLeft cX5_bestLeft 5 (some .int) [qR g 20 0, a1] M P) (hd : decode b pc = .ok (.invokevirtual 42, 3)) (hrest : (rest.map fun v => v.category).sum ≤ 8) (k : ∀ (r : Option Int) (M' : qMem), (∀ z, r = some z → qIn z) → P r M' → qV l g X M' (pc + 3) ls ((r.map qI).toList ++ rest)) : qV l g X M pc ls (a1 :: qR g 20 0 :: rest) := q_callV C lk_RX5_42 q_im_yX5_bestLeft q_se_yX5_bestLeft rfl hd' (j := 20) (u := 0) (by decide) rfl rfl hok hd hrest rfl k
theorem lk_RX5_46 : qLk RX5 46 yX5_ask cX5_ask 4 none 2 := ⟨q_ml_RX5_46, q_in_RX5, q_cd_yX5_ask, ⟨by decide, by decide⟩, by decide +kernel, by decide⟩
theorem cv_RX5_46 (C : qCx l g X b RX5 d) {d' : Nat} (hd' : d' < d) {a1 a2 : Value} {rest : List Value} {M' : qMem} (hok : qOk l g d' yX5_ask cX5_ask 4 none [qR g 20 0, a1, a2] M (qEv none M')) (hd : decode b pc = .ok (.invokevirtual 46, 3)) (hrest : (rest.map fun v => v.category).sum ≤ 8) (k : qV l g X M' (pc + 3) ls rest) : qV l g X M pc ls (a2 :: a1 :: qR g 20 0 :: rest) := q_callV C lk_RX5_46 q_im_yX5_ask q_se_yX5_ask rfl hd' (j := 20) (u := 0) (by decide) rfl rfl hok hd hrest rfl (q_evV k)
theorem cw_RX5_46 (C : qCx l g X b RX5 d) {d' : Nat} (hd' : d' < d) {a1 a2 : Value} {rest : List Value} {P : Option Int → qMem → Prop} (hok : qOk l g d' yX5_ask cX5_ask 4 none [qR g 20 0, a1, a2] M P) (hd : decode b pc = .ok (.invokevirtual 46, 3)) (hrest : (rest.map fun v => v.category).sum ≤ 8) (k : ∀ (r : Option Int) (M' : qMem), (∀ z, r = some z → qIn z) → P r M' → qV l g X M' (pc + 3) ls ((r.map qI).toList ++ rest)) : qV l g X M pc ls (a2 :: a1 :: qR g 20 0 :: rest) := q_callV C lk_RX5_46 q_im_yX5_ask q_se_yX5_ask rfl hd' (j := 20) (u := 0) (by decide) rfl rfl hok hd hrest rfl k
theorem lk_RX5_67 : qLk RX5 67 yX5_join cX5_join 3 none 2 := ⟨q_ml_RX5_67, q_in_RX5, q_cd_yX5_join, ⟨by decide, by decide⟩, by decide +kernel, by decide⟩
theorem cv_RX5_67 (C : qCx l g X b RX5 d) {d' : Nat} (hd' : d' < d) {a1 a2 : Value} {rest : List Value} {M' : qMem} (hok : qOk l g d' yX5_join cX5_join 3 none [qR g 20 0, a1, a2] M (qEv none M')) (hd : decode b pc = .ok (.invokevirtual 67, 3)) (hrest : (rest.map fun v => v.category).sum ≤ 8) (k : qV l g X M' (pc + 3) ls rest) : qV l g X M pc ls (a2 :: a1 :: qR g 20 0 :: rest) := q_callV C lk_RX5_67 q_im_yX5_join q_se_yX5_join rfl hd' (j := 20) (u := 0) (by decide) rfl rfl hok hd hrest rfl (q_evV k)
theorem cw_RX5_67 (C : qCx l g X b RX5 d) {d' : Nat} (hd' : d' < d) {a1 a2 : Value} {rest : List Value} {P : Option Int → qMem → Prop} (hok : qOk l g d' yX5_join cX5_join 3 none [qR g 20 0, a1, a2] M P) (hd : decode b pc = .ok (.invokevirtual 67, 3)) (hrest : (rest.map fun v => v.category).sum ≤ 8) (k : ∀ (r : Option Int) (M' : qMem), (∀ z, r = some z → qIn z) → P r M' → qV l g X M' (pc + 3) ls ((r.map qI).toList ++ rest)) : qV l g X M pc ls (a2 :: a1 :: qR g 20 0 :: rest) := q_callV C lk_RX5_67 q_im_yX5_join q_se_yX5_join rfl hd' (j := 20) (u := 0) (by decide) rfl rfl hok hd hrest rfl k
theorem lk_RX5_70 : qLk RX5 70 yX5_isPreferred cX5_isPreferred 6 (some .boolean) 3 := ⟨q_ml_RX5_70, q_in_RX5, q_cd_yX5_isPreferred, ⟨by decide, by decide⟩, by decide +kernel, by decide⟩
theorem cv_RX5_70 (C : qCx l g X b RX5 d) {d' : Nat} (hd' : d' < d) {a1 a2 a3 : Value} {rest : List Value} {z : Int} {M' : qMem} (hok : qOk l g d' yX5_isPreferred cX5_isPreferred 6 (some .boolean) [qR g 20 0, a1, a2, a3] M (qEv (some z) M')) (hd : decode b pc = .ok (.invokevirtual 70, 3)) (hrest : (rest.map fun v => v.category).sum ≤ 8) (k : qIn z → qV l g X M' (pc + 3) ls (qI z :: rest)) : qV l g X M pc ls (a3 :: a2 :: a1 :: qR g 20 0 :: rest) := q_callV C lk_RX5_70 q_im_yX5_isPreferred q_se_yX5_isPreferred rfl hd' (j := 20) (u := 0) (by decide) rfl rfl hok hd hrest rfl (q_evI k)
theorem cw_RX5_70 (C : qCx l g X b RX5 d) {d' : Nat} (hd' : d' < d) {a1 a2 a3 : Value} {rest : List Value} {P : Option Int → qMem → Prop} (hok : qOk l g d' yX5_isPreferred cX5_isPreferred 6 (some .boolean) [qR g 20 0, a1, a2, a3] M P) (hd : decode b pc = .ok (.invokevirtual 70, 3)) (hrest : (rest.map fun v => v.category).sum ≤ 8) (k : ∀ (r : Option Int) (M' : qMem), (∀ z, r = some z → qIn z) → P r M' → qV l g X M' (pc + 3) ls ((r.map qI).toList ++ rest)) : qV l g X M pc ls (a3 :: a2 :: a1 :: qR g 20 0 :: rest) := q_callV C lk_RX5_70 q_im_yX5_isPreferred q_se_yX5_isPreferred rfl hd' (j := 20) (u := 0) (by decide) rfl rfl hok hd hrest rfl k
theorem lk_RL_36 : qLk RL 36 yX11_house cX11_house 3 (some .int) 2 := ⟨q_ml_RL_36, q_in_RX11, q_cd_yX11_house, ⟨by decide, by decide⟩, by decide +kernel, by decide⟩
theorem cv_RL_36 (C : qCx l g X b RL d) {d' : Nat} (hd' : d' < d) {a1 a2 : Value} {rest : List Value} {z : Int} {M' : qMem} (hok : qOk l g d' yX11_house cX11_house 3 (some .int) [qR g 0 0, a1, a2] M (qEv (some z) M')) (hd : decode b pc = .ok (.invokevirtual 36, 3)) (hrest : (rest.map fun v => v.category).sum ≤ 8) (k : qIn z → qV l g X M' (pc + 3) ls (qI z :: rest)) : qV l g X M pc ls (a2 :: a1 :: qR g 0 0 :: rest) := q_callV C lk_RL_36 q_im_yX11_house q_se_yX11_house rfl hd' (j := 0) (u := 0) (by decide) rfl rfl hok hd hrest rfl (q_evI k)
theorem cw_RL_36 (C : qCx l g X b RL d) {d' : Nat} (hd' : d' < d) {a1 a2 : Value} {rest : List Value} {P : Option Int → qMem → Prop} (hok : qOk l g d' yX11_house cX11_house 3 (some .int) [qR g 0 0, a1, a2] M P) (hd : decode b pc = .ok (.invokevirtual 36, 3)) (hrest : (rest.map fun v => v.category).sum ≤ 8) (k : ∀ (r : Option Int) (M' : qMem), (∀ z, r = some z → qIn z) → P r M' → qV l g X M' (pc + 3) ls ((r.map qI).toList ++ rest)) : qV l g X M pc ls (a2 :: a1 :: qR g 0 0 :: rest) := q_callV C lk_RL_36 q_im_yX11_house q_se_yX11_house rfl hd' (j := 0) (u := 0) (by decide) rfl rfl hok hd hrest rfl k
theorem lk_RX11_186 : qLk RX11 186 yX7_hasHouse cX7_hasHouse 2 (some .boolean) 1 := ⟨q_ml_RX11_186, q_in_RX7, q_cd_yX7_hasHouse, ⟨by decide, by decide⟩, by decide +kernel, by decide⟩
theorem cv_RX11_186 (C : qCx l g X b RX11 d) {d' : Nat} (hd' : d' < d) {u : Nat} (hu : u < 2) {a1 : Value} {rest : List Value} {z : Int} {M' : qMem} (hok : qOk l g d' yX7_hasHouse cX7_hasHouse 2 (some .boolean) [qR g 3 u, a1] M (qEv (some z) M')) (hd : decode b pc = .ok (.invokevirtual 186, 3)) (hrest : (rest.map fun v => v.category).sum ≤ 8) (k : qIn z → qV l g X M' (pc + 3) ls (qI z :: rest)) : qV l g X M pc ls (a1 :: qR g 3 u :: rest) := q_callV C lk_RX11_186 q_im_yX7_hasHouse q_se_yX7_hasHouse rfl hd' (j := 3) (u := u) hu rfl rfl hok hd hrest rfl (q_evI k)
theorem cw_RX11_186 (C : qCx l g X b RX11 d) {d' : Nat} (hd' : d' < d) {u : Nat} (hu : u < 2) {a1 : Value} {rest : List Value} {P : Option Int → qMem → Prop} (hok : qOk l g d' yX7_hasHouse cX7_hasHouse 2 (some .boolean) [qR g 3 u, a1] M P) (hd : decode b pc = .ok (.invokevirtual 186, 3)) (hrest : (rest.map fun v => v.category).sum ≤ 8) (k : ∀ (r : Option Int) (M' : qMem), (∀ z, r = some z → qIn z) → P r M' → qV l g X M' (pc + 3) ls ((r.map qI).toList ++ rest)) : qV l g X M pc ls (a1 :: qR g 3 u :: rest) := q_callV C lk_RX11_186 q_im_yX7_hasHouse q_se_yX7_hasHouse rfl hd' (j := 3) (u := u) hu rfl rfl hok hd hrest rfl k
theorem lk_RX11_195 : qLk RX11 195 yX5_comerOf cX5_comerOf 2 (some .int) 1 := ⟨q_ml_RX11_195, q_in_RX5, q_cd_yX5_comerOf, ⟨by decide, by decide⟩, by decide +kernel, by decide⟩
theorem cv_RX11_195 (C : qCx l g X b RX11 d) {d' : Nat} (hd' : d' < d) {a1 : Value} {rest : List Value} {z : Int} {M' : qMem} (hok : qOk l g d' yX5_comerOf cX5_comerOf 2 (some .int) [qR g 20 0, a1] M (qEv (some z) M')) (hd : decode b pc = .ok (.invokevirtual 195, 3)) (hrest : (rest.map fun v => v.category).sum ≤ 8) (k : qIn z → qV l g X M' (pc + 3) ls (qI z :: rest)) : qV l g X M pc ls (a1 :: qR g 20 0 :: rest) := q_callV C lk_RX11_195 q_im_yX5_comerOf q_se_yX5_comerOf rfl hd' (j := 20) (u := 0) (by decide) rfl rfl hok hd hrest rfl (q_evI k)
theorem cw_RX11_195 (C : qCx l g X b RX11 d) {d' : Nat} (hd' : d' < d) {a1 : Value} {rest : List Value} {P : Option Int → qMem → Prop} (hok : qOk l g d' yX5_comerOf cX5_comerOf 2 (some .int) [qR g 20 0, a1] M P) (hd : decode b pc = .ok (.invokevirtual 195, 3)) (hrest : (rest.map fun v => v.category).sum ≤ 8) (k : ∀ (r : Option Int) (M' : qMem), (∀ z, r = some z → qIn z) → P r M' → qV l g X M' (pc + 3) ls ((r.map qI).toList ++ rest)) : qV l g X M pc ls (a1 :: qR g 20 0 :: rest) := q_callV C lk_RX11_195 q_im_yX5_comerOf q_se_yX5_comerOf rfl hd' (j := 20) (u := 0) (by decide) rfl rfl hok hd hrest rfl k
theorem lk_RX11_198 : qLk RX11 198 yX2_callsAt cX2_callsAt 4 (some .int) 1 := ⟨q_ml_RX11_198, q_in_RX2, q_cd_yX2_callsAt, ⟨by decide, by decide⟩, by decide +kernel, by decide⟩
theorem cv_RX11_198 (C : qCx l g X b RX11 d) {d' : Nat} (hd' : d' < d) {u : Nat} (hu : u < 33) {a1 : Value} {rest : List Value} {z : Int} {M' : qMem} (hok : qOk l g d' yX2_callsAt cX2_callsAt 4 (some .int) [qR g 10 u, a1] M (qEv (some z) M')) (hd : decode b pc = .ok (.invokevirtual 198, 3)) (hrest : (rest.map fun v => v.category).sum ≤ 8) (k : qIn z → qV l g X M' (pc + 3) ls (qI z :: rest)) : qV l g X M pc ls (a1 :: qR g 10 u :: rest) := q_callV C lk_RX11_198 q_im_yX2_callsAt q_se_yX2_callsAt rfl hd' (j := 10) (u := u) hu rfl rfl hok hd hrest rfl (q_evI k)
theorem cw_RX11_198 (C : qCx l g X b RX11 d) {d' : Nat} (hd' : d' < d) {u : Nat} (hu : u < 33) {a1 : Value} {rest : List Value} {P : Option Int → qMem → Prop} (hok : qOk l g d' yX2_callsAt cX2_callsAt 4 (some .int) [qR g 10 u, a1] M P) (hd : decode b pc = .ok (.invokevirtual 198, 3)) (hrest : (rest.map fun v => v.category).sum ≤ 8) (k : ∀ (r : Option Int) (M' : qMem), (∀ z, r = some z → qIn z) → P r M' → qV l g X M' (pc + 3) ls ((r.map qI).toList ++ rest)) : qV l g X M pc ls (a1 :: qR g 10 u :: rest) := q_callV C lk_RX11_198 q_im_yX2_callsAt q_se_yX2_callsAt rfl hd' (j := 10) (u := u) hu rfl rfl hok hd hrest rfl k
theorem lk_RL_40 : qLk RL 40 yX11_prize cX11_prize 3 (some .int) 2 := ⟨q_ml_RL_40, q_in_RX11, q_cd_yX11_prize, ⟨by decide, by decide⟩, by decide +kernel, by decide⟩
theorem cv_RL_40 (C : qCx l g X b RL d) {d' : Nat} (hd' : d' < d) {a1 a2 : Value} {rest : List Value} {z : Int} {M' : qMem} (hok : qOk l g d' yX11_prize cX11_prize 3 (some .int) [qR g 0 0, a1, a2] M (qEv (some z) M')) (hd : decode b pc = .ok (.invokevirtual 40, 3)) (hrest : (rest.map fun v => v.category).sum ≤ 8) (k : qIn z → qV l g X M' (pc + 3) ls (qI z :: rest)) : qV l g X M pc ls (a2 :: a1 :: qR g 0 0 :: rest) := q_callV C lk_RL_40 q_im_yX11_prize q_se_yX11_prize rfl hd' (j := 0) (u := 0) (by decide) rfl rfl hok hd hrest rfl (q_evI k)
theorem cw_RL_40 (C : qCx l g X b RL d) {d' : Nat} (hd' : d' < d) {a1 a2 : Value} {rest : List Value} {P : Option Int → qMem → Prop} (hok : qOk l g d' yX11_prize cX11_prize 3 (some .int) [qR g 0 0, a1, a2] M P) (hd : decode b pc = .ok (.invokevirtual 40, 3)) (hrest : (rest.map fun v => v.category).sum ≤ 8) (k : ∀ (r : Option Int) (M' : qMem), (∀ z, r = some z → qIn z) → P r M' → qV l g X M' (pc + 3) ls ((r.map qI).toList ++ rest)) : qV l g X M pc ls (a2 :: a1 :: qR g 0 0 :: rest) := q_callV C lk_RL_40 q_im_yX11_prize q_se_yX11_prize rfl hd' (j := 0) (u := 0) (by decide) rfl rfl hok hd hrest rfl k
theorem lk_RX11_201 : qLk RX11 201 yX7_prizeOf cX7_prizeOf 3 (some .int) 2 := ⟨q_ml_RX11_201, q_in_RX7, q_cd_yX7_prizeOf, ⟨by decide, by decide⟩, by decide +kernel, by decide⟩
theorem cv_RX11_201 (C : qCx l g X b RX11 d) {d' : Nat} (hd' : d' < d) {u : Nat} (hu : u < 2) {a1 a2 : Value} {rest : List Value} {z : Int} {M' : qMem} (hok : qOk l g d' yX7_prizeOf cX7_prizeOf 3 (some .int) [qR g 3 u, a1, a2] M (qEv (some z) M')) (hd : decode b pc = .ok (.invokevirtual 201, 3)) (hrest : (rest.map fun v => v.category).sum ≤ 8) (k : qIn z → qV l g X M' (pc + 3) ls (qI z :: rest)) : qV l g X M pc ls (a2 :: a1 :: qR g 3 u :: rest) := q_callV C lk_RX11_201 q_im_yX7_prizeOf q_se_yX7_prizeOf rfl hd' (j := 3) (u := u) hu rfl rfl hok hd hrest rfl (q_evI k)
theorem cw_RX11_201 (C : qCx l g X b RX11 d) {d' : Nat} (hd' : d' < d) {u : Nat} (hu : u < 2) {a1 a2 : Value} {rest : List Value} {P : Option Int → qMem → Prop} (hok : qOk l g d' yX7_prizeOf cX7_prizeOf 3 (some .int) [qR g 3 u, a1, a2] M P) (hd : decode b pc = .ok (.invokevirtual 201, 3)) (hrest : (rest.map fun v => v.category).sum ≤ 8) (k : ∀ (r : Option Int) (M' : qMem), (∀ z, r = some z → qIn z) → P r M' → qV l g X M' (pc + 3) ls ((r.map qI).toList ++ rest)) : qV l g X M pc ls (a2 :: a1 :: qR g 3 u :: rest) := q_callV C lk_RX11_201 q_im_yX7_prizeOf q_se_yX7_prizeOf rfl hd' (j := 3) (u := u) hu rfl rfl hok hd hrest rfl k
theorem lk_RL_44 : qLk RL 44 yX11_calls cX11_calls 3 (some .int) 2 := ⟨q_ml_RL_44, q_in_RX11, q_cd_yX11_calls, ⟨by decide, by decide⟩, by decide +kernel, by decide⟩
theorem cv_RL_44 (C : qCx l g X b RL d) {d' : Nat} (hd' : d' < d) {a1 a2 : Value} {rest : List Value} {z : Int} {M' : qMem} (hok : qOk l g d' yX11_calls cX11_calls 3 (some .int) [qR g 0 0, a1, a2] M (qEv (some z) M')) (hd : decode b pc = .ok (.invokevirtual 44, 3)) (hrest : (rest.map fun v => v.category).sum ≤ 8) (k : qIn z → qV l g X M' (pc + 3) ls (qI z :: rest)) : qV l g X M pc ls (a2 :: a1 :: qR g 0 0 :: rest) := q_callV C lk_RL_44 q_im_yX11_calls q_se_yX11_calls rfl hd' (j := 0) (u := 0) (by decide) rfl rfl hok hd hrest rfl (q_evI k)
theorem cw_RL_44 (C : qCx l g X b RL d) {d' : Nat} (hd' : d' < d) {a1 a2 : Value} {rest : List Value} {P : Option Int → qMem → Prop} (hok : qOk l g d' yX11_calls cX11_calls 3 (some .int) [qR g 0 0, a1, a2] M P) (hd : decode b pc = .ok (.invokevirtual 44, 3)) (hrest : (rest.map fun v => v.category).sum ≤ 8) (k : ∀ (r : Option Int) (M' : qMem), (∀ z, r = some z → qIn z) → P r M' → qV l g X M' (pc + 3) ls ((r.map qI).toList ++ rest)) : qV l g X M pc ls (a2 :: a1 :: qR g 0 0 :: rest) := q_callV C lk_RL_44 q_im_yX11_calls q_se_yX11_calls rfl hd' (j := 0) (u := 0) (by decide) rfl rfl hok hd hrest rfl k
theorem lk_RX11_205 : qLk RX11 205 yX7_hasBoth cX7_hasBoth 3 (some .boolean) 2 := ⟨q_ml_RX11_205, q_in_RX7, q_cd_yX7_hasBoth, ⟨by decide, by decide⟩, by decide +kernel, by decide⟩
theorem cv_RX11_205 (C : qCx l g X b RX11 d) {d' : Nat} (hd' : d' < d) {u : Nat} (hu : u < 2) {a1 a2 : Value} {rest : List Value} {z : Int} {M' : qMem} (hok : qOk l g d' yX7_hasBoth cX7_hasBoth 3 (some .boolean) [qR g 3 u, a1, a2] M (qEv (some z) M')) (hd : decode b pc = .ok (.invokevirtual 205, 3)) (hrest : (rest.map fun v => v.category).sum ≤ 8) (k : qIn z → qV l g X M' (pc + 3) ls (qI z :: rest)) : qV l g X M pc ls (a2 :: a1 :: qR g 3 u :: rest) := q_callV C lk_RX11_205 q_im_yX7_hasBoth q_se_yX7_hasBoth rfl hd' (j := 3) (u := u) hu rfl rfl hok hd hrest rfl (q_evI k)
theorem cw_RX11_205 (C : qCx l g X b RX11 d) {d' : Nat} (hd' : d' < d) {u : Nat} (hu : u < 2) {a1 a2 : Value} {rest : List Value} {P : Option Int → qMem → Prop} (hok : qOk l g d' yX7_hasBoth cX7_hasBoth 3 (some .boolean) [qR g 3 u, a1, a2] M P) (hd : decode b pc = .ok (.invokevirtual 205, 3)) (hrest : (rest.map fun v => v.category).sum ≤ 8) (k : ∀ (r : Option Int) (M' : qMem), (∀ z, r = some z → qIn z) → P r M' → qV l g X M' (pc + 3) ls ((r.map qI).toList ++ rest)) : qV l g X M pc ls (a2 :: a1 :: qR g 3 u :: rest) := q_callV C lk_RX11_205 q_im_yX7_hasBoth q_se_yX7_hasBoth rfl hd' (j := 3) (u := u) hu rfl rfl hok hd hrest rfl k
theorem lk_RX7_40 : qLk RX7 40 yX7_hasComer cX7_hasComer 2 (some .boolean) 1 := ⟨q_ml_RX7_40, q_in_RX7, q_cd_yX7_hasComer, ⟨by decide, by decide⟩, by decide +kernel, by decide⟩
theorem cv_RX7_40 (C : qCx l g X b RX7 d) {d' : Nat} (hd' : d' < d) {u : Nat} (hu : u < 2) {a1 : Value} {rest : List Value} {z : Int} {M' : qMem} (hok : qOk l g d' yX7_hasComer cX7_hasComer 2 (some .boolean) [qR g 3 u, a1] M (qEv (some z) M')) (hd : decode b pc = .ok (.invokevirtual 40, 3)) (hrest : (rest.map fun v => v.category).sum ≤ 8) (k : qIn z → qV l g X M' (pc + 3) ls (qI z :: rest)) : qV l g X M pc ls (a1 :: qR g 3 u :: rest) := q_callV C lk_RX7_40 q_im_yX7_hasComer q_se_yX7_hasComer rfl hd' (j := 3) (u := u) hu rfl rfl hok hd hrest rfl (q_evI k)
theorem cw_RX7_40 (C : qCx l g X b RX7 d) {d' : Nat} (hd' : d' < d) {u : Nat} (hu : u < 2) {a1 : Value} {rest : List Value} {P : Option Int → qMem → Prop} (hok : qOk l g d' yX7_hasComer cX7_hasComer 2 (some .boolean) [qR g 3 u, a1] M P) (hd : decode b pc = .ok (.invokevirtual 40, 3)) (hrest : (rest.map fun v => v.category).sum ≤ 8) (k : ∀ (r : Option Int) (M' : qMem), (∀ z, r = some z → qIn z) → P r M' → qV l g X M' (pc + 3) ls ((r.map qI).toList ++ rest)) : qV l g X M pc ls (a1 :: qR g 3 u :: rest) := q_callV C lk_RX7_40 q_im_yX7_hasComer q_se_yX7_hasComer rfl hd' (j := 3) (u := u) hu rfl rfl hok hd hrest rfl k
theorem lk_RX11_208 : qLk RX11 208 yX2_callsOf cX2_callsOf 3 (some .int) 2 := ⟨q_ml_RX11_208, q_in_RX2, q_cd_yX2_callsOf, ⟨by decide, by decide⟩, by decide +kernel, by decide⟩
theorem cv_RX11_208 (C : qCx l g X b RX11 d) {d' : Nat} (hd' : d' < d) {u : Nat} (hu : u < 33) {a1 a2 : Value} {rest : List Value} {z : Int} {M' : qMem} (hok : qOk l g d' yX2_callsOf cX2_callsOf 3 (some .int) [qR g 10 u, a1, a2] M (qEv (some z) M')) (hd : decode b pc = .ok (.invokevirtual 208, 3)) (hrest : (rest.map fun v => v.category).sum ≤ 8) (k : qIn z → qV l g X M' (pc + 3) ls (qI z :: rest)) : qV l g X M pc ls (a2 :: a1 :: qR g 10 u :: rest) := q_callV C lk_RX11_208 q_im_yX2_callsOf q_se_yX2_callsOf rfl hd' (j := 10) (u := u) hu rfl rfl hok hd hrest rfl (q_evI k)
theorem cw_RX11_208 (C : qCx l g X b RX11 d) {d' : Nat} (hd' : d' < d) {u : Nat} (hu : u < 33) {a1 a2 : Value} {rest : List Value} {P : Option Int → qMem → Prop} (hok : qOk l g d' yX2_callsOf cX2_callsOf 3 (some .int) [qR g 10 u, a1, a2] M P) (hd : decode b pc = .ok (.invokevirtual 208, 3)) (hrest : (rest.map fun v => v.category).sum ≤ 8) (k : ∀ (r : Option Int) (M' : qMem), (∀ z, r = some z → qIn z) → P r M' → qV l g X M' (pc + 3) ls ((r.map qI).toList ++ rest)) : qV l g X M pc ls (a2 :: a1 :: qR g 10 u :: rest) := q_callV C lk_RX11_208 q_im_yX2_callsOf q_se_yX2_callsOf rfl hd' (j := 10) (u := u) hu rfl rfl hok hd hrest rfl k
theorem lk_RL_48 : qLk RL 48 yX11_sign cX11_sign 3 (some .int) 2 := ⟨q_ml_RL_48, q_in_RX11, q_cd_yX11_sign, ⟨by decide, by decide⟩, by decide +kernel, by decide⟩
theorem cv_RL_48 (C : qCx l g X b RL d) {d' : Nat} (hd' : d' < d) {a1 a2 : Value} {rest : List Value} {z : Int} {M' : qMem} (hok : qOk l g d' yX11_sign cX11_sign 3 (some .int) [qR g 0 0, a1, a2] M (qEv (some z) M')) (hd : decode b pc = .ok (.invokevirtual 48, 3)) (hrest : (rest.map fun v => v.category).sum ≤ 8) (k : qIn z → qV l g X M' (pc + 3) ls (qI z :: rest)) : qV l g X M pc ls (a2 :: a1 :: qR g 0 0 :: rest) := q_callV C lk_RL_48 q_im_yX11_sign q_se_yX11_sign rfl hd' (j := 0) (u := 0) (by decide) rfl rfl hok hd hrest rfl (q_evI k)
theorem cw_RL_48 (C : qCx l g X b RL d) {d' : Nat} (hd' : d' < d) {a1 a2 : Value} {rest : List Value} {P : Option Int → qMem → Prop} (hok : qOk l g d' yX11_sign cX11_sign 3 (some .int) [qR g 0 0, a1, a2] M P) (hd : decode b pc = .ok (.invokevirtual 48, 3)) (hrest : (rest.map fun v => v.category).sum ≤ 8) (k : ∀ (r : Option Int) (M' : qMem), (∀ z, r = some z → qIn z) → P r M' → qV l g X M' (pc + 3) ls ((r.map qI).toList ++ rest)) : qV l g X M pc ls (a2 :: a1 :: qR g 0 0 :: rest) := q_callV C lk_RL_48 q_im_yX11_sign q_se_yX11_sign rfl hd' (j := 0) (u := 0) (by decide) rfl rfl hok hd hrest rfl k
theorem lk_RX11_211 : qLk RX11 211 yX1_isSign cX1_isSign 1 (some .boolean) 1 := ⟨q_ml_RX11_211, q_in_RX1, q_cd_yX1_isSign, ⟨by decide, by decide⟩, by decide +kernel, by decide⟩
theorem cv_RX11_211 (C : qCx l g X b RX11 d) {d' : Nat} (hd' : d' < d) {a1 : Value} {rest : List Value} {z : Int} {M' : qMem} (hok : qOk l g d' yX1_isSign cX1_isSign 1 (some .boolean) [a1] M (qEv (some z) M')) (hd : decode b pc = .ok (.invokestatic 211, 3)) (hrest : (rest.map fun v => v.category).sum ≤ 8) (k : qIn z → qV l g X M' (pc + 3) ls (qI z :: rest)) : qV l g X M pc ls (a1 :: rest) := q_callS C lk_RX11_211 q_st_yX1_isSign rfl hd' hok hd hrest rfl (q_evI k)
theorem cw_RX11_211 (C : qCx l g X b RX11 d) {d' : Nat} (hd' : d' < d) {a1 : Value} {rest : List Value} {P : Option Int → qMem → Prop} (hok : qOk l g d' yX1_isSign cX1_isSign 1 (some .boolean) [a1] M P) (hd : decode b pc = .ok (.invokestatic 211, 3)) (hrest : (rest.map fun v => v.category).sum ≤ 8) (k : ∀ (r : Option Int) (M' : qMem), (∀ z, r = some z → qIn z) → P r M' → qV l g X M' (pc + 3) ls ((r.map qI).toList ++ rest)) : qV l g X M pc ls (a1 :: rest) := q_callS C lk_RX11_211 q_st_yX1_isSign rfl hd' hok hd hrest rfl k
theorem lk_RX11_214 : qLk RX11 214 yX7_isOn cX7_isOn 1 (some .boolean) 0 := ⟨q_ml_RX11_214, q_in_RX7, q_cd_yX7_isOn, ⟨by decide, by decide⟩, by decide +kernel, by decide⟩
theorem cv_RX11_214 (C : qCx l g X b RX11 d) {d' : Nat} (hd' : d' < d) {u : Nat} (hu : u < 2) {rest : List Value} {z : Int} {M' : qMem} (hok : qOk l g d' yX7_isOn cX7_isOn 1 (some .boolean) [qR g 3 u] M (qEv (some z) M')) (hd : decode b pc = .ok (.invokevirtual 214, 3)) (hrest : (rest.map fun v => v.category).sum ≤ 8) (k : qIn z → qV l g X M' (pc + 3) ls (qI z :: rest)) : qV l g X M pc ls (qR g 3 u :: rest) := q_callV C lk_RX11_214 q_im_yX7_isOn q_se_yX7_isOn rfl hd' (j := 3) (u := u) hu rfl rfl hok hd hrest rfl (q_evI k)
theorem cw_RX11_214 (C : qCx l g X b RX11 d) {d' : Nat} (hd' : d' < d) {u : Nat} (hu : u < 2) {rest : List Value} {P : Option Int → qMem → Prop} (hok : qOk l g d' yX7_isOn cX7_isOn 1 (some .boolean) [qR g 3 u] M P) (hd : decode b pc = .ok (.invokevirtual 214, 3)) (hrest : (rest.map fun v => v.category).sum ≤ 8) (k : ∀ (r : Option Int) (M' : qMem), (∀ z, r = some z → qIn z) → P r M' → qV l g X M' (pc + 3) ls ((r.map qI).toList ++ rest)) : qV l g X M pc ls (qR g 3 u :: rest) := q_callV C lk_RX11_214 q_im_yX7_isOn q_se_yX7_isOn rfl hd' (j := 3) (u := u) hu rfl rfl hok hd hrest rfl k
theorem lk_RX11_219 : qLk RX11 219 yX1_meaning cX1_meaning 3 (some .int) 1 := ⟨q_ml_RX11_219, q_in_RX1, q_cd_yX1_meaning, ⟨by decide, by decide⟩, by decide +kernel, by decide⟩
theorem cv_RX11_219 (C : qCx l g X b RX11 d) {d' : Nat} (hd' : d' < d) {a1 : Value} {rest : List Value} {z : Int} {M' : qMem} (hok : qOk l g d' yX1_meaning cX1_meaning 3 (some .int) [a1] M (qEv (some z) M')) (hd : decode b pc = .ok (.invokestatic 219, 3)) (hrest : (rest.map fun v => v.category).sum ≤ 8) (k : qIn z → qV l g X M' (pc + 3) ls (qI z :: rest)) : qV l g X M pc ls (a1 :: rest) := q_callS C lk_RX11_219 q_st_yX1_meaning rfl hd' hok hd hrest rfl (q_evI k)
theorem cw_RX11_219 (C : qCx l g X b RX11 d) {d' : Nat} (hd' : d' < d) {a1 : Value} {rest : List Value} {P : Option Int → qMem → Prop} (hok : qOk l g d' yX1_meaning cX1_meaning 3 (some .int) [a1] M P) (hd : decode b pc = .ok (.invokestatic 219, 3)) (hrest : (rest.map fun v => v.category).sum ≤ 8) (k : ∀ (r : Option Int) (M' : qMem), (∀ z, r = some z → qIn z) → P r M' → qV l g X M' (pc + 3) ls ((r.map qI).toList ++ rest)) : qV l g X M pc ls (a1 :: rest) := q_callS C lk_RX11_219 q_st_yX1_meaning rfl hd' hok hd hrest rfl k
theorem lk_RX11_221 : qLk RX11 221 yX1_isSaid cX1_isSaid 5 (some .boolean) 2 := ⟨q_ml_RX11_221, q_in_RX1, q_cd_yX1_isSaid, ⟨by decide, by decide⟩, by decide +kernel, by decide⟩
theorem cv_RX11_221 (C : qCx l g X b RX11 d) {d' : Nat} (hd' : d' < d) {a1 a2 : Value} {rest : List Value} {z : Int} {M' : qMem} (hok : qOk l g d' yX1_isSaid cX1_isSaid 5 (some .boolean) [a1, a2] M (qEv (some z) M')) (hd : decode b pc = .ok (.invokestatic 221, 3)) (hrest : (rest.map fun v => v.category).sum ≤ 8) (k : qIn z → qV l g X M' (pc + 3) ls (qI z :: rest)) : qV l g X M pc ls (a2 :: a1 :: rest) := q_callS C lk_RX11_221 q_st_yX1_isSaid rfl hd' hok hd hrest rfl (q_evI k)
theorem cw_RX11_221 (C : qCx l g X b RX11 d) {d' : Nat} (hd' : d' < d) {a1 a2 : Value} {rest : List Value} {P : Option Int → qMem → Prop} (hok : qOk l g d' yX1_isSaid cX1_isSaid 5 (some .boolean) [a1, a2] M P) (hd : decode b pc = .ok (.invokestatic 221, 3)) (hrest : (rest.map fun v => v.category).sum ≤ 8) (k : ∀ (r : Option Int) (M' : qMem), (∀ z, r = some z → qIn z) → P r M' → qV l g X M' (pc + 3) ls ((r.map qI).toList ++ rest)) : qV l g X M pc ls (a2 :: a1 :: rest) := q_callS C lk_RX11_221 q_st_yX1_isSaid rfl hd' hok hd hrest rfl k
theorem lk_RL_52 : qLk RL 52 yX11_logged cX11_logged 3 (some .int) 2 := ⟨q_ml_RL_52, q_in_RX11, q_cd_yX11_logged, ⟨by decide, by decide⟩, by decide +kernel, by decide⟩
theorem cv_RL_52 (C : qCx l g X b RL d) {d' : Nat} (hd' : d' < d) {a1 a2 : Value} {rest : List Value} {z : Int} {M' : qMem} (hok : qOk l g d' yX11_logged cX11_logged 3 (some .int) [qR g 0 0, a1, a2] M (qEv (some z) M')) (hd : decode b pc = .ok (.invokevirtual 52, 3)) (hrest : (rest.map fun v => v.category).sum ≤ 8) (k : qIn z → qV l g X M' (pc + 3) ls (qI z :: rest)) : qV l g X M pc ls (a2 :: a1 :: qR g 0 0 :: rest) := q_callV C lk_RL_52 q_im_yX11_logged q_se_yX11_logged rfl hd' (j := 0) (u := 0) (by decide) rfl rfl hok hd hrest rfl (q_evI k)
theorem cw_RL_52 (C : qCx l g X b RL d) {d' : Nat} (hd' : d' < d) {a1 a2 : Value} {rest : List Value} {P : Option Int → qMem → Prop} (hok : qOk l g d' yX11_logged cX11_logged 3 (some .int) [qR g 0 0, a1, a2] M P) (hd : decode b pc = .ok (.invokevirtual 52, 3)) (hrest : (rest.map fun v => v.category).sum ≤ 8) (k : ∀ (r : Option Int) (M' : qMem), (∀ z, r = some z → qIn z) → P r M' → qV l g X M' (pc + 3) ls ((r.map qI).toList ++ rest)) : qV l g X M pc ls (a2 :: a1 :: qR g 0 0 :: rest) := q_callV C lk_RL_52 q_im_yX11_logged q_se_yX11_logged rfl hd' (j := 0) (u := 0) (by decide) rfl rfl hok hd hrest rfl k
theorem lk_RX11_224 : qLk RX11 224 yX4_look cX4_look 4 (some .int) 2 := ⟨q_ml_RX11_224, q_in_RX4, q_cd_yX4_look, ⟨by decide, by decide⟩, by decide +kernel, by decide⟩
theorem cv_RX11_224 (C : qCx l g X b RX11 d) {d' : Nat} (hd' : d' < d) {u : Nat} (hu : u < 33) {a1 a2 : Value} {rest : List Value} {z : Int} {M' : qMem} (hok : qOk l g d' yX4_look cX4_look 4 (some .int) [qR g 17 u, a1, a2] M (qEv (some z) M')) (hd : decode b pc = .ok (.invokevirtual 224, 3)) (hrest : (rest.map fun v => v.category).sum ≤ 8) (k : qIn z → qV l g X M' (pc + 3) ls (qI z :: rest)) : qV l g X M pc ls (a2 :: a1 :: qR g 17 u :: rest) := q_callV C lk_RX11_224 q_im_yX4_look q_se_yX4_look rfl hd' (j := 17) (u := u) hu rfl rfl hok hd hrest rfl (q_evI k)
theorem cw_RX11_224 (C : qCx l g X b RX11 d) {d' : Nat} (hd' : d' < d) {u : Nat} (hu : u < 33) {a1 a2 : Value} {rest : List Value} {P : Option Int → qMem → Prop} (hok : qOk l g d' yX4_look cX4_look 4 (some .int) [qR g 17 u, a1, a2] M P) (hd : decode b pc = .ok (.invokevirtual 224, 3)) (hrest : (rest.map fun v => v.category).sum ≤ 8) (k : ∀ (r : Option Int) (M' : qMem), (∀ z, r = some z → qIn z) → P r M' → qV l g X M' (pc + 3) ls ((r.map qI).toList ++ rest)) : qV l g X M pc ls (a2 :: a1 :: qR g 17 u :: rest) := q_callV C lk_RX11_224 q_im_yX4_look q_se_yX4_look rfl hd' (j := 17) (u := u) hu rfl rfl hok hd hrest rfl k
theorem lk_RL_56 : qLk RL 56 yX11_visit cX11_visit 4 (some .int) 3 := ⟨q_ml_RL_56, q_in_RX11, q_cd_yX11_visit, ⟨by decide, by decide⟩, by decide +kernel, by decide⟩
theorem cv_RL_56 (C : qCx l g X b RL d) {d' : Nat} (hd' : d' < d) {a1 a2 a3 : Value} {rest : List Value} {z : Int} {M' : qMem} (hok : qOk l g d' yX11_visit cX11_visit 4 (some .int) [qR g 0 0, a1, a2, a3] M (qEv (some z) M')) (hd : decode b pc = .ok (.invokevirtual 56, 3)) (hrest : (rest.map fun v => v.category).sum ≤ 8) (k : qIn z → qV l g X M' (pc + 3) ls (qI z :: rest)) : qV l g X M pc ls (a3 :: a2 :: a1 :: qR g 0 0 :: rest) := q_callV C lk_RL_56 q_im_yX11_visit q_se_yX11_visit rfl hd' (j := 0) (u := 0) (by decide) rfl rfl hok hd hrest rfl (q_evI k)
theorem cw_RL_56 (C : qCx l g X b RL d) {d' : Nat} (hd' : d' < d) {a1 a2 a3 : Value} {rest : List Value} {P : Option Int → qMem → Prop} (hok : qOk l g d' yX11_visit cX11_visit 4 (some .int) [qR g 0 0, a1, a2, a3] M P) (hd : decode b pc = .ok (.invokevirtual 56, 3)) (hrest : (rest.map fun v => v.category).sum ≤ 8) (k : ∀ (r : Option Int) (M' : qMem), (∀ z, r = some z → qIn z) → P r M' → qV l g X M' (pc + 3) ls ((r.map qI).toList ++ rest)) : qV l g X M pc ls (a3 :: a2 :: a1 :: qR g 0 0 :: rest) := q_callV C lk_RL_56 q_im_yX11_visit q_se_yX11_visit rfl hd' (j := 0) (u := 0) (by decide) rfl rfl hok hd hrest rfl k
theorem lk_RX11_227 : qLk RX11 227 yX6_remember cX6_remember 2 none 1 := ⟨q_ml_RX11_227, q_in_RX6, q_cd_yX6_remember, ⟨by decide, by decide⟩, by decide +kernel, by decide⟩
theorem cv_RX11_227 (C : qCx l g X b RX11 d) {d' : Nat} (hd' : d' < d) {a1 : Value} {rest : List Value} {M' : qMem} (hok : qOk l g d' yX6_remember cX6_remember 2 none [qR g 26 0, a1] M (qEv none M')) (hd : decode b pc = .ok (.invokevirtual 227, 3)) (hrest : (rest.map fun v => v.category).sum ≤ 8) (k : qV l g X M' (pc + 3) ls rest) : qV l g X M pc ls (a1 :: qR g 26 0 :: rest) := q_callV C lk_RX11_227 q_im_yX6_remember q_se_yX6_remember rfl hd' (j := 26) (u := 0) (by decide) rfl rfl hok hd hrest rfl (q_evV k)
theorem cw_RX11_227 (C : qCx l g X b RX11 d) {d' : Nat} (hd' : d' < d) {a1 : Value} {rest : List Value} {P : Option Int → qMem → Prop} (hok : qOk l g d' yX6_remember cX6_remember 2 none [qR g 26 0, a1] M P) (hd : decode b pc = .ok (.invokevirtual 227, 3)) (hrest : (rest.map fun v => v.category).sum ≤ 8) (k : ∀ (r : Option Int) (M' : qMem), (∀ z, r = some z → qIn z) → P r M' → qV l g X M' (pc + 3) ls ((r.map qI).toList ++ rest)) : qV l g X M pc ls (a1 :: qR g 26 0 :: rest) := q_callV C lk_RX11_227 q_im_yX6_remember q_se_yX6_remember rfl hd' (j := 26) (u := 0) (by decide) rfl rfl hok hd hrest rfl k
theorem lk_RX6_25 : qLk RX6 25 yX2_become cX2_become 2 none 1 := ⟨q_ml_RX6_25, q_in_RX2, q_cd_yX2_become, ⟨by decide, by decide⟩, by decide +kernel, by decide⟩
theorem cv_RX6_25 (C : qCx l g X b RX6 d) {d' : Nat} (hd' : d' < d) {u : Nat} (hu : u < 33) {a1 : Value} {rest : List Value} {M' : qMem} (hok : qOk l g d' yX2_become cX2_become 2 none [qR g 10 u, a1] M (qEv none M')) (hd : decode b pc = .ok (.invokevirtual 25, 3)) (hrest : (rest.map fun v => v.category).sum ≤ 8) (k : qV l g X M' (pc + 3) ls rest) : qV l g X M pc ls (a1 :: qR g 10 u :: rest) := q_callV C lk_RX6_25 q_im_yX2_become q_se_yX2_become rfl hd' (j := 10) (u := u) hu rfl rfl hok hd hrest rfl (q_evV k)
theorem cw_RX6_25 (C : qCx l g X b RX6 d) {d' : Nat} (hd' : d' < d) {u : Nat} (hu : u < 33) {a1 : Value} {rest : List Value} {P : Option Int → qMem → Prop} (hok : qOk l g d' yX2_become cX2_become 2 none [qR g 10 u, a1] M P) (hd : decode b pc = .ok (.invokevirtual 25, 3)) (hrest : (rest.map fun v => v.category).sum ≤ 8) (k : ∀ (r : Option Int) (M' : qMem), (∀ z, r = some z → qIn z) → P r M' → qV l g X M' (pc + 3) ls ((r.map qI).toList ++ rest)) : qV l g X M pc ls (a1 :: qR g 10 u :: rest) := q_callV C lk_RX6_25 q_im_yX2_become q_se_yX2_become rfl hd' (j := 10) (u := u) hu rfl rfl hok hd hrest rfl k
theorem lk_RX2_70 : qLk RX2 70 yX4_become cX4_become 2 none 1 := ⟨q_ml_RX2_70, q_in_RX4, q_cd_yX4_become, ⟨by decide, by decide⟩, by decide +kernel, by decide⟩
theorem cv_RX2_70 (C : qCx l g X b RX2 d) {d' : Nat} (hd' : d' < d) {u : Nat} (hu : u < 33) {a1 : Value} {rest : List Value} {M' : qMem} (hok : qOk l g d' yX4_become cX4_become 2 none [qR g 17 u, a1] M (qEv none M')) (hd : decode b pc = .ok (.invokevirtual 70, 3)) (hrest : (rest.map fun v => v.category).sum ≤ 8) (k : qV l g X M' (pc + 3) ls rest) : qV l g X M pc ls (a1 :: qR g 17 u :: rest) := q_callV C lk_RX2_70 q_im_yX4_become q_se_yX4_become rfl hd' (j := 17) (u := u) hu rfl rfl hok hd hrest rfl (q_evV k)
theorem cw_RX2_70 (C : qCx l g X b RX2 d) {d' : Nat} (hd' : d' < d) {u : Nat} (hu : u < 33) {a1 : Value} {rest : List Value} {P : Option Int → qMem → Prop} (hok : qOk l g d' yX4_become cX4_become 2 none [qR g 17 u, a1] M P) (hd : decode b pc = .ok (.invokevirtual 70, 3)) (hrest : (rest.map fun v => v.category).sum ≤ 8) (k : ∀ (r : Option Int) (M' : qMem), (∀ z, r = some z → qIn z) → P r M' → qV l g X M' (pc + 3) ls ((r.map qI).toList ++ rest)) : qV l g X M pc ls (a1 :: qR g 17 u :: rest) := q_callV C lk_RX2_70 q_im_yX4_become q_se_yX4_become rfl hd' (j := 17) (u := u) hu rfl rfl hok hd hrest rfl k
theorem lk_RX6_29 : qLk RX6 29 yJ9_min_7cf53 cJ9_min_7cf53 2 (some .int) 2 := ⟨q_ml_RX6_29, q_in_RJ9, q_cd_yJ9_min_7cf53, ⟨by decide, by decide⟩, by decide +kernel, by decide⟩
theorem cv_RX6_29 (C : qCx l g X b RX6 d) {d' : Nat} (hd' : d' < d) {a1 a2 : Value} {rest : List Value} {z : Int} {M' : qMem} (hok : qOk l g d' yJ9_min_7cf53 cJ9_min_7cf53 2 (some .int) [a1, a2] M (qEv (some z) M')) (hd : decode b pc = .ok (.invokestatic 29, 3)) (hrest : (rest.map fun v => v.category).sum ≤ 8) (k : qIn z → qV l g X M' (pc + 3) ls (qI z :: rest)) : qV l g X M pc ls (a2 :: a1 :: rest) := q_callS C lk_RX6_29 q_st_yJ9_min_7cf53 rfl hd' hok hd hrest rfl (q_evI k)
theorem cw_RX6_29 (C : qCx l g X b RX6 d) {d' : Nat} (hd' : d' < d) {a1 a2 : Value} {rest : List Value} {P : Option Int → qMem → Prop} (hok : qOk l g d' yJ9_min_7cf53 cJ9_min_7cf53 2 (some .int) [a1, a2] M P) (hd : decode b pc = .ok (.invokestatic 29, 3)) (hrest : (rest.map fun v => v.category).sum ≤ 8) (k : ∀ (r : Option Int) (M' : qMem), (∀ z, r = some z → qIn z) → P r M' → qV l g X M' (pc + 3) ls ((r.map qI).toList ++ rest)) : qV l g X M pc ls (a2 :: a1 :: rest) := q_callS C lk_RX6_29 q_st_yJ9_min_7cf53 rfl hd' hok hd hrest rfl k
theorem lk_RX11_231 : qLk RX11 231 yX11_lay cX11_lay 5 (some .int) 3 := ⟨q_ml_RX11_231, q_in_RX11, q_cd_yX11_lay, ⟨by decide, by decide⟩, by decide +kernel, by decide⟩
theorem cv_RX11_231 (C : qCx l g X b RX11 d) {d' : Nat} (hd' : d' < d) {a1 a2 a3 : Value} {rest : List Value} {z : Int} {M' : qMem} (hok : qOk l g d' yX11_lay cX11_lay 5 (some .int) [qR g 0 0, a1, a2, a3] M (qEv (some z) M')) (hd : decode b pc = .ok (.invokevirtual 231, 3)) (hrest : (rest.map fun v => v.category).sum ≤ 8) (k : qIn z → qV l g X M' (pc + 3) ls (qI z :: rest)) : qV l g X M pc ls (a3 :: a2 :: a1 :: qR g 0 0 :: rest) := q_callV C lk_RX11_231 q_im_yX11_lay q_se_yX11_lay rfl hd' (j := 0) (u := 0) (by decide) rfl rfl hok hd hrest rfl (q_evI k)
theorem cw_RX11_231 (C : qCx l g X b RX11 d) {d' : Nat} (hd' : d' < d) {a1 a2 a3 : Value} {rest : List Value} {P : Option Int → qMem → Prop} (hok : qOk l g d' yX11_lay cX11_lay 5 (some .int) [qR g 0 0, a1, a2, a3] M P) (hd : decode b pc = .ok (.invokevirtual 231, 3)) (hrest : (rest.map fun v => v.category).sum ≤ 8) (k : ∀ (r : Option Int) (M' : qMem), (∀ z, r = some z → qIn z) → P r M' → qV l g X M' (pc + 3) ls ((r.map qI).toList ++ rest)) : qV l g X M pc ls (a3 :: a2 :: a1 :: qR g 0 0 :: rest) := q_callV C lk_RX11_231 q_im_yX11_lay q_se_yX11_lay rfl hd' (j := 0) (u := 0) (by decide) rfl rfl hok hd hrest rfl k
theorem lk_RX11_259 : qLk RX11 259 yX10_answer cX10_answer 5 (some .int) 3 := ⟨q_ml_RX11_259, q_in_RX10, q_cd_yX10_answer, ⟨by decide, by decide⟩, by decide +kernel, by decide⟩
theorem cv_RX11_259 (C : qCx l g X b RX11 d) {d' : Nat} (hd' : d' < d) {a1 a2 a3 : Value} {rest : List Value} {z : Int} {M' : qMem} (hok : qOk l g d' yX10_answer cX10_answer 5 (some .int) [qR g 19 0, a1, a2, a3] M (qEv (some z) M')) (hd : decode b pc = .ok (.invokevirtual 259, 3)) (hrest : (rest.map fun v => v.category).sum ≤ 8) (k : qIn z → qV l g X M' (pc + 3) ls (qI z :: rest)) : qV l g X M pc ls (a3 :: a2 :: a1 :: qR g 19 0 :: rest) := q_callV C lk_RX11_259 q_im_yX10_answer q_se_yX10_answer rfl hd' (j := 19) (u := 0) (by decide) rfl rfl hok hd hrest rfl (q_evI k)
theorem cw_RX11_259 (C : qCx l g X b RX11 d) {d' : Nat} (hd' : d' < d) {a1 a2 a3 : Value} {rest : List Value} {P : Option Int → qMem → Prop} (hok : qOk l g d' yX10_answer cX10_answer 5 (some .int) [qR g 19 0, a1, a2, a3] M P) (hd : decode b pc = .ok (.invokevirtual 259, 3)) (hrest : (rest.map fun v => v.category).sum ≤ 8) (k : ∀ (r : Option Int) (M' : qMem), (∀ z, r = some z → qIn z) → P r M' → qV l g X M' (pc + 3) ls ((r.map qI).toList ++ rest)) : qV l g X M pc ls (a3 :: a2 :: a1 :: qR g 19 0 :: rest) := q_callV C lk_RX11_259 q_im_yX10_answer q_se_yX10_answer rfl hd' (j := 19) (u := 0) (by decide) rfl rfl hok hd hrest rfl k
theorem lk_RX10_69 : qLk RX10 69 yX10_heard cX10_heard 4 (some .int) 3 := ⟨q_ml_RX10_69, q_in_RX10, q_cd_yX10_heard, ⟨by decide, by decide⟩, by decide +kernel, by decide⟩
theorem cv_RX10_69 (C : qCx l g X b RX10 d) {d' : Nat} (hd' : d' < d) {a1 a2 a3 : Value} {rest : List Value} {z : Int} {M' : qMem} (hok : qOk l g d' yX10_heard cX10_heard 4 (some .int) [qR g 19 0, a1, a2, a3] M (qEv (some z) M')) (hd : decode b pc = .ok (.invokevirtual 69, 3)) (hrest : (rest.map fun v => v.category).sum ≤ 8) (k : qIn z → qV l g X M' (pc + 3) ls (qI z :: rest)) : qV l g X M pc ls (a3 :: a2 :: a1 :: qR g 19 0 :: rest) := q_callV C lk_RX10_69 q_im_yX10_heard q_se_yX10_heard rfl hd' (j := 19) (u := 0) (by decide) rfl rfl hok hd hrest rfl (q_evI k)
theorem cw_RX10_69 (C : qCx l g X b RX10 d) {d' : Nat} (hd' : d' < d) {a1 a2 a3 : Value} {rest : List Value} {P : Option Int → qMem → Prop} (hok : qOk l g d' yX10_heard cX10_heard 4 (some .int) [qR g 19 0, a1, a2, a3] M P) (hd : decode b pc = .ok (.invokevirtual 69, 3)) (hrest : (rest.map fun v => v.category).sum ≤ 8) (k : ∀ (r : Option Int) (M' : qMem), (∀ z, r = some z → qIn z) → P r M' → qV l g X M' (pc + 3) ls ((r.map qI).toList ++ rest)) : qV l g X M pc ls (a3 :: a2 :: a1 :: qR g 19 0 :: rest) := q_callV C lk_RX10_69 q_im_yX10_heard q_se_yX10_heard rfl hd' (j := 19) (u := 0) (by decide) rfl rfl hok hd hrest rfl k
theorem lk_RX11_324 : qLk RX11 324 yX4_append cX4_append 7 none 5 := ⟨q_ml_RX11_324, q_in_RX4, q_cd_yX4_append, ⟨by decide, by decide⟩, by decide +kernel, by decide⟩
theorem cv_RX11_324 (C : qCx l g X b RX11 d) {d' : Nat} (hd' : d' < d) {u : Nat} (hu : u < 33) {a1 a2 a3 a4 a5 : Value} {rest : List Value} {M' : qMem} (hok : qOk l g d' yX4_append cX4_append 7 none [qR g 17 u, a1, a2, a3, a4, a5] M (qEv none M')) (hd : decode b pc = .ok (.invokevirtual 324, 3)) (hrest : (rest.map fun v => v.category).sum ≤ 8) (k : qV l g X M' (pc + 3) ls rest) : qV l g X M pc ls (a5 :: a4 :: a3 :: a2 :: a1 :: qR g 17 u :: rest) := q_callV C lk_RX11_324 q_im_yX4_append q_se_yX4_append rfl hd' (j := 17) (u := u) hu rfl rfl hok hd hrest rfl (q_evV k)
theorem cw_RX11_324 (C : qCx l g X b RX11 d) {d' : Nat} (hd' : d' < d) {u : Nat} (hu : u < 33) {a1 a2 a3 a4 a5 : Value} {rest : List Value} {P : Option Int → qMem → Prop} (hok : qOk l g d' yX4_append cX4_append 7 none [qR g 17 u, a1, a2, a3, a4, a5] M P) (hd : decode b pc = .ok (.invokevirtual 324, 3)) (hrest : (rest.map fun v => v.category).sum ≤ 8) (k : ∀ (r : Option Int) (M' : qMem), (∀ z, r = some z → qIn z) → P r M' → qV l g X M' (pc + 3) ls ((r.map qI).toList ++ rest)) : qV l g X M pc ls (a5 :: a4 :: a3 :: a2 :: a1 :: qR g 17 u :: rest) := q_callV C lk_RX11_324 q_im_yX4_append q_se_yX4_append rfl hd' (j := 17) (u := u) hu rfl rfl hok hd hrest rfl k
theorem lk_RX4_22 : qLk RX4 22 yJ9_min_7cf53 cJ9_min_7cf53 2 (some .int) 2 := ⟨q_ml_RX4_22, q_in_RJ9, q_cd_yJ9_min_7cf53, ⟨by decide, by decide⟩, by decide +kernel, by decide⟩
theorem cv_RX4_22 (C : qCx l g X b RX4 d) {d' : Nat} (hd' : d' < d) {a1 a2 : Value} {rest : List Value} {z : Int} {M' : qMem} (hok : qOk l g d' yJ9_min_7cf53 cJ9_min_7cf53 2 (some .int) [a1, a2] M (qEv (some z) M')) (hd : decode b pc = .ok (.invokestatic 22, 3)) (hrest : (rest.map fun v => v.category).sum ≤ 8) (k : qIn z → qV l g X M' (pc + 3) ls (qI z :: rest)) : qV l g X M pc ls (a2 :: a1 :: rest) := q_callS C lk_RX4_22 q_st_yJ9_min_7cf53 rfl hd' hok hd hrest rfl (q_evI k)
theorem cw_RX4_22 (C : qCx l g X b RX4 d) {d' : Nat} (hd' : d' < d) {a1 a2 : Value} {rest : List Value} {P : Option Int → qMem → Prop} (hok : qOk l g d' yJ9_min_7cf53 cJ9_min_7cf53 2 (some .int) [a1, a2] M P) (hd : decode b pc = .ok (.invokestatic 22, 3)) (hrest : (rest.map fun v => v.category).sum ≤ 8) (k : ∀ (r : Option Int) (M' : qMem), (∀ z, r = some z → qIn z) → P r M' → qV l g X M' (pc + 3) ls ((r.map qI).toList ++ rest)) : qV l g X M pc ls (a2 :: a1 :: rest) := q_callS C lk_RX4_22 q_st_yJ9_min_7cf53 rfl hd' hok hd hrest rfl k
theorem lk_RX11_327 : qLk RX11 327 yX2_welcomeIn cX2_welcomeIn 4 none 2 := ⟨q_ml_RX11_327, q_in_RX2, q_cd_yX2_welcomeIn, ⟨by decide, by decide⟩, by decide +kernel, by decide⟩
theorem cv_RX11_327 (C : qCx l g X b RX11 d) {d' : Nat} (hd' : d' < d) {u : Nat} (hu : u < 33) {a1 a2 : Value} {rest : List Value} {M' : qMem} (hok : qOk l g d' yX2_welcomeIn cX2_welcomeIn 4 none [qR g 10 u, a1, a2] M (qEv none M')) (hd : decode b pc = .ok (.invokevirtual 327, 3)) (hrest : (rest.map fun v => v.category).sum ≤ 8) (k : qV l g X M' (pc + 3) ls rest) : qV l g X M pc ls (a2 :: a1 :: qR g 10 u :: rest) := q_callV C lk_RX11_327 q_im_yX2_welcomeIn q_se_yX2_welcomeIn rfl hd' (j := 10) (u := u) hu rfl rfl hok hd hrest rfl (q_evV k)
theorem cw_RX11_327 (C : qCx l g X b RX11 d) {d' : Nat} (hd' : d' < d) {u : Nat} (hu : u < 33) {a1 a2 : Value} {rest : List Value} {P : Option Int → qMem → Prop} (hok : qOk l g d' yX2_welcomeIn cX2_welcomeIn 4 none [qR g 10 u, a1, a2] M P) (hd : decode b pc = .ok (.invokevirtual 327, 3)) (hrest : (rest.map fun v => v.category).sum ≤ 8) (k : ∀ (r : Option Int) (M' : qMem), (∀ z, r = some z → qIn z) → P r M' → qV l g X M' (pc + 3) ls ((r.map qI).toList ++ rest)) : qV l g X M pc ls (a2 :: a1 :: qR g 10 u :: rest) := q_callV C lk_RX11_327 q_im_yX2_welcomeIn q_se_yX2_welcomeIn rfl hd' (j := 10) (u := u) hu rfl rfl hok hd hrest rfl k
theorem lk_RX2_85 : qLk RX2 85 yJ9_min_7cf53 cJ9_min_7cf53 2 (some .int) 2 := ⟨q_ml_RX2_85, q_in_RJ9, q_cd_yJ9_min_7cf53, ⟨by decide, by decide⟩, by decide +kernel, by decide⟩
theorem cv_RX2_85 (C : qCx l g X b RX2 d) {d' : Nat} (hd' : d' < d) {a1 a2 : Value} {rest : List Value} {z : Int} {M' : qMem} (hok : qOk l g d' yJ9_min_7cf53 cJ9_min_7cf53 2 (some .int) [a1, a2] M (qEv (some z) M')) (hd : decode b pc = .ok (.invokestatic 85, 3)) (hrest : (rest.map fun v => v.category).sum ≤ 8) (k : qIn z → qV l g X M' (pc + 3) ls (qI z :: rest)) : qV l g X M pc ls (a2 :: a1 :: rest) := q_callS C lk_RX2_85 q_st_yJ9_min_7cf53 rfl hd' hok hd hrest rfl (q_evI k)
theorem cw_RX2_85 (C : qCx l g X b RX2 d) {d' : Nat} (hd' : d' < d) {a1 a2 : Value} {rest : List Value} {P : Option Int → qMem → Prop} (hok : qOk l g d' yJ9_min_7cf53 cJ9_min_7cf53 2 (some .int) [a1, a2] M P) (hd : decode b pc = .ok (.invokestatic 85, 3)) (hrest : (rest.map fun v => v.category).sum ≤ 8) (k : ∀ (r : Option Int) (M' : qMem), (∀ z, r = some z → qIn z) → P r M' → qV l g X M' (pc + 3) ls ((r.map qI).toList ++ rest)) : qV l g X M pc ls (a2 :: a1 :: rest) := q_callS C lk_RX2_85 q_st_yJ9_min_7cf53 rfl hd' hok hd hrest rfl k
theorem lk_RL_61 : qLk RL 61 yX11_day cX11_day 4 (some .int) 1 := ⟨q_ml_RL_61, q_in_RX11, q_cd_yX11_day, ⟨by decide, by decide⟩, by decide +kernel, by decide⟩
theorem cv_RL_61 (C : qCx l g X b RL d) {d' : Nat} (hd' : d' < d) {a1 : Value} {rest : List Value} {z : Int} {M' : qMem} (hok : qOk l g d' yX11_day cX11_day 4 (some .int) [qR g 0 0, a1] M (qEv (some z) M')) (hd : decode b pc = .ok (.invokevirtual 61, 3)) (hrest : (rest.map fun v => v.category).sum ≤ 8) (k : qIn z → qV l g X M' (pc + 3) ls (qI z :: rest)) : qV l g X M pc ls (a1 :: qR g 0 0 :: rest) := q_callV C lk_RL_61 q_im_yX11_day q_se_yX11_day rfl hd' (j := 0) (u := 0) (by decide) rfl rfl hok hd hrest rfl (q_evI k)
theorem cw_RL_61 (C : qCx l g X b RL d) {d' : Nat} (hd' : d' < d) {a1 : Value} {rest : List Value} {P : Option Int → qMem → Prop} (hok : qOk l g d' yX11_day cX11_day 4 (some .int) [qR g 0 0, a1] M P) (hd : decode b pc = .ok (.invokevirtual 61, 3)) (hrest : (rest.map fun v => v.category).sum ≤ 8) (k : ∀ (r : Option Int) (M' : qMem), (∀ z, r = some z → qIn z) → P r M' → qV l g X M' (pc + 3) ls ((r.map qI).toList ++ rest)) : qV l g X M pc ls (a1 :: qR g 0 0 :: rest) := q_callV C lk_RL_61 q_im_yX11_day q_se_yX11_day rfl hd' (j := 0) (u := 0) (by decide) rfl rfl hok hd hrest rfl k
theorem lk_RX11_235 : qLk RX11 235 yX11_refusalOfDays cX11_refusalOfDays 2 (some .int) 1 := ⟨q_ml_RX11_235, q_in_RX11, q_cd_yX11_refusalOfDays, ⟨by decide, by decide⟩, by decide +kernel, by decide⟩
theorem cv_RX11_235 (C : qCx l g X b RX11 d) {d' : Nat} (hd' : d' < d) {a1 : Value} {rest : List Value} {z : Int} {M' : qMem} (hok : qOk l g d' yX11_refusalOfDays cX11_refusalOfDays 2 (some .int) [qR g 0 0, a1] M (qEv (some z) M')) (hd : decode b pc = .ok (.invokevirtual 235, 3)) (hrest : (rest.map fun v => v.category).sum ≤ 8) (k : qIn z → qV l g X M' (pc + 3) ls (qI z :: rest)) : qV l g X M pc ls (a1 :: qR g 0 0 :: rest) := q_callV C lk_RX11_235 q_im_yX11_refusalOfDays q_se_yX11_refusalOfDays rfl hd' (j := 0) (u := 0) (by decide) rfl rfl hok hd hrest rfl (q_evI k)
theorem cw_RX11_235 (C : qCx l g X b RX11 d) {d' : Nat} (hd' : d' < d) {a1 : Value} {rest : List Value} {P : Option Int → qMem → Prop} (hok : qOk l g d' yX11_refusalOfDays cX11_refusalOfDays 2 (some .int) [qR g 0 0, a1] M P) (hd : decode b pc = .ok (.invokevirtual 235, 3)) (hrest : (rest.map fun v => v.category).sum ≤ 8) (k : ∀ (r : Option Int) (M' : qMem), (∀ z, r = some z → qIn z) → P r M' → qV l g X M' (pc + 3) ls ((r.map qI).toList ++ rest)) : qV l g X M pc ls (a1 :: qR g 0 0 :: rest) := q_callV C lk_RX11_235 q_im_yX11_refusalOfDays q_se_yX11_refusalOfDays rfl hd' (j := 0) (u := 0) (by decide) rfl rfl hok hd hrest rfl k
theorem lk_RX11_238 : qLk RX11 238 yX2_endDay cX2_endDay 4 none 1 := ⟨q_ml_RX11_238, q_in_RX2, q_cd_yX2_endDay, ⟨by decide, by decide⟩, by decide +kernel, by decide⟩
theorem cv_RX11_238 (C : qCx l g X b RX11 d) {d' : Nat} (hd' : d' < d) {u : Nat} (hu : u < 33) {a1 : Value} {rest : List Value} {M' : qMem} (hok : qOk l g d' yX2_endDay cX2_endDay 4 none [qR g 10 u, a1] M (qEv none M')) (hd : decode b pc = .ok (.invokevirtual 238, 3)) (hrest : (rest.map fun v => v.category).sum ≤ 8) (k : qV l g X M' (pc + 3) ls rest) : qV l g X M pc ls (a1 :: qR g 10 u :: rest) := q_callV C lk_RX11_238 q_im_yX2_endDay q_se_yX2_endDay rfl hd' (j := 10) (u := u) hu rfl rfl hok hd hrest rfl (q_evV k)
theorem cw_RX11_238 (C : qCx l g X b RX11 d) {d' : Nat} (hd' : d' < d) {u : Nat} (hu : u < 33) {a1 : Value} {rest : List Value} {P : Option Int → qMem → Prop} (hok : qOk l g d' yX2_endDay cX2_endDay 4 none [qR g 10 u, a1] M P) (hd : decode b pc = .ok (.invokevirtual 238, 3)) (hrest : (rest.map fun v => v.category).sum ≤ 8) (k : ∀ (r : Option Int) (M' : qMem), (∀ z, r = some z → qIn z) → P r M' → qV l g X M' (pc + 3) ls ((r.map qI).toList ++ rest)) : qV l g X M pc ls (a1 :: qR g 10 u :: rest) := q_callV C lk_RX11_238 q_im_yX2_endDay q_se_yX2_endDay rfl hd' (j := 10) (u := u) hu rfl rfl hok hd hrest rfl k
theorem lk_RX2_90 : qLk RX2 90 yJ9_max_7cf53 cJ9_max_7cf53 2 (some .int) 2 := ⟨q_ml_RX2_90, q_in_RJ9, q_cd_yJ9_max_7cf53, ⟨by decide, by decide⟩, by decide +kernel, by decide⟩
theorem cv_RX2_90 (C : qCx l g X b RX2 d) {d' : Nat} (hd' : d' < d) {a1 a2 : Value} {rest : List Value} {z : Int} {M' : qMem} (hok : qOk l g d' yJ9_max_7cf53 cJ9_max_7cf53 2 (some .int) [a1, a2] M (qEv (some z) M')) (hd : decode b pc = .ok (.invokestatic 90, 3)) (hrest : (rest.map fun v => v.category).sum ≤ 8) (k : qIn z → qV l g X M' (pc + 3) ls (qI z :: rest)) : qV l g X M pc ls (a2 :: a1 :: rest) := q_callS C lk_RX2_90 q_st_yJ9_max_7cf53 rfl hd' hok hd hrest rfl (q_evI k)
theorem cw_RX2_90 (C : qCx l g X b RX2 d) {d' : Nat} (hd' : d' < d) {a1 a2 : Value} {rest : List Value} {P : Option Int → qMem → Prop} (hok : qOk l g d' yJ9_max_7cf53 cJ9_max_7cf53 2 (some .int) [a1, a2] M P) (hd : decode b pc = .ok (.invokestatic 90, 3)) (hrest : (rest.map fun v => v.category).sum ≤ 8) (k : ∀ (r : Option Int) (M' : qMem), (∀ z, r = some z → qIn z) → P r M' → qV l g X M' (pc + 3) ls ((r.map qI).toList ++ rest)) : qV l g X M pc ls (a2 :: a1 :: rest) := q_callS C lk_RX2_90 q_st_yJ9_max_7cf53 rfl hd' hok hd hrest rfl k
theorem lk_RL_65 : qLk RL 65 yX11_mean cX11_mean 4 (some .int) 2 := ⟨q_ml_RL_65, q_in_RX11, q_cd_yX11_mean, ⟨by decide, by decide⟩, by decide +kernel, by decide⟩
theorem cv_RL_65 (C : qCx l g X b RL d) {d' : Nat} (hd' : d' < d) {a1 a2 : Value} {rest : List Value} {z : Int} {M' : qMem} (hok : qOk l g d' yX11_mean cX11_mean 4 (some .int) [qR g 0 0, a1, a2] M (qEv (some z) M')) (hd : decode b pc = .ok (.invokevirtual 65, 3)) (hrest : (rest.map fun v => v.category).sum ≤ 8) (k : qIn z → qV l g X M' (pc + 3) ls (qI z :: rest)) : qV l g X M pc ls (a2 :: a1 :: qR g 0 0 :: rest) := q_callV C lk_RL_65 q_im_yX11_mean q_se_yX11_mean rfl hd' (j := 0) (u := 0) (by decide) rfl rfl hok hd hrest rfl (q_evI k)
theorem cw_RL_65 (C : qCx l g X b RL d) {d' : Nat} (hd' : d' < d) {a1 a2 : Value} {rest : List Value} {P : Option Int → qMem → Prop} (hok : qOk l g d' yX11_mean cX11_mean 4 (some .int) [qR g 0 0, a1, a2] M P) (hd : decode b pc = .ok (.invokevirtual 65, 3)) (hrest : (rest.map fun v => v.category).sum ≤ 8) (k : ∀ (r : Option Int) (M' : qMem), (∀ z, r = some z → qIn z) → P r M' → qV l g X M' (pc + 3) ls ((r.map qI).toList ++ rest)) : qV l g X M pc ls (a2 :: a1 :: qR g 0 0 :: rest) := q_callV C lk_RL_65 q_im_yX11_mean q_se_yX11_mean rfl hd' (j := 0) (u := 0) (by decide) rfl rfl hok hd hrest rfl k
theorem lk_RL_69 : qLk RL 69 yX11_stuff cX11_stuff 4 (some .int) 2 := ⟨q_ml_RL_69, q_in_RX11, q_cd_yX11_stuff, ⟨by decide, by decide⟩, by decide +kernel, by decide⟩
theorem cv_RL_69 (C : qCx l g X b RL d) {d' : Nat} (hd' : d' < d) {a1 a2 : Value} {rest : List Value} {z : Int} {M' : qMem} (hok : qOk l g d' yX11_stuff cX11_stuff 4 (some .int) [qR g 0 0, a1, a2] M (qEv (some z) M')) (hd : decode b pc = .ok (.invokevirtual 69, 3)) (hrest : (rest.map fun v => v.category).sum ≤ 8) (k : qIn z → qV l g X M' (pc + 3) ls (qI z :: rest)) : qV l g X M pc ls (a2 :: a1 :: qR g 0 0 :: rest) := q_callV C lk_RL_69 q_im_yX11_stuff q_se_yX11_stuff rfl hd' (j := 0) (u := 0) (by decide) rfl rfl hok hd hrest rfl (q_evI k)
theorem cw_RL_69 (C : qCx l g X b RL d) {d' : Nat} (hd' : d' < d) {a1 a2 : Value} {rest : List Value} {P : Option Int → qMem → Prop} (hok : qOk l g d' yX11_stuff cX11_stuff 4 (some .int) [qR g 0 0, a1, a2] M P) (hd : decode b pc = .ok (.invokevirtual 69, 3)) (hrest : (rest.map fun v => v.category).sum ≤ 8) (k : ∀ (r : Option Int) (M' : qMem), (∀ z, r = some z → qIn z) → P r M' → qV l g X M' (pc + 3) ls ((r.map qI).toList ++ rest)) : qV l g X M pc ls (a2 :: a1 :: qR g 0 0 :: rest) := q_callV C lk_RL_69 q_im_yX11_stuff q_se_yX11_stuff rfl hd' (j := 0) (u := 0) (by decide) rfl rfl hok hd hrest rfl k
theorem lk_RL_73 : qLk RL 73 yX11_pardon cX11_pardon 4 (some .int) 2 := ⟨q_ml_RL_73, q_in_RX11, q_cd_yX11_pardon, ⟨by decide, by decide⟩, by decide +kernel, by decide⟩
theorem cv_RL_73 (C : qCx l g X b RL d) {d' : Nat} (hd' : d' < d) {a1 a2 : Value} {rest : List Value} {z : Int} {M' : qMem} (hok : qOk l g d' yX11_pardon cX11_pardon 4 (some .int) [qR g 0 0, a1, a2] M (qEv (some z) M')) (hd : decode b pc = .ok (.invokevirtual 73, 3)) (hrest : (rest.map fun v => v.category).sum ≤ 8) (k : qIn z → qV l g X M' (pc + 3) ls (qI z :: rest)) : qV l g X M pc ls (a2 :: a1 :: qR g 0 0 :: rest) := q_callV C lk_RL_73 q_im_yX11_pardon q_se_yX11_pardon rfl hd' (j := 0) (u := 0) (by decide) rfl rfl hok hd hrest rfl (q_evI k)
theorem cw_RL_73 (C : qCx l g X b RL d) {d' : Nat} (hd' : d' < d) {a1 a2 : Value} {rest : List Value} {P : Option Int → qMem → Prop} (hok : qOk l g d' yX11_pardon cX11_pardon 4 (some .int) [qR g 0 0, a1, a2] M P) (hd : decode b pc = .ok (.invokevirtual 73, 3)) (hrest : (rest.map fun v => v.category).sum ≤ 8) (k : ∀ (r : Option Int) (M' : qMem), (∀ z, r = some z → qIn z) → P r M' → qV l g X M' (pc + 3) ls ((r.map qI).toList ++ rest)) : qV l g X M pc ls (a2 :: a1 :: qR g 0 0 :: rest) := q_callV C lk_RL_73 q_im_yX11_pardon q_se_yX11_pardon rfl hd' (j := 0) (u := 0) (by decide) rfl rfl hok hd hrest rfl k
theorem lk_RX11_242 : qLk RX11 242 yX2_isSham cX2_isSham 3 (some .boolean) 2 := ⟨q_ml_RX11_242, q_in_RX2, q_cd_yX2_isSham, ⟨by decide, by decide⟩, by decide +kernel, by decide⟩
theorem cv_RX11_242 (C : qCx l g X b RX11 d) {d' : Nat} (hd' : d' < d) {u : Nat} (hu : u < 33) {a1 a2 : Value} {rest : List Value} {z : Int} {M' : qMem} (hok : qOk l g d' yX2_isSham cX2_isSham 3 (some .boolean) [qR g 10 u, a1, a2] M (qEv (some z) M')) (hd : decode b pc = .ok (.invokevirtual 242, 3)) (hrest : (rest.map fun v => v.category).sum ≤ 8) (k : qIn z → qV l g X M' (pc + 3) ls (qI z :: rest)) : qV l g X M pc ls (a2 :: a1 :: qR g 10 u :: rest) := q_callV C lk_RX11_242 q_im_yX2_isSham q_se_yX2_isSham rfl hd' (j := 10) (u := u) hu rfl rfl hok hd hrest rfl (q_evI k)
theorem cw_RX11_242 (C : qCx l g X b RX11 d) {d' : Nat} (hd' : d' < d) {u : Nat} (hu : u < 33) {a1 a2 : Value} {rest : List Value} {P : Option Int → qMem → Prop} (hok : qOk l g d' yX2_isSham cX2_isSham 3 (some .boolean) [qR g 10 u, a1, a2] M P) (hd : decode b pc = .ok (.invokevirtual 242, 3)) (hrest : (rest.map fun v => v.category).sum ≤ 8) (k : ∀ (r : Option Int) (M' : qMem), (∀ z, r = some z → qIn z) → P r M' → qV l g X M' (pc + 3) ls ((r.map qI).toList ++ rest)) : qV l g X M pc ls (a2 :: a1 :: qR g 10 u :: rest) := q_callV C lk_RX11_242 q_im_yX2_isSham q_se_yX2_isSham rfl hd' (j := 10) (u := u) hu rfl rfl hok hd hrest rfl k
theorem lk_RX11_245 : qLk RX11 245 yX2_forgive cX2_forgive 3 none 2 := ⟨q_ml_RX11_245, q_in_RX2, q_cd_yX2_forgive, ⟨by decide, by decide⟩, by decide +kernel, by decide⟩
theorem cv_RX11_245 (C : qCx l g X b RX11 d) {d' : Nat} (hd' : d' < d) {u : Nat} (hu : u < 33) {a1 a2 : Value} {rest : List Value} {M' : qMem} (hok : qOk l g d' yX2_forgive cX2_forgive 3 none [qR g 10 u, a1, a2] M (qEv none M')) (hd : decode b pc = .ok (.invokevirtual 245, 3)) (hrest : (rest.map fun v => v.category).sum ≤ 8) (k : qV l g X M' (pc + 3) ls rest) : qV l g X M pc ls (a2 :: a1 :: qR g 10 u :: rest) := q_callV C lk_RX11_245 q_im_yX2_forgive q_se_yX2_forgive rfl hd' (j := 10) (u := u) hu rfl rfl hok hd hrest rfl (q_evV k)
theorem cw_RX11_245 (C : qCx l g X b RX11 d) {d' : Nat} (hd' : d' < d) {u : Nat} (hu : u < 33) {a1 a2 : Value} {rest : List Value} {P : Option Int → qMem → Prop} (hok : qOk l g d' yX2_forgive cX2_forgive 3 none [qR g 10 u, a1, a2] M P) (hd : decode b pc = .ok (.invokevirtual 245, 3)) (hrest : (rest.map fun v => v.category).sum ≤ 8) (k : ∀ (r : Option Int) (M' : qMem), (∀ z, r = some z → qIn z) → P r M' → qV l g X M' (pc + 3) ls ((r.map qI).toList ++ rest)) : qV l g X M pc ls (a2 :: a1 :: qR g 10 u :: rest) := q_callV C lk_RX11_245 q_im_yX2_forgive q_se_yX2_forgive rfl hd' (j := 10) (u := u) hu rfl rfl hok hd hrest rfl k
theorem lk_RL_77 : qLk RL 77 yX11_drift cX11_drift 4 (some .int) 1 := ⟨q_ml_RL_77, q_in_RX11, q_cd_yX11_drift, ⟨by decide, by decide⟩, by decide +kernel, by decide⟩
theorem cv_RL_77 (C : qCx l g X b RL d) {d' : Nat} (hd' : d' < d) {a1 : Value} {rest : List Value} {z : Int} {M' : qMem} (hok : qOk l g d' yX11_drift cX11_drift 4 (some .int) [qR g 0 0, a1] M (qEv (some z) M')) (hd : decode b pc = .ok (.invokevirtual 77, 3)) (hrest : (rest.map fun v => v.category).sum ≤ 8) (k : qIn z → qV l g X M' (pc + 3) ls (qI z :: rest)) : qV l g X M pc ls (a1 :: qR g 0 0 :: rest) := q_callV C lk_RL_77 q_im_yX11_drift q_se_yX11_drift rfl hd' (j := 0) (u := 0) (by decide) rfl rfl hok hd hrest rfl (q_evI k)
theorem cw_RL_77 (C : qCx l g X b RL d) {d' : Nat} (hd' : d' < d) {a1 : Value} {rest : List Value} {P : Option Int → qMem → Prop} (hok : qOk l g d' yX11_drift cX11_drift 4 (some .int) [qR g 0 0, a1] M P) (hd : decode b pc = .ok (.invokevirtual 77, 3)) (hrest : (rest.map fun v => v.category).sum ≤ 8) (k : ∀ (r : Option Int) (M' : qMem), (∀ z, r = some z → qIn z) → P r M' → qV l g X M' (pc + 3) ls ((r.map qI).toList ++ rest)) : qV l g X M pc ls (a1 :: qR g 0 0 :: rest) := q_callV C lk_RL_77 q_im_yX11_drift q_se_yX11_drift rfl hd' (j := 0) (u := 0) (by decide) rfl rfl hok hd hrest rfl k
theorem lk_RX11_249 : qLk RX11 249 yX11_layByDraws cX11_layByDraws 4 none 0 := ⟨q_ml_RX11_249, q_in_RX11, q_cd_yX11_layByDraws, ⟨by decide, by decide⟩, by decide +kernel, by decide⟩
theorem cv_RX11_249 (C : qCx l g X b RX11 d) {d' : Nat} (hd' : d' < d) {rest : List Value} {M' : qMem} (hok : qOk l g d' yX11_layByDraws cX11_layByDraws 4 none [qR g 0 0] M (qEv none M')) (hd : decode b pc = .ok (.invokevirtual 249, 3)) (hrest : (rest.map fun v => v.category).sum ≤ 8) (k : qV l g X M' (pc + 3) ls rest) : qV l g X M pc ls (qR g 0 0 :: rest) := q_callV C lk_RX11_249 q_im_yX11_layByDraws q_se_yX11_layByDraws rfl hd' (j := 0) (u := 0) (by decide) rfl rfl hok hd hrest rfl (q_evV k)
theorem cw_RX11_249 (C : qCx l g X b RX11 d) {d' : Nat} (hd' : d' < d) {rest : List Value} {P : Option Int → qMem → Prop} (hok : qOk l g d' yX11_layByDraws cX11_layByDraws 4 none [qR g 0 0] M P) (hd : decode b pc = .ok (.invokevirtual 249, 3)) (hrest : (rest.map fun v => v.category).sum ≤ 8) (k : ∀ (r : Option Int) (M' : qMem), (∀ z, r = some z → qIn z) → P r M' → qV l g X M' (pc + 3) ls ((r.map qI).toList ++ rest)) : qV l g X M pc ls (qR g 0 0 :: rest) := q_callV C lk_RX11_249 q_im_yX11_layByDraws q_se_yX11_layByDraws rfl hd' (j := 0) (u := 0) (by decide) rfl rfl hok hd hrest rfl k
theorem lk_RX11_330 : qLk RX11 330 yX11_draw cX11_draw 2 (some .int) 1 := ⟨q_ml_RX11_330, q_in_RX11, q_cd_yX11_draw, ⟨by decide, by decide⟩, by decide +kernel, by decide⟩
theorem cv_RX11_330 (C : qCx l g X b RX11 d) {d' : Nat} (hd' : d' < d) {a1 : Value} {rest : List Value} {z : Int} {M' : qMem} (hok : qOk l g d' yX11_draw cX11_draw 2 (some .int) [qR g 0 0, a1] M (qEv (some z) M')) (hd : decode b pc = .ok (.invokevirtual 330, 3)) (hrest : (rest.map fun v => v.category).sum ≤ 8) (k : qIn z → qV l g X M' (pc + 3) ls (qI z :: rest)) : qV l g X M pc ls (a1 :: qR g 0 0 :: rest) := q_callV C lk_RX11_330 q_im_yX11_draw q_se_yX11_draw rfl hd' (j := 0) (u := 0) (by decide) rfl rfl hok hd hrest rfl (q_evI k)
theorem cw_RX11_330 (C : qCx l g X b RX11 d) {d' : Nat} (hd' : d' < d) {a1 : Value} {rest : List Value} {P : Option Int → qMem → Prop} (hok : qOk l g d' yX11_draw cX11_draw 2 (some .int) [qR g 0 0, a1] M P) (hd : decode b pc = .ok (.invokevirtual 330, 3)) (hrest : (rest.map fun v => v.category).sum ≤ 8) (k : ∀ (r : Option Int) (M' : qMem), (∀ z, r = some z → qIn z) → P r M' → qV l g X M' (pc + 3) ls ((r.map qI).toList ++ rest)) : qV l g X M pc ls (a1 :: qR g 0 0 :: rest) := q_callV C lk_RX11_330 q_im_yX11_draw q_se_yX11_draw rfl hd' (j := 0) (u := 0) (by decide) rfl rfl hok hd hrest rfl k
theorem lk_RL_81 : qLk RL 81 yX11_undo cX11_undo 2 (some .int) 1 := ⟨q_ml_RL_81, q_in_RX11, q_cd_yX11_undo, ⟨by decide, by decide⟩, by decide +kernel, by decide⟩
theorem cv_RL_81 (C : qCx l g X b RL d) {d' : Nat} (hd' : d' < d) {a1 : Value} {rest : List Value} {z : Int} {M' : qMem} (hok : qOk l g d' yX11_undo cX11_undo 2 (some .int) [qR g 0 0, a1] M (qEv (some z) M')) (hd : decode b pc = .ok (.invokevirtual 81, 3)) (hrest : (rest.map fun v => v.category).sum ≤ 8) (k : qIn z → qV l g X M' (pc + 3) ls (qI z :: rest)) : qV l g X M pc ls (a1 :: qR g 0 0 :: rest) := q_callV C lk_RL_81 q_im_yX11_undo q_se_yX11_undo rfl hd' (j := 0) (u := 0) (by decide) rfl rfl hok hd hrest rfl (q_evI k)
theorem cw_RL_81 (C : qCx l g X b RL d) {d' : Nat} (hd' : d' < d) {a1 : Value} {rest : List Value} {P : Option Int → qMem → Prop} (hok : qOk l g d' yX11_undo cX11_undo 2 (some .int) [qR g 0 0, a1] M P) (hd : decode b pc = .ok (.invokevirtual 81, 3)) (hrest : (rest.map fun v => v.category).sum ≤ 8) (k : ∀ (r : Option Int) (M' : qMem), (∀ z, r = some z → qIn z) → P r M' → qV l g X M' (pc + 3) ls ((r.map qI).toList ++ rest)) : qV l g X M pc ls (a1 :: qR g 0 0 :: rest) := q_callV C lk_RL_81 q_im_yX11_undo q_se_yX11_undo rfl hd' (j := 0) (u := 0) (by decide) rfl rfl hok hd hrest rfl k
theorem lk_RX11_252 : qLk RX11 252 yX6_bringBack cX6_bringBack 3 (some .boolean) 2 := ⟨q_ml_RX11_252, q_in_RX6, q_cd_yX6_bringBack, ⟨by decide, by decide⟩, by decide +kernel, by decide⟩
theorem cv_RX11_252 (C : qCx l g X b RX11 d) {d' : Nat} (hd' : d' < d) {a1 a2 : Value} {rest : List Value} {z : Int} {M' : qMem} (hok : qOk l g d' yX6_bringBack cX6_bringBack 3 (some .boolean) [qR g 26 0, a1, a2] M (qEv (some z) M')) (hd : decode b pc = .ok (.invokevirtual 252, 3)) (hrest : (rest.map fun v => v.category).sum ≤ 8) (k : qIn z → qV l g X M' (pc + 3) ls (qI z :: rest)) : qV l g X M pc ls (a2 :: a1 :: qR g 26 0 :: rest) := q_callV C lk_RX11_252 q_im_yX6_bringBack q_se_yX6_bringBack rfl hd' (j := 26) (u := 0) (by decide) rfl rfl hok hd hrest rfl (q_evI k)
theorem cw_RX11_252 (C : qCx l g X b RX11 d) {d' : Nat} (hd' : d' < d) {a1 a2 : Value} {rest : List Value} {P : Option Int → qMem → Prop} (hok : qOk l g d' yX6_bringBack cX6_bringBack 3 (some .boolean) [qR g 26 0, a1, a2] M P) (hd : decode b pc = .ok (.invokevirtual 252, 3)) (hrest : (rest.map fun v => v.category).sum ≤ 8) (k : ∀ (r : Option Int) (M' : qMem), (∀ z, r = some z → qIn z) → P r M' → qV l g X M' (pc + 3) ls ((r.map qI).toList ++ rest)) : qV l g X M pc ls (a2 :: a1 :: qR g 26 0 :: rest) := q_callV C lk_RX11_252 q_im_yX6_bringBack q_se_yX6_bringBack rfl hd' (j := 26) (u := 0) (by decide) rfl rfl hok hd hrest rfl k
theorem lk_RL_85 : qLk RL 85 yX11_says cX11_says 5 (some .int) 4 := ⟨q_ml_RL_85, q_in_RX11, q_cd_yX11_says, ⟨by decide, by decide⟩, by decide +kernel, by decide⟩
theorem cv_RL_85 (C : qCx l g X b RL d) {d' : Nat} (hd' : d' < d) {a1 a2 a3 a4 : Value} {rest : List Value} {z : Int} {M' : qMem} (hok : qOk l g d' yX11_says cX11_says 5 (some .int) [qR g 0 0, a1, a2, a3, a4] M (qEv (some z) M')) (hd : decode b pc = .ok (.invokevirtual 85, 3)) (hrest : (rest.map fun v => v.category).sum ≤ 8) (k : qIn z → qV l g X M' (pc + 3) ls (qI z :: rest)) : qV l g X M pc ls (a4 :: a3 :: a2 :: a1 :: qR g 0 0 :: rest) := q_callV C lk_RL_85 q_im_yX11_says q_se_yX11_says rfl hd' (j := 0) (u := 0) (by decide) rfl rfl hok hd hrest rfl (q_evI k)
theorem cw_RL_85 (C : qCx l g X b RL d) {d' : Nat} (hd' : d' < d) {a1 a2 a3 a4 : Value} {rest : List Value} {P : Option Int → qMem → Prop} (hok : qOk l g d' yX11_says cX11_says 5 (some .int) [qR g 0 0, a1, a2, a3, a4] M P) (hd : decode b pc = .ok (.invokevirtual 85, 3)) (hrest : (rest.map fun v => v.category).sum ≤ 8) (k : ∀ (r : Option Int) (M' : qMem), (∀ z, r = some z → qIn z) → P r M' → qV l g X M' (pc + 3) ls ((r.map qI).toList ++ rest)) : qV l g X M pc ls (a4 :: a3 :: a2 :: a1 :: qR g 0 0 :: rest) := q_callV C lk_RL_85 q_im_yX11_says q_se_yX11_says rfl hd' (j := 0) (u := 0) (by decide) rfl rfl hok hd hrest rfl k
theorem lk_RX11_256 : qLk RX11 256 yX10_heard cX10_heard 4 (some .int) 3 := ⟨q_ml_RX11_256, q_in_RX10, q_cd_yX10_heard, ⟨by decide, by decide⟩, by decide +kernel, by decide⟩
theorem cv_RX11_256 (C : qCx l g X b RX11 d) {d' : Nat} (hd' : d' < d) {a1 a2 a3 : Value} {rest : List Value} {z : Int} {M' : qMem} (hok : qOk l g d' yX10_heard cX10_heard 4 (some .int) [qR g 19 0, a1, a2, a3] M (qEv (some z) M')) (hd : decode b pc = .ok (.invokevirtual 256, 3)) (hrest : (rest.map fun v => v.category).sum ≤ 8) (k : qIn z → qV l g X M' (pc + 3) ls (qI z :: rest)) : qV l g X M pc ls (a3 :: a2 :: a1 :: qR g 19 0 :: rest) := q_callV C lk_RX11_256 q_im_yX10_heard q_se_yX10_heard rfl hd' (j := 19) (u := 0) (by decide) rfl rfl hok hd hrest rfl (q_evI k)
theorem cw_RX11_256 (C : qCx l g X b RX11 d) {d' : Nat} (hd' : d' < d) {a1 a2 a3 : Value} {rest : List Value} {P : Option Int → qMem → Prop} (hok : qOk l g d' yX10_heard cX10_heard 4 (some .int) [qR g 19 0, a1, a2, a3] M P) (hd : decode b pc = .ok (.invokevirtual 256, 3)) (hrest : (rest.map fun v => v.category).sum ≤ 8) (k : ∀ (r : Option Int) (M' : qMem), (∀ z, r = some z → qIn z) → P r M' → qV l g X M' (pc + 3) ls ((r.map qI).toList ++ rest)) : qV l g X M pc ls (a3 :: a2 :: a1 :: qR g 19 0 :: rest) := q_callV C lk_RX11_256 q_im_yX10_heard q_se_yX10_heard rfl hd' (j := 19) (u := 0) (by decide) rfl rfl hok hd hrest rfl k
theorem lk_RL_90 : qLk RL 90 yX11_signs cX11_signs 4 (some .int) 3 := ⟨q_ml_RL_90, q_in_RX11, q_cd_yX11_signs, ⟨by decide, by decide⟩, by decide +kernel, by decide⟩
theorem cv_RL_90 (C : qCx l g X b RL d) {d' : Nat} (hd' : d' < d) {a1 a2 a3 : Value} {rest : List Value} {z : Int} {M' : qMem} (hok : qOk l g d' yX11_signs cX11_signs 4 (some .int) [qR g 0 0, a1, a2, a3] M (qEv (some z) M')) (hd : decode b pc = .ok (.invokevirtual 90, 3)) (hrest : (rest.map fun v => v.category).sum ≤ 8) (k : qIn z → qV l g X M' (pc + 3) ls (qI z :: rest)) : qV l g X M pc ls (a3 :: a2 :: a1 :: qR g 0 0 :: rest) := q_callV C lk_RL_90 q_im_yX11_signs q_se_yX11_signs rfl hd' (j := 0) (u := 0) (by decide) rfl rfl hok hd hrest rfl (q_evI k)
theorem cw_RL_90 (C : qCx l g X b RL d) {d' : Nat} (hd' : d' < d) {a1 a2 a3 : Value} {rest : List Value} {P : Option Int → qMem → Prop} (hok : qOk l g d' yX11_signs cX11_signs 4 (some .int) [qR g 0 0, a1, a2, a3] M P) (hd : decode b pc = .ok (.invokevirtual 90, 3)) (hrest : (rest.map fun v => v.category).sum ≤ 8) (k : ∀ (r : Option Int) (M' : qMem), (∀ z, r = some z → qIn z) → P r M' → qV l g X M' (pc + 3) ls ((r.map qI).toList ++ rest)) : qV l g X M pc ls (a3 :: a2 :: a1 :: qR g 0 0 :: rest) := q_callV C lk_RL_90 q_im_yX11_signs q_se_yX11_signs rfl hd' (j := 0) (u := 0) (by decide) rfl rfl hok hd hrest rfl k
theorem lk_RX11_262 : qLk RX11 262 yX10_countLetIn cX10_countLetIn 5 (some .int) 2 := ⟨q_ml_RX11_262, q_in_RX10, q_cd_yX10_countLetIn, ⟨by decide, by decide⟩, by decide +kernel, by decide⟩
theorem cv_RX11_262 (C : qCx l g X b RX11 d) {d' : Nat} (hd' : d' < d) {a1 a2 : Value} {rest : List Value} {z : Int} {M' : qMem} (hok : qOk l g d' yX10_countLetIn cX10_countLetIn 5 (some .int) [qR g 19 0, a1, a2] M (qEv (some z) M')) (hd : decode b pc = .ok (.invokevirtual 262, 3)) (hrest : (rest.map fun v => v.category).sum ≤ 8) (k : qIn z → qV l g X M' (pc + 3) ls (qI z :: rest)) : qV l g X M pc ls (a2 :: a1 :: qR g 19 0 :: rest) := q_callV C lk_RX11_262 q_im_yX10_countLetIn q_se_yX10_countLetIn rfl hd' (j := 19) (u := 0) (by decide) rfl rfl hok hd hrest rfl (q_evI k)
theorem cw_RX11_262 (C : qCx l g X b RX11 d) {d' : Nat} (hd' : d' < d) {a1 a2 : Value} {rest : List Value} {P : Option Int → qMem → Prop} (hok : qOk l g d' yX10_countLetIn cX10_countLetIn 5 (some .int) [qR g 19 0, a1, a2] M P) (hd : decode b pc = .ok (.invokevirtual 262, 3)) (hrest : (rest.map fun v => v.category).sum ≤ 8) (k : ∀ (r : Option Int) (M' : qMem), (∀ z, r = some z → qIn z) → P r M' → qV l g X M' (pc + 3) ls ((r.map qI).toList ++ rest)) : qV l g X M pc ls (a2 :: a1 :: qR g 19 0 :: rest) := q_callV C lk_RX11_262 q_im_yX10_countLetIn q_se_yX10_countLetIn rfl hd' (j := 19) (u := 0) (by decide) rfl rfl hok hd hrest rfl k
theorem lk_RX10_79 : qLk RX10 79 yX10_answer cX10_answer 5 (some .int) 3 := ⟨q_ml_RX10_79, q_in_RX10, q_cd_yX10_answer, ⟨by decide, by decide⟩, by decide +kernel, by decide⟩
theorem cv_RX10_79 (C : qCx l g X b RX10 d) {d' : Nat} (hd' : d' < d) {a1 a2 a3 : Value} {rest : List Value} {z : Int} {M' : qMem} (hok : qOk l g d' yX10_answer cX10_answer 5 (some .int) [qR g 19 0, a1, a2, a3] M (qEv (some z) M')) (hd : decode b pc = .ok (.invokevirtual 79, 3)) (hrest : (rest.map fun v => v.category).sum ≤ 8) (k : qIn z → qV l g X M' (pc + 3) ls (qI z :: rest)) : qV l g X M pc ls (a3 :: a2 :: a1 :: qR g 19 0 :: rest) := q_callV C lk_RX10_79 q_im_yX10_answer q_se_yX10_answer rfl hd' (j := 19) (u := 0) (by decide) rfl rfl hok hd hrest rfl (q_evI k)
theorem cw_RX10_79 (C : qCx l g X b RX10 d) {d' : Nat} (hd' : d' < d) {a1 a2 a3 : Value} {rest : List Value} {P : Option Int → qMem → Prop} (hok : qOk l g d' yX10_answer cX10_answer 5 (some .int) [qR g 19 0, a1, a2, a3] M P) (hd : decode b pc = .ok (.invokevirtual 79, 3)) (hrest : (rest.map fun v => v.category).sum ≤ 8) (k : ∀ (r : Option Int) (M' : qMem), (∀ z, r = some z → qIn z) → P r M' → qV l g X M' (pc + 3) ls ((r.map qI).toList ++ rest)) : qV l g X M pc ls (a3 :: a2 :: a1 :: qR g 19 0 :: rest) := q_callV C lk_RX10_79 q_im_yX10_answer q_se_yX10_answer rfl hd' (j := 19) (u := 0) (by decide) rfl rfl hok hd hrest rfl k
theorem lk_RX11_265 : qLk RX11 265 yX10_plainest cX10_plainest 5 (some .int) 2 := ⟨q_ml_RX11_265, q_in_RX10, q_cd_yX10_plainest, ⟨by decide, by decide⟩, by decide +kernel, by decide⟩
theorem cv_RX11_265 (C : qCx l g X b RX11 d) {d' : Nat} (hd' : d' < d) {a1 a2 : Value} {rest : List Value} {z : Int} {M' : qMem} (hok : qOk l g d' yX10_plainest cX10_plainest 5 (some .int) [qR g 19 0, a1, a2] M (qEv (some z) M')) (hd : decode b pc = .ok (.invokevirtual 265, 3)) (hrest : (rest.map fun v => v.category).sum ≤ 8) (k : qIn z → qV l g X M' (pc + 3) ls (qI z :: rest)) : qV l g X M pc ls (a2 :: a1 :: qR g 19 0 :: rest) := q_callV C lk_RX11_265 q_im_yX10_plainest q_se_yX10_plainest rfl hd' (j := 19) (u := 0) (by decide) rfl rfl hok hd hrest rfl (q_evI k)
theorem cw_RX11_265 (C : qCx l g X b RX11 d) {d' : Nat} (hd' : d' < d) {a1 a2 : Value} {rest : List Value} {P : Option Int → qMem → Prop} (hok : qOk l g d' yX10_plainest cX10_plainest 5 (some .int) [qR g 19 0, a1, a2] M P) (hd : decode b pc = .ok (.invokevirtual 265, 3)) (hrest : (rest.map fun v => v.category).sum ≤ 8) (k : ∀ (r : Option Int) (M' : qMem), (∀ z, r = some z → qIn z) → P r M' → qV l g X M' (pc + 3) ls ((r.map qI).toList ++ rest)) : qV l g X M pc ls (a2 :: a1 :: qR g 19 0 :: rest) := q_callV C lk_RX11_265 q_im_yX10_plainest q_se_yX10_plainest rfl hd' (j := 19) (u := 0) (by decide) rfl rfl hok hd hrest rfl k
theorem lk_RX10_82 : qLk RX10 82 yX1_partsLaid cX1_partsLaid 3 (some .int) 1 := ⟨q_ml_RX10_82, q_in_RX1, q_cd_yX1_partsLaid, ⟨by decide, by decide⟩, by decide +kernel, by decide⟩
theorem cv_RX10_82 (C : qCx l g X b RX10 d) {d' : Nat} (hd' : d' < d) {a1 : Value} {rest : List Value} {z : Int} {M' : qMem} (hok : qOk l g d' yX1_partsLaid cX1_partsLaid 3 (some .int) [a1] M (qEv (some z) M')) (hd : decode b pc = .ok (.invokestatic 82, 3)) (hrest : (rest.map fun v => v.category).sum ≤ 8) (k : qIn z → qV l g X M' (pc + 3) ls (qI z :: rest)) : qV l g X M pc ls (a1 :: rest) := q_callS C lk_RX10_82 q_st_yX1_partsLaid rfl hd' hok hd hrest rfl (q_evI k)
theorem cw_RX10_82 (C : qCx l g X b RX10 d) {d' : Nat} (hd' : d' < d) {a1 : Value} {rest : List Value} {P : Option Int → qMem → Prop} (hok : qOk l g d' yX1_partsLaid cX1_partsLaid 3 (some .int) [a1] M P) (hd : decode b pc = .ok (.invokestatic 82, 3)) (hrest : (rest.map fun v => v.category).sum ≤ 8) (k : ∀ (r : Option Int) (M' : qMem), (∀ z, r = some z → qIn z) → P r M' → qV l g X M' (pc + 3) ls ((r.map qI).toList ++ rest)) : qV l g X M pc ls (a1 :: rest) := q_callS C lk_RX10_82 q_st_yX1_partsLaid rfl hd' hok hd hrest rfl k
theorem lk_RX1_15 : qLk RX1 15 yX1_partOf cX1_partOf 2 (some .int) 2 := ⟨q_ml_RX1_15, q_in_RX1, q_cd_yX1_partOf, ⟨by decide, by decide⟩, by decide +kernel, by decide⟩
theorem cv_RX1_15 (C : qCx l g X b RX1 d) {d' : Nat} (hd' : d' < d) {a1 a2 : Value} {rest : List Value} {z : Int} {M' : qMem} (hok : qOk l g d' yX1_partOf cX1_partOf 2 (some .int) [a1, a2] M (qEv (some z) M')) (hd : decode b pc = .ok (.invokestatic 15, 3)) (hrest : (rest.map fun v => v.category).sum ≤ 8) (k : qIn z → qV l g X M' (pc + 3) ls (qI z :: rest)) : qV l g X M pc ls (a2 :: a1 :: rest) := q_callS C lk_RX1_15 q_st_yX1_partOf rfl hd' hok hd hrest rfl (q_evI k)
theorem cw_RX1_15 (C : qCx l g X b RX1 d) {d' : Nat} (hd' : d' < d) {a1 a2 : Value} {rest : List Value} {P : Option Int → qMem → Prop} (hok : qOk l g d' yX1_partOf cX1_partOf 2 (some .int) [a1, a2] M P) (hd : decode b pc = .ok (.invokestatic 15, 3)) (hrest : (rest.map fun v => v.category).sum ≤ 8) (k : ∀ (r : Option Int) (M' : qMem), (∀ z, r = some z → qIn z) → P r M' → qV l g X M' (pc + 3) ls ((r.map qI).toList ++ rest)) : qV l g X M pc ls (a2 :: a1 :: rest) := q_callS C lk_RX1_15 q_st_yX1_partOf rfl hd' hok hd hrest rfl k
theorem lk_RX11_268 : qLk RX11 268 yX10_honest cX10_honest 4 (some .int) 2 := ⟨q_ml_RX11_268, q_in_RX10, q_cd_yX10_honest, ⟨by decide, by decide⟩, by decide +kernel, by decide⟩
theorem cv_RX11_268 (C : qCx l g X b RX11 d) {d' : Nat} (hd' : d' < d) {a1 a2 : Value} {rest : List Value} {z : Int} {M' : qMem} (hok : qOk l g d' yX10_honest cX10_honest 4 (some .int) [qR g 19 0, a1, a2] M (qEv (some z) M')) (hd : decode b pc = .ok (.invokevirtual 268, 3)) (hrest : (rest.map fun v => v.category).sum ≤ 8) (k : qIn z → qV l g X M' (pc + 3) ls (qI z :: rest)) : qV l g X M pc ls (a2 :: a1 :: qR g 19 0 :: rest) := q_callV C lk_RX11_268 q_im_yX10_honest q_se_yX10_honest rfl hd' (j := 19) (u := 0) (by decide) rfl rfl hok hd hrest rfl (q_evI k)
theorem cw_RX11_268 (C : qCx l g X b RX11 d) {d' : Nat} (hd' : d' < d) {a1 a2 : Value} {rest : List Value} {P : Option Int → qMem → Prop} (hok : qOk l g d' yX10_honest cX10_honest 4 (some .int) [qR g 19 0, a1, a2] M P) (hd : decode b pc = .ok (.invokevirtual 268, 3)) (hrest : (rest.map fun v => v.category).sum ≤ 8) (k : ∀ (r : Option Int) (M' : qMem), (∀ z, r = some z → qIn z) → P r M' → qV l g X M' (pc + 3) ls ((r.map qI).toList ++ rest)) : qV l g X M pc ls (a2 :: a1 :: qR g 19 0 :: rest) := q_callV C lk_RX11_268 q_im_yX10_honest q_se_yX10_honest rfl hd' (j := 19) (u := 0) (by decide) rfl rfl hok hd hrest rfl k
theorem lk_RL_94 : qLk RL 94 yX11_gains cX11_gains 3 (some .int) 2 := ⟨q_ml_RL_94, q_in_RX11, q_cd_yX11_gains, ⟨by decide, by decide⟩, by decide +kernel, by decide⟩
theorem cv_RL_94 (C : qCx l g X b RL d) {d' : Nat} (hd' : d' < d) {a1 a2 : Value} {rest : List Value} {z : Int} {M' : qMem} (hok : qOk l g d' yX11_gains cX11_gains 3 (some .int) [qR g 0 0, a1, a2] M (qEv (some z) M')) (hd : decode b pc = .ok (.invokevirtual 94, 3)) (hrest : (rest.map fun v => v.category).sum ≤ 8) (k : qIn z → qV l g X M' (pc + 3) ls (qI z :: rest)) : qV l g X M pc ls (a2 :: a1 :: qR g 0 0 :: rest) := q_callV C lk_RL_94 q_im_yX11_gains q_se_yX11_gains rfl hd' (j := 0) (u := 0) (by decide) rfl rfl hok hd hrest rfl (q_evI k)
theorem cw_RL_94 (C : qCx l g X b RL d) {d' : Nat} (hd' : d' < d) {a1 a2 : Value} {rest : List Value} {P : Option Int → qMem → Prop} (hok : qOk l g d' yX11_gains cX11_gains 3 (some .int) [qR g 0 0, a1, a2] M P) (hd : decode b pc = .ok (.invokevirtual 94, 3)) (hrest : (rest.map fun v => v.category).sum ≤ 8) (k : ∀ (r : Option Int) (M' : qMem), (∀ z, r = some z → qIn z) → P r M' → qV l g X M' (pc + 3) ls ((r.map qI).toList ++ rest)) : qV l g X M pc ls (a2 :: a1 :: qR g 0 0 :: rest) := q_callV C lk_RL_94 q_im_yX11_gains q_se_yX11_gains rfl hd' (j := 0) (u := 0) (by decide) rfl rfl hok hd hrest rfl k
theorem lk_RX11_271 : qLk RX11 271 yX10_gain cX10_gain 3 (some .int) 2 := ⟨q_ml_RX11_271, q_in_RX10, q_cd_yX10_gain, ⟨by decide, by decide⟩, by decide +kernel, by decide⟩
theorem cv_RX11_271 (C : qCx l g X b RX11 d) {d' : Nat} (hd' : d' < d) {a1 a2 : Value} {rest : List Value} {z : Int} {M' : qMem} (hok : qOk l g d' yX10_gain cX10_gain 3 (some .int) [qR g 19 0, a1, a2] M (qEv (some z) M')) (hd : decode b pc = .ok (.invokevirtual 271, 3)) (hrest : (rest.map fun v => v.category).sum ≤ 8) (k : qIn z → qV l g X M' (pc + 3) ls (qI z :: rest)) : qV l g X M pc ls (a2 :: a1 :: qR g 19 0 :: rest) := q_callV C lk_RX11_271 q_im_yX10_gain q_se_yX10_gain rfl hd' (j := 19) (u := 0) (by decide) rfl rfl hok hd hrest rfl (q_evI k)
theorem cw_RX11_271 (C : qCx l g X b RX11 d) {d' : Nat} (hd' : d' < d) {a1 a2 : Value} {rest : List Value} {P : Option Int → qMem → Prop} (hok : qOk l g d' yX10_gain cX10_gain 3 (some .int) [qR g 19 0, a1, a2] M P) (hd : decode b pc = .ok (.invokevirtual 271, 3)) (hrest : (rest.map fun v => v.category).sum ≤ 8) (k : ∀ (r : Option Int) (M' : qMem), (∀ z, r = some z → qIn z) → P r M' → qV l g X M' (pc + 3) ls ((r.map qI).toList ++ rest)) : qV l g X M pc ls (a2 :: a1 :: qR g 19 0 :: rest) := q_callV C lk_RX11_271 q_im_yX10_gain q_se_yX10_gain rfl hd' (j := 19) (u := 0) (by decide) rfl rfl hok hd hrest rfl k
theorem lk_RX10_90 : qLk RX10 90 yX10_mostHeard cX10_mostHeard 6 (some .int) 3 := ⟨q_ml_RX10_90, q_in_RX10, q_cd_yX10_mostHeard, ⟨by decide, by decide⟩, by decide +kernel, by decide⟩
theorem cv_RX10_90 (C : qCx l g X b RX10 d) {d' : Nat} (hd' : d' < d) {a1 a2 a3 : Value} {rest : List Value} {z : Int} {M' : qMem} (hok : qOk l g d' yX10_mostHeard cX10_mostHeard 6 (some .int) [qR g 19 0, a1, a2, a3] M (qEv (some z) M')) (hd : decode b pc = .ok (.invokevirtual 90, 3)) (hrest : (rest.map fun v => v.category).sum ≤ 8) (k : qIn z → qV l g X M' (pc + 3) ls (qI z :: rest)) : qV l g X M pc ls (a3 :: a2 :: a1 :: qR g 19 0 :: rest) := q_callV C lk_RX10_90 q_im_yX10_mostHeard q_se_yX10_mostHeard rfl hd' (j := 19) (u := 0) (by decide) rfl rfl hok hd hrest rfl (q_evI k)
theorem cw_RX10_90 (C : qCx l g X b RX10 d) {d' : Nat} (hd' : d' < d) {a1 a2 a3 : Value} {rest : List Value} {P : Option Int → qMem → Prop} (hok : qOk l g d' yX10_mostHeard cX10_mostHeard 6 (some .int) [qR g 19 0, a1, a2, a3] M P) (hd : decode b pc = .ok (.invokevirtual 90, 3)) (hrest : (rest.map fun v => v.category).sum ≤ 8) (k : ∀ (r : Option Int) (M' : qMem), (∀ z, r = some z → qIn z) → P r M' → qV l g X M' (pc + 3) ls ((r.map qI).toList ++ rest)) : qV l g X M pc ls (a3 :: a2 :: a1 :: qR g 19 0 :: rest) := q_callV C lk_RX10_90 q_im_yX10_mostHeard q_se_yX10_mostHeard rfl hd' (j := 19) (u := 0) (by decide) rfl rfl hok hd hrest rfl k
theorem lk_RL_98 : qLk RL 98 yX11_clear cX11_clear 3 (some .int) 2 := ⟨q_ml_RL_98, q_in_RX11, q_cd_yX11_clear, ⟨by decide, by decide⟩, by decide +kernel, by decide⟩
theorem cv_RL_98 (C : qCx l g X b RL d) {d' : Nat} (hd' : d' < d) {a1 a2 : Value} {rest : List Value} {z : Int} {M' : qMem} (hok : qOk l g d' yX11_clear cX11_clear 3 (some .int) [qR g 0 0, a1, a2] M (qEv (some z) M')) (hd : decode b pc = .ok (.invokevirtual 98, 3)) (hrest : (rest.map fun v => v.category).sum ≤ 8) (k : qIn z → qV l g X M' (pc + 3) ls (qI z :: rest)) : qV l g X M pc ls (a2 :: a1 :: qR g 0 0 :: rest) := q_callV C lk_RL_98 q_im_yX11_clear q_se_yX11_clear rfl hd' (j := 0) (u := 0) (by decide) rfl rfl hok hd hrest rfl (q_evI k)
theorem cw_RL_98 (C : qCx l g X b RL d) {d' : Nat} (hd' : d' < d) {a1 a2 : Value} {rest : List Value} {P : Option Int → qMem → Prop} (hok : qOk l g d' yX11_clear cX11_clear 3 (some .int) [qR g 0 0, a1, a2] M P) (hd : decode b pc = .ok (.invokevirtual 98, 3)) (hrest : (rest.map fun v => v.category).sum ≤ 8) (k : ∀ (r : Option Int) (M' : qMem), (∀ z, r = some z → qIn z) → P r M' → qV l g X M' (pc + 3) ls ((r.map qI).toList ++ rest)) : qV l g X M pc ls (a2 :: a1 :: qR g 0 0 :: rest) := q_callV C lk_RL_98 q_im_yX11_clear q_se_yX11_clear rfl hd' (j := 0) (u := 0) (by decide) rfl rfl hok hd hrest rfl k
theorem lk_RX11_274 : qLk RX11 274 yX10_countMeaning cX10_countMeaning 4 (some .int) 1 := ⟨q_ml_RX11_274, q_in_RX10, q_cd_yX10_countMeaning, ⟨by decide, by decide⟩, by decide +kernel, by decide⟩
theorem cv_RX11_274 (C : qCx l g X b RX11 d) {d' : Nat} (hd' : d' < d) {a1 : Value} {rest : List Value} {z : Int} {M' : qMem} (hok : qOk l g d' yX10_countMeaning cX10_countMeaning 4 (some .int) [qR g 19 0, a1] M (qEv (some z) M')) (hd : decode b pc = .ok (.invokevirtual 274, 3)) (hrest : (rest.map fun v => v.category).sum ≤ 8) (k : qIn z → qV l g X M' (pc + 3) ls (qI z :: rest)) : qV l g X M pc ls (a1 :: qR g 19 0 :: rest) := q_callV C lk_RX11_274 q_im_yX10_countMeaning q_se_yX10_countMeaning rfl hd' (j := 19) (u := 0) (by decide) rfl rfl hok hd hrest rfl (q_evI k)
theorem cw_RX11_274 (C : qCx l g X b RX11 d) {d' : Nat} (hd' : d' < d) {a1 : Value} {rest : List Value} {P : Option Int → qMem → Prop} (hok : qOk l g d' yX10_countMeaning cX10_countMeaning 4 (some .int) [qR g 19 0, a1] M P) (hd : decode b pc = .ok (.invokevirtual 274, 3)) (hrest : (rest.map fun v => v.category).sum ≤ 8) (k : ∀ (r : Option Int) (M' : qMem), (∀ z, r = some z → qIn z) → P r M' → qV l g X M' (pc + 3) ls ((r.map qI).toList ++ rest)) : qV l g X M pc ls (a1 :: qR g 19 0 :: rest) := q_callV C lk_RX11_274 q_im_yX10_countMeaning q_se_yX10_countMeaning rfl hd' (j := 19) (u := 0) (by decide) rfl rfl hok hd hrest rfl k
theorem lk_RX11_277 : qLk RX11 277 yX10_leastMeaning cX10_leastMeaning 3 (some .int) 1 := ⟨q_ml_RX11_277, q_in_RX10, q_cd_yX10_leastMeaning, ⟨by decide, by decide⟩, by decide +kernel, by decide⟩
theorem cv_RX11_277 (C : qCx l g X b RX11 d) {d' : Nat} (hd' : d' < d) {a1 : Value} {rest : List Value} {z : Int} {M' : qMem} (hok : qOk l g d' yX10_leastMeaning cX10_leastMeaning 3 (some .int) [qR g 19 0, a1] M (qEv (some z) M')) (hd : decode b pc = .ok (.invokevirtual 277, 3)) (hrest : (rest.map fun v => v.category).sum ≤ 8) (k : qIn z → qV l g X M' (pc + 3) ls (qI z :: rest)) : qV l g X M pc ls (a1 :: qR g 19 0 :: rest) := q_callV C lk_RX11_277 q_im_yX10_leastMeaning q_se_yX10_leastMeaning rfl hd' (j := 19) (u := 0) (by decide) rfl rfl hok hd hrest rfl (q_evI k)
theorem cw_RX11_277 (C : qCx l g X b RX11 d) {d' : Nat} (hd' : d' < d) {a1 : Value} {rest : List Value} {P : Option Int → qMem → Prop} (hok : qOk l g d' yX10_leastMeaning cX10_leastMeaning 3 (some .int) [qR g 19 0, a1] M P) (hd : decode b pc = .ok (.invokevirtual 277, 3)) (hrest : (rest.map fun v => v.category).sum ≤ 8) (k : ∀ (r : Option Int) (M' : qMem), (∀ z, r = some z → qIn z) → P r M' → qV l g X M' (pc + 3) ls ((r.map qI).toList ++ rest)) : qV l g X M pc ls (a1 :: qR g 19 0 :: rest) := q_callV C lk_RX11_277 q_im_yX10_leastMeaning q_se_yX10_leastMeaning rfl hd' (j := 19) (u := 0) (by decide) rfl rfl hok hd hrest rfl k
theorem lk_RL_102 : qLk RL 102 yX11_letIn cX11_letIn 3 (some .int) 2 := ⟨q_ml_RL_102, q_in_RX11, q_cd_yX11_letIn, ⟨by decide, by decide⟩, by decide +kernel, by decide⟩
theorem cv_RL_102 (C : qCx l g X b RL d) {d' : Nat} (hd' : d' < d) {a1 a2 : Value} {rest : List Value} {z : Int} {M' : qMem} (hok : qOk l g d' yX11_letIn cX11_letIn 3 (some .int) [qR g 0 0, a1, a2] M (qEv (some z) M')) (hd : decode b pc = .ok (.invokevirtual 102, 3)) (hrest : (rest.map fun v => v.category).sum ≤ 8) (k : qIn z → qV l g X M' (pc + 3) ls (qI z :: rest)) : qV l g X M pc ls (a2 :: a1 :: qR g 0 0 :: rest) := q_callV C lk_RL_102 q_im_yX11_letIn q_se_yX11_letIn rfl hd' (j := 0) (u := 0) (by decide) rfl rfl hok hd hrest rfl (q_evI k)
theorem cw_RL_102 (C : qCx l g X b RL d) {d' : Nat} (hd' : d' < d) {a1 a2 : Value} {rest : List Value} {P : Option Int → qMem → Prop} (hok : qOk l g d' yX11_letIn cX11_letIn 3 (some .int) [qR g 0 0, a1, a2] M P) (hd : decode b pc = .ok (.invokevirtual 102, 3)) (hrest : (rest.map fun v => v.category).sum ≤ 8) (k : ∀ (r : Option Int) (M' : qMem), (∀ z, r = some z → qIn z) → P r M' → qV l g X M' (pc + 3) ls ((r.map qI).toList ++ rest)) : qV l g X M pc ls (a2 :: a1 :: qR g 0 0 :: rest) := q_callV C lk_RL_102 q_im_yX11_letIn q_se_yX11_letIn rfl hd' (j := 0) (u := 0) (by decide) rfl rfl hok hd hrest rfl k
theorem lk_RX11_280 : qLk RX11 280 yX10_openHouses cX10_openHouses 5 (some .int) 2 := ⟨q_ml_RX11_280, q_in_RX10, q_cd_yX10_openHouses, ⟨by decide, by decide⟩, by decide +kernel, by decide⟩
theorem cv_RX11_280 (C : qCx l g X b RX11 d) {d' : Nat} (hd' : d' < d) {a1 a2 : Value} {rest : List Value} {z : Int} {M' : qMem} (hok : qOk l g d' yX10_openHouses cX10_openHouses 5 (some .int) [qR g 19 0, a1, a2] M (qEv (some z) M')) (hd : decode b pc = .ok (.invokevirtual 280, 3)) (hrest : (rest.map fun v => v.category).sum ≤ 8) (k : qIn z → qV l g X M' (pc + 3) ls (qI z :: rest)) : qV l g X M pc ls (a2 :: a1 :: qR g 19 0 :: rest) := q_callV C lk_RX11_280 q_im_yX10_openHouses q_se_yX10_openHouses rfl hd' (j := 19) (u := 0) (by decide) rfl rfl hok hd hrest rfl (q_evI k)
theorem cw_RX11_280 (C : qCx l g X b RX11 d) {d' : Nat} (hd' : d' < d) {a1 a2 : Value} {rest : List Value} {P : Option Int → qMem → Prop} (hok : qOk l g d' yX10_openHouses cX10_openHouses 5 (some .int) [qR g 19 0, a1, a2] M P) (hd : decode b pc = .ok (.invokevirtual 280, 3)) (hrest : (rest.map fun v => v.category).sum ≤ 8) (k : ∀ (r : Option Int) (M' : qMem), (∀ z, r = some z → qIn z) → P r M' → qV l g X M' (pc + 3) ls ((r.map qI).toList ++ rest)) : qV l g X M pc ls (a2 :: a1 :: qR g 19 0 :: rest) := q_callV C lk_RX11_280 q_im_yX10_openHouses q_se_yX10_openHouses rfl hd' (j := 19) (u := 0) (by decide) rfl rfl hok hd hrest rfl k
theorem lk_RL_106 : qLk RL 106 yX11_round cX11_round 4 (some .int) 2 := ⟨q_ml_RL_106, q_in_RX11, q_cd_yX11_round, ⟨by decide, by decide⟩, by decide +kernel, by decide⟩
theorem cv_RL_106 (C : qCx l g X b RL d) {d' : Nat} (hd' : d' < d) {a1 a2 : Value} {rest : List Value} {z : Int} {M' : qMem} (hok : qOk l g d' yX11_round cX11_round 4 (some .int) [qR g 0 0, a1, a2] M (qEv (some z) M')) (hd : decode b pc = .ok (.invokevirtual 106, 3)) (hrest : (rest.map fun v => v.category).sum ≤ 8) (k : qIn z → qV l g X M' (pc + 3) ls (qI z :: rest)) : qV l g X M pc ls (a2 :: a1 :: qR g 0 0 :: rest) := q_callV C lk_RL_106 q_im_yX11_round q_se_yX11_round rfl hd' (j := 0) (u := 0) (by decide) rfl rfl hok hd hrest rfl (q_evI k)
theorem cw_RL_106 (C : qCx l g X b RL d) {d' : Nat} (hd' : d' < d) {a1 a2 : Value} {rest : List Value} {P : Option Int → qMem → Prop} (hok : qOk l g d' yX11_round cX11_round 4 (some .int) [qR g 0 0, a1, a2] M P) (hd : decode b pc = .ok (.invokevirtual 106, 3)) (hrest : (rest.map fun v => v.category).sum ≤ 8) (k : ∀ (r : Option Int) (M' : qMem), (∀ z, r = some z → qIn z) → P r M' → qV l g X M' (pc + 3) ls ((r.map qI).toList ++ rest)) : qV l g X M pc ls (a2 :: a1 :: qR g 0 0 :: rest) := q_callV C lk_RL_106 q_im_yX11_round q_se_yX11_round rfl hd' (j := 0) (u := 0) (by decide) rfl rfl hok hd hrest rfl k
theorem lk_RX11_283 : qLk RX11 283 yX10_widestSign cX10_widestSign 6 (some .int) 1 := ⟨q_ml_RX11_283, q_in_RX10, q_cd_yX10_widestSign, ⟨by decide, by decide⟩, by decide +kernel, by decide⟩
theorem cv_RX11_283 (C : qCx l g X b RX11 d) {d' : Nat} (hd' : d' < d) {a1 : Value} {rest : List Value} {z : Int} {M' : qMem} (hok : qOk l g d' yX10_widestSign cX10_widestSign 6 (some .int) [qR g 19 0, a1] M (qEv (some z) M')) (hd : decode b pc = .ok (.invokevirtual 283, 3)) (hrest : (rest.map fun v => v.category).sum ≤ 8) (k : qIn z → qV l g X M' (pc + 3) ls (qI z :: rest)) : qV l g X M pc ls (a1 :: qR g 19 0 :: rest) := q_callV C lk_RX11_283 q_im_yX10_widestSign q_se_yX10_widestSign rfl hd' (j := 19) (u := 0) (by decide) rfl rfl hok hd hrest rfl (q_evI k)
theorem cw_RX11_283 (C : qCx l g X b RX11 d) {d' : Nat} (hd' : d' < d) {a1 : Value} {rest : List Value} {P : Option Int → qMem → Prop} (hok : qOk l g d' yX10_widestSign cX10_widestSign 6 (some .int) [qR g 19 0, a1] M P) (hd : decode b pc = .ok (.invokevirtual 283, 3)) (hrest : (rest.map fun v => v.category).sum ≤ 8) (k : ∀ (r : Option Int) (M' : qMem), (∀ z, r = some z → qIn z) → P r M' → qV l g X M' (pc + 3) ls ((r.map qI).toList ++ rest)) : qV l g X M pc ls (a1 :: qR g 19 0 :: rest) := q_callV C lk_RX11_283 q_im_yX10_widestSign q_se_yX10_widestSign rfl hd' (j := 19) (u := 0) (by decide) rfl rfl hok hd hrest rfl k
theorem lk_RX10_93 : qLk RX10 93 yX10_openHouses cX10_openHouses 5 (some .int) 2 := ⟨q_ml_RX10_93, q_in_RX10, q_cd_yX10_openHouses, ⟨by decide, by decide⟩, by decide +kernel, by decide⟩
theorem cv_RX10_93 (C : qCx l g X b RX10 d) {d' : Nat} (hd' : d' < d) {a1 a2 : Value} {rest : List Value} {z : Int} {M' : qMem} (hok : qOk l g d' yX10_openHouses cX10_openHouses 5 (some .int) [qR g 19 0, a1, a2] M (qEv (some z) M')) (hd : decode b pc = .ok (.invokevirtual 93, 3)) (hrest : (rest.map fun v => v.category).sum ≤ 8) (k : qIn z → qV l g X M' (pc + 3) ls (qI z :: rest)) : qV l g X M pc ls (a2 :: a1 :: qR g 19 0 :: rest) := q_callV C lk_RX10_93 q_im_yX10_openHouses q_se_yX10_openHouses rfl hd' (j := 19) (u := 0) (by decide) rfl rfl hok hd hrest rfl (q_evI k)
theorem cw_RX10_93 (C : qCx l g X b RX10 d) {d' : Nat} (hd' : d' < d) {a1 a2 : Value} {rest : List Value} {P : Option Int → qMem → Prop} (hok : qOk l g d' yX10_openHouses cX10_openHouses 5 (some .int) [qR g 19 0, a1, a2] M P) (hd : decode b pc = .ok (.invokevirtual 93, 3)) (hrest : (rest.map fun v => v.category).sum ≤ 8) (k : ∀ (r : Option Int) (M' : qMem), (∀ z, r = some z → qIn z) → P r M' → qV l g X M' (pc + 3) ls ((r.map qI).toList ++ rest)) : qV l g X M pc ls (a2 :: a1 :: qR g 19 0 :: rest) := q_callV C lk_RX10_93 q_im_yX10_openHouses q_se_yX10_openHouses rfl hd' (j := 19) (u := 0) (by decide) rfl rfl hok hd hrest rfl k
theorem lk_RX10_96 : qLk RX10 96 yJ6_bitCount_0f7a4 cJ6_bitCount_0f7a4 1 (some .int) 1 := ⟨q_ml_RX10_96, q_in_RJ6, q_cd_yJ6_bitCount_0f7a4, ⟨by decide, by decide⟩, by decide +kernel, by decide⟩
theorem cv_RX10_96 (C : qCx l g X b RX10 d) {d' : Nat} (hd' : d' < d) {a1 : Value} {rest : List Value} {z : Int} {M' : qMem} (hok : qOk l g d' yJ6_bitCount_0f7a4 cJ6_bitCount_0f7a4 1 (some .int) [a1] M (qEv (some z) M')) (hd : decode b pc = .ok (.invokestatic 96, 3)) (hrest : (rest.map fun v => v.category).sum ≤ 8) (k : qIn z → qV l g X M' (pc + 3) ls (qI z :: rest)) : qV l g X M pc ls (a1 :: rest) := q_callS C lk_RX10_96 q_st_yJ6_bitCount_0f7a4 rfl hd' hok hd hrest rfl (q_evI k)
theorem cw_RX10_96 (C : qCx l g X b RX10 d) {d' : Nat} (hd' : d' < d) {a1 : Value} {rest : List Value} {P : Option Int → qMem → Prop} (hok : qOk l g d' yJ6_bitCount_0f7a4 cJ6_bitCount_0f7a4 1 (some .int) [a1] M P) (hd : decode b pc = .ok (.invokestatic 96, 3)) (hrest : (rest.map fun v => v.category).sum ≤ 8) (k : ∀ (r : Option Int) (M' : qMem), (∀ z, r = some z → qIn z) → P r M' → qV l g X M' (pc + 3) ls ((r.map qI).toList ++ rest)) : qV l g X M pc ls (a1 :: rest) := q_callS C lk_RX10_96 q_st_yJ6_bitCount_0f7a4 rfl hd' hok hd hrest rfl k
theorem lk_RX11_286 : qLk RX11 286 yJ6_bitCount_0f7a4 cJ6_bitCount_0f7a4 1 (some .int) 1 := ⟨q_ml_RX11_286, q_in_RJ6, q_cd_yJ6_bitCount_0f7a4, ⟨by decide, by decide⟩, by decide +kernel, by decide⟩
theorem cv_RX11_286 (C : qCx l g X b RX11 d) {d' : Nat} (hd' : d' < d) {a1 : Value} {rest : List Value} {z : Int} {M' : qMem} (hok : qOk l g d' yJ6_bitCount_0f7a4 cJ6_bitCount_0f7a4 1 (some .int) [a1] M (qEv (some z) M')) (hd : decode b pc = .ok (.invokestatic 286, 3)) (hrest : (rest.map fun v => v.category).sum ≤ 8) (k : qIn z → qV l g X M' (pc + 3) ls (qI z :: rest)) : qV l g X M pc ls (a1 :: rest) := q_callS C lk_RX11_286 q_st_yJ6_bitCount_0f7a4 rfl hd' hok hd hrest rfl (q_evI k)
theorem cw_RX11_286 (C : qCx l g X b RX11 d) {d' : Nat} (hd' : d' < d) {a1 : Value} {rest : List Value} {P : Option Int → qMem → Prop} (hok : qOk l g d' yJ6_bitCount_0f7a4 cJ6_bitCount_0f7a4 1 (some .int) [a1] M P) (hd : decode b pc = .ok (.invokestatic 286, 3)) (hrest : (rest.map fun v => v.category).sum ≤ 8) (k : ∀ (r : Option Int) (M' : qMem), (∀ z, r = some z → qIn z) → P r M' → qV l g X M' (pc + 3) ls ((r.map qI).toList ++ rest)) : qV l g X M pc ls (a1 :: rest) := q_callS C lk_RX11_286 q_st_yJ6_bitCount_0f7a4 rfl hd' hok hd hrest rfl k
theorem lk_RL_110 : qLk RL 110 yX11_suits cX11_suits 3 (some .int) 2 := ⟨q_ml_RL_110, q_in_RX11, q_cd_yX11_suits, ⟨by decide, by decide⟩, by decide +kernel, by decide⟩
theorem cv_RL_110 (C : qCx l g X b RL d) {d' : Nat} (hd' : d' < d) {a1 a2 : Value} {rest : List Value} {z : Int} {M' : qMem} (hok : qOk l g d' yX11_suits cX11_suits 3 (some .int) [qR g 0 0, a1, a2] M (qEv (some z) M')) (hd : decode b pc = .ok (.invokevirtual 110, 3)) (hrest : (rest.map fun v => v.category).sum ≤ 8) (k : qIn z → qV l g X M' (pc + 3) ls (qI z :: rest)) : qV l g X M pc ls (a2 :: a1 :: qR g 0 0 :: rest) := q_callV C lk_RL_110 q_im_yX11_suits q_se_yX11_suits rfl hd' (j := 0) (u := 0) (by decide) rfl rfl hok hd hrest rfl (q_evI k)
theorem cw_RL_110 (C : qCx l g X b RL d) {d' : Nat} (hd' : d' < d) {a1 a2 : Value} {rest : List Value} {P : Option Int → qMem → Prop} (hok : qOk l g d' yX11_suits cX11_suits 3 (some .int) [qR g 0 0, a1, a2] M P) (hd : decode b pc = .ok (.invokevirtual 110, 3)) (hrest : (rest.map fun v => v.category).sum ≤ 8) (k : ∀ (r : Option Int) (M' : qMem), (∀ z, r = some z → qIn z) → P r M' → qV l g X M' (pc + 3) ls ((r.map qI).toList ++ rest)) : qV l g X M pc ls (a2 :: a1 :: qR g 0 0 :: rest) := q_callV C lk_RL_110 q_im_yX11_suits q_se_yX11_suits rfl hd' (j := 0) (u := 0) (by decide) rfl rfl hok hd hrest rfl k
theorem lk_RX11_291 : qLk RX11 291 yX10_suit cX10_suit 6 (some .int) 2 := ⟨q_ml_RX11_291, q_in_RX10, q_cd_yX10_suit, ⟨by decide, by decide⟩, by decide +kernel, by decide⟩
theorem cv_RX11_291 (C : qCx l g X b RX11 d) {d' : Nat} (hd' : d' < d) {a1 a2 : Value} {rest : List Value} {z : Int} {M' : qMem} (hok : qOk l g d' yX10_suit cX10_suit 6 (some .int) [qR g 19 0, a1, a2] M (qEv (some z) M')) (hd : decode b pc = .ok (.invokevirtual 291, 3)) (hrest : (rest.map fun v => v.category).sum ≤ 8) (k : qIn z → qV l g X M' (pc + 3) ls (qI z :: rest)) : qV l g X M pc ls (a2 :: a1 :: qR g 19 0 :: rest) := q_callV C lk_RX11_291 q_im_yX10_suit q_se_yX10_suit rfl hd' (j := 19) (u := 0) (by decide) rfl rfl hok hd hrest rfl (q_evI k)
theorem cw_RX11_291 (C : qCx l g X b RX11 d) {d' : Nat} (hd' : d' < d) {a1 a2 : Value} {rest : List Value} {P : Option Int → qMem → Prop} (hok : qOk l g d' yX10_suit cX10_suit 6 (some .int) [qR g 19 0, a1, a2] M P) (hd : decode b pc = .ok (.invokevirtual 291, 3)) (hrest : (rest.map fun v => v.category).sum ≤ 8) (k : ∀ (r : Option Int) (M' : qMem), (∀ z, r = some z → qIn z) → P r M' → qV l g X M' (pc + 3) ls ((r.map qI).toList ++ rest)) : qV l g X M pc ls (a2 :: a1 :: qR g 19 0 :: rest) := q_callV C lk_RX11_291 q_im_yX10_suit q_se_yX10_suit rfl hd' (j := 19) (u := 0) (by decide) rfl rfl hok hd hrest rfl k
theorem lk_RL_114 : qLk RL 114 yX11_dry cX11_dry 6 (some .int) 2 := ⟨q_ml_RL_114, q_in_RX11, q_cd_yX11_dry, ⟨by decide, by decide⟩, by decide +kernel, by decide⟩
theorem cv_RL_114 (C : qCx l g X b RL d) {d' : Nat} (hd' : d' < d) {a1 a2 : Value} {rest : List Value} {z : Int} {M' : qMem} (hok : qOk l g d' yX11_dry cX11_dry 6 (some .int) [qR g 0 0, a1, a2] M (qEv (some z) M')) (hd : decode b pc = .ok (.invokevirtual 114, 3)) (hrest : (rest.map fun v => v.category).sum ≤ 8) (k : qIn z → qV l g X M' (pc + 3) ls (qI z :: rest)) : qV l g X M pc ls (a2 :: a1 :: qR g 0 0 :: rest) := q_callV C lk_RL_114 q_im_yX11_dry q_se_yX11_dry rfl hd' (j := 0) (u := 0) (by decide) rfl rfl hok hd hrest rfl (q_evI k)
theorem cw_RL_114 (C : qCx l g X b RL d) {d' : Nat} (hd' : d' < d) {a1 a2 : Value} {rest : List Value} {P : Option Int → qMem → Prop} (hok : qOk l g d' yX11_dry cX11_dry 6 (some .int) [qR g 0 0, a1, a2] M P) (hd : decode b pc = .ok (.invokevirtual 114, 3)) (hrest : (rest.map fun v => v.category).sum ≤ 8) (k : ∀ (r : Option Int) (M' : qMem), (∀ z, r = some z → qIn z) → P r M' → qV l g X M' (pc + 3) ls ((r.map qI).toList ++ rest)) : qV l g X M pc ls (a2 :: a1 :: qR g 0 0 :: rest) := q_callV C lk_RL_114 q_im_yX11_dry q_se_yX11_dry rfl hd' (j := 0) (u := 0) (by decide) rfl rfl hok hd hrest rfl k
theorem lk_RL_118 : qLk RL 118 yX11_meant cX11_meant 3 (some .int) 2 := ⟨q_ml_RL_118, q_in_RX11, q_cd_yX11_meant, ⟨by decide, by decide⟩, by decide +kernel, by decide⟩
theorem cv_RL_118 (C : qCx l g X b RL d) {d' : Nat} (hd' : d' < d) {a1 a2 : Value} {rest : List Value} {z : Int} {M' : qMem} (hok : qOk l g d' yX11_meant cX11_meant 3 (some .int) [qR g 0 0, a1, a2] M (qEv (some z) M')) (hd : decode b pc = .ok (.invokevirtual 118, 3)) (hrest : (rest.map fun v => v.category).sum ≤ 8) (k : qIn z → qV l g X M' (pc + 3) ls (qI z :: rest)) : qV l g X M pc ls (a2 :: a1 :: qR g 0 0 :: rest) := q_callV C lk_RL_118 q_im_yX11_meant q_se_yX11_meant rfl hd' (j := 0) (u := 0) (by decide) rfl rfl hok hd hrest rfl (q_evI k)
theorem cw_RL_118 (C : qCx l g X b RL d) {d' : Nat} (hd' : d' < d) {a1 a2 : Value} {rest : List Value} {P : Option Int → qMem → Prop} (hok : qOk l g d' yX11_meant cX11_meant 3 (some .int) [qR g 0 0, a1, a2] M P) (hd : decode b pc = .ok (.invokevirtual 118, 3)) (hrest : (rest.map fun v => v.category).sum ≤ 8) (k : ∀ (r : Option Int) (M' : qMem), (∀ z, r = some z → qIn z) → P r M' → qV l g X M' (pc + 3) ls ((r.map qI).toList ++ rest)) : qV l g X M pc ls (a2 :: a1 :: qR g 0 0 :: rest) := q_callV C lk_RL_118 q_im_yX11_meant q_se_yX11_meant rfl hd' (j := 0) (u := 0) (by decide) rfl rfl hok hd hrest rfl k
theorem lk_RX11_298 : qLk RX11 298 yX8_append cX8_append 3 (some .boolean) 2 := ⟨q_ml_RX11_298, q_in_RX8, q_cd_yX8_append, ⟨by decide, by decide⟩, by decide +kernel, by decide⟩
theorem cv_RX11_298 (C : qCx l g X b RX11 d) {d' : Nat} (hd' : d' < d) {a1 a2 : Value} {rest : List Value} {z : Int} {M' : qMem} (hok : qOk l g d' yX8_append cX8_append 3 (some .boolean) [qR g 29 0, a1, a2] M (qEv (some z) M')) (hd : decode b pc = .ok (.invokevirtual 298, 3)) (hrest : (rest.map fun v => v.category).sum ≤ 8) (k : qIn z → qV l g X M' (pc + 3) ls (qI z :: rest)) : qV l g X M pc ls (a2 :: a1 :: qR g 29 0 :: rest) := q_callV C lk_RX11_298 q_im_yX8_append q_se_yX8_append rfl hd' (j := 29) (u := 0) (by decide) rfl rfl hok hd hrest rfl (q_evI k)
theorem cw_RX11_298 (C : qCx l g X b RX11 d) {d' : Nat} (hd' : d' < d) {a1 a2 : Value} {rest : List Value} {P : Option Int → qMem → Prop} (hok : qOk l g d' yX8_append cX8_append 3 (some .boolean) [qR g 29 0, a1, a2] M P) (hd : decode b pc = .ok (.invokevirtual 298, 3)) (hrest : (rest.map fun v => v.category).sum ≤ 8) (k : ∀ (r : Option Int) (M' : qMem), (∀ z, r = some z → qIn z) → P r M' → qV l g X M' (pc + 3) ls ((r.map qI).toList ++ rest)) : qV l g X M pc ls (a2 :: a1 :: qR g 29 0 :: rest) := q_callV C lk_RX11_298 q_im_yX8_append q_se_yX8_append rfl hd' (j := 29) (u := 0) (by decide) rfl rfl hok hd hrest rfl k
theorem lk_RL_122 : qLk RL 122 yX11_couldBe cX11_couldBe 2 (some .int) 1 := ⟨q_ml_RL_122, q_in_RX11, q_cd_yX11_couldBe, ⟨by decide, by decide⟩, by decide +kernel, by decide⟩
theorem cv_RL_122 (C : qCx l g X b RL d) {d' : Nat} (hd' : d' < d) {a1 : Value} {rest : List Value} {z : Int} {M' : qMem} (hok : qOk l g d' yX11_couldBe cX11_couldBe 2 (some .int) [qR g 0 0, a1] M (qEv (some z) M')) (hd : decode b pc = .ok (.invokevirtual 122, 3)) (hrest : (rest.map fun v => v.category).sum ≤ 8) (k : qIn z → qV l g X M' (pc + 3) ls (qI z :: rest)) : qV l g X M pc ls (a1 :: qR g 0 0 :: rest) := q_callV C lk_RL_122 q_im_yX11_couldBe q_se_yX11_couldBe rfl hd' (j := 0) (u := 0) (by decide) rfl rfl hok hd hrest rfl (q_evI k)
theorem cw_RL_122 (C : qCx l g X b RL d) {d' : Nat} (hd' : d' < d) {a1 : Value} {rest : List Value} {P : Option Int → qMem → Prop} (hok : qOk l g d' yX11_couldBe cX11_couldBe 2 (some .int) [qR g 0 0, a1] M P) (hd : decode b pc = .ok (.invokevirtual 122, 3)) (hrest : (rest.map fun v => v.category).sum ≤ 8) (k : ∀ (r : Option Int) (M' : qMem), (∀ z, r = some z → qIn z) → P r M' → qV l g X M' (pc + 3) ls ((r.map qI).toList ++ rest)) : qV l g X M pc ls (a1 :: qR g 0 0 :: rest) := q_callV C lk_RL_122 q_im_yX11_couldBe q_se_yX11_couldBe rfl hd' (j := 0) (u := 0) (by decide) rfl rfl hok hd hrest rfl k
theorem lk_RX11_300 : qLk RX11 300 yX8_countFits cX8_countFits 4 (some .int) 1 := ⟨q_ml_RX11_300, q_in_RX8, q_cd_yX8_countFits, ⟨by decide, by decide⟩, by decide +kernel, by decide⟩
theorem cv_RX11_300 (C : qCx l g X b RX11 d) {d' : Nat} (hd' : d' < d) {a1 : Value} {rest : List Value} {z : Int} {M' : qMem} (hok : qOk l g d' yX8_countFits cX8_countFits 4 (some .int) [qR g 29 0, a1] M (qEv (some z) M')) (hd : decode b pc = .ok (.invokevirtual 300, 3)) (hrest : (rest.map fun v => v.category).sum ≤ 8) (k : qIn z → qV l g X M' (pc + 3) ls (qI z :: rest)) : qV l g X M pc ls (a1 :: qR g 29 0 :: rest) := q_callV C lk_RX11_300 q_im_yX8_countFits q_se_yX8_countFits rfl hd' (j := 29) (u := 0) (by decide) rfl rfl hok hd hrest rfl (q_evI k)
theorem cw_RX11_300 (C : qCx l g X b RX11 d) {d' : Nat} (hd' : d' < d) {a1 : Value} {rest : List Value} {P : Option Int → qMem → Prop} (hok : qOk l g d' yX8_countFits cX8_countFits 4 (some .int) [qR g 29 0, a1] M P) (hd : decode b pc = .ok (.invokevirtual 300, 3)) (hrest : (rest.map fun v => v.category).sum ≤ 8) (k : ∀ (r : Option Int) (M' : qMem), (∀ z, r = some z → qIn z) → P r M' → qV l g X M' (pc + 3) ls ((r.map qI).toList ++ rest)) : qV l g X M pc ls (a1 :: qR g 29 0 :: rest) := q_callV C lk_RX11_300 q_im_yX8_countFits q_se_yX8_countFits rfl hd' (j := 29) (u := 0) (by decide) rfl rfl hok hd hrest rfl k
theorem lk_RX8_32 : qLk RX8 32 yX8_fits cX8_fits 4 (some .boolean) 2 := ⟨q_ml_RX8_32, q_in_RX8, q_cd_yX8_fits, ⟨by decide, by decide⟩, by decide +kernel, by decide⟩
theorem cv_RX8_32 (C : qCx l g X b RX8 d) {d' : Nat} (hd' : d' < d) {a1 a2 : Value} {rest : List Value} {z : Int} {M' : qMem} (hok : qOk l g d' yX8_fits cX8_fits 4 (some .boolean) [qR g 29 0, a1, a2] M (qEv (some z) M')) (hd : decode b pc = .ok (.invokevirtual 32, 3)) (hrest : (rest.map fun v => v.category).sum ≤ 8) (k : qIn z → qV l g X M' (pc + 3) ls (qI z :: rest)) : qV l g X M pc ls (a2 :: a1 :: qR g 29 0 :: rest) := q_callV C lk_RX8_32 q_im_yX8_fits q_se_yX8_fits rfl hd' (j := 29) (u := 0) (by decide) rfl rfl hok hd hrest rfl (q_evI k)
theorem cw_RX8_32 (C : qCx l g X b RX8 d) {d' : Nat} (hd' : d' < d) {a1 a2 : Value} {rest : List Value} {P : Option Int → qMem → Prop} (hok : qOk l g d' yX8_fits cX8_fits 4 (some .boolean) [qR g 29 0, a1, a2] M P) (hd : decode b pc = .ok (.invokevirtual 32, 3)) (hrest : (rest.map fun v => v.category).sum ≤ 8) (k : ∀ (r : Option Int) (M' : qMem), (∀ z, r = some z → qIn z) → P r M' → qV l g X M' (pc + 3) ls ((r.map qI).toList ++ rest)) : qV l g X M pc ls (a2 :: a1 :: qR g 29 0 :: rest) := q_callV C lk_RX8_32 q_im_yX8_fits q_se_yX8_fits rfl hd' (j := 29) (u := 0) (by decide) rfl rfl hok hd hrest rfl k
theorem lk_RX8_22 : qLk RX8 22 yX1_partOf cX1_partOf 2 (some .int) 2 := ⟨q_ml_RX8_22, q_in_RX1, q_cd_yX1_partOf, ⟨by decide, by decide⟩, by decide +kernel, by decide⟩
theorem cv_RX8_22 (C : qCx l g X b RX8 d) {d' : Nat} (hd' : d' < d) {a1 a2 : Value} {rest : List Value} {z : Int} {M' : qMem} (hok : qOk l g d' yX1_partOf cX1_partOf 2 (some .int) [a1, a2] M (qEv (some z) M')) (hd : decode b pc = .ok (.invokestatic 22, 3)) (hrest : (rest.map fun v => v.category).sum ≤ 8) (k : qIn z → qV l g X M' (pc + 3) ls (qI z :: rest)) : qV l g X M pc ls (a2 :: a1 :: rest) := q_callS C lk_RX8_22 q_st_yX1_partOf rfl hd' hok hd hrest rfl (q_evI k)
theorem cw_RX8_22 (C : qCx l g X b RX8 d) {d' : Nat} (hd' : d' < d) {a1 a2 : Value} {rest : List Value} {P : Option Int → qMem → Prop} (hok : qOk l g d' yX1_partOf cX1_partOf 2 (some .int) [a1, a2] M P) (hd : decode b pc = .ok (.invokestatic 22, 3)) (hrest : (rest.map fun v => v.category).sum ≤ 8) (k : ∀ (r : Option Int) (M' : qMem), (∀ z, r = some z → qIn z) → P r M' → qV l g X M' (pc + 3) ls ((r.map qI).toList ++ rest)) : qV l g X M pc ls (a2 :: a1 :: rest) := q_callS C lk_RX8_22 q_st_yX1_partOf rfl hd' hok hd hrest rfl k
theorem lk_RX8_28 : qLk RX8 28 yX1_isSaid cX1_isSaid 5 (some .boolean) 2 := ⟨q_ml_RX8_28, q_in_RX1, q_cd_yX1_isSaid, ⟨by decide, by decide⟩, by decide +kernel, by decide⟩
theorem cv_RX8_28 (C : qCx l g X b RX8 d) {d' : Nat} (hd' : d' < d) {a1 a2 : Value} {rest : List Value} {z : Int} {M' : qMem} (hok : qOk l g d' yX1_isSaid cX1_isSaid 5 (some .boolean) [a1, a2] M (qEv (some z) M')) (hd : decode b pc = .ok (.invokestatic 28, 3)) (hrest : (rest.map fun v => v.category).sum ≤ 8) (k : qIn z → qV l g X M' (pc + 3) ls (qI z :: rest)) : qV l g X M pc ls (a2 :: a1 :: rest) := q_callS C lk_RX8_28 q_st_yX1_isSaid rfl hd' hok hd hrest rfl (q_evI k)
theorem cw_RX8_28 (C : qCx l g X b RX8 d) {d' : Nat} (hd' : d' < d) {a1 a2 : Value} {rest : List Value} {P : Option Int → qMem → Prop} (hok : qOk l g d' yX1_isSaid cX1_isSaid 5 (some .boolean) [a1, a2] M P) (hd : decode b pc = .ok (.invokestatic 28, 3)) (hrest : (rest.map fun v => v.category).sum ≤ 8) (k : ∀ (r : Option Int) (M' : qMem), (∀ z, r = some z → qIn z) → P r M' → qV l g X M' (pc + 3) ls ((r.map qI).toList ++ rest)) : qV l g X M pc ls (a2 :: a1 :: rest) := q_callS C lk_RX8_28 q_st_yX1_isSaid rfl hd' hok hd hrest rfl k
theorem lk_RX11_303 : qLk RX11 303 yX8_leastFit cX8_leastFit 3 (some .int) 1 := ⟨q_ml_RX11_303, q_in_RX8, q_cd_yX8_leastFit, ⟨by decide, by decide⟩, by decide +kernel, by decide⟩
theorem cv_RX11_303 (C : qCx l g X b RX11 d) {d' : Nat} (hd' : d' < d) {a1 : Value} {rest : List Value} {z : Int} {M' : qMem} (hok : qOk l g d' yX8_leastFit cX8_leastFit 3 (some .int) [qR g 29 0, a1] M (qEv (some z) M')) (hd : decode b pc = .ok (.invokevirtual 303, 3)) (hrest : (rest.map fun v => v.category).sum ≤ 8) (k : qIn z → qV l g X M' (pc + 3) ls (qI z :: rest)) : qV l g X M pc ls (a1 :: qR g 29 0 :: rest) := q_callV C lk_RX11_303 q_im_yX8_leastFit q_se_yX8_leastFit rfl hd' (j := 29) (u := 0) (by decide) rfl rfl hok hd hrest rfl (q_evI k)
theorem cw_RX11_303 (C : qCx l g X b RX11 d) {d' : Nat} (hd' : d' < d) {a1 : Value} {rest : List Value} {P : Option Int → qMem → Prop} (hok : qOk l g d' yX8_leastFit cX8_leastFit 3 (some .int) [qR g 29 0, a1] M P) (hd : decode b pc = .ok (.invokevirtual 303, 3)) (hrest : (rest.map fun v => v.category).sum ≤ 8) (k : ∀ (r : Option Int) (M' : qMem), (∀ z, r = some z → qIn z) → P r M' → qV l g X M' (pc + 3) ls ((r.map qI).toList ++ rest)) : qV l g X M pc ls (a1 :: qR g 29 0 :: rest) := q_callV C lk_RX11_303 q_im_yX8_leastFit q_se_yX8_leastFit rfl hd' (j := 29) (u := 0) (by decide) rfl rfl hok hd hrest rfl k
theorem lk_RX11_306 : qLk RX11 306 yX8_meaningsThatFit cX8_meaningsThatFit 4 (some .int) 1 := ⟨q_ml_RX11_306, q_in_RX8, q_cd_yX8_meaningsThatFit, ⟨by decide, by decide⟩, by decide +kernel, by decide⟩
theorem cv_RX11_306 (C : qCx l g X b RX11 d) {d' : Nat} (hd' : d' < d) {a1 : Value} {rest : List Value} {z : Int} {M' : qMem} (hok : qOk l g d' yX8_meaningsThatFit cX8_meaningsThatFit 4 (some .int) [qR g 29 0, a1] M (qEv (some z) M')) (hd : decode b pc = .ok (.invokevirtual 306, 3)) (hrest : (rest.map fun v => v.category).sum ≤ 8) (k : qIn z → qV l g X M' (pc + 3) ls (qI z :: rest)) : qV l g X M pc ls (a1 :: qR g 29 0 :: rest) := q_callV C lk_RX11_306 q_im_yX8_meaningsThatFit q_se_yX8_meaningsThatFit rfl hd' (j := 29) (u := 0) (by decide) rfl rfl hok hd hrest rfl (q_evI k)
theorem cw_RX11_306 (C : qCx l g X b RX11 d) {d' : Nat} (hd' : d' < d) {a1 : Value} {rest : List Value} {P : Option Int → qMem → Prop} (hok : qOk l g d' yX8_meaningsThatFit cX8_meaningsThatFit 4 (some .int) [qR g 29 0, a1] M P) (hd : decode b pc = .ok (.invokevirtual 306, 3)) (hrest : (rest.map fun v => v.category).sum ≤ 8) (k : ∀ (r : Option Int) (M' : qMem), (∀ z, r = some z → qIn z) → P r M' → qV l g X M' (pc + 3) ls ((r.map qI).toList ++ rest)) : qV l g X M pc ls (a1 :: qR g 29 0 :: rest) := q_callV C lk_RX11_306 q_im_yX8_meaningsThatFit q_se_yX8_meaningsThatFit rfl hd' (j := 29) (u := 0) (by decide) rfl rfl hok hd hrest rfl k
theorem lk_RX8_35 : qLk RX8 35 yX1_meaning cX1_meaning 3 (some .int) 1 := ⟨q_ml_RX8_35, q_in_RX1, q_cd_yX1_meaning, ⟨by decide, by decide⟩, by decide +kernel, by decide⟩
theorem cv_RX8_35 (C : qCx l g X b RX8 d) {d' : Nat} (hd' : d' < d) {a1 : Value} {rest : List Value} {z : Int} {M' : qMem} (hok : qOk l g d' yX1_meaning cX1_meaning 3 (some .int) [a1] M (qEv (some z) M')) (hd : decode b pc = .ok (.invokestatic 35, 3)) (hrest : (rest.map fun v => v.category).sum ≤ 8) (k : qIn z → qV l g X M' (pc + 3) ls (qI z :: rest)) : qV l g X M pc ls (a1 :: rest) := q_callS C lk_RX8_35 q_st_yX1_meaning rfl hd' hok hd hrest rfl (q_evI k)
theorem cw_RX8_35 (C : qCx l g X b RX8 d) {d' : Nat} (hd' : d' < d) {a1 : Value} {rest : List Value} {P : Option Int → qMem → Prop} (hok : qOk l g d' yX1_meaning cX1_meaning 3 (some .int) [a1] M P) (hd : decode b pc = .ok (.invokestatic 35, 3)) (hrest : (rest.map fun v => v.category).sum ≤ 8) (k : ∀ (r : Option Int) (M' : qMem), (∀ z, r = some z → qIn z) → P r M' → qV l g X M' (pc + 3) ls ((r.map qI).toList ++ rest)) : qV l g X M pc ls (a1 :: rest) := q_callS C lk_RX8_35 q_st_yX1_meaning rfl hd' hok hd hrest rfl k
theorem lk_RL_126 : qLk RL 126 yX11_part cX11_part 1 (some .int) 0 := ⟨q_ml_RL_126, q_in_RX11, q_cd_yX11_part, ⟨by decide, by decide⟩, by decide +kernel, by decide⟩
theorem cv_RL_126 (C : qCx l g X b RL d) {d' : Nat} (hd' : d' < d) {rest : List Value} {z : Int} {M' : qMem} (hok : qOk l g d' yX11_part cX11_part 1 (some .int) [qR g 0 0] M (qEv (some z) M')) (hd : decode b pc = .ok (.invokevirtual 126, 3)) (hrest : (rest.map fun v => v.category).sum ≤ 8) (k : qIn z → qV l g X M' (pc + 3) ls (qI z :: rest)) : qV l g X M pc ls (qR g 0 0 :: rest) := q_callV C lk_RL_126 q_im_yX11_part q_se_yX11_part rfl hd' (j := 0) (u := 0) (by decide) rfl rfl hok hd hrest rfl (q_evI k)
theorem cw_RL_126 (C : qCx l g X b RL d) {d' : Nat} (hd' : d' < d) {rest : List Value} {P : Option Int → qMem → Prop} (hok : qOk l g d' yX11_part cX11_part 1 (some .int) [qR g 0 0] M P) (hd : decode b pc = .ok (.invokevirtual 126, 3)) (hrest : (rest.map fun v => v.category).sum ≤ 8) (k : ∀ (r : Option Int) (M' : qMem), (∀ z, r = some z → qIn z) → P r M' → qV l g X M' (pc + 3) ls ((r.map qI).toList ++ rest)) : qV l g X M pc ls (qR g 0 0 :: rest) := q_callV C lk_RL_126 q_im_yX11_part q_se_yX11_part rfl hd' (j := 0) (u := 0) (by decide) rfl rfl hok hd hrest rfl k
theorem lk_RX11_309 : qLk RX11 309 yX8_bestPart cX8_bestPart 6 (some .int) 1 := ⟨q_ml_RX11_309, q_in_RX8, q_cd_yX8_bestPart, ⟨by decide, by decide⟩, by decide +kernel, by decide⟩
theorem cv_RX11_309 (C : qCx l g X b RX11 d) {d' : Nat} (hd' : d' < d) {a1 : Value} {rest : List Value} {z : Int} {M' : qMem} (hok : qOk l g d' yX8_bestPart cX8_bestPart 6 (some .int) [qR g 29 0, a1] M (qEv (some z) M')) (hd : decode b pc = .ok (.invokevirtual 309, 3)) (hrest : (rest.map fun v => v.category).sum ≤ 8) (k : qIn z → qV l g X M' (pc + 3) ls (qI z :: rest)) : qV l g X M pc ls (a1 :: qR g 29 0 :: rest) := q_callV C lk_RX11_309 q_im_yX8_bestPart q_se_yX8_bestPart rfl hd' (j := 29) (u := 0) (by decide) rfl rfl hok hd hrest rfl (q_evI k)
theorem cw_RX11_309 (C : qCx l g X b RX11 d) {d' : Nat} (hd' : d' < d) {a1 : Value} {rest : List Value} {P : Option Int → qMem → Prop} (hok : qOk l g d' yX8_bestPart cX8_bestPart 6 (some .int) [qR g 29 0, a1] M P) (hd : decode b pc = .ok (.invokevirtual 309, 3)) (hrest : (rest.map fun v => v.category).sum ≤ 8) (k : ∀ (r : Option Int) (M' : qMem), (∀ z, r = some z → qIn z) → P r M' → qV l g X M' (pc + 3) ls ((r.map qI).toList ++ rest)) : qV l g X M pc ls (a1 :: qR g 29 0 :: rest) := q_callV C lk_RX11_309 q_im_yX8_bestPart q_se_yX8_bestPart rfl hd' (j := 29) (u := 0) (by decide) rfl rfl hok hd hrest rfl k
theorem lk_RX8_39 : qLk RX8 39 yX8_countFits cX8_countFits 4 (some .int) 1 := ⟨q_ml_RX8_39, q_in_RX8, q_cd_yX8_countFits, ⟨by decide, by decide⟩, by decide +kernel, by decide⟩
theorem cv_RX8_39 (C : qCx l g X b RX8 d) {d' : Nat} (hd' : d' < d) {a1 : Value} {rest : List Value} {z : Int} {M' : qMem} (hok : qOk l g d' yX8_countFits cX8_countFits 4 (some .int) [qR g 29 0, a1] M (qEv (some z) M')) (hd : decode b pc = .ok (.invokevirtual 39, 3)) (hrest : (rest.map fun v => v.category).sum ≤ 8) (k : qIn z → qV l g X M' (pc + 3) ls (qI z :: rest)) : qV l g X M pc ls (a1 :: qR g 29 0 :: rest) := q_callV C lk_RX8_39 q_im_yX8_countFits q_se_yX8_countFits rfl hd' (j := 29) (u := 0) (by decide) rfl rfl hok hd hrest rfl (q_evI k)
theorem cw_RX8_39 (C : qCx l g X b RX8 d) {d' : Nat} (hd' : d' < d) {a1 : Value} {rest : List Value} {P : Option Int → qMem → Prop} (hok : qOk l g d' yX8_countFits cX8_countFits 4 (some .int) [qR g 29 0, a1] M P) (hd : decode b pc = .ok (.invokevirtual 39, 3)) (hrest : (rest.map fun v => v.category).sum ≤ 8) (k : ∀ (r : Option Int) (M' : qMem), (∀ z, r = some z → qIn z) → P r M' → qV l g X M' (pc + 3) ls ((r.map qI).toList ++ rest)) : qV l g X M pc ls (a1 :: qR g 29 0 :: rest) := q_callV C lk_RX8_39 q_im_yX8_countFits q_se_yX8_countFits rfl hd' (j := 29) (u := 0) (by decide) rfl rfl hok hd hrest rfl k
theorem lk_RX8_42 : qLk RX8 42 yX8_mostAlike cX8_mostAlike 5 (some .int) 2 := ⟨q_ml_RX8_42, q_in_RX8, q_cd_yX8_mostAlike, ⟨by decide, by decide⟩, by decide +kernel, by decide⟩
theorem cv_RX8_42 (C : qCx l g X b RX8 d) {d' : Nat} (hd' : d' < d) {a1 a2 : Value} {rest : List Value} {z : Int} {M' : qMem} (hok : qOk l g d' yX8_mostAlike cX8_mostAlike 5 (some .int) [qR g 29 0, a1, a2] M (qEv (some z) M')) (hd : decode b pc = .ok (.invokevirtual 42, 3)) (hrest : (rest.map fun v => v.category).sum ≤ 8) (k : qIn z → qV l g X M' (pc + 3) ls (qI z :: rest)) : qV l g X M pc ls (a2 :: a1 :: qR g 29 0 :: rest) := q_callV C lk_RX8_42 q_im_yX8_mostAlike q_se_yX8_mostAlike rfl hd' (j := 29) (u := 0) (by decide) rfl rfl hok hd hrest rfl (q_evI k)
theorem cw_RX8_42 (C : qCx l g X b RX8 d) {d' : Nat} (hd' : d' < d) {a1 a2 : Value} {rest : List Value} {P : Option Int → qMem → Prop} (hok : qOk l g d' yX8_mostAlike cX8_mostAlike 5 (some .int) [qR g 29 0, a1, a2] M P) (hd : decode b pc = .ok (.invokevirtual 42, 3)) (hrest : (rest.map fun v => v.category).sum ≤ 8) (k : ∀ (r : Option Int) (M' : qMem), (∀ z, r = some z → qIn z) → P r M' → qV l g X M' (pc + 3) ls ((r.map qI).toList ++ rest)) : qV l g X M pc ls (a2 :: a1 :: qR g 29 0 :: rest) := q_callV C lk_RX8_42 q_im_yX8_mostAlike q_se_yX8_mostAlike rfl hd' (j := 29) (u := 0) (by decide) rfl rfl hok hd hrest rfl k
theorem lk_RX8_45 : qLk RX8 45 yX8_countAlike cX8_countAlike 6 (some .int) 3 := ⟨q_ml_RX8_45, q_in_RX8, q_cd_yX8_countAlike, ⟨by decide, by decide⟩, by decide +kernel, by decide⟩
theorem cv_RX8_45 (C : qCx l g X b RX8 d) {d' : Nat} (hd' : d' < d) {a1 a2 a3 : Value} {rest : List Value} {z : Int} {M' : qMem} (hok : qOk l g d' yX8_countAlike cX8_countAlike 6 (some .int) [qR g 29 0, a1, a2, a3] M (qEv (some z) M')) (hd : decode b pc = .ok (.invokevirtual 45, 3)) (hrest : (rest.map fun v => v.category).sum ≤ 8) (k : qIn z → qV l g X M' (pc + 3) ls (qI z :: rest)) : qV l g X M pc ls (a3 :: a2 :: a1 :: qR g 29 0 :: rest) := q_callV C lk_RX8_45 q_im_yX8_countAlike q_se_yX8_countAlike rfl hd' (j := 29) (u := 0) (by decide) rfl rfl hok hd hrest rfl (q_evI k)
theorem cw_RX8_45 (C : qCx l g X b RX8 d) {d' : Nat} (hd' : d' < d) {a1 a2 a3 : Value} {rest : List Value} {P : Option Int → qMem → Prop} (hok : qOk l g d' yX8_countAlike cX8_countAlike 6 (some .int) [qR g 29 0, a1, a2, a3] M P) (hd : decode b pc = .ok (.invokevirtual 45, 3)) (hrest : (rest.map fun v => v.category).sum ≤ 8) (k : ∀ (r : Option Int) (M' : qMem), (∀ z, r = some z → qIn z) → P r M' → qV l g X M' (pc + 3) ls ((r.map qI).toList ++ rest)) : qV l g X M pc ls (a3 :: a2 :: a1 :: qR g 29 0 :: rest) := q_callV C lk_RX8_45 q_im_yX8_countAlike q_se_yX8_countAlike rfl hd' (j := 29) (u := 0) (by decide) rfl rfl hok hd hrest rfl k
theorem lk_RX8_49 : qLk RX8 49 yJ9_max_7cf53 cJ9_max_7cf53 2 (some .int) 2 := ⟨q_ml_RX8_49, q_in_RJ9, q_cd_yJ9_max_7cf53, ⟨by decide, by decide⟩, by decide +kernel, by decide⟩
theorem cv_RX8_49 (C : qCx l g X b RX8 d) {d' : Nat} (hd' : d' < d) {a1 a2 : Value} {rest : List Value} {z : Int} {M' : qMem} (hok : qOk l g d' yJ9_max_7cf53 cJ9_max_7cf53 2 (some .int) [a1, a2] M (qEv (some z) M')) (hd : decode b pc = .ok (.invokestatic 49, 3)) (hrest : (rest.map fun v => v.category).sum ≤ 8) (k : qIn z → qV l g X M' (pc + 3) ls (qI z :: rest)) : qV l g X M pc ls (a2 :: a1 :: rest) := q_callS C lk_RX8_49 q_st_yJ9_max_7cf53 rfl hd' hok hd hrest rfl (q_evI k)
theorem cw_RX8_49 (C : qCx l g X b RX8 d) {d' : Nat} (hd' : d' < d) {a1 a2 : Value} {rest : List Value} {P : Option Int → qMem → Prop} (hok : qOk l g d' yJ9_max_7cf53 cJ9_max_7cf53 2 (some .int) [a1, a2] M P) (hd : decode b pc = .ok (.invokestatic 49, 3)) (hrest : (rest.map fun v => v.category).sum ≤ 8) (k : ∀ (r : Option Int) (M' : qMem), (∀ z, r = some z → qIn z) → P r M' → qV l g X M' (pc + 3) ls ((r.map qI).toList ++ rest)) : qV l g X M pc ls (a2 :: a1 :: rest) := q_callS C lk_RX8_49 q_st_yJ9_max_7cf53 rfl hd' hok hd hrest rfl k
theorem lk_RL_130 : qLk RL 130 yX11_write cX11_write 3 (some .int) 2 := ⟨q_ml_RL_130, q_in_RX11, q_cd_yX11_write, ⟨by decide, by decide⟩, by decide +kernel, by decide⟩
theorem cv_RL_130 (C : qCx l g X b RL d) {d' : Nat} (hd' : d' < d) {a1 a2 : Value} {rest : List Value} {z : Int} {M' : qMem} (hok : qOk l g d' yX11_write cX11_write 3 (some .int) [qR g 0 0, a1, a2] M (qEv (some z) M')) (hd : decode b pc = .ok (.invokevirtual 130, 3)) (hrest : (rest.map fun v => v.category).sum ≤ 8) (k : qIn z → qV l g X M' (pc + 3) ls (qI z :: rest)) : qV l g X M pc ls (a2 :: a1 :: qR g 0 0 :: rest) := q_callV C lk_RL_130 q_im_yX11_write q_se_yX11_write rfl hd' (j := 0) (u := 0) (by decide) rfl rfl hok hd hrest rfl (q_evI k)
theorem cw_RL_130 (C : qCx l g X b RL d) {d' : Nat} (hd' : d' < d) {a1 a2 : Value} {rest : List Value} {P : Option Int → qMem → Prop} (hok : qOk l g d' yX11_write cX11_write 3 (some .int) [qR g 0 0, a1, a2] M P) (hd : decode b pc = .ok (.invokevirtual 130, 3)) (hrest : (rest.map fun v => v.category).sum ≤ 8) (k : ∀ (r : Option Int) (M' : qMem), (∀ z, r = some z → qIn z) → P r M' → qV l g X M' (pc + 3) ls ((r.map qI).toList ++ rest)) : qV l g X M pc ls (a2 :: a1 :: qR g 0 0 :: rest) := q_callV C lk_RL_130 q_im_yX11_write q_se_yX11_write rfl hd' (j := 0) (u := 0) (by decide) rfl rfl hok hd hrest rfl k
theorem lk_RX11_312 : qLk RX11 312 yX0_append cX0_append 3 (some .boolean) 2 := ⟨q_ml_RX11_312, q_in_RX0, q_cd_yX0_append, ⟨by decide, by decide⟩, by decide +kernel, by decide⟩
theorem cv_RX11_312 (C : qCx l g X b RX11 d) {d' : Nat} (hd' : d' < d) {a1 a2 : Value} {rest : List Value} {z : Int} {M' : qMem} (hok : qOk l g d' yX0_append cX0_append 3 (some .boolean) [qR g 32 0, a1, a2] M (qEv (some z) M')) (hd : decode b pc = .ok (.invokevirtual 312, 3)) (hrest : (rest.map fun v => v.category).sum ≤ 8) (k : qIn z → qV l g X M' (pc + 3) ls (qI z :: rest)) : qV l g X M pc ls (a2 :: a1 :: qR g 32 0 :: rest) := q_callV C lk_RX11_312 q_im_yX0_append q_se_yX0_append rfl hd' (j := 32) (u := 0) (by decide) rfl rfl hok hd hrest rfl (q_evI k)
theorem cw_RX11_312 (C : qCx l g X b RX11 d) {d' : Nat} (hd' : d' < d) {a1 a2 : Value} {rest : List Value} {P : Option Int → qMem → Prop} (hok : qOk l g d' yX0_append cX0_append 3 (some .boolean) [qR g 32 0, a1, a2] M P) (hd : decode b pc = .ok (.invokevirtual 312, 3)) (hrest : (rest.map fun v => v.category).sum ≤ 8) (k : ∀ (r : Option Int) (M' : qMem), (∀ z, r = some z → qIn z) → P r M' → qV l g X M' (pc + 3) ls ((r.map qI).toList ++ rest)) : qV l g X M pc ls (a2 :: a1 :: qR g 32 0 :: rest) := q_callV C lk_RX11_312 q_im_yX0_append q_se_yX0_append rfl hd' (j := 32) (u := 0) (by decide) rfl rfl hok hd hrest rfl k
theorem lk_RL_134 : qLk RL 134 yX11_judge cX11_judge 1 (some .int) 0 := ⟨q_ml_RL_134, q_in_RX11, q_cd_yX11_judge, ⟨by decide, by decide⟩, by decide +kernel, by decide⟩
theorem cv_RL_134 (C : qCx l g X b RL d) {d' : Nat} (hd' : d' < d) {rest : List Value} {z : Int} {M' : qMem} (hok : qOk l g d' yX11_judge cX11_judge 1 (some .int) [qR g 0 0] M (qEv (some z) M')) (hd : decode b pc = .ok (.invokevirtual 134, 3)) (hrest : (rest.map fun v => v.category).sum ≤ 8) (k : qIn z → qV l g X M' (pc + 3) ls (qI z :: rest)) : qV l g X M pc ls (qR g 0 0 :: rest) := q_callV C lk_RL_134 q_im_yX11_judge q_se_yX11_judge rfl hd' (j := 0) (u := 0) (by decide) rfl rfl hok hd hrest rfl (q_evI k)
theorem cw_RL_134 (C : qCx l g X b RL d) {d' : Nat} (hd' : d' < d) {rest : List Value} {P : Option Int → qMem → Prop} (hok : qOk l g d' yX11_judge cX11_judge 1 (some .int) [qR g 0 0] M P) (hd : decode b pc = .ok (.invokevirtual 134, 3)) (hrest : (rest.map fun v => v.category).sum ≤ 8) (k : ∀ (r : Option Int) (M' : qMem), (∀ z, r = some z → qIn z) → P r M' → qV l g X M' (pc + 3) ls ((r.map qI).toList ++ rest)) : qV l g X M pc ls (qR g 0 0 :: rest) := q_callV C lk_RL_134 q_im_yX11_judge q_se_yX11_judge rfl hd' (j := 0) (u := 0) (by decide) rfl rfl hok hd hrest rfl k
theorem lk_RX11_313 : qLk RX11 313 yX0_firstWrong cX0_firstWrong 3 (some .int) 1 := ⟨q_ml_RX11_313, q_in_RX0, q_cd_yX0_firstWrong, ⟨by decide, by decide⟩, by decide +kernel, by decide⟩
theorem cv_RX11_313 (C : qCx l g X b RX11 d) {d' : Nat} (hd' : d' < d) {a1 : Value} {rest : List Value} {z : Int} {M' : qMem} (hok : qOk l g d' yX0_firstWrong cX0_firstWrong 3 (some .int) [qR g 32 0, a1] M (qEv (some z) M')) (hd : decode b pc = .ok (.invokevirtual 313, 3)) (hrest : (rest.map fun v => v.category).sum ≤ 8) (k : qIn z → qV l g X M' (pc + 3) ls (qI z :: rest)) : qV l g X M pc ls (a1 :: qR g 32 0 :: rest) := q_callV C lk_RX11_313 q_im_yX0_firstWrong q_se_yX0_firstWrong rfl hd' (j := 32) (u := 0) (by decide) rfl rfl hok hd hrest rfl (q_evI k)
theorem cw_RX11_313 (C : qCx l g X b RX11 d) {d' : Nat} (hd' : d' < d) {a1 : Value} {rest : List Value} {P : Option Int → qMem → Prop} (hok : qOk l g d' yX0_firstWrong cX0_firstWrong 3 (some .int) [qR g 32 0, a1] M P) (hd : decode b pc = .ok (.invokevirtual 313, 3)) (hrest : (rest.map fun v => v.category).sum ≤ 8) (k : ∀ (r : Option Int) (M' : qMem), (∀ z, r = some z → qIn z) → P r M' → qV l g X M' (pc + 3) ls ((r.map qI).toList ++ rest)) : qV l g X M pc ls (a1 :: qR g 32 0 :: rest) := q_callV C lk_RX11_313 q_im_yX0_firstWrong q_se_yX0_firstWrong rfl hd' (j := 32) (u := 0) (by decide) rfl rfl hok hd hrest rfl k
theorem lk_RL_138 : qLk RL 138 yX11_tear cX11_tear 2 (some .int) 0 := ⟨q_ml_RL_138, q_in_RX11, q_cd_yX11_tear, ⟨by decide, by decide⟩, by decide +kernel, by decide⟩
theorem cv_RL_138 (C : qCx l g X b RL d) {d' : Nat} (hd' : d' < d) {rest : List Value} {z : Int} {M' : qMem} (hok : qOk l g d' yX11_tear cX11_tear 2 (some .int) [qR g 0 0] M (qEv (some z) M')) (hd : decode b pc = .ok (.invokevirtual 138, 3)) (hrest : (rest.map fun v => v.category).sum ≤ 8) (k : qIn z → qV l g X M' (pc + 3) ls (qI z :: rest)) : qV l g X M pc ls (qR g 0 0 :: rest) := q_callV C lk_RL_138 q_im_yX11_tear q_se_yX11_tear rfl hd' (j := 0) (u := 0) (by decide) rfl rfl hok hd hrest rfl (q_evI k)
theorem cw_RL_138 (C : qCx l g X b RL d) {d' : Nat} (hd' : d' < d) {rest : List Value} {P : Option Int → qMem → Prop} (hok : qOk l g d' yX11_tear cX11_tear 2 (some .int) [qR g 0 0] M P) (hd : decode b pc = .ok (.invokevirtual 138, 3)) (hrest : (rest.map fun v => v.category).sum ≤ 8) (k : ∀ (r : Option Int) (M' : qMem), (∀ z, r = some z → qIn z) → P r M' → qV l g X M' (pc + 3) ls ((r.map qI).toList ++ rest)) : qV l g X M pc ls (qR g 0 0 :: rest) := q_callV C lk_RL_138 q_im_yX11_tear q_se_yX11_tear rfl hd' (j := 0) (u := 0) (by decide) rfl rfl hok hd hrest rfl k
theorem lk_RL_142 : qLk RL 142 yX11_seed cX11_seed 3 (some .int) 1 := ⟨q_ml_RL_142, q_in_RX11, q_cd_yX11_seed, ⟨by decide, by decide⟩, by decide +kernel, by decide⟩
theorem cv_RL_142 (C : qCx l g X b RL d) {d' : Nat} (hd' : d' < d) {a1 : Value} {rest : List Value} {z : Int} {M' : qMem} (hok : qOk l g d' yX11_seed cX11_seed 3 (some .int) [qR g 0 0, a1] M (qEv (some z) M')) (hd : decode b pc = .ok (.invokevirtual 142, 3)) (hrest : (rest.map fun v => v.category).sum ≤ 8) (k : qIn z → qV l g X M' (pc + 3) ls (qI z :: rest)) : qV l g X M pc ls (a1 :: qR g 0 0 :: rest) := q_callV C lk_RL_142 q_im_yX11_seed q_se_yX11_seed rfl hd' (j := 0) (u := 0) (by decide) rfl rfl hok hd hrest rfl (q_evI k)
theorem cw_RL_142 (C : qCx l g X b RL d) {d' : Nat} (hd' : d' < d) {a1 : Value} {rest : List Value} {P : Option Int → qMem → Prop} (hok : qOk l g d' yX11_seed cX11_seed 3 (some .int) [qR g 0 0, a1] M P) (hd : decode b pc = .ok (.invokevirtual 142, 3)) (hrest : (rest.map fun v => v.category).sum ≤ 8) (k : ∀ (r : Option Int) (M' : qMem), (∀ z, r = some z → qIn z) → P r M' → qV l g X M' (pc + 3) ls ((r.map qI).toList ++ rest)) : qV l g X M pc ls (a1 :: qR g 0 0 :: rest) := q_callV C lk_RL_142 q_im_yX11_seed q_se_yX11_seed rfl hd' (j := 0) (u := 0) (by decide) rfl rfl hok hd hrest rfl k
theorem lk_RL_146 : qLk RL 146 yX11_keep cX11_keep 3 (some .int) 1 := ⟨q_ml_RL_146, q_in_RX11, q_cd_yX11_keep, ⟨by decide, by decide⟩, by decide +kernel, by decide⟩
theorem cv_RL_146 (C : qCx l g X b RL d) {d' : Nat} (hd' : d' < d) {a1 : Value} {rest : List Value} {z : Int} {M' : qMem} (hok : qOk l g d' yX11_keep cX11_keep 3 (some .int) [qR g 0 0, a1] M (qEv (some z) M')) (hd : decode b pc = .ok (.invokevirtual 146, 3)) (hrest : (rest.map fun v => v.category).sum ≤ 8) (k : qIn z → qV l g X M' (pc + 3) ls (qI z :: rest)) : qV l g X M pc ls (a1 :: qR g 0 0 :: rest) := q_callV C lk_RL_146 q_im_yX11_keep q_se_yX11_keep rfl hd' (j := 0) (u := 0) (by decide) rfl rfl hok hd hrest rfl (q_evI k)
theorem cw_RL_146 (C : qCx l g X b RL d) {d' : Nat} (hd' : d' < d) {a1 : Value} {rest : List Value} {P : Option Int → qMem → Prop} (hok : qOk l g d' yX11_keep cX11_keep 3 (some .int) [qR g 0 0, a1] M P) (hd : decode b pc = .ok (.invokevirtual 146, 3)) (hrest : (rest.map fun v => v.category).sum ≤ 8) (k : ∀ (r : Option Int) (M' : qMem), (∀ z, r = some z → qIn z) → P r M' → qV l g X M' (pc + 3) ls ((r.map qI).toList ++ rest)) : qV l g X M pc ls (a1 :: qR g 0 0 :: rest) := q_callV C lk_RL_146 q_im_yX11_keep q_se_yX11_keep rfl hd' (j := 0) (u := 0) (by decide) rfl rfl hok hd hrest rfl k
theorem lk_RX11_318 : qLk RX11 318 yX2_become cX2_become 2 none 1 := ⟨q_ml_RX11_318, q_in_RX2, q_cd_yX2_become, ⟨by decide, by decide⟩, by decide +kernel, by decide⟩
theorem cv_RX11_318 (C : qCx l g X b RX11 d) {d' : Nat} (hd' : d' < d) {u : Nat} (hu : u < 33) {a1 : Value} {rest : List Value} {M' : qMem} (hok : qOk l g d' yX2_become cX2_become 2 none [qR g 10 u, a1] M (qEv none M')) (hd : decode b pc = .ok (.invokevirtual 318, 3)) (hrest : (rest.map fun v => v.category).sum ≤ 8) (k : qV l g X M' (pc + 3) ls rest) : qV l g X M pc ls (a1 :: qR g 10 u :: rest) := q_callV C lk_RX11_318 q_im_yX2_become q_se_yX2_become rfl hd' (j := 10) (u := u) hu rfl rfl hok hd hrest rfl (q_evV k)
theorem cw_RX11_318 (C : qCx l g X b RX11 d) {d' : Nat} (hd' : d' < d) {u : Nat} (hu : u < 33) {a1 : Value} {rest : List Value} {P : Option Int → qMem → Prop} (hok : qOk l g d' yX2_become cX2_become 2 none [qR g 10 u, a1] M P) (hd : decode b pc = .ok (.invokevirtual 318, 3)) (hrest : (rest.map fun v => v.category).sum ≤ 8) (k : ∀ (r : Option Int) (M' : qMem), (∀ z, r = some z → qIn z) → P r M' → qV l g X M' (pc + 3) ls ((r.map qI).toList ++ rest)) : qV l g X M pc ls (a1 :: qR g 10 u :: rest) := q_callV C lk_RX11_318 q_im_yX2_become q_se_yX2_become rfl hd' (j := 10) (u := u) hu rfl rfl hok hd hrest rfl k
theorem lk_RL_150 : qLk RL 150 yX11_goBack cX11_goBack 3 (some .int) 1 := ⟨q_ml_RL_150, q_in_RX11, q_cd_yX11_goBack, ⟨by decide, by decide⟩, by decide +kernel, by decide⟩
theorem cv_RL_150 (C : qCx l g X b RL d) {d' : Nat} (hd' : d' < d) {a1 : Value} {rest : List Value} {z : Int} {M' : qMem} (hok : qOk l g d' yX11_goBack cX11_goBack 3 (some .int) [qR g 0 0, a1] M (qEv (some z) M')) (hd : decode b pc = .ok (.invokevirtual 150, 3)) (hrest : (rest.map fun v => v.category).sum ≤ 8) (k : qIn z → qV l g X M' (pc + 3) ls (qI z :: rest)) : qV l g X M pc ls (a1 :: qR g 0 0 :: rest) := q_callV C lk_RL_150 q_im_yX11_goBack q_se_yX11_goBack rfl hd' (j := 0) (u := 0) (by decide) rfl rfl hok hd hrest rfl (q_evI k)
theorem cw_RL_150 (C : qCx l g X b RL d) {d' : Nat} (hd' : d' < d) {a1 : Value} {rest : List Value} {P : Option Int → qMem → Prop} (hok : qOk l g d' yX11_goBack cX11_goBack 3 (some .int) [qR g 0 0, a1] M P) (hd : decode b pc = .ok (.invokevirtual 150, 3)) (hrest : (rest.map fun v => v.category).sum ≤ 8) (k : ∀ (r : Option Int) (M' : qMem), (∀ z, r = some z → qIn z) → P r M' → qV l g X M' (pc + 3) ls ((r.map qI).toList ++ rest)) : qV l g X M pc ls (a1 :: qR g 0 0 :: rest) := q_callV C lk_RL_150 q_im_yX11_goBack q_se_yX11_goBack rfl hd' (j := 0) (u := 0) (by decide) rfl rfl hok hd hrest rfl k
theorem lk_RL_17 : qLk RL 17 yX12_feed cX12_feed 2 (some .int) 1 := ⟨q_ml_RL_17, q_in_RX12, q_cd_yX12_feed, ⟨by decide, by decide⟩, by decide +kernel, by decide⟩
theorem cv_RL_17 (C : qCx l g X b RL d) {d' : Nat} (hd' : d' < d) {a1 : Value} {rest : List Value} {z : Int} {M' : qMem} (hok : qOk l g d' yX12_feed cX12_feed 2 (some .int) [qR g 35 0, a1] M (qEv (some z) M')) (hd : decode b pc = .ok (.invokevirtual 17, 3)) (hrest : (rest.map fun v => v.category).sum ≤ 8) (k : qIn z → qV l g X M' (pc + 3) ls (qI z :: rest)) : qV l g X M pc ls (a1 :: qR g 35 0 :: rest) := q_callV C lk_RL_17 q_im_yX12_feed q_se_yX12_feed rfl hd' (j := 35) (u := 0) (by decide) rfl rfl hok hd hrest rfl (q_evI k)
theorem cw_RL_17 (C : qCx l g X b RL d) {d' : Nat} (hd' : d' < d) {a1 : Value} {rest : List Value} {P : Option Int → qMem → Prop} (hok : qOk l g d' yX12_feed cX12_feed 2 (some .int) [qR g 35 0, a1] M P) (hd : decode b pc = .ok (.invokevirtual 17, 3)) (hrest : (rest.map fun v => v.category).sum ≤ 8) (k : ∀ (r : Option Int) (M' : qMem), (∀ z, r = some z → qIn z) → P r M' → qV l g X M' (pc + 3) ls ((r.map qI).toList ++ rest)) : qV l g X M pc ls (a1 :: qR g 35 0 :: rest) := q_callV C lk_RL_17 q_im_yX12_feed q_se_yX12_feed rfl hd' (j := 35) (u := 0) (by decide) rfl rfl hok hd hrest rfl k
theorem lk_RX12_85 : qLk RX12 85 yX12_in cX12_in 3 (some .boolean) 3 := ⟨q_ml_RX12_85, q_in_RX12, q_cd_yX12_in, ⟨by decide, by decide⟩, by decide +kernel, by decide⟩
theorem cv_RX12_85 (C : qCx l g X b RX12 d) {d' : Nat} (hd' : d' < d) {a1 a2 a3 : Value} {rest : List Value} {z : Int} {M' : qMem} (hok : qOk l g d' yX12_in cX12_in 3 (some .boolean) [a1, a2, a3] M (qEv (some z) M')) (hd : decode b pc = .ok (.invokestatic 85, 3)) (hrest : (rest.map fun v => v.category).sum ≤ 8) (k : qIn z → qV l g X M' (pc + 3) ls (qI z :: rest)) : qV l g X M pc ls (a3 :: a2 :: a1 :: rest) := q_callS C lk_RX12_85 q_st_yX12_in rfl hd' hok hd hrest rfl (q_evI k)
theorem cw_RX12_85 (C : qCx l g X b RX12 d) {d' : Nat} (hd' : d' < d) {a1 a2 a3 : Value} {rest : List Value} {P : Option Int → qMem → Prop} (hok : qOk l g d' yX12_in cX12_in 3 (some .boolean) [a1, a2, a3] M P) (hd : decode b pc = .ok (.invokestatic 85, 3)) (hrest : (rest.map fun v => v.category).sum ≤ 8) (k : ∀ (r : Option Int) (M' : qMem), (∀ z, r = some z → qIn z) → P r M' → qV l g X M' (pc + 3) ls ((r.map qI).toList ++ rest)) : qV l g X M pc ls (a3 :: a2 :: a1 :: rest) := q_callS C lk_RX12_85 q_st_yX12_in rfl hd' hok hd hrest rfl k
theorem lk_RL_22 : qLk RL 22 yX12_season cX12_season 3 (some .int) 0 := ⟨q_ml_RL_22, q_in_RX12, q_cd_yX12_season, ⟨by decide, by decide⟩, by decide +kernel, by decide⟩
theorem cv_RL_22 (C : qCx l g X b RL d) {d' : Nat} (hd' : d' < d) {rest : List Value} {z : Int} {M' : qMem} (hok : qOk l g d' yX12_season cX12_season 3 (some .int) [qR g 35 0] M (qEv (some z) M')) (hd : decode b pc = .ok (.invokevirtual 22, 3)) (hrest : (rest.map fun v => v.category).sum ≤ 8) (k : qIn z → qV l g X M' (pc + 3) ls (qI z :: rest)) : qV l g X M pc ls (qR g 35 0 :: rest) := q_callV C lk_RL_22 q_im_yX12_season q_se_yX12_season rfl hd' (j := 35) (u := 0) (by decide) rfl rfl hok hd hrest rfl (q_evI k)
theorem cw_RL_22 (C : qCx l g X b RL d) {d' : Nat} (hd' : d' < d) {rest : List Value} {P : Option Int → qMem → Prop} (hok : qOk l g d' yX12_season cX12_season 3 (some .int) [qR g 35 0] M P) (hd : decode b pc = .ok (.invokevirtual 22, 3)) (hrest : (rest.map fun v => v.category).sum ≤ 8) (k : ∀ (r : Option Int) (M' : qMem), (∀ z, r = some z → qIn z) → P r M' → qV l g X M' (pc + 3) ls ((r.map qI).toList ++ rest)) : qV l g X M pc ls (qR g 35 0 :: rest) := q_callV C lk_RL_22 q_im_yX12_season q_se_yX12_season rfl hd' (j := 35) (u := 0) (by decide) rfl rfl hok hd hrest rfl k
theorem lk_RX12_144 : qLk RX12 144 yX12_readsSeason cX12_readsSeason 2 (some .boolean) 0 := ⟨q_ml_RX12_144, q_in_RX12, q_cd_yX12_readsSeason, ⟨by decide, by decide⟩, by decide +kernel, by decide⟩
theorem cv_RX12_144 (C : qCx l g X b RX12 d) {d' : Nat} (hd' : d' < d) {rest : List Value} {z : Int} {M' : qMem} (hok : qOk l g d' yX12_readsSeason cX12_readsSeason 2 (some .boolean) [qR g 35 0] M (qEv (some z) M')) (hd : decode b pc = .ok (.invokevirtual 144, 3)) (hrest : (rest.map fun v => v.category).sum ≤ 8) (k : qIn z → qV l g X M' (pc + 3) ls (qI z :: rest)) : qV l g X M pc ls (qR g 35 0 :: rest) := q_callV C lk_RX12_144 q_im_yX12_readsSeason q_se_yX12_readsSeason rfl hd' (j := 35) (u := 0) (by decide) rfl rfl hok hd hrest rfl (q_evI k)
theorem cw_RX12_144 (C : qCx l g X b RX12 d) {d' : Nat} (hd' : d' < d) {rest : List Value} {P : Option Int → qMem → Prop} (hok : qOk l g d' yX12_readsSeason cX12_readsSeason 2 (some .boolean) [qR g 35 0] M P) (hd : decode b pc = .ok (.invokevirtual 144, 3)) (hrest : (rest.map fun v => v.category).sum ≤ 8) (k : ∀ (r : Option Int) (M' : qMem), (∀ z, r = some z → qIn z) → P r M' → qV l g X M' (pc + 3) ls ((r.map qI).toList ++ rest)) : qV l g X M pc ls (qR g 35 0 :: rest) := q_callV C lk_RX12_144 q_im_yX12_readsSeason q_se_yX12_readsSeason rfl hd' (j := 35) (u := 0) (by decide) rfl rfl hok hd hrest rfl k
theorem lk_RX12_104 : qLk RX12 104 yX12_nextLetter cX12_nextLetter 1 (some .int) 0 := ⟨q_ml_RX12_104, q_in_RX12, q_cd_yX12_nextLetter, ⟨by decide, by decide⟩, by decide +kernel, by decide⟩
theorem cv_RX12_104 (C : qCx l g X b RX12 d) {d' : Nat} (hd' : d' < d) {rest : List Value} {z : Int} {M' : qMem} (hok : qOk l g d' yX12_nextLetter cX12_nextLetter 1 (some .int) [qR g 35 0] M (qEv (some z) M')) (hd : decode b pc = .ok (.invokevirtual 104, 3)) (hrest : (rest.map fun v => v.category).sum ≤ 8) (k : qIn z → qV l g X M' (pc + 3) ls (qI z :: rest)) : qV l g X M pc ls (qR g 35 0 :: rest) := q_callV C lk_RX12_104 q_im_yX12_nextLetter q_se_yX12_nextLetter rfl hd' (j := 35) (u := 0) (by decide) rfl rfl hok hd hrest rfl (q_evI k)
theorem cw_RX12_104 (C : qCx l g X b RX12 d) {d' : Nat} (hd' : d' < d) {rest : List Value} {P : Option Int → qMem → Prop} (hok : qOk l g d' yX12_nextLetter cX12_nextLetter 1 (some .int) [qR g 35 0] M P) (hd : decode b pc = .ok (.invokevirtual 104, 3)) (hrest : (rest.map fun v => v.category).sum ≤ 8) (k : ∀ (r : Option Int) (M' : qMem), (∀ z, r = some z → qIn z) → P r M' → qV l g X M' (pc + 3) ls ((r.map qI).toList ++ rest)) : qV l g X M pc ls (qR g 35 0 :: rest) := q_callV C lk_RX12_104 q_im_yX12_nextLetter q_se_yX12_nextLetter rfl hd' (j := 35) (u := 0) (by decide) rfl rfl hok hd hrest rfl k
theorem lk_RX12_97 : qLk RX12 97 yX12_letterAt cX12_letterAt 2 (some .int) 1 := ⟨q_ml_RX12_97, q_in_RX12, q_cd_yX12_letterAt, ⟨by decide, by decide⟩, by decide +kernel, by decide⟩
theorem cv_RX12_97 (C : qCx l g X b RX12 d) {d' : Nat} (hd' : d' < d) {a1 : Value} {rest : List Value} {z : Int} {M' : qMem} (hok : qOk l g d' yX12_letterAt cX12_letterAt 2 (some .int) [qR g 35 0, a1] M (qEv (some z) M')) (hd : decode b pc = .ok (.invokevirtual 97, 3)) (hrest : (rest.map fun v => v.category).sum ≤ 8) (k : qIn z → qV l g X M' (pc + 3) ls (qI z :: rest)) : qV l g X M pc ls (a1 :: qR g 35 0 :: rest) := q_callV C lk_RX12_97 q_im_yX12_letterAt q_se_yX12_letterAt rfl hd' (j := 35) (u := 0) (by decide) rfl rfl hok hd hrest rfl (q_evI k)
theorem cw_RX12_97 (C : qCx l g X b RX12 d) {d' : Nat} (hd' : d' < d) {a1 : Value} {rest : List Value} {P : Option Int → qMem → Prop} (hok : qOk l g d' yX12_letterAt cX12_letterAt 2 (some .int) [qR g 35 0, a1] M P) (hd : decode b pc = .ok (.invokevirtual 97, 3)) (hrest : (rest.map fun v => v.category).sum ≤ 8) (k : ∀ (r : Option Int) (M' : qMem), (∀ z, r = some z → qIn z) → P r M' → qV l g X M' (pc + 3) ls ((r.map qI).toList ++ rest)) : qV l g X M pc ls (a1 :: qR g 35 0 :: rest) := q_callV C lk_RX12_97 q_im_yX12_letterAt q_se_yX12_letterAt rfl hd' (j := 35) (u := 0) (by decide) rfl rfl hok hd hrest rfl k
theorem lk_RX12_141 : qLk RX12 141 yX12_readsClause cX12_readsClause 4 (some .boolean) 0 := ⟨q_ml_RX12_141, q_in_RX12, q_cd_yX12_readsClause, ⟨by decide, by decide⟩, by decide +kernel, by decide⟩
theorem cv_RX12_141 (C : qCx l g X b RX12 d) {d' : Nat} (hd' : d' < d) {rest : List Value} {z : Int} {M' : qMem} (hok : qOk l g d' yX12_readsClause cX12_readsClause 4 (some .boolean) [qR g 35 0] M (qEv (some z) M')) (hd : decode b pc = .ok (.invokevirtual 141, 3)) (hrest : (rest.map fun v => v.category).sum ≤ 8) (k : qIn z → qV l g X M' (pc + 3) ls (qI z :: rest)) : qV l g X M pc ls (qR g 35 0 :: rest) := q_callV C lk_RX12_141 q_im_yX12_readsClause q_se_yX12_readsClause rfl hd' (j := 35) (u := 0) (by decide) rfl rfl hok hd hrest rfl (q_evI k)
theorem cw_RX12_141 (C : qCx l g X b RX12 d) {d' : Nat} (hd' : d' < d) {rest : List Value} {P : Option Int → qMem → Prop} (hok : qOk l g d' yX12_readsClause cX12_readsClause 4 (some .boolean) [qR g 35 0] M P) (hd : decode b pc = .ok (.invokevirtual 141, 3)) (hrest : (rest.map fun v => v.category).sum ≤ 8) (k : ∀ (r : Option Int) (M' : qMem), (∀ z, r = some z → qIn z) → P r M' → qV l g X M' (pc + 3) ls ((r.map qI).toList ++ rest)) : qV l g X M pc ls (qR g 35 0 :: rest) := q_callV C lk_RX12_141 q_im_yX12_readsClause q_se_yX12_readsClause rfl hd' (j := 35) (u := 0) (by decide) rfl rfl hok hd hrest rfl k
theorem lk_RX12_131 : qLk RX12 131 yX12_readsHead cX12_readsHead 1 (some .boolean) 0 := ⟨q_ml_RX12_131, q_in_RX12, q_cd_yX12_readsHead, ⟨by decide, by decide⟩, by decide +kernel, by decide⟩
theorem cv_RX12_131 (C : qCx l g X b RX12 d) {d' : Nat} (hd' : d' < d) {rest : List Value} {z : Int} {M' : qMem} (hok : qOk l g d' yX12_readsHead cX12_readsHead 1 (some .boolean) [qR g 35 0] M (qEv (some z) M')) (hd : decode b pc = .ok (.invokevirtual 131, 3)) (hrest : (rest.map fun v => v.category).sum ≤ 8) (k : qIn z → qV l g X M' (pc + 3) ls (qI z :: rest)) : qV l g X M pc ls (qR g 35 0 :: rest) := q_callV C lk_RX12_131 q_im_yX12_readsHead q_se_yX12_readsHead rfl hd' (j := 35) (u := 0) (by decide) rfl rfl hok hd hrest rfl (q_evI k)
theorem cw_RX12_131 (C : qCx l g X b RX12 d) {d' : Nat} (hd' : d' < d) {rest : List Value} {P : Option Int → qMem → Prop} (hok : qOk l g d' yX12_readsHead cX12_readsHead 1 (some .boolean) [qR g 35 0] M P) (hd : decode b pc = .ok (.invokevirtual 131, 3)) (hrest : (rest.map fun v => v.category).sum ≤ 8) (k : ∀ (r : Option Int) (M' : qMem), (∀ z, r = some z → qIn z) → P r M' → qV l g X M' (pc + 3) ls ((r.map qI).toList ++ rest)) : qV l g X M pc ls (qR g 35 0 :: rest) := q_callV C lk_RX12_131 q_im_yX12_readsHead q_se_yX12_readsHead rfl hd' (j := 35) (u := 0) (by decide) rfl rfl hok hd hrest rfl k
theorem lk_RX12_115 : qLk RX12 115 yX12_readsNumber cX12_readsNumber 4 (some .int) 2 := ⟨q_ml_RX12_115, q_in_RX12, q_cd_yX12_readsNumber, ⟨by decide, by decide⟩, by decide +kernel, by decide⟩
theorem cv_RX12_115 (C : qCx l g X b RX12 d) {d' : Nat} (hd' : d' < d) {a1 a2 : Value} {rest : List Value} {z : Int} {M' : qMem} (hok : qOk l g d' yX12_readsNumber cX12_readsNumber 4 (some .int) [qR g 35 0, a1, a2] M (qEv (some z) M')) (hd : decode b pc = .ok (.invokevirtual 115, 3)) (hrest : (rest.map fun v => v.category).sum ≤ 8) (k : qIn z → qV l g X M' (pc + 3) ls (qI z :: rest)) : qV l g X M pc ls (a2 :: a1 :: qR g 35 0 :: rest) := q_callV C lk_RX12_115 q_im_yX12_readsNumber q_se_yX12_readsNumber rfl hd' (j := 35) (u := 0) (by decide) rfl rfl hok hd hrest rfl (q_evI k)
theorem cw_RX12_115 (C : qCx l g X b RX12 d) {d' : Nat} (hd' : d' < d) {a1 a2 : Value} {rest : List Value} {P : Option Int → qMem → Prop} (hok : qOk l g d' yX12_readsNumber cX12_readsNumber 4 (some .int) [qR g 35 0, a1, a2] M P) (hd : decode b pc = .ok (.invokevirtual 115, 3)) (hrest : (rest.map fun v => v.category).sum ≤ 8) (k : ∀ (r : Option Int) (M' : qMem), (∀ z, r = some z → qIn z) → P r M' → qV l g X M' (pc + 3) ls ((r.map qI).toList ++ rest)) : qV l g X M pc ls (a2 :: a1 :: qR g 35 0 :: rest) := q_callV C lk_RX12_115 q_im_yX12_readsNumber q_se_yX12_readsNumber rfl hd' (j := 35) (u := 0) (by decide) rfl rfl hok hd hrest rfl k
theorem lk_RX12_108 : qLk RX12 108 yX12_fails cX12_fails 3 (some .int) 2 := ⟨q_ml_RX12_108, q_in_RX12, q_cd_yX12_fails, ⟨by decide, by decide⟩, by decide +kernel, by decide⟩
theorem cv_RX12_108 (C : qCx l g X b RX12 d) {d' : Nat} (hd' : d' < d) {a1 a2 : Value} {rest : List Value} {z : Int} {M' : qMem} (hok : qOk l g d' yX12_fails cX12_fails 3 (some .int) [qR g 35 0, a1, a2] M (qEv (some z) M')) (hd : decode b pc = .ok (.invokevirtual 108, 3)) (hrest : (rest.map fun v => v.category).sum ≤ 8) (k : qIn z → qV l g X M' (pc + 3) ls (qI z :: rest)) : qV l g X M pc ls (a2 :: a1 :: qR g 35 0 :: rest) := q_callV C lk_RX12_108 q_im_yX12_fails q_se_yX12_fails rfl hd' (j := 35) (u := 0) (by decide) rfl rfl hok hd hrest rfl (q_evI k)
theorem cw_RX12_108 (C : qCx l g X b RX12 d) {d' : Nat} (hd' : d' < d) {a1 a2 : Value} {rest : List Value} {P : Option Int → qMem → Prop} (hok : qOk l g d' yX12_fails cX12_fails 3 (some .int) [qR g 35 0, a1, a2] M P) (hd : decode b pc = .ok (.invokevirtual 108, 3)) (hrest : (rest.map fun v => v.category).sum ≤ 8) (k : ∀ (r : Option Int) (M' : qMem), (∀ z, r = some z → qIn z) → P r M' → qV l g X M' (pc + 3) ls ((r.map qI).toList ++ rest)) : qV l g X M pc ls (a2 :: a1 :: qR g 35 0 :: rest) := q_callV C lk_RX12_108 q_im_yX12_fails q_se_yX12_fails rfl hd' (j := 35) (u := 0) (by decide) rfl rfl hok hd hrest rfl k
theorem lk_RX12_121 : qLk RX12 121 yX12_readsSign cX12_readsSign 2 (some .boolean) 1 := ⟨q_ml_RX12_121, q_in_RX12, q_cd_yX12_readsSign, ⟨by decide, by decide⟩, by decide +kernel, by decide⟩
theorem cv_RX12_121 (C : qCx l g X b RX12 d) {d' : Nat} (hd' : d' < d) {a1 : Value} {rest : List Value} {z : Int} {M' : qMem} (hok : qOk l g d' yX12_readsSign cX12_readsSign 2 (some .boolean) [qR g 35 0, a1] M (qEv (some z) M')) (hd : decode b pc = .ok (.invokevirtual 121, 3)) (hrest : (rest.map fun v => v.category).sum ≤ 8) (k : qIn z → qV l g X M' (pc + 3) ls (qI z :: rest)) : qV l g X M pc ls (a1 :: qR g 35 0 :: rest) := q_callV C lk_RX12_121 q_im_yX12_readsSign q_se_yX12_readsSign rfl hd' (j := 35) (u := 0) (by decide) rfl rfl hok hd hrest rfl (q_evI k)
theorem cw_RX12_121 (C : qCx l g X b RX12 d) {d' : Nat} (hd' : d' < d) {a1 : Value} {rest : List Value} {P : Option Int → qMem → Prop} (hok : qOk l g d' yX12_readsSign cX12_readsSign 2 (some .boolean) [qR g 35 0, a1] M P) (hd : decode b pc = .ok (.invokevirtual 121, 3)) (hrest : (rest.map fun v => v.category).sum ≤ 8) (k : ∀ (r : Option Int) (M' : qMem), (∀ z, r = some z → qIn z) → P r M' → qV l g X M' (pc + 3) ls ((r.map qI).toList ++ rest)) : qV l g X M pc ls (a1 :: qR g 35 0 :: rest) := q_callV C lk_RX12_121 q_im_yX12_readsSign q_se_yX12_readsSign rfl hd' (j := 35) (u := 0) (by decide) rfl rfl hok hd hrest rfl k
theorem lk_RX12_135 : qLk RX12 135 yX12_readsComer cX12_readsComer 2 (some .boolean) 0 := ⟨q_ml_RX12_135, q_in_RX12, q_cd_yX12_readsComer, ⟨by decide, by decide⟩, by decide +kernel, by decide⟩
theorem cv_RX12_135 (C : qCx l g X b RX12 d) {d' : Nat} (hd' : d' < d) {rest : List Value} {z : Int} {M' : qMem} (hok : qOk l g d' yX12_readsComer cX12_readsComer 2 (some .boolean) [qR g 35 0] M (qEv (some z) M')) (hd : decode b pc = .ok (.invokevirtual 135, 3)) (hrest : (rest.map fun v => v.category).sum ≤ 8) (k : qIn z → qV l g X M' (pc + 3) ls (qI z :: rest)) : qV l g X M pc ls (qR g 35 0 :: rest) := q_callV C lk_RX12_135 q_im_yX12_readsComer q_se_yX12_readsComer rfl hd' (j := 35) (u := 0) (by decide) rfl rfl hok hd hrest rfl (q_evI k)
theorem cw_RX12_135 (C : qCx l g X b RX12 d) {d' : Nat} (hd' : d' < d) {rest : List Value} {P : Option Int → qMem → Prop} (hok : qOk l g d' yX12_readsComer cX12_readsComer 2 (some .boolean) [qR g 35 0] M P) (hd : decode b pc = .ok (.invokevirtual 135, 3)) (hrest : (rest.map fun v => v.category).sum ≤ 8) (k : ∀ (r : Option Int) (M' : qMem), (∀ z, r = some z → qIn z) → P r M' → qV l g X M' (pc + 3) ls ((r.map qI).toList ++ rest)) : qV l g X M pc ls (qR g 35 0 :: rest) := q_callV C lk_RX12_135 q_im_yX12_readsComer q_se_yX12_readsComer rfl hd' (j := 35) (u := 0) (by decide) rfl rfl hok hd hrest rfl k
theorem lk_RX12_138 : qLk RX12 138 yX12_readsHouse cX12_readsHouse 4 (some .boolean) 0 := ⟨q_ml_RX12_138, q_in_RX12, q_cd_yX12_readsHouse, ⟨by decide, by decide⟩, by decide +kernel, by decide⟩
theorem cv_RX12_138 (C : qCx l g X b RX12 d) {d' : Nat} (hd' : d' < d) {rest : List Value} {z : Int} {M' : qMem} (hok : qOk l g d' yX12_readsHouse cX12_readsHouse 4 (some .boolean) [qR g 35 0] M (qEv (some z) M')) (hd : decode b pc = .ok (.invokevirtual 138, 3)) (hrest : (rest.map fun v => v.category).sum ≤ 8) (k : qIn z → qV l g X M' (pc + 3) ls (qI z :: rest)) : qV l g X M pc ls (qR g 35 0 :: rest) := q_callV C lk_RX12_138 q_im_yX12_readsHouse q_se_yX12_readsHouse rfl hd' (j := 35) (u := 0) (by decide) rfl rfl hok hd hrest rfl (q_evI k)
theorem cw_RX12_138 (C : qCx l g X b RX12 d) {d' : Nat} (hd' : d' < d) {rest : List Value} {P : Option Int → qMem → Prop} (hok : qOk l g d' yX12_readsHouse cX12_readsHouse 4 (some .boolean) [qR g 35 0] M P) (hd : decode b pc = .ok (.invokevirtual 138, 3)) (hrest : (rest.map fun v => v.category).sum ≤ 8) (k : ∀ (r : Option Int) (M' : qMem), (∀ z, r = some z → qIn z) → P r M' → qV l g X M' (pc + 3) ls ((r.map qI).toList ++ rest)) : qV l g X M pc ls (qR g 35 0 :: rest) := q_callV C lk_RX12_138 q_im_yX12_readsHouse q_se_yX12_readsHouse rfl hd' (j := 35) (u := 0) (by decide) rfl rfl hok hd hrest rfl k
theorem lk_RL_26 : qLk RL 26 yX12_fault cX12_fault 1 (some .int) 0 := ⟨q_ml_RL_26, q_in_RX12, q_cd_yX12_fault, ⟨by decide, by decide⟩, by decide +kernel, by decide⟩
theorem cv_RL_26 (C : qCx l g X b RL d) {d' : Nat} (hd' : d' < d) {rest : List Value} {z : Int} {M' : qMem} (hok : qOk l g d' yX12_fault cX12_fault 1 (some .int) [qR g 35 0] M (qEv (some z) M')) (hd : decode b pc = .ok (.invokevirtual 26, 3)) (hrest : (rest.map fun v => v.category).sum ≤ 8) (k : qIn z → qV l g X M' (pc + 3) ls (qI z :: rest)) : qV l g X M pc ls (qR g 35 0 :: rest) := q_callV C lk_RL_26 q_im_yX12_fault q_se_yX12_fault rfl hd' (j := 35) (u := 0) (by decide) rfl rfl hok hd hrest rfl (q_evI k)
theorem cw_RL_26 (C : qCx l g X b RL d) {d' : Nat} (hd' : d' < d) {rest : List Value} {P : Option Int → qMem → Prop} (hok : qOk l g d' yX12_fault cX12_fault 1 (some .int) [qR g 35 0] M P) (hd : decode b pc = .ok (.invokevirtual 26, 3)) (hrest : (rest.map fun v => v.category).sum ≤ 8) (k : ∀ (r : Option Int) (M' : qMem), (∀ z, r = some z → qIn z) → P r M' → qV l g X M' (pc + 3) ls ((r.map qI).toList ++ rest)) : qV l g X M pc ls (qR g 35 0 :: rest) := q_callV C lk_RL_26 q_im_yX12_fault q_se_yX12_fault rfl hd' (j := 35) (u := 0) (by decide) rfl rfl hok hd hrest rfl k
theorem lk_RL_30 : qLk RL 30 yX12_told cX12_told 2 (some .int) 1 := ⟨q_ml_RL_30, q_in_RX12, q_cd_yX12_told, ⟨by decide, by decide⟩, by decide +kernel, by decide⟩
theorem cv_RL_30 (C : qCx l g X b RL d) {d' : Nat} (hd' : d' < d) {a1 : Value} {rest : List Value} {z : Int} {M' : qMem} (hok : qOk l g d' yX12_told cX12_told 2 (some .int) [qR g 35 0, a1] M (qEv (some z) M')) (hd : decode b pc = .ok (.invokevirtual 30, 3)) (hrest : (rest.map fun v => v.category).sum ≤ 8) (k : qIn z → qV l g X M' (pc + 3) ls (qI z :: rest)) : qV l g X M pc ls (a1 :: qR g 35 0 :: rest) := q_callV C lk_RL_30 q_im_yX12_told q_se_yX12_told rfl hd' (j := 35) (u := 0) (by decide) rfl rfl hok hd hrest rfl (q_evI k)
theorem cw_RL_30 (C : qCx l g X b RL d) {d' : Nat} (hd' : d' < d) {a1 : Value} {rest : List Value} {P : Option Int → qMem → Prop} (hok : qOk l g d' yX12_told cX12_told 2 (some .int) [qR g 35 0, a1] M P) (hd : decode b pc = .ok (.invokevirtual 30, 3)) (hrest : (rest.map fun v => v.category).sum ≤ 8) (k : ∀ (r : Option Int) (M' : qMem), (∀ z, r = some z → qIn z) → P r M' → qV l g X M' (pc + 3) ls ((r.map qI).toList ++ rest)) : qV l g X M pc ls (a1 :: qR g 35 0 :: rest) := q_callV C lk_RL_30 q_im_yX12_told q_se_yX12_told rfl hd' (j := 35) (u := 0) (by decide) rfl rfl hok hd hrest rfl k
theorem lk_RX12_192 : qLk RX12 192 yX12_callsOfAll cX12_callsOfAll 3 (some .int) 0 := ⟨q_ml_RX12_192, q_in_RX12, q_cd_yX12_callsOfAll, ⟨by decide, by decide⟩, by decide +kernel, by decide⟩
theorem cv_RX12_192 (C : qCx l g X b RX12 d) {d' : Nat} (hd' : d' < d) {rest : List Value} {z : Int} {M' : qMem} (hok : qOk l g d' yX12_callsOfAll cX12_callsOfAll 3 (some .int) [qR g 35 0] M (qEv (some z) M')) (hd : decode b pc = .ok (.invokevirtual 192, 3)) (hrest : (rest.map fun v => v.category).sum ≤ 8) (k : qIn z → qV l g X M' (pc + 3) ls (qI z :: rest)) : qV l g X M pc ls (qR g 35 0 :: rest) := q_callV C lk_RX12_192 q_im_yX12_callsOfAll q_se_yX12_callsOfAll rfl hd' (j := 35) (u := 0) (by decide) rfl rfl hok hd hrest rfl (q_evI k)
theorem cw_RX12_192 (C : qCx l g X b RX12 d) {d' : Nat} (hd' : d' < d) {rest : List Value} {P : Option Int → qMem → Prop} (hok : qOk l g d' yX12_callsOfAll cX12_callsOfAll 3 (some .int) [qR g 35 0] M P) (hd : decode b pc = .ok (.invokevirtual 192, 3)) (hrest : (rest.map fun v => v.category).sum ≤ 8) (k : ∀ (r : Option Int) (M' : qMem), (∀ z, r = some z → qIn z) → P r M' → qV l g X M' (pc + 3) ls ((r.map qI).toList ++ rest)) : qV l g X M pc ls (qR g 35 0 :: rest) := q_callV C lk_RX12_192 q_im_yX12_callsOfAll q_se_yX12_callsOfAll rfl hd' (j := 35) (u := 0) (by decide) rfl rfl hok hd hrest rfl k
theorem lk_RX12_186 : qLk RX12 186 yX12_callsAt cX12_callsAt 4 (some .int) 1 := ⟨q_ml_RX12_186, q_in_RX12, q_cd_yX12_callsAt, ⟨by decide, by decide⟩, by decide +kernel, by decide⟩
theorem cv_RX12_186 (C : qCx l g X b RX12 d) {d' : Nat} (hd' : d' < d) {a1 : Value} {rest : List Value} {z : Int} {M' : qMem} (hok : qOk l g d' yX12_callsAt cX12_callsAt 4 (some .int) [qR g 35 0, a1] M (qEv (some z) M')) (hd : decode b pc = .ok (.invokevirtual 186, 3)) (hrest : (rest.map fun v => v.category).sum ≤ 8) (k : qIn z → qV l g X M' (pc + 3) ls (qI z :: rest)) : qV l g X M pc ls (a1 :: qR g 35 0 :: rest) := q_callV C lk_RX12_186 q_im_yX12_callsAt q_se_yX12_callsAt rfl hd' (j := 35) (u := 0) (by decide) rfl rfl hok hd hrest rfl (q_evI k)
theorem cw_RX12_186 (C : qCx l g X b RX12 d) {d' : Nat} (hd' : d' < d) {a1 : Value} {rest : List Value} {P : Option Int → qMem → Prop} (hok : qOk l g d' yX12_callsAt cX12_callsAt 4 (some .int) [qR g 35 0, a1] M P) (hd : decode b pc = .ok (.invokevirtual 186, 3)) (hrest : (rest.map fun v => v.category).sum ≤ 8) (k : ∀ (r : Option Int) (M' : qMem), (∀ z, r = some z → qIn z) → P r M' → qV l g X M' (pc + 3) ls ((r.map qI).toList ++ rest)) : qV l g X M pc ls (a1 :: qR g 35 0 :: rest) := q_callV C lk_RX12_186 q_im_yX12_callsAt q_se_yX12_callsAt rfl hd' (j := 35) (u := 0) (by decide) rfl rfl hok hd hrest rfl k
theorem lk_RX12_195 : qLk RX12 195 yX12_welcome cX12_welcome 4 (some .int) 0 := ⟨q_ml_RX12_195, q_in_RX12, q_cd_yX12_welcome, ⟨by decide, by decide⟩, by decide +kernel, by decide⟩
theorem cv_RX12_195 (C : qCx l g X b RX12 d) {d' : Nat} (hd' : d' < d) {rest : List Value} {z : Int} {M' : qMem} (hok : qOk l g d' yX12_welcome cX12_welcome 4 (some .int) [qR g 35 0] M (qEv (some z) M')) (hd : decode b pc = .ok (.invokevirtual 195, 3)) (hrest : (rest.map fun v => v.category).sum ≤ 8) (k : qIn z → qV l g X M' (pc + 3) ls (qI z :: rest)) : qV l g X M pc ls (qR g 35 0 :: rest) := q_callV C lk_RX12_195 q_im_yX12_welcome q_se_yX12_welcome rfl hd' (j := 35) (u := 0) (by decide) rfl rfl hok hd hrest rfl (q_evI k)
theorem cw_RX12_195 (C : qCx l g X b RX12 d) {d' : Nat} (hd' : d' < d) {rest : List Value} {P : Option Int → qMem → Prop} (hok : qOk l g d' yX12_welcome cX12_welcome 4 (some .int) [qR g 35 0] M P) (hd : decode b pc = .ok (.invokevirtual 195, 3)) (hrest : (rest.map fun v => v.category).sum ≤ 8) (k : ∀ (r : Option Int) (M' : qMem), (∀ z, r = some z → qIn z) → P r M' → qV l g X M' (pc + 3) ls ((r.map qI).toList ++ rest)) : qV l g X M pc ls (qR g 35 0 :: rest) := q_callV C lk_RX12_195 q_im_yX12_welcome q_se_yX12_welcome rfl hd' (j := 35) (u := 0) (by decide) rfl rfl hok hd hrest rfl k
theorem lk_RX12_198 : qLk RX12 198 yX12_coldest cX12_coldest 3 (some .int) 0 := ⟨q_ml_RX12_198, q_in_RX12, q_cd_yX12_coldest, ⟨by decide, by decide⟩, by decide +kernel, by decide⟩
theorem cv_RX12_198 (C : qCx l g X b RX12 d) {d' : Nat} (hd' : d' < d) {rest : List Value} {z : Int} {M' : qMem} (hok : qOk l g d' yX12_coldest cX12_coldest 3 (some .int) [qR g 35 0] M (qEv (some z) M')) (hd : decode b pc = .ok (.invokevirtual 198, 3)) (hrest : (rest.map fun v => v.category).sum ≤ 8) (k : qIn z → qV l g X M' (pc + 3) ls (qI z :: rest)) : qV l g X M pc ls (qR g 35 0 :: rest) := q_callV C lk_RX12_198 q_im_yX12_coldest q_se_yX12_coldest rfl hd' (j := 35) (u := 0) (by decide) rfl rfl hok hd hrest rfl (q_evI k)
theorem cw_RX12_198 (C : qCx l g X b RX12 d) {d' : Nat} (hd' : d' < d) {rest : List Value} {P : Option Int → qMem → Prop} (hok : qOk l g d' yX12_coldest cX12_coldest 3 (some .int) [qR g 35 0] M P) (hd : decode b pc = .ok (.invokevirtual 198, 3)) (hrest : (rest.map fun v => v.category).sum ≤ 8) (k : ∀ (r : Option Int) (M' : qMem), (∀ z, r = some z → qIn z) → P r M' → qV l g X M' (pc + 3) ls ((r.map qI).toList ++ rest)) : qV l g X M pc ls (qR g 35 0 :: rest) := q_callV C lk_RX12_198 q_im_yX12_coldest q_se_yX12_coldest rfl hd' (j := 35) (u := 0) (by decide) rfl rfl hok hd hrest rfl k
theorem lk_RX12_201 : qLk RX12 201 yX12_saidMany cX12_saidMany 3 (some .int) 0 := ⟨q_ml_RX12_201, q_in_RX12, q_cd_yX12_saidMany, ⟨by decide, by decide⟩, by decide +kernel, by decide⟩
theorem cv_RX12_201 (C : qCx l g X b RX12 d) {d' : Nat} (hd' : d' < d) {rest : List Value} {z : Int} {M' : qMem} (hok : qOk l g d' yX12_saidMany cX12_saidMany 3 (some .int) [qR g 35 0] M (qEv (some z) M')) (hd : decode b pc = .ok (.invokevirtual 201, 3)) (hrest : (rest.map fun v => v.category).sum ≤ 8) (k : qIn z → qV l g X M' (pc + 3) ls (qI z :: rest)) : qV l g X M pc ls (qR g 35 0 :: rest) := q_callV C lk_RX12_201 q_im_yX12_saidMany q_se_yX12_saidMany rfl hd' (j := 35) (u := 0) (by decide) rfl rfl hok hd hrest rfl (q_evI k)
theorem cw_RX12_201 (C : qCx l g X b RX12 d) {d' : Nat} (hd' : d' < d) {rest : List Value} {P : Option Int → qMem → Prop} (hok : qOk l g d' yX12_saidMany cX12_saidMany 3 (some .int) [qR g 35 0] M P) (hd : decode b pc = .ok (.invokevirtual 201, 3)) (hrest : (rest.map fun v => v.category).sum ≤ 8) (k : ∀ (r : Option Int) (M' : qMem), (∀ z, r = some z → qIn z) → P r M' → qV l g X M' (pc + 3) ls ((r.map qI).toList ++ rest)) : qV l g X M pc ls (qR g 35 0 :: rest) := q_callV C lk_RX12_201 q_im_yX12_saidMany q_se_yX12_saidMany rfl hd' (j := 35) (u := 0) (by decide) rfl rfl hok hd hrest rfl k
theorem lk_RX12_189 : qLk RX12 189 yX12_isSeason cX12_isSeason 1 (some .boolean) 0 := ⟨q_ml_RX12_189, q_in_RX12, q_cd_yX12_isSeason, ⟨by decide, by decide⟩, by decide +kernel, by decide⟩
theorem cv_RX12_189 (C : qCx l g X b RX12 d) {d' : Nat} (hd' : d' < d) {rest : List Value} {z : Int} {M' : qMem} (hok : qOk l g d' yX12_isSeason cX12_isSeason 1 (some .boolean) [qR g 35 0] M (qEv (some z) M')) (hd : decode b pc = .ok (.invokevirtual 189, 3)) (hrest : (rest.map fun v => v.category).sum ≤ 8) (k : qIn z → qV l g X M' (pc + 3) ls (qI z :: rest)) : qV l g X M pc ls (qR g 35 0 :: rest) := q_callV C lk_RX12_189 q_im_yX12_isSeason q_se_yX12_isSeason rfl hd' (j := 35) (u := 0) (by decide) rfl rfl hok hd hrest rfl (q_evI k)
theorem cw_RX12_189 (C : qCx l g X b RX12 d) {d' : Nat} (hd' : d' < d) {rest : List Value} {P : Option Int → qMem → Prop} (hok : qOk l g d' yX12_isSeason cX12_isSeason 1 (some .boolean) [qR g 35 0] M P) (hd : decode b pc = .ok (.invokevirtual 189, 3)) (hrest : (rest.map fun v => v.category).sum ≤ 8) (k : ∀ (r : Option Int) (M' : qMem), (∀ z, r = some z → qIn z) → P r M' → qV l g X M' (pc + 3) ls ((r.map qI).toList ++ rest)) : qV l g X M pc ls (qR g 35 0 :: rest) := q_callV C lk_RX12_189 q_im_yX12_isSeason q_se_yX12_isSeason rfl hd' (j := 35) (u := 0) (by decide) rfl rfl hok hd hrest rfl k
theorem lk_RX12_175 : qLk RX12 175 yX12_isSaid cX12_isSaid 3 (some .boolean) 1 := ⟨q_ml_RX12_175, q_in_RX12, q_cd_yX12_isSaid, ⟨by decide, by decide⟩, by decide +kernel, by decide⟩
theorem cv_RX12_175 (C : qCx l g X b RX12 d) {d' : Nat} (hd' : d' < d) {a1 : Value} {rest : List Value} {z : Int} {M' : qMem} (hok : qOk l g d' yX12_isSaid cX12_isSaid 3 (some .boolean) [qR g 35 0, a1] M (qEv (some z) M')) (hd : decode b pc = .ok (.invokevirtual 175, 3)) (hrest : (rest.map fun v => v.category).sum ≤ 8) (k : qIn z → qV l g X M' (pc + 3) ls (qI z :: rest)) : qV l g X M pc ls (a1 :: qR g 35 0 :: rest) := q_callV C lk_RX12_175 q_im_yX12_isSaid q_se_yX12_isSaid rfl hd' (j := 35) (u := 0) (by decide) rfl rfl hok hd hrest rfl (q_evI k)
theorem cw_RX12_175 (C : qCx l g X b RX12 d) {d' : Nat} (hd' : d' < d) {a1 : Value} {rest : List Value} {P : Option Int → qMem → Prop} (hok : qOk l g d' yX12_isSaid cX12_isSaid 3 (some .boolean) [qR g 35 0, a1] M P) (hd : decode b pc = .ok (.invokevirtual 175, 3)) (hrest : (rest.map fun v => v.category).sum ≤ 8) (k : ∀ (r : Option Int) (M' : qMem), (∀ z, r = some z → qIn z) → P r M' → qV l g X M' (pc + 3) ls ((r.map qI).toList ++ rest)) : qV l g X M pc ls (a1 :: qR g 35 0 :: rest) := q_callV C lk_RX12_175 q_im_yX12_isSaid q_se_yX12_isSaid rfl hd' (j := 35) (u := 0) (by decide) rfl rfl hok hd hrest rfl k
theorem lk_RX12_168 : qLk RX12 168 yX12_has cX12_has 2 (some .boolean) 2 := ⟨q_ml_RX12_168, q_in_RX12, q_cd_yX12_has, ⟨by decide, by decide⟩, by decide +kernel, by decide⟩
theorem cv_RX12_168 (C : qCx l g X b RX12 d) {d' : Nat} (hd' : d' < d) {a1 a2 : Value} {rest : List Value} {z : Int} {M' : qMem} (hok : qOk l g d' yX12_has cX12_has 2 (some .boolean) [a1, a2] M (qEv (some z) M')) (hd : decode b pc = .ok (.invokestatic 168, 3)) (hrest : (rest.map fun v => v.category).sum ≤ 8) (k : qIn z → qV l g X M' (pc + 3) ls (qI z :: rest)) : qV l g X M pc ls (a2 :: a1 :: rest) := q_callS C lk_RX12_168 q_st_yX12_has rfl hd' hok hd hrest rfl (q_evI k)
theorem cw_RX12_168 (C : qCx l g X b RX12 d) {d' : Nat} (hd' : d' < d) {a1 a2 : Value} {rest : List Value} {P : Option Int → qMem → Prop} (hok : qOk l g d' yX12_has cX12_has 2 (some .boolean) [a1, a2] M P) (hd : decode b pc = .ok (.invokestatic 168, 3)) (hrest : (rest.map fun v => v.category).sum ≤ 8) (k : ∀ (r : Option Int) (M' : qMem), (∀ z, r = some z → qIn z) → P r M' → qV l g X M' (pc + 3) ls ((r.map qI).toList ++ rest)) : qV l g X M pc ls (a2 :: a1 :: rest) := q_callS C lk_RX12_168 q_st_yX12_has rfl hd' hok hd hrest rfl k
theorem lk_RL_35 : qLk RL 35 yX12_comer cX12_comer 3 (some .int) 2 := ⟨q_ml_RL_35, q_in_RX12, q_cd_yX12_comer, ⟨by decide, by decide⟩, by decide +kernel, by decide⟩
theorem cv_RL_35 (C : qCx l g X b RL d) {d' : Nat} (hd' : d' < d) {a1 a2 : Value} {rest : List Value} {z : Int} {M' : qMem} (hok : qOk l g d' yX12_comer cX12_comer 3 (some .int) [qR g 35 0, a1, a2] M (qEv (some z) M')) (hd : decode b pc = .ok (.invokevirtual 35, 3)) (hrest : (rest.map fun v => v.category).sum ≤ 8) (k : qIn z → qV l g X M' (pc + 3) ls (qI z :: rest)) : qV l g X M pc ls (a2 :: a1 :: qR g 35 0 :: rest) := q_callV C lk_RL_35 q_im_yX12_comer q_se_yX12_comer rfl hd' (j := 35) (u := 0) (by decide) rfl rfl hok hd hrest rfl (q_evI k)
theorem cw_RL_35 (C : qCx l g X b RL d) {d' : Nat} (hd' : d' < d) {a1 a2 : Value} {rest : List Value} {P : Option Int → qMem → Prop} (hok : qOk l g d' yX12_comer cX12_comer 3 (some .int) [qR g 35 0, a1, a2] M P) (hd : decode b pc = .ok (.invokevirtual 35, 3)) (hrest : (rest.map fun v => v.category).sum ≤ 8) (k : ∀ (r : Option Int) (M' : qMem), (∀ z, r = some z → qIn z) → P r M' → qV l g X M' (pc + 3) ls ((r.map qI).toList ++ rest)) : qV l g X M pc ls (a2 :: a1 :: qR g 35 0 :: rest) := q_callV C lk_RL_35 q_im_yX12_comer q_se_yX12_comer rfl hd' (j := 35) (u := 0) (by decide) rfl rfl hok hd hrest rfl k
theorem lk_RX12_162 : qLk RX12 162 yX12_isComer cX12_isComer 2 (some .boolean) 1 := ⟨q_ml_RX12_162, q_in_RX12, q_cd_yX12_isComer, ⟨by decide, by decide⟩, by decide +kernel, by decide⟩
theorem cv_RX12_162 (C : qCx l g X b RX12 d) {d' : Nat} (hd' : d' < d) {a1 : Value} {rest : List Value} {z : Int} {M' : qMem} (hok : qOk l g d' yX12_isComer cX12_isComer 2 (some .boolean) [qR g 35 0, a1] M (qEv (some z) M')) (hd : decode b pc = .ok (.invokevirtual 162, 3)) (hrest : (rest.map fun v => v.category).sum ≤ 8) (k : qIn z → qV l g X M' (pc + 3) ls (qI z :: rest)) : qV l g X M pc ls (a1 :: qR g 35 0 :: rest) := q_callV C lk_RX12_162 q_im_yX12_isComer q_se_yX12_isComer rfl hd' (j := 35) (u := 0) (by decide) rfl rfl hok hd hrest rfl (q_evI k)
theorem cw_RX12_162 (C : qCx l g X b RX12 d) {d' : Nat} (hd' : d' < d) {a1 : Value} {rest : List Value} {P : Option Int → qMem → Prop} (hok : qOk l g d' yX12_isComer cX12_isComer 2 (some .boolean) [qR g 35 0, a1] M P) (hd : decode b pc = .ok (.invokevirtual 162, 3)) (hrest : (rest.map fun v => v.category).sum ≤ 8) (k : ∀ (r : Option Int) (M' : qMem), (∀ z, r = some z → qIn z) → P r M' → qV l g X M' (pc + 3) ls ((r.map qI).toList ++ rest)) : qV l g X M pc ls (a1 :: qR g 35 0 :: rest) := q_callV C lk_RX12_162 q_im_yX12_isComer q_se_yX12_isComer rfl hd' (j := 35) (u := 0) (by decide) rfl rfl hok hd hrest rfl k
theorem lk_RX12_215 : qLk RX12 215 yX12_matches cX12_matches 4 none 0 := ⟨q_ml_RX12_215, q_in_RX12, q_cd_yX12_matches, ⟨by decide, by decide⟩, by decide +kernel, by decide⟩
theorem cv_RX12_215 (C : qCx l g X b RX12 d) {d' : Nat} (hd' : d' < d) {rest : List Value} {M' : qMem} (hok : qOk l g d' yX12_matches cX12_matches 4 none [qR g 35 0] M (qEv none M')) (hd : decode b pc = .ok (.invokevirtual 215, 3)) (hrest : (rest.map fun v => v.category).sum ≤ 8) (k : qV l g X M' (pc + 3) ls rest) : qV l g X M pc ls (qR g 35 0 :: rest) := q_callV C lk_RX12_215 q_im_yX12_matches q_se_yX12_matches rfl hd' (j := 35) (u := 0) (by decide) rfl rfl hok hd hrest rfl (q_evV k)
theorem cw_RX12_215 (C : qCx l g X b RX12 d) {d' : Nat} (hd' : d' < d) {rest : List Value} {P : Option Int → qMem → Prop} (hok : qOk l g d' yX12_matches cX12_matches 4 none [qR g 35 0] M P) (hd : decode b pc = .ok (.invokevirtual 215, 3)) (hrest : (rest.map fun v => v.category).sum ≤ 8) (k : ∀ (r : Option Int) (M' : qMem), (∀ z, r = some z → qIn z) → P r M' → qV l g X M' (pc + 3) ls ((r.map qI).toList ++ rest)) : qV l g X M pc ls (qR g 35 0 :: rest) := q_callV C lk_RX12_215 q_im_yX12_matches q_se_yX12_matches rfl hd' (j := 35) (u := 0) (by decide) rfl rfl hok hd hrest rfl k
theorem lk_RX12_207 : qLk RX12 207 yX12_bestHouse cX12_bestHouse 5 (some .int) 1 := ⟨q_ml_RX12_207, q_in_RX12, q_cd_yX12_bestHouse, ⟨by decide, by decide⟩, by decide +kernel, by decide⟩
theorem cv_RX12_207 (C : qCx l g X b RX12 d) {d' : Nat} (hd' : d' < d) {a1 : Value} {rest : List Value} {z : Int} {M' : qMem} (hok : qOk l g d' yX12_bestHouse cX12_bestHouse 5 (some .int) [qR g 35 0, a1] M (qEv (some z) M')) (hd : decode b pc = .ok (.invokevirtual 207, 3)) (hrest : (rest.map fun v => v.category).sum ≤ 8) (k : qIn z → qV l g X M' (pc + 3) ls (qI z :: rest)) : qV l g X M pc ls (a1 :: qR g 35 0 :: rest) := q_callV C lk_RX12_207 q_im_yX12_bestHouse q_se_yX12_bestHouse rfl hd' (j := 35) (u := 0) (by decide) rfl rfl hok hd hrest rfl (q_evI k)
theorem cw_RX12_207 (C : qCx l g X b RX12 d) {d' : Nat} (hd' : d' < d) {a1 : Value} {rest : List Value} {P : Option Int → qMem → Prop} (hok : qOk l g d' yX12_bestHouse cX12_bestHouse 5 (some .int) [qR g 35 0, a1] M P) (hd : decode b pc = .ok (.invokevirtual 207, 3)) (hrest : (rest.map fun v => v.category).sum ≤ 8) (k : ∀ (r : Option Int) (M' : qMem), (∀ z, r = some z → qIn z) → P r M' → qV l g X M' (pc + 3) ls ((r.map qI).toList ++ rest)) : qV l g X M pc ls (a1 :: qR g 35 0 :: rest) := q_callV C lk_RX12_207 q_im_yX12_bestHouse q_se_yX12_bestHouse rfl hd' (j := 35) (u := 0) (by decide) rfl rfl hok hd hrest rfl k
theorem lk_RX12_204 : qLk RX12 204 yX12_suitsOf cX12_suitsOf 6 (some .int) 2 := ⟨q_ml_RX12_204, q_in_RX12, q_cd_yX12_suitsOf, ⟨by decide, by decide⟩, by decide +kernel, by decide⟩
theorem cv_RX12_204 (C : qCx l g X b RX12 d) {d' : Nat} (hd' : d' < d) {a1 a2 : Value} {rest : List Value} {z : Int} {M' : qMem} (hok : qOk l g d' yX12_suitsOf cX12_suitsOf 6 (some .int) [qR g 35 0, a1, a2] M (qEv (some z) M')) (hd : decode b pc = .ok (.invokevirtual 204, 3)) (hrest : (rest.map fun v => v.category).sum ≤ 8) (k : qIn z → qV l g X M' (pc + 3) ls (qI z :: rest)) : qV l g X M pc ls (a2 :: a1 :: qR g 35 0 :: rest) := q_callV C lk_RX12_204 q_im_yX12_suitsOf q_se_yX12_suitsOf rfl hd' (j := 35) (u := 0) (by decide) rfl rfl hok hd hrest rfl (q_evI k)
theorem cw_RX12_204 (C : qCx l g X b RX12 d) {d' : Nat} (hd' : d' < d) {a1 a2 : Value} {rest : List Value} {P : Option Int → qMem → Prop} (hok : qOk l g d' yX12_suitsOf cX12_suitsOf 6 (some .int) [qR g 35 0, a1, a2] M P) (hd : decode b pc = .ok (.invokevirtual 204, 3)) (hrest : (rest.map fun v => v.category).sum ≤ 8) (k : ∀ (r : Option Int) (M' : qMem), (∀ z, r = some z → qIn z) → P r M' → qV l g X M' (pc + 3) ls ((r.map qI).toList ++ rest)) : qV l g X M pc ls (a2 :: a1 :: qR g 35 0 :: rest) := q_callV C lk_RX12_204 q_im_yX12_suitsOf q_se_yX12_suitsOf rfl hd' (j := 35) (u := 0) (by decide) rfl rfl hok hd hrest rfl k
theorem lk_RX12_272 : qLk RX12 272 yX12_isHonest cX12_isHonest 3 (some .boolean) 2 := ⟨q_ml_RX12_272, q_in_RX12, q_cd_yX12_isHonest, ⟨by decide, by decide⟩, by decide +kernel, by decide⟩
theorem cv_RX12_272 (C : qCx l g X b RX12 d) {d' : Nat} (hd' : d' < d) {a1 a2 : Value} {rest : List Value} {z : Int} {M' : qMem} (hok : qOk l g d' yX12_isHonest cX12_isHonest 3 (some .boolean) [qR g 35 0, a1, a2] M (qEv (some z) M')) (hd : decode b pc = .ok (.invokevirtual 272, 3)) (hrest : (rest.map fun v => v.category).sum ≤ 8) (k : qIn z → qV l g X M' (pc + 3) ls (qI z :: rest)) : qV l g X M pc ls (a2 :: a1 :: qR g 35 0 :: rest) := q_callV C lk_RX12_272 q_im_yX12_isHonest q_se_yX12_isHonest rfl hd' (j := 35) (u := 0) (by decide) rfl rfl hok hd hrest rfl (q_evI k)
theorem cw_RX12_272 (C : qCx l g X b RX12 d) {d' : Nat} (hd' : d' < d) {a1 a2 : Value} {rest : List Value} {P : Option Int → qMem → Prop} (hok : qOk l g d' yX12_isHonest cX12_isHonest 3 (some .boolean) [qR g 35 0, a1, a2] M P) (hd : decode b pc = .ok (.invokevirtual 272, 3)) (hrest : (rest.map fun v => v.category).sum ≤ 8) (k : ∀ (r : Option Int) (M' : qMem), (∀ z, r = some z → qIn z) → P r M' → qV l g X M' (pc + 3) ls ((r.map qI).toList ++ rest)) : qV l g X M pc ls (a2 :: a1 :: qR g 35 0 :: rest) := q_callV C lk_RX12_272 q_im_yX12_isHonest q_se_yX12_isHonest rfl hd' (j := 35) (u := 0) (by decide) rfl rfl hok hd hrest rfl k
theorem lk_RX12_172 : qLk RX12 172 yX12_meaning cX12_meaning 1 (some .int) 1 := ⟨q_ml_RX12_172, q_in_RX12, q_cd_yX12_meaning, ⟨by decide, by decide⟩, by decide +kernel, by decide⟩
theorem cv_RX12_172 (C : qCx l g X b RX12 d) {d' : Nat} (hd' : d' < d) {a1 : Value} {rest : List Value} {z : Int} {M' : qMem} (hok : qOk l g d' yX12_meaning cX12_meaning 1 (some .int) [a1] M (qEv (some z) M')) (hd : decode b pc = .ok (.invokestatic 172, 3)) (hrest : (rest.map fun v => v.category).sum ≤ 8) (k : qIn z → qV l g X M' (pc + 3) ls (qI z :: rest)) : qV l g X M pc ls (a1 :: rest) := q_callS C lk_RX12_172 q_st_yX12_meaning rfl hd' hok hd hrest rfl (q_evI k)
theorem cw_RX12_172 (C : qCx l g X b RX12 d) {d' : Nat} (hd' : d' < d) {a1 : Value} {rest : List Value} {P : Option Int → qMem → Prop} (hok : qOk l g d' yX12_meaning cX12_meaning 1 (some .int) [a1] M P) (hd : decode b pc = .ok (.invokestatic 172, 3)) (hrest : (rest.map fun v => v.category).sum ≤ 8) (k : ∀ (r : Option Int) (M' : qMem), (∀ z, r = some z → qIn z) → P r M' → qV l g X M' (pc + 3) ls ((r.map qI).toList ++ rest)) : qV l g X M pc ls (a1 :: rest) := q_callS C lk_RX12_172 q_st_yX12_meaning rfl hd' hok hd hrest rfl k
theorem lk_RX12_182 : qLk RX12 182 yX12_heard cX12_heard 4 (some .int) 3 := ⟨q_ml_RX12_182, q_in_RX12, q_cd_yX12_heard, ⟨by decide, by decide⟩, by decide +kernel, by decide⟩
theorem cv_RX12_182 (C : qCx l g X b RX12 d) {d' : Nat} (hd' : d' < d) {a1 a2 a3 : Value} {rest : List Value} {z : Int} {M' : qMem} (hok : qOk l g d' yX12_heard cX12_heard 4 (some .int) [qR g 35 0, a1, a2, a3] M (qEv (some z) M')) (hd : decode b pc = .ok (.invokevirtual 182, 3)) (hrest : (rest.map fun v => v.category).sum ≤ 8) (k : qIn z → qV l g X M' (pc + 3) ls (qI z :: rest)) : qV l g X M pc ls (a3 :: a2 :: a1 :: qR g 35 0 :: rest) := q_callV C lk_RX12_182 q_im_yX12_heard q_se_yX12_heard rfl hd' (j := 35) (u := 0) (by decide) rfl rfl hok hd hrest rfl (q_evI k)
theorem cw_RX12_182 (C : qCx l g X b RX12 d) {d' : Nat} (hd' : d' < d) {a1 a2 a3 : Value} {rest : List Value} {P : Option Int → qMem → Prop} (hok : qOk l g d' yX12_heard cX12_heard 4 (some .int) [qR g 35 0, a1, a2, a3] M P) (hd : decode b pc = .ok (.invokevirtual 182, 3)) (hrest : (rest.map fun v => v.category).sum ≤ 8) (k : ∀ (r : Option Int) (M' : qMem), (∀ z, r = some z → qIn z) → P r M' → qV l g X M' (pc + 3) ls ((r.map qI).toList ++ rest)) : qV l g X M pc ls (a3 :: a2 :: a1 :: qR g 35 0 :: rest) := q_callV C lk_RX12_182 q_im_yX12_heard q_se_yX12_heard rfl hd' (j := 35) (u := 0) (by decide) rfl rfl hok hd hrest rfl k
theorem lk_RX12_178 : qLk RX12 178 yX12_hears cX12_hears 7 (some .int) 4 := ⟨q_ml_RX12_178, q_in_RX12, q_cd_yX12_hears, ⟨by decide, by decide⟩, by decide +kernel, by decide⟩
theorem cv_RX12_178 (C : qCx l g X b RX12 d) {d' : Nat} (hd' : d' < d) {a1 a2 a3 a4 : Value} {rest : List Value} {z : Int} {M' : qMem} (hok : qOk l g d' yX12_hears cX12_hears 7 (some .int) [qR g 35 0, a1, a2, a3, a4] M (qEv (some z) M')) (hd : decode b pc = .ok (.invokevirtual 178, 3)) (hrest : (rest.map fun v => v.category).sum ≤ 8) (k : qIn z → qV l g X M' (pc + 3) ls (qI z :: rest)) : qV l g X M pc ls (a4 :: a3 :: a2 :: a1 :: qR g 35 0 :: rest) := q_callV C lk_RX12_178 q_im_yX12_hears q_se_yX12_hears rfl hd' (j := 35) (u := 0) (by decide) rfl rfl hok hd hrest rfl (q_evI k)
theorem cw_RX12_178 (C : qCx l g X b RX12 d) {d' : Nat} (hd' : d' < d) {a1 a2 a3 a4 : Value} {rest : List Value} {P : Option Int → qMem → Prop} (hok : qOk l g d' yX12_hears cX12_hears 7 (some .int) [qR g 35 0, a1, a2, a3, a4] M P) (hd : decode b pc = .ok (.invokevirtual 178, 3)) (hrest : (rest.map fun v => v.category).sum ≤ 8) (k : ∀ (r : Option Int) (M' : qMem), (∀ z, r = some z → qIn z) → P r M' → qV l g X M' (pc + 3) ls ((r.map qI).toList ++ rest)) : qV l g X M pc ls (a4 :: a3 :: a2 :: a1 :: qR g 35 0 :: rest) := q_callV C lk_RX12_178 q_im_yX12_hears q_se_yX12_hears rfl hd' (j := 35) (u := 0) (by decide) rfl rfl hok hd hrest rfl k
theorem lk_RX12_210 : qLk RX12 210 yX12_asks cX12_asks 5 none 2 := ⟨q_ml_RX12_210, q_in_RX12, q_cd_yX12_asks, ⟨by decide, by decide⟩, by decide +kernel, by decide⟩
theorem cv_RX12_210 (C : qCx l g X b RX12 d) {d' : Nat} (hd' : d' < d) {a1 a2 : Value} {rest : List Value} {M' : qMem} (hok : qOk l g d' yX12_asks cX12_asks 5 none [qR g 35 0, a1, a2] M (qEv none M')) (hd : decode b pc = .ok (.invokevirtual 210, 3)) (hrest : (rest.map fun v => v.category).sum ≤ 8) (k : qV l g X M' (pc + 3) ls rest) : qV l g X M pc ls (a2 :: a1 :: qR g 35 0 :: rest) := q_callV C lk_RX12_210 q_im_yX12_asks q_se_yX12_asks rfl hd' (j := 35) (u := 0) (by decide) rfl rfl hok hd hrest rfl (q_evV k)
theorem cw_RX12_210 (C : qCx l g X b RX12 d) {d' : Nat} (hd' : d' < d) {a1 a2 : Value} {rest : List Value} {P : Option Int → qMem → Prop} (hok : qOk l g d' yX12_asks cX12_asks 5 none [qR g 35 0, a1, a2] M P) (hd : decode b pc = .ok (.invokevirtual 210, 3)) (hrest : (rest.map fun v => v.category).sum ≤ 8) (k : ∀ (r : Option Int) (M' : qMem), (∀ z, r = some z → qIn z) → P r M' → qV l g X M' (pc + 3) ls ((r.map qI).toList ++ rest)) : qV l g X M pc ls (a2 :: a1 :: qR g 35 0 :: rest) := q_callV C lk_RX12_210 q_im_yX12_asks q_se_yX12_asks rfl hd' (j := 35) (u := 0) (by decide) rfl rfl hok hd hrest rfl k
theorem lk_RL_39 : qLk RL 39 yX12_house cX12_house 3 (some .int) 2 := ⟨q_ml_RL_39, q_in_RX12, q_cd_yX12_house, ⟨by decide, by decide⟩, by decide +kernel, by decide⟩
theorem cv_RL_39 (C : qCx l g X b RL d) {d' : Nat} (hd' : d' < d) {a1 a2 : Value} {rest : List Value} {z : Int} {M' : qMem} (hok : qOk l g d' yX12_house cX12_house 3 (some .int) [qR g 35 0, a1, a2] M (qEv (some z) M')) (hd : decode b pc = .ok (.invokevirtual 39, 3)) (hrest : (rest.map fun v => v.category).sum ≤ 8) (k : qIn z → qV l g X M' (pc + 3) ls (qI z :: rest)) : qV l g X M pc ls (a2 :: a1 :: qR g 35 0 :: rest) := q_callV C lk_RL_39 q_im_yX12_house q_se_yX12_house rfl hd' (j := 35) (u := 0) (by decide) rfl rfl hok hd hrest rfl (q_evI k)
theorem cw_RL_39 (C : qCx l g X b RL d) {d' : Nat} (hd' : d' < d) {a1 a2 : Value} {rest : List Value} {P : Option Int → qMem → Prop} (hok : qOk l g d' yX12_house cX12_house 3 (some .int) [qR g 35 0, a1, a2] M P) (hd : decode b pc = .ok (.invokevirtual 39, 3)) (hrest : (rest.map fun v => v.category).sum ≤ 8) (k : ∀ (r : Option Int) (M' : qMem), (∀ z, r = some z → qIn z) → P r M' → qV l g X M' (pc + 3) ls ((r.map qI).toList ++ rest)) : qV l g X M pc ls (a2 :: a1 :: qR g 35 0 :: rest) := q_callV C lk_RL_39 q_im_yX12_house q_se_yX12_house rfl hd' (j := 35) (u := 0) (by decide) rfl rfl hok hd hrest rfl k
theorem lk_RX12_165 : qLk RX12 165 yX12_isHouse cX12_isHouse 2 (some .boolean) 1 := ⟨q_ml_RX12_165, q_in_RX12, q_cd_yX12_isHouse, ⟨by decide, by decide⟩, by decide +kernel, by decide⟩
theorem cv_RX12_165 (C : qCx l g X b RX12 d) {d' : Nat} (hd' : d' < d) {a1 : Value} {rest : List Value} {z : Int} {M' : qMem} (hok : qOk l g d' yX12_isHouse cX12_isHouse 2 (some .boolean) [qR g 35 0, a1] M (qEv (some z) M')) (hd : decode b pc = .ok (.invokevirtual 165, 3)) (hrest : (rest.map fun v => v.category).sum ≤ 8) (k : qIn z → qV l g X M' (pc + 3) ls (qI z :: rest)) : qV l g X M pc ls (a1 :: qR g 35 0 :: rest) := q_callV C lk_RX12_165 q_im_yX12_isHouse q_se_yX12_isHouse rfl hd' (j := 35) (u := 0) (by decide) rfl rfl hok hd hrest rfl (q_evI k)
theorem cw_RX12_165 (C : qCx l g X b RX12 d) {d' : Nat} (hd' : d' < d) {a1 : Value} {rest : List Value} {P : Option Int → qMem → Prop} (hok : qOk l g d' yX12_isHouse cX12_isHouse 2 (some .boolean) [qR g 35 0, a1] M P) (hd : decode b pc = .ok (.invokevirtual 165, 3)) (hrest : (rest.map fun v => v.category).sum ≤ 8) (k : ∀ (r : Option Int) (M' : qMem), (∀ z, r = some z → qIn z) → P r M' → qV l g X M' (pc + 3) ls ((r.map qI).toList ++ rest)) : qV l g X M pc ls (a1 :: qR g 35 0 :: rest) := q_callV C lk_RX12_165 q_im_yX12_isHouse q_se_yX12_isHouse rfl hd' (j := 35) (u := 0) (by decide) rfl rfl hok hd hrest rfl k
theorem lk_RL_43 : qLk RL 43 yX12_prize cX12_prize 3 (some .int) 2 := ⟨q_ml_RL_43, q_in_RX12, q_cd_yX12_prize, ⟨by decide, by decide⟩, by decide +kernel, by decide⟩
theorem cv_RL_43 (C : qCx l g X b RL d) {d' : Nat} (hd' : d' < d) {a1 a2 : Value} {rest : List Value} {z : Int} {M' : qMem} (hok : qOk l g d' yX12_prize cX12_prize 3 (some .int) [qR g 35 0, a1, a2] M (qEv (some z) M')) (hd : decode b pc = .ok (.invokevirtual 43, 3)) (hrest : (rest.map fun v => v.category).sum ≤ 8) (k : qIn z → qV l g X M' (pc + 3) ls (qI z :: rest)) : qV l g X M pc ls (a2 :: a1 :: qR g 35 0 :: rest) := q_callV C lk_RL_43 q_im_yX12_prize q_se_yX12_prize rfl hd' (j := 35) (u := 0) (by decide) rfl rfl hok hd hrest rfl (q_evI k)
theorem cw_RL_43 (C : qCx l g X b RL d) {d' : Nat} (hd' : d' < d) {a1 a2 : Value} {rest : List Value} {P : Option Int → qMem → Prop} (hok : qOk l g d' yX12_prize cX12_prize 3 (some .int) [qR g 35 0, a1, a2] M P) (hd : decode b pc = .ok (.invokevirtual 43, 3)) (hrest : (rest.map fun v => v.category).sum ≤ 8) (k : ∀ (r : Option Int) (M' : qMem), (∀ z, r = some z → qIn z) → P r M' → qV l g X M' (pc + 3) ls ((r.map qI).toList ++ rest)) : qV l g X M pc ls (a2 :: a1 :: qR g 35 0 :: rest) := q_callV C lk_RL_43 q_im_yX12_prize q_se_yX12_prize rfl hd' (j := 35) (u := 0) (by decide) rfl rfl hok hd hrest rfl k
theorem lk_RL_47 : qLk RL 47 yX12_calls cX12_calls 3 (some .int) 2 := ⟨q_ml_RL_47, q_in_RX12, q_cd_yX12_calls, ⟨by decide, by decide⟩, by decide +kernel, by decide⟩
theorem cv_RL_47 (C : qCx l g X b RL d) {d' : Nat} (hd' : d' < d) {a1 a2 : Value} {rest : List Value} {z : Int} {M' : qMem} (hok : qOk l g d' yX12_calls cX12_calls 3 (some .int) [qR g 35 0, a1, a2] M (qEv (some z) M')) (hd : decode b pc = .ok (.invokevirtual 47, 3)) (hrest : (rest.map fun v => v.category).sum ≤ 8) (k : qIn z → qV l g X M' (pc + 3) ls (qI z :: rest)) : qV l g X M pc ls (a2 :: a1 :: qR g 35 0 :: rest) := q_callV C lk_RL_47 q_im_yX12_calls q_se_yX12_calls rfl hd' (j := 35) (u := 0) (by decide) rfl rfl hok hd hrest rfl (q_evI k)
theorem cw_RL_47 (C : qCx l g X b RL d) {d' : Nat} (hd' : d' < d) {a1 a2 : Value} {rest : List Value} {P : Option Int → qMem → Prop} (hok : qOk l g d' yX12_calls cX12_calls 3 (some .int) [qR g 35 0, a1, a2] M P) (hd : decode b pc = .ok (.invokevirtual 47, 3)) (hrest : (rest.map fun v => v.category).sum ≤ 8) (k : ∀ (r : Option Int) (M' : qMem), (∀ z, r = some z → qIn z) → P r M' → qV l g X M' (pc + 3) ls ((r.map qI).toList ++ rest)) : qV l g X M pc ls (a2 :: a1 :: qR g 35 0 :: rest) := q_callV C lk_RL_47 q_im_yX12_calls q_se_yX12_calls rfl hd' (j := 35) (u := 0) (by decide) rfl rfl hok hd hrest rfl k
theorem lk_RX12_218 : qLk RX12 218 yX12_areBoth cX12_areBoth 3 (some .boolean) 2 := ⟨q_ml_RX12_218, q_in_RX12, q_cd_yX12_areBoth, ⟨by decide, by decide⟩, by decide +kernel, by decide⟩
theorem cv_RX12_218 (C : qCx l g X b RX12 d) {d' : Nat} (hd' : d' < d) {a1 a2 : Value} {rest : List Value} {z : Int} {M' : qMem} (hok : qOk l g d' yX12_areBoth cX12_areBoth 3 (some .boolean) [qR g 35 0, a1, a2] M (qEv (some z) M')) (hd : decode b pc = .ok (.invokevirtual 218, 3)) (hrest : (rest.map fun v => v.category).sum ≤ 8) (k : qIn z → qV l g X M' (pc + 3) ls (qI z :: rest)) : qV l g X M pc ls (a2 :: a1 :: qR g 35 0 :: rest) := q_callV C lk_RX12_218 q_im_yX12_areBoth q_se_yX12_areBoth rfl hd' (j := 35) (u := 0) (by decide) rfl rfl hok hd hrest rfl (q_evI k)
theorem cw_RX12_218 (C : qCx l g X b RX12 d) {d' : Nat} (hd' : d' < d) {a1 a2 : Value} {rest : List Value} {P : Option Int → qMem → Prop} (hok : qOk l g d' yX12_areBoth cX12_areBoth 3 (some .boolean) [qR g 35 0, a1, a2] M P) (hd : decode b pc = .ok (.invokevirtual 218, 3)) (hrest : (rest.map fun v => v.category).sum ≤ 8) (k : ∀ (r : Option Int) (M' : qMem), (∀ z, r = some z → qIn z) → P r M' → qV l g X M' (pc + 3) ls ((r.map qI).toList ++ rest)) : qV l g X M pc ls (a2 :: a1 :: qR g 35 0 :: rest) := q_callV C lk_RX12_218 q_im_yX12_areBoth q_se_yX12_areBoth rfl hd' (j := 35) (u := 0) (by decide) rfl rfl hok hd hrest rfl k
theorem lk_RL_51 : qLk RL 51 yX12_sign cX12_sign 3 (some .int) 2 := ⟨q_ml_RL_51, q_in_RX12, q_cd_yX12_sign, ⟨by decide, by decide⟩, by decide +kernel, by decide⟩
theorem cv_RL_51 (C : qCx l g X b RL d) {d' : Nat} (hd' : d' < d) {a1 a2 : Value} {rest : List Value} {z : Int} {M' : qMem} (hok : qOk l g d' yX12_sign cX12_sign 3 (some .int) [qR g 35 0, a1, a2] M (qEv (some z) M')) (hd : decode b pc = .ok (.invokevirtual 51, 3)) (hrest : (rest.map fun v => v.category).sum ≤ 8) (k : qIn z → qV l g X M' (pc + 3) ls (qI z :: rest)) : qV l g X M pc ls (a2 :: a1 :: qR g 35 0 :: rest) := q_callV C lk_RL_51 q_im_yX12_sign q_se_yX12_sign rfl hd' (j := 35) (u := 0) (by decide) rfl rfl hok hd hrest rfl (q_evI k)
theorem cw_RL_51 (C : qCx l g X b RL d) {d' : Nat} (hd' : d' < d) {a1 a2 : Value} {rest : List Value} {P : Option Int → qMem → Prop} (hok : qOk l g d' yX12_sign cX12_sign 3 (some .int) [qR g 35 0, a1, a2] M P) (hd : decode b pc = .ok (.invokevirtual 51, 3)) (hrest : (rest.map fun v => v.category).sum ≤ 8) (k : ∀ (r : Option Int) (M' : qMem), (∀ z, r = some z → qIn z) → P r M' → qV l g X M' (pc + 3) ls ((r.map qI).toList ++ rest)) : qV l g X M pc ls (a2 :: a1 :: qR g 35 0 :: rest) := q_callV C lk_RL_51 q_im_yX12_sign q_se_yX12_sign rfl hd' (j := 35) (u := 0) (by decide) rfl rfl hok hd hrest rfl k
theorem lk_RX12_221 : qLk RX12 221 yX12_isSign cX12_isSign 1 (some .boolean) 1 := ⟨q_ml_RX12_221, q_in_RX12, q_cd_yX12_isSign, ⟨by decide, by decide⟩, by decide +kernel, by decide⟩
theorem cv_RX12_221 (C : qCx l g X b RX12 d) {d' : Nat} (hd' : d' < d) {a1 : Value} {rest : List Value} {z : Int} {M' : qMem} (hok : qOk l g d' yX12_isSign cX12_isSign 1 (some .boolean) [a1] M (qEv (some z) M')) (hd : decode b pc = .ok (.invokestatic 221, 3)) (hrest : (rest.map fun v => v.category).sum ≤ 8) (k : qIn z → qV l g X M' (pc + 3) ls (qI z :: rest)) : qV l g X M pc ls (a1 :: rest) := q_callS C lk_RX12_221 q_st_yX12_isSign rfl hd' hok hd hrest rfl (q_evI k)
theorem cw_RX12_221 (C : qCx l g X b RX12 d) {d' : Nat} (hd' : d' < d) {a1 : Value} {rest : List Value} {P : Option Int → qMem → Prop} (hok : qOk l g d' yX12_isSign cX12_isSign 1 (some .boolean) [a1] M P) (hd : decode b pc = .ok (.invokestatic 221, 3)) (hrest : (rest.map fun v => v.category).sum ≤ 8) (k : ∀ (r : Option Int) (M' : qMem), (∀ z, r = some z → qIn z) → P r M' → qV l g X M' (pc + 3) ls ((r.map qI).toList ++ rest)) : qV l g X M pc ls (a1 :: rest) := q_callS C lk_RX12_221 q_st_yX12_isSign rfl hd' hok hd hrest rfl k
theorem lk_RL_55 : qLk RL 55 yX12_logged cX12_logged 3 (some .int) 2 := ⟨q_ml_RL_55, q_in_RX12, q_cd_yX12_logged, ⟨by decide, by decide⟩, by decide +kernel, by decide⟩
theorem cv_RL_55 (C : qCx l g X b RL d) {d' : Nat} (hd' : d' < d) {a1 a2 : Value} {rest : List Value} {z : Int} {M' : qMem} (hok : qOk l g d' yX12_logged cX12_logged 3 (some .int) [qR g 35 0, a1, a2] M (qEv (some z) M')) (hd : decode b pc = .ok (.invokevirtual 55, 3)) (hrest : (rest.map fun v => v.category).sum ≤ 8) (k : qIn z → qV l g X M' (pc + 3) ls (qI z :: rest)) : qV l g X M pc ls (a2 :: a1 :: qR g 35 0 :: rest) := q_callV C lk_RL_55 q_im_yX12_logged q_se_yX12_logged rfl hd' (j := 35) (u := 0) (by decide) rfl rfl hok hd hrest rfl (q_evI k)
theorem cw_RL_55 (C : qCx l g X b RL d) {d' : Nat} (hd' : d' < d) {a1 a2 : Value} {rest : List Value} {P : Option Int → qMem → Prop} (hok : qOk l g d' yX12_logged cX12_logged 3 (some .int) [qR g 35 0, a1, a2] M P) (hd : decode b pc = .ok (.invokevirtual 55, 3)) (hrest : (rest.map fun v => v.category).sum ≤ 8) (k : ∀ (r : Option Int) (M' : qMem), (∀ z, r = some z → qIn z) → P r M' → qV l g X M' (pc + 3) ls ((r.map qI).toList ++ rest)) : qV l g X M pc ls (a2 :: a1 :: qR g 35 0 :: rest) := q_callV C lk_RL_55 q_im_yX12_logged q_se_yX12_logged rfl hd' (j := 35) (u := 0) (by decide) rfl rfl hok hd hrest rfl k
theorem lk_RL_60 : qLk RL 60 yX12_visit cX12_visit 4 (some .int) 3 := ⟨q_ml_RL_60, q_in_RX12, q_cd_yX12_visit, ⟨by decide, by decide⟩, by decide +kernel, by decide⟩
theorem cv_RL_60 (C : qCx l g X b RL d) {d' : Nat} (hd' : d' < d) {a1 a2 a3 : Value} {rest : List Value} {z : Int} {M' : qMem} (hok : qOk l g d' yX12_visit cX12_visit 4 (some .int) [qR g 35 0, a1, a2, a3] M (qEv (some z) M')) (hd : decode b pc = .ok (.invokevirtual 60, 3)) (hrest : (rest.map fun v => v.category).sum ≤ 8) (k : qIn z → qV l g X M' (pc + 3) ls (qI z :: rest)) : qV l g X M pc ls (a3 :: a2 :: a1 :: qR g 35 0 :: rest) := q_callV C lk_RL_60 q_im_yX12_visit q_se_yX12_visit rfl hd' (j := 35) (u := 0) (by decide) rfl rfl hok hd hrest rfl (q_evI k)
theorem cw_RL_60 (C : qCx l g X b RL d) {d' : Nat} (hd' : d' < d) {a1 a2 a3 : Value} {rest : List Value} {P : Option Int → qMem → Prop} (hok : qOk l g d' yX12_visit cX12_visit 4 (some .int) [qR g 35 0, a1, a2, a3] M P) (hd : decode b pc = .ok (.invokevirtual 60, 3)) (hrest : (rest.map fun v => v.category).sum ≤ 8) (k : ∀ (r : Option Int) (M' : qMem), (∀ z, r = some z → qIn z) → P r M' → qV l g X M' (pc + 3) ls ((r.map qI).toList ++ rest)) : qV l g X M pc ls (a3 :: a2 :: a1 :: qR g 35 0 :: rest) := q_callV C lk_RL_60 q_im_yX12_visit q_se_yX12_visit rfl hd' (j := 35) (u := 0) (by decide) rfl rfl hok hd hrest rfl k
theorem lk_RX12_235 : qLk RX12 235 yX12_remember cX12_remember 2 none 0 := ⟨q_ml_RX12_235, q_in_RX12, q_cd_yX12_remember, ⟨by decide, by decide⟩, by decide +kernel, by decide⟩
theorem cv_RX12_235 (C : qCx l g X b RX12 d) {d' : Nat} (hd' : d' < d) {rest : List Value} {M' : qMem} (hok : qOk l g d' yX12_remember cX12_remember 2 none [qR g 35 0] M (qEv none M')) (hd : decode b pc = .ok (.invokevirtual 235, 3)) (hrest : (rest.map fun v => v.category).sum ≤ 8) (k : qV l g X M' (pc + 3) ls rest) : qV l g X M pc ls (qR g 35 0 :: rest) := q_callV C lk_RX12_235 q_im_yX12_remember q_se_yX12_remember rfl hd' (j := 35) (u := 0) (by decide) rfl rfl hok hd hrest rfl (q_evV k)
theorem cw_RX12_235 (C : qCx l g X b RX12 d) {d' : Nat} (hd' : d' < d) {rest : List Value} {P : Option Int → qMem → Prop} (hok : qOk l g d' yX12_remember cX12_remember 2 none [qR g 35 0] M P) (hd : decode b pc = .ok (.invokevirtual 235, 3)) (hrest : (rest.map fun v => v.category).sum ≤ 8) (k : ∀ (r : Option Int) (M' : qMem), (∀ z, r = some z → qIn z) → P r M' → qV l g X M' (pc + 3) ls ((r.map qI).toList ++ rest)) : qV l g X M pc ls (qR g 35 0 :: rest) := q_callV C lk_RX12_235 q_im_yX12_remember q_se_yX12_remember rfl hd' (j := 35) (u := 0) (by decide) rfl rfl hok hd hrest rfl k
theorem lk_RX12_238 : qLk RX12 238 yX12_visits cX12_visits 6 (some .int) 3 := ⟨q_ml_RX12_238, q_in_RX12, q_cd_yX12_visits, ⟨by decide, by decide⟩, by decide +kernel, by decide⟩
theorem cv_RX12_238 (C : qCx l g X b RX12 d) {d' : Nat} (hd' : d' < d) {a1 a2 a3 : Value} {rest : List Value} {z : Int} {M' : qMem} (hok : qOk l g d' yX12_visits cX12_visits 6 (some .int) [qR g 35 0, a1, a2, a3] M (qEv (some z) M')) (hd : decode b pc = .ok (.invokevirtual 238, 3)) (hrest : (rest.map fun v => v.category).sum ≤ 8) (k : qIn z → qV l g X M' (pc + 3) ls (qI z :: rest)) : qV l g X M pc ls (a3 :: a2 :: a1 :: qR g 35 0 :: rest) := q_callV C lk_RX12_238 q_im_yX12_visits q_se_yX12_visits rfl hd' (j := 35) (u := 0) (by decide) rfl rfl hok hd hrest rfl (q_evI k)
theorem cw_RX12_238 (C : qCx l g X b RX12 d) {d' : Nat} (hd' : d' < d) {a1 a2 a3 : Value} {rest : List Value} {P : Option Int → qMem → Prop} (hok : qOk l g d' yX12_visits cX12_visits 6 (some .int) [qR g 35 0, a1, a2, a3] M P) (hd : decode b pc = .ok (.invokevirtual 238, 3)) (hrest : (rest.map fun v => v.category).sum ≤ 8) (k : ∀ (r : Option Int) (M' : qMem), (∀ z, r = some z → qIn z) → P r M' → qV l g X M' (pc + 3) ls ((r.map qI).toList ++ rest)) : qV l g X M pc ls (a3 :: a2 :: a1 :: qR g 35 0 :: rest) := q_callV C lk_RX12_238 q_im_yX12_visits q_se_yX12_visits rfl hd' (j := 35) (u := 0) (by decide) rfl rfl hok hd hrest rfl k
theorem lk_RX12_228 : qLk RX12 228 yX12_answer cX12_answer 5 (some .int) 3 := ⟨q_ml_RX12_228, q_in_RX12, q_cd_yX12_answer, ⟨by decide, by decide⟩, by decide +kernel, by decide⟩
theorem cv_RX12_228 (C : qCx l g X b RX12 d) {d' : Nat} (hd' : d' < d) {a1 a2 a3 : Value} {rest : List Value} {z : Int} {M' : qMem} (hok : qOk l g d' yX12_answer cX12_answer 5 (some .int) [qR g 35 0, a1, a2, a3] M (qEv (some z) M')) (hd : decode b pc = .ok (.invokevirtual 228, 3)) (hrest : (rest.map fun v => v.category).sum ≤ 8) (k : qIn z → qV l g X M' (pc + 3) ls (qI z :: rest)) : qV l g X M pc ls (a3 :: a2 :: a1 :: qR g 35 0 :: rest) := q_callV C lk_RX12_228 q_im_yX12_answer q_se_yX12_answer rfl hd' (j := 35) (u := 0) (by decide) rfl rfl hok hd hrest rfl (q_evI k)
theorem cw_RX12_228 (C : qCx l g X b RX12 d) {d' : Nat} (hd' : d' < d) {a1 a2 a3 : Value} {rest : List Value} {P : Option Int → qMem → Prop} (hok : qOk l g d' yX12_answer cX12_answer 5 (some .int) [qR g 35 0, a1, a2, a3] M P) (hd : decode b pc = .ok (.invokevirtual 228, 3)) (hrest : (rest.map fun v => v.category).sum ≤ 8) (k : ∀ (r : Option Int) (M' : qMem), (∀ z, r = some z → qIn z) → P r M' → qV l g X M' (pc + 3) ls ((r.map qI).toList ++ rest)) : qV l g X M pc ls (a3 :: a2 :: a1 :: qR g 35 0 :: rest) := q_callV C lk_RX12_228 q_im_yX12_answer q_se_yX12_answer rfl hd' (j := 35) (u := 0) (by decide) rfl rfl hok hd hrest rfl k
theorem lk_RX12_231 : qLk RX12 231 yX12_enters cX12_enters 6 none 4 := ⟨q_ml_RX12_231, q_in_RX12, q_cd_yX12_enters, ⟨by decide, by decide⟩, by decide +kernel, by decide⟩
theorem cv_RX12_231 (C : qCx l g X b RX12 d) {d' : Nat} (hd' : d' < d) {a1 a2 a3 a4 : Value} {rest : List Value} {M' : qMem} (hok : qOk l g d' yX12_enters cX12_enters 6 none [qR g 35 0, a1, a2, a3, a4] M (qEv none M')) (hd : decode b pc = .ok (.invokevirtual 231, 3)) (hrest : (rest.map fun v => v.category).sum ≤ 8) (k : qV l g X M' (pc + 3) ls rest) : qV l g X M pc ls (a4 :: a3 :: a2 :: a1 :: qR g 35 0 :: rest) := q_callV C lk_RX12_231 q_im_yX12_enters q_se_yX12_enters rfl hd' (j := 35) (u := 0) (by decide) rfl rfl hok hd hrest rfl (q_evV k)
theorem cw_RX12_231 (C : qCx l g X b RX12 d) {d' : Nat} (hd' : d' < d) {a1 a2 a3 a4 : Value} {rest : List Value} {P : Option Int → qMem → Prop} (hok : qOk l g d' yX12_enters cX12_enters 6 none [qR g 35 0, a1, a2, a3, a4] M P) (hd : decode b pc = .ok (.invokevirtual 231, 3)) (hrest : (rest.map fun v => v.category).sum ≤ 8) (k : ∀ (r : Option Int) (M' : qMem), (∀ z, r = some z → qIn z) → P r M' → qV l g X M' (pc + 3) ls ((r.map qI).toList ++ rest)) : qV l g X M pc ls (a4 :: a3 :: a2 :: a1 :: qR g 35 0 :: rest) := q_callV C lk_RX12_231 q_im_yX12_enters q_se_yX12_enters rfl hd' (j := 35) (u := 0) (by decide) rfl rfl hok hd hrest rfl k
theorem lk_RL_64 : qLk RL 64 yX12_day cX12_day 4 (some .int) 1 := ⟨q_ml_RL_64, q_in_RX12, q_cd_yX12_day, ⟨by decide, by decide⟩, by decide +kernel, by decide⟩
theorem cv_RL_64 (C : qCx l g X b RL d) {d' : Nat} (hd' : d' < d) {a1 : Value} {rest : List Value} {z : Int} {M' : qMem} (hok : qOk l g d' yX12_day cX12_day 4 (some .int) [qR g 35 0, a1] M (qEv (some z) M')) (hd : decode b pc = .ok (.invokevirtual 64, 3)) (hrest : (rest.map fun v => v.category).sum ≤ 8) (k : qIn z → qV l g X M' (pc + 3) ls (qI z :: rest)) : qV l g X M pc ls (a1 :: qR g 35 0 :: rest) := q_callV C lk_RL_64 q_im_yX12_day q_se_yX12_day rfl hd' (j := 35) (u := 0) (by decide) rfl rfl hok hd hrest rfl (q_evI k)
theorem cw_RL_64 (C : qCx l g X b RL d) {d' : Nat} (hd' : d' < d) {a1 : Value} {rest : List Value} {P : Option Int → qMem → Prop} (hok : qOk l g d' yX12_day cX12_day 4 (some .int) [qR g 35 0, a1] M P) (hd : decode b pc = .ok (.invokevirtual 64, 3)) (hrest : (rest.map fun v => v.category).sum ≤ 8) (k : ∀ (r : Option Int) (M' : qMem), (∀ z, r = some z → qIn z) → P r M' → qV l g X M' (pc + 3) ls ((r.map qI).toList ++ rest)) : qV l g X M pc ls (a1 :: qR g 35 0 :: rest) := q_callV C lk_RL_64 q_im_yX12_day q_se_yX12_day rfl hd' (j := 35) (u := 0) (by decide) rfl rfl hok hd hrest rfl k
theorem lk_RX12_242 : qLk RX12 242 yX12_needDays cX12_needDays 2 (some .int) 1 := ⟨q_ml_RX12_242, q_in_RX12, q_cd_yX12_needDays, ⟨by decide, by decide⟩, by decide +kernel, by decide⟩
theorem cv_RX12_242 (C : qCx l g X b RX12 d) {d' : Nat} (hd' : d' < d) {a1 : Value} {rest : List Value} {z : Int} {M' : qMem} (hok : qOk l g d' yX12_needDays cX12_needDays 2 (some .int) [qR g 35 0, a1] M (qEv (some z) M')) (hd : decode b pc = .ok (.invokevirtual 242, 3)) (hrest : (rest.map fun v => v.category).sum ≤ 8) (k : qIn z → qV l g X M' (pc + 3) ls (qI z :: rest)) : qV l g X M pc ls (a1 :: qR g 35 0 :: rest) := q_callV C lk_RX12_242 q_im_yX12_needDays q_se_yX12_needDays rfl hd' (j := 35) (u := 0) (by decide) rfl rfl hok hd hrest rfl (q_evI k)
theorem cw_RX12_242 (C : qCx l g X b RX12 d) {d' : Nat} (hd' : d' < d) {a1 : Value} {rest : List Value} {P : Option Int → qMem → Prop} (hok : qOk l g d' yX12_needDays cX12_needDays 2 (some .int) [qR g 35 0, a1] M P) (hd : decode b pc = .ok (.invokevirtual 242, 3)) (hrest : (rest.map fun v => v.category).sum ≤ 8) (k : ∀ (r : Option Int) (M' : qMem), (∀ z, r = some z → qIn z) → P r M' → qV l g X M' (pc + 3) ls ((r.map qI).toList ++ rest)) : qV l g X M pc ls (a1 :: qR g 35 0 :: rest) := q_callV C lk_RX12_242 q_im_yX12_needDays q_se_yX12_needDays rfl hd' (j := 35) (u := 0) (by decide) rfl rfl hok hd hrest rfl k
theorem lk_RX12_245 : qLk RX12 245 yX12_days cX12_days 3 none 0 := ⟨q_ml_RX12_245, q_in_RX12, q_cd_yX12_days, ⟨by decide, by decide⟩, by decide +kernel, by decide⟩
theorem cv_RX12_245 (C : qCx l g X b RX12 d) {d' : Nat} (hd' : d' < d) {rest : List Value} {M' : qMem} (hok : qOk l g d' yX12_days cX12_days 3 none [qR g 35 0] M (qEv none M')) (hd : decode b pc = .ok (.invokevirtual 245, 3)) (hrest : (rest.map fun v => v.category).sum ≤ 8) (k : qV l g X M' (pc + 3) ls rest) : qV l g X M pc ls (qR g 35 0 :: rest) := q_callV C lk_RX12_245 q_im_yX12_days q_se_yX12_days rfl hd' (j := 35) (u := 0) (by decide) rfl rfl hok hd hrest rfl (q_evV k)
theorem cw_RX12_245 (C : qCx l g X b RX12 d) {d' : Nat} (hd' : d' < d) {rest : List Value} {P : Option Int → qMem → Prop} (hok : qOk l g d' yX12_days cX12_days 3 none [qR g 35 0] M P) (hd : decode b pc = .ok (.invokevirtual 245, 3)) (hrest : (rest.map fun v => v.category).sum ≤ 8) (k : ∀ (r : Option Int) (M' : qMem), (∀ z, r = some z → qIn z) → P r M' → qV l g X M' (pc + 3) ls ((r.map qI).toList ++ rest)) : qV l g X M pc ls (qR g 35 0 :: rest) := q_callV C lk_RX12_245 q_im_yX12_days q_se_yX12_days rfl hd' (j := 35) (u := 0) (by decide) rfl rfl hok hd hrest rfl k
theorem lk_RL_68 : qLk RL 68 yX12_mean cX12_mean 3 (some .int) 2 := ⟨q_ml_RL_68, q_in_RX12, q_cd_yX12_mean, ⟨by decide, by decide⟩, by decide +kernel, by decide⟩
theorem cv_RL_68 (C : qCx l g X b RL d) {d' : Nat} (hd' : d' < d) {a1 a2 : Value} {rest : List Value} {z : Int} {M' : qMem} (hok : qOk l g d' yX12_mean cX12_mean 3 (some .int) [qR g 35 0, a1, a2] M (qEv (some z) M')) (hd : decode b pc = .ok (.invokevirtual 68, 3)) (hrest : (rest.map fun v => v.category).sum ≤ 8) (k : qIn z → qV l g X M' (pc + 3) ls (qI z :: rest)) : qV l g X M pc ls (a2 :: a1 :: qR g 35 0 :: rest) := q_callV C lk_RL_68 q_im_yX12_mean q_se_yX12_mean rfl hd' (j := 35) (u := 0) (by decide) rfl rfl hok hd hrest rfl (q_evI k)
theorem cw_RL_68 (C : qCx l g X b RL d) {d' : Nat} (hd' : d' < d) {a1 a2 : Value} {rest : List Value} {P : Option Int → qMem → Prop} (hok : qOk l g d' yX12_mean cX12_mean 3 (some .int) [qR g 35 0, a1, a2] M P) (hd : decode b pc = .ok (.invokevirtual 68, 3)) (hrest : (rest.map fun v => v.category).sum ≤ 8) (k : ∀ (r : Option Int) (M' : qMem), (∀ z, r = some z → qIn z) → P r M' → qV l g X M' (pc + 3) ls ((r.map qI).toList ++ rest)) : qV l g X M pc ls (a2 :: a1 :: qR g 35 0 :: rest) := q_callV C lk_RL_68 q_im_yX12_mean q_se_yX12_mean rfl hd' (j := 35) (u := 0) (by decide) rfl rfl hok hd hrest rfl k
theorem lk_RX12_248 : qLk RX12 248 yX12_becomes cX12_becomes 4 (some .int) 2 := ⟨q_ml_RX12_248, q_in_RX12, q_cd_yX12_becomes, ⟨by decide, by decide⟩, by decide +kernel, by decide⟩
theorem cv_RX12_248 (C : qCx l g X b RX12 d) {d' : Nat} (hd' : d' < d) {a1 a2 : Value} {rest : List Value} {z : Int} {M' : qMem} (hok : qOk l g d' yX12_becomes cX12_becomes 4 (some .int) [qR g 35 0, a1, a2] M (qEv (some z) M')) (hd : decode b pc = .ok (.invokevirtual 248, 3)) (hrest : (rest.map fun v => v.category).sum ≤ 8) (k : qIn z → qV l g X M' (pc + 3) ls (qI z :: rest)) : qV l g X M pc ls (a2 :: a1 :: qR g 35 0 :: rest) := q_callV C lk_RX12_248 q_im_yX12_becomes q_se_yX12_becomes rfl hd' (j := 35) (u := 0) (by decide) rfl rfl hok hd hrest rfl (q_evI k)
theorem cw_RX12_248 (C : qCx l g X b RX12 d) {d' : Nat} (hd' : d' < d) {a1 a2 : Value} {rest : List Value} {P : Option Int → qMem → Prop} (hok : qOk l g d' yX12_becomes cX12_becomes 4 (some .int) [qR g 35 0, a1, a2] M P) (hd : decode b pc = .ok (.invokevirtual 248, 3)) (hrest : (rest.map fun v => v.category).sum ≤ 8) (k : ∀ (r : Option Int) (M' : qMem), (∀ z, r = some z → qIn z) → P r M' → qV l g X M' (pc + 3) ls ((r.map qI).toList ++ rest)) : qV l g X M pc ls (a2 :: a1 :: qR g 35 0 :: rest) := q_callV C lk_RX12_248 q_im_yX12_becomes q_se_yX12_becomes rfl hd' (j := 35) (u := 0) (by decide) rfl rfl hok hd hrest rfl k
theorem lk_RL_72 : qLk RL 72 yX12_stuff cX12_stuff 3 (some .int) 2 := ⟨q_ml_RL_72, q_in_RX12, q_cd_yX12_stuff, ⟨by decide, by decide⟩, by decide +kernel, by decide⟩
theorem cv_RL_72 (C : qCx l g X b RL d) {d' : Nat} (hd' : d' < d) {a1 a2 : Value} {rest : List Value} {z : Int} {M' : qMem} (hok : qOk l g d' yX12_stuff cX12_stuff 3 (some .int) [qR g 35 0, a1, a2] M (qEv (some z) M')) (hd : decode b pc = .ok (.invokevirtual 72, 3)) (hrest : (rest.map fun v => v.category).sum ≤ 8) (k : qIn z → qV l g X M' (pc + 3) ls (qI z :: rest)) : qV l g X M pc ls (a2 :: a1 :: qR g 35 0 :: rest) := q_callV C lk_RL_72 q_im_yX12_stuff q_se_yX12_stuff rfl hd' (j := 35) (u := 0) (by decide) rfl rfl hok hd hrest rfl (q_evI k)
theorem cw_RL_72 (C : qCx l g X b RL d) {d' : Nat} (hd' : d' < d) {a1 a2 : Value} {rest : List Value} {P : Option Int → qMem → Prop} (hok : qOk l g d' yX12_stuff cX12_stuff 3 (some .int) [qR g 35 0, a1, a2] M P) (hd : decode b pc = .ok (.invokevirtual 72, 3)) (hrest : (rest.map fun v => v.category).sum ≤ 8) (k : ∀ (r : Option Int) (M' : qMem), (∀ z, r = some z → qIn z) → P r M' → qV l g X M' (pc + 3) ls ((r.map qI).toList ++ rest)) : qV l g X M pc ls (a2 :: a1 :: qR g 35 0 :: rest) := q_callV C lk_RL_72 q_im_yX12_stuff q_se_yX12_stuff rfl hd' (j := 35) (u := 0) (by decide) rfl rfl hok hd hrest rfl k
theorem lk_RL_76 : qLk RL 76 yX12_pardon cX12_pardon 4 (some .int) 2 := ⟨q_ml_RL_76, q_in_RX12, q_cd_yX12_pardon, ⟨by decide, by decide⟩, by decide +kernel, by decide⟩
theorem cv_RL_76 (C : qCx l g X b RL d) {d' : Nat} (hd' : d' < d) {a1 a2 : Value} {rest : List Value} {z : Int} {M' : qMem} (hok : qOk l g d' yX12_pardon cX12_pardon 4 (some .int) [qR g 35 0, a1, a2] M (qEv (some z) M')) (hd : decode b pc = .ok (.invokevirtual 76, 3)) (hrest : (rest.map fun v => v.category).sum ≤ 8) (k : qIn z → qV l g X M' (pc + 3) ls (qI z :: rest)) : qV l g X M pc ls (a2 :: a1 :: qR g 35 0 :: rest) := q_callV C lk_RL_76 q_im_yX12_pardon q_se_yX12_pardon rfl hd' (j := 35) (u := 0) (by decide) rfl rfl hok hd hrest rfl (q_evI k)
theorem cw_RL_76 (C : qCx l g X b RL d) {d' : Nat} (hd' : d' < d) {a1 a2 : Value} {rest : List Value} {P : Option Int → qMem → Prop} (hok : qOk l g d' yX12_pardon cX12_pardon 4 (some .int) [qR g 35 0, a1, a2] M P) (hd : decode b pc = .ok (.invokevirtual 76, 3)) (hrest : (rest.map fun v => v.category).sum ≤ 8) (k : ∀ (r : Option Int) (M' : qMem), (∀ z, r = some z → qIn z) → P r M' → qV l g X M' (pc + 3) ls ((r.map qI).toList ++ rest)) : qV l g X M pc ls (a2 :: a1 :: qR g 35 0 :: rest) := q_callV C lk_RL_76 q_im_yX12_pardon q_se_yX12_pardon rfl hd' (j := 35) (u := 0) (by decide) rfl rfl hok hd hrest rfl k
theorem lk_RL_80 : qLk RL 80 yX12_drift cX12_drift 7 (some .int) 1 := ⟨q_ml_RL_80, q_in_RX12, q_cd_yX12_drift, ⟨by decide, by decide⟩, by decide +kernel, by decide⟩
theorem cv_RL_80 (C : qCx l g X b RL d) {d' : Nat} (hd' : d' < d) {a1 : Value} {rest : List Value} {z : Int} {M' : qMem} (hok : qOk l g d' yX12_drift cX12_drift 7 (some .int) [qR g 35 0, a1] M (qEv (some z) M')) (hd : decode b pc = .ok (.invokevirtual 80, 3)) (hrest : (rest.map fun v => v.category).sum ≤ 8) (k : qIn z → qV l g X M' (pc + 3) ls (qI z :: rest)) : qV l g X M pc ls (a1 :: qR g 35 0 :: rest) := q_callV C lk_RL_80 q_im_yX12_drift q_se_yX12_drift rfl hd' (j := 35) (u := 0) (by decide) rfl rfl hok hd hrest rfl (q_evI k)
theorem cw_RL_80 (C : qCx l g X b RL d) {d' : Nat} (hd' : d' < d) {a1 : Value} {rest : List Value} {P : Option Int → qMem → Prop} (hok : qOk l g d' yX12_drift cX12_drift 7 (some .int) [qR g 35 0, a1] M P) (hd : decode b pc = .ok (.invokevirtual 80, 3)) (hrest : (rest.map fun v => v.category).sum ≤ 8) (k : ∀ (r : Option Int) (M' : qMem), (∀ z, r = some z → qIn z) → P r M' → qV l g X M' (pc + 3) ls ((r.map qI).toList ++ rest)) : qV l g X M pc ls (a1 :: qR g 35 0 :: rest) := q_callV C lk_RL_80 q_im_yX12_drift q_se_yX12_drift rfl hd' (j := 35) (u := 0) (by decide) rfl rfl hok hd hrest rfl k
theorem lk_RX12_263 : qLk RX12 263 yX12_draw cX12_draw 2 (some .int) 1 := ⟨q_ml_RX12_263, q_in_RX12, q_cd_yX12_draw, ⟨by decide, by decide⟩, by decide +kernel, by decide⟩
theorem cv_RX12_263 (C : qCx l g X b RX12 d) {d' : Nat} (hd' : d' < d) {a1 : Value} {rest : List Value} {z : Int} {M' : qMem} (hok : qOk l g d' yX12_draw cX12_draw 2 (some .int) [qR g 35 0, a1] M (qEv (some z) M')) (hd : decode b pc = .ok (.invokevirtual 263, 3)) (hrest : (rest.map fun v => v.category).sum ≤ 8) (k : qIn z → qV l g X M' (pc + 3) ls (qI z :: rest)) : qV l g X M pc ls (a1 :: qR g 35 0 :: rest) := q_callV C lk_RX12_263 q_im_yX12_draw q_se_yX12_draw rfl hd' (j := 35) (u := 0) (by decide) rfl rfl hok hd hrest rfl (q_evI k)
theorem cw_RX12_263 (C : qCx l g X b RX12 d) {d' : Nat} (hd' : d' < d) {a1 : Value} {rest : List Value} {P : Option Int → qMem → Prop} (hok : qOk l g d' yX12_draw cX12_draw 2 (some .int) [qR g 35 0, a1] M P) (hd : decode b pc = .ok (.invokevirtual 263, 3)) (hrest : (rest.map fun v => v.category).sum ≤ 8) (k : ∀ (r : Option Int) (M' : qMem), (∀ z, r = some z → qIn z) → P r M' → qV l g X M' (pc + 3) ls ((r.map qI).toList ++ rest)) : qV l g X M pc ls (a1 :: qR g 35 0 :: rest) := q_callV C lk_RX12_263 q_im_yX12_draw q_se_yX12_draw rfl hd' (j := 35) (u := 0) (by decide) rfl rfl hok hd hrest rfl k
theorem lk_RL_84 : qLk RL 84 yX12_undo cX12_undo 3 (some .int) 1 := ⟨q_ml_RL_84, q_in_RX12, q_cd_yX12_undo, ⟨by decide, by decide⟩, by decide +kernel, by decide⟩
theorem cv_RL_84 (C : qCx l g X b RL d) {d' : Nat} (hd' : d' < d) {a1 : Value} {rest : List Value} {z : Int} {M' : qMem} (hok : qOk l g d' yX12_undo cX12_undo 3 (some .int) [qR g 35 0, a1] M (qEv (some z) M')) (hd : decode b pc = .ok (.invokevirtual 84, 3)) (hrest : (rest.map fun v => v.category).sum ≤ 8) (k : qIn z → qV l g X M' (pc + 3) ls (qI z :: rest)) : qV l g X M pc ls (a1 :: qR g 35 0 :: rest) := q_callV C lk_RL_84 q_im_yX12_undo q_se_yX12_undo rfl hd' (j := 35) (u := 0) (by decide) rfl rfl hok hd hrest rfl (q_evI k)
theorem cw_RL_84 (C : qCx l g X b RL d) {d' : Nat} (hd' : d' < d) {a1 : Value} {rest : List Value} {P : Option Int → qMem → Prop} (hok : qOk l g d' yX12_undo cX12_undo 3 (some .int) [qR g 35 0, a1] M P) (hd : decode b pc = .ok (.invokevirtual 84, 3)) (hrest : (rest.map fun v => v.category).sum ≤ 8) (k : ∀ (r : Option Int) (M' : qMem), (∀ z, r = some z → qIn z) → P r M' → qV l g X M' (pc + 3) ls ((r.map qI).toList ++ rest)) : qV l g X M pc ls (a1 :: qR g 35 0 :: rest) := q_callV C lk_RL_84 q_im_yX12_undo q_se_yX12_undo rfl hd' (j := 35) (u := 0) (by decide) rfl rfl hok hd hrest rfl k
theorem lk_RL_89 : qLk RL 89 yX12_says cX12_says 5 (some .int) 4 := ⟨q_ml_RL_89, q_in_RX12, q_cd_yX12_says, ⟨by decide, by decide⟩, by decide +kernel, by decide⟩
theorem cv_RL_89 (C : qCx l g X b RL d) {d' : Nat} (hd' : d' < d) {a1 a2 a3 a4 : Value} {rest : List Value} {z : Int} {M' : qMem} (hok : qOk l g d' yX12_says cX12_says 5 (some .int) [qR g 35 0, a1, a2, a3, a4] M (qEv (some z) M')) (hd : decode b pc = .ok (.invokevirtual 89, 3)) (hrest : (rest.map fun v => v.category).sum ≤ 8) (k : qIn z → qV l g X M' (pc + 3) ls (qI z :: rest)) : qV l g X M pc ls (a4 :: a3 :: a2 :: a1 :: qR g 35 0 :: rest) := q_callV C lk_RL_89 q_im_yX12_says q_se_yX12_says rfl hd' (j := 35) (u := 0) (by decide) rfl rfl hok hd hrest rfl (q_evI k)
theorem cw_RL_89 (C : qCx l g X b RL d) {d' : Nat} (hd' : d' < d) {a1 a2 a3 a4 : Value} {rest : List Value} {P : Option Int → qMem → Prop} (hok : qOk l g d' yX12_says cX12_says 5 (some .int) [qR g 35 0, a1, a2, a3, a4] M P) (hd : decode b pc = .ok (.invokevirtual 89, 3)) (hrest : (rest.map fun v => v.category).sum ≤ 8) (k : ∀ (r : Option Int) (M' : qMem), (∀ z, r = some z → qIn z) → P r M' → qV l g X M' (pc + 3) ls ((r.map qI).toList ++ rest)) : qV l g X M pc ls (a4 :: a3 :: a2 :: a1 :: qR g 35 0 :: rest) := q_callV C lk_RL_89 q_im_yX12_says q_se_yX12_says rfl hd' (j := 35) (u := 0) (by decide) rfl rfl hok hd hrest rfl k
theorem lk_RL_93 : qLk RL 93 yX12_signs cX12_signs 8 (some .int) 3 := ⟨q_ml_RL_93, q_in_RX12, q_cd_yX12_signs, ⟨by decide, by decide⟩, by decide +kernel, by decide⟩
theorem cv_RL_93 (C : qCx l g X b RL d) {d' : Nat} (hd' : d' < d) {a1 a2 a3 : Value} {rest : List Value} {z : Int} {M' : qMem} (hok : qOk l g d' yX12_signs cX12_signs 8 (some .int) [qR g 35 0, a1, a2, a3] M (qEv (some z) M')) (hd : decode b pc = .ok (.invokevirtual 93, 3)) (hrest : (rest.map fun v => v.category).sum ≤ 8) (k : qIn z → qV l g X M' (pc + 3) ls (qI z :: rest)) : qV l g X M pc ls (a3 :: a2 :: a1 :: qR g 35 0 :: rest) := q_callV C lk_RL_93 q_im_yX12_signs q_se_yX12_signs rfl hd' (j := 35) (u := 0) (by decide) rfl rfl hok hd hrest rfl (q_evI k)
theorem cw_RL_93 (C : qCx l g X b RL d) {d' : Nat} (hd' : d' < d) {a1 a2 a3 : Value} {rest : List Value} {P : Option Int → qMem → Prop} (hok : qOk l g d' yX12_signs cX12_signs 8 (some .int) [qR g 35 0, a1, a2, a3] M P) (hd : decode b pc = .ok (.invokevirtual 93, 3)) (hrest : (rest.map fun v => v.category).sum ≤ 8) (k : ∀ (r : Option Int) (M' : qMem), (∀ z, r = some z → qIn z) → P r M' → qV l g X M' (pc + 3) ls ((r.map qI).toList ++ rest)) : qV l g X M pc ls (a3 :: a2 :: a1 :: qR g 35 0 :: rest) := q_callV C lk_RL_93 q_im_yX12_signs q_se_yX12_signs rfl hd' (j := 35) (u := 0) (by decide) rfl rfl hok hd hrest rfl k
theorem lk_RX12_269 : qLk RX12 269 yX12_partsOf cX12_partsOf 1 (some .int) 1 := ⟨q_ml_RX12_269, q_in_RX12, q_cd_yX12_partsOf, ⟨by decide, by decide⟩, by decide +kernel, by decide⟩
theorem cv_RX12_269 (C : qCx l g X b RX12 d) {d' : Nat} (hd' : d' < d) {a1 : Value} {rest : List Value} {z : Int} {M' : qMem} (hok : qOk l g d' yX12_partsOf cX12_partsOf 1 (some .int) [a1] M (qEv (some z) M')) (hd : decode b pc = .ok (.invokestatic 269, 3)) (hrest : (rest.map fun v => v.category).sum ≤ 8) (k : qIn z → qV l g X M' (pc + 3) ls (qI z :: rest)) : qV l g X M pc ls (a1 :: rest) := q_callS C lk_RX12_269 q_st_yX12_partsOf rfl hd' hok hd hrest rfl (q_evI k)
theorem cw_RX12_269 (C : qCx l g X b RX12 d) {d' : Nat} (hd' : d' < d) {a1 : Value} {rest : List Value} {P : Option Int → qMem → Prop} (hok : qOk l g d' yX12_partsOf cX12_partsOf 1 (some .int) [a1] M P) (hd : decode b pc = .ok (.invokestatic 269, 3)) (hrest : (rest.map fun v => v.category).sum ≤ 8) (k : ∀ (r : Option Int) (M' : qMem), (∀ z, r = some z → qIn z) → P r M' → qV l g X M' (pc + 3) ls ((r.map qI).toList ++ rest)) : qV l g X M pc ls (a1 :: rest) := q_callS C lk_RX12_269 q_st_yX12_partsOf rfl hd' hok hd hrest rfl k
theorem lk_RX12_266 : qLk RX12 266 yX12_bits cX12_bits 3 (some .int) 1 := ⟨q_ml_RX12_266, q_in_RX12, q_cd_yX12_bits, ⟨by decide, by decide⟩, by decide +kernel, by decide⟩
theorem cv_RX12_266 (C : qCx l g X b RX12 d) {d' : Nat} (hd' : d' < d) {a1 : Value} {rest : List Value} {z : Int} {M' : qMem} (hok : qOk l g d' yX12_bits cX12_bits 3 (some .int) [a1] M (qEv (some z) M')) (hd : decode b pc = .ok (.invokestatic 266, 3)) (hrest : (rest.map fun v => v.category).sum ≤ 8) (k : qIn z → qV l g X M' (pc + 3) ls (qI z :: rest)) : qV l g X M pc ls (a1 :: rest) := q_callS C lk_RX12_266 q_st_yX12_bits rfl hd' hok hd hrest rfl (q_evI k)
theorem cw_RX12_266 (C : qCx l g X b RX12 d) {d' : Nat} (hd' : d' < d) {a1 : Value} {rest : List Value} {P : Option Int → qMem → Prop} (hok : qOk l g d' yX12_bits cX12_bits 3 (some .int) [a1] M P) (hd : decode b pc = .ok (.invokestatic 266, 3)) (hrest : (rest.map fun v => v.category).sum ≤ 8) (k : ∀ (r : Option Int) (M' : qMem), (∀ z, r = some z → qIn z) → P r M' → qV l g X M' (pc + 3) ls ((r.map qI).toList ++ rest)) : qV l g X M pc ls (a1 :: rest) := q_callS C lk_RX12_266 q_st_yX12_bits rfl hd' hok hd hrest rfl k
theorem lk_RL_97 : qLk RL 97 yX12_gains cX12_gains 3 (some .int) 2 := ⟨q_ml_RL_97, q_in_RX12, q_cd_yX12_gains, ⟨by decide, by decide⟩, by decide +kernel, by decide⟩
theorem cv_RL_97 (C : qCx l g X b RL d) {d' : Nat} (hd' : d' < d) {a1 a2 : Value} {rest : List Value} {z : Int} {M' : qMem} (hok : qOk l g d' yX12_gains cX12_gains 3 (some .int) [qR g 35 0, a1, a2] M (qEv (some z) M')) (hd : decode b pc = .ok (.invokevirtual 97, 3)) (hrest : (rest.map fun v => v.category).sum ≤ 8) (k : qIn z → qV l g X M' (pc + 3) ls (qI z :: rest)) : qV l g X M pc ls (a2 :: a1 :: qR g 35 0 :: rest) := q_callV C lk_RL_97 q_im_yX12_gains q_se_yX12_gains rfl hd' (j := 35) (u := 0) (by decide) rfl rfl hok hd hrest rfl (q_evI k)
theorem cw_RL_97 (C : qCx l g X b RL d) {d' : Nat} (hd' : d' < d) {a1 a2 : Value} {rest : List Value} {P : Option Int → qMem → Prop} (hok : qOk l g d' yX12_gains cX12_gains 3 (some .int) [qR g 35 0, a1, a2] M P) (hd : decode b pc = .ok (.invokevirtual 97, 3)) (hrest : (rest.map fun v => v.category).sum ≤ 8) (k : ∀ (r : Option Int) (M' : qMem), (∀ z, r = some z → qIn z) → P r M' → qV l g X M' (pc + 3) ls ((r.map qI).toList ++ rest)) : qV l g X M pc ls (a2 :: a1 :: qR g 35 0 :: rest) := q_callV C lk_RL_97 q_im_yX12_gains q_se_yX12_gains rfl hd' (j := 35) (u := 0) (by decide) rfl rfl hok hd hrest rfl k
theorem lk_RX12_275 : qLk RX12 275 yX12_mostHeard cX12_mostHeard 7 (some .int) 3 := ⟨q_ml_RX12_275, q_in_RX12, q_cd_yX12_mostHeard, ⟨by decide, by decide⟩, by decide +kernel, by decide⟩
theorem cv_RX12_275 (C : qCx l g X b RX12 d) {d' : Nat} (hd' : d' < d) {a1 a2 a3 : Value} {rest : List Value} {z : Int} {M' : qMem} (hok : qOk l g d' yX12_mostHeard cX12_mostHeard 7 (some .int) [qR g 35 0, a1, a2, a3] M (qEv (some z) M')) (hd : decode b pc = .ok (.invokevirtual 275, 3)) (hrest : (rest.map fun v => v.category).sum ≤ 8) (k : qIn z → qV l g X M' (pc + 3) ls (qI z :: rest)) : qV l g X M pc ls (a3 :: a2 :: a1 :: qR g 35 0 :: rest) := q_callV C lk_RX12_275 q_im_yX12_mostHeard q_se_yX12_mostHeard rfl hd' (j := 35) (u := 0) (by decide) rfl rfl hok hd hrest rfl (q_evI k)
theorem cw_RX12_275 (C : qCx l g X b RX12 d) {d' : Nat} (hd' : d' < d) {a1 a2 a3 : Value} {rest : List Value} {P : Option Int → qMem → Prop} (hok : qOk l g d' yX12_mostHeard cX12_mostHeard 7 (some .int) [qR g 35 0, a1, a2, a3] M P) (hd : decode b pc = .ok (.invokevirtual 275, 3)) (hrest : (rest.map fun v => v.category).sum ≤ 8) (k : ∀ (r : Option Int) (M' : qMem), (∀ z, r = some z → qIn z) → P r M' → qV l g X M' (pc + 3) ls ((r.map qI).toList ++ rest)) : qV l g X M pc ls (a3 :: a2 :: a1 :: qR g 35 0 :: rest) := q_callV C lk_RX12_275 q_im_yX12_mostHeard q_se_yX12_mostHeard rfl hd' (j := 35) (u := 0) (by decide) rfl rfl hok hd hrest rfl k
theorem lk_RL_101 : qLk RL 101 yX12_clear cX12_clear 7 (some .int) 2 := ⟨q_ml_RL_101, q_in_RX12, q_cd_yX12_clear, ⟨by decide, by decide⟩, by decide +kernel, by decide⟩
theorem cv_RL_101 (C : qCx l g X b RL d) {d' : Nat} (hd' : d' < d) {a1 a2 : Value} {rest : List Value} {z : Int} {M' : qMem} (hok : qOk l g d' yX12_clear cX12_clear 7 (some .int) [qR g 35 0, a1, a2] M (qEv (some z) M')) (hd : decode b pc = .ok (.invokevirtual 101, 3)) (hrest : (rest.map fun v => v.category).sum ≤ 8) (k : qIn z → qV l g X M' (pc + 3) ls (qI z :: rest)) : qV l g X M pc ls (a2 :: a1 :: qR g 35 0 :: rest) := q_callV C lk_RL_101 q_im_yX12_clear q_se_yX12_clear rfl hd' (j := 35) (u := 0) (by decide) rfl rfl hok hd hrest rfl (q_evI k)
theorem cw_RL_101 (C : qCx l g X b RL d) {d' : Nat} (hd' : d' < d) {a1 a2 : Value} {rest : List Value} {P : Option Int → qMem → Prop} (hok : qOk l g d' yX12_clear cX12_clear 7 (some .int) [qR g 35 0, a1, a2] M P) (hd : decode b pc = .ok (.invokevirtual 101, 3)) (hrest : (rest.map fun v => v.category).sum ≤ 8) (k : ∀ (r : Option Int) (M' : qMem), (∀ z, r = some z → qIn z) → P r M' → qV l g X M' (pc + 3) ls ((r.map qI).toList ++ rest)) : qV l g X M pc ls (a2 :: a1 :: qR g 35 0 :: rest) := q_callV C lk_RL_101 q_im_yX12_clear q_se_yX12_clear rfl hd' (j := 35) (u := 0) (by decide) rfl rfl hok hd hrest rfl k
theorem lk_RL_105 : qLk RL 105 yX12_letIn cX12_letIn 3 (some .int) 2 := ⟨q_ml_RL_105, q_in_RX12, q_cd_yX12_letIn, ⟨by decide, by decide⟩, by decide +kernel, by decide⟩
theorem cv_RL_105 (C : qCx l g X b RL d) {d' : Nat} (hd' : d' < d) {a1 a2 : Value} {rest : List Value} {z : Int} {M' : qMem} (hok : qOk l g d' yX12_letIn cX12_letIn 3 (some .int) [qR g 35 0, a1, a2] M (qEv (some z) M')) (hd : decode b pc = .ok (.invokevirtual 105, 3)) (hrest : (rest.map fun v => v.category).sum ≤ 8) (k : qIn z → qV l g X M' (pc + 3) ls (qI z :: rest)) : qV l g X M pc ls (a2 :: a1 :: qR g 35 0 :: rest) := q_callV C lk_RL_105 q_im_yX12_letIn q_se_yX12_letIn rfl hd' (j := 35) (u := 0) (by decide) rfl rfl hok hd hrest rfl (q_evI k)
theorem cw_RL_105 (C : qCx l g X b RL d) {d' : Nat} (hd' : d' < d) {a1 a2 : Value} {rest : List Value} {P : Option Int → qMem → Prop} (hok : qOk l g d' yX12_letIn cX12_letIn 3 (some .int) [qR g 35 0, a1, a2] M P) (hd : decode b pc = .ok (.invokevirtual 105, 3)) (hrest : (rest.map fun v => v.category).sum ≤ 8) (k : ∀ (r : Option Int) (M' : qMem), (∀ z, r = some z → qIn z) → P r M' → qV l g X M' (pc + 3) ls ((r.map qI).toList ++ rest)) : qV l g X M pc ls (a2 :: a1 :: qR g 35 0 :: rest) := q_callV C lk_RL_105 q_im_yX12_letIn q_se_yX12_letIn rfl hd' (j := 35) (u := 0) (by decide) rfl rfl hok hd hrest rfl k
theorem lk_RX12_278 : qLk RX12 278 yX12_letInBy cX12_letInBy 5 (some .int) 2 := ⟨q_ml_RX12_278, q_in_RX12, q_cd_yX12_letInBy, ⟨by decide, by decide⟩, by decide +kernel, by decide⟩
theorem cv_RX12_278 (C : qCx l g X b RX12 d) {d' : Nat} (hd' : d' < d) {a1 a2 : Value} {rest : List Value} {z : Int} {M' : qMem} (hok : qOk l g d' yX12_letInBy cX12_letInBy 5 (some .int) [qR g 35 0, a1, a2] M (qEv (some z) M')) (hd : decode b pc = .ok (.invokevirtual 278, 3)) (hrest : (rest.map fun v => v.category).sum ≤ 8) (k : qIn z → qV l g X M' (pc + 3) ls (qI z :: rest)) : qV l g X M pc ls (a2 :: a1 :: qR g 35 0 :: rest) := q_callV C lk_RX12_278 q_im_yX12_letInBy q_se_yX12_letInBy rfl hd' (j := 35) (u := 0) (by decide) rfl rfl hok hd hrest rfl (q_evI k)
theorem cw_RX12_278 (C : qCx l g X b RX12 d) {d' : Nat} (hd' : d' < d) {a1 a2 : Value} {rest : List Value} {P : Option Int → qMem → Prop} (hok : qOk l g d' yX12_letInBy cX12_letInBy 5 (some .int) [qR g 35 0, a1, a2] M P) (hd : decode b pc = .ok (.invokevirtual 278, 3)) (hrest : (rest.map fun v => v.category).sum ≤ 8) (k : ∀ (r : Option Int) (M' : qMem), (∀ z, r = some z → qIn z) → P r M' → qV l g X M' (pc + 3) ls ((r.map qI).toList ++ rest)) : qV l g X M pc ls (a2 :: a1 :: qR g 35 0 :: rest) := q_callV C lk_RX12_278 q_im_yX12_letInBy q_se_yX12_letInBy rfl hd' (j := 35) (u := 0) (by decide) rfl rfl hok hd hrest rfl k
theorem lk_RL_109 : qLk RL 109 yX12_round cX12_round 7 (some .int) 2 := ⟨q_ml_RL_109, q_in_RX12, q_cd_yX12_round, ⟨by decide, by decide⟩, by decide +kernel, by decide⟩
theorem cv_RL_109 (C : qCx l g X b RL d) {d' : Nat} (hd' : d' < d) {a1 a2 : Value} {rest : List Value} {z : Int} {M' : qMem} (hok : qOk l g d' yX12_round cX12_round 7 (some .int) [qR g 35 0, a1, a2] M (qEv (some z) M')) (hd : decode b pc = .ok (.invokevirtual 109, 3)) (hrest : (rest.map fun v => v.category).sum ≤ 8) (k : qIn z → qV l g X M' (pc + 3) ls (qI z :: rest)) : qV l g X M pc ls (a2 :: a1 :: qR g 35 0 :: rest) := q_callV C lk_RL_109 q_im_yX12_round q_se_yX12_round rfl hd' (j := 35) (u := 0) (by decide) rfl rfl hok hd hrest rfl (q_evI k)
theorem cw_RL_109 (C : qCx l g X b RL d) {d' : Nat} (hd' : d' < d) {a1 a2 : Value} {rest : List Value} {P : Option Int → qMem → Prop} (hok : qOk l g d' yX12_round cX12_round 7 (some .int) [qR g 35 0, a1, a2] M P) (hd : decode b pc = .ok (.invokevirtual 109, 3)) (hrest : (rest.map fun v => v.category).sum ≤ 8) (k : ∀ (r : Option Int) (M' : qMem), (∀ z, r = some z → qIn z) → P r M' → qV l g X M' (pc + 3) ls ((r.map qI).toList ++ rest)) : qV l g X M pc ls (a2 :: a1 :: qR g 35 0 :: rest) := q_callV C lk_RL_109 q_im_yX12_round q_se_yX12_round rfl hd' (j := 35) (u := 0) (by decide) rfl rfl hok hd hrest rfl k
theorem lk_RL_113 : qLk RL 113 yX12_suits cX12_suits 3 (some .int) 2 := ⟨q_ml_RL_113, q_in_RX12, q_cd_yX12_suits, ⟨by decide, by decide⟩, by decide +kernel, by decide⟩
theorem cv_RL_113 (C : qCx l g X b RL d) {d' : Nat} (hd' : d' < d) {a1 a2 : Value} {rest : List Value} {z : Int} {M' : qMem} (hok : qOk l g d' yX12_suits cX12_suits 3 (some .int) [qR g 35 0, a1, a2] M (qEv (some z) M')) (hd : decode b pc = .ok (.invokevirtual 113, 3)) (hrest : (rest.map fun v => v.category).sum ≤ 8) (k : qIn z → qV l g X M' (pc + 3) ls (qI z :: rest)) : qV l g X M pc ls (a2 :: a1 :: qR g 35 0 :: rest) := q_callV C lk_RL_113 q_im_yX12_suits q_se_yX12_suits rfl hd' (j := 35) (u := 0) (by decide) rfl rfl hok hd hrest rfl (q_evI k)
theorem cw_RL_113 (C : qCx l g X b RL d) {d' : Nat} (hd' : d' < d) {a1 a2 : Value} {rest : List Value} {P : Option Int → qMem → Prop} (hok : qOk l g d' yX12_suits cX12_suits 3 (some .int) [qR g 35 0, a1, a2] M P) (hd : decode b pc = .ok (.invokevirtual 113, 3)) (hrest : (rest.map fun v => v.category).sum ≤ 8) (k : ∀ (r : Option Int) (M' : qMem), (∀ z, r = some z → qIn z) → P r M' → qV l g X M' (pc + 3) ls ((r.map qI).toList ++ rest)) : qV l g X M pc ls (a2 :: a1 :: qR g 35 0 :: rest) := q_callV C lk_RL_113 q_im_yX12_suits q_se_yX12_suits rfl hd' (j := 35) (u := 0) (by decide) rfl rfl hok hd hrest rfl k
theorem lk_RL_117 : qLk RL 117 yX12_dry cX12_dry 6 (some .int) 2 := ⟨q_ml_RL_117, q_in_RX12, q_cd_yX12_dry, ⟨by decide, by decide⟩, by decide +kernel, by decide⟩
theorem cv_RL_117 (C : qCx l g X b RL d) {d' : Nat} (hd' : d' < d) {a1 a2 : Value} {rest : List Value} {z : Int} {M' : qMem} (hok : qOk l g d' yX12_dry cX12_dry 6 (some .int) [qR g 35 0, a1, a2] M (qEv (some z) M')) (hd : decode b pc = .ok (.invokevirtual 117, 3)) (hrest : (rest.map fun v => v.category).sum ≤ 8) (k : qIn z → qV l g X M' (pc + 3) ls (qI z :: rest)) : qV l g X M pc ls (a2 :: a1 :: qR g 35 0 :: rest) := q_callV C lk_RL_117 q_im_yX12_dry q_se_yX12_dry rfl hd' (j := 35) (u := 0) (by decide) rfl rfl hok hd hrest rfl (q_evI k)
theorem cw_RL_117 (C : qCx l g X b RL d) {d' : Nat} (hd' : d' < d) {a1 a2 : Value} {rest : List Value} {P : Option Int → qMem → Prop} (hok : qOk l g d' yX12_dry cX12_dry 6 (some .int) [qR g 35 0, a1, a2] M P) (hd : decode b pc = .ok (.invokevirtual 117, 3)) (hrest : (rest.map fun v => v.category).sum ≤ 8) (k : ∀ (r : Option Int) (M' : qMem), (∀ z, r = some z → qIn z) → P r M' → qV l g X M' (pc + 3) ls ((r.map qI).toList ++ rest)) : qV l g X M pc ls (a2 :: a1 :: qR g 35 0 :: rest) := q_callV C lk_RL_117 q_im_yX12_dry q_se_yX12_dry rfl hd' (j := 35) (u := 0) (by decide) rfl rfl hok hd hrest rfl k
theorem lk_RL_121 : qLk RL 121 yX12_meant cX12_meant 3 (some .int) 2 := ⟨q_ml_RL_121, q_in_RX12, q_cd_yX12_meant, ⟨by decide, by decide⟩, by decide +kernel, by decide⟩
theorem cv_RL_121 (C : qCx l g X b RL d) {d' : Nat} (hd' : d' < d) {a1 a2 : Value} {rest : List Value} {z : Int} {M' : qMem} (hok : qOk l g d' yX12_meant cX12_meant 3 (some .int) [qR g 35 0, a1, a2] M (qEv (some z) M')) (hd : decode b pc = .ok (.invokevirtual 121, 3)) (hrest : (rest.map fun v => v.category).sum ≤ 8) (k : qIn z → qV l g X M' (pc + 3) ls (qI z :: rest)) : qV l g X M pc ls (a2 :: a1 :: qR g 35 0 :: rest) := q_callV C lk_RL_121 q_im_yX12_meant q_se_yX12_meant rfl hd' (j := 35) (u := 0) (by decide) rfl rfl hok hd hrest rfl (q_evI k)
theorem cw_RL_121 (C : qCx l g X b RL d) {d' : Nat} (hd' : d' < d) {a1 a2 : Value} {rest : List Value} {P : Option Int → qMem → Prop} (hok : qOk l g d' yX12_meant cX12_meant 3 (some .int) [qR g 35 0, a1, a2] M P) (hd : decode b pc = .ok (.invokevirtual 121, 3)) (hrest : (rest.map fun v => v.category).sum ≤ 8) (k : ∀ (r : Option Int) (M' : qMem), (∀ z, r = some z → qIn z) → P r M' → qV l g X M' (pc + 3) ls ((r.map qI).toList ++ rest)) : qV l g X M pc ls (a2 :: a1 :: qR g 35 0 :: rest) := q_callV C lk_RL_121 q_im_yX12_meant q_se_yX12_meant rfl hd' (j := 35) (u := 0) (by decide) rfl rfl hok hd hrest rfl k
theorem lk_RL_125 : qLk RL 125 yX12_couldBe cX12_couldBe 6 (some .int) 1 := ⟨q_ml_RL_125, q_in_RX12, q_cd_yX12_couldBe, ⟨by decide, by decide⟩, by decide +kernel, by decide⟩
theorem cv_RL_125 (C : qCx l g X b RL d) {d' : Nat} (hd' : d' < d) {a1 : Value} {rest : List Value} {z : Int} {M' : qMem} (hok : qOk l g d' yX12_couldBe cX12_couldBe 6 (some .int) [qR g 35 0, a1] M (qEv (some z) M')) (hd : decode b pc = .ok (.invokevirtual 125, 3)) (hrest : (rest.map fun v => v.category).sum ≤ 8) (k : qIn z → qV l g X M' (pc + 3) ls (qI z :: rest)) : qV l g X M pc ls (a1 :: qR g 35 0 :: rest) := q_callV C lk_RL_125 q_im_yX12_couldBe q_se_yX12_couldBe rfl hd' (j := 35) (u := 0) (by decide) rfl rfl hok hd hrest rfl (q_evI k)
theorem cw_RL_125 (C : qCx l g X b RL d) {d' : Nat} (hd' : d' < d) {a1 : Value} {rest : List Value} {P : Option Int → qMem → Prop} (hok : qOk l g d' yX12_couldBe cX12_couldBe 6 (some .int) [qR g 35 0, a1] M P) (hd : decode b pc = .ok (.invokevirtual 125, 3)) (hrest : (rest.map fun v => v.category).sum ≤ 8) (k : ∀ (r : Option Int) (M' : qMem), (∀ z, r = some z → qIn z) → P r M' → qV l g X M' (pc + 3) ls ((r.map qI).toList ++ rest)) : qV l g X M pc ls (a1 :: qR g 35 0 :: rest) := q_callV C lk_RL_125 q_im_yX12_couldBe q_se_yX12_couldBe rfl hd' (j := 35) (u := 0) (by decide) rfl rfl hok hd hrest rfl k
theorem lk_RX12_288 : qLk RX12 288 yX12_couldBeSo cX12_couldBeSo 4 (some .boolean) 1 := ⟨q_ml_RX12_288, q_in_RX12, q_cd_yX12_couldBeSo, ⟨by decide, by decide⟩, by decide +kernel, by decide⟩
theorem cv_RX12_288 (C : qCx l g X b RX12 d) {d' : Nat} (hd' : d' < d) {a1 : Value} {rest : List Value} {z : Int} {M' : qMem} (hok : qOk l g d' yX12_couldBeSo cX12_couldBeSo 4 (some .boolean) [qR g 35 0, a1] M (qEv (some z) M')) (hd : decode b pc = .ok (.invokevirtual 288, 3)) (hrest : (rest.map fun v => v.category).sum ≤ 8) (k : qIn z → qV l g X M' (pc + 3) ls (qI z :: rest)) : qV l g X M pc ls (a1 :: qR g 35 0 :: rest) := q_callV C lk_RX12_288 q_im_yX12_couldBeSo q_se_yX12_couldBeSo rfl hd' (j := 35) (u := 0) (by decide) rfl rfl hok hd hrest rfl (q_evI k)
theorem cw_RX12_288 (C : qCx l g X b RX12 d) {d' : Nat} (hd' : d' < d) {a1 : Value} {rest : List Value} {P : Option Int → qMem → Prop} (hok : qOk l g d' yX12_couldBeSo cX12_couldBeSo 4 (some .boolean) [qR g 35 0, a1] M P) (hd : decode b pc = .ok (.invokevirtual 288, 3)) (hrest : (rest.map fun v => v.category).sum ≤ 8) (k : ∀ (r : Option Int) (M' : qMem), (∀ z, r = some z → qIn z) → P r M' → qV l g X M' (pc + 3) ls ((r.map qI).toList ++ rest)) : qV l g X M pc ls (a1 :: qR g 35 0 :: rest) := q_callV C lk_RX12_288 q_im_yX12_couldBeSo q_se_yX12_couldBeSo rfl hd' (j := 35) (u := 0) (by decide) rfl rfl hok hd hrest rfl k
theorem lk_RX12_285 : qLk RX12 285 yX12_partOf cX12_partOf 2 (some .int) 2 := ⟨q_ml_RX12_285, q_in_RX12, q_cd_yX12_partOf, ⟨by decide, by decide⟩, by decide +kernel, by decide⟩
theorem cv_RX12_285 (C : qCx l g X b RX12 d) {d' : Nat} (hd' : d' < d) {a1 a2 : Value} {rest : List Value} {z : Int} {M' : qMem} (hok : qOk l g d' yX12_partOf cX12_partOf 2 (some .int) [a1, a2] M (qEv (some z) M')) (hd : decode b pc = .ok (.invokestatic 285, 3)) (hrest : (rest.map fun v => v.category).sum ≤ 8) (k : qIn z → qV l g X M' (pc + 3) ls (qI z :: rest)) : qV l g X M pc ls (a2 :: a1 :: rest) := q_callS C lk_RX12_285 q_st_yX12_partOf rfl hd' hok hd hrest rfl (q_evI k)
theorem cw_RX12_285 (C : qCx l g X b RX12 d) {d' : Nat} (hd' : d' < d) {a1 a2 : Value} {rest : List Value} {P : Option Int → qMem → Prop} (hok : qOk l g d' yX12_partOf cX12_partOf 2 (some .int) [a1, a2] M P) (hd : decode b pc = .ok (.invokestatic 285, 3)) (hrest : (rest.map fun v => v.category).sum ≤ 8) (k : ∀ (r : Option Int) (M' : qMem), (∀ z, r = some z → qIn z) → P r M' → qV l g X M' (pc + 3) ls ((r.map qI).toList ++ rest)) : qV l g X M pc ls (a2 :: a1 :: rest) := q_callS C lk_RX12_285 q_st_yX12_partOf rfl hd' hok hd hrest rfl k
theorem lk_RL_129 : qLk RL 129 yX12_part cX12_part 5 (some .int) 0 := ⟨q_ml_RL_129, q_in_RX12, q_cd_yX12_part, ⟨by decide, by decide⟩, by decide +kernel, by decide⟩
theorem cv_RL_129 (C : qCx l g X b RL d) {d' : Nat} (hd' : d' < d) {rest : List Value} {z : Int} {M' : qMem} (hok : qOk l g d' yX12_part cX12_part 5 (some .int) [qR g 35 0] M (qEv (some z) M')) (hd : decode b pc = .ok (.invokevirtual 129, 3)) (hrest : (rest.map fun v => v.category).sum ≤ 8) (k : qIn z → qV l g X M' (pc + 3) ls (qI z :: rest)) : qV l g X M pc ls (qR g 35 0 :: rest) := q_callV C lk_RL_129 q_im_yX12_part q_se_yX12_part rfl hd' (j := 35) (u := 0) (by decide) rfl rfl hok hd hrest rfl (q_evI k)
theorem cw_RL_129 (C : qCx l g X b RL d) {d' : Nat} (hd' : d' < d) {rest : List Value} {P : Option Int → qMem → Prop} (hok : qOk l g d' yX12_part cX12_part 5 (some .int) [qR g 35 0] M P) (hd : decode b pc = .ok (.invokevirtual 129, 3)) (hrest : (rest.map fun v => v.category).sum ≤ 8) (k : ∀ (r : Option Int) (M' : qMem), (∀ z, r = some z → qIn z) → P r M' → qV l g X M' (pc + 3) ls ((r.map qI).toList ++ rest)) : qV l g X M pc ls (qR g 35 0 :: rest) := q_callV C lk_RL_129 q_im_yX12_part q_se_yX12_part rfl hd' (j := 35) (u := 0) (by decide) rfl rfl hok hd hrest rfl k
theorem lk_RX12_291 : qLk RX12 291 yX12_couldBe cX12_couldBe 6 (some .int) 1 := ⟨q_ml_RX12_291, q_in_RX12, q_cd_yX12_couldBe, ⟨by decide, by decide⟩, by decide +kernel, by decide⟩
theorem cv_RX12_291 (C : qCx l g X b RX12 d) {d' : Nat} (hd' : d' < d) {a1 : Value} {rest : List Value} {z : Int} {M' : qMem} (hok : qOk l g d' yX12_couldBe cX12_couldBe 6 (some .int) [qR g 35 0, a1] M (qEv (some z) M')) (hd : decode b pc = .ok (.invokevirtual 291, 3)) (hrest : (rest.map fun v => v.category).sum ≤ 8) (k : qIn z → qV l g X M' (pc + 3) ls (qI z :: rest)) : qV l g X M pc ls (a1 :: qR g 35 0 :: rest) := q_callV C lk_RX12_291 q_im_yX12_couldBe q_se_yX12_couldBe rfl hd' (j := 35) (u := 0) (by decide) rfl rfl hok hd hrest rfl (q_evI k)
theorem cw_RX12_291 (C : qCx l g X b RX12 d) {d' : Nat} (hd' : d' < d) {a1 : Value} {rest : List Value} {P : Option Int → qMem → Prop} (hok : qOk l g d' yX12_couldBe cX12_couldBe 6 (some .int) [qR g 35 0, a1] M P) (hd : decode b pc = .ok (.invokevirtual 291, 3)) (hrest : (rest.map fun v => v.category).sum ≤ 8) (k : ∀ (r : Option Int) (M' : qMem), (∀ z, r = some z → qIn z) → P r M' → qV l g X M' (pc + 3) ls ((r.map qI).toList ++ rest)) : qV l g X M pc ls (a1 :: qR g 35 0 :: rest) := q_callV C lk_RX12_291 q_im_yX12_couldBe q_se_yX12_couldBe rfl hd' (j := 35) (u := 0) (by decide) rfl rfl hok hd hrest rfl k
theorem lk_RX12_294 : qLk RX12 294 yX12_alike cX12_alike 6 (some .int) 1 := ⟨q_ml_RX12_294, q_in_RX12, q_cd_yX12_alike, ⟨by decide, by decide⟩, by decide +kernel, by decide⟩
theorem cv_RX12_294 (C : qCx l g X b RX12 d) {d' : Nat} (hd' : d' < d) {a1 : Value} {rest : List Value} {z : Int} {M' : qMem} (hok : qOk l g d' yX12_alike cX12_alike 6 (some .int) [qR g 35 0, a1] M (qEv (some z) M')) (hd : decode b pc = .ok (.invokevirtual 294, 3)) (hrest : (rest.map fun v => v.category).sum ≤ 8) (k : qIn z → qV l g X M' (pc + 3) ls (qI z :: rest)) : qV l g X M pc ls (a1 :: qR g 35 0 :: rest) := q_callV C lk_RX12_294 q_im_yX12_alike q_se_yX12_alike rfl hd' (j := 35) (u := 0) (by decide) rfl rfl hok hd hrest rfl (q_evI k)
theorem cw_RX12_294 (C : qCx l g X b RX12 d) {d' : Nat} (hd' : d' < d) {a1 : Value} {rest : List Value} {P : Option Int → qMem → Prop} (hok : qOk l g d' yX12_alike cX12_alike 6 (some .int) [qR g 35 0, a1] M P) (hd : decode b pc = .ok (.invokevirtual 294, 3)) (hrest : (rest.map fun v => v.category).sum ≤ 8) (k : ∀ (r : Option Int) (M' : qMem), (∀ z, r = some z → qIn z) → P r M' → qV l g X M' (pc + 3) ls ((r.map qI).toList ++ rest)) : qV l g X M pc ls (a1 :: qR g 35 0 :: rest) := q_callV C lk_RX12_294 q_im_yX12_alike q_se_yX12_alike rfl hd' (j := 35) (u := 0) (by decide) rfl rfl hok hd hrest rfl k
theorem lk_RL_133 : qLk RL 133 yX12_write cX12_write 3 (some .int) 2 := ⟨q_ml_RL_133, q_in_RX12, q_cd_yX12_write, ⟨by decide, by decide⟩, by decide +kernel, by decide⟩
theorem cv_RL_133 (C : qCx l g X b RL d) {d' : Nat} (hd' : d' < d) {a1 a2 : Value} {rest : List Value} {z : Int} {M' : qMem} (hok : qOk l g d' yX12_write cX12_write 3 (some .int) [qR g 35 0, a1, a2] M (qEv (some z) M')) (hd : decode b pc = .ok (.invokevirtual 133, 3)) (hrest : (rest.map fun v => v.category).sum ≤ 8) (k : qIn z → qV l g X M' (pc + 3) ls (qI z :: rest)) : qV l g X M pc ls (a2 :: a1 :: qR g 35 0 :: rest) := q_callV C lk_RL_133 q_im_yX12_write q_se_yX12_write rfl hd' (j := 35) (u := 0) (by decide) rfl rfl hok hd hrest rfl (q_evI k)
theorem cw_RL_133 (C : qCx l g X b RL d) {d' : Nat} (hd' : d' < d) {a1 a2 : Value} {rest : List Value} {P : Option Int → qMem → Prop} (hok : qOk l g d' yX12_write cX12_write 3 (some .int) [qR g 35 0, a1, a2] M P) (hd : decode b pc = .ok (.invokevirtual 133, 3)) (hrest : (rest.map fun v => v.category).sum ≤ 8) (k : ∀ (r : Option Int) (M' : qMem), (∀ z, r = some z → qIn z) → P r M' → qV l g X M' (pc + 3) ls ((r.map qI).toList ++ rest)) : qV l g X M pc ls (a2 :: a1 :: qR g 35 0 :: rest) := q_callV C lk_RL_133 q_im_yX12_write q_se_yX12_write rfl hd' (j := 35) (u := 0) (by decide) rfl rfl hok hd hrest rfl k
theorem lk_RL_137 : qLk RL 137 yX12_judge cX12_judge 2 (some .int) 0 := ⟨q_ml_RL_137, q_in_RX12, q_cd_yX12_judge, ⟨by decide, by decide⟩, by decide +kernel, by decide⟩
theorem cv_RL_137 (C : qCx l g X b RL d) {d' : Nat} (hd' : d' < d) {rest : List Value} {z : Int} {M' : qMem} (hok : qOk l g d' yX12_judge cX12_judge 2 (some .int) [qR g 35 0] M (qEv (some z) M')) (hd : decode b pc = .ok (.invokevirtual 137, 3)) (hrest : (rest.map fun v => v.category).sum ≤ 8) (k : qIn z → qV l g X M' (pc + 3) ls (qI z :: rest)) : qV l g X M pc ls (qR g 35 0 :: rest) := q_callV C lk_RL_137 q_im_yX12_judge q_se_yX12_judge rfl hd' (j := 35) (u := 0) (by decide) rfl rfl hok hd hrest rfl (q_evI k)
theorem cw_RL_137 (C : qCx l g X b RL d) {d' : Nat} (hd' : d' < d) {rest : List Value} {P : Option Int → qMem → Prop} (hok : qOk l g d' yX12_judge cX12_judge 2 (some .int) [qR g 35 0] M P) (hd : decode b pc = .ok (.invokevirtual 137, 3)) (hrest : (rest.map fun v => v.category).sum ≤ 8) (k : ∀ (r : Option Int) (M' : qMem), (∀ z, r = some z → qIn z) → P r M' → qV l g X M' (pc + 3) ls ((r.map qI).toList ++ rest)) : qV l g X M pc ls (qR g 35 0 :: rest) := q_callV C lk_RL_137 q_im_yX12_judge q_se_yX12_judge rfl hd' (j := 35) (u := 0) (by decide) rfl rfl hok hd hrest rfl k
theorem lk_RL_141 : qLk RL 141 yX12_tear cX12_tear 2 (some .int) 0 := ⟨q_ml_RL_141, q_in_RX12, q_cd_yX12_tear, ⟨by decide, by decide⟩, by decide +kernel, by decide⟩
theorem cv_RL_141 (C : qCx l g X b RL d) {d' : Nat} (hd' : d' < d) {rest : List Value} {z : Int} {M' : qMem} (hok : qOk l g d' yX12_tear cX12_tear 2 (some .int) [qR g 35 0] M (qEv (some z) M')) (hd : decode b pc = .ok (.invokevirtual 141, 3)) (hrest : (rest.map fun v => v.category).sum ≤ 8) (k : qIn z → qV l g X M' (pc + 3) ls (qI z :: rest)) : qV l g X M pc ls (qR g 35 0 :: rest) := q_callV C lk_RL_141 q_im_yX12_tear q_se_yX12_tear rfl hd' (j := 35) (u := 0) (by decide) rfl rfl hok hd hrest rfl (q_evI k)
theorem cw_RL_141 (C : qCx l g X b RL d) {d' : Nat} (hd' : d' < d) {rest : List Value} {P : Option Int → qMem → Prop} (hok : qOk l g d' yX12_tear cX12_tear 2 (some .int) [qR g 35 0] M P) (hd : decode b pc = .ok (.invokevirtual 141, 3)) (hrest : (rest.map fun v => v.category).sum ≤ 8) (k : ∀ (r : Option Int) (M' : qMem), (∀ z, r = some z → qIn z) → P r M' → qV l g X M' (pc + 3) ls ((r.map qI).toList ++ rest)) : qV l g X M pc ls (qR g 35 0 :: rest) := q_callV C lk_RL_141 q_im_yX12_tear q_se_yX12_tear rfl hd' (j := 35) (u := 0) (by decide) rfl rfl hok hd hrest rfl k
theorem lk_RL_145 : qLk RL 145 yX12_seed cX12_seed 3 (some .int) 1 := ⟨q_ml_RL_145, q_in_RX12, q_cd_yX12_seed, ⟨by decide, by decide⟩, by decide +kernel, by decide⟩
theorem cv_RL_145 (C : qCx l g X b RL d) {d' : Nat} (hd' : d' < d) {a1 : Value} {rest : List Value} {z : Int} {M' : qMem} (hok : qOk l g d' yX12_seed cX12_seed 3 (some .int) [qR g 35 0, a1] M (qEv (some z) M')) (hd : decode b pc = .ok (.invokevirtual 145, 3)) (hrest : (rest.map fun v => v.category).sum ≤ 8) (k : qIn z → qV l g X M' (pc + 3) ls (qI z :: rest)) : qV l g X M pc ls (a1 :: qR g 35 0 :: rest) := q_callV C lk_RL_145 q_im_yX12_seed q_se_yX12_seed rfl hd' (j := 35) (u := 0) (by decide) rfl rfl hok hd hrest rfl (q_evI k)
theorem cw_RL_145 (C : qCx l g X b RL d) {d' : Nat} (hd' : d' < d) {a1 : Value} {rest : List Value} {P : Option Int → qMem → Prop} (hok : qOk l g d' yX12_seed cX12_seed 3 (some .int) [qR g 35 0, a1] M P) (hd : decode b pc = .ok (.invokevirtual 145, 3)) (hrest : (rest.map fun v => v.category).sum ≤ 8) (k : ∀ (r : Option Int) (M' : qMem), (∀ z, r = some z → qIn z) → P r M' → qV l g X M' (pc + 3) ls ((r.map qI).toList ++ rest)) : qV l g X M pc ls (a1 :: qR g 35 0 :: rest) := q_callV C lk_RL_145 q_im_yX12_seed q_se_yX12_seed rfl hd' (j := 35) (u := 0) (by decide) rfl rfl hok hd hrest rfl k
theorem lk_RL_149 : qLk RL 149 yX12_keep cX12_keep 3 (some .int) 1 := ⟨q_ml_RL_149, q_in_RX12, q_cd_yX12_keep, ⟨by decide, by decide⟩, by decide +kernel, by decide⟩
theorem cv_RL_149 (C : qCx l g X b RL d) {d' : Nat} (hd' : d' < d) {a1 : Value} {rest : List Value} {z : Int} {M' : qMem} (hok : qOk l g d' yX12_keep cX12_keep 3 (some .int) [qR g 35 0, a1] M (qEv (some z) M')) (hd : decode b pc = .ok (.invokevirtual 149, 3)) (hrest : (rest.map fun v => v.category).sum ≤ 8) (k : qIn z → qV l g X M' (pc + 3) ls (qI z :: rest)) : qV l g X M pc ls (a1 :: qR g 35 0 :: rest) := q_callV C lk_RL_149 q_im_yX12_keep q_se_yX12_keep rfl hd' (j := 35) (u := 0) (by decide) rfl rfl hok hd hrest rfl (q_evI k)
theorem cw_RL_149 (C : qCx l g X b RL d) {d' : Nat} (hd' : d' < d) {a1 : Value} {rest : List Value} {P : Option Int → qMem → Prop} (hok : qOk l g d' yX12_keep cX12_keep 3 (some .int) [qR g 35 0, a1] M P) (hd : decode b pc = .ok (.invokevirtual 149, 3)) (hrest : (rest.map fun v => v.category).sum ≤ 8) (k : ∀ (r : Option Int) (M' : qMem), (∀ z, r = some z → qIn z) → P r M' → qV l g X M' (pc + 3) ls ((r.map qI).toList ++ rest)) : qV l g X M pc ls (a1 :: qR g 35 0 :: rest) := q_callV C lk_RL_149 q_im_yX12_keep q_se_yX12_keep rfl hd' (j := 35) (u := 0) (by decide) rfl rfl hok hd hrest rfl k
theorem lk_RL_153 : qLk RL 153 yX12_goBack cX12_goBack 3 (some .int) 1 := ⟨q_ml_RL_153, q_in_RX12, q_cd_yX12_goBack, ⟨by decide, by decide⟩, by decide +kernel, by decide⟩
theorem cv_RL_153 (C : qCx l g X b RL d) {d' : Nat} (hd' : d' < d) {a1 : Value} {rest : List Value} {z : Int} {M' : qMem} (hok : qOk l g d' yX12_goBack cX12_goBack 3 (some .int) [qR g 35 0, a1] M (qEv (some z) M')) (hd : decode b pc = .ok (.invokevirtual 153, 3)) (hrest : (rest.map fun v => v.category).sum ≤ 8) (k : qIn z → qV l g X M' (pc + 3) ls (qI z :: rest)) : qV l g X M pc ls (a1 :: qR g 35 0 :: rest) := q_callV C lk_RL_153 q_im_yX12_goBack q_se_yX12_goBack rfl hd' (j := 35) (u := 0) (by decide) rfl rfl hok hd hrest rfl (q_evI k)
theorem cw_RL_153 (C : qCx l g X b RL d) {d' : Nat} (hd' : d' < d) {a1 : Value} {rest : List Value} {P : Option Int → qMem → Prop} (hok : qOk l g d' yX12_goBack cX12_goBack 3 (some .int) [qR g 35 0, a1] M P) (hd : decode b pc = .ok (.invokevirtual 153, 3)) (hrest : (rest.map fun v => v.category).sum ≤ 8) (k : ∀ (r : Option Int) (M' : qMem), (∀ z, r = some z → qIn z) → P r M' → qV l g X M' (pc + 3) ls ((r.map qI).toList ++ rest)) : qV l g X M pc ls (a1 :: qR g 35 0 :: rest) := q_callV C lk_RL_153 q_im_yX12_goBack q_se_yX12_goBack rfl hd' (j := 35) (u := 0) (by decide) rfl rfl hok hd hrest rfl k
end QLINKS
end
section
/-! bits of small numbers, by trying all -/
theorem q_fin48 {p : Int → Prop} (h : ∀ k : Nat, k < 48 → p k) {g : Int} (h0 : 0 ≤ g) (h1 : g < 48) : p g := by
  obtain ⟨k, rfl⟩ := Int.eq_ofNat_of_zero_le h0
  exact h k (by omega)
theorem q_fin {p : Int → Prop} {N : Nat} (h : ∀ k : Nat, k < N → p k) {g : Int} (h0 : 0 ≤ g) (h1 : g < N) : p g := by
  obtain ⟨k, rfl⟩ := Int.eq_ofNat_of_zero_le h0
  exact h k (by omega)
theorem q_fin2 {p : Int → Int → Prop} {N K : Nat} (h : ∀ k : Nat, k < N → ∀ j : Nat, j < K → p k j) {a b : Int} (h0 : 0 ≤ a) (h1 : a < N) (h2 : 0 ≤ b) (h3 : b < K) : p a b := by
  obtain ⟨k, rfl⟩ := Int.eq_ofNat_of_zero_le h0
  obtain ⟨j, rfl⟩ := Int.eq_ofNat_of_zero_le h2
  exact h k (by omega) j (by omega)
theorem q_and1 {g : Int} (h0 : 0 ≤ g) (h1 : g < 48) : qAnd g 1 = g % 2 := q_fin (p := fun g => qAnd g 1 = g % 2) (N := 48) (by decide +kernel) h0 h1
theorem q_and2 {g : Int} (h0 : 0 ≤ g) (h1 : g < 48) : qAnd g 2 = 2 * (g / 2 % 2) := q_fin (p := fun g => qAnd g 2 = 2 * (g / 2 % 2)) (N := 48) (by decide +kernel) h0 h1
theorem q_and4 {g : Int} (h0 : 0 ≤ g) (h1 : g < 48) : qAnd g 4 = 4 * (g / 4 % 2) := q_fin (p := fun g => qAnd g 4 = 4 * (g / 4 % 2)) (N := 48) (by decide +kernel) h0 h1
theorem q_and8 {g : Int} (h0 : 0 ≤ g) (h1 : g < 48) : qAnd g 8 = 8 * (g / 8 % 2) := q_fin (p := fun g => qAnd g 8 = 8 * (g / 8 % 2)) (N := 48) (by decide +kernel) h0 h1
theorem q_and15 {g : Int} (h0 : 0 ≤ g) (h1 : g < 48) : qAnd g 15 = g % 16 := q_fin (p := fun g => qAnd g 15 = g % 16) (N := 48) (by decide +kernel) h0 h1
/-- part k of a sign -/
def sPart (g k : Int) : Int := if k = 4 then g / 16 else g / 2 ^ k.toNat % 2
theorem q_shr1 {g k : Int} (h0 : 0 ≤ g) (h1 : g < 64) (h2 : 0 ≤ k) (h3 : k < 8) : qAnd (qShr g k) 1 = g / 2 ^ k.toNat % 2 := q_fin2 (p := fun g k => qAnd (qShr g k) 1 = g / 2 ^ k.toNat % 2) (N := 64) (K := 8) (by decide +kernel) h0 h1 h2 h3
/-- what a sign means -/
def sMean (g : Int) : Int := if g / 16 = 2 then 7 else g % 2 + g / 2 % 2 + 3 * (g / 4 % 2) + g / 8 % 2
/-- said, by these manners -/
abbrev sSaid (mn g : Int) : Prop := mn = 0 ∨ (mn = 1 ∧ (g / 4 % 2 = 0 ∨ g / 16 = 1)) ∨ (mn = 2 ∧ ¬ (g % 2 = 1 ∧ g / 2 % 2 = 1) ∧ ¬ (g / 8 % 2 = 1 ∧ g / 16 = 2))
theorem sMean_in {g : Int} (h0 : 0 ≤ g) (h1 : g < 48) : 0 ≤ sMean g ∧ sMean g ≤ 7 := by
  unfold sMean
  split <;> omega
/-- a place of a set -/
abbrev sHas (s k : Int) : Prop := s / 2 ^ k.toNat % 2 = 1
def sAdd (s k : Int) : Int := qOr s (qShl 1 k)
def sDel (s k : Int) : Int := qAnd s (qXor (qShl 1 k) (-1))
theorem q_fin3 {p : Int → Int → Int → Prop} {N K L : Nat} (h : ∀ k : Nat, k < N → ∀ j : Nat, j < K → ∀ i : Nat, i < L → p k j i) {a b c : Int} (h0 : 0 ≤ a) (h1 : a < N) (h2 : 0 ≤ b) (h3 : b < K) (h4 : 0 ≤ c) (h5 : c < L) : p a b c := by
  obtain ⟨k, rfl⟩ := Int.eq_ofNat_of_zero_le h0
  obtain ⟨j, rfl⟩ := Int.eq_ofNat_of_zero_le h2
  obtain ⟨i, rfl⟩ := Int.eq_ofNat_of_zero_le h4
  exact h k (by omega) j (by omega) i (by omega)
theorem q_addIn {s k : Int} (h0 : 0 ≤ s) (h1 : s < 64) (h2 : 0 ≤ k) (h3 : k < 6) : 0 ≤ sAdd s k ∧ sAdd s k < 64 := q_fin2 (p := fun s k => 0 ≤ sAdd s k ∧ sAdd s k < 64) (N := 64) (K := 6) (by decide +kernel) h0 h1 h2 h3
theorem q_delIn {s k : Int} (h0 : 0 ≤ s) (h1 : s < 64) (h2 : 0 ≤ k) (h3 : k < 6) : 0 ≤ sDel s k ∧ sDel s k < 64 := q_fin2 (p := fun s k => 0 ≤ sDel s k ∧ sDel s k < 64) (N := 64) (K := 6) (by decide +kernel) h0 h1 h2 h3
theorem q_addHas {s k j : Int} (h0 : 0 ≤ s) (h1 : s < 64) (h2 : 0 ≤ k) (h3 : k < 6) (h4 : 0 ≤ j) (h5 : j < 6) : sAdd s k / 2 ^ j.toNat % 2 = 1 ↔ (j = k ∨ s / 2 ^ j.toNat % 2 = 1) := q_fin3 (p := fun s k j => sAdd s k / 2 ^ j.toNat % 2 = 1 ↔ (j = k ∨ s / 2 ^ j.toNat % 2 = 1)) (N := 64) (K := 6) (L := 6) (by decide +kernel) h0 h1 h2 h3 h4 h5
theorem q_delHas {s k j : Int} (h0 : 0 ≤ s) (h1 : s < 64) (h2 : 0 ≤ k) (h3 : k < 6) (h4 : 0 ≤ j) (h5 : j < 6) : sDel s k / 2 ^ j.toNat % 2 = 1 ↔ (j ≠ k ∧ s / 2 ^ j.toNat % 2 = 1) := q_fin3 (p := fun s k j => sDel s k / 2 ^ j.toNat % 2 = 1 ↔ (j ≠ k ∧ s / 2 ^ j.toNat % 2 = 1)) (N := 64) (K := 6) (L := 6) (by decide +kernel) h0 h1 h2 h3 h4 h5
/-- how many are in a set -/
def sPop (s : Int) : Int := s % 2 + s / 2 % 2 + s / 4 % 2 + s / 8 % 2 + s / 16 % 2 + s / 32 % 2
theorem q_popIn {s : Int} (h0 : 0 ≤ s) (h1 : s < 64) : 0 ≤ sPop s ∧ sPop s ≤ 6 := by unfold sPop; omega
theorem q_nat : Cond.native arraycopyName ∈ qtb := q_mt 467 (by decide +kernel) (by decide +kernel)
theorem q_sta : Cond.static arraycopyName ∈ qtb := q_mt 466 (by decide +kernel) (by decide +kernel)
theorem q_sin : Cond.initialized "java/lang/System" ∈ qtb := q_mt 79 (by decide +kernel) (by decide +kernel)
def sMax (a b : Int) : Int := if a < b then b else a
def sMin (a b : Int) : Int := if b < a then b else a
theorem sMax_l (a b : Int) : a ≤ sMax a b ∧ b ≤ sMax a b ∧ (sMax a b = a ∨ sMax a b = b) := by unfold sMax; split <;> omega
theorem sMin_l (a b : Int) : sMin a b ≤ a ∧ sMin a b ≤ b ∧ (sMin a b = a ∨ sMin a b = b) := by unfold sMin; split <;> omega
section QMATH
variable {l : Launch} {g : qGm} {X : qCt} {M : qMem} {b : ByteArray} {own : String} {d pc : Nat} {ls : List (Nat × Value)} {st : List Value}
theorem q_mmax (C : qCx l g X b own d) {idx : Nat} {x y : Int} (hm : Cond.methodLink own idx yJ9_max_7cf53 ∈ qtb) (hx : qIn x) (hy : qIn y) (hdd : 1 ≤ d) (hrest : (st.map fun v => v.category).sum ≤ 8) (hd : decode b pc = .ok (.invokestatic idx, 3)) (k : qIn (sMax x y) → qV l g X M (pc + 3) ls (qI (sMax x y) :: st)) : qV l g X M pc ls (qI y :: qI x :: st) := by
  obtain ⟨p, e, R, s, m, args, below, meth, c, Q, A, nL, nc, ns⟩ := X
  intro H locs la hR hW hS hL
  have hf := C.2.2.2.2.2.1
  have hk := k (by have := sMax_l x y; omega) H locs la hR hW hS hL
  refine va_mmax C.1 C.2.1 (C.2.2.1.trans hL.1.symm) C.2.2.2.1 (C.2.2.2.2.1 _ hm) (C.2.2.2.2.1 _ q_st_yJ9_max_7cf53) (C.2.2.2.2.1 _ q_in_RJ9) (C.2.2.2.2.1 _ q_cd_yJ9_max_7cf53) (by omega) (by omega) C.2.2.2.2.2.2.2.2.2.2.1 C.2.2.2.2.2.2.2.2.2.2.2 hd ?_
  have e1 : (if Int32.ofInt x < Int32.ofInt y then Int32.ofInt y else Int32.ofInt x) = Int32.ofInt (sMax x y) := by
    unfold sMax
    by_cases h : x < y
    · rw [if_pos h, if_pos ((q_lt hx hy).mpr h)]
    · rw [if_neg h, if_neg (fun e => h ((q_lt hx hy).mp e))]
  rw [e1]
  exact hk
theorem q_mmin (C : qCx l g X b own d) {idx : Nat} {x y : Int} (hm : Cond.methodLink own idx yJ9_min_7cf53 ∈ qtb) (hx : qIn x) (hy : qIn y) (hdd : 1 ≤ d) (hrest : (st.map fun v => v.category).sum ≤ 8) (hd : decode b pc = .ok (.invokestatic idx, 3)) (k : qIn (sMin x y) → qV l g X M (pc + 3) ls (qI (sMin x y) :: st)) : qV l g X M pc ls (qI y :: qI x :: st) := by
  obtain ⟨p, e, R, s, m, args, below, meth, c, Q, A, nL, nc, ns⟩ := X
  intro H locs la hR hW hS hL
  have hf := C.2.2.2.2.2.1
  have hk := k (by have := sMin_l x y; omega) H locs la hR hW hS hL
  refine va_mmin C.1 C.2.1 (C.2.2.1.trans hL.1.symm) C.2.2.2.1 (C.2.2.2.2.1 _ hm) (C.2.2.2.2.1 _ q_st_yJ9_min_7cf53) (C.2.2.2.2.1 _ q_in_RJ9) (C.2.2.2.2.1 _ q_cd_yJ9_min_7cf53) (by omega) (by omega) C.2.2.2.2.2.2.2.2.2.2.1 C.2.2.2.2.2.2.2.2.2.2.2 hd ?_
  have e1 : (if Int32.ofInt y < Int32.ofInt x then Int32.ofInt y else Int32.ofInt x) = Int32.ofInt (sMin x y) := by
    unfold sMin
    by_cases h : y < x
    · rw [if_pos h, if_pos ((q_lt hy hx).mpr h)]
    · rw [if_neg h, if_neg (fun e => h ((q_lt hy hx).mp e))]
  rw [e1]
  exact hk
end QMATH
end
section
section QTERN
variable {l : Launch} {g : qGm} {X : qCt} {M : qMem} {b : ByteArray} {own : String} {d pc : Nat} {ls : List (Nat × Value)} {st : List Value}
theorem q_bE {p : Prop} [Decidable p] {z : Int} (h : p → z = 1) (h2 : ¬ p → z = 0) : qB p = z := by
  by_cases hp : p
  · rw [q_bT hp, h hp]
  · rw [q_bF hp, h2 hp]
theorem q_tI_eq (C : qCx l g X b own d) {x y : Int} {off off2 : Int} (t e : Nat) (hd : decode b pc = .ok (.if_icmp .eq off, 3)) (h1 : decode b (pc + 3) = .ok (.iconst 1, 1)) (h2 : decode b (pc + 3 + 1) = .ok (.goto off2, 3)) (h3 : decode b t = .ok (.iconst 0, 1)) (ht : (pc : Int) + off = (t : Int)) (ht2 : ((pc + 3 + 1 : Nat) : Int) + off2 = (e : Int)) (he : t + 1 = e) (hx : qIn x) (hy : qIn y) (k : qV l g X M e ls (qI (qB (x ≠ y)) :: st)) : qV l g X M pc ls (qI y :: qI x :: st) := by
  subst he
  refine q_icmp_eq C t hd ht hx hy (fun h => q_iconst C h3 ?_) (fun h => q_iconst C h1 (q_goto C h2 ht2 ?_))
  · rw [q_bE (z := 0) (fun hp => by exfalso; omega) (fun _ => rfl)] at k; exact k
  · rw [q_bE (z := 1) (fun _ => rfl) (fun hp => by exfalso; omega)] at k; exact k
theorem q_tZ_eq (C : qCx l g X b own d) {x : Int} {off off2 : Int} (t e : Nat) (hd : decode b pc = .ok (.ifCond .eq off, 3)) (h1 : decode b (pc + 3) = .ok (.iconst 1, 1)) (h2 : decode b (pc + 3 + 1) = .ok (.goto off2, 3)) (h3 : decode b t = .ok (.iconst 0, 1)) (ht : (pc : Int) + off = (t : Int)) (ht2 : ((pc + 3 + 1 : Nat) : Int) + off2 = (e : Int)) (he : t + 1 = e) (hx : qIn x) (k : qV l g X M e ls (qI (qB (x ≠ 0)) :: st)) : qV l g X M pc ls (qI x :: st) := by
  subst he
  refine q_if_eq C t hd ht hx (fun h => q_iconst C h3 ?_) (fun h => q_iconst C h1 (q_goto C h2 ht2 ?_))
  · rw [q_bE (z := 0) (fun hp => by exfalso; omega) (fun _ => rfl)] at k; exact k
  · rw [q_bE (z := 1) (fun _ => rfl) (fun hp => by exfalso; omega)] at k; exact k
theorem q_tIn_eq (C : qCx l g X b own d) {x y : Int} {off off2 : Int} (t e : Nat) (hd : decode b pc = .ok (.if_icmp .eq off, 3)) (h1 : decode b (pc + 3) = .ok (.iconst 0, 1)) (h2 : decode b (pc + 3 + 1) = .ok (.goto off2, 3)) (h3 : decode b t = .ok (.iconst 1, 1)) (ht : (pc : Int) + off = (t : Int)) (ht2 : ((pc + 3 + 1 : Nat) : Int) + off2 = (e : Int)) (he : t + 1 = e) (hx : qIn x) (hy : qIn y) (k : qV l g X M e ls (qI (qB (x = y)) :: st)) : qV l g X M pc ls (qI y :: qI x :: st) := by
  subst he
  refine q_icmp_eq C t hd ht hx hy (fun h => q_iconst C h3 ?_) (fun h => q_iconst C h1 (q_goto C h2 ht2 ?_))
  · rw [q_bE (z := 1) (fun _ => rfl) (fun hp => by exfalso; omega)] at k; exact k
  · rw [q_bE (z := 0) (fun hp => by exfalso; omega) (fun _ => rfl)] at k; exact k
theorem q_tZn_eq (C : qCx l g X b own d) {x : Int} {off off2 : Int} (t e : Nat) (hd : decode b pc = .ok (.ifCond .eq off, 3)) (h1 : decode b (pc + 3) = .ok (.iconst 0, 1)) (h2 : decode b (pc + 3 + 1) = .ok (.goto off2, 3)) (h3 : decode b t = .ok (.iconst 1, 1)) (ht : (pc : Int) + off = (t : Int)) (ht2 : ((pc + 3 + 1 : Nat) : Int) + off2 = (e : Int)) (he : t + 1 = e) (hx : qIn x) (k : qV l g X M e ls (qI (qB (x = 0)) :: st)) : qV l g X M pc ls (qI x :: st) := by
  subst he
  refine q_if_eq C t hd ht hx (fun h => q_iconst C h3 ?_) (fun h => q_iconst C h1 (q_goto C h2 ht2 ?_))
  · rw [q_bE (z := 1) (fun _ => rfl) (fun hp => by exfalso; omega)] at k; exact k
  · rw [q_bE (z := 0) (fun hp => by exfalso; omega) (fun _ => rfl)] at k; exact k
theorem q_tI_ne (C : qCx l g X b own d) {x y : Int} {off off2 : Int} (t e : Nat) (hd : decode b pc = .ok (.if_icmp .ne off, 3)) (h1 : decode b (pc + 3) = .ok (.iconst 1, 1)) (h2 : decode b (pc + 3 + 1) = .ok (.goto off2, 3)) (h3 : decode b t = .ok (.iconst 0, 1)) (ht : (pc : Int) + off = (t : Int)) (ht2 : ((pc + 3 + 1 : Nat) : Int) + off2 = (e : Int)) (he : t + 1 = e) (hx : qIn x) (hy : qIn y) (k : qV l g X M e ls (qI (qB (x = y)) :: st)) : qV l g X M pc ls (qI y :: qI x :: st) := by
  subst he
  refine q_icmp_ne C t hd ht hx hy (fun h => q_iconst C h3 ?_) (fun h => q_iconst C h1 (q_goto C h2 ht2 ?_))
  · rw [q_bE (z := 0) (fun hp => by exfalso; omega) (fun _ => rfl)] at k; exact k
  · rw [q_bE (z := 1) (fun _ => rfl) (fun hp => by exfalso; omega)] at k; exact k
theorem q_tZ_ne (C : qCx l g X b own d) {x : Int} {off off2 : Int} (t e : Nat) (hd : decode b pc = .ok (.ifCond .ne off, 3)) (h1 : decode b (pc + 3) = .ok (.iconst 1, 1)) (h2 : decode b (pc + 3 + 1) = .ok (.goto off2, 3)) (h3 : decode b t = .ok (.iconst 0, 1)) (ht : (pc : Int) + off = (t : Int)) (ht2 : ((pc + 3 + 1 : Nat) : Int) + off2 = (e : Int)) (he : t + 1 = e) (hx : qIn x) (k : qV l g X M e ls (qI (qB (x = 0)) :: st)) : qV l g X M pc ls (qI x :: st) := by
  subst he
  refine q_if_ne C t hd ht hx (fun h => q_iconst C h3 ?_) (fun h => q_iconst C h1 (q_goto C h2 ht2 ?_))
  · rw [q_bE (z := 0) (fun hp => by exfalso; omega) (fun _ => rfl)] at k; exact k
  · rw [q_bE (z := 1) (fun _ => rfl) (fun hp => by exfalso; omega)] at k; exact k
theorem q_tIn_ne (C : qCx l g X b own d) {x y : Int} {off off2 : Int} (t e : Nat) (hd : decode b pc = .ok (.if_icmp .ne off, 3)) (h1 : decode b (pc + 3) = .ok (.iconst 0, 1)) (h2 : decode b (pc + 3 + 1) = .ok (.goto off2, 3)) (h3 : decode b t = .ok (.iconst 1, 1)) (ht : (pc : Int) + off = (t : Int)) (ht2 : ((pc + 3 + 1 : Nat) : Int) + off2 = (e : Int)) (he : t + 1 = e) (hx : qIn x) (hy : qIn y) (k : qV l g X M e ls (qI (qB (x ≠ y)) :: st)) : qV l g X M pc ls (qI y :: qI x :: st) := by
  subst he
  refine q_icmp_ne C t hd ht hx hy (fun h => q_iconst C h3 ?_) (fun h => q_iconst C h1 (q_goto C h2 ht2 ?_))
  · rw [q_bE (z := 1) (fun _ => rfl) (fun hp => by exfalso; omega)] at k; exact k
  · rw [q_bE (z := 0) (fun hp => by exfalso; omega) (fun _ => rfl)] at k; exact k
theorem q_tZn_ne (C : qCx l g X b own d) {x : Int} {off off2 : Int} (t e : Nat) (hd : decode b pc = .ok (.ifCond .ne off, 3)) (h1 : decode b (pc + 3) = .ok (.iconst 0, 1)) (h2 : decode b (pc + 3 + 1) = .ok (.goto off2, 3)) (h3 : decode b t = .ok (.iconst 1, 1)) (ht : (pc : Int) + off = (t : Int)) (ht2 : ((pc + 3 + 1 : Nat) : Int) + off2 = (e : Int)) (he : t + 1 = e) (hx : qIn x) (k : qV l g X M e ls (qI (qB (x ≠ 0)) :: st)) : qV l g X M pc ls (qI x :: st) := by
  subst he
  refine q_if_ne C t hd ht hx (fun h => q_iconst C h3 ?_) (fun h => q_iconst C h1 (q_goto C h2 ht2 ?_))
  · rw [q_bE (z := 1) (fun _ => rfl) (fun hp => by exfalso; omega)] at k; exact k
  · rw [q_bE (z := 0) (fun hp => by exfalso; omega) (fun _ => rfl)] at k; exact k
theorem q_tI_lt (C : qCx l g X b own d) {x y : Int} {off off2 : Int} (t e : Nat) (hd : decode b pc = .ok (.if_icmp .lt off, 3)) (h1 : decode b (pc + 3) = .ok (.iconst 1, 1)) (h2 : decode b (pc + 3 + 1) = .ok (.goto off2, 3)) (h3 : decode b t = .ok (.iconst 0, 1)) (ht : (pc : Int) + off = (t : Int)) (ht2 : ((pc + 3 + 1 : Nat) : Int) + off2 = (e : Int)) (he : t + 1 = e) (hx : qIn x) (hy : qIn y) (k : qV l g X M e ls (qI (qB (y ≤ x)) :: st)) : qV l g X M pc ls (qI y :: qI x :: st) := by
  subst he
  refine q_icmp_lt C t hd ht hx hy (fun h => q_iconst C h3 ?_) (fun h => q_iconst C h1 (q_goto C h2 ht2 ?_))
  · rw [q_bE (z := 0) (fun hp => by exfalso; omega) (fun _ => rfl)] at k; exact k
  · rw [q_bE (z := 1) (fun _ => rfl) (fun hp => by exfalso; omega)] at k; exact k
theorem q_tZ_lt (C : qCx l g X b own d) {x : Int} {off off2 : Int} (t e : Nat) (hd : decode b pc = .ok (.ifCond .lt off, 3)) (h1 : decode b (pc + 3) = .ok (.iconst 1, 1)) (h2 : decode b (pc + 3 + 1) = .ok (.goto off2, 3)) (h3 : decode b t = .ok (.iconst 0, 1)) (ht : (pc : Int) + off = (t : Int)) (ht2 : ((pc + 3 + 1 : Nat) : Int) + off2 = (e : Int)) (he : t + 1 = e) (hx : qIn x) (k : qV l g X M e ls (qI (qB (0 ≤ x)) :: st)) : qV l g X M pc ls (qI x :: st) := by
  subst he
  refine q_if_lt C t hd ht hx (fun h => q_iconst C h3 ?_) (fun h => q_iconst C h1 (q_goto C h2 ht2 ?_))
  · rw [q_bE (z := 0) (fun hp => by exfalso; omega) (fun _ => rfl)] at k; exact k
  · rw [q_bE (z := 1) (fun _ => rfl) (fun hp => by exfalso; omega)] at k; exact k
theorem q_tIn_lt (C : qCx l g X b own d) {x y : Int} {off off2 : Int} (t e : Nat) (hd : decode b pc = .ok (.if_icmp .lt off, 3)) (h1 : decode b (pc + 3) = .ok (.iconst 0, 1)) (h2 : decode b (pc + 3 + 1) = .ok (.goto off2, 3)) (h3 : decode b t = .ok (.iconst 1, 1)) (ht : (pc : Int) + off = (t : Int)) (ht2 : ((pc + 3 + 1 : Nat) : Int) + off2 = (e : Int)) (he : t + 1 = e) (hx : qIn x) (hy : qIn y) (k : qV l g X M e ls (qI (qB (x < y)) :: st)) : qV l g X M pc ls (qI y :: qI x :: st) := by
  subst he
  refine q_icmp_lt C t hd ht hx hy (fun h => q_iconst C h3 ?_) (fun h => q_iconst C h1 (q_goto C h2 ht2 ?_))
  · rw [q_bE (z := 1) (fun _ => rfl) (fun hp => by exfalso; omega)] at k; exact k
  · rw [q_bE (z := 0) (fun hp => by exfalso; omega) (fun _ => rfl)] at k; exact k
theorem q_tZn_lt (C : qCx l g X b own d) {x : Int} {off off2 : Int} (t e : Nat) (hd : decode b pc = .ok (.ifCond .lt off, 3)) (h1 : decode b (pc + 3) = .ok (.iconst 0, 1)) (h2 : decode b (pc + 3 + 1) = .ok (.goto off2, 3)) (h3 : decode b t = .ok (.iconst 1, 1)) (ht : (pc : Int) + off = (t : Int)) (ht2 : ((pc + 3 + 1 : Nat) : Int) + off2 = (e : Int)) (he : t + 1 = e) (hx : qIn x) (k : qV l g X M e ls (qI (qB (x < 0)) :: st)) : qV l g X M pc ls (qI x :: st) := by
  subst he
  refine q_if_lt C t hd ht hx (fun h => q_iconst C h3 ?_) (fun h => q_iconst C h1 (q_goto C h2 ht2 ?_))
  · rw [q_bE (z := 1) (fun _ => rfl) (fun hp => by exfalso; omega)] at k; exact k
  · rw [q_bE (z := 0) (fun hp => by exfalso; omega) (fun _ => rfl)] at k; exact k
theorem q_tI_ge (C : qCx l g X b own d) {x y : Int} {off off2 : Int} (t e : Nat) (hd : decode b pc = .ok (.if_icmp .ge off, 3)) (h1 : decode b (pc + 3) = .ok (.iconst 1, 1)) (h2 : decode b (pc + 3 + 1) = .ok (.goto off2, 3)) (h3 : decode b t = .ok (.iconst 0, 1)) (ht : (pc : Int) + off = (t : Int)) (ht2 : ((pc + 3 + 1 : Nat) : Int) + off2 = (e : Int)) (he : t + 1 = e) (hx : qIn x) (hy : qIn y) (k : qV l g X M e ls (qI (qB (x < y)) :: st)) : qV l g X M pc ls (qI y :: qI x :: st) := by
  subst he
  refine q_icmp_ge C t hd ht hx hy (fun h => q_iconst C h3 ?_) (fun h => q_iconst C h1 (q_goto C h2 ht2 ?_))
  · rw [q_bE (z := 0) (fun hp => by exfalso; omega) (fun _ => rfl)] at k; exact k
  · rw [q_bE (z := 1) (fun _ => rfl) (fun hp => by exfalso; omega)] at k; exact k
theorem q_tZ_ge (C : qCx l g X b own d) {x : Int} {off off2 : Int} (t e : Nat) (hd : decode b pc = .ok (.ifCond .ge off, 3)) (h1 : decode b (pc + 3) = .ok (.iconst 1, 1)) (h2 : decode b (pc + 3 + 1) = .ok (.goto off2, 3)) (h3 : decode b t = .ok (.iconst 0, 1)) (ht : (pc : Int) + off = (t : Int)) (ht2 : ((pc + 3 + 1 : Nat) : Int) + off2 = (e : Int)) (he : t + 1 = e) (hx : qIn x) (k : qV l g X M e ls (qI (qB (x < 0)) :: st)) : qV l g X M pc ls (qI x :: st) := by
  subst he
  refine q_if_ge C t hd ht hx (fun h => q_iconst C h3 ?_) (fun h => q_iconst C h1 (q_goto C h2 ht2 ?_))
  · rw [q_bE (z := 0) (fun hp => by exfalso; omega) (fun _ => rfl)] at k; exact k
  · rw [q_bE (z := 1) (fun _ => rfl) (fun hp => by exfalso; omega)] at k; exact k
theorem q_tIn_ge (C : qCx l g X b own d) {x y : Int} {off off2 : Int} (t e : Nat) (hd : decode b pc = .ok (.if_icmp .ge off, 3)) (h1 : decode b (pc + 3) = .ok (.iconst 0, 1)) (h2 : decode b (pc + 3 + 1) = .ok (.goto off2, 3)) (h3 : decode b t = .ok (.iconst 1, 1)) (ht : (pc : Int) + off = (t : Int)) (ht2 : ((pc + 3 + 1 : Nat) : Int) + off2 = (e : Int)) (he : t + 1 = e) (hx : qIn x) (hy : qIn y) (k : qV l g X M e ls (qI (qB (y ≤ x)) :: st)) : qV l g X M pc ls (qI y :: qI x :: st) := by
  subst he
  refine q_icmp_ge C t hd ht hx hy (fun h => q_iconst C h3 ?_) (fun h => q_iconst C h1 (q_goto C h2 ht2 ?_))
  · rw [q_bE (z := 1) (fun _ => rfl) (fun hp => by exfalso; omega)] at k; exact k
  · rw [q_bE (z := 0) (fun hp => by exfalso; omega) (fun _ => rfl)] at k; exact k
theorem q_tZn_ge (C : qCx l g X b own d) {x : Int} {off off2 : Int} (t e : Nat) (hd : decode b pc = .ok (.ifCond .ge off, 3)) (h1 : decode b (pc + 3) = .ok (.iconst 0, 1)) (h2 : decode b (pc + 3 + 1) = .ok (.goto off2, 3)) (h3 : decode b t = .ok (.iconst 1, 1)) (ht : (pc : Int) + off = (t : Int)) (ht2 : ((pc + 3 + 1 : Nat) : Int) + off2 = (e : Int)) (he : t + 1 = e) (hx : qIn x) (k : qV l g X M e ls (qI (qB (0 ≤ x)) :: st)) : qV l g X M pc ls (qI x :: st) := by
  subst he
  refine q_if_ge C t hd ht hx (fun h => q_iconst C h3 ?_) (fun h => q_iconst C h1 (q_goto C h2 ht2 ?_))
  · rw [q_bE (z := 1) (fun _ => rfl) (fun hp => by exfalso; omega)] at k; exact k
  · rw [q_bE (z := 0) (fun hp => by exfalso; omega) (fun _ => rfl)] at k; exact k
theorem q_tI_gt (C : qCx l g X b own d) {x y : Int} {off off2 : Int} (t e : Nat) (hd : decode b pc = .ok (.if_icmp .gt off, 3)) (h1 : decode b (pc + 3) = .ok (.iconst 1, 1)) (h2 : decode b (pc + 3 + 1) = .ok (.goto off2, 3)) (h3 : decode b t = .ok (.iconst 0, 1)) (ht : (pc : Int) + off = (t : Int)) (ht2 : ((pc + 3 + 1 : Nat) : Int) + off2 = (e : Int)) (he : t + 1 = e) (hx : qIn x) (hy : qIn y) (k : qV l g X M e ls (qI (qB (x ≤ y)) :: st)) : qV l g X M pc ls (qI y :: qI x :: st) := by
  subst he
  refine q_icmp_gt C t hd ht hx hy (fun h => q_iconst C h3 ?_) (fun h => q_iconst C h1 (q_goto C h2 ht2 ?_))
  · rw [q_bE (z := 0) (fun hp => by exfalso; omega) (fun _ => rfl)] at k; exact k
  · rw [q_bE (z := 1) (fun _ => rfl) (fun hp => by exfalso; omega)] at k; exact k
theorem q_tZ_gt (C : qCx l g X b own d) {x : Int} {off off2 : Int} (t e : Nat) (hd : decode b pc = .ok (.ifCond .gt off, 3)) (h1 : decode b (pc + 3) = .ok (.iconst 1, 1)) (h2 : decode b (pc + 3 + 1) = .ok (.goto off2, 3)) (h3 : decode b t = .ok (.iconst 0, 1)) (ht : (pc : Int) + off = (t : Int)) (ht2 : ((pc + 3 + 1 : Nat) : Int) + off2 = (e : Int)) (he : t + 1 = e) (hx : qIn x) (k : qV l g X M e ls (qI (qB (x ≤ 0)) :: st)) : qV l g X M pc ls (qI x :: st) := by
  subst he
  refine q_if_gt C t hd ht hx (fun h => q_iconst C h3 ?_) (fun h => q_iconst C h1 (q_goto C h2 ht2 ?_))
  · rw [q_bE (z := 0) (fun hp => by exfalso; omega) (fun _ => rfl)] at k; exact k
  · rw [q_bE (z := 1) (fun _ => rfl) (fun hp => by exfalso; omega)] at k; exact k
theorem q_tIn_gt (C : qCx l g X b own d) {x y : Int} {off off2 : Int} (t e : Nat) (hd : decode b pc = .ok (.if_icmp .gt off, 3)) (h1 : decode b (pc + 3) = .ok (.iconst 0, 1)) (h2 : decode b (pc + 3 + 1) = .ok (.goto off2, 3)) (h3 : decode b t = .ok (.iconst 1, 1)) (ht : (pc : Int) + off = (t : Int)) (ht2 : ((pc + 3 + 1 : Nat) : Int) + off2 = (e : Int)) (he : t + 1 = e) (hx : qIn x) (hy : qIn y) (k : qV l g X M e ls (qI (qB (y < x)) :: st)) : qV l g X M pc ls (qI y :: qI x :: st) := by
  subst he
  refine q_icmp_gt C t hd ht hx hy (fun h => q_iconst C h3 ?_) (fun h => q_iconst C h1 (q_goto C h2 ht2 ?_))
  · rw [q_bE (z := 1) (fun _ => rfl) (fun hp => by exfalso; omega)] at k; exact k
  · rw [q_bE (z := 0) (fun hp => by exfalso; omega) (fun _ => rfl)] at k; exact k
theorem q_tZn_gt (C : qCx l g X b own d) {x : Int} {off off2 : Int} (t e : Nat) (hd : decode b pc = .ok (.ifCond .gt off, 3)) (h1 : decode b (pc + 3) = .ok (.iconst 0, 1)) (h2 : decode b (pc + 3 + 1) = .ok (.goto off2, 3)) (h3 : decode b t = .ok (.iconst 1, 1)) (ht : (pc : Int) + off = (t : Int)) (ht2 : ((pc + 3 + 1 : Nat) : Int) + off2 = (e : Int)) (he : t + 1 = e) (hx : qIn x) (k : qV l g X M e ls (qI (qB (0 < x)) :: st)) : qV l g X M pc ls (qI x :: st) := by
  subst he
  refine q_if_gt C t hd ht hx (fun h => q_iconst C h3 ?_) (fun h => q_iconst C h1 (q_goto C h2 ht2 ?_))
  · rw [q_bE (z := 1) (fun _ => rfl) (fun hp => by exfalso; omega)] at k; exact k
  · rw [q_bE (z := 0) (fun hp => by exfalso; omega) (fun _ => rfl)] at k; exact k
theorem q_tI_le (C : qCx l g X b own d) {x y : Int} {off off2 : Int} (t e : Nat) (hd : decode b pc = .ok (.if_icmp .le off, 3)) (h1 : decode b (pc + 3) = .ok (.iconst 1, 1)) (h2 : decode b (pc + 3 + 1) = .ok (.goto off2, 3)) (h3 : decode b t = .ok (.iconst 0, 1)) (ht : (pc : Int) + off = (t : Int)) (ht2 : ((pc + 3 + 1 : Nat) : Int) + off2 = (e : Int)) (he : t + 1 = e) (hx : qIn x) (hy : qIn y) (k : qV l g X M e ls (qI (qB (y < x)) :: st)) : qV l g X M pc ls (qI y :: qI x :: st) := by
  subst he
  refine q_icmp_le C t hd ht hx hy (fun h => q_iconst C h3 ?_) (fun h => q_iconst C h1 (q_goto C h2 ht2 ?_))
  · rw [q_bE (z := 0) (fun hp => by exfalso; omega) (fun _ => rfl)] at k; exact k
  · rw [q_bE (z := 1) (fun _ => rfl) (fun hp => by exfalso; omega)] at k; exact k
theorem q_tZ_le (C : qCx l g X b own d) {x : Int} {off off2 : Int} (t e : Nat) (hd : decode b pc = .ok (.ifCond .le off, 3)) (h1 : decode b (pc + 3) = .ok (.iconst 1, 1)) (h2 : decode b (pc + 3 + 1) = .ok (.goto off2, 3)) (h3 : decode b t = .ok (.iconst 0, 1)) (ht : (pc : Int) + off = (t : Int)) (ht2 : ((pc + 3 + 1 : Nat) : Int) + off2 = (e : Int)) (he : t + 1 = e) (hx : qIn x) (k : qV l g X M e ls (qI (qB (0 < x)) :: st)) : qV l g X M pc ls (qI x :: st) := by
  subst he
  refine q_if_le C t hd ht hx (fun h => q_iconst C h3 ?_) (fun h => q_iconst C h1 (q_goto C h2 ht2 ?_))
  · rw [q_bE (z := 0) (fun hp => by exfalso; omega) (fun _ => rfl)] at k; exact k
  · rw [q_bE (z := 1) (fun _ => rfl) (fun hp => by exfalso; omega)] at k; exact k
theorem q_tIn_le (C : qCx l g X b own d) {x y : Int} {off off2 : Int} (t e : Nat) (hd : decode b pc = .ok (.if_icmp .le off, 3)) (h1 : decode b (pc + 3) = .ok (.iconst 0, 1)) (h2 : decode b (pc + 3 + 1) = .ok (.goto off2, 3)) (h3 : decode b t = .ok (.iconst 1, 1)) (ht : (pc : Int) + off = (t : Int)) (ht2 : ((pc + 3 + 1 : Nat) : Int) + off2 = (e : Int)) (he : t + 1 = e) (hx : qIn x) (hy : qIn y) (k : qV l g X M e ls (qI (qB (x ≤ y)) :: st)) : qV l g X M pc ls (qI y :: qI x :: st) := by
  subst he
  refine q_icmp_le C t hd ht hx hy (fun h => q_iconst C h3 ?_) (fun h => q_iconst C h1 (q_goto C h2 ht2 ?_))
  · rw [q_bE (z := 1) (fun _ => rfl) (fun hp => by exfalso; omega)] at k; exact k
  · rw [q_bE (z := 0) (fun hp => by exfalso; omega) (fun _ => rfl)] at k; exact k
theorem q_tZn_le (C : qCx l g X b own d) {x : Int} {off off2 : Int} (t e : Nat) (hd : decode b pc = .ok (.ifCond .le off, 3)) (h1 : decode b (pc + 3) = .ok (.iconst 0, 1)) (h2 : decode b (pc + 3 + 1) = .ok (.goto off2, 3)) (h3 : decode b t = .ok (.iconst 1, 1)) (ht : (pc : Int) + off = (t : Int)) (ht2 : ((pc + 3 + 1 : Nat) : Int) + off2 = (e : Int)) (he : t + 1 = e) (hx : qIn x) (k : qV l g X M e ls (qI (qB (x ≤ 0)) :: st)) : qV l g X M pc ls (qI x :: st) := by
  subst he
  refine q_if_le C t hd ht hx (fun h => q_iconst C h3 ?_) (fun h => q_iconst C h1 (q_goto C h2 ht2 ?_))
  · rw [q_bE (z := 1) (fun _ => rfl) (fun hp => by exfalso; omega)] at k; exact k
  · rw [q_bE (z := 0) (fun hp => by exfalso; omega) (fun _ => rfl)] at k; exact k
theorem q_tB_eq (C : qCx l g X b own d) {p : Prop} [Decidable p] {off off2 : Int} (t e : Nat) (hd : decode b pc = .ok (.ifCond .eq off, 3)) (h1 : decode b (pc + 3) = .ok (.iconst 1, 1)) (h2 : decode b (pc + 3 + 1) = .ok (.goto off2, 3)) (h3 : decode b t = .ok (.iconst 0, 1)) (ht : (pc : Int) + off = (t : Int)) (ht2 : ((pc + 3 + 1 : Nat) : Int) + off2 = (e : Int)) (he : t + 1 = e) (k : qV l g X M e ls (qI (qB (p)) :: st)) : qV l g X M pc ls (qI (qB p) :: st) := by
  subst he
  refine q_ifeqB C t hd ht (fun h => q_iconst C h3 ?_) (fun h => q_iconst C h1 (q_goto C h2 ht2 ?_))
  · rw [q_bE (z := 0) (fun hp => by first | rfl | exact absurd hp h | exact absurd h hp) (fun hp => by first | rfl | exact absurd hp h | exact absurd h hp)] at k; exact k
  · rw [q_bE (z := 1) (fun hp => by first | rfl | exact absurd hp h | exact absurd h hp) (fun hp => by first | rfl | exact absurd hp h | exact absurd h hp)] at k; exact k
theorem q_tB_ne (C : qCx l g X b own d) {p : Prop} [Decidable p] {off off2 : Int} (t e : Nat) (hd : decode b pc = .ok (.ifCond .ne off, 3)) (h1 : decode b (pc + 3) = .ok (.iconst 1, 1)) (h2 : decode b (pc + 3 + 1) = .ok (.goto off2, 3)) (h3 : decode b t = .ok (.iconst 0, 1)) (ht : (pc : Int) + off = (t : Int)) (ht2 : ((pc + 3 + 1 : Nat) : Int) + off2 = (e : Int)) (he : t + 1 = e) (k : qV l g X M e ls (qI (qB (¬ p)) :: st)) : qV l g X M pc ls (qI (qB p) :: st) := by
  subst he
  refine q_ifneB C t hd ht (fun h => q_iconst C h3 ?_) (fun h => q_iconst C h1 (q_goto C h2 ht2 ?_))
  · rw [q_bE (z := 0) (fun hp => by first | rfl | exact absurd hp h | exact absurd h hp) (fun hp => by first | rfl | exact absurd hp h | exact absurd h hp)] at k; exact k
  · rw [q_bE (z := 1) (fun hp => by first | rfl | exact absurd hp h | exact absurd h hp) (fun hp => by first | rfl | exact absurd hp h | exact absurd h hp)] at k; exact k
theorem q_tBn_eq (C : qCx l g X b own d) {p : Prop} [Decidable p] {off off2 : Int} (t e : Nat) (hd : decode b pc = .ok (.ifCond .eq off, 3)) (h1 : decode b (pc + 3) = .ok (.iconst 0, 1)) (h2 : decode b (pc + 3 + 1) = .ok (.goto off2, 3)) (h3 : decode b t = .ok (.iconst 1, 1)) (ht : (pc : Int) + off = (t : Int)) (ht2 : ((pc + 3 + 1 : Nat) : Int) + off2 = (e : Int)) (he : t + 1 = e) (k : qV l g X M e ls (qI (qB (¬ p)) :: st)) : qV l g X M pc ls (qI (qB p) :: st) := by
  subst he
  refine q_ifeqB C t hd ht (fun h => q_iconst C h3 ?_) (fun h => q_iconst C h1 (q_goto C h2 ht2 ?_))
  · rw [q_bE (z := 1) (fun hp => by first | rfl | exact absurd hp h | exact absurd h hp) (fun hp => by first | rfl | exact absurd hp h | exact absurd h hp)] at k; exact k
  · rw [q_bE (z := 0) (fun hp => by first | rfl | exact absurd hp h | exact absurd h hp) (fun hp => by first | rfl | exact absurd hp h | exact absurd h hp)] at k; exact k
theorem q_tBn_ne (C : qCx l g X b own d) {p : Prop} [Decidable p] {off off2 : Int} (t e : Nat) (hd : decode b pc = .ok (.ifCond .ne off, 3)) (h1 : decode b (pc + 3) = .ok (.iconst 0, 1)) (h2 : decode b (pc + 3 + 1) = .ok (.goto off2, 3)) (h3 : decode b t = .ok (.iconst 1, 1)) (ht : (pc : Int) + off = (t : Int)) (ht2 : ((pc + 3 + 1 : Nat) : Int) + off2 = (e : Int)) (he : t + 1 = e) (k : qV l g X M e ls (qI (qB (p)) :: st)) : qV l g X M pc ls (qI (qB p) :: st) := by
  subst he
  refine q_ifneB C t hd ht (fun h => q_iconst C h3 ?_) (fun h => q_iconst C h1 (q_goto C h2 ht2 ?_))
  · rw [q_bE (z := 1) (fun hp => by first | rfl | exact absurd hp h | exact absurd h hp) (fun hp => by first | rfl | exact absurd hp h | exact absurd h hp)] at k; exact k
  · rw [q_bE (z := 0) (fun hp => by first | rfl | exact absurd hp h | exact absurd h hp) (fun hp => by first | rfl | exact absurd hp h | exact absurd h hp)] at k; exact k
end QTERN
end
section
theorem dJ6_bitCount_0f7a4_0 : decode cJ6_bitCount_0f7a4 0 = .ok (.iload_n 0, 1) := by decide +kernel
theorem dJ6_bitCount_0f7a4_1 : decode cJ6_bitCount_0f7a4 1 = .ok (.iload_n 0, 1) := by decide +kernel
theorem dJ6_bitCount_0f7a4_2 : decode cJ6_bitCount_0f7a4 2 = .ok (.iconst 1, 1) := by decide +kernel
theorem dJ6_bitCount_0f7a4_3 : decode cJ6_bitCount_0f7a4 3 = .ok (.iushr, 1) := by decide +kernel
theorem dJ6_bitCount_0f7a4_4 : decode cJ6_bitCount_0f7a4 4 = .ok (.ldc_w 265, 3) := by decide +kernel
theorem dJ6_bitCount_0f7a4_7 : decode cJ6_bitCount_0f7a4 7 = .ok (.iand, 1) := by decide +kernel
theorem dJ6_bitCount_0f7a4_8 : decode cJ6_bitCount_0f7a4 8 = .ok (.isub, 1) := by decide +kernel
theorem dJ6_bitCount_0f7a4_9 : decode cJ6_bitCount_0f7a4 9 = .ok (.istore_n 0, 1) := by decide +kernel
theorem dJ6_bitCount_0f7a4_10 : decode cJ6_bitCount_0f7a4 10 = .ok (.iload_n 0, 1) := by decide +kernel
theorem dJ6_bitCount_0f7a4_11 : decode cJ6_bitCount_0f7a4 11 = .ok (.ldc_w 266, 3) := by decide +kernel
theorem dJ6_bitCount_0f7a4_14 : decode cJ6_bitCount_0f7a4 14 = .ok (.iand, 1) := by decide +kernel
theorem dJ6_bitCount_0f7a4_15 : decode cJ6_bitCount_0f7a4 15 = .ok (.iload_n 0, 1) := by decide +kernel
theorem dJ6_bitCount_0f7a4_16 : decode cJ6_bitCount_0f7a4 16 = .ok (.iconst 2, 1) := by decide +kernel
theorem dJ6_bitCount_0f7a4_17 : decode cJ6_bitCount_0f7a4 17 = .ok (.iushr, 1) := by decide +kernel
theorem dJ6_bitCount_0f7a4_18 : decode cJ6_bitCount_0f7a4 18 = .ok (.ldc_w 266, 3) := by decide +kernel
theorem dJ6_bitCount_0f7a4_21 : decode cJ6_bitCount_0f7a4 21 = .ok (.iand, 1) := by decide +kernel
theorem dJ6_bitCount_0f7a4_22 : decode cJ6_bitCount_0f7a4 22 = .ok (.iadd, 1) := by decide +kernel
theorem dJ6_bitCount_0f7a4_23 : decode cJ6_bitCount_0f7a4 23 = .ok (.istore_n 0, 1) := by decide +kernel
theorem dJ6_bitCount_0f7a4_24 : decode cJ6_bitCount_0f7a4 24 = .ok (.iload_n 0, 1) := by decide +kernel
theorem dJ6_bitCount_0f7a4_25 : decode cJ6_bitCount_0f7a4 25 = .ok (.iload_n 0, 1) := by decide +kernel
theorem dJ6_bitCount_0f7a4_26 : decode cJ6_bitCount_0f7a4 26 = .ok (.iconst 4, 1) := by decide +kernel
theorem dJ6_bitCount_0f7a4_27 : decode cJ6_bitCount_0f7a4 27 = .ok (.iushr, 1) := by decide +kernel
theorem dJ6_bitCount_0f7a4_28 : decode cJ6_bitCount_0f7a4 28 = .ok (.iadd, 1) := by decide +kernel
theorem dJ6_bitCount_0f7a4_29 : decode cJ6_bitCount_0f7a4 29 = .ok (.ldc_w 267, 3) := by decide +kernel
theorem dJ6_bitCount_0f7a4_32 : decode cJ6_bitCount_0f7a4 32 = .ok (.iand, 1) := by decide +kernel
theorem dJ6_bitCount_0f7a4_33 : decode cJ6_bitCount_0f7a4 33 = .ok (.istore_n 0, 1) := by decide +kernel
theorem dJ6_bitCount_0f7a4_34 : decode cJ6_bitCount_0f7a4 34 = .ok (.iload_n 0, 1) := by decide +kernel
theorem dJ6_bitCount_0f7a4_35 : decode cJ6_bitCount_0f7a4 35 = .ok (.iload_n 0, 1) := by decide +kernel
theorem dJ6_bitCount_0f7a4_36 : decode cJ6_bitCount_0f7a4 36 = .ok (.bipush 8, 2) := by decide +kernel
theorem dJ6_bitCount_0f7a4_38 : decode cJ6_bitCount_0f7a4 38 = .ok (.iushr, 1) := by decide +kernel
theorem dJ6_bitCount_0f7a4_39 : decode cJ6_bitCount_0f7a4 39 = .ok (.iadd, 1) := by decide +kernel
theorem dJ6_bitCount_0f7a4_40 : decode cJ6_bitCount_0f7a4 40 = .ok (.istore_n 0, 1) := by decide +kernel
theorem dJ6_bitCount_0f7a4_41 : decode cJ6_bitCount_0f7a4 41 = .ok (.iload_n 0, 1) := by decide +kernel
theorem dJ6_bitCount_0f7a4_42 : decode cJ6_bitCount_0f7a4 42 = .ok (.iload_n 0, 1) := by decide +kernel
theorem dJ6_bitCount_0f7a4_43 : decode cJ6_bitCount_0f7a4 43 = .ok (.bipush 16, 2) := by decide +kernel
theorem dJ6_bitCount_0f7a4_45 : decode cJ6_bitCount_0f7a4 45 = .ok (.iushr, 1) := by decide +kernel
theorem dJ6_bitCount_0f7a4_46 : decode cJ6_bitCount_0f7a4 46 = .ok (.iadd, 1) := by decide +kernel
theorem dJ6_bitCount_0f7a4_47 : decode cJ6_bitCount_0f7a4 47 = .ok (.istore_n 0, 1) := by decide +kernel
theorem dJ6_bitCount_0f7a4_48 : decode cJ6_bitCount_0f7a4 48 = .ok (.iload_n 0, 1) := by decide +kernel
theorem dJ6_bitCount_0f7a4_49 : decode cJ6_bitCount_0f7a4 49 = .ok (.bipush 63, 2) := by decide +kernel
theorem dJ6_bitCount_0f7a4_51 : decode cJ6_bitCount_0f7a4 51 = .ok (.iand, 1) := by decide +kernel
theorem dJ6_bitCount_0f7a4_52 : decode cJ6_bitCount_0f7a4 52 = .ok (.ireturn, 1) := by decide +kernel
set_option maxRecDepth 4000 in
set_option maxHeartbeats 4000000 in
theorem m_J6_bitCount_0f7a4 (l : Launch) (g : qGm) (M : qMem) {s : Int} (h0 : 0 ≤ s) (h1 : s < 64) : qOk l g 1 yJ6_bitCount_0f7a4 cJ6_bitCount_0f7a4 1 (some .int) [qI s] M (qEv (some (sPop s)) M) := by
  refine q_ok (by decide +kernel) (Nat.le_of_ble_eq_true rfl) (fun X C' hn => ?_)
  have C := C'.1
  refine q_iloadn C dJ6_bitCount_0f7a4_0 rfl ?_
  refine q_iloadn C dJ6_bitCount_0f7a4_1 rfl ?_
  refine q_iconst C dJ6_bitCount_0f7a4_2 ?_
  refine q_iushr C dJ6_bitCount_0f7a4_3 ?_
  refine q_ldcw C (z := 1431655765) q_ci_RJ6_265 dJ6_bitCount_0f7a4_4 ?_
  refine q_iand C dJ6_bitCount_0f7a4_7 ?_
  refine q_isub C dJ6_bitCount_0f7a4_8 ?_
  refine q_istoren C dJ6_bitCount_0f7a4_9 hn (by decide) rfl ?_
  refine q_iloadn C dJ6_bitCount_0f7a4_10 rfl ?_
  refine q_ldcw C (z := 858993459) q_ci_RJ6_266 dJ6_bitCount_0f7a4_11 ?_
  refine q_iand C dJ6_bitCount_0f7a4_14 ?_
  refine q_iloadn C dJ6_bitCount_0f7a4_15 rfl ?_
  refine q_iconst C dJ6_bitCount_0f7a4_16 ?_
  refine q_iushr C dJ6_bitCount_0f7a4_17 ?_
  refine q_ldcw C (z := 858993459) q_ci_RJ6_266 dJ6_bitCount_0f7a4_18 ?_
  refine q_iand C dJ6_bitCount_0f7a4_21 ?_
  refine q_iadd C dJ6_bitCount_0f7a4_22 ?_
  refine q_istoren C dJ6_bitCount_0f7a4_23 hn (by decide) rfl ?_
  refine q_iloadn C dJ6_bitCount_0f7a4_24 rfl ?_
  refine q_iloadn C dJ6_bitCount_0f7a4_25 rfl ?_
  refine q_iconst C dJ6_bitCount_0f7a4_26 ?_
  refine q_iushr C dJ6_bitCount_0f7a4_27 ?_
  refine q_iadd C dJ6_bitCount_0f7a4_28 ?_
  refine q_ldcw C (z := 252645135) q_ci_RJ6_267 dJ6_bitCount_0f7a4_29 ?_
  refine q_iand C dJ6_bitCount_0f7a4_32 ?_
  refine q_istoren C dJ6_bitCount_0f7a4_33 hn (by decide) rfl ?_
  refine q_iloadn C dJ6_bitCount_0f7a4_34 rfl ?_
  refine q_iloadn C dJ6_bitCount_0f7a4_35 rfl ?_
  refine q_bipush C dJ6_bitCount_0f7a4_36 (by decide) ?_
  refine q_iushr C dJ6_bitCount_0f7a4_38 ?_
  refine q_iadd C dJ6_bitCount_0f7a4_39 ?_
  refine q_istoren C dJ6_bitCount_0f7a4_40 hn (by decide) rfl ?_
  refine q_iloadn C dJ6_bitCount_0f7a4_41 rfl ?_
  refine q_iloadn C dJ6_bitCount_0f7a4_42 rfl ?_
  refine q_bipush C dJ6_bitCount_0f7a4_43 (by decide) ?_
  refine q_iushr C dJ6_bitCount_0f7a4_45 ?_
  refine q_iadd C dJ6_bitCount_0f7a4_46 ?_
  refine q_istoren C dJ6_bitCount_0f7a4_47 hn (by decide) rfl ?_
  refine q_iloadn C dJ6_bitCount_0f7a4_48 rfl ?_
  refine q_bipush C dJ6_bitCount_0f7a4_49 (by decide) ?_
  refine q_iand C dJ6_bitCount_0f7a4_51 ?_
  refine q_iret C' dJ6_bitCount_0f7a4_52 (by exact q_andIn _ _) ?_
  refine ⟨congrArg some ?_, rfl⟩
  obtain ⟨k, rfl⟩ := Int.eq_ofNat_of_zero_le h0
  have hk : k < 64 := by omega
  clear C C' hn h0 h1
  revert hk
  revert k
  decide +kernel
theorem dX1_isSign_0 : decode cX1_isSign 0 = .ok (.iload_n 0, 1) := by decide +kernel
theorem dX1_isSign_1 : decode cX1_isSign 1 = .ok (.ifCond .lt 13, 3) := by decide +kernel
theorem dX1_isSign_4 : decode cX1_isSign 4 = .ok (.iload_n 0, 1) := by decide +kernel
theorem dX1_isSign_5 : decode cX1_isSign 5 = .ok (.bipush 48, 2) := by decide +kernel
theorem dX1_isSign_7 : decode cX1_isSign 7 = .ok (.if_icmp .ge 7, 3) := by decide +kernel
theorem dX1_isSign_10 : decode cX1_isSign 10 = .ok (.iconst 1, 1) := by decide +kernel
theorem dX1_isSign_11 : decode cX1_isSign 11 = .ok (.goto 4, 3) := by decide +kernel
theorem dX1_isSign_14 : decode cX1_isSign 14 = .ok (.iconst 0, 1) := by decide +kernel
theorem dX1_isSign_15 : decode cX1_isSign 15 = .ok (.ireturn, 1) := by decide +kernel
set_option maxRecDepth 4000 in
set_option maxHeartbeats 4000000 in
theorem m_X1_isSign (l : Launch) (g : qGm) (M : qMem) {a : Int} (ha : qIn a) : qOk l g 1 yX1_isSign cX1_isSign 1 (some .boolean) [qI a] M (qEv (some (qB (0 ≤ a ∧ a < 48))) M) := by
  refine q_ok (by decide +kernel) (Nat.le_of_ble_eq_true rfl) (fun X C' hn => ?_)
  have C := C'.1
  refine q_iloadn C dX1_isSign_0 rfl ?_
  refine q_if_lt C 14 dX1_isSign_1 (by decide) (by first | assumption | omega | exact q_tin _) (fun h1 => ?_) (fun h1 => ?_)
  · refine q_iconst C dX1_isSign_14 ?_
    refine q_zret C' dX1_isSign_15 (by first | omega | exact q_b01 _ | simp) ?_
    refine ⟨?_, rfl⟩
    congr 1
    unfold qB
    split <;> omega
  · refine q_iloadn C dX1_isSign_4 rfl ?_
    refine q_bipush C dX1_isSign_5 (by decide) ?_
    refine q_icmp_ge C 14 dX1_isSign_7 (by decide) (by first | assumption | omega | exact q_tin _) (by first | assumption | omega | exact q_tin _) (fun h7 => ?_) (fun h7 => ?_)
    · refine q_iconst C dX1_isSign_14 ?_
      refine q_zret C' dX1_isSign_15 (by first | omega | exact q_b01 _ | simp) ?_
      refine ⟨?_, rfl⟩
      congr 1
      unfold qB
      split <;> omega
    · refine q_iconst C dX1_isSign_10 ?_
      refine q_goto C (tgt := 15) dX1_isSign_11 (by decide) ?_
      refine q_zret C' dX1_isSign_15 (by first | omega | exact q_b01 _ | simp) ?_
      refine ⟨?_, rfl⟩
      congr 1
      unfold qB
      split <;> omega
theorem dX1_partOf_0 : decode cX1_partOf 0 = .ok (.iload_n 1, 1) := by decide +kernel
theorem dX1_partOf_1 : decode cX1_partOf 1 = .ok (.iconst 4, 1) := by decide +kernel
theorem dX1_partOf_2 : decode cX1_partOf 2 = .ok (.if_icmp .ne 10, 3) := by decide +kernel
theorem dX1_partOf_5 : decode cX1_partOf 5 = .ok (.iload_n 0, 1) := by decide +kernel
theorem dX1_partOf_6 : decode cX1_partOf 6 = .ok (.bipush 16, 2) := by decide +kernel
theorem dX1_partOf_8 : decode cX1_partOf 8 = .ok (.idiv, 1) := by decide +kernel
theorem dX1_partOf_9 : decode cX1_partOf 9 = .ok (.goto 8, 3) := by decide +kernel
theorem dX1_partOf_12 : decode cX1_partOf 12 = .ok (.iload_n 0, 1) := by decide +kernel
theorem dX1_partOf_13 : decode cX1_partOf 13 = .ok (.iload_n 1, 1) := by decide +kernel
theorem dX1_partOf_14 : decode cX1_partOf 14 = .ok (.ishr, 1) := by decide +kernel
theorem dX1_partOf_15 : decode cX1_partOf 15 = .ok (.iconst 1, 1) := by decide +kernel
theorem dX1_partOf_16 : decode cX1_partOf 16 = .ok (.iand, 1) := by decide +kernel
theorem dX1_partOf_17 : decode cX1_partOf 17 = .ok (.ireturn, 1) := by decide +kernel
set_option maxRecDepth 4000 in
set_option maxHeartbeats 4000000 in
theorem m_X1_partOf (l : Launch) (g : qGm) (M : qMem) {a : Int} (ha : 0 ≤ a ∧ a < 48) {k : Int} (hk : 0 ≤ k ∧ k < 5) : qOk l g 1 yX1_partOf cX1_partOf 2 (some .int) [qI a, qI k] M (qEv (some (sPart a k)) M) := by
  refine q_ok (by decide +kernel) (Nat.le_of_ble_eq_true rfl) (fun X C' hn => ?_)
  have C := C'.1
  refine q_iloadn C dX1_partOf_0 rfl ?_
  refine q_iconst C dX1_partOf_1 ?_
  refine q_icmp_ne C 12 dX1_partOf_2 (by decide) (by first | assumption | omega | exact q_tin _) (by first | assumption | omega | exact q_tin _) (fun h2 => ?_) (fun h2 => ?_)
  · refine q_iloadn C dX1_partOf_12 rfl ?_
    refine q_iloadn C dX1_partOf_13 rfl ?_
    refine q_ishr C dX1_partOf_14 ?_
    refine q_iconst C dX1_partOf_15 ?_
    refine q_iand C dX1_partOf_16 ?_
    refine q_iret C' dX1_partOf_17 (by first | assumption | omega | exact q_tin _) ?_
    refine ⟨congrArg some ?_, rfl⟩
    unfold sPart
    split <;> first | rfl | (exfalso; omega) | (exact q_shr1 (by omega) (by omega) (by omega) (by omega))
  · refine q_iloadn C dX1_partOf_5 rfl ?_
    refine q_bipush C dX1_partOf_6 (by decide) ?_
    refine q_idiv C dX1_partOf_8 (by omega) (by omega) (by omega) (by omega) ?_
    refine q_goto C (tgt := 17) dX1_partOf_9 (by decide) ?_
    refine q_iret C' dX1_partOf_17 (by first | assumption | omega | exact q_tin _) ?_
    refine ⟨congrArg some ?_, rfl⟩
    unfold sPart
    split <;> first | rfl | (exfalso; omega) | (exact q_shr1 (by omega) (by omega) (by omega) (by omega))
theorem dX1_meaning_0 : decode cX1_meaning 0 = .ok (.iload_n 0, 1) := by decide +kernel
theorem dX1_meaning_1 : decode cX1_meaning 1 = .ok (.bipush 16, 2) := by decide +kernel
theorem dX1_meaning_3 : decode cX1_meaning 3 = .ok (.idiv, 1) := by decide +kernel
theorem dX1_meaning_4 : decode cX1_meaning 4 = .ok (.iconst 2, 1) := by decide +kernel
theorem dX1_meaning_5 : decode cX1_meaning 5 = .ok (.if_icmp .ne 6, 3) := by decide +kernel
theorem dX1_meaning_8 : decode cX1_meaning 8 = .ok (.bipush 7, 2) := by decide +kernel
theorem dX1_meaning_10 : decode cX1_meaning 10 = .ok (.ireturn, 1) := by decide +kernel
theorem dX1_meaning_11 : decode cX1_meaning 11 = .ok (.iload_n 0, 1) := by decide +kernel
theorem dX1_meaning_12 : decode cX1_meaning 12 = .ok (.iconst 4, 1) := by decide +kernel
theorem dX1_meaning_13 : decode cX1_meaning 13 = .ok (.iand, 1) := by decide +kernel
theorem dX1_meaning_14 : decode cX1_meaning 14 = .ok (.ifCond .eq 7, 3) := by decide +kernel
theorem dX1_meaning_17 : decode cX1_meaning 17 = .ok (.iconst 3, 1) := by decide +kernel
theorem dX1_meaning_18 : decode cX1_meaning 18 = .ok (.goto 4, 3) := by decide +kernel
theorem dX1_meaning_21 : decode cX1_meaning 21 = .ok (.iconst 0, 1) := by decide +kernel
theorem dX1_meaning_22 : decode cX1_meaning 22 = .ok (.istore_n 1, 1) := by decide +kernel
theorem dX1_meaning_23 : decode cX1_meaning 23 = .ok (.iload_n 0, 1) := by decide +kernel
theorem dX1_meaning_24 : decode cX1_meaning 24 = .ok (.bipush 8, 2) := by decide +kernel
theorem dX1_meaning_26 : decode cX1_meaning 26 = .ok (.iand, 1) := by decide +kernel
theorem dX1_meaning_27 : decode cX1_meaning 27 = .ok (.ifCond .eq 7, 3) := by decide +kernel
theorem dX1_meaning_30 : decode cX1_meaning 30 = .ok (.iconst 1, 1) := by decide +kernel
theorem dX1_meaning_31 : decode cX1_meaning 31 = .ok (.goto 4, 3) := by decide +kernel
theorem dX1_meaning_34 : decode cX1_meaning 34 = .ok (.iconst 0, 1) := by decide +kernel
theorem dX1_meaning_35 : decode cX1_meaning 35 = .ok (.istore_n 2, 1) := by decide +kernel
theorem dX1_meaning_36 : decode cX1_meaning 36 = .ok (.iload_n 0, 1) := by decide +kernel
theorem dX1_meaning_37 : decode cX1_meaning 37 = .ok (.iconst 1, 1) := by decide +kernel
theorem dX1_meaning_38 : decode cX1_meaning 38 = .ok (.iand, 1) := by decide +kernel
theorem dX1_meaning_39 : decode cX1_meaning 39 = .ok (.iload_n 0, 1) := by decide +kernel
theorem dX1_meaning_40 : decode cX1_meaning 40 = .ok (.iconst 2, 1) := by decide +kernel
theorem dX1_meaning_41 : decode cX1_meaning 41 = .ok (.iand, 1) := by decide +kernel
theorem dX1_meaning_42 : decode cX1_meaning 42 = .ok (.iconst 2, 1) := by decide +kernel
theorem dX1_meaning_43 : decode cX1_meaning 43 = .ok (.idiv, 1) := by decide +kernel
theorem dX1_meaning_44 : decode cX1_meaning 44 = .ok (.iadd, 1) := by decide +kernel
theorem dX1_meaning_45 : decode cX1_meaning 45 = .ok (.iload_n 1, 1) := by decide +kernel
theorem dX1_meaning_46 : decode cX1_meaning 46 = .ok (.iadd, 1) := by decide +kernel
theorem dX1_meaning_47 : decode cX1_meaning 47 = .ok (.iload_n 2, 1) := by decide +kernel
theorem dX1_meaning_48 : decode cX1_meaning 48 = .ok (.iadd, 1) := by decide +kernel
theorem dX1_meaning_49 : decode cX1_meaning 49 = .ok (.ireturn, 1) := by decide +kernel
set_option maxRecDepth 4000 in
set_option maxHeartbeats 4000000 in
theorem m_X1_meaning (l : Launch) (g : qGm) (M : qMem) {a : Int} (ha : 0 ≤ a ∧ a < 48) : qOk l g 1 yX1_meaning cX1_meaning 3 (some .int) [qI a] M (qEv (some (sMean a)) M) := by
  refine q_ok (by decide +kernel) (Nat.le_of_ble_eq_true rfl) (fun X C' hn => ?_)
  have C := C'.1
  have e1 := q_and1 ha.1 ha.2
  have e2 := q_and2 ha.1 ha.2
  have e4 := q_and4 ha.1 ha.2
  have e8 := q_and8 ha.1 ha.2
  refine q_iloadn C dX1_meaning_0 rfl ?_
  refine q_bipush C dX1_meaning_1 (by decide) ?_
  refine q_idiv C dX1_meaning_3 (by omega) (by omega) (by omega) (by omega) ?_
  refine q_iconst C dX1_meaning_4 ?_
  refine q_icmp_ne C 11 dX1_meaning_5 (by decide) (by first | assumption | omega | exact q_tin _) (by first | assumption | omega | exact q_tin _) (fun h5 => ?_) (fun h5 => ?_)
  · refine q_iloadn C dX1_meaning_11 rfl ?_
    refine q_iconst C dX1_meaning_12 ?_
    refine q_iand C dX1_meaning_13 ?_
    refine q_if_eq C 21 dX1_meaning_14 (by decide) (by first | assumption | omega | exact q_tin _) (fun h14 => ?_) (fun h14 => ?_)
    · refine q_iconst C dX1_meaning_21 ?_
      refine q_istoren C dX1_meaning_22 hn (by decide) rfl ?_
      refine q_iloadn C dX1_meaning_23 rfl ?_
      refine q_bipush C dX1_meaning_24 (by decide) ?_
      refine q_iand C dX1_meaning_26 ?_
      refine q_if_eq C 34 dX1_meaning_27 (by decide) (by first | assumption | omega | exact q_tin _) (fun h27 => ?_) (fun h27 => ?_)
      · refine q_iconst C dX1_meaning_34 ?_
        refine q_istoren C dX1_meaning_35 hn (by decide) rfl ?_
        refine q_iloadn C dX1_meaning_36 rfl ?_
        refine q_iconst C dX1_meaning_37 ?_
        refine q_iand C dX1_meaning_38 ?_
        refine q_iloadn C dX1_meaning_39 rfl ?_
        refine q_iconst C dX1_meaning_40 ?_
        refine q_iand C dX1_meaning_41 ?_
        refine q_iconst C dX1_meaning_42 ?_
        refine q_idiv C dX1_meaning_43 (by omega) (by omega) (by omega) (by omega) ?_
        refine q_iadd C dX1_meaning_44 ?_
        refine q_iloadn C dX1_meaning_45 rfl ?_
        refine q_iadd C dX1_meaning_46 ?_
        refine q_iloadn C dX1_meaning_47 rfl ?_
        refine q_iadd C dX1_meaning_48 ?_
        refine q_iret C' dX1_meaning_49 (by first | assumption | omega | exact q_tin _) ?_
        refine ⟨congrArg some ?_, rfl⟩
        unfold sMean
        split <;> omega
      · refine q_iconst C dX1_meaning_30 ?_
        refine q_goto C (tgt := 35) dX1_meaning_31 (by decide) ?_
        refine q_istoren C dX1_meaning_35 hn (by decide) rfl ?_
        refine q_iloadn C dX1_meaning_36 rfl ?_
        refine q_iconst C dX1_meaning_37 ?_
        refine q_iand C dX1_meaning_38 ?_
        refine q_iloadn C dX1_meaning_39 rfl ?_
        refine q_iconst C dX1_meaning_40 ?_
        refine q_iand C dX1_meaning_41 ?_
        refine q_iconst C dX1_meaning_42 ?_
        refine q_idiv C dX1_meaning_43 (by omega) (by omega) (by omega) (by omega) ?_
        refine q_iadd C dX1_meaning_44 ?_
        refine q_iloadn C dX1_meaning_45 rfl ?_
        refine q_iadd C dX1_meaning_46 ?_
        refine q_iloadn C dX1_meaning_47 rfl ?_
        refine q_iadd C dX1_meaning_48 ?_
        refine q_iret C' dX1_meaning_49 (by first | assumption | omega | exact q_tin _) ?_
        refine ⟨congrArg some ?_, rfl⟩
        unfold sMean
        split <;> omega
    · refine q_iconst C dX1_meaning_17 ?_
      refine q_goto C (tgt := 22) dX1_meaning_18 (by decide) ?_
      refine q_istoren C dX1_meaning_22 hn (by decide) rfl ?_
      refine q_iloadn C dX1_meaning_23 rfl ?_
      refine q_bipush C dX1_meaning_24 (by decide) ?_
      refine q_iand C dX1_meaning_26 ?_
      refine q_if_eq C 34 dX1_meaning_27 (by decide) (by first | assumption | omega | exact q_tin _) (fun h27 => ?_) (fun h27 => ?_)
      · refine q_iconst C dX1_meaning_34 ?_
        refine q_istoren C dX1_meaning_35 hn (by decide) rfl ?_
        refine q_iloadn C dX1_meaning_36 rfl ?_
        refine q_iconst C dX1_meaning_37 ?_
        refine q_iand C dX1_meaning_38 ?_
        refine q_iloadn C dX1_meaning_39 rfl ?_
        refine q_iconst C dX1_meaning_40 ?_
        refine q_iand C dX1_meaning_41 ?_
        refine q_iconst C dX1_meaning_42 ?_
        refine q_idiv C dX1_meaning_43 (by omega) (by omega) (by omega) (by omega) ?_
        refine q_iadd C dX1_meaning_44 ?_
        refine q_iloadn C dX1_meaning_45 rfl ?_
        refine q_iadd C dX1_meaning_46 ?_
        refine q_iloadn C dX1_meaning_47 rfl ?_
        refine q_iadd C dX1_meaning_48 ?_
        refine q_iret C' dX1_meaning_49 (by first | assumption | omega | exact q_tin _) ?_
        refine ⟨congrArg some ?_, rfl⟩
        unfold sMean
        split <;> omega
      · refine q_iconst C dX1_meaning_30 ?_
        refine q_goto C (tgt := 35) dX1_meaning_31 (by decide) ?_
        refine q_istoren C dX1_meaning_35 hn (by decide) rfl ?_
        refine q_iloadn C dX1_meaning_36 rfl ?_
        refine q_iconst C dX1_meaning_37 ?_
        refine q_iand C dX1_meaning_38 ?_
        refine q_iloadn C dX1_meaning_39 rfl ?_
        refine q_iconst C dX1_meaning_40 ?_
        refine q_iand C dX1_meaning_41 ?_
        refine q_iconst C dX1_meaning_42 ?_
        refine q_idiv C dX1_meaning_43 (by omega) (by omega) (by omega) (by omega) ?_
        refine q_iadd C dX1_meaning_44 ?_
        refine q_iloadn C dX1_meaning_45 rfl ?_
        refine q_iadd C dX1_meaning_46 ?_
        refine q_iloadn C dX1_meaning_47 rfl ?_
        refine q_iadd C dX1_meaning_48 ?_
        refine q_iret C' dX1_meaning_49 (by first | assumption | omega | exact q_tin _) ?_
        refine ⟨congrArg some ?_, rfl⟩
        unfold sMean
        split <;> omega
  · refine q_bipush C dX1_meaning_8 (by decide) ?_
    refine q_iret C' dX1_meaning_10 (by first | assumption | omega | exact q_tin _) ?_
    refine ⟨congrArg some ?_, rfl⟩
    unfold sMean
    split <;> omega
end
section
/-! sums, first places, greatest values, over 0 .. i-1 -/
def sSumN (f : Int → Int) : Nat → Int
  | 0 => 0
  | n + 1 => sSumN f n + f n
def sSum (f : Int → Int) (i : Int) : Int := sSumN f i.toNat
theorem sSum_0 (f : Int → Int) : sSum f 0 = 0 := rfl
theorem sSum_s (f : Int → Int) {i : Int} (h : 0 ≤ i) : sSum f (i + 1) = sSum f i + f i := by
  unfold sSum
  rw [show (i + 1).toNat = i.toNat + 1 by omega, sSumN, Int.toNat_of_nonneg h]
theorem sSum_c {f f' : Int → Int} {n : Int} (h : ∀ k, 0 ≤ k → k < n → f k = f' k) : sSum f n = sSum f' n := by
  unfold sSum
  have : ∀ m : Nat, m ≤ n.toNat → sSumN f m = sSumN f' m := by
    intro m
    induction m with
    | zero => intro _; rfl
    | succ m ih => intro hm; rw [sSumN, sSumN, ih (by omega), h m (by omega) (by omega)]
  exact this _ (Nat.le_refl _)
theorem sSum_b {f : Int → Int} {n B : Int} (hn : 0 ≤ n) (h : ∀ k, 0 ≤ k → k < n → 0 ≤ f k ∧ f k ≤ B) : 0 ≤ sSum f n ∧ sSum f n ≤ B * n := by
  unfold sSum
  have : ∀ m : Nat, m ≤ n.toNat → 0 ≤ sSumN f m ∧ sSumN f m ≤ B * m := by
    intro m
    induction m with
    | zero => intro _; simp [sSumN]
    | succ m ih =>
      intro hm
      have h1 := ih (by omega)
      have h2 := h m (by omega) (by omega)
      rw [sSumN]
      have e : B * ((m + 1 : Nat) : Int) = B * m + B := by rw [Int.natCast_add, Int.mul_add]; simp
      rw [e]
      omega
  have h3 := this _ (Nat.le_refl _)
  rw [Int.toNat_of_nonneg hn] at h3
  exact h3
theorem sSum_z {f : Int → Int} {n m : Int} (h0 : 0 ≤ n) (h1 : n ≤ m) (h : ∀ k, n ≤ k → k < m → f k = 0) : sSum f m = sSum f n := by
  have : ∀ j : Nat, n + j ≤ m → sSum f (n + j) = sSum f n := by
    intro j
    induction j with
    | zero => intro _; simp
    | succ j ih =>
      intro hj
      rw [show n + ((j + 1 : Nat) : Int) = n + j + 1 by omega, sSum_s f (by omega), ih (by omega), h _ (by omega) (by omega)]
      simp
  have h2 := this (m - n).toNat (by omega)
  rw [show n + ((m - n).toNat : Int) = m by omega] at h2
  exact h2
/-- the first place of i .. n-1 where it is so -/
def sFrN (p : Int → Bool) (n : Int) : Nat → Int
  | 0 => -1
  | j + 1 => if p (n - j - 1) then n - j - 1 else sFrN p n j
def sFr (p : Int → Bool) (n i : Int) : Int := sFrN p n (n - i).toNat
theorem sFr_e (p : Int → Bool) (n : Int) : sFr p n n = -1 := by unfold sFr; rw [show (n - n).toNat = 0 by omega]; rfl
theorem sFr_s (p : Int → Bool) {n i : Int} (h : i < n) : sFr p n i = if p i then i else sFr p n (i + 1) := by
  unfold sFr
  rw [show (n - i).toNat = (n - (i + 1)).toNat + 1 by omega, sFrN, show n - ((n - (i + 1)).toNat : Int) - 1 = i by omega]
theorem sFr_c {p p' : Int → Bool} {n i : Int} (h : ∀ k, i ≤ k → k < n → p k = p' k) : sFr p n i = sFr p' n i := by
  unfold sFr
  have : ∀ j : Nat, (j : Int) ≤ n - i → sFrN p n j = sFrN p' n j := by
    intro j
    induction j with
    | zero => intro _; rfl
    | succ j ih => intro hj; rw [sFrN, sFrN, ih (by omega), h _ (by omega) (by omega)]
  by_cases hi : i ≤ n
  · exact this _ (by omega)
  · rw [show (n - i).toNat = 0 by omega]; rfl
theorem sFr_in (p : Int → Bool) {n i : Int} (h : 0 ≤ i) : sFr p n i = -1 ∨ (i ≤ sFr p n i ∧ sFr p n i < n ∧ p (sFr p n i) = true) := by
  unfold sFr
  have : ∀ j : Nat, (j : Int) ≤ n - i → sFrN p n j = -1 ∨ (n - j ≤ sFrN p n j ∧ sFrN p n j < n ∧ p (sFrN p n j) = true) := by
    intro j
    induction j with
    | zero => intro _; exact Or.inl rfl
    | succ j ih =>
      intro hj
      rw [sFrN]
      split
      · right
        refine ⟨by omega, by omega, by assumption⟩
      · rcases ih (by omega) with h1 | ⟨h1, h2, h3⟩
        · exact Or.inl h1
        · exact Or.inr ⟨by omega, h2, h3⟩
  by_cases hi : i ≤ n
  · rcases this (n - i).toNat (by omega) with h1 | ⟨h1, h2, h3⟩
    · exact Or.inl h1
    · exact Or.inr ⟨by omega, h2, h3⟩
  · rw [show (n - i).toNat = 0 by omega]; exact Or.inl rfl
/-- the greatest of b and f 0 .. f (i-1) -/
def sMxN (f : Int → Int) (b : Int) : Nat → Int
  | 0 => b
  | n + 1 => sMax (sMxN f b n) (f n)
def sMx (f : Int → Int) (b i : Int) : Int := sMxN f b i.toNat
theorem sMx_0 (f : Int → Int) (b : Int) : sMx f b 0 = b := rfl
theorem sMx_s (f : Int → Int) (b : Int) {i : Int} (h : 0 ≤ i) : sMx f b (i + 1) = sMax (sMx f b i) (f i) := by
  unfold sMx
  rw [show (i + 1).toNat = i.toNat + 1 by omega, sMxN, Int.toNat_of_nonneg h]
theorem sMx_c {f f' : Int → Int} {b n : Int} (h : ∀ k, 0 ≤ k → k < n → f k = f' k) : sMx f b n = sMx f' b n := by
  unfold sMx
  have : ∀ m : Nat, m ≤ n.toNat → sMxN f b m = sMxN f' b m := by
    intro m
    induction m with
    | zero => intro _; rfl
    | succ m ih => intro hm; rw [sMxN, sMxN, ih (by omega), h m (by omega) (by omega)]
  exact this _ (Nat.le_refl _)
theorem sMx_b {f : Int → Int} {b n B : Int} (hb : b ≤ B) (h : ∀ k, 0 ≤ k → k < n → f k ≤ B) : b ≤ sMx f b n ∧ sMx f b n ≤ B := by
  unfold sMx
  have : ∀ m : Nat, m ≤ n.toNat → b ≤ sMxN f b m ∧ sMxN f b m ≤ B := by
    intro m
    induction m with
    | zero => intro _; exact ⟨Int.le_refl _, hb⟩
    | succ m ih =>
      intro hm
      have h1 := ih (by omega)
      have h2 := h m (by omega) (by omega)
      have h3 := sMax_l (sMxN f b m) (f m)
      rw [sMxN]
      omega
  exact this _ (Nat.le_refl _)
/-! what a house hears: manners, worth, stuffing, prizes by their meanings, the sign -/
def sHr (mn w s : Int) (pr : Int → Int) (g : Int) : Int := sMax (w + s + 3 * pr (sMean g) - (if sSaid mn g then 0 else 10)) 0
theorem sHr_in {mn w s : Int} {pr : Int → Int} {g : Int} (h0 : 0 ≤ g) (h1 : g < 48) (hw : 0 ≤ w ∧ w ≤ 9) (hs : 0 ≤ s ∧ s ≤ 9) (hp : ∀ k, 0 ≤ k → k ≤ 7 → 0 ≤ pr k ∧ pr k ≤ 9) : 0 ≤ sHr mn w s pr g ∧ sHr mn w s pr g ≤ 45 := by
  have h2 := sMean_in h0 h1
  have h3 := hp _ h2.1 h2.2
  unfold sHr
  have h4 := sMax_l (w + s + 3 * pr (sMean g) - (if sSaid mn g then 0 else 10)) 0
  split at h4 <;> split <;> omega
/-- a season as a record: 0 manners, 1 worths, 2 ferns, 3 prizes, 4 how many comers, 5 how many houses -/
abbrev sSD : Type := Nat → Int → Int
def sHeard (sd : sSD) (v : Int → Int) (c h g : Int) : Int := sHr (sd 0 0) (sd 1 c) (if sHas (v (92 + c)) h then 0 else v (14 + c)) (fun k => sd 3 (8 * h + k)) g
def sAns (sd : sSD) (v : Int → Int) (c h g : Int) : Int := if sd 2 h ≤ sHeard sd v c h g then 2 else if v (2 + h) ≤ sHeard sd v c h g then 1 else 0
/-- the bounds of a season -/
def sRS (sd : sSD) : Prop := (-1 ≤ sd 0 0 ∧ sd 0 0 ≤ 2) ∧ (0 ≤ sd 4 0 ∧ sd 4 0 ≤ 6) ∧ (0 ≤ sd 5 0 ∧ sd 5 0 ≤ 6) ∧ (∀ c, 0 ≤ c → c < sd 4 0 → 0 ≤ sd 1 c ∧ sd 1 c ≤ 9) ∧ (∀ h, 0 ≤ h → h < sd 5 0 → 0 ≤ sd 2 h ∧ sd 2 h ≤ 40) ∧ (∀ k, 0 ≤ k → k < 8 * sd 5 0 → 0 ≤ sd 3 k ∧ sd 3 k ≤ 9) ∧ (sd 0 0 = -1 → sd 4 0 = 0 ∧ sd 5 0 = 0)
/-- the bounds of a row -/
def sRR (m n : Int) (v : Int → Int) : Prop := (0 ≤ v 0 ∧ v 0 ≤ 90030) ∧ (0 ≤ v 1 ∧ v 1 < 64) ∧ (∀ h, 0 ≤ h → h < n → 0 ≤ v (2 + h) ∧ v (2 + h) ≤ 40) ∧ (∀ c, 0 ≤ c → c < m → (0 ≤ v (8 + c) ∧ v (8 + c) ≤ 7) ∧ (0 ≤ v (14 + c) ∧ v (14 + c) ≤ 9) ∧ (0 ≤ v (92 + c) ∧ v (92 + c) < 64)) ∧ (∀ c h, 0 ≤ c → c < m → 0 ≤ h → h < n → (0 ≤ v (20 + (6 * c + h)) ∧ v (20 + (6 * c + h)) ≤ 999) ∧ (0 ≤ v (56 + (6 * c + h)) ∧ v (56 + (6 * c + h)) ≤ 3)) ∧ (0 ≤ v 98 ∧ v 98 ≤ 20)
theorem sHeard_in {sd : sSD} {v : Int → Int} (hs : sRS sd) (hv : sRR (sd 4 0) (sd 5 0) v) {c h g : Int} (hc : 0 ≤ c ∧ c < sd 4 0) (hh : 0 ≤ h ∧ h < sd 5 0) (hg : 0 ≤ g ∧ g < 48) : 0 ≤ sHeard sd v c h g ∧ sHeard sd v c h g ≤ 45 := by
  have h1 := hs.2.2.2.1 c hc.1 hc.2
  have h2 := (hv.2.2.2.1 c hc.1 hc.2).2.1
  refine sHr_in hg.1 hg.2 h1 (by split <;> omega) (fun k h3 h4 => hs.2.2.2.2.2.1 _ (by omega) (by omega))
/-- the first place of the greatest value above m0, and that value -/
def sAmN (f : Int → Int) (b m : Int) : Nat → Int × Int
  | 0 => (b, m)
  | n + 1 => if (sAmN f b m n).2 < f n then ((n : Int), f n) else sAmN f b m n
def sAm (f : Int → Int) (b m i : Int) : Int × Int := sAmN f b m i.toNat
theorem sAm_0 (f : Int → Int) (b m : Int) : sAm f b m 0 = (b, m) := rfl
theorem sAm_s (f : Int → Int) (b m : Int) {i : Int} (h : 0 ≤ i) : sAm f b m (i + 1) = if (sAm f b m i).2 < f i then (i, f i) else sAm f b m i := by
  unfold sAm
  rw [show (i + 1).toNat = i.toNat + 1 by omega, sAmN, Int.toNat_of_nonneg h]
theorem sAm_c {f f' : Int → Int} {b m n : Int} (h : ∀ k, 0 ≤ k → k < n → f k = f' k) : sAm f b m n = sAm f' b m n := by
  unfold sAm
  have : ∀ j : Nat, j ≤ n.toNat → sAmN f b m j = sAmN f' b m j := by
    intro j
    induction j with
    | zero => intro _; rfl
    | succ j ih => intro hj; rw [sAmN, sAmN, ih (by omega), h j (by omega) (by omega)]
  exact this _ (Nat.le_refl _)
theorem sAm_m {f : Int → Int} {b m : Int} {n : Int} : m ≤ (sAm f b m n).2 := by
  unfold sAm
  generalize n.toNat = j
  induction j with
  | zero => exact Int.le_refl _
  | succ j ih =>
    rw [sAmN]
    split
    · show m ≤ f j
      omega
    · exact ih
theorem sAm_z {f : Int → Int} {b m n k : Int} (h0 : 0 ≤ n) (h1 : n ≤ k) (h : ∀ i, n ≤ i → i < k → f i ≤ m) : sAm f b m k = sAm f b m n := by
  have : ∀ j : Nat, n + j ≤ k → sAm f b m (n + j) = sAm f b m n := by
    intro j
    induction j with
    | zero => intro _; simp
    | succ j ih =>
      intro hj
      have h3 := h (n + j) (by omega) (by omega)
      have h4 := sAm_m (f := f) (b := b) (m := m) (n := n + j)
      rw [show n + ((j + 1 : Nat) : Int) = n + j + 1 by omega, sAm_s f b m (by omega), if_neg (by omega), ih (by omega)]
  have h2 := this (k - n).toNat (by omega)
  rw [show n + ((k - n).toNat : Int) = k by omega] at h2
  exact h2
theorem sAm_b {f : Int → Int} {b m n : Int} (h0 : 0 ≤ n) : (sAm f b m n = (b, m)) ∨ (0 ≤ (sAm f b m n).1 ∧ (sAm f b m n).1 < n ∧ (sAm f b m n).2 = f (sAm f b m n).1) := by
  have : ∀ j : Nat, (j : Int) ≤ n → (sAmN f b m j = (b, m)) ∨ (0 ≤ (sAmN f b m j).1 ∧ (sAmN f b m j).1 < n ∧ (sAmN f b m j).2 = f (sAmN f b m j).1) := by
    intro j
    induction j with
    | zero => intro _; exact Or.inl rfl
    | succ j ih =>
      intro hj
      rw [sAmN]
      split
      · right
        exact ⟨by show (0 : Int) ≤ (j : Int); omega, by show (j : Int) < n; omega, rfl⟩
      · exact ih (by omega)
  exact this n.toNat (by omega)
/-! the memory, one array changed -/
theorem q_setId (M : qMem) (j u : Nat) : qSet M j u (M j u) = M := by
  funext j' u'
  unfold qSet
  split
  · split
    · subst_vars; rfl
    · rfl
  · rfl
theorem q_upSet (M : qMem) (j u : Nat) (f : Int → Int) (i z : Int) : qUp (qSet M j u f) j u i z = qSet M j u (fun k => if k = i then z else f k) := by
  funext j' u' i'
  unfold qUp qSet
  split
  · split
    · simp
    · rfl
  · rfl
theorem q_upAsSet (M : qMem) (j u : Nat) (i z : Int) : qUp M j u i z = qSet M j u (fun k => if k = i then z else M j u k) := by
  rw [← q_upSet, q_setId]
theorem q_setSet (M : qMem) (j u : Nat) (f f' : Int → Int) : qSet (qSet M j u f) j u f' = qSet M j u f' := by
  funext j' u'
  unfold qSet
  split
  · split <;> rfl
  · rfl
theorem q_setC {M : qMem} {j u : Nat} {f f' : Int → Int} (h : ∀ k, f k = f' k) : qSet M j u f = qSet M j u f' := by rw [funext h]
theorem q_setC0 {M : qMem} {j u : Nat} {f : Int → Int} (h : ∀ k, f k = M j u k) : qSet M j u f = M := by rw [funext h]; exact q_setId M j u
theorem q_setOn' (M : qMem) (j u : Nat) (f : Int → Int) : qSet M j u f j u = f := q_setOn
/-- a row holds its own places alone: what stands beyond them is free -/
theorem q_wdRow {g : qGm} {M : qMem} {j u n : Nat} {f f' : Int → Int} {H : Heap} (he : ∀ M, qCell g M j u = qRow g M j u n) (h : ∀ k : Int, 0 ≤ k → k < n → f k = f' k) (hW : qWd g (qSet M j u f) H) : qWd g (qSet M j u f') H := by
  intro k q hq
  obtain ⟨j1, u1, h1, h2, rfl⟩ := q_wlAt hq
  have h3 := hW k (g.2.2 j1 u1, qCell g (qSet M j u f) j1 u1) (by simp [qWl, h2])
  by_cases hj : j1 = j ∧ u1 = u
  · obtain ⟨rfl, rfl⟩ := hj
    rw [he] at h3 ⊢
    refine h3.trans (congrArg some (q_rowEq (fun k hk => ?_)))
    rw [q_setOn, q_setOn, h k (by omega) (by omega)]
  · rw [q_cellOff g (qSet M j u f) (qSet M j u f') j1 u1 (by rw [q_setOff hj, q_setOff hj])]
    exact h3
theorem q_rowMem {l : Launch} {g : qGm} {X : qCt} {M : qMem} {pc : Nat} {ls : List (Nat × Value)} {st : List Value} {j u n : Nat} {f f' : Int → Int} (he : ∀ M, qCell g M j u = qRow g M j u n) (h : ∀ k : Int, 0 ≤ k → k < n → f k = f' k) (hf : ∀ k, qIn (f' k)) (k : qV l g X (qSet M j u f') pc ls st) : qV l g X (qSet M j u f) pc ls st := by
  obtain ⟨p, e, R, s, m, args, below, meth, c, Q, A, nL, nc, ns⟩ := X
  intro H locs la hR hW hS hL
  refine k H locs la ?_ (q_wdRow he h hW) hS hL
  intro j1 u1 i1
  by_cases hj : j1 = j ∧ u1 = u
  · obtain ⟨rfl, rfl⟩ := hj
    rw [q_setOn]
    exact hf i1
  · have := hR j1 u1 i1
    rw [q_setOff hj] at this ⊢
    exact this
/-- the places 0 .. i-1 of a row are new -/
def qPre (M : qMem) (j u : Nat) (F : Int → Int) (i : Int) : qMem := qSet M j u (fun k => if 0 ≤ k ∧ k < i then F k else M j u k)
theorem qPre_0 (M : qMem) (j u : Nat) (F : Int → Int) : qPre M j u F 0 = M := q_setC0 (fun k => if_neg (by omega))
theorem qPre_s (M : qMem) (j u : Nat) (F : Int → Int) {i z : Int} (h : 0 ≤ i) (hz : z = F i) : qUp (qPre M j u F i) j u i z = qPre M j u F (i + 1) := by
  subst hz
  unfold qPre
  rw [q_upSet]
  refine q_setC (fun k => ?_)
  by_cases hk : k = i
  · subst hk; rw [if_pos rfl, if_pos (by omega)]
  · rw [if_neg hk]
    by_cases hk2 : 0 ≤ k ∧ k < i
    · rw [if_pos hk2, if_pos (by omega)]
    · rw [if_neg hk2, if_neg (by omega)]
theorem qPre_off (M : qMem) (j u : Nat) (F : Int → Int) (i : Int) {j' u' : Nat} (h : ¬ (j' = j ∧ u' = u)) : qPre M j u F i j' u' = M j' u' := q_setOff h
theorem qPre_on (M : qMem) (j u : Nat) (F : Int → Int) (i k : Int) : qPre M j u F i j u k = if 0 ≤ k ∧ k < i then F k else M j u k := by unfold qPre; rw [q_setOn]
theorem qPre_rd (M : qMem) (j u : Nat) (F : Int → Int) (i : Int) (j' u' : Nat) (k : Int) : qPre M j u F i j' u' k = if j' = j then if u' = u then (if 0 ≤ k ∧ k < i then F k else M j u k) else M j' u' k else M j' u' k := by
  unfold qPre
  rw [q_rdS]
theorem q_rdR (M : qMem) (j u : Nat) (i z : Int) (j' u' : Nat) : qUp M j u i z j' u' = if j' = j then if u' = u then (fun k => if k = i then z else M j u k) else M j' u' else M j' u' := by
  funext k
  rw [q_rd]
  split
  · split
    · subst_vars; rfl
    · rfl
  · rfl
theorem q_rdSR (M : qMem) (j u : Nat) (f : Int → Int) (j' u' : Nat) : qSet M j u f j' u' = if j' = j then if u' = u then f else M j' u' else M j' u' := rfl
theorem q_rdPR (M : qMem) (j u : Nat) (F : Int → Int) (i : Int) (j' u' : Nat) : qPre M j u F i j' u' = if j' = j then if u' = u then (fun k => if 0 ≤ k ∧ k < i then F k else M j u k) else M j' u' else M j' u' := rfl
theorem q_ii (i : Int) : (0 ≤ i ∧ i < i) = False := by simp
end
section
theorem dX1_isSaid_0 : decode cX1_isSaid 0 = .ok (.iload_n 1, 1) := by decide +kernel
theorem dX1_isSaid_1 : decode cX1_isSaid 1 = .ok (.bipush 16, 2) := by decide +kernel
theorem dX1_isSaid_3 : decode cX1_isSaid 3 = .ok (.idiv, 1) := by decide +kernel
theorem dX1_isSaid_4 : decode cX1_isSaid 4 = .ok (.istore_n 2, 1) := by decide +kernel
theorem dX1_isSaid_5 : decode cX1_isSaid 5 = .ok (.iload_n 1, 1) := by decide +kernel
theorem dX1_isSaid_6 : decode cX1_isSaid 6 = .ok (.bipush 8, 2) := by decide +kernel
theorem dX1_isSaid_8 : decode cX1_isSaid 8 = .ok (.iand, 1) := by decide +kernel
theorem dX1_isSaid_9 : decode cX1_isSaid 9 = .ok (.ifCond .eq 12, 3) := by decide +kernel
theorem dX1_isSaid_12 : decode cX1_isSaid 12 = .ok (.iload_n 2, 1) := by decide +kernel
theorem dX1_isSaid_13 : decode cX1_isSaid 13 = .ok (.iconst 2, 1) := by decide +kernel
theorem dX1_isSaid_14 : decode cX1_isSaid 14 = .ok (.if_icmp .ne 7, 3) := by decide +kernel
theorem dX1_isSaid_17 : decode cX1_isSaid 17 = .ok (.iconst 1, 1) := by decide +kernel
theorem dX1_isSaid_18 : decode cX1_isSaid 18 = .ok (.goto 4, 3) := by decide +kernel
theorem dX1_isSaid_21 : decode cX1_isSaid 21 = .ok (.iconst 0, 1) := by decide +kernel
theorem dX1_isSaid_22 : decode cX1_isSaid 22 = .ok (.istore_n 3, 1) := by decide +kernel
theorem dX1_isSaid_23 : decode cX1_isSaid 23 = .ok (.iload_n 1, 1) := by decide +kernel
theorem dX1_isSaid_24 : decode cX1_isSaid 24 = .ok (.iconst 1, 1) := by decide +kernel
theorem dX1_isSaid_25 : decode cX1_isSaid 25 = .ok (.iand, 1) := by decide +kernel
theorem dX1_isSaid_26 : decode cX1_isSaid 26 = .ok (.ifCond .eq 13, 3) := by decide +kernel
theorem dX1_isSaid_29 : decode cX1_isSaid 29 = .ok (.iload_n 1, 1) := by decide +kernel
theorem dX1_isSaid_30 : decode cX1_isSaid 30 = .ok (.iconst 2, 1) := by decide +kernel
theorem dX1_isSaid_31 : decode cX1_isSaid 31 = .ok (.iand, 1) := by decide +kernel
theorem dX1_isSaid_32 : decode cX1_isSaid 32 = .ok (.ifCond .eq 7, 3) := by decide +kernel
theorem dX1_isSaid_35 : decode cX1_isSaid 35 = .ok (.iconst 1, 1) := by decide +kernel
theorem dX1_isSaid_36 : decode cX1_isSaid 36 = .ok (.goto 4, 3) := by decide +kernel
theorem dX1_isSaid_39 : decode cX1_isSaid 39 = .ok (.iconst 0, 1) := by decide +kernel
theorem dX1_isSaid_40 : decode cX1_isSaid 40 = .ok (.istore 4, 2) := by decide +kernel
theorem dX1_isSaid_42 : decode cX1_isSaid 42 = .ok (.iload_n 0, 1) := by decide +kernel
theorem dX1_isSaid_43 : decode cX1_isSaid 43 = .ok (.tableswitch 59 0 2 #[25, 27, 44], 25) := by decide +kernel
theorem dX1_isSaid_68 : decode cX1_isSaid 68 = .ok (.iconst 1, 1) := by decide +kernel
theorem dX1_isSaid_69 : decode cX1_isSaid 69 = .ok (.ireturn, 1) := by decide +kernel
theorem dX1_isSaid_70 : decode cX1_isSaid 70 = .ok (.iload_n 1, 1) := by decide +kernel
theorem dX1_isSaid_71 : decode cX1_isSaid 71 = .ok (.iconst 4, 1) := by decide +kernel
theorem dX1_isSaid_72 : decode cX1_isSaid 72 = .ok (.iand, 1) := by decide +kernel
theorem dX1_isSaid_73 : decode cX1_isSaid 73 = .ok (.ifCond .eq 8, 3) := by decide +kernel
theorem dX1_isSaid_76 : decode cX1_isSaid 76 = .ok (.iload_n 2, 1) := by decide +kernel
theorem dX1_isSaid_77 : decode cX1_isSaid 77 = .ok (.iconst 1, 1) := by decide +kernel
theorem dX1_isSaid_78 : decode cX1_isSaid 78 = .ok (.if_icmp .ne 7, 3) := by decide +kernel
theorem dX1_isSaid_81 : decode cX1_isSaid 81 = .ok (.iconst 1, 1) := by decide +kernel
theorem dX1_isSaid_82 : decode cX1_isSaid 82 = .ok (.goto 4, 3) := by decide +kernel
theorem dX1_isSaid_85 : decode cX1_isSaid 85 = .ok (.iconst 0, 1) := by decide +kernel
theorem dX1_isSaid_86 : decode cX1_isSaid 86 = .ok (.ireturn, 1) := by decide +kernel
theorem dX1_isSaid_87 : decode cX1_isSaid 87 = .ok (.iload 4, 2) := by decide +kernel
theorem dX1_isSaid_89 : decode cX1_isSaid 89 = .ok (.ifCond .ne 11, 3) := by decide +kernel
theorem dX1_isSaid_92 : decode cX1_isSaid 92 = .ok (.iload_n 3, 1) := by decide +kernel
theorem dX1_isSaid_93 : decode cX1_isSaid 93 = .ok (.ifCond .ne 7, 3) := by decide +kernel
theorem dX1_isSaid_96 : decode cX1_isSaid 96 = .ok (.iconst 1, 1) := by decide +kernel
theorem dX1_isSaid_97 : decode cX1_isSaid 97 = .ok (.goto 4, 3) := by decide +kernel
theorem dX1_isSaid_100 : decode cX1_isSaid 100 = .ok (.iconst 0, 1) := by decide +kernel
theorem dX1_isSaid_101 : decode cX1_isSaid 101 = .ok (.ireturn, 1) := by decide +kernel
theorem dX1_isSaid_102 : decode cX1_isSaid 102 = .ok (.iconst 0, 1) := by decide +kernel
theorem dX1_isSaid_103 : decode cX1_isSaid 103 = .ok (.ireturn, 1) := by decide +kernel
set_option maxRecDepth 4000 in
set_option maxHeartbeats 4000000 in
theorem m_X1_isSaid (l : Launch) (g : qGm) (M : qMem) {mn : Int} (hmn : qIn mn) {a : Int} (ha : 0 ≤ a ∧ a < 48) : qOk l g 1 yX1_isSaid cX1_isSaid 5 (some .boolean) [qI mn, qI a] M (qEv (some (qB (sSaid mn a))) M) := by
  refine q_ok (by decide +kernel) (Nat.le_of_ble_eq_true rfl) (fun X C' hn => ?_)
  have C := C'.1
  have e1 := q_and1 ha.1 ha.2
  have e2 := q_and2 ha.1 ha.2
  have e4 := q_and4 ha.1 ha.2
  have e8 := q_and8 ha.1 ha.2
  refine q_iloadn C dX1_isSaid_0 rfl ?_
  refine q_bipush C dX1_isSaid_1 (by decide) ?_
  refine q_idiv C dX1_isSaid_3 (by omega) (by omega) (by omega) (by omega) ?_
  refine q_istoren C dX1_isSaid_4 hn (by decide) rfl ?_
  refine q_iloadn C dX1_isSaid_5 rfl ?_
  refine q_bipush C dX1_isSaid_6 (by decide) ?_
  refine q_iand C dX1_isSaid_8 ?_
  refine q_if_eq C 21 dX1_isSaid_9 (by decide) (by first | assumption | omega | exact q_tin _) (fun h9 => ?_) (fun h9 => ?_)
  · refine q_iconst C dX1_isSaid_21 ?_
    refine q_istoren C dX1_isSaid_22 hn (by decide) rfl ?_
    refine q_iloadn C dX1_isSaid_23 rfl ?_
    refine q_iconst C dX1_isSaid_24 ?_
    refine q_iand C dX1_isSaid_25 ?_
    refine q_if_eq C 39 dX1_isSaid_26 (by decide) (by first | assumption | omega | exact q_tin _) (fun h26 => ?_) (fun h26 => ?_)
    · refine q_iconst C dX1_isSaid_39 ?_
      refine q_istore C dX1_isSaid_40 hn (by decide) rfl ?_
      refine q_iloadn C dX1_isSaid_42 rfl ?_
      by_cases ht43 : mn < 0 ∨ 2 < mn
      · refine q_tsOut C 102 dX1_isSaid_43 (by first | assumption | omega | exact q_tin _) ht43 (by decide) ?_
        refine q_iconst C dX1_isSaid_102 ?_
        refine q_zret C' dX1_isSaid_103 (by first | omega | exact q_b01 _ | simp) ?_
        refine ⟨congrArg some ?_, rfl⟩
        unfold qB
        split <;> first | rfl | (exfalso; omega)
      obtain rfl | rfl | rfl : mn = 0 ∨ mn = 1 ∨ mn = 2 := by omega
      · refine q_tsIn C (off := 25) 68 dX1_isSaid_43 (by decide) (by decide) (by decide) (by decide) (by decide) ?_
        refine q_iconst C dX1_isSaid_68 ?_
        refine q_zret C' dX1_isSaid_69 (by first | omega | exact q_b01 _ | simp) ?_
        refine ⟨congrArg some ?_, rfl⟩
        unfold qB
        split <;> first | rfl | (exfalso; omega)
      · refine q_tsIn C (off := 27) 70 dX1_isSaid_43 (by decide) (by decide) (by decide) (by decide) (by decide) ?_
        refine q_iloadn C dX1_isSaid_70 rfl ?_
        refine q_iconst C dX1_isSaid_71 ?_
        refine q_iand C dX1_isSaid_72 ?_
        refine q_if_eq C 81 dX1_isSaid_73 (by decide) (by first | assumption | omega | exact q_tin _) (fun h73 => ?_) (fun h73 => ?_)
        · refine q_iconst C dX1_isSaid_81 ?_
          refine q_goto C (tgt := 86) dX1_isSaid_82 (by decide) ?_
          refine q_zret C' dX1_isSaid_86 (by first | omega | exact q_b01 _ | simp) ?_
          refine ⟨congrArg some ?_, rfl⟩
          unfold qB
          split <;> first | rfl | (exfalso; omega)
        · refine q_iloadn C dX1_isSaid_76 rfl ?_
          refine q_iconst C dX1_isSaid_77 ?_
          refine q_icmp_ne C 85 dX1_isSaid_78 (by decide) (by first | assumption | omega | exact q_tin _) (by first | assumption | omega | exact q_tin _) (fun h78 => ?_) (fun h78 => ?_)
          · refine q_iconst C dX1_isSaid_85 ?_
            refine q_zret C' dX1_isSaid_86 (by first | omega | exact q_b01 _ | simp) ?_
            refine ⟨congrArg some ?_, rfl⟩
            unfold qB
            split <;> first | rfl | (exfalso; omega)
          · refine q_iconst C dX1_isSaid_81 ?_
            refine q_goto C (tgt := 86) dX1_isSaid_82 (by decide) ?_
            refine q_zret C' dX1_isSaid_86 (by first | omega | exact q_b01 _ | simp) ?_
            refine ⟨congrArg some ?_, rfl⟩
            unfold qB
            split <;> first | rfl | (exfalso; omega)
      · refine q_tsIn C (off := 44) 87 dX1_isSaid_43 (by decide) (by decide) (by decide) (by decide) (by decide) ?_
        refine q_iload C dX1_isSaid_87 rfl ?_
        refine q_if_ne C 100 dX1_isSaid_89 (by decide) (by first | assumption | omega | exact q_tin _) (fun h89 => ?_) (fun h89 => ?_)
        · refine q_iconst C dX1_isSaid_100 ?_
          refine q_zret C' dX1_isSaid_101 (by first | omega | exact q_b01 _ | simp) ?_
          refine ⟨congrArg some ?_, rfl⟩
          unfold qB
          split <;> first | rfl | (exfalso; omega)
        · refine q_iloadn C dX1_isSaid_92 rfl ?_
          refine q_if_ne C 100 dX1_isSaid_93 (by decide) (by first | assumption | omega | exact q_tin _) (fun h93 => ?_) (fun h93 => ?_)
          · refine q_iconst C dX1_isSaid_100 ?_
            refine q_zret C' dX1_isSaid_101 (by first | omega | exact q_b01 _ | simp) ?_
            refine ⟨congrArg some ?_, rfl⟩
            unfold qB
            split <;> first | rfl | (exfalso; omega)
          · refine q_iconst C dX1_isSaid_96 ?_
            refine q_goto C (tgt := 101) dX1_isSaid_97 (by decide) ?_
            refine q_zret C' dX1_isSaid_101 (by first | omega | exact q_b01 _ | simp) ?_
            refine ⟨congrArg some ?_, rfl⟩
            unfold qB
            split <;> first | rfl | (exfalso; omega)
    · refine q_iloadn C dX1_isSaid_29 rfl ?_
      refine q_iconst C dX1_isSaid_30 ?_
      refine q_iand C dX1_isSaid_31 ?_
      refine q_if_eq C 39 dX1_isSaid_32 (by decide) (by first | assumption | omega | exact q_tin _) (fun h32 => ?_) (fun h32 => ?_)
      · refine q_iconst C dX1_isSaid_39 ?_
        refine q_istore C dX1_isSaid_40 hn (by decide) rfl ?_
        refine q_iloadn C dX1_isSaid_42 rfl ?_
        by_cases ht43 : mn < 0 ∨ 2 < mn
        · refine q_tsOut C 102 dX1_isSaid_43 (by first | assumption | omega | exact q_tin _) ht43 (by decide) ?_
          refine q_iconst C dX1_isSaid_102 ?_
          refine q_zret C' dX1_isSaid_103 (by first | omega | exact q_b01 _ | simp) ?_
          refine ⟨congrArg some ?_, rfl⟩
          unfold qB
          split <;> first | rfl | (exfalso; omega)
        obtain rfl | rfl | rfl : mn = 0 ∨ mn = 1 ∨ mn = 2 := by omega
        · refine q_tsIn C (off := 25) 68 dX1_isSaid_43 (by decide) (by decide) (by decide) (by decide) (by decide) ?_
          refine q_iconst C dX1_isSaid_68 ?_
          refine q_zret C' dX1_isSaid_69 (by first | omega | exact q_b01 _ | simp) ?_
          refine ⟨congrArg some ?_, rfl⟩
          unfold qB
          split <;> first | rfl | (exfalso; omega)
        · refine q_tsIn C (off := 27) 70 dX1_isSaid_43 (by decide) (by decide) (by decide) (by decide) (by decide) ?_
          refine q_iloadn C dX1_isSaid_70 rfl ?_
          refine q_iconst C dX1_isSaid_71 ?_
          refine q_iand C dX1_isSaid_72 ?_
          refine q_if_eq C 81 dX1_isSaid_73 (by decide) (by first | assumption | omega | exact q_tin _) (fun h73 => ?_) (fun h73 => ?_)
          · refine q_iconst C dX1_isSaid_81 ?_
            refine q_goto C (tgt := 86) dX1_isSaid_82 (by decide) ?_
            refine q_zret C' dX1_isSaid_86 (by first | omega | exact q_b01 _ | simp) ?_
            refine ⟨congrArg some ?_, rfl⟩
            unfold qB
            split <;> first | rfl | (exfalso; omega)
          · refine q_iloadn C dX1_isSaid_76 rfl ?_
            refine q_iconst C dX1_isSaid_77 ?_
            refine q_icmp_ne C 85 dX1_isSaid_78 (by decide) (by first | assumption | omega | exact q_tin _) (by first | assumption | omega | exact q_tin _) (fun h78 => ?_) (fun h78 => ?_)
            · refine q_iconst C dX1_isSaid_85 ?_
              refine q_zret C' dX1_isSaid_86 (by first | omega | exact q_b01 _ | simp) ?_
              refine ⟨congrArg some ?_, rfl⟩
              unfold qB
              split <;> first | rfl | (exfalso; omega)
            · refine q_iconst C dX1_isSaid_81 ?_
              refine q_goto C (tgt := 86) dX1_isSaid_82 (by decide) ?_
              refine q_zret C' dX1_isSaid_86 (by first | omega | exact q_b01 _ | simp) ?_
              refine ⟨congrArg some ?_, rfl⟩
              unfold qB
              split <;> first | rfl | (exfalso; omega)
        · refine q_tsIn C (off := 44) 87 dX1_isSaid_43 (by decide) (by decide) (by decide) (by decide) (by decide) ?_
          refine q_iload C dX1_isSaid_87 rfl ?_
          refine q_if_ne C 100 dX1_isSaid_89 (by decide) (by first | assumption | omega | exact q_tin _) (fun h89 => ?_) (fun h89 => ?_)
          · refine q_iconst C dX1_isSaid_100 ?_
            refine q_zret C' dX1_isSaid_101 (by first | omega | exact q_b01 _ | simp) ?_
            refine ⟨congrArg some ?_, rfl⟩
            unfold qB
            split <;> first | rfl | (exfalso; omega)
          · refine q_iloadn C dX1_isSaid_92 rfl ?_
            refine q_if_ne C 100 dX1_isSaid_93 (by decide) (by first | assumption | omega | exact q_tin _) (fun h93 => ?_) (fun h93 => ?_)
            · refine q_iconst C dX1_isSaid_100 ?_
              refine q_zret C' dX1_isSaid_101 (by first | omega | exact q_b01 _ | simp) ?_
              refine ⟨congrArg some ?_, rfl⟩
              unfold qB
              split <;> first | rfl | (exfalso; omega)
            · refine q_iconst C dX1_isSaid_96 ?_
              refine q_goto C (tgt := 101) dX1_isSaid_97 (by decide) ?_
              refine q_zret C' dX1_isSaid_101 (by first | omega | exact q_b01 _ | simp) ?_
              refine ⟨congrArg some ?_, rfl⟩
              unfold qB
              split <;> first | rfl | (exfalso; omega)
      · refine q_iconst C dX1_isSaid_35 ?_
        refine q_goto C (tgt := 40) dX1_isSaid_36 (by decide) ?_
        refine q_istore C dX1_isSaid_40 hn (by decide) rfl ?_
        refine q_iloadn C dX1_isSaid_42 rfl ?_
        by_cases ht43 : mn < 0 ∨ 2 < mn
        · refine q_tsOut C 102 dX1_isSaid_43 (by first | assumption | omega | exact q_tin _) ht43 (by decide) ?_
          refine q_iconst C dX1_isSaid_102 ?_
          refine q_zret C' dX1_isSaid_103 (by first | omega | exact q_b01 _ | simp) ?_
          refine ⟨congrArg some ?_, rfl⟩
          unfold qB
          split <;> first | rfl | (exfalso; omega)
        obtain rfl | rfl | rfl : mn = 0 ∨ mn = 1 ∨ mn = 2 := by omega
        · refine q_tsIn C (off := 25) 68 dX1_isSaid_43 (by decide) (by decide) (by decide) (by decide) (by decide) ?_
          refine q_iconst C dX1_isSaid_68 ?_
          refine q_zret C' dX1_isSaid_69 (by first | omega | exact q_b01 _ | simp) ?_
          refine ⟨congrArg some ?_, rfl⟩
          unfold qB
          split <;> first | rfl | (exfalso; omega)
        · refine q_tsIn C (off := 27) 70 dX1_isSaid_43 (by decide) (by decide) (by decide) (by decide) (by decide) ?_
          refine q_iloadn C dX1_isSaid_70 rfl ?_
          refine q_iconst C dX1_isSaid_71 ?_
          refine q_iand C dX1_isSaid_72 ?_
          refine q_if_eq C 81 dX1_isSaid_73 (by decide) (by first | assumption | omega | exact q_tin _) (fun h73 => ?_) (fun h73 => ?_)
          · refine q_iconst C dX1_isSaid_81 ?_
            refine q_goto C (tgt := 86) dX1_isSaid_82 (by decide) ?_
            refine q_zret C' dX1_isSaid_86 (by first | omega | exact q_b01 _ | simp) ?_
            refine ⟨congrArg some ?_, rfl⟩
            unfold qB
            split <;> first | rfl | (exfalso; omega)
          · refine q_iloadn C dX1_isSaid_76 rfl ?_
            refine q_iconst C dX1_isSaid_77 ?_
            refine q_icmp_ne C 85 dX1_isSaid_78 (by decide) (by first | assumption | omega | exact q_tin _) (by first | assumption | omega | exact q_tin _) (fun h78 => ?_) (fun h78 => ?_)
            · refine q_iconst C dX1_isSaid_85 ?_
              refine q_zret C' dX1_isSaid_86 (by first | omega | exact q_b01 _ | simp) ?_
              refine ⟨congrArg some ?_, rfl⟩
              unfold qB
              split <;> first | rfl | (exfalso; omega)
            · refine q_iconst C dX1_isSaid_81 ?_
              refine q_goto C (tgt := 86) dX1_isSaid_82 (by decide) ?_
              refine q_zret C' dX1_isSaid_86 (by first | omega | exact q_b01 _ | simp) ?_
              refine ⟨congrArg some ?_, rfl⟩
              unfold qB
              split <;> first | rfl | (exfalso; omega)
        · refine q_tsIn C (off := 44) 87 dX1_isSaid_43 (by decide) (by decide) (by decide) (by decide) (by decide) ?_
          refine q_iload C dX1_isSaid_87 rfl ?_
          refine q_if_ne C 100 dX1_isSaid_89 (by decide) (by first | assumption | omega | exact q_tin _) (fun h89 => ?_) (fun h89 => ?_)
          · refine q_iconst C dX1_isSaid_100 ?_
            refine q_zret C' dX1_isSaid_101 (by first | omega | exact q_b01 _ | simp) ?_
            refine ⟨congrArg some ?_, rfl⟩
            unfold qB
            split <;> first | rfl | (exfalso; omega)
          · refine q_iloadn C dX1_isSaid_92 rfl ?_
            refine q_if_ne C 100 dX1_isSaid_93 (by decide) (by first | assumption | omega | exact q_tin _) (fun h93 => ?_) (fun h93 => ?_)
            · refine q_iconst C dX1_isSaid_100 ?_
              refine q_zret C' dX1_isSaid_101 (by first | omega | exact q_b01 _ | simp) ?_
              refine ⟨congrArg some ?_, rfl⟩
              unfold qB
              split <;> first | rfl | (exfalso; omega)
            · refine q_iconst C dX1_isSaid_96 ?_
              refine q_goto C (tgt := 101) dX1_isSaid_97 (by decide) ?_
              refine q_zret C' dX1_isSaid_101 (by first | omega | exact q_b01 _ | simp) ?_
              refine ⟨congrArg some ?_, rfl⟩
              unfold qB
              split <;> first | rfl | (exfalso; omega)
  · refine q_iloadn C dX1_isSaid_12 rfl ?_
    refine q_iconst C dX1_isSaid_13 ?_
    refine q_icmp_ne C 21 dX1_isSaid_14 (by decide) (by first | assumption | omega | exact q_tin _) (by first | assumption | omega | exact q_tin _) (fun h14 => ?_) (fun h14 => ?_)
    · refine q_iconst C dX1_isSaid_21 ?_
      refine q_istoren C dX1_isSaid_22 hn (by decide) rfl ?_
      refine q_iloadn C dX1_isSaid_23 rfl ?_
      refine q_iconst C dX1_isSaid_24 ?_
      refine q_iand C dX1_isSaid_25 ?_
      refine q_if_eq C 39 dX1_isSaid_26 (by decide) (by first | assumption | omega | exact q_tin _) (fun h26 => ?_) (fun h26 => ?_)
      · refine q_iconst C dX1_isSaid_39 ?_
        refine q_istore C dX1_isSaid_40 hn (by decide) rfl ?_
        refine q_iloadn C dX1_isSaid_42 rfl ?_
        by_cases ht43 : mn < 0 ∨ 2 < mn
        · refine q_tsOut C 102 dX1_isSaid_43 (by first | assumption | omega | exact q_tin _) ht43 (by decide) ?_
          refine q_iconst C dX1_isSaid_102 ?_
          refine q_zret C' dX1_isSaid_103 (by first | omega | exact q_b01 _ | simp) ?_
          refine ⟨congrArg some ?_, rfl⟩
          unfold qB
          split <;> first | rfl | (exfalso; omega)
        obtain rfl | rfl | rfl : mn = 0 ∨ mn = 1 ∨ mn = 2 := by omega
        · refine q_tsIn C (off := 25) 68 dX1_isSaid_43 (by decide) (by decide) (by decide) (by decide) (by decide) ?_
          refine q_iconst C dX1_isSaid_68 ?_
          refine q_zret C' dX1_isSaid_69 (by first | omega | exact q_b01 _ | simp) ?_
          refine ⟨congrArg some ?_, rfl⟩
          unfold qB
          split <;> first | rfl | (exfalso; omega)
        · refine q_tsIn C (off := 27) 70 dX1_isSaid_43 (by decide) (by decide) (by decide) (by decide) (by decide) ?_
          refine q_iloadn C dX1_isSaid_70 rfl ?_
          refine q_iconst C dX1_isSaid_71 ?_
          refine q_iand C dX1_isSaid_72 ?_
          refine q_if_eq C 81 dX1_isSaid_73 (by decide) (by first | assumption | omega | exact q_tin _) (fun h73 => ?_) (fun h73 => ?_)
          · refine q_iconst C dX1_isSaid_81 ?_
            refine q_goto C (tgt := 86) dX1_isSaid_82 (by decide) ?_
            refine q_zret C' dX1_isSaid_86 (by first | omega | exact q_b01 _ | simp) ?_
            refine ⟨congrArg some ?_, rfl⟩
            unfold qB
            split <;> first | rfl | (exfalso; omega)
          · refine q_iloadn C dX1_isSaid_76 rfl ?_
            refine q_iconst C dX1_isSaid_77 ?_
            refine q_icmp_ne C 85 dX1_isSaid_78 (by decide) (by first | assumption | omega | exact q_tin _) (by first | assumption | omega | exact q_tin _) (fun h78 => ?_) (fun h78 => ?_)
            · refine q_iconst C dX1_isSaid_85 ?_
              refine q_zret C' dX1_isSaid_86 (by first | omega | exact q_b01 _ | simp) ?_
              refine ⟨congrArg some ?_, rfl⟩
              unfold qB
              split <;> first | rfl | (exfalso; omega)
            · refine q_iconst C dX1_isSaid_81 ?_
              refine q_goto C (tgt := 86) dX1_isSaid_82 (by decide) ?_
              refine q_zret C' dX1_isSaid_86 (by first | omega | exact q_b01 _ | simp) ?_
              refine ⟨congrArg some ?_, rfl⟩
              unfold qB
              split <;> first | rfl | (exfalso; omega)
        · refine q_tsIn C (off := 44) 87 dX1_isSaid_43 (by decide) (by decide) (by decide) (by decide) (by decide) ?_
          refine q_iload C dX1_isSaid_87 rfl ?_
          refine q_if_ne C 100 dX1_isSaid_89 (by decide) (by first | assumption | omega | exact q_tin _) (fun h89 => ?_) (fun h89 => ?_)
          · refine q_iconst C dX1_isSaid_100 ?_
            refine q_zret C' dX1_isSaid_101 (by first | omega | exact q_b01 _ | simp) ?_
            refine ⟨congrArg some ?_, rfl⟩
            unfold qB
            split <;> first | rfl | (exfalso; omega)
          · refine q_iloadn C dX1_isSaid_92 rfl ?_
            refine q_if_ne C 100 dX1_isSaid_93 (by decide) (by first | assumption | omega | exact q_tin _) (fun h93 => ?_) (fun h93 => ?_)
            · refine q_iconst C dX1_isSaid_100 ?_
              refine q_zret C' dX1_isSaid_101 (by first | omega | exact q_b01 _ | simp) ?_
              refine ⟨congrArg some ?_, rfl⟩
              unfold qB
              split <;> first | rfl | (exfalso; omega)
            · refine q_iconst C dX1_isSaid_96 ?_
              refine q_goto C (tgt := 101) dX1_isSaid_97 (by decide) ?_
              refine q_zret C' dX1_isSaid_101 (by first | omega | exact q_b01 _ | simp) ?_
              refine ⟨congrArg some ?_, rfl⟩
              unfold qB
              split <;> first | rfl | (exfalso; omega)
      · refine q_iloadn C dX1_isSaid_29 rfl ?_
        refine q_iconst C dX1_isSaid_30 ?_
        refine q_iand C dX1_isSaid_31 ?_
        refine q_if_eq C 39 dX1_isSaid_32 (by decide) (by first | assumption | omega | exact q_tin _) (fun h32 => ?_) (fun h32 => ?_)
        · refine q_iconst C dX1_isSaid_39 ?_
          refine q_istore C dX1_isSaid_40 hn (by decide) rfl ?_
          refine q_iloadn C dX1_isSaid_42 rfl ?_
          by_cases ht43 : mn < 0 ∨ 2 < mn
          · refine q_tsOut C 102 dX1_isSaid_43 (by first | assumption | omega | exact q_tin _) ht43 (by decide) ?_
            refine q_iconst C dX1_isSaid_102 ?_
            refine q_zret C' dX1_isSaid_103 (by first | omega | exact q_b01 _ | simp) ?_
            refine ⟨congrArg some ?_, rfl⟩
            unfold qB
            split <;> first | rfl | (exfalso; omega)
          obtain rfl | rfl | rfl : mn = 0 ∨ mn = 1 ∨ mn = 2 := by omega
          · refine q_tsIn C (off := 25) 68 dX1_isSaid_43 (by decide) (by decide) (by decide) (by decide) (by decide) ?_
            refine q_iconst C dX1_isSaid_68 ?_
            refine q_zret C' dX1_isSaid_69 (by first | omega | exact q_b01 _ | simp) ?_
            refine ⟨congrArg some ?_, rfl⟩
            unfold qB
            split <;> first | rfl | (exfalso; omega)
          · refine q_tsIn C (off := 27) 70 dX1_isSaid_43 (by decide) (by decide) (by decide) (by decide) (by decide) ?_
            refine q_iloadn C dX1_isSaid_70 rfl ?_
            refine q_iconst C dX1_isSaid_71 ?_
            refine q_iand C dX1_isSaid_72 ?_
            refine q_if_eq C 81 dX1_isSaid_73 (by decide) (by first | assumption | omega | exact q_tin _) (fun h73 => ?_) (fun h73 => ?_)
            · refine q_iconst C dX1_isSaid_81 ?_
              refine q_goto C (tgt := 86) dX1_isSaid_82 (by decide) ?_
              refine q_zret C' dX1_isSaid_86 (by first | omega | exact q_b01 _ | simp) ?_
              refine ⟨congrArg some ?_, rfl⟩
              unfold qB
              split <;> first | rfl | (exfalso; omega)
            · refine q_iloadn C dX1_isSaid_76 rfl ?_
              refine q_iconst C dX1_isSaid_77 ?_
              refine q_icmp_ne C 85 dX1_isSaid_78 (by decide) (by first | assumption | omega | exact q_tin _) (by first | assumption | omega | exact q_tin _) (fun h78 => ?_) (fun h78 => ?_)
              · refine q_iconst C dX1_isSaid_85 ?_
                refine q_zret C' dX1_isSaid_86 (by first | omega | exact q_b01 _ | simp) ?_
                refine ⟨congrArg some ?_, rfl⟩
                unfold qB
                split <;> first | rfl | (exfalso; omega)
              · refine q_iconst C dX1_isSaid_81 ?_
                refine q_goto C (tgt := 86) dX1_isSaid_82 (by decide) ?_
                refine q_zret C' dX1_isSaid_86 (by first | omega | exact q_b01 _ | simp) ?_
                refine ⟨congrArg some ?_, rfl⟩
                unfold qB
                split <;> first | rfl | (exfalso; omega)
          · refine q_tsIn C (off := 44) 87 dX1_isSaid_43 (by decide) (by decide) (by decide) (by decide) (by decide) ?_
            refine q_iload C dX1_isSaid_87 rfl ?_
            refine q_if_ne C 100 dX1_isSaid_89 (by decide) (by first | assumption | omega | exact q_tin _) (fun h89 => ?_) (fun h89 => ?_)
            · refine q_iconst C dX1_isSaid_100 ?_
              refine q_zret C' dX1_isSaid_101 (by first | omega | exact q_b01 _ | simp) ?_
              refine ⟨congrArg some ?_, rfl⟩
              unfold qB
              split <;> first | rfl | (exfalso; omega)
            · refine q_iloadn C dX1_isSaid_92 rfl ?_
              refine q_if_ne C 100 dX1_isSaid_93 (by decide) (by first | assumption | omega | exact q_tin _) (fun h93 => ?_) (fun h93 => ?_)
              · refine q_iconst C dX1_isSaid_100 ?_
                refine q_zret C' dX1_isSaid_101 (by first | omega | exact q_b01 _ | simp) ?_
                refine ⟨congrArg some ?_, rfl⟩
                unfold qB
                split <;> first | rfl | (exfalso; omega)
              · refine q_iconst C dX1_isSaid_96 ?_
                refine q_goto C (tgt := 101) dX1_isSaid_97 (by decide) ?_
                refine q_zret C' dX1_isSaid_101 (by first | omega | exact q_b01 _ | simp) ?_
                refine ⟨congrArg some ?_, rfl⟩
                unfold qB
                split <;> first | rfl | (exfalso; omega)
        · refine q_iconst C dX1_isSaid_35 ?_
          refine q_goto C (tgt := 40) dX1_isSaid_36 (by decide) ?_
          refine q_istore C dX1_isSaid_40 hn (by decide) rfl ?_
          refine q_iloadn C dX1_isSaid_42 rfl ?_
          by_cases ht43 : mn < 0 ∨ 2 < mn
          · refine q_tsOut C 102 dX1_isSaid_43 (by first | assumption | omega | exact q_tin _) ht43 (by decide) ?_
            refine q_iconst C dX1_isSaid_102 ?_
            refine q_zret C' dX1_isSaid_103 (by first | omega | exact q_b01 _ | simp) ?_
            refine ⟨congrArg some ?_, rfl⟩
            unfold qB
            split <;> first | rfl | (exfalso; omega)
          obtain rfl | rfl | rfl : mn = 0 ∨ mn = 1 ∨ mn = 2 := by omega
          · refine q_tsIn C (off := 25) 68 dX1_isSaid_43 (by decide) (by decide) (by decide) (by decide) (by decide) ?_
            refine q_iconst C dX1_isSaid_68 ?_
            refine q_zret C' dX1_isSaid_69 (by first | omega | exact q_b01 _ | simp) ?_
            refine ⟨congrArg some ?_, rfl⟩
            unfold qB
            split <;> first | rfl | (exfalso; omega)
          · refine q_tsIn C (off := 27) 70 dX1_isSaid_43 (by decide) (by decide) (by decide) (by decide) (by decide) ?_
            refine q_iloadn C dX1_isSaid_70 rfl ?_
            refine q_iconst C dX1_isSaid_71 ?_
            refine q_iand C dX1_isSaid_72 ?_
            refine q_if_eq C 81 dX1_isSaid_73 (by decide) (by first | assumption | omega | exact q_tin _) (fun h73 => ?_) (fun h73 => ?_)
            · refine q_iconst C dX1_isSaid_81 ?_
              refine q_goto C (tgt := 86) dX1_isSaid_82 (by decide) ?_
              refine q_zret C' dX1_isSaid_86 (by first | omega | exact q_b01 _ | simp) ?_
              refine ⟨congrArg some ?_, rfl⟩
              unfold qB
              split <;> first | rfl | (exfalso; omega)
            · refine q_iloadn C dX1_isSaid_76 rfl ?_
              refine q_iconst C dX1_isSaid_77 ?_
              refine q_icmp_ne C 85 dX1_isSaid_78 (by decide) (by first | assumption | omega | exact q_tin _) (by first | assumption | omega | exact q_tin _) (fun h78 => ?_) (fun h78 => ?_)
              · refine q_iconst C dX1_isSaid_85 ?_
                refine q_zret C' dX1_isSaid_86 (by first | omega | exact q_b01 _ | simp) ?_
                refine ⟨congrArg some ?_, rfl⟩
                unfold qB
                split <;> first | rfl | (exfalso; omega)
              · refine q_iconst C dX1_isSaid_81 ?_
                refine q_goto C (tgt := 86) dX1_isSaid_82 (by decide) ?_
                refine q_zret C' dX1_isSaid_86 (by first | omega | exact q_b01 _ | simp) ?_
                refine ⟨congrArg some ?_, rfl⟩
                unfold qB
                split <;> first | rfl | (exfalso; omega)
          · refine q_tsIn C (off := 44) 87 dX1_isSaid_43 (by decide) (by decide) (by decide) (by decide) (by decide) ?_
            refine q_iload C dX1_isSaid_87 rfl ?_
            refine q_if_ne C 100 dX1_isSaid_89 (by decide) (by first | assumption | omega | exact q_tin _) (fun h89 => ?_) (fun h89 => ?_)
            · refine q_iconst C dX1_isSaid_100 ?_
              refine q_zret C' dX1_isSaid_101 (by first | omega | exact q_b01 _ | simp) ?_
              refine ⟨congrArg some ?_, rfl⟩
              unfold qB
              split <;> first | rfl | (exfalso; omega)
            · refine q_iloadn C dX1_isSaid_92 rfl ?_
              refine q_if_ne C 100 dX1_isSaid_93 (by decide) (by first | assumption | omega | exact q_tin _) (fun h93 => ?_) (fun h93 => ?_)
              · refine q_iconst C dX1_isSaid_100 ?_
                refine q_zret C' dX1_isSaid_101 (by first | omega | exact q_b01 _ | simp) ?_
                refine ⟨congrArg some ?_, rfl⟩
                unfold qB
                split <;> first | rfl | (exfalso; omega)
              · refine q_iconst C dX1_isSaid_96 ?_
                refine q_goto C (tgt := 101) dX1_isSaid_97 (by decide) ?_
                refine q_zret C' dX1_isSaid_101 (by first | omega | exact q_b01 _ | simp) ?_
                refine ⟨congrArg some ?_, rfl⟩
                unfold qB
                split <;> first | rfl | (exfalso; omega)
    · refine q_iconst C dX1_isSaid_17 ?_
      refine q_goto C (tgt := 22) dX1_isSaid_18 (by decide) ?_
      refine q_istoren C dX1_isSaid_22 hn (by decide) rfl ?_
      refine q_iloadn C dX1_isSaid_23 rfl ?_
      refine q_iconst C dX1_isSaid_24 ?_
      refine q_iand C dX1_isSaid_25 ?_
      refine q_if_eq C 39 dX1_isSaid_26 (by decide) (by first | assumption | omega | exact q_tin _) (fun h26 => ?_) (fun h26 => ?_)
      · refine q_iconst C dX1_isSaid_39 ?_
        refine q_istore C dX1_isSaid_40 hn (by decide) rfl ?_
        refine q_iloadn C dX1_isSaid_42 rfl ?_
        by_cases ht43 : mn < 0 ∨ 2 < mn
        · refine q_tsOut C 102 dX1_isSaid_43 (by first | assumption | omega | exact q_tin _) ht43 (by decide) ?_
          refine q_iconst C dX1_isSaid_102 ?_
          refine q_zret C' dX1_isSaid_103 (by first | omega | exact q_b01 _ | simp) ?_
          refine ⟨congrArg some ?_, rfl⟩
          unfold qB
          split <;> first | rfl | (exfalso; omega)
        obtain rfl | rfl | rfl : mn = 0 ∨ mn = 1 ∨ mn = 2 := by omega
        · refine q_tsIn C (off := 25) 68 dX1_isSaid_43 (by decide) (by decide) (by decide) (by decide) (by decide) ?_
          refine q_iconst C dX1_isSaid_68 ?_
          refine q_zret C' dX1_isSaid_69 (by first | omega | exact q_b01 _ | simp) ?_
          refine ⟨congrArg some ?_, rfl⟩
          unfold qB
          split <;> first | rfl | (exfalso; omega)
        · refine q_tsIn C (off := 27) 70 dX1_isSaid_43 (by decide) (by decide) (by decide) (by decide) (by decide) ?_
          refine q_iloadn C dX1_isSaid_70 rfl ?_
          refine q_iconst C dX1_isSaid_71 ?_
          refine q_iand C dX1_isSaid_72 ?_
          refine q_if_eq C 81 dX1_isSaid_73 (by decide) (by first | assumption | omega | exact q_tin _) (fun h73 => ?_) (fun h73 => ?_)
          · refine q_iconst C dX1_isSaid_81 ?_
            refine q_goto C (tgt := 86) dX1_isSaid_82 (by decide) ?_
            refine q_zret C' dX1_isSaid_86 (by first | omega | exact q_b01 _ | simp) ?_
            refine ⟨congrArg some ?_, rfl⟩
            unfold qB
            split <;> first | rfl | (exfalso; omega)
          · refine q_iloadn C dX1_isSaid_76 rfl ?_
            refine q_iconst C dX1_isSaid_77 ?_
            refine q_icmp_ne C 85 dX1_isSaid_78 (by decide) (by first | assumption | omega | exact q_tin _) (by first | assumption | omega | exact q_tin _) (fun h78 => ?_) (fun h78 => ?_)
            · refine q_iconst C dX1_isSaid_85 ?_
              refine q_zret C' dX1_isSaid_86 (by first | omega | exact q_b01 _ | simp) ?_
              refine ⟨congrArg some ?_, rfl⟩
              unfold qB
              split <;> first | rfl | (exfalso; omega)
            · refine q_iconst C dX1_isSaid_81 ?_
              refine q_goto C (tgt := 86) dX1_isSaid_82 (by decide) ?_
              refine q_zret C' dX1_isSaid_86 (by first | omega | exact q_b01 _ | simp) ?_
              refine ⟨congrArg some ?_, rfl⟩
              unfold qB
              split <;> first | rfl | (exfalso; omega)
        · refine q_tsIn C (off := 44) 87 dX1_isSaid_43 (by decide) (by decide) (by decide) (by decide) (by decide) ?_
          refine q_iload C dX1_isSaid_87 rfl ?_
          refine q_if_ne C 100 dX1_isSaid_89 (by decide) (by first | assumption | omega | exact q_tin _) (fun h89 => ?_) (fun h89 => ?_)
          · refine q_iconst C dX1_isSaid_100 ?_
            refine q_zret C' dX1_isSaid_101 (by first | omega | exact q_b01 _ | simp) ?_
            refine ⟨congrArg some ?_, rfl⟩
            unfold qB
            split <;> first | rfl | (exfalso; omega)
          · refine q_iloadn C dX1_isSaid_92 rfl ?_
            refine q_if_ne C 100 dX1_isSaid_93 (by decide) (by first | assumption | omega | exact q_tin _) (fun h93 => ?_) (fun h93 => ?_)
            · refine q_iconst C dX1_isSaid_100 ?_
              refine q_zret C' dX1_isSaid_101 (by first | omega | exact q_b01 _ | simp) ?_
              refine ⟨congrArg some ?_, rfl⟩
              unfold qB
              split <;> first | rfl | (exfalso; omega)
            · refine q_iconst C dX1_isSaid_96 ?_
              refine q_goto C (tgt := 101) dX1_isSaid_97 (by decide) ?_
              refine q_zret C' dX1_isSaid_101 (by first | omega | exact q_b01 _ | simp) ?_
              refine ⟨congrArg some ?_, rfl⟩
              unfold qB
              split <;> first | rfl | (exfalso; omega)
      · refine q_iloadn C dX1_isSaid_29 rfl ?_
        refine q_iconst C dX1_isSaid_30 ?_
        refine q_iand C dX1_isSaid_31 ?_
        refine q_if_eq C 39 dX1_isSaid_32 (by decide) (by first | assumption | omega | exact q_tin _) (fun h32 => ?_) (fun h32 => ?_)
        · refine q_iconst C dX1_isSaid_39 ?_
          refine q_istore C dX1_isSaid_40 hn (by decide) rfl ?_
          refine q_iloadn C dX1_isSaid_42 rfl ?_
          by_cases ht43 : mn < 0 ∨ 2 < mn
          · refine q_tsOut C 102 dX1_isSaid_43 (by first | assumption | omega | exact q_tin _) ht43 (by decide) ?_
            refine q_iconst C dX1_isSaid_102 ?_
            refine q_zret C' dX1_isSaid_103 (by first | omega | exact q_b01 _ | simp) ?_
            refine ⟨congrArg some ?_, rfl⟩
            unfold qB
            split <;> first | rfl | (exfalso; omega)
          obtain rfl | rfl | rfl : mn = 0 ∨ mn = 1 ∨ mn = 2 := by omega
          · refine q_tsIn C (off := 25) 68 dX1_isSaid_43 (by decide) (by decide) (by decide) (by decide) (by decide) ?_
            refine q_iconst C dX1_isSaid_68 ?_
            refine q_zret C' dX1_isSaid_69 (by first | omega | exact q_b01 _ | simp) ?_
            refine ⟨congrArg some ?_, rfl⟩
            unfold qB
            split <;> first | rfl | (exfalso; omega)
          · refine q_tsIn C (off := 27) 70 dX1_isSaid_43 (by decide) (by decide) (by decide) (by decide) (by decide) ?_
            refine q_iloadn C dX1_isSaid_70 rfl ?_
            refine q_iconst C dX1_isSaid_71 ?_
            refine q_iand C dX1_isSaid_72 ?_
            refine q_if_eq C 81 dX1_isSaid_73 (by decide) (by first | assumption | omega | exact q_tin _) (fun h73 => ?_) (fun h73 => ?_)
            · refine q_iconst C dX1_isSaid_81 ?_
              refine q_goto C (tgt := 86) dX1_isSaid_82 (by decide) ?_
              refine q_zret C' dX1_isSaid_86 (by first | omega | exact q_b01 _ | simp) ?_
              refine ⟨congrArg some ?_, rfl⟩
              unfold qB
              split <;> first | rfl | (exfalso; omega)
            · refine q_iloadn C dX1_isSaid_76 rfl ?_
              refine q_iconst C dX1_isSaid_77 ?_
              refine q_icmp_ne C 85 dX1_isSaid_78 (by decide) (by first | assumption | omega | exact q_tin _) (by first | assumption | omega | exact q_tin _) (fun h78 => ?_) (fun h78 => ?_)
              · refine q_iconst C dX1_isSaid_85 ?_
                refine q_zret C' dX1_isSaid_86 (by first | omega | exact q_b01 _ | simp) ?_
                refine ⟨congrArg some ?_, rfl⟩
                unfold qB
                split <;> first | rfl | (exfalso; omega)
              · refine q_iconst C dX1_isSaid_81 ?_
                refine q_goto C (tgt := 86) dX1_isSaid_82 (by decide) ?_
                refine q_zret C' dX1_isSaid_86 (by first | omega | exact q_b01 _ | simp) ?_
                refine ⟨congrArg some ?_, rfl⟩
                unfold qB
                split <;> first | rfl | (exfalso; omega)
          · refine q_tsIn C (off := 44) 87 dX1_isSaid_43 (by decide) (by decide) (by decide) (by decide) (by decide) ?_
            refine q_iload C dX1_isSaid_87 rfl ?_
            refine q_if_ne C 100 dX1_isSaid_89 (by decide) (by first | assumption | omega | exact q_tin _) (fun h89 => ?_) (fun h89 => ?_)
            · refine q_iconst C dX1_isSaid_100 ?_
              refine q_zret C' dX1_isSaid_101 (by first | omega | exact q_b01 _ | simp) ?_
              refine ⟨congrArg some ?_, rfl⟩
              unfold qB
              split <;> first | rfl | (exfalso; omega)
            · refine q_iloadn C dX1_isSaid_92 rfl ?_
              refine q_if_ne C 100 dX1_isSaid_93 (by decide) (by first | assumption | omega | exact q_tin _) (fun h93 => ?_) (fun h93 => ?_)
              · refine q_iconst C dX1_isSaid_100 ?_
                refine q_zret C' dX1_isSaid_101 (by first | omega | exact q_b01 _ | simp) ?_
                refine ⟨congrArg some ?_, rfl⟩
                unfold qB
                split <;> first | rfl | (exfalso; omega)
              · refine q_iconst C dX1_isSaid_96 ?_
                refine q_goto C (tgt := 101) dX1_isSaid_97 (by decide) ?_
                refine q_zret C' dX1_isSaid_101 (by first | omega | exact q_b01 _ | simp) ?_
                refine ⟨congrArg some ?_, rfl⟩
                unfold qB
                split <;> first | rfl | (exfalso; omega)
        · refine q_iconst C dX1_isSaid_35 ?_
          refine q_goto C (tgt := 40) dX1_isSaid_36 (by decide) ?_
          refine q_istore C dX1_isSaid_40 hn (by decide) rfl ?_
          refine q_iloadn C dX1_isSaid_42 rfl ?_
          by_cases ht43 : mn < 0 ∨ 2 < mn
          · refine q_tsOut C 102 dX1_isSaid_43 (by first | assumption | omega | exact q_tin _) ht43 (by decide) ?_
            refine q_iconst C dX1_isSaid_102 ?_
            refine q_zret C' dX1_isSaid_103 (by first | omega | exact q_b01 _ | simp) ?_
            refine ⟨congrArg some ?_, rfl⟩
            unfold qB
            split <;> first | rfl | (exfalso; omega)
          obtain rfl | rfl | rfl : mn = 0 ∨ mn = 1 ∨ mn = 2 := by omega
          · refine q_tsIn C (off := 25) 68 dX1_isSaid_43 (by decide) (by decide) (by decide) (by decide) (by decide) ?_
            refine q_iconst C dX1_isSaid_68 ?_
            refine q_zret C' dX1_isSaid_69 (by first | omega | exact q_b01 _ | simp) ?_
            refine ⟨congrArg some ?_, rfl⟩
            unfold qB
            split <;> first | rfl | (exfalso; omega)
          · refine q_tsIn C (off := 27) 70 dX1_isSaid_43 (by decide) (by decide) (by decide) (by decide) (by decide) ?_
            refine q_iloadn C dX1_isSaid_70 rfl ?_
            refine q_iconst C dX1_isSaid_71 ?_
            refine q_iand C dX1_isSaid_72 ?_
            refine q_if_eq C 81 dX1_isSaid_73 (by decide) (by first | assumption | omega | exact q_tin _) (fun h73 => ?_) (fun h73 => ?_)
            · refine q_iconst C dX1_isSaid_81 ?_
              refine q_goto C (tgt := 86) dX1_isSaid_82 (by decide) ?_
              refine q_zret C' dX1_isSaid_86 (by first | omega | exact q_b01 _ | simp) ?_
              refine ⟨congrArg some ?_, rfl⟩
              unfold qB
              split <;> first | rfl | (exfalso; omega)
            · refine q_iloadn C dX1_isSaid_76 rfl ?_
              refine q_iconst C dX1_isSaid_77 ?_
              refine q_icmp_ne C 85 dX1_isSaid_78 (by decide) (by first | assumption | omega | exact q_tin _) (by first | assumption | omega | exact q_tin _) (fun h78 => ?_) (fun h78 => ?_)
              · refine q_iconst C dX1_isSaid_85 ?_
                refine q_zret C' dX1_isSaid_86 (by first | omega | exact q_b01 _ | simp) ?_
                refine ⟨congrArg some ?_, rfl⟩
                unfold qB
                split <;> first | rfl | (exfalso; omega)
              · refine q_iconst C dX1_isSaid_81 ?_
                refine q_goto C (tgt := 86) dX1_isSaid_82 (by decide) ?_
                refine q_zret C' dX1_isSaid_86 (by first | omega | exact q_b01 _ | simp) ?_
                refine ⟨congrArg some ?_, rfl⟩
                unfold qB
                split <;> first | rfl | (exfalso; omega)
          · refine q_tsIn C (off := 44) 87 dX1_isSaid_43 (by decide) (by decide) (by decide) (by decide) (by decide) ?_
            refine q_iload C dX1_isSaid_87 rfl ?_
            refine q_if_ne C 100 dX1_isSaid_89 (by decide) (by first | assumption | omega | exact q_tin _) (fun h89 => ?_) (fun h89 => ?_)
            · refine q_iconst C dX1_isSaid_100 ?_
              refine q_zret C' dX1_isSaid_101 (by first | omega | exact q_b01 _ | simp) ?_
              refine ⟨congrArg some ?_, rfl⟩
              unfold qB
              split <;> first | rfl | (exfalso; omega)
            · refine q_iloadn C dX1_isSaid_92 rfl ?_
              refine q_if_ne C 100 dX1_isSaid_93 (by decide) (by first | assumption | omega | exact q_tin _) (fun h93 => ?_) (fun h93 => ?_)
              · refine q_iconst C dX1_isSaid_100 ?_
                refine q_zret C' dX1_isSaid_101 (by first | omega | exact q_b01 _ | simp) ?_
                refine ⟨congrArg some ?_, rfl⟩
                unfold qB
                split <;> first | rfl | (exfalso; omega)
              · refine q_iconst C dX1_isSaid_96 ?_
                refine q_goto C (tgt := 101) dX1_isSaid_97 (by decide) ?_
                refine q_zret C' dX1_isSaid_101 (by first | omega | exact q_b01 _ | simp) ?_
                refine ⟨congrArg some ?_, rfl⟩
                unfold qB
                split <;> first | rfl | (exfalso; omega)
theorem dX1_countSaid_0 : decode cX1_countSaid 0 = .ok (.iconst 0, 1) := by decide +kernel
theorem dX1_countSaid_1 : decode cX1_countSaid 1 = .ok (.istore_n 1, 1) := by decide +kernel
theorem dX1_countSaid_2 : decode cX1_countSaid 2 = .ok (.iconst 0, 1) := by decide +kernel
theorem dX1_countSaid_3 : decode cX1_countSaid 3 = .ok (.istore_n 2, 1) := by decide +kernel
theorem dX1_countSaid_4 : decode cX1_countSaid 4 = .ok (.iload_n 2, 1) := by decide +kernel
theorem dX1_countSaid_5 : decode cX1_countSaid 5 = .ok (.bipush 48, 2) := by decide +kernel
theorem dX1_countSaid_7 : decode cX1_countSaid 7 = .ok (.if_icmp .ge 20, 3) := by decide +kernel
theorem dX1_countSaid_10 : decode cX1_countSaid 10 = .ok (.iload_n 0, 1) := by decide +kernel
theorem dX1_countSaid_11 : decode cX1_countSaid 11 = .ok (.iload_n 2, 1) := by decide +kernel
theorem dX1_countSaid_12 : decode cX1_countSaid 12 = .ok (.invokestatic 9, 3) := by decide +kernel
theorem dX1_countSaid_15 : decode cX1_countSaid 15 = .ok (.ifCond .eq 6, 3) := by decide +kernel
theorem dX1_countSaid_18 : decode cX1_countSaid 18 = .ok (.iinc 1 1, 3) := by decide +kernel
theorem dX1_countSaid_21 : decode cX1_countSaid 21 = .ok (.iinc 2 1, 3) := by decide +kernel
theorem dX1_countSaid_24 : decode cX1_countSaid 24 = .ok (.goto (-20), 3) := by decide +kernel
theorem dX1_countSaid_27 : decode cX1_countSaid 27 = .ok (.iload_n 1, 1) := by decide +kernel
theorem dX1_countSaid_28 : decode cX1_countSaid 28 = .ok (.ireturn, 1) := by decide +kernel
set_option maxRecDepth 4000 in
set_option maxHeartbeats 4000000 in
theorem m_X1_countSaid (l : Launch) (g : qGm) (M : qMem) {mn : Int} (hmn : qIn mn) : qOk l g 2 yX1_countSaid cX1_countSaid 3 (some .int) [qI mn] M (qEv (some (sSum (fun k => qB (sSaid mn k)) 48)) M) := by
  refine q_ok (by decide +kernel) (Nat.le_of_ble_eq_true rfl) (fun X C' hn => ?_)
  have C := C'.1
  refine q_iconst C dX1_countSaid_0 ?_
  refine q_istoren C dX1_countSaid_1 hn (by decide) rfl ?_
  refine q_iconst C dX1_countSaid_2 ?_
  refine q_istoren C dX1_countSaid_3 hn (by decide) rfl ?_
  have L4 : ∀ (n4 : Nat) (s : Int) (i : Int), 48 - i < (n4 : Int) → 0 ≤ i → i ≤ 48 → s = sSum (fun k => qB (sSaid mn k)) i → 0 ≤ s ∧ s ≤ i → qV l g X M 4 [(0, qI mn), (1, qI s), (2, qI i)] [] := by
    intro n4
    induction n4 with
    | zero => intro s i hm4 h0 h1 hs hb; exfalso; first | omega | (simp at *; omega)
    | succ n4 ih4 =>
      intro s i hm4 h0 h1 hs hb
      refine q_iloadn C dX1_countSaid_4 rfl ?_
      refine q_bipush C dX1_countSaid_5 (by decide) ?_
      refine q_icmp_ge C 27 dX1_countSaid_7 (by decide) (by first | assumption | omega | exact q_tin _) (by first | assumption | omega | exact q_tin _) (fun h7 => ?_) (fun h7 => ?_)
      · refine q_iloadn C dX1_countSaid_27 rfl ?_
        refine q_iret C' dX1_countSaid_28 (by first | assumption | omega | exact q_tin _) ?_
        have : i = 48 := by omega
        subst this
        exact ⟨congrArg some hs, rfl⟩
      · refine q_iloadn C dX1_countSaid_10 rfl ?_
        refine q_iloadn C dX1_countSaid_11 rfl ?_
        refine cv_RX1_9 C (by decide) (m_X1_isSaid l g _ hmn (by omega)) dX1_countSaid_12 (Nat.le_of_ble_eq_true rfl) (fun r12 => ?_)
        refine q_ifeqB C 21 dX1_countSaid_15 (by decide) (fun h15 => ?_) (fun h15 => ?_)
        · refine q_iinc C dX1_countSaid_21 rfl hn (by decide) rfl ?_
          refine q_goto C (tgt := 4) dX1_countSaid_24 (by decide) ?_
          exact q_ls (by exact ⟨rfl, rfl, rfl, trivial⟩) (ih4 _ _ (by omega) (by omega) (by omega) (by rw [sSum_s _ (by omega)]; first | (rw [q_bT h15]; omega) | (rw [q_bF h15]; omega)) (by omega))
        · refine q_iinc C dX1_countSaid_18 rfl hn (by decide) rfl ?_
          refine q_iinc C dX1_countSaid_21 rfl hn (by decide) rfl ?_
          refine q_goto C (tgt := 4) dX1_countSaid_24 (by decide) ?_
          exact q_ls (by exact ⟨rfl, rfl, rfl, trivial⟩) (ih4 _ _ (by omega) (by omega) (by omega) (by rw [sSum_s _ (by omega)]; first | (rw [q_bT h15]; omega) | (rw [q_bF h15]; omega)) (by omega))
  exact q_ls (by exact ⟨rfl, rfl, rfl, trivial⟩) (L4 1000 _ _ (by omega) (by omega) (by omega) (by rfl) (by omega))
theorem dX1_partsLaid_0 : decode cX1_partsLaid 0 = .ok (.iconst 0, 1) := by decide +kernel
theorem dX1_partsLaid_1 : decode cX1_partsLaid 1 = .ok (.istore_n 1, 1) := by decide +kernel
theorem dX1_partsLaid_2 : decode cX1_partsLaid 2 = .ok (.iconst 0, 1) := by decide +kernel
theorem dX1_partsLaid_3 : decode cX1_partsLaid 3 = .ok (.istore_n 2, 1) := by decide +kernel
theorem dX1_partsLaid_4 : decode cX1_partsLaid 4 = .ok (.iload_n 2, 1) := by decide +kernel
theorem dX1_partsLaid_5 : decode cX1_partsLaid 5 = .ok (.iconst 5, 1) := by decide +kernel
theorem dX1_partsLaid_6 : decode cX1_partsLaid 6 = .ok (.if_icmp .ge 20, 3) := by decide +kernel
theorem dX1_partsLaid_9 : decode cX1_partsLaid 9 = .ok (.iload_n 0, 1) := by decide +kernel
theorem dX1_partsLaid_10 : decode cX1_partsLaid 10 = .ok (.iload_n 2, 1) := by decide +kernel
theorem dX1_partsLaid_11 : decode cX1_partsLaid 11 = .ok (.invokestatic 15, 3) := by decide +kernel
theorem dX1_partsLaid_14 : decode cX1_partsLaid 14 = .ok (.ifCond .eq 6, 3) := by decide +kernel
theorem dX1_partsLaid_17 : decode cX1_partsLaid 17 = .ok (.iinc 1 1, 3) := by decide +kernel
theorem dX1_partsLaid_20 : decode cX1_partsLaid 20 = .ok (.iinc 2 1, 3) := by decide +kernel
theorem dX1_partsLaid_23 : decode cX1_partsLaid 23 = .ok (.goto (-19), 3) := by decide +kernel
theorem dX1_partsLaid_26 : decode cX1_partsLaid 26 = .ok (.iload_n 1, 1) := by decide +kernel
theorem dX1_partsLaid_27 : decode cX1_partsLaid 27 = .ok (.ireturn, 1) := by decide +kernel
set_option maxRecDepth 4000 in
set_option maxHeartbeats 4000000 in
theorem m_X1_partsLaid (l : Launch) (g : qGm) (M : qMem) {a : Int} (ha : 0 ≤ a ∧ a < 48) : qOk l g 2 yX1_partsLaid cX1_partsLaid 3 (some .int) [qI a] M (qEv (some (sSum (fun k => qB (sPart a k ≠ 0)) 5)) M) := by
  refine q_ok (by decide +kernel) (Nat.le_of_ble_eq_true rfl) (fun X C' hn => ?_)
  have C := C'.1
  refine q_iconst C dX1_partsLaid_0 ?_
  refine q_istoren C dX1_partsLaid_1 hn (by decide) rfl ?_
  refine q_iconst C dX1_partsLaid_2 ?_
  refine q_istoren C dX1_partsLaid_3 hn (by decide) rfl ?_
  have L4 : ∀ (n4 : Nat) (s : Int) (i : Int), 5 - i < (n4 : Int) → 0 ≤ i → i ≤ 5 → s = sSum (fun k => qB (sPart a k ≠ 0)) i → 0 ≤ s ∧ s ≤ i → qV l g X M 4 [(0, qI a), (1, qI s), (2, qI i)] [] := by
    intro n4
    induction n4 with
    | zero => intro s i hm4 h0 h1 hs hb; exfalso; first | omega | (simp at *; omega)
    | succ n4 ih4 =>
      intro s i hm4 h0 h1 hs hb
      refine q_iloadn C dX1_partsLaid_4 rfl ?_
      refine q_iconst C dX1_partsLaid_5 ?_
      refine q_icmp_ge C 26 dX1_partsLaid_6 (by decide) (by first | assumption | omega | exact q_tin _) (by first | assumption | omega | exact q_tin _) (fun h6 => ?_) (fun h6 => ?_)
      · refine q_iloadn C dX1_partsLaid_26 rfl ?_
        refine q_iret C' dX1_partsLaid_27 (by first | assumption | omega | exact q_tin _) ?_
        have : i = 5 := by omega
        subst this
        exact ⟨congrArg some hs, rfl⟩
      · refine q_iloadn C dX1_partsLaid_9 rfl ?_
        refine q_iloadn C dX1_partsLaid_10 rfl ?_
        refine cv_RX1_15 C (by decide) (m_X1_partOf l g _ ha (by omega)) dX1_partsLaid_11 (Nat.le_of_ble_eq_true rfl) (fun r11 => ?_)
        refine q_if_eq C 20 dX1_partsLaid_14 (by decide) (by first | assumption | omega | exact q_tin _) (fun h14 => ?_) (fun h14 => ?_)
        · refine q_iinc C dX1_partsLaid_20 rfl hn (by decide) rfl ?_
          refine q_goto C (tgt := 4) dX1_partsLaid_23 (by decide) ?_
          exact q_ls (by exact ⟨rfl, rfl, rfl, trivial⟩) (ih4 _ _ (by omega) (by omega) (by omega) (by rw [sSum_s _ (by omega)]; first | (rw [q_bT h14]; omega) | (rw [q_bF (by omega)]; omega)) (by omega))
        · refine q_iinc C dX1_partsLaid_17 rfl hn (by decide) rfl ?_
          refine q_iinc C dX1_partsLaid_20 rfl hn (by decide) rfl ?_
          refine q_goto C (tgt := 4) dX1_partsLaid_23 (by decide) ?_
          exact q_ls (by exact ⟨rfl, rfl, rfl, trivial⟩) (ih4 _ _ (by omega) (by omega) (by omega) (by rw [sSum_s _ (by omega)]; first | (rw [q_bT h14]; omega) | (rw [q_bF (by omega)]; omega)) (by omega))
  exact q_ls (by exact ⟨rfl, rfl, rfl, trivial⟩) (L4 1000 _ _ (by omega) (by omega) (by omega) (by rfl) (by omega))
theorem dX4_empty_0 : decode cX4_empty 0 = .ok (.aload_n 0, 1) := by decide +kernel
theorem dX4_empty_1 : decode cX4_empty 1 = .ok (.iconst 0, 1) := by decide +kernel
theorem dX4_empty_2 : decode cX4_empty 2 = .ok (.putfield 15, 3) := by decide +kernel
theorem dX4_empty_5 : decode cX4_empty 5 = .ok (.aload_n 0, 1) := by decide +kernel
theorem dX4_empty_6 : decode cX4_empty 6 = .ok (.iconst 0, 1) := by decide +kernel
theorem dX4_empty_7 : decode cX4_empty 7 = .ok (.putfield 19, 3) := by decide +kernel
theorem dX4_empty_10 : decode cX4_empty 10 = .ok (.return_, 1) := by decide +kernel
set_option maxRecDepth 4000 in
set_option maxHeartbeats 4000000 in
theorem m_X4_empty (l : Launch) (g : qGm) (M : qMem) {u : Nat} (hu : u < 33) : qOk l g 1 yX4_empty cX4_empty 1 none [qR g 17 u] M (qEv none (qUp (qUp M 17 u 1 0) 17 u 2 0)) := by
  refine q_ok (by decide +kernel) (Nat.le_of_ble_eq_true rfl) (fun X C' hn => ?_)
  have C := C'.1
  refine q_aloadn C dX4_empty_0 rfl ?_
  refine q_iconst C dX4_empty_1 ?_
  refine pf_RX4_15 C (by first | assumption | decide | omega) (by first | assumption | omega | exact q_tin _) dX4_empty_2 ?_
  refine q_aloadn C dX4_empty_5 rfl ?_
  refine q_iconst C dX4_empty_6 ?_
  refine pf_RX4_19 C (by first | assumption | decide | omega) (by first | assumption | omega | exact q_tin _) dX4_empty_7 ?_
  refine q_vret C' dX4_empty_10 ?_
  exact ⟨rfl, rfl⟩
theorem dX4_become_0 : decode cX4_become 0 = .ok (.aload_n 0, 1) := by decide +kernel
theorem dX4_become_1 : decode cX4_become 1 = .ok (.aload_n 1, 1) := by decide +kernel
theorem dX4_become_2 : decode cX4_become 2 = .ok (.getfield 15, 3) := by decide +kernel
theorem dX4_become_5 : decode cX4_become 5 = .ok (.putfield 15, 3) := by decide +kernel
theorem dX4_become_8 : decode cX4_become 8 = .ok (.aload_n 0, 1) := by decide +kernel
theorem dX4_become_9 : decode cX4_become 9 = .ok (.aload_n 1, 1) := by decide +kernel
theorem dX4_become_10 : decode cX4_become 10 = .ok (.getfield 19, 3) := by decide +kernel
theorem dX4_become_13 : decode cX4_become 13 = .ok (.putfield 19, 3) := by decide +kernel
theorem dX4_become_16 : decode cX4_become 16 = .ok (.aload_n 1, 1) := by decide +kernel
theorem dX4_become_17 : decode cX4_become 17 = .ok (.getfield 11, 3) := by decide +kernel
theorem dX4_become_20 : decode cX4_become 20 = .ok (.iconst 0, 1) := by decide +kernel
theorem dX4_become_21 : decode cX4_become 21 = .ok (.aload_n 0, 1) := by decide +kernel
theorem dX4_become_22 : decode cX4_become 22 = .ok (.getfield 11, 3) := by decide +kernel
theorem dX4_become_25 : decode cX4_become 25 = .ok (.iconst 0, 1) := by decide +kernel
theorem dX4_become_26 : decode cX4_become 26 = .ok (.bipush 100, 2) := by decide +kernel
theorem dX4_become_28 : decode cX4_become 28 = .ok (.invokestatic 28, 3) := by decide +kernel
theorem dX4_become_31 : decode cX4_become 31 = .ok (.return_, 1) := by decide +kernel
set_option maxRecDepth 4000 in
set_option maxHeartbeats 4000000 in
theorem m_X4_become (l : Launch) (g : qGm) (M : qMem) {u : Nat} (hu : u < 33) {w : Nat} (hw : w < 33) (hne : ¬ w = u) : qOk l g 1 yX4_become cX4_become 2 none [qR g 17 u, qR g 17 w] M (qEv none (qSet (qUp (qUp M 17 u 1 (M 17 w 1)) 17 u 2 (M 17 w 2)) 18 u (M 18 w))) := by
  refine q_ok (by decide +kernel) (Nat.le_of_ble_eq_true rfl) (fun X C' hn => ?_)
  have C := C'.1
  refine q_aloadn C dX4_become_0 rfl ?_
  refine q_aloadn C dX4_become_1 rfl ?_
  refine gf_RX4_15 C (by first | assumption | decide | omega) dX4_become_2 (fun r2 => ?_)
  refine pf_RX4_15 C (by first | assumption | decide | omega) (by first | assumption | omega | exact q_tin _) dX4_become_5 ?_
  refine q_aloadn C dX4_become_8 rfl ?_
  refine q_aloadn C dX4_become_9 rfl ?_
  refine gf_RX4_19 C (by first | assumption | decide | omega) dX4_become_10 (fun r10 => ?_)
  simp only [q_rd, q_rdS, ↓reduceIte, if_true, if_false, eq_self, Nat.reduceEqDiff, Int.reduceEq, Int.reduceNeg, reduceCtorEq, if_neg hne] at r10 ⊢
  refine pf_RX4_19 C (by first | assumption | decide | omega) (by first | assumption | omega | exact q_tin _) dX4_become_13 ?_
  refine q_aloadn C dX4_become_16 rfl ?_
  refine gf_RX4_11 C (by first | assumption | decide | omega) dX4_become_17 ?_
  refine q_iconst C dX4_become_20 ?_
  refine q_aloadn C dX4_become_21 rfl ?_
  refine gf_RX4_11 C (by first | assumption | decide | omega) dX4_become_22 ?_
  refine q_iconst C dX4_become_25 ?_
  refine q_bipush C dX4_become_26 (by decide) ?_
  refine q_copy C (by first | assumption | decide) (by first | assumption | decide) rfl (fun _ => rfl) (by decide) q_ml_RX4_28 q_nat q_sta q_sin (by decide) (Nat.le_of_ble_eq_true rfl) dX4_become_28 ?_
  refine q_vret C' dX4_become_31 ?_
  exact ⟨rfl, rfl⟩
theorem dX4_look_0 : decode cX4_look 0 = .ok (.iload_n 1, 1) := by decide +kernel
theorem dX4_look_1 : decode cX4_look 1 = .ok (.ifCond .lt 11, 3) := by decide +kernel
theorem dX4_look_4 : decode cX4_look 4 = .ok (.iload_n 1, 1) := by decide +kernel
theorem dX4_look_5 : decode cX4_look 5 = .ok (.aload_n 0, 1) := by decide +kernel
theorem dX4_look_6 : decode cX4_look 6 = .ok (.getfield 19, 3) := by decide +kernel
theorem dX4_look_9 : decode cX4_look 9 = .ok (.if_icmp .lt 5, 3) := by decide +kernel
theorem dX4_look_12 : decode cX4_look 12 = .ok (.iconst (-1), 1) := by decide +kernel
theorem dX4_look_13 : decode cX4_look 13 = .ok (.ireturn, 1) := by decide +kernel
theorem dX4_look_14 : decode cX4_look 14 = .ok (.aload_n 0, 1) := by decide +kernel
theorem dX4_look_15 : decode cX4_look 15 = .ok (.getfield 15, 3) := by decide +kernel
theorem dX4_look_18 : decode cX4_look 18 = .ok (.iload_n 1, 1) := by decide +kernel
theorem dX4_look_19 : decode cX4_look 19 = .ok (.if_icmp .lt 12, 3) := by decide +kernel
theorem dX4_look_22 : decode cX4_look 22 = .ok (.aload_n 0, 1) := by decide +kernel
theorem dX4_look_23 : decode cX4_look 23 = .ok (.getfield 15, 3) := by decide +kernel
theorem dX4_look_26 : decode cX4_look 26 = .ok (.iload_n 1, 1) := by decide +kernel
theorem dX4_look_27 : decode cX4_look 27 = .ok (.isub, 1) := by decide +kernel
theorem dX4_look_28 : decode cX4_look 28 = .ok (.goto 12, 3) := by decide +kernel
theorem dX4_look_31 : decode cX4_look 31 = .ok (.aload_n 0, 1) := by decide +kernel
theorem dX4_look_32 : decode cX4_look 32 = .ok (.getfield 15, 3) := by decide +kernel
theorem dX4_look_35 : decode cX4_look 35 = .ok (.iload_n 1, 1) := by decide +kernel
theorem dX4_look_36 : decode cX4_look 36 = .ok (.isub, 1) := by decide +kernel
theorem dX4_look_37 : decode cX4_look 37 = .ok (.bipush 20, 2) := by decide +kernel
theorem dX4_look_39 : decode cX4_look 39 = .ok (.iadd, 1) := by decide +kernel
theorem dX4_look_40 : decode cX4_look 40 = .ok (.istore_n 3, 1) := by decide +kernel
theorem dX4_look_41 : decode cX4_look 41 = .ok (.aload_n 0, 1) := by decide +kernel
theorem dX4_look_42 : decode cX4_look 42 = .ok (.getfield 11, 3) := by decide +kernel
theorem dX4_look_45 : decode cX4_look 45 = .ok (.iload_n 3, 1) := by decide +kernel
theorem dX4_look_46 : decode cX4_look 46 = .ok (.iconst 5, 1) := by decide +kernel
theorem dX4_look_47 : decode cX4_look 47 = .ok (.imul, 1) := by decide +kernel
theorem dX4_look_48 : decode cX4_look 48 = .ok (.iload_n 2, 1) := by decide +kernel
theorem dX4_look_49 : decode cX4_look 49 = .ok (.iadd, 1) := by decide +kernel
theorem dX4_look_50 : decode cX4_look 50 = .ok (.iaload, 1) := by decide +kernel
theorem dX4_look_51 : decode cX4_look 51 = .ok (.ireturn, 1) := by decide +kernel
set_option maxRecDepth 4000 in
set_option maxHeartbeats 4000000 in
theorem m_X4_look (l : Launch) (g : qGm) (M : qMem) {u : Nat} (hu : u < 33) {i k : Int} (hi : qIn i) (hk : 0 ≤ k ∧ k < 5) (hs : 0 ≤ M 17 u 2 ∧ M 17 u 2 ≤ 20) (hnw : 0 ≤ M 17 u 1 ∧ M 17 u 1 < 20) : qOk l g 1 yX4_look cX4_look 4 (some .int) [qR g 17 u, qI i, qI k] M (qEv (some (if 0 ≤ i ∧ i < M 17 u 2 then M 18 u ((if i ≤ M 17 u 1 then M 17 u 1 - i else M 17 u 1 - i + 20) * 5 + k) else -1)) M) := by
  refine q_ok (by decide +kernel) (Nat.le_of_ble_eq_true rfl) (fun X C' hn => ?_)
  have C := C'.1
  refine q_iloadn C dX4_look_0 rfl ?_
  refine q_if_lt C 12 dX4_look_1 (by decide) (by first | assumption | omega | exact q_tin _) (fun h1 => ?_) (fun h1 => ?_)
  · refine q_iconst C dX4_look_12 ?_
    refine q_iret C' dX4_look_13 (by first | assumption | omega | exact q_tin _) ?_
    refine ⟨congrArg some ?_, rfl⟩
    first | (rw [if_pos (by omega)]; first | rw [if_pos (by omega)] | rw [if_neg (by omega)]) | (rw [if_neg (by omega)])
  · refine q_iloadn C dX4_look_4 rfl ?_
    refine q_aloadn C dX4_look_5 rfl ?_
    refine gf_RX4_19 C (by first | assumption | decide | omega) dX4_look_6 (fun r6 => ?_)
    refine q_icmp_lt C 14 dX4_look_9 (by decide) (by first | assumption | omega | exact q_tin _) (by first | assumption | omega | exact q_tin _) (fun h9 => ?_) (fun h9 => ?_)
    · refine q_aloadn C dX4_look_14 rfl ?_
      refine gf_RX4_15 C (by first | assumption | decide | omega) dX4_look_15 (fun r15 => ?_)
      refine q_iloadn C dX4_look_18 rfl ?_
      refine q_icmp_lt C 31 dX4_look_19 (by decide) (by first | assumption | omega | exact q_tin _) (by first | assumption | omega | exact q_tin _) (fun h19 => ?_) (fun h19 => ?_)
      · refine q_aloadn C dX4_look_31 rfl ?_
        refine gf_RX4_15 C (by first | assumption | decide | omega) dX4_look_32 (fun r32 => ?_)
        refine q_iloadn C dX4_look_35 rfl ?_
        refine q_isub C dX4_look_36 ?_
        refine q_bipush C dX4_look_37 (by decide) ?_
        refine q_iadd C dX4_look_39 ?_
        refine q_istoren C dX4_look_40 hn (by decide) rfl ?_
        refine q_aloadn C dX4_look_41 rfl ?_
        refine gf_RX4_11 C (by first | assumption | decide | omega) dX4_look_42 ?_
        refine q_iloadn C dX4_look_45 rfl ?_
        refine q_iconst C dX4_look_46 ?_
        refine q_imul C dX4_look_47 ?_
        refine q_iloadn C dX4_look_48 rfl ?_
        refine q_iadd C dX4_look_49 ?_
        refine q_iald C (by first | assumption | decide | omega) rfl dX4_look_50 (by omega) (by omega) (by decide) (fun r50 => ?_)
        refine q_iret C' dX4_look_51 (by first | assumption | omega | exact q_tin _) ?_
        refine ⟨congrArg some ?_, rfl⟩
        first | (rw [if_pos (by omega)]; first | rw [if_pos (by omega)] | rw [if_neg (by omega)]) | (rw [if_neg (by omega)])
      · refine q_aloadn C dX4_look_22 rfl ?_
        refine gf_RX4_15 C (by first | assumption | decide | omega) dX4_look_23 (fun r23 => ?_)
        refine q_iloadn C dX4_look_26 rfl ?_
        refine q_isub C dX4_look_27 ?_
        refine q_goto C (tgt := 40) dX4_look_28 (by decide) ?_
        refine q_istoren C dX4_look_40 hn (by decide) rfl ?_
        refine q_aloadn C dX4_look_41 rfl ?_
        refine gf_RX4_11 C (by first | assumption | decide | omega) dX4_look_42 ?_
        refine q_iloadn C dX4_look_45 rfl ?_
        refine q_iconst C dX4_look_46 ?_
        refine q_imul C dX4_look_47 ?_
        refine q_iloadn C dX4_look_48 rfl ?_
        refine q_iadd C dX4_look_49 ?_
        refine q_iald C (by first | assumption | decide | omega) rfl dX4_look_50 (by omega) (by omega) (by decide) (fun r50 => ?_)
        refine q_iret C' dX4_look_51 (by first | assumption | omega | exact q_tin _) ?_
        refine ⟨congrArg some ?_, rfl⟩
        first | (rw [if_pos (by omega)]; first | rw [if_pos (by omega)] | rw [if_neg (by omega)]) | (rw [if_neg (by omega)])
    · refine q_iconst C dX4_look_12 ?_
      refine q_iret C' dX4_look_13 (by first | assumption | omega | exact q_tin _) ?_
      refine ⟨congrArg some ?_, rfl⟩
      first | (rw [if_pos (by omega)]; first | rw [if_pos (by omega)] | rw [if_neg (by omega)]) | (rw [if_neg (by omega)])
/-- the log behind one more visit -/
def xLog (M : qMem) (u : Nat) (dy c h a r : Int) : qMem :=
  let n := if M 17 u 1 < 19 then M 17 u 1 + 1 else 0
  qUp (qUp (qUp (qUp (qUp (qUp (qUp M 17 u 1 n) 17 u 2 (sMin (M 17 u 2 + 1) 20)) 18 u (n * 5) dy) 18 u (n * 5 + 1) c) 18 u (n * 5 + 2) h) 18 u (n * 5 + 3) a) 18 u (n * 5 + 4) r
theorem dX4_append_0 : decode cX4_append 0 = .ok (.aload_n 0, 1) := by decide +kernel
theorem dX4_append_1 : decode cX4_append 1 = .ok (.aload_n 0, 1) := by decide +kernel
theorem dX4_append_2 : decode cX4_append 2 = .ok (.getfield 15, 3) := by decide +kernel
theorem dX4_append_5 : decode cX4_append 5 = .ok (.bipush 19, 2) := by decide +kernel
theorem dX4_append_7 : decode cX4_append 7 = .ok (.if_icmp .ge 12, 3) := by decide +kernel
theorem dX4_append_10 : decode cX4_append 10 = .ok (.aload_n 0, 1) := by decide +kernel
theorem dX4_append_11 : decode cX4_append 11 = .ok (.getfield 15, 3) := by decide +kernel
theorem dX4_append_14 : decode cX4_append 14 = .ok (.iconst 1, 1) := by decide +kernel
theorem dX4_append_15 : decode cX4_append 15 = .ok (.iadd, 1) := by decide +kernel
theorem dX4_append_16 : decode cX4_append 16 = .ok (.goto 4, 3) := by decide +kernel
theorem dX4_append_19 : decode cX4_append 19 = .ok (.iconst 0, 1) := by decide +kernel
theorem dX4_append_20 : decode cX4_append 20 = .ok (.putfield 15, 3) := by decide +kernel
theorem dX4_append_23 : decode cX4_append 23 = .ok (.aload_n 0, 1) := by decide +kernel
theorem dX4_append_24 : decode cX4_append 24 = .ok (.aload_n 0, 1) := by decide +kernel
theorem dX4_append_25 : decode cX4_append 25 = .ok (.getfield 19, 3) := by decide +kernel
theorem dX4_append_28 : decode cX4_append 28 = .ok (.iconst 1, 1) := by decide +kernel
theorem dX4_append_29 : decode cX4_append 29 = .ok (.iadd, 1) := by decide +kernel
theorem dX4_append_30 : decode cX4_append 30 = .ok (.bipush 20, 2) := by decide +kernel
theorem dX4_append_32 : decode cX4_append 32 = .ok (.invokestatic 22, 3) := by decide +kernel
theorem dX4_append_35 : decode cX4_append 35 = .ok (.putfield 19, 3) := by decide +kernel
theorem dX4_append_38 : decode cX4_append 38 = .ok (.aload_n 0, 1) := by decide +kernel
theorem dX4_append_39 : decode cX4_append 39 = .ok (.getfield 15, 3) := by decide +kernel
theorem dX4_append_42 : decode cX4_append 42 = .ok (.iconst 5, 1) := by decide +kernel
theorem dX4_append_43 : decode cX4_append 43 = .ok (.imul, 1) := by decide +kernel
theorem dX4_append_44 : decode cX4_append 44 = .ok (.istore 6, 2) := by decide +kernel
theorem dX4_append_46 : decode cX4_append 46 = .ok (.aload_n 0, 1) := by decide +kernel
theorem dX4_append_47 : decode cX4_append 47 = .ok (.getfield 11, 3) := by decide +kernel
theorem dX4_append_50 : decode cX4_append 50 = .ok (.iload 6, 2) := by decide +kernel
theorem dX4_append_52 : decode cX4_append 52 = .ok (.iload_n 1, 1) := by decide +kernel
theorem dX4_append_53 : decode cX4_append 53 = .ok (.iastore, 1) := by decide +kernel
theorem dX4_append_54 : decode cX4_append 54 = .ok (.aload_n 0, 1) := by decide +kernel
theorem dX4_append_55 : decode cX4_append 55 = .ok (.getfield 11, 3) := by decide +kernel
theorem dX4_append_58 : decode cX4_append 58 = .ok (.iload 6, 2) := by decide +kernel
theorem dX4_append_60 : decode cX4_append 60 = .ok (.iconst 1, 1) := by decide +kernel
theorem dX4_append_61 : decode cX4_append 61 = .ok (.iadd, 1) := by decide +kernel
theorem dX4_append_62 : decode cX4_append 62 = .ok (.iload_n 2, 1) := by decide +kernel
theorem dX4_append_63 : decode cX4_append 63 = .ok (.iastore, 1) := by decide +kernel
theorem dX4_append_64 : decode cX4_append 64 = .ok (.aload_n 0, 1) := by decide +kernel
theorem dX4_append_65 : decode cX4_append 65 = .ok (.getfield 11, 3) := by decide +kernel
theorem dX4_append_68 : decode cX4_append 68 = .ok (.iload 6, 2) := by decide +kernel
theorem dX4_append_70 : decode cX4_append 70 = .ok (.iconst 2, 1) := by decide +kernel
theorem dX4_append_71 : decode cX4_append 71 = .ok (.iadd, 1) := by decide +kernel
theorem dX4_append_72 : decode cX4_append 72 = .ok (.iload_n 3, 1) := by decide +kernel
theorem dX4_append_73 : decode cX4_append 73 = .ok (.iastore, 1) := by decide +kernel
theorem dX4_append_74 : decode cX4_append 74 = .ok (.aload_n 0, 1) := by decide +kernel
theorem dX4_append_75 : decode cX4_append 75 = .ok (.getfield 11, 3) := by decide +kernel
theorem dX4_append_78 : decode cX4_append 78 = .ok (.iload 6, 2) := by decide +kernel
theorem dX4_append_80 : decode cX4_append 80 = .ok (.iconst 3, 1) := by decide +kernel
theorem dX4_append_81 : decode cX4_append 81 = .ok (.iadd, 1) := by decide +kernel
theorem dX4_append_82 : decode cX4_append 82 = .ok (.iload 4, 2) := by decide +kernel
theorem dX4_append_84 : decode cX4_append 84 = .ok (.iastore, 1) := by decide +kernel
theorem dX4_append_85 : decode cX4_append 85 = .ok (.aload_n 0, 1) := by decide +kernel
theorem dX4_append_86 : decode cX4_append 86 = .ok (.getfield 11, 3) := by decide +kernel
theorem dX4_append_89 : decode cX4_append 89 = .ok (.iload 6, 2) := by decide +kernel
theorem dX4_append_91 : decode cX4_append 91 = .ok (.iconst 4, 1) := by decide +kernel
theorem dX4_append_92 : decode cX4_append 92 = .ok (.iadd, 1) := by decide +kernel
theorem dX4_append_93 : decode cX4_append 93 = .ok (.iload 5, 2) := by decide +kernel
theorem dX4_append_95 : decode cX4_append 95 = .ok (.iastore, 1) := by decide +kernel
theorem dX4_append_96 : decode cX4_append 96 = .ok (.return_, 1) := by decide +kernel
set_option maxRecDepth 4000 in
set_option maxHeartbeats 4000000 in
theorem m_X4_append (l : Launch) (g : qGm) (M : qMem) {u : Nat} (hu : u < 33) {dy c h a r : Int} (hdy : qIn dy) (hc : qIn c) (hh : qIn h) (ha : qIn a) (hr : qIn r) (hs : 0 ≤ M 17 u 2 ∧ M 17 u 2 ≤ 20) (hnw : 0 ≤ M 17 u 1 ∧ M 17 u 1 < 20) : qOk l g 2 yX4_append cX4_append 7 none [qR g 17 u, qI dy, qI c, qI h, qI a, qI r] M (qEv none (xLog M u dy c h a r)) := by
  refine q_ok (by decide +kernel) (Nat.le_of_ble_eq_true rfl) (fun X C' hn => ?_)
  have C := C'.1
  refine q_aloadn C dX4_append_0 rfl ?_
  refine q_aloadn C dX4_append_1 rfl ?_
  refine gf_RX4_15 C (by first | assumption | decide | omega) dX4_append_2 (fun r2 => ?_)
  refine q_bipush C dX4_append_5 (by decide) ?_
  refine q_icmp_ge C 19 dX4_append_7 (by decide) (by first | assumption | omega | exact q_tin _) (by first | assumption | omega | exact q_tin _) (fun h7 => ?_) (fun h7 => ?_)
  · refine q_iconst C dX4_append_19 ?_
    refine pf_RX4_15 C (by first | assumption | decide | omega) (by first | assumption | omega | exact q_tin _) dX4_append_20 ?_
    refine q_aloadn C dX4_append_23 rfl ?_
    refine q_aloadn C dX4_append_24 rfl ?_
    refine gf_RX4_19 C (by first | assumption | decide | omega) dX4_append_25 (fun r25 => ?_)
    simp only [q_rd, q_rdS, ↓reduceIte, if_true, if_false, eq_self, Nat.reduceEqDiff, Int.reduceEq, Int.reduceNeg, reduceCtorEq] at r25 ⊢
    refine q_iconst C dX4_append_28 ?_
    refine q_iadd C dX4_append_29 ?_
    refine q_bipush C dX4_append_30 (by decide) ?_
    refine q_mmin C q_ml_RX4_22 (by first | assumption | omega | exact q_tin _) (by first | assumption | omega | exact q_tin _) (by decide) (Nat.le_of_ble_eq_true rfl) dX4_append_32 (fun r32 => ?_)
    refine pf_RX4_19 C (by first | assumption | decide | omega) (by first | assumption | omega | exact q_tin _) dX4_append_35 ?_
    refine q_aloadn C dX4_append_38 rfl ?_
    refine gf_RX4_15 C (by first | assumption | decide | omega) dX4_append_39 (fun r39 => ?_)
    simp only [q_rd, q_rdS, ↓reduceIte, if_true, if_false, eq_self, Nat.reduceEqDiff, Int.reduceEq, Int.reduceNeg, reduceCtorEq] at r39 ⊢
    refine q_iconst C dX4_append_42 ?_
    refine q_imul C dX4_append_43 ?_
    refine q_istore C dX4_append_44 hn (by decide) rfl ?_
    refine q_aloadn C dX4_append_46 rfl ?_
    refine gf_RX4_11 C (by first | assumption | decide | omega) dX4_append_47 ?_
    refine q_iload C dX4_append_50 rfl ?_
    refine q_iloadn C dX4_append_52 rfl ?_
    refine q_iast C (by first | assumption | decide | omega) (fun _ => rfl) dX4_append_53 (by omega) (by omega) (by decide) (by first | assumption | omega | exact q_tin _) ?_
    refine q_aloadn C dX4_append_54 rfl ?_
    refine gf_RX4_11 C (by first | assumption | decide | omega) dX4_append_55 ?_
    refine q_iload C dX4_append_58 rfl ?_
    refine q_iconst C dX4_append_60 ?_
    refine q_iadd C dX4_append_61 ?_
    refine q_iloadn C dX4_append_62 rfl ?_
    refine q_iast C (by first | assumption | decide | omega) (fun _ => rfl) dX4_append_63 (by omega) (by omega) (by decide) (by first | assumption | omega | exact q_tin _) ?_
    refine q_aloadn C dX4_append_64 rfl ?_
    refine gf_RX4_11 C (by first | assumption | decide | omega) dX4_append_65 ?_
    refine q_iload C dX4_append_68 rfl ?_
    refine q_iconst C dX4_append_70 ?_
    refine q_iadd C dX4_append_71 ?_
    refine q_iloadn C dX4_append_72 rfl ?_
    refine q_iast C (by first | assumption | decide | omega) (fun _ => rfl) dX4_append_73 (by omega) (by omega) (by decide) (by first | assumption | omega | exact q_tin _) ?_
    refine q_aloadn C dX4_append_74 rfl ?_
    refine gf_RX4_11 C (by first | assumption | decide | omega) dX4_append_75 ?_
    refine q_iload C dX4_append_78 rfl ?_
    refine q_iconst C dX4_append_80 ?_
    refine q_iadd C dX4_append_81 ?_
    refine q_iload C dX4_append_82 rfl ?_
    refine q_iast C (by first | assumption | decide | omega) (fun _ => rfl) dX4_append_84 (by omega) (by omega) (by decide) (by first | assumption | omega | exact q_tin _) ?_
    refine q_aloadn C dX4_append_85 rfl ?_
    refine gf_RX4_11 C (by first | assumption | decide | omega) dX4_append_86 ?_
    refine q_iload C dX4_append_89 rfl ?_
    refine q_iconst C dX4_append_91 ?_
    refine q_iadd C dX4_append_92 ?_
    refine q_iload C dX4_append_93 rfl ?_
    refine q_iast C (by first | assumption | decide | omega) (fun _ => rfl) dX4_append_95 (by omega) (by omega) (by decide) (by first | assumption | omega | exact q_tin _) ?_
    refine q_vret C' dX4_append_96 ?_
    refine ⟨rfl, ?_⟩
    unfold xLog
    first | rw [if_pos (by omega)] | rw [if_neg (by omega)]
  · refine q_aloadn C dX4_append_10 rfl ?_
    refine gf_RX4_15 C (by first | assumption | decide | omega) dX4_append_11 (fun r11 => ?_)
    refine q_iconst C dX4_append_14 ?_
    refine q_iadd C dX4_append_15 ?_
    refine q_goto C (tgt := 20) dX4_append_16 (by decide) ?_
    refine pf_RX4_15 C (by first | assumption | decide | omega) (by first | assumption | omega | exact q_tin _) dX4_append_20 ?_
    refine q_aloadn C dX4_append_23 rfl ?_
    refine q_aloadn C dX4_append_24 rfl ?_
    refine gf_RX4_19 C (by first | assumption | decide | omega) dX4_append_25 (fun r25 => ?_)
    simp only [q_rd, q_rdS, ↓reduceIte, if_true, if_false, eq_self, Nat.reduceEqDiff, Int.reduceEq, Int.reduceNeg, reduceCtorEq] at r25 ⊢
    refine q_iconst C dX4_append_28 ?_
    refine q_iadd C dX4_append_29 ?_
    refine q_bipush C dX4_append_30 (by decide) ?_
    refine q_mmin C q_ml_RX4_22 (by first | assumption | omega | exact q_tin _) (by first | assumption | omega | exact q_tin _) (by decide) (Nat.le_of_ble_eq_true rfl) dX4_append_32 (fun r32 => ?_)
    refine pf_RX4_19 C (by first | assumption | decide | omega) (by first | assumption | omega | exact q_tin _) dX4_append_35 ?_
    refine q_aloadn C dX4_append_38 rfl ?_
    refine gf_RX4_15 C (by first | assumption | decide | omega) dX4_append_39 (fun r39 => ?_)
    simp only [q_rd, q_rdS, ↓reduceIte, if_true, if_false, eq_self, Nat.reduceEqDiff, Int.reduceEq, Int.reduceNeg, reduceCtorEq] at r39 ⊢
    refine q_iconst C dX4_append_42 ?_
    refine q_imul C dX4_append_43 ?_
    refine q_istore C dX4_append_44 hn (by decide) rfl ?_
    refine q_aloadn C dX4_append_46 rfl ?_
    refine gf_RX4_11 C (by first | assumption | decide | omega) dX4_append_47 ?_
    refine q_iload C dX4_append_50 rfl ?_
    refine q_iloadn C dX4_append_52 rfl ?_
    refine q_iast C (by first | assumption | decide | omega) (fun _ => rfl) dX4_append_53 (by omega) (by omega) (by decide) (by first | assumption | omega | exact q_tin _) ?_
    refine q_aloadn C dX4_append_54 rfl ?_
    refine gf_RX4_11 C (by first | assumption | decide | omega) dX4_append_55 ?_
    refine q_iload C dX4_append_58 rfl ?_
    refine q_iconst C dX4_append_60 ?_
    refine q_iadd C dX4_append_61 ?_
    refine q_iloadn C dX4_append_62 rfl ?_
    refine q_iast C (by first | assumption | decide | omega) (fun _ => rfl) dX4_append_63 (by omega) (by omega) (by decide) (by first | assumption | omega | exact q_tin _) ?_
    refine q_aloadn C dX4_append_64 rfl ?_
    refine gf_RX4_11 C (by first | assumption | decide | omega) dX4_append_65 ?_
    refine q_iload C dX4_append_68 rfl ?_
    refine q_iconst C dX4_append_70 ?_
    refine q_iadd C dX4_append_71 ?_
    refine q_iloadn C dX4_append_72 rfl ?_
    refine q_iast C (by first | assumption | decide | omega) (fun _ => rfl) dX4_append_73 (by omega) (by omega) (by decide) (by first | assumption | omega | exact q_tin _) ?_
    refine q_aloadn C dX4_append_74 rfl ?_
    refine gf_RX4_11 C (by first | assumption | decide | omega) dX4_append_75 ?_
    refine q_iload C dX4_append_78 rfl ?_
    refine q_iconst C dX4_append_80 ?_
    refine q_iadd C dX4_append_81 ?_
    refine q_iload C dX4_append_82 rfl ?_
    refine q_iast C (by first | assumption | decide | omega) (fun _ => rfl) dX4_append_84 (by omega) (by omega) (by decide) (by first | assumption | omega | exact q_tin _) ?_
    refine q_aloadn C dX4_append_85 rfl ?_
    refine gf_RX4_11 C (by first | assumption | decide | omega) dX4_append_86 ?_
    refine q_iload C dX4_append_89 rfl ?_
    refine q_iconst C dX4_append_91 ?_
    refine q_iadd C dX4_append_92 ?_
    refine q_iload C dX4_append_93 rfl ?_
    refine q_iast C (by first | assumption | decide | omega) (fun _ => rfl) dX4_append_95 (by omega) (by omega) (by decide) (by first | assumption | omega | exact q_tin _) ?_
    refine q_vret C' dX4_append_96 ?_
    refine ⟨rfl, ?_⟩
    unfold xLog
    first | rw [if_pos (by omega)] | rw [if_neg (by omega)]
end
section
theorem dJ7_fill_53178_0 : decode cJ7_fill_53178 0 = .ok (.iconst 0, 1) := by decide +kernel
theorem dJ7_fill_53178_1 : decode cJ7_fill_53178 1 = .ok (.istore_n 2, 1) := by decide +kernel
theorem dJ7_fill_53178_2 : decode cJ7_fill_53178 2 = .ok (.aload_n 0, 1) := by decide +kernel
theorem dJ7_fill_53178_3 : decode cJ7_fill_53178 3 = .ok (.arraylength, 1) := by decide +kernel
theorem dJ7_fill_53178_4 : decode cJ7_fill_53178 4 = .ok (.istore_n 3, 1) := by decide +kernel
theorem dJ7_fill_53178_5 : decode cJ7_fill_53178 5 = .ok (.iload_n 2, 1) := by decide +kernel
theorem dJ7_fill_53178_6 : decode cJ7_fill_53178 6 = .ok (.iload_n 3, 1) := by decide +kernel
theorem dJ7_fill_53178_7 : decode cJ7_fill_53178 7 = .ok (.if_icmp .ge 13, 3) := by decide +kernel
theorem dJ7_fill_53178_10 : decode cJ7_fill_53178 10 = .ok (.aload_n 0, 1) := by decide +kernel
theorem dJ7_fill_53178_11 : decode cJ7_fill_53178 11 = .ok (.iload_n 2, 1) := by decide +kernel
theorem dJ7_fill_53178_12 : decode cJ7_fill_53178 12 = .ok (.iload_n 1, 1) := by decide +kernel
theorem dJ7_fill_53178_13 : decode cJ7_fill_53178 13 = .ok (.iastore, 1) := by decide +kernel
theorem dJ7_fill_53178_14 : decode cJ7_fill_53178 14 = .ok (.iinc 2 1, 3) := by decide +kernel
theorem dJ7_fill_53178_17 : decode cJ7_fill_53178 17 = .ok (.goto (-12), 3) := by decide +kernel
theorem dJ7_fill_53178_20 : decode cJ7_fill_53178 20 = .ok (.return_, 1) := by decide +kernel
set_option maxRecDepth 4000 in
set_option maxHeartbeats 4000000 in
theorem m_J7_fill (l : Launch) (g : qGm) (M : qMem) {j u n : Nat} (hu : u < qCnt j) (he : ∀ M, qCell g M j u = qRow g M j u n) (hnn : n ≤ 2147483647) {z : Int} (hz : qIn z) : qOk l g 1 yJ7_fill_53178 cJ7_fill_53178 4 none [qR g j u, qI z] M (qEv none (qSet M j u (fun _ => z))) := by
  refine q_ok (by decide +kernel) (Nat.le_of_ble_eq_true rfl) (fun X C' hn => ?_)
  have C := C'.1
  refine q_iconst C dJ7_fill_53178_0 ?_
  refine q_istoren C dJ7_fill_53178_1 hn (by decide) rfl ?_
  refine q_aloadn C dJ7_fill_53178_2 rfl ?_
  refine q_alen C hu (by exact he _) dJ7_fill_53178_3 ?_
  refine q_istoren C dJ7_fill_53178_4 hn (by decide) rfl ?_
  have L5 : ∀ (n5 : Nat) (i : Int) (N : qMem), n - i < (n5 : Int) → 0 ≤ i → i ≤ n → N = qPre M j u (fun _ => z) i → qV l g X N 5 [(0, qR g j u), (1, qI z), (2, qI i), (3, qI (n : Int))] [] := by
    intro n5
    induction n5 with
    | zero => intro i N hm5 h0 h1 hN; exfalso; first | omega | (simp at *; omega)
    | succ n5 ih5 =>
      intro i N hm5 h0 h1 hN
      refine q_iloadn C dJ7_fill_53178_5 rfl ?_
      refine q_iloadn C dJ7_fill_53178_6 rfl ?_
      refine q_icmp_ge C 20 dJ7_fill_53178_7 (by decide) (by first | assumption | omega | exact q_tin _) (by first | assumption | omega | exact q_tin _) (fun h7 => ?_) (fun h7 => ?_)
      · rw [hN]
        unfold qPre
        refine q_rowMem he (f' := fun _ => z) (fun k h2 h3 => if_pos (by omega)) (fun _ => hz) ?_
        refine q_vret C' dJ7_fill_53178_20 ?_
        exact ⟨rfl, rfl⟩
      · refine q_aloadn C dJ7_fill_53178_10 rfl ?_
        refine q_iloadn C dJ7_fill_53178_11 rfl ?_
        refine q_iloadn C dJ7_fill_53178_12 rfl ?_
        refine q_iast C hu he dJ7_fill_53178_13 (by omega) (by omega) hnn (by first | assumption | omega | exact q_tin _) ?_
        refine q_iinc C dJ7_fill_53178_14 rfl hn (by decide) rfl ?_
        refine q_goto C (tgt := 5) dJ7_fill_53178_17 (by decide) ?_
        exact q_ls (by exact ⟨rfl, rfl, rfl, rfl, trivial⟩) (ih5 _ _ (by omega) (by omega) (by omega) (by rw [hN]; exact qPre_s _ _ _ _ h0 rfl))
  exact q_ls (by exact ⟨rfl, rfl, rfl, rfl, trivial⟩) (L5 (n + 1) 0 M (by omega) (by omega) (by omega) (by exact (qPre_0 _ _ _ _).symm))
theorem dX2_pair_0 : decode cX2_pair 0 = .ok (.iload_n 0, 1) := by decide +kernel
theorem dX2_pair_1 : decode cX2_pair 1 = .ok (.bipush 6, 2) := by decide +kernel
theorem dX2_pair_3 : decode cX2_pair 3 = .ok (.imul, 1) := by decide +kernel
theorem dX2_pair_4 : decode cX2_pair 4 = .ok (.iload_n 1, 1) := by decide +kernel
theorem dX2_pair_5 : decode cX2_pair 5 = .ok (.iadd, 1) := by decide +kernel
theorem dX2_pair_6 : decode cX2_pair 6 = .ok (.ireturn, 1) := by decide +kernel
set_option maxRecDepth 4000 in
set_option maxHeartbeats 4000000 in
theorem m_X2_pair (l : Launch) (g : qGm) (M : qMem) {c h : Int} (hc : 0 ≤ c ∧ c < 6) (hh : 0 ≤ h ∧ h < 6) : qOk l g 1 yX2_pair cX2_pair 2 (some .int) [qI c, qI h] M (qEv (some (c * 6 + h)) M) := by
  refine q_ok (by decide +kernel) (Nat.le_of_ble_eq_true rfl) (fun X C' hn => ?_)
  have C := C'.1
  refine q_iloadn C dX2_pair_0 rfl ?_
  refine q_bipush C dX2_pair_1 (by decide) ?_
  refine q_imul C dX2_pair_3 ?_
  refine q_iloadn C dX2_pair_4 rfl ?_
  refine q_iadd C dX2_pair_5 ?_
  refine q_iret C' dX2_pair_6 (by first | assumption | omega | exact q_tin _) ?_
  exact ⟨rfl, rfl⟩
theorem dX2_callsOf_0 : decode cX2_callsOf 0 = .ok (.aload_n 0, 1) := by decide +kernel
theorem dX2_callsOf_1 : decode cX2_callsOf 1 = .ok (.getfield 31, 3) := by decide +kernel
theorem dX2_callsOf_4 : decode cX2_callsOf 4 = .ok (.iload_n 1, 1) := by decide +kernel
theorem dX2_callsOf_5 : decode cX2_callsOf 5 = .ok (.iload_n 2, 1) := by decide +kernel
theorem dX2_callsOf_6 : decode cX2_callsOf 6 = .ok (.invokestatic 74, 3) := by decide +kernel
theorem dX2_callsOf_9 : decode cX2_callsOf 9 = .ok (.iaload, 1) := by decide +kernel
theorem dX2_callsOf_10 : decode cX2_callsOf 10 = .ok (.ireturn, 1) := by decide +kernel
set_option maxRecDepth 4000 in
set_option maxHeartbeats 4000000 in
theorem m_X2_callsOf (l : Launch) (g : qGm) (M : qMem) {u : Nat} (hu : u < 33) {c h : Int} (hc : 0 ≤ c ∧ c < 6) (hh : 0 ≤ h ∧ h < 6) : qOk l g 2 yX2_callsOf cX2_callsOf 3 (some .int) [qR g 10 u, qI c, qI h] M (qEv (some (M 15 u (c * 6 + h))) M) := by
  refine q_ok (by decide +kernel) (Nat.le_of_ble_eq_true rfl) (fun X C' hn => ?_)
  have C := C'.1
  refine q_aloadn C dX2_callsOf_0 rfl ?_
  refine gf_RX2_31 C (by first | assumption | decide | omega) dX2_callsOf_1 ?_
  refine q_iloadn C dX2_callsOf_4 rfl ?_
  refine q_iloadn C dX2_callsOf_5 rfl ?_
  refine cv_RX2_74 C (by decide) (m_X2_pair l g _ hc hh) dX2_callsOf_6 (Nat.le_of_ble_eq_true rfl) (fun r6 => ?_)
  refine q_iald C (by first | assumption | decide | omega) rfl dX2_callsOf_9 (by omega) (by omega) (by decide) (fun r9 => ?_)
  refine q_iret C' dX2_callsOf_10 (by first | assumption | omega | exact q_tin _) ?_
  exact ⟨rfl, rfl⟩
def xCalls (M : qMem) (u : Nat) (h : Int) : Int := sSum (fun c => M 15 u (c * 6 + h)) 6
theorem xCalls_in {M : qMem} {u : Nat} (hcb : ∀ k, 0 ≤ k → k < 36 → 0 ≤ M 15 u k ∧ M 15 u k ≤ 999) {h : Int} (hh : 0 ≤ h ∧ h < 6) : 0 ≤ xCalls M u h ∧ xCalls M u h ≤ 5994 := by
  have := sSum_b (f := fun c => M 15 u (c * 6 + h)) (n := 6) (B := 999) (by omega) (fun k h1 h2 => hcb _ (by omega) (by omega))
  unfold xCalls
  omega
theorem dX2_callsAt_0 : decode cX2_callsAt 0 = .ok (.iconst 0, 1) := by decide +kernel
theorem dX2_callsAt_1 : decode cX2_callsAt 1 = .ok (.istore_n 2, 1) := by decide +kernel
theorem dX2_callsAt_2 : decode cX2_callsAt 2 = .ok (.iconst 0, 1) := by decide +kernel
theorem dX2_callsAt_3 : decode cX2_callsAt 3 = .ok (.istore_n 3, 1) := by decide +kernel
theorem dX2_callsAt_4 : decode cX2_callsAt 4 = .ok (.iload_n 3, 1) := by decide +kernel
theorem dX2_callsAt_5 : decode cX2_callsAt 5 = .ok (.bipush 6, 2) := by decide +kernel
theorem dX2_callsAt_7 : decode cX2_callsAt 7 = .ok (.if_icmp .ge 18, 3) := by decide +kernel
theorem dX2_callsAt_10 : decode cX2_callsAt 10 = .ok (.iload_n 2, 1) := by decide +kernel
theorem dX2_callsAt_11 : decode cX2_callsAt 11 = .ok (.aload_n 0, 1) := by decide +kernel
theorem dX2_callsAt_12 : decode cX2_callsAt 12 = .ok (.iload_n 3, 1) := by decide +kernel
theorem dX2_callsAt_13 : decode cX2_callsAt 13 = .ok (.iload_n 1, 1) := by decide +kernel
theorem dX2_callsAt_14 : decode cX2_callsAt 14 = .ok (.invokevirtual 78, 3) := by decide +kernel
theorem dX2_callsAt_17 : decode cX2_callsAt 17 = .ok (.iadd, 1) := by decide +kernel
theorem dX2_callsAt_18 : decode cX2_callsAt 18 = .ok (.istore_n 2, 1) := by decide +kernel
theorem dX2_callsAt_19 : decode cX2_callsAt 19 = .ok (.iinc 3 1, 3) := by decide +kernel
theorem dX2_callsAt_22 : decode cX2_callsAt 22 = .ok (.goto (-18), 3) := by decide +kernel
theorem dX2_callsAt_25 : decode cX2_callsAt 25 = .ok (.iload_n 2, 1) := by decide +kernel
theorem dX2_callsAt_26 : decode cX2_callsAt 26 = .ok (.ireturn, 1) := by decide +kernel
set_option maxRecDepth 4000 in
set_option maxHeartbeats 4000000 in
theorem m_X2_callsAt (l : Launch) (g : qGm) (M : qMem) {u : Nat} (hu : u < 33) {h : Int} (hh : 0 ≤ h ∧ h < 6) (hcb : ∀ k, 0 ≤ k → k < 36 → 0 ≤ M 15 u k ∧ M 15 u k ≤ 999) : qOk l g 3 yX2_callsAt cX2_callsAt 4 (some .int) [qR g 10 u, qI h] M (qEv (some (xCalls M u h)) M) := by
  refine q_ok (by decide +kernel) (Nat.le_of_ble_eq_true rfl) (fun X C' hn => ?_)
  have C := C'.1
  refine q_iconst C dX2_callsAt_0 ?_
  refine q_istoren C dX2_callsAt_1 hn (by decide) rfl ?_
  refine q_iconst C dX2_callsAt_2 ?_
  refine q_istoren C dX2_callsAt_3 hn (by decide) rfl ?_
  have L4 : ∀ (n4 : Nat) (s : Int) (i : Int), 6 - i < (n4 : Int) → 0 ≤ i → i ≤ 6 → s = sSum (fun c => M 15 u (c * 6 + h)) i → 0 ≤ s ∧ s ≤ 999 * i → qV l g X M 4 [(0, qR g 10 u), (1, qI h), (2, qI s), (3, qI i)] [] := by
    intro n4
    induction n4 with
    | zero => intro s i hm4 h0 h1 hs hb; exfalso; first | omega | (simp at *; omega)
    | succ n4 ih4 =>
      intro s i hm4 h0 h1 hs hb
      refine q_iloadn C dX2_callsAt_4 rfl ?_
      refine q_bipush C dX2_callsAt_5 (by decide) ?_
      refine q_icmp_ge C 25 dX2_callsAt_7 (by decide) (by first | assumption | omega | exact q_tin _) (by first | assumption | omega | exact q_tin _) (fun h7 => ?_) (fun h7 => ?_)
      · refine q_iloadn C dX2_callsAt_25 rfl ?_
        refine q_iret C' dX2_callsAt_26 (by first | assumption | omega | exact q_tin _) ?_
        have : i = 6 := by omega
        subst this
        exact ⟨congrArg some hs, rfl⟩
      · refine q_iloadn C dX2_callsAt_10 rfl ?_
        refine q_aloadn C dX2_callsAt_11 rfl ?_
        refine q_iloadn C dX2_callsAt_12 rfl ?_
        refine q_iloadn C dX2_callsAt_13 rfl ?_
        refine cv_RX2_78 C (by decide) (by first | assumption | decide | omega) (m_X2_callsOf l g _ hu (by omega) hh) dX2_callsAt_14 (Nat.le_of_ble_eq_true rfl) (fun r14 => ?_)
        refine q_iadd C dX2_callsAt_17 ?_
        refine q_istoren C dX2_callsAt_18 hn (by decide) rfl ?_
        refine q_iinc C dX2_callsAt_19 rfl hn (by decide) rfl ?_
        refine q_goto C (tgt := 4) dX2_callsAt_22 (by decide) ?_
        exact q_ls (by exact ⟨rfl, rfl, rfl, rfl, trivial⟩) (ih4 _ _ (by omega) (by omega) (by omega) (by rw [sSum_s _ (by omega)]; omega) (by have := hcb (i * 6 + h) (by omega) (by omega); omega))
  exact q_ls (by exact ⟨rfl, rfl, rfl, rfl, trivial⟩) (L4 1000 _ _ (by omega) (by omega) (by omega) (by rfl) (by omega))
theorem dX2_callsOfAll_0 : decode cX2_callsOfAll 0 = .ok (.iconst 0, 1) := by decide +kernel
theorem dX2_callsOfAll_1 : decode cX2_callsOfAll 1 = .ok (.istore_n 1, 1) := by decide +kernel
theorem dX2_callsOfAll_2 : decode cX2_callsOfAll 2 = .ok (.iconst 0, 1) := by decide +kernel
theorem dX2_callsOfAll_3 : decode cX2_callsOfAll 3 = .ok (.istore_n 2, 1) := by decide +kernel
theorem dX2_callsOfAll_4 : decode cX2_callsOfAll 4 = .ok (.iload_n 2, 1) := by decide +kernel
theorem dX2_callsOfAll_5 : decode cX2_callsOfAll 5 = .ok (.bipush 6, 2) := by decide +kernel
theorem dX2_callsOfAll_7 : decode cX2_callsOfAll 7 = .ok (.if_icmp .ge 17, 3) := by decide +kernel
theorem dX2_callsOfAll_10 : decode cX2_callsOfAll 10 = .ok (.iload_n 1, 1) := by decide +kernel
theorem dX2_callsOfAll_11 : decode cX2_callsOfAll 11 = .ok (.aload_n 0, 1) := by decide +kernel
theorem dX2_callsOfAll_12 : decode cX2_callsOfAll 12 = .ok (.iload_n 2, 1) := by decide +kernel
theorem dX2_callsOfAll_13 : decode cX2_callsOfAll 13 = .ok (.invokevirtual 81, 3) := by decide +kernel
theorem dX2_callsOfAll_16 : decode cX2_callsOfAll 16 = .ok (.iadd, 1) := by decide +kernel
theorem dX2_callsOfAll_17 : decode cX2_callsOfAll 17 = .ok (.istore_n 1, 1) := by decide +kernel
theorem dX2_callsOfAll_18 : decode cX2_callsOfAll 18 = .ok (.iinc 2 1, 3) := by decide +kernel
theorem dX2_callsOfAll_21 : decode cX2_callsOfAll 21 = .ok (.goto (-17), 3) := by decide +kernel
theorem dX2_callsOfAll_24 : decode cX2_callsOfAll 24 = .ok (.iload_n 1, 1) := by decide +kernel
theorem dX2_callsOfAll_25 : decode cX2_callsOfAll 25 = .ok (.ireturn, 1) := by decide +kernel
set_option maxRecDepth 4000 in
set_option maxHeartbeats 4000000 in
theorem m_X2_callsOfAll (l : Launch) (g : qGm) (M : qMem) {u : Nat} (hu : u < 33) (hcb : ∀ k, 0 ≤ k → k < 36 → 0 ≤ M 15 u k ∧ M 15 u k ≤ 999) : qOk l g 4 yX2_callsOfAll cX2_callsOfAll 3 (some .int) [qR g 10 u] M (qEv (some (sSum (fun h => xCalls M u h) 6)) M) := by
  refine q_ok (by decide +kernel) (Nat.le_of_ble_eq_true rfl) (fun X C' hn => ?_)
  have C := C'.1
  refine q_iconst C dX2_callsOfAll_0 ?_
  refine q_istoren C dX2_callsOfAll_1 hn (by decide) rfl ?_
  refine q_iconst C dX2_callsOfAll_2 ?_
  refine q_istoren C dX2_callsOfAll_3 hn (by decide) rfl ?_
  have L4 : ∀ (n4 : Nat) (s : Int) (i : Int), 6 - i < (n4 : Int) → 0 ≤ i → i ≤ 6 → s = sSum (fun h => xCalls M u h) i → 0 ≤ s ∧ s ≤ 5994 * i → qV l g X M 4 [(0, qR g 10 u), (1, qI s), (2, qI i)] [] := by
    intro n4
    induction n4 with
    | zero => intro s i hm4 h0 h1 hs hb; exfalso; first | omega | (simp at *; omega)
    | succ n4 ih4 =>
      intro s i hm4 h0 h1 hs hb
      refine q_iloadn C dX2_callsOfAll_4 rfl ?_
      refine q_bipush C dX2_callsOfAll_5 (by decide) ?_
      refine q_icmp_ge C 24 dX2_callsOfAll_7 (by decide) (by first | assumption | omega | exact q_tin _) (by first | assumption | omega | exact q_tin _) (fun h7 => ?_) (fun h7 => ?_)
      · refine q_iloadn C dX2_callsOfAll_24 rfl ?_
        refine q_iret C' dX2_callsOfAll_25 (by first | assumption | omega | exact q_tin _) ?_
        have : i = 6 := by omega
        subst this
        exact ⟨congrArg some hs, rfl⟩
      · refine q_iloadn C dX2_callsOfAll_10 rfl ?_
        refine q_aloadn C dX2_callsOfAll_11 rfl ?_
        refine q_iloadn C dX2_callsOfAll_12 rfl ?_
        refine cv_RX2_81 C (by decide) (by first | assumption | decide | omega) (m_X2_callsAt l g _ hu (by omega) hcb) dX2_callsOfAll_13 (Nat.le_of_ble_eq_true rfl) (fun r13 => ?_)
        refine q_iadd C dX2_callsOfAll_16 ?_
        refine q_istoren C dX2_callsOfAll_17 hn (by decide) rfl ?_
        refine q_iinc C dX2_callsOfAll_18 rfl hn (by decide) rfl ?_
        refine q_goto C (tgt := 4) dX2_callsOfAll_21 (by decide) ?_
        exact q_ls (by exact ⟨rfl, rfl, rfl, trivial⟩) (ih4 _ _ (by omega) (by omega) (by omega) (by rw [sSum_s _ (by omega)]; omega) (by have := xCalls_in hcb (h := i) (by omega); omega))
  exact q_ls (by exact ⟨rfl, rfl, rfl, trivial⟩) (L4 1000 _ _ (by omega) (by omega) (by omega) (by rfl) (by omega))
theorem dX2_welcome_0 : decode cX2_welcome 0 = .ok (.iconst (-1), 1) := by decide +kernel
theorem dX2_welcome_1 : decode cX2_welcome 1 = .ok (.istore_n 1, 1) := by decide +kernel
theorem dX2_welcome_2 : decode cX2_welcome 2 = .ok (.iconst 0, 1) := by decide +kernel
theorem dX2_welcome_3 : decode cX2_welcome 3 = .ok (.istore_n 2, 1) := by decide +kernel
theorem dX2_welcome_4 : decode cX2_welcome 4 = .ok (.iconst 0, 1) := by decide +kernel
theorem dX2_welcome_5 : decode cX2_welcome 5 = .ok (.istore_n 3, 1) := by decide +kernel
theorem dX2_welcome_6 : decode cX2_welcome 6 = .ok (.iload_n 3, 1) := by decide +kernel
theorem dX2_welcome_7 : decode cX2_welcome 7 = .ok (.bipush 6, 2) := by decide +kernel
theorem dX2_welcome_9 : decode cX2_welcome 9 = .ok (.if_icmp .ge 26, 3) := by decide +kernel
theorem dX2_welcome_12 : decode cX2_welcome 12 = .ok (.aload_n 0, 1) := by decide +kernel
theorem dX2_welcome_13 : decode cX2_welcome 13 = .ok (.iload_n 3, 1) := by decide +kernel
theorem dX2_welcome_14 : decode cX2_welcome 14 = .ok (.invokevirtual 81, 3) := by decide +kernel
theorem dX2_welcome_17 : decode cX2_welcome 17 = .ok (.iload_n 2, 1) := by decide +kernel
theorem dX2_welcome_18 : decode cX2_welcome 18 = .ok (.if_icmp .le 11, 3) := by decide +kernel
theorem dX2_welcome_21 : decode cX2_welcome 21 = .ok (.aload_n 0, 1) := by decide +kernel
theorem dX2_welcome_22 : decode cX2_welcome 22 = .ok (.iload_n 3, 1) := by decide +kernel
theorem dX2_welcome_23 : decode cX2_welcome 23 = .ok (.invokevirtual 81, 3) := by decide +kernel
theorem dX2_welcome_26 : decode cX2_welcome 26 = .ok (.istore_n 2, 1) := by decide +kernel
theorem dX2_welcome_27 : decode cX2_welcome 27 = .ok (.iload_n 3, 1) := by decide +kernel
theorem dX2_welcome_28 : decode cX2_welcome 28 = .ok (.istore_n 1, 1) := by decide +kernel
theorem dX2_welcome_29 : decode cX2_welcome 29 = .ok (.iinc 3 1, 3) := by decide +kernel
theorem dX2_welcome_32 : decode cX2_welcome 32 = .ok (.goto (-26), 3) := by decide +kernel
theorem dX2_welcome_35 : decode cX2_welcome 35 = .ok (.iload_n 1, 1) := by decide +kernel
theorem dX2_welcome_36 : decode cX2_welcome 36 = .ok (.ireturn, 1) := by decide +kernel
set_option maxRecDepth 4000 in
set_option maxHeartbeats 4000000 in
theorem m_X2_welcome (l : Launch) (g : qGm) (M : qMem) {u : Nat} (hu : u < 33) (hcb : ∀ k, 0 ≤ k → k < 36 → 0 ≤ M 15 u k ∧ M 15 u k ≤ 999) : qOk l g 4 yX2_welcome cX2_welcome 4 (some .int) [qR g 10 u] M (qEv (some (sAm (fun h => xCalls M u h) (-1) 0 6).1) M) := by
  refine q_ok (by decide +kernel) (Nat.le_of_ble_eq_true rfl) (fun X C' hn => ?_)
  have C := C'.1
  refine q_iconst C dX2_welcome_0 ?_
  refine q_istoren C dX2_welcome_1 hn (by decide) rfl ?_
  refine q_iconst C dX2_welcome_2 ?_
  refine q_istoren C dX2_welcome_3 hn (by decide) rfl ?_
  refine q_iconst C dX2_welcome_4 ?_
  refine q_istoren C dX2_welcome_5 hn (by decide) rfl ?_
  have L6 : ∀ (n6 : Nat) (s : Int) (t : Int) (i : Int), 6 - i < (n6 : Int) → 0 ≤ i → i ≤ 6 → (s, t) = sAm (fun h => xCalls M u h) (-1) 0 i → -1 ≤ s ∧ s ≤ i → qIn t → qV l g X M 6 [(0, qR g 10 u), (1, qI s), (2, qI t), (3, qI i)] [] := by
    intro n6
    induction n6 with
    | zero => intro s t i hm6 h0 h1 hs hb hb2; exfalso; first | omega | (simp at *; omega)
    | succ n6 ih6 =>
      intro s t i hm6 h0 h1 hs hb hb2
      refine q_iloadn C dX2_welcome_6 rfl ?_
      refine q_bipush C dX2_welcome_7 (by decide) ?_
      refine q_icmp_ge C 35 dX2_welcome_9 (by decide) (by first | assumption | omega | exact q_tin _) (by first | assumption | omega | exact q_tin _) (fun h9 => ?_) (fun h9 => ?_)
      · refine q_iloadn C dX2_welcome_35 rfl ?_
        refine q_iret C' dX2_welcome_36 (by first | assumption | omega | exact q_tin _) ?_
        have : i = 6 := by omega
        subst this
        rw [← hs]
        exact ⟨rfl, rfl⟩
      · refine q_aloadn C dX2_welcome_12 rfl ?_
        refine q_iloadn C dX2_welcome_13 rfl ?_
        refine cv_RX2_81 C (by decide) (by first | assumption | decide | omega) (m_X2_callsAt l g _ hu (by omega) hcb) dX2_welcome_14 (Nat.le_of_ble_eq_true rfl) (fun r14 => ?_)
        refine q_iloadn C dX2_welcome_17 rfl ?_
        refine q_icmp_le C 29 dX2_welcome_18 (by decide) (by first | assumption | omega | exact q_tin _) (by first | assumption | omega | exact q_tin _) (fun h18 => ?_) (fun h18 => ?_)
        · refine q_iinc C dX2_welcome_29 rfl hn (by decide) rfl ?_
          refine q_goto C (tgt := 6) dX2_welcome_32 (by decide) ?_
          exact q_ls (by exact ⟨rfl, rfl, rfl, rfl, trivial⟩) (ih6 _ _ _ (by omega) (by omega) (by omega) (by rw [sAm_s _ _ _ (by omega), ← hs]; first | (rw [if_pos (by show t < xCalls M u i; omega)]) | (rw [if_neg (by show ¬ t < xCalls M u i; omega)])) (by omega) (by first | assumption | omega))
        · refine q_aloadn C dX2_welcome_21 rfl ?_
          refine q_iloadn C dX2_welcome_22 rfl ?_
          refine cv_RX2_81 C (by decide) (by first | assumption | decide | omega) (m_X2_callsAt l g _ hu (by omega) hcb) dX2_welcome_23 (Nat.le_of_ble_eq_true rfl) (fun r23 => ?_)
          refine q_istoren C dX2_welcome_26 hn (by decide) rfl ?_
          refine q_iloadn C dX2_welcome_27 rfl ?_
          refine q_istoren C dX2_welcome_28 hn (by decide) rfl ?_
          refine q_iinc C dX2_welcome_29 rfl hn (by decide) rfl ?_
          refine q_goto C (tgt := 6) dX2_welcome_32 (by decide) ?_
          exact q_ls (by exact ⟨rfl, rfl, rfl, rfl, trivial⟩) (ih6 _ _ _ (by omega) (by omega) (by omega) (by rw [sAm_s _ _ _ (by omega), ← hs]; first | (rw [if_pos (by show t < xCalls M u i; omega)]) | (rw [if_neg (by show ¬ t < xCalls M u i; omega)])) (by omega) (by first | assumption | omega))
  exact q_ls (by exact ⟨rfl, rfl, rfl, rfl, trivial⟩) (L6 1000 _ _ _ (by omega) (by omega) (by omega) (by rfl) (by omega) (by first | assumption | omega))
theorem dX2_isSham_0 : decode cX2_isSham 0 = .ok (.aload_n 0, 1) := by decide +kernel
theorem dX2_isSham_1 : decode cX2_isSham 1 = .ok (.getfield 25, 3) := by decide +kernel
theorem dX2_isSham_4 : decode cX2_isSham 4 = .ok (.iload_n 1, 1) := by decide +kernel
theorem dX2_isSham_5 : decode cX2_isSham 5 = .ok (.iaload, 1) := by decide +kernel
theorem dX2_isSham_6 : decode cX2_isSham 6 = .ok (.iload_n 2, 1) := by decide +kernel
theorem dX2_isSham_7 : decode cX2_isSham 7 = .ok (.ishr, 1) := by decide +kernel
theorem dX2_isSham_8 : decode cX2_isSham 8 = .ok (.iconst 1, 1) := by decide +kernel
theorem dX2_isSham_9 : decode cX2_isSham 9 = .ok (.iand, 1) := by decide +kernel
theorem dX2_isSham_10 : decode cX2_isSham 10 = .ok (.ifCond .eq 7, 3) := by decide +kernel
theorem dX2_isSham_13 : decode cX2_isSham 13 = .ok (.iconst 1, 1) := by decide +kernel
theorem dX2_isSham_14 : decode cX2_isSham 14 = .ok (.goto 4, 3) := by decide +kernel
theorem dX2_isSham_17 : decode cX2_isSham 17 = .ok (.iconst 0, 1) := by decide +kernel
theorem dX2_isSham_18 : decode cX2_isSham 18 = .ok (.ireturn, 1) := by decide +kernel
set_option maxRecDepth 4000 in
set_option maxHeartbeats 4000000 in
theorem m_X2_isSham (l : Launch) (g : qGm) (M : qMem) {u : Nat} (hu : u < 33) {c h : Int} (hc : 0 ≤ c ∧ c < 6) (hh : 0 ≤ h ∧ h < 6) (hs : 0 ≤ M 13 u c ∧ M 13 u c < 64) : qOk l g 1 yX2_isSham cX2_isSham 3 (some .boolean) [qR g 10 u, qI c, qI h] M (qEv (some (qB (sHas (M 13 u c) h))) M) := by
  refine q_ok (by decide +kernel) (Nat.le_of_ble_eq_true rfl) (fun X C' hn => ?_)
  have C := C'.1
  have e1 := q_shr1 hs.1 hs.2 hh.1 (show h < 8 by omega)
  refine q_aloadn C dX2_isSham_0 rfl ?_
  refine gf_RX2_25 C (by first | assumption | decide | omega) dX2_isSham_1 ?_
  refine q_iloadn C dX2_isSham_4 rfl ?_
  refine q_iald C (by first | assumption | decide | omega) rfl dX2_isSham_5 (by omega) (by omega) (by decide) (fun r5 => ?_)
  refine q_iloadn C dX2_isSham_6 rfl ?_
  refine q_ishr C dX2_isSham_7 ?_
  refine q_iconst C dX2_isSham_8 ?_
  refine q_iand C dX2_isSham_9 ?_
  refine q_if_eq C 17 dX2_isSham_10 (by decide) (by first | assumption | omega | exact q_tin _) (fun h10 => ?_) (fun h10 => ?_)
  · refine q_iconst C dX2_isSham_17 ?_
    refine q_zret C' dX2_isSham_18 (by first | omega | exact q_b01 _ | simp) ?_
    refine ⟨congrArg some ?_, rfl⟩
    unfold qB sHas
    split <;> first | rfl | (exfalso; omega)
  · refine q_iconst C dX2_isSham_13 ?_
    refine q_goto C (tgt := 18) dX2_isSham_14 (by decide) ?_
    refine q_zret C' dX2_isSham_18 (by first | omega | exact q_b01 _ | simp) ?_
    refine ⟨congrArg some ?_, rfl⟩
    unfold qB sHas
    split <;> first | rfl | (exfalso; omega)
end
section
theorem dX2_coldest_0 : decode cX2_coldest 0 = .ok (.iconst (-1), 1) := by decide +kernel
theorem dX2_coldest_1 : decode cX2_coldest 1 = .ok (.istore_n 2, 1) := by decide +kernel
theorem dX2_coldest_2 : decode cX2_coldest 2 = .ok (.iconst 0, 1) := by decide +kernel
theorem dX2_coldest_3 : decode cX2_coldest 3 = .ok (.istore_n 3, 1) := by decide +kernel
theorem dX2_coldest_4 : decode cX2_coldest 4 = .ok (.iload_n 3, 1) := by decide +kernel
theorem dX2_coldest_5 : decode cX2_coldest 5 = .ok (.iload_n 1, 1) := by decide +kernel
theorem dX2_coldest_6 : decode cX2_coldest 6 = .ok (.if_icmp .ge 37, 3) := by decide +kernel
theorem dX2_coldest_9 : decode cX2_coldest 9 = .ok (.iload_n 3, 1) := by decide +kernel
theorem dX2_coldest_10 : decode cX2_coldest 10 = .ok (.bipush 6, 2) := by decide +kernel
theorem dX2_coldest_12 : decode cX2_coldest 12 = .ok (.if_icmp .ge 31, 3) := by decide +kernel
theorem dX2_coldest_15 : decode cX2_coldest 15 = .ok (.iload_n 2, 1) := by decide +kernel
theorem dX2_coldest_16 : decode cX2_coldest 16 = .ok (.iconst (-1), 1) := by decide +kernel
theorem dX2_coldest_17 : decode cX2_coldest 17 = .ok (.if_icmp .eq 18, 3) := by decide +kernel
theorem dX2_coldest_20 : decode cX2_coldest 20 = .ok (.aload_n 0, 1) := by decide +kernel
theorem dX2_coldest_21 : decode cX2_coldest 21 = .ok (.getfield 28, 3) := by decide +kernel
theorem dX2_coldest_24 : decode cX2_coldest 24 = .ok (.iload_n 3, 1) := by decide +kernel
theorem dX2_coldest_25 : decode cX2_coldest 25 = .ok (.iaload, 1) := by decide +kernel
theorem dX2_coldest_26 : decode cX2_coldest 26 = .ok (.aload_n 0, 1) := by decide +kernel
theorem dX2_coldest_27 : decode cX2_coldest 27 = .ok (.getfield 28, 3) := by decide +kernel
theorem dX2_coldest_30 : decode cX2_coldest 30 = .ok (.iload_n 2, 1) := by decide +kernel
theorem dX2_coldest_31 : decode cX2_coldest 31 = .ok (.iaload, 1) := by decide +kernel
theorem dX2_coldest_32 : decode cX2_coldest 32 = .ok (.if_icmp .le 5, 3) := by decide +kernel
theorem dX2_coldest_35 : decode cX2_coldest 35 = .ok (.iload_n 3, 1) := by decide +kernel
theorem dX2_coldest_36 : decode cX2_coldest 36 = .ok (.istore_n 2, 1) := by decide +kernel
theorem dX2_coldest_37 : decode cX2_coldest 37 = .ok (.iinc 3 1, 3) := by decide +kernel
theorem dX2_coldest_40 : decode cX2_coldest 40 = .ok (.goto (-36), 3) := by decide +kernel
theorem dX2_coldest_43 : decode cX2_coldest 43 = .ok (.iload_n 2, 1) := by decide +kernel
theorem dX2_coldest_44 : decode cX2_coldest 44 = .ok (.ireturn, 1) := by decide +kernel
set_option maxRecDepth 4000 in
set_option maxHeartbeats 4000000 in
theorem m_X2_coldest (l : Launch) (g : qGm) (M : qMem) {u : Nat} (hu : u < 33) {n : Int} (hn6 : 0 ≤ n ∧ n ≤ 6) (hb : ∀ h, 0 ≤ h → h < n → 0 ≤ M 14 u h) : qOk l g 1 yX2_coldest cX2_coldest 4 (some .int) [qR g 10 u, qI n] M (qEv (some (sAm (fun h => M 14 u h) (-1) (-1) n).1) M) := by
  refine q_ok (by decide +kernel) (Nat.le_of_ble_eq_true rfl) (fun X C' hn => ?_)
  have C := C'.1
  refine q_iconst C dX2_coldest_0 ?_
  refine q_istoren C dX2_coldest_1 hn (by decide) rfl ?_
  refine q_iconst C dX2_coldest_2 ?_
  refine q_istoren C dX2_coldest_3 hn (by decide) rfl ?_
  have L4 : ∀ (n4 : Nat) (s : Int) (i : Int), n - i < (n4 : Int) → 0 ≤ i → i ≤ n → s = (sAm (fun h => M 14 u h) (-1) (-1) i).1 → qV l g X M 4 [(0, qR g 10 u), (1, qI n), (2, qI s), (3, qI i)] [] := by
    intro n4
    induction n4 with
    | zero => intro s i hm4 h0 h1 hs; exfalso; first | omega | (simp at *; omega)
    | succ n4 ih4 =>
      intro s i hm4 h0 h1 hs
      have hb2 := sAm_b (f := fun h => M 14 u h) (b := -1) (m := -1) (n := i) h0
      rw [← hs] at hb2
      have hb3 : (s = -1 ∧ (sAm (fun h => M 14 u h) (-1) (-1) i).2 = -1) ∨ (0 ≤ s ∧ s < i ∧ (sAm (fun h => M 14 u h) (-1) (-1) i).2 = M 14 u s) := by
        rcases hb2 with h | h
        · left; rw [hs, h]; exact ⟨rfl, rfl⟩
        · exact Or.inr h
      clear hb2
      refine q_iloadn C dX2_coldest_4 rfl ?_
      refine q_iloadn C dX2_coldest_5 rfl ?_
      refine q_icmp_ge C 43 dX2_coldest_6 (by decide) (by first | assumption | omega | exact q_tin _) (by first | assumption | omega | exact q_tin _) (fun h6 => ?_) (fun h6 => ?_)
      · refine q_iloadn C dX2_coldest_43 rfl ?_
        refine q_iret C' dX2_coldest_44 (by first | assumption | omega | exact q_tin _) ?_
        first | (have e9 : i = n := (by omega); subst e9; exact ⟨congrArg some hs, rfl⟩) | (exfalso; omega)
      · refine q_iloadn C dX2_coldest_9 rfl ?_
        refine q_bipush C dX2_coldest_10 (by decide) ?_
        refine q_icmp_ge C 43 dX2_coldest_12 (by decide) (by first | assumption | omega | exact q_tin _) (by first | assumption | omega | exact q_tin _) (fun h12 => ?_) (fun h12 => ?_)
        · refine q_iloadn C dX2_coldest_43 rfl ?_
          refine q_iret C' dX2_coldest_44 (by first | assumption | omega | exact q_tin _) ?_
          first | (have e9 : i = n := (by omega); subst e9; exact ⟨congrArg some hs, rfl⟩) | (exfalso; omega)
        · refine q_iloadn C dX2_coldest_15 rfl ?_
          refine q_iconst C dX2_coldest_16 ?_
          refine q_icmp_eq C 35 dX2_coldest_17 (by decide) (by first | assumption | omega | exact q_tin _) (by first | assumption | omega | exact q_tin _) (fun h17 => ?_) (fun h17 => ?_)
          · refine q_iloadn C dX2_coldest_35 rfl ?_
            refine q_istoren C dX2_coldest_36 hn (by decide) rfl ?_
            refine q_iinc C dX2_coldest_37 rfl hn (by decide) rfl ?_
            refine q_goto C (tgt := 4) dX2_coldest_40 (by decide) ?_
            exact q_ls (by exact ⟨rfl, rfl, rfl, rfl, trivial⟩) (ih4 _ _ (by omega) (by omega) (by omega) (by rw [sAm_s _ _ _ (by omega)]; have := hb i (by omega) (by omega); first | (rw [if_pos (by show _ < M 14 u i; omega)]) | (rw [if_neg (by show ¬ _ < M 14 u i; omega)]; exact hs)))
          · refine q_aloadn C dX2_coldest_20 rfl ?_
            refine gf_RX2_28 C (by first | assumption | decide | omega) dX2_coldest_21 ?_
            refine q_iloadn C dX2_coldest_24 rfl ?_
            refine q_iald C (by first | assumption | decide | omega) rfl dX2_coldest_25 (by omega) (by omega) (by decide) (fun r25 => ?_)
            refine q_aloadn C dX2_coldest_26 rfl ?_
            refine gf_RX2_28 C (by first | assumption | decide | omega) dX2_coldest_27 ?_
            refine q_iloadn C dX2_coldest_30 rfl ?_
            refine q_iald C (by first | assumption | decide | omega) rfl dX2_coldest_31 (by omega) (by omega) (by decide) (fun r31 => ?_)
            refine q_icmp_le C 37 dX2_coldest_32 (by decide) (by first | assumption | omega | exact q_tin _) (by first | assumption | omega | exact q_tin _) (fun h32 => ?_) (fun h32 => ?_)
            · refine q_iinc C dX2_coldest_37 rfl hn (by decide) rfl ?_
              refine q_goto C (tgt := 4) dX2_coldest_40 (by decide) ?_
              exact q_ls (by exact ⟨rfl, rfl, rfl, rfl, trivial⟩) (ih4 _ _ (by omega) (by omega) (by omega) (by rw [sAm_s _ _ _ (by omega)]; have := hb i (by omega) (by omega); first | (rw [if_pos (by show _ < M 14 u i; omega)]) | (rw [if_neg (by show ¬ _ < M 14 u i; omega)]; exact hs)))
            · refine q_iloadn C dX2_coldest_35 rfl ?_
              refine q_istoren C dX2_coldest_36 hn (by decide) rfl ?_
              refine q_iinc C dX2_coldest_37 rfl hn (by decide) rfl ?_
              refine q_goto C (tgt := 4) dX2_coldest_40 (by decide) ?_
              exact q_ls (by exact ⟨rfl, rfl, rfl, rfl, trivial⟩) (ih4 _ _ (by omega) (by omega) (by omega) (by rw [sAm_s _ _ _ (by omega)]; have := hb i (by omega) (by omega); first | (rw [if_pos (by show _ < M 14 u i; omega)]) | (rw [if_neg (by show ¬ _ < M 14 u i; omega)]; exact hs)))
  exact q_ls (by exact ⟨rfl, rfl, rfl, rfl, trivial⟩) (L4 1000 _ _ (by omega) (by omega) (by omega) (by rfl))
/-- a hall behind a visit by which a comer was let in -/
def xWel (M : qMem) (u : Nat) (c h : Int) : qMem :=
  if M 11 u c < 5 then qUp (qUp M 10 u 1 (sAdd (M 10 u 1) h)) 15 u (c * 6 + h) (sMin (M 15 u (c * 6 + h) + 1) 999)
  else if sMin (M 16 u (c * 6 + h) + 1) 3 < 3 then qUp (qUp (qUp M 10 u 1 (sAdd (M 10 u 1) h)) 15 u (c * 6 + h) (sMin (M 15 u (c * 6 + h) + 1) 999)) 16 u (c * 6 + h) (sMin (M 16 u (c * 6 + h) + 1) 3)
  else qUp (qUp (qUp (qUp M 10 u 1 (sAdd (M 10 u 1) h)) 15 u (c * 6 + h) (sMin (M 15 u (c * 6 + h) + 1) 999)) 16 u (c * 6 + h) (sMin (M 16 u (c * 6 + h) + 1) 3)) 13 u c (sAdd (M 13 u c) h)
theorem dX2_welcomeIn_0 : decode cX2_welcomeIn 0 = .ok (.iload_n 1, 1) := by decide +kernel
theorem dX2_welcomeIn_1 : decode cX2_welcomeIn 1 = .ok (.iload_n 2, 1) := by decide +kernel
theorem dX2_welcomeIn_2 : decode cX2_welcomeIn 2 = .ok (.invokestatic 74, 3) := by decide +kernel
theorem dX2_welcomeIn_5 : decode cX2_welcomeIn 5 = .ok (.istore_n 3, 1) := by decide +kernel
theorem dX2_welcomeIn_6 : decode cX2_welcomeIn 6 = .ok (.aload_n 0, 1) := by decide +kernel
theorem dX2_welcomeIn_7 : decode cX2_welcomeIn 7 = .ok (.dup, 1) := by decide +kernel
theorem dX2_welcomeIn_8 : decode cX2_welcomeIn 8 = .ok (.getfield 15, 3) := by decide +kernel
theorem dX2_welcomeIn_11 : decode cX2_welcomeIn 11 = .ok (.iconst 1, 1) := by decide +kernel
theorem dX2_welcomeIn_12 : decode cX2_welcomeIn 12 = .ok (.iload_n 2, 1) := by decide +kernel
theorem dX2_welcomeIn_13 : decode cX2_welcomeIn 13 = .ok (.ishl, 1) := by decide +kernel
theorem dX2_welcomeIn_14 : decode cX2_welcomeIn 14 = .ok (.ior, 1) := by decide +kernel
theorem dX2_welcomeIn_15 : decode cX2_welcomeIn 15 = .ok (.putfield 15, 3) := by decide +kernel
theorem dX2_welcomeIn_18 : decode cX2_welcomeIn 18 = .ok (.aload_n 0, 1) := by decide +kernel
theorem dX2_welcomeIn_19 : decode cX2_welcomeIn 19 = .ok (.getfield 31, 3) := by decide +kernel
theorem dX2_welcomeIn_22 : decode cX2_welcomeIn 22 = .ok (.iload_n 3, 1) := by decide +kernel
theorem dX2_welcomeIn_23 : decode cX2_welcomeIn 23 = .ok (.aload_n 0, 1) := by decide +kernel
theorem dX2_welcomeIn_24 : decode cX2_welcomeIn 24 = .ok (.getfield 31, 3) := by decide +kernel
theorem dX2_welcomeIn_27 : decode cX2_welcomeIn 27 = .ok (.iload_n 3, 1) := by decide +kernel
theorem dX2_welcomeIn_28 : decode cX2_welcomeIn 28 = .ok (.iaload, 1) := by decide +kernel
theorem dX2_welcomeIn_29 : decode cX2_welcomeIn 29 = .ok (.iconst 1, 1) := by decide +kernel
theorem dX2_welcomeIn_30 : decode cX2_welcomeIn 30 = .ok (.iadd, 1) := by decide +kernel
theorem dX2_welcomeIn_31 : decode cX2_welcomeIn 31 = .ok (.sipush 999, 3) := by decide +kernel
theorem dX2_welcomeIn_34 : decode cX2_welcomeIn 34 = .ok (.invokestatic 85, 3) := by decide +kernel
theorem dX2_welcomeIn_37 : decode cX2_welcomeIn 37 = .ok (.iastore, 1) := by decide +kernel
theorem dX2_welcomeIn_38 : decode cX2_welcomeIn 38 = .ok (.aload_n 0, 1) := by decide +kernel
theorem dX2_welcomeIn_39 : decode cX2_welcomeIn 39 = .ok (.getfield 18, 3) := by decide +kernel
theorem dX2_welcomeIn_42 : decode cX2_welcomeIn 42 = .ok (.iload_n 1, 1) := by decide +kernel
theorem dX2_welcomeIn_43 : decode cX2_welcomeIn 43 = .ok (.iaload, 1) := by decide +kernel
theorem dX2_welcomeIn_44 : decode cX2_welcomeIn 44 = .ok (.iconst 5, 1) := by decide +kernel
theorem dX2_welcomeIn_45 : decode cX2_welcomeIn 45 = .ok (.if_icmp .ge 4, 3) := by decide +kernel
theorem dX2_welcomeIn_48 : decode cX2_welcomeIn 48 = .ok (.return_, 1) := by decide +kernel
theorem dX2_welcomeIn_49 : decode cX2_welcomeIn 49 = .ok (.aload_n 0, 1) := by decide +kernel
theorem dX2_welcomeIn_50 : decode cX2_welcomeIn 50 = .ok (.getfield 34, 3) := by decide +kernel
theorem dX2_welcomeIn_53 : decode cX2_welcomeIn 53 = .ok (.iload_n 3, 1) := by decide +kernel
theorem dX2_welcomeIn_54 : decode cX2_welcomeIn 54 = .ok (.aload_n 0, 1) := by decide +kernel
theorem dX2_welcomeIn_55 : decode cX2_welcomeIn 55 = .ok (.getfield 34, 3) := by decide +kernel
theorem dX2_welcomeIn_58 : decode cX2_welcomeIn 58 = .ok (.iload_n 3, 1) := by decide +kernel
theorem dX2_welcomeIn_59 : decode cX2_welcomeIn 59 = .ok (.iaload, 1) := by decide +kernel
theorem dX2_welcomeIn_60 : decode cX2_welcomeIn 60 = .ok (.iconst 1, 1) := by decide +kernel
theorem dX2_welcomeIn_61 : decode cX2_welcomeIn 61 = .ok (.iadd, 1) := by decide +kernel
theorem dX2_welcomeIn_62 : decode cX2_welcomeIn 62 = .ok (.iconst 3, 1) := by decide +kernel
theorem dX2_welcomeIn_63 : decode cX2_welcomeIn 63 = .ok (.invokestatic 85, 3) := by decide +kernel
theorem dX2_welcomeIn_66 : decode cX2_welcomeIn 66 = .ok (.iastore, 1) := by decide +kernel
theorem dX2_welcomeIn_67 : decode cX2_welcomeIn 67 = .ok (.aload_n 0, 1) := by decide +kernel
theorem dX2_welcomeIn_68 : decode cX2_welcomeIn 68 = .ok (.getfield 34, 3) := by decide +kernel
theorem dX2_welcomeIn_71 : decode cX2_welcomeIn 71 = .ok (.iload_n 3, 1) := by decide +kernel
theorem dX2_welcomeIn_72 : decode cX2_welcomeIn 72 = .ok (.iaload, 1) := by decide +kernel
theorem dX2_welcomeIn_73 : decode cX2_welcomeIn 73 = .ok (.iconst 3, 1) := by decide +kernel
theorem dX2_welcomeIn_74 : decode cX2_welcomeIn 74 = .ok (.if_icmp .lt 15, 3) := by decide +kernel
theorem dX2_welcomeIn_77 : decode cX2_welcomeIn 77 = .ok (.aload_n 0, 1) := by decide +kernel
theorem dX2_welcomeIn_78 : decode cX2_welcomeIn 78 = .ok (.getfield 25, 3) := by decide +kernel
theorem dX2_welcomeIn_81 : decode cX2_welcomeIn 81 = .ok (.iload_n 1, 1) := by decide +kernel
theorem dX2_welcomeIn_82 : decode cX2_welcomeIn 82 = .ok (.dup2, 1) := by decide +kernel
theorem dX2_welcomeIn_83 : decode cX2_welcomeIn 83 = .ok (.iaload, 1) := by decide +kernel
theorem dX2_welcomeIn_84 : decode cX2_welcomeIn 84 = .ok (.iconst 1, 1) := by decide +kernel
theorem dX2_welcomeIn_85 : decode cX2_welcomeIn 85 = .ok (.iload_n 2, 1) := by decide +kernel
theorem dX2_welcomeIn_86 : decode cX2_welcomeIn 86 = .ok (.ishl, 1) := by decide +kernel
theorem dX2_welcomeIn_87 : decode cX2_welcomeIn 87 = .ok (.ior, 1) := by decide +kernel
theorem dX2_welcomeIn_88 : decode cX2_welcomeIn 88 = .ok (.iastore, 1) := by decide +kernel
theorem dX2_welcomeIn_89 : decode cX2_welcomeIn 89 = .ok (.return_, 1) := by decide +kernel
set_option maxRecDepth 4000 in
set_option maxHeartbeats 4000000 in
theorem m_X2_welcomeIn (l : Launch) (g : qGm) (M : qMem) {u : Nat} (hu : u < 33) {c h : Int} (hc : 0 ≤ c ∧ c < 6) (hh : 0 ≤ h ∧ h < 6) (hcb : M 15 u (c * 6 + h) ≤ 999) (hsb : M 16 u (c * 6 + h) ≤ 3) : qOk l g 2 yX2_welcomeIn cX2_welcomeIn 4 none [qR g 10 u, qI c, qI h] M (qEv none (xWel M u c h)) := by
  refine q_ok (by decide +kernel) (Nat.le_of_ble_eq_true rfl) (fun X C' hn => ?_)
  have C := C'.1
  refine q_iloadn C dX2_welcomeIn_0 rfl ?_
  refine q_iloadn C dX2_welcomeIn_1 rfl ?_
  refine cv_RX2_74 C (by decide) (m_X2_pair l g _ hc hh) dX2_welcomeIn_2 (Nat.le_of_ble_eq_true rfl) (fun r2 => ?_)
  refine q_istoren C dX2_welcomeIn_5 hn (by decide) rfl ?_
  refine q_aloadn C dX2_welcomeIn_6 rfl ?_
  refine q_dup C dX2_welcomeIn_7 rfl ?_
  refine gf_RX2_15 C (by first | assumption | decide | omega) dX2_welcomeIn_8 (fun r8 => ?_)
  refine q_iconst C dX2_welcomeIn_11 ?_
  refine q_iloadn C dX2_welcomeIn_12 rfl ?_
  refine q_ishl C dX2_welcomeIn_13 ?_
  refine q_ior C dX2_welcomeIn_14 ?_
  refine pf_RX2_15 C (by first | assumption | decide | omega) (by first | assumption | omega | exact q_tin _) dX2_welcomeIn_15 ?_
  refine q_aloadn C dX2_welcomeIn_18 rfl ?_
  refine gf_RX2_31 C (by first | assumption | decide | omega) dX2_welcomeIn_19 ?_
  refine q_iloadn C dX2_welcomeIn_22 rfl ?_
  refine q_aloadn C dX2_welcomeIn_23 rfl ?_
  refine gf_RX2_31 C (by first | assumption | decide | omega) dX2_welcomeIn_24 ?_
  refine q_iloadn C dX2_welcomeIn_27 rfl ?_
  refine q_iald C (by first | assumption | decide | omega) rfl dX2_welcomeIn_28 (by omega) (by omega) (by decide) (fun r28 => ?_)
  simp only [q_rd, q_rdS, ↓reduceIte, if_true, if_false, eq_self, Nat.reduceEqDiff, Int.reduceEq, Int.reduceNeg, reduceCtorEq] at r28 ⊢
  refine q_iconst C dX2_welcomeIn_29 ?_
  refine q_iadd C dX2_welcomeIn_30 ?_
  refine q_sipush C dX2_welcomeIn_31 (by decide) ?_
  refine q_mmin C q_ml_RX2_85 (by first | assumption | omega | exact q_tin _) (by first | assumption | omega | exact q_tin _) (by decide) (Nat.le_of_ble_eq_true rfl) dX2_welcomeIn_34 (fun r34 => ?_)
  refine q_iast C (by first | assumption | decide | omega) (fun _ => rfl) dX2_welcomeIn_37 (by omega) (by omega) (by decide) (by first | assumption | omega | exact q_tin _) ?_
  refine q_aloadn C dX2_welcomeIn_38 rfl ?_
  refine gf_RX2_18 C (by first | assumption | decide | omega) dX2_welcomeIn_39 ?_
  refine q_iloadn C dX2_welcomeIn_42 rfl ?_
  refine q_iald C (by first | assumption | decide | omega) rfl dX2_welcomeIn_43 (by omega) (by omega) (by decide) (fun r43 => ?_)
  simp only [q_rd, q_rdS, ↓reduceIte, if_true, if_false, eq_self, Nat.reduceEqDiff, Int.reduceEq, Int.reduceNeg, reduceCtorEq] at r43 ⊢
  refine q_iconst C dX2_welcomeIn_44 ?_
  refine q_icmp_ge C 49 dX2_welcomeIn_45 (by decide) (by first | assumption | omega | exact q_tin _) (by first | assumption | omega | exact q_tin _) (fun h45 => ?_) (fun h45 => ?_)
  · refine q_aloadn C dX2_welcomeIn_49 rfl ?_
    refine gf_RX2_34 C (by first | assumption | decide | omega) dX2_welcomeIn_50 ?_
    refine q_iloadn C dX2_welcomeIn_53 rfl ?_
    refine q_aloadn C dX2_welcomeIn_54 rfl ?_
    refine gf_RX2_34 C (by first | assumption | decide | omega) dX2_welcomeIn_55 ?_
    refine q_iloadn C dX2_welcomeIn_58 rfl ?_
    refine q_iald C (by first | assumption | decide | omega) rfl dX2_welcomeIn_59 (by omega) (by omega) (by decide) (fun r59 => ?_)
    simp only [q_rd, q_rdS, ↓reduceIte, if_true, if_false, eq_self, Nat.reduceEqDiff, Int.reduceEq, Int.reduceNeg, reduceCtorEq] at r59 ⊢
    refine q_iconst C dX2_welcomeIn_60 ?_
    refine q_iadd C dX2_welcomeIn_61 ?_
    refine q_iconst C dX2_welcomeIn_62 ?_
    refine q_mmin C q_ml_RX2_85 (by first | assumption | omega | exact q_tin _) (by first | assumption | omega | exact q_tin _) (by decide) (Nat.le_of_ble_eq_true rfl) dX2_welcomeIn_63 (fun r63 => ?_)
    refine q_iast C (by first | assumption | decide | omega) (fun _ => rfl) dX2_welcomeIn_66 (by omega) (by omega) (by decide) (by first | assumption | omega | exact q_tin _) ?_
    refine q_aloadn C dX2_welcomeIn_67 rfl ?_
    refine gf_RX2_34 C (by first | assumption | decide | omega) dX2_welcomeIn_68 ?_
    refine q_iloadn C dX2_welcomeIn_71 rfl ?_
    refine q_iald C (by first | assumption | decide | omega) rfl dX2_welcomeIn_72 (by omega) (by omega) (by decide) (fun r72 => ?_)
    simp only [q_rd, q_rdS, ↓reduceIte, if_true, if_false, eq_self, Nat.reduceEqDiff, Int.reduceEq, Int.reduceNeg, reduceCtorEq] at r72 ⊢
    refine q_iconst C dX2_welcomeIn_73 ?_
    refine q_icmp_lt C 89 dX2_welcomeIn_74 (by decide) (by first | assumption | omega | exact q_tin _) (by first | assumption | omega | exact q_tin _) (fun h74 => ?_) (fun h74 => ?_)
    · refine q_vret C' dX2_welcomeIn_89 ?_
      refine ⟨rfl, ?_⟩
      unfold xWel
      first | (rw [if_pos (by omega)]; rfl) | (rw [if_neg (by omega), if_pos (by omega)]; rfl) | (rw [if_neg (by omega), if_neg (by omega)]; rfl)
    · refine q_aloadn C dX2_welcomeIn_77 rfl ?_
      refine gf_RX2_25 C (by first | assumption | decide | omega) dX2_welcomeIn_78 ?_
      refine q_iloadn C dX2_welcomeIn_81 rfl ?_
      refine q_dup2 C dX2_welcomeIn_82 rfl rfl ?_
      refine q_iald C (by first | assumption | decide | omega) rfl dX2_welcomeIn_83 (by omega) (by omega) (by decide) (fun r83 => ?_)
      simp only [q_rd, q_rdS, ↓reduceIte, if_true, if_false, eq_self, Nat.reduceEqDiff, Int.reduceEq, Int.reduceNeg, reduceCtorEq] at r83 ⊢
      refine q_iconst C dX2_welcomeIn_84 ?_
      refine q_iloadn C dX2_welcomeIn_85 rfl ?_
      refine q_ishl C dX2_welcomeIn_86 ?_
      refine q_ior C dX2_welcomeIn_87 ?_
      refine q_iast C (by first | assumption | decide | omega) (fun _ => rfl) dX2_welcomeIn_88 (by omega) (by omega) (by decide) (by first | assumption | omega | exact q_tin _) ?_
      refine q_vret C' dX2_welcomeIn_89 ?_
      refine ⟨rfl, ?_⟩
      unfold xWel
      first | (rw [if_pos (by omega)]; rfl) | (rw [if_neg (by omega), if_pos (by omega)]; rfl) | (rw [if_neg (by omega), if_neg (by omega)]; rfl)
  · refine q_vret C' dX2_welcomeIn_48 ?_
    refine ⟨rfl, ?_⟩
    unfold xWel
    first | (rw [if_pos (by omega)]; rfl) | (rw [if_neg (by omega), if_pos (by omega)]; rfl) | (rw [if_neg (by omega), if_neg (by omega)]; rfl)
theorem dX2_forgive_0 : decode cX2_forgive 0 = .ok (.aload_n 0, 1) := by decide +kernel
theorem dX2_forgive_1 : decode cX2_forgive 1 = .ok (.getfield 25, 3) := by decide +kernel
theorem dX2_forgive_4 : decode cX2_forgive 4 = .ok (.iload_n 1, 1) := by decide +kernel
theorem dX2_forgive_5 : decode cX2_forgive 5 = .ok (.dup2, 1) := by decide +kernel
theorem dX2_forgive_6 : decode cX2_forgive 6 = .ok (.iaload, 1) := by decide +kernel
theorem dX2_forgive_7 : decode cX2_forgive 7 = .ok (.iconst 1, 1) := by decide +kernel
theorem dX2_forgive_8 : decode cX2_forgive 8 = .ok (.iload_n 2, 1) := by decide +kernel
theorem dX2_forgive_9 : decode cX2_forgive 9 = .ok (.ishl, 1) := by decide +kernel
theorem dX2_forgive_10 : decode cX2_forgive 10 = .ok (.iconst (-1), 1) := by decide +kernel
theorem dX2_forgive_11 : decode cX2_forgive 11 = .ok (.ixor, 1) := by decide +kernel
theorem dX2_forgive_12 : decode cX2_forgive 12 = .ok (.iand, 1) := by decide +kernel
theorem dX2_forgive_13 : decode cX2_forgive 13 = .ok (.iastore, 1) := by decide +kernel
theorem dX2_forgive_14 : decode cX2_forgive 14 = .ok (.aload_n 0, 1) := by decide +kernel
theorem dX2_forgive_15 : decode cX2_forgive 15 = .ok (.getfield 31, 3) := by decide +kernel
theorem dX2_forgive_18 : decode cX2_forgive 18 = .ok (.iload_n 1, 1) := by decide +kernel
theorem dX2_forgive_19 : decode cX2_forgive 19 = .ok (.iload_n 2, 1) := by decide +kernel
theorem dX2_forgive_20 : decode cX2_forgive 20 = .ok (.invokestatic 74, 3) := by decide +kernel
theorem dX2_forgive_23 : decode cX2_forgive 23 = .ok (.iconst 0, 1) := by decide +kernel
theorem dX2_forgive_24 : decode cX2_forgive 24 = .ok (.iastore, 1) := by decide +kernel
theorem dX2_forgive_25 : decode cX2_forgive 25 = .ok (.aload_n 0, 1) := by decide +kernel
theorem dX2_forgive_26 : decode cX2_forgive 26 = .ok (.getfield 34, 3) := by decide +kernel
theorem dX2_forgive_29 : decode cX2_forgive 29 = .ok (.iload_n 1, 1) := by decide +kernel
theorem dX2_forgive_30 : decode cX2_forgive 30 = .ok (.iload_n 2, 1) := by decide +kernel
theorem dX2_forgive_31 : decode cX2_forgive 31 = .ok (.invokestatic 74, 3) := by decide +kernel
theorem dX2_forgive_34 : decode cX2_forgive 34 = .ok (.iconst 0, 1) := by decide +kernel
theorem dX2_forgive_35 : decode cX2_forgive 35 = .ok (.iastore, 1) := by decide +kernel
theorem dX2_forgive_36 : decode cX2_forgive 36 = .ok (.return_, 1) := by decide +kernel
set_option maxRecDepth 4000 in
set_option maxHeartbeats 4000000 in
theorem m_X2_forgive (l : Launch) (g : qGm) (M : qMem) {u : Nat} (hu : u < 33) {c h : Int} (hc : 0 ≤ c ∧ c < 6) (hh : 0 ≤ h ∧ h < 6) : qOk l g 2 yX2_forgive cX2_forgive 3 none [qR g 10 u, qI c, qI h] M (qEv none (qUp (qUp (qUp M 13 u c (sDel (M 13 u c) h)) 15 u (c * 6 + h) 0) 16 u (c * 6 + h) 0)) := by
  refine q_ok (by decide +kernel) (Nat.le_of_ble_eq_true rfl) (fun X C' hn => ?_)
  have C := C'.1
  refine q_aloadn C dX2_forgive_0 rfl ?_
  refine gf_RX2_25 C (by first | assumption | decide | omega) dX2_forgive_1 ?_
  refine q_iloadn C dX2_forgive_4 rfl ?_
  refine q_dup2 C dX2_forgive_5 rfl rfl ?_
  refine q_iald C (by first | assumption | decide | omega) rfl dX2_forgive_6 (by omega) (by omega) (by decide) (fun r6 => ?_)
  refine q_iconst C dX2_forgive_7 ?_
  refine q_iloadn C dX2_forgive_8 rfl ?_
  refine q_ishl C dX2_forgive_9 ?_
  refine q_iconst C dX2_forgive_10 ?_
  refine q_ixor C dX2_forgive_11 ?_
  refine q_iand C dX2_forgive_12 ?_
  refine q_iast C (by first | assumption | decide | omega) (fun _ => rfl) dX2_forgive_13 (by omega) (by omega) (by decide) (by first | assumption | omega | exact q_tin _) ?_
  refine q_aloadn C dX2_forgive_14 rfl ?_
  refine gf_RX2_31 C (by first | assumption | decide | omega) dX2_forgive_15 ?_
  refine q_iloadn C dX2_forgive_18 rfl ?_
  refine q_iloadn C dX2_forgive_19 rfl ?_
  refine cv_RX2_74 C (by decide) (m_X2_pair l g _ hc hh) dX2_forgive_20 (Nat.le_of_ble_eq_true rfl) (fun r20 => ?_)
  refine q_iconst C dX2_forgive_23 ?_
  refine q_iast C (by first | assumption | decide | omega) (fun _ => rfl) dX2_forgive_24 (by omega) (by omega) (by decide) (by first | assumption | omega | exact q_tin _) ?_
  refine q_aloadn C dX2_forgive_25 rfl ?_
  refine gf_RX2_34 C (by first | assumption | decide | omega) dX2_forgive_26 ?_
  refine q_iloadn C dX2_forgive_29 rfl ?_
  refine q_iloadn C dX2_forgive_30 rfl ?_
  refine cv_RX2_74 C (by decide) (m_X2_pair l g _ hc hh) dX2_forgive_31 (Nat.le_of_ble_eq_true rfl) (fun r31 => ?_)
  refine q_iconst C dX2_forgive_34 ?_
  refine q_iast C (by first | assumption | decide | omega) (fun _ => rfl) dX2_forgive_35 (by omega) (by omega) (by decide) (by first | assumption | omega | exact q_tin _) ?_
  refine q_vret C' dX2_forgive_36 ?_
  exact ⟨rfl, rfl⟩
def xHard (o x h : Int) : Int := if sHas o h then sMin (x + 1) 40 else sMax (x - 1) 0
def xDay (M : qMem) (u : Nat) (n : Int) : qMem := qUp (qUp (qPre M 14 u (fun h => xHard (M 10 u 1) (M 14 u h) h) n) 10 u 1 0) 10 u 0 (M 10 u 0 + 1)
theorem dX2_endDay_0 : decode cX2_endDay 0 = .ok (.iconst 0, 1) := by decide +kernel
theorem dX2_endDay_1 : decode cX2_endDay 1 = .ok (.istore_n 2, 1) := by decide +kernel
theorem dX2_endDay_2 : decode cX2_endDay 2 = .ok (.iload_n 2, 1) := by decide +kernel
theorem dX2_endDay_3 : decode cX2_endDay 3 = .ok (.iload_n 1, 1) := by decide +kernel
theorem dX2_endDay_4 : decode cX2_endDay 4 = .ok (.if_icmp .ge 70, 3) := by decide +kernel
theorem dX2_endDay_7 : decode cX2_endDay 7 = .ok (.iload_n 2, 1) := by decide +kernel
theorem dX2_endDay_8 : decode cX2_endDay 8 = .ok (.bipush 6, 2) := by decide +kernel
theorem dX2_endDay_10 : decode cX2_endDay 10 = .ok (.if_icmp .ge 64, 3) := by decide +kernel
theorem dX2_endDay_13 : decode cX2_endDay 13 = .ok (.aload_n 0, 1) := by decide +kernel
theorem dX2_endDay_14 : decode cX2_endDay 14 = .ok (.getfield 15, 3) := by decide +kernel
theorem dX2_endDay_17 : decode cX2_endDay 17 = .ok (.iload_n 2, 1) := by decide +kernel
theorem dX2_endDay_18 : decode cX2_endDay 18 = .ok (.ishr, 1) := by decide +kernel
theorem dX2_endDay_19 : decode cX2_endDay 19 = .ok (.iconst 1, 1) := by decide +kernel
theorem dX2_endDay_20 : decode cX2_endDay 20 = .ok (.iand, 1) := by decide +kernel
theorem dX2_endDay_21 : decode cX2_endDay 21 = .ok (.ifCond .eq 7, 3) := by decide +kernel
theorem dX2_endDay_24 : decode cX2_endDay 24 = .ok (.iconst 1, 1) := by decide +kernel
theorem dX2_endDay_25 : decode cX2_endDay 25 = .ok (.goto 4, 3) := by decide +kernel
theorem dX2_endDay_28 : decode cX2_endDay 28 = .ok (.iconst 0, 1) := by decide +kernel
theorem dX2_endDay_29 : decode cX2_endDay 29 = .ok (.istore_n 3, 1) := by decide +kernel
theorem dX2_endDay_30 : decode cX2_endDay 30 = .ok (.aload_n 0, 1) := by decide +kernel
theorem dX2_endDay_31 : decode cX2_endDay 31 = .ok (.getfield 28, 3) := by decide +kernel
theorem dX2_endDay_34 : decode cX2_endDay 34 = .ok (.iload_n 2, 1) := by decide +kernel
theorem dX2_endDay_35 : decode cX2_endDay 35 = .ok (.iload_n 3, 1) := by decide +kernel
theorem dX2_endDay_36 : decode cX2_endDay 36 = .ok (.ifCond .eq 19, 3) := by decide +kernel
theorem dX2_endDay_39 : decode cX2_endDay 39 = .ok (.aload_n 0, 1) := by decide +kernel
theorem dX2_endDay_40 : decode cX2_endDay 40 = .ok (.getfield 28, 3) := by decide +kernel
theorem dX2_endDay_43 : decode cX2_endDay 43 = .ok (.iload_n 2, 1) := by decide +kernel
theorem dX2_endDay_44 : decode cX2_endDay 44 = .ok (.iaload, 1) := by decide +kernel
theorem dX2_endDay_45 : decode cX2_endDay 45 = .ok (.iconst 1, 1) := by decide +kernel
theorem dX2_endDay_46 : decode cX2_endDay 46 = .ok (.iadd, 1) := by decide +kernel
theorem dX2_endDay_47 : decode cX2_endDay 47 = .ok (.bipush 40, 2) := by decide +kernel
theorem dX2_endDay_49 : decode cX2_endDay 49 = .ok (.invokestatic 85, 3) := by decide +kernel
theorem dX2_endDay_52 : decode cX2_endDay 52 = .ok (.goto 15, 3) := by decide +kernel
theorem dX2_endDay_55 : decode cX2_endDay 55 = .ok (.aload_n 0, 1) := by decide +kernel
theorem dX2_endDay_56 : decode cX2_endDay 56 = .ok (.getfield 28, 3) := by decide +kernel
theorem dX2_endDay_59 : decode cX2_endDay 59 = .ok (.iload_n 2, 1) := by decide +kernel
theorem dX2_endDay_60 : decode cX2_endDay 60 = .ok (.iaload, 1) := by decide +kernel
theorem dX2_endDay_61 : decode cX2_endDay 61 = .ok (.iconst 1, 1) := by decide +kernel
theorem dX2_endDay_62 : decode cX2_endDay 62 = .ok (.isub, 1) := by decide +kernel
theorem dX2_endDay_63 : decode cX2_endDay 63 = .ok (.iconst 0, 1) := by decide +kernel
theorem dX2_endDay_64 : decode cX2_endDay 64 = .ok (.invokestatic 90, 3) := by decide +kernel
theorem dX2_endDay_67 : decode cX2_endDay 67 = .ok (.iastore, 1) := by decide +kernel
theorem dX2_endDay_68 : decode cX2_endDay 68 = .ok (.iinc 2 1, 3) := by decide +kernel
theorem dX2_endDay_71 : decode cX2_endDay 71 = .ok (.goto (-69), 3) := by decide +kernel
theorem dX2_endDay_74 : decode cX2_endDay 74 = .ok (.aload_n 0, 1) := by decide +kernel
theorem dX2_endDay_75 : decode cX2_endDay 75 = .ok (.iconst 0, 1) := by decide +kernel
theorem dX2_endDay_76 : decode cX2_endDay 76 = .ok (.putfield 15, 3) := by decide +kernel
theorem dX2_endDay_79 : decode cX2_endDay 79 = .ok (.aload_n 0, 1) := by decide +kernel
theorem dX2_endDay_80 : decode cX2_endDay 80 = .ok (.dup, 1) := by decide +kernel
theorem dX2_endDay_81 : decode cX2_endDay 81 = .ok (.getfield 9, 3) := by decide +kernel
theorem dX2_endDay_84 : decode cX2_endDay 84 = .ok (.iconst 1, 1) := by decide +kernel
theorem dX2_endDay_85 : decode cX2_endDay 85 = .ok (.iadd, 1) := by decide +kernel
theorem dX2_endDay_86 : decode cX2_endDay 86 = .ok (.putfield 9, 3) := by decide +kernel
theorem dX2_endDay_89 : decode cX2_endDay 89 = .ok (.return_, 1) := by decide +kernel
set_option maxRecDepth 4000 in
set_option maxHeartbeats 4000000 in
theorem m_X2_endDay (l : Launch) (g : qGm) (M : qMem) {u : Nat} (hu : u < 33) {n : Int} (hn6 : 0 ≤ n ∧ n ≤ 6) (ho : 0 ≤ M 10 u 1 ∧ M 10 u 1 < 64) (hb : ∀ h, 0 ≤ h → h < n → 0 ≤ M 14 u h ∧ M 14 u h ≤ 40) (hd : 0 ≤ M 10 u 0 ∧ M 10 u 0 ≤ 90030) : qOk l g 2 yX2_endDay cX2_endDay 4 none [qR g 10 u, qI n] M (qEv none (xDay M u n)) := by
  refine q_ok (by decide +kernel) (Nat.le_of_ble_eq_true rfl) (fun X C' hn => ?_)
  have C := C'.1
  refine q_iconst C dX2_endDay_0 ?_
  refine q_istoren C dX2_endDay_1 hn (by decide) rfl ?_
  have L2 : ∀ (n2 : Nat) (i : Int) (N : qMem), n - i < (n2 : Int) → 0 ≤ i → i ≤ n → N = qPre M 14 u (fun h => xHard (M 10 u 1) (M 14 u h) h) i → qV l g X N 2 [(0, qR g 10 u), (1, qI n), (2, qI i)] [] := by
    intro n2
    induction n2 with
    | zero => intro i N hm2 h0 h1 hN; exfalso; first | omega | (simp at *; omega)
    | succ n2 ih2 =>
      intro i N hm2 h0 h1 hN
      subst hN
      have hbi := hb i h0
      have e1 := q_shr1 ho.1 ho.2 h0 (show i < 8 by omega)
      refine q_iloadn C dX2_endDay_2 rfl ?_
      refine q_iloadn C dX2_endDay_3 rfl ?_
      refine q_icmp_ge C 74 dX2_endDay_4 (by decide) (by first | assumption | omega | exact q_tin _) (by first | assumption | omega | exact q_tin _) (fun h4 => ?_) (fun h4 => ?_)
      · refine q_aloadn C dX2_endDay_74 rfl ?_
        refine q_iconst C dX2_endDay_75 ?_
        refine pf_RX2_15 C (by first | assumption | decide | omega) (by first | assumption | omega | exact q_tin _) dX2_endDay_76 ?_
        refine q_aloadn C dX2_endDay_79 rfl ?_
        refine q_dup C dX2_endDay_80 rfl ?_
        refine gf_RX2_9 C (by first | assumption | decide | omega) dX2_endDay_81 (fun r81 => ?_)
        simp only [q_rd, q_rdS, ↓reduceIte, if_true, if_false, eq_self, Nat.reduceEqDiff, Int.reduceEq, Int.reduceNeg, reduceCtorEq, qPre_rd, q_ii] at r81 ⊢
        refine q_iconst C dX2_endDay_84 ?_
        refine q_iadd C dX2_endDay_85 ?_
        refine pf_RX2_9 C (by first | assumption | decide | omega) (by first | assumption | omega | exact q_tin _) dX2_endDay_86 ?_
        refine q_vret C' dX2_endDay_89 ?_
        first | (have e9 : i = n := (by omega); subst e9; exact ⟨rfl, rfl⟩) | (exfalso; omega)
      · refine q_iloadn C dX2_endDay_7 rfl ?_
        refine q_bipush C dX2_endDay_8 (by decide) ?_
        refine q_icmp_ge C 74 dX2_endDay_10 (by decide) (by first | assumption | omega | exact q_tin _) (by first | assumption | omega | exact q_tin _) (fun h10 => ?_) (fun h10 => ?_)
        · refine q_aloadn C dX2_endDay_74 rfl ?_
          refine q_iconst C dX2_endDay_75 ?_
          refine pf_RX2_15 C (by first | assumption | decide | omega) (by first | assumption | omega | exact q_tin _) dX2_endDay_76 ?_
          refine q_aloadn C dX2_endDay_79 rfl ?_
          refine q_dup C dX2_endDay_80 rfl ?_
          refine gf_RX2_9 C (by first | assumption | decide | omega) dX2_endDay_81 (fun r81 => ?_)
          simp only [q_rd, q_rdS, ↓reduceIte, if_true, if_false, eq_self, Nat.reduceEqDiff, Int.reduceEq, Int.reduceNeg, reduceCtorEq, qPre_rd, q_ii] at r81 ⊢
          refine q_iconst C dX2_endDay_84 ?_
          refine q_iadd C dX2_endDay_85 ?_
          refine pf_RX2_9 C (by first | assumption | decide | omega) (by first | assumption | omega | exact q_tin _) dX2_endDay_86 ?_
          refine q_vret C' dX2_endDay_89 ?_
          first | (have e9 : i = n := (by omega); subst e9; exact ⟨rfl, rfl⟩) | (exfalso; omega)
        · refine q_aloadn C dX2_endDay_13 rfl ?_
          refine gf_RX2_15 C (by first | assumption | decide | omega) dX2_endDay_14 (fun r14 => ?_)
          simp only [q_rd, q_rdS, ↓reduceIte, if_true, if_false, eq_self, Nat.reduceEqDiff, Int.reduceEq, Int.reduceNeg, reduceCtorEq, qPre_rd, q_ii] at r14 ⊢
          refine q_iloadn C dX2_endDay_17 rfl ?_
          refine q_ishr C dX2_endDay_18 ?_
          refine q_iconst C dX2_endDay_19 ?_
          refine q_iand C dX2_endDay_20 ?_
          refine q_if_eq C 28 dX2_endDay_21 (by decide) (by first | assumption | omega | exact q_tin _) (fun h21 => ?_) (fun h21 => ?_)
          · refine q_iconst C dX2_endDay_28 ?_
            refine q_istoren C dX2_endDay_29 hn (by decide) rfl ?_
            refine q_aloadn C dX2_endDay_30 rfl ?_
            refine gf_RX2_28 C (by first | assumption | decide | omega) dX2_endDay_31 ?_
            refine q_iloadn C dX2_endDay_34 rfl ?_
            refine q_iloadn C dX2_endDay_35 rfl ?_
            refine q_if_eq C 55 dX2_endDay_36 (by decide) (by first | assumption | omega | exact q_tin _) (fun h36 => ?_) (fun h36 => ?_)
            · refine q_aloadn C dX2_endDay_55 rfl ?_
              refine gf_RX2_28 C (by first | assumption | decide | omega) dX2_endDay_56 ?_
              refine q_iloadn C dX2_endDay_59 rfl ?_
              refine q_iald C (by first | assumption | decide | omega) rfl dX2_endDay_60 (by omega) (by omega) (by decide) (fun r60 => ?_)
              simp only [q_rd, q_rdS, ↓reduceIte, if_true, if_false, eq_self, Nat.reduceEqDiff, Int.reduceEq, Int.reduceNeg, reduceCtorEq, qPre_rd, q_ii] at r60 ⊢
              refine q_iconst C dX2_endDay_61 ?_
              refine q_isub C dX2_endDay_62 ?_
              refine q_iconst C dX2_endDay_63 ?_
              refine q_mmax C q_ml_RX2_90 (by first | assumption | omega | exact q_tin _) (by first | assumption | omega | exact q_tin _) (by decide) (Nat.le_of_ble_eq_true rfl) dX2_endDay_64 (fun r64 => ?_)
              refine q_iast C (by first | assumption | decide | omega) (fun _ => rfl) dX2_endDay_67 (by omega) (by omega) (by decide) (by first | assumption | omega | exact q_tin _) ?_
              refine q_iinc C dX2_endDay_68 rfl hn (by decide) rfl ?_
              refine q_goto C (tgt := 2) dX2_endDay_71 (by decide) ?_
              exact q_ls (by exact ⟨rfl, rfl, rfl, trivial⟩) (ih2 _ _ (by omega) (by omega) (by omega) (by refine qPre_s _ _ _ _ h0 ?_; unfold xHard; first | (rw [if_pos (by show _ / _ % 2 = 1; omega)]; done) | (rw [if_neg (by show ¬ _ / _ % 2 = 1; omega)]; done) | (exfalso; omega)))
            · refine q_aloadn C dX2_endDay_39 rfl ?_
              refine gf_RX2_28 C (by first | assumption | decide | omega) dX2_endDay_40 ?_
              refine q_iloadn C dX2_endDay_43 rfl ?_
              refine q_iald C (by first | assumption | decide | omega) rfl dX2_endDay_44 (by omega) (by omega) (by decide) (fun r44 => ?_)
              simp only [q_rd, q_rdS, ↓reduceIte, if_true, if_false, eq_self, Nat.reduceEqDiff, Int.reduceEq, Int.reduceNeg, reduceCtorEq, qPre_rd, q_ii] at r44 ⊢
              refine q_iconst C dX2_endDay_45 ?_
              refine q_iadd C dX2_endDay_46 ?_
              refine q_bipush C dX2_endDay_47 (by decide) ?_
              refine q_mmin C q_ml_RX2_85 (by first | assumption | omega | exact q_tin _) (by first | assumption | omega | exact q_tin _) (by decide) (Nat.le_of_ble_eq_true rfl) dX2_endDay_49 (fun r49 => ?_)
              refine q_goto C (tgt := 67) dX2_endDay_52 (by decide) ?_
              refine q_iast C (by first | assumption | decide | omega) (fun _ => rfl) dX2_endDay_67 (by omega) (by omega) (by decide) (by first | assumption | omega | exact q_tin _) ?_
              refine q_iinc C dX2_endDay_68 rfl hn (by decide) rfl ?_
              refine q_goto C (tgt := 2) dX2_endDay_71 (by decide) ?_
              exact q_ls (by exact ⟨rfl, rfl, rfl, trivial⟩) (ih2 _ _ (by omega) (by omega) (by omega) (by refine qPre_s _ _ _ _ h0 ?_; unfold xHard; first | (rw [if_pos (by show _ / _ % 2 = 1; omega)]; done) | (rw [if_neg (by show ¬ _ / _ % 2 = 1; omega)]; done) | (exfalso; omega)))
          · refine q_iconst C dX2_endDay_24 ?_
            refine q_goto C (tgt := 29) dX2_endDay_25 (by decide) ?_
            refine q_istoren C dX2_endDay_29 hn (by decide) rfl ?_
            refine q_aloadn C dX2_endDay_30 rfl ?_
            refine gf_RX2_28 C (by first | assumption | decide | omega) dX2_endDay_31 ?_
            refine q_iloadn C dX2_endDay_34 rfl ?_
            refine q_iloadn C dX2_endDay_35 rfl ?_
            refine q_if_eq C 55 dX2_endDay_36 (by decide) (by first | assumption | omega | exact q_tin _) (fun h36 => ?_) (fun h36 => ?_)
            · refine q_aloadn C dX2_endDay_55 rfl ?_
              refine gf_RX2_28 C (by first | assumption | decide | omega) dX2_endDay_56 ?_
              refine q_iloadn C dX2_endDay_59 rfl ?_
              refine q_iald C (by first | assumption | decide | omega) rfl dX2_endDay_60 (by omega) (by omega) (by decide) (fun r60 => ?_)
              simp only [q_rd, q_rdS, ↓reduceIte, if_true, if_false, eq_self, Nat.reduceEqDiff, Int.reduceEq, Int.reduceNeg, reduceCtorEq, qPre_rd, q_ii] at r60 ⊢
              refine q_iconst C dX2_endDay_61 ?_
              refine q_isub C dX2_endDay_62 ?_
              refine q_iconst C dX2_endDay_63 ?_
              refine q_mmax C q_ml_RX2_90 (by first | assumption | omega | exact q_tin _) (by first | assumption | omega | exact q_tin _) (by decide) (Nat.le_of_ble_eq_true rfl) dX2_endDay_64 (fun r64 => ?_)
              refine q_iast C (by first | assumption | decide | omega) (fun _ => rfl) dX2_endDay_67 (by omega) (by omega) (by decide) (by first | assumption | omega | exact q_tin _) ?_
              refine q_iinc C dX2_endDay_68 rfl hn (by decide) rfl ?_
              refine q_goto C (tgt := 2) dX2_endDay_71 (by decide) ?_
              exact q_ls (by exact ⟨rfl, rfl, rfl, trivial⟩) (ih2 _ _ (by omega) (by omega) (by omega) (by refine qPre_s _ _ _ _ h0 ?_; unfold xHard; first | (rw [if_pos (by show _ / _ % 2 = 1; omega)]; done) | (rw [if_neg (by show ¬ _ / _ % 2 = 1; omega)]; done) | (exfalso; omega)))
            · refine q_aloadn C dX2_endDay_39 rfl ?_
              refine gf_RX2_28 C (by first | assumption | decide | omega) dX2_endDay_40 ?_
              refine q_iloadn C dX2_endDay_43 rfl ?_
              refine q_iald C (by first | assumption | decide | omega) rfl dX2_endDay_44 (by omega) (by omega) (by decide) (fun r44 => ?_)
              simp only [q_rd, q_rdS, ↓reduceIte, if_true, if_false, eq_self, Nat.reduceEqDiff, Int.reduceEq, Int.reduceNeg, reduceCtorEq, qPre_rd, q_ii] at r44 ⊢
              refine q_iconst C dX2_endDay_45 ?_
              refine q_iadd C dX2_endDay_46 ?_
              refine q_bipush C dX2_endDay_47 (by decide) ?_
              refine q_mmin C q_ml_RX2_85 (by first | assumption | omega | exact q_tin _) (by first | assumption | omega | exact q_tin _) (by decide) (Nat.le_of_ble_eq_true rfl) dX2_endDay_49 (fun r49 => ?_)
              refine q_goto C (tgt := 67) dX2_endDay_52 (by decide) ?_
              refine q_iast C (by first | assumption | decide | omega) (fun _ => rfl) dX2_endDay_67 (by omega) (by omega) (by decide) (by first | assumption | omega | exact q_tin _) ?_
              refine q_iinc C dX2_endDay_68 rfl hn (by decide) rfl ?_
              refine q_goto C (tgt := 2) dX2_endDay_71 (by decide) ?_
              exact q_ls (by exact ⟨rfl, rfl, rfl, trivial⟩) (ih2 _ _ (by omega) (by omega) (by omega) (by refine qPre_s _ _ _ _ h0 ?_; unfold xHard; first | (rw [if_pos (by show _ / _ % 2 = 1; omega)]; done) | (rw [if_neg (by show ¬ _ / _ % 2 = 1; omega)]; done) | (exfalso; omega)))
  exact q_ls (by exact ⟨rfl, rfl, rfl, trivial⟩) (L2 1000 0 M (by omega) (by omega) (by omega) (by exact (qPre_0 _ _ _ _).symm))
/-- a hall as a season begins -/
def xOpen (M : qMem) (u w : Nat) : qMem := qUp (qUp (qSet (qSet (qSet (qSet (qSet (qSet (qUp (qUp M 10 u 0 0) 10 u 1 0) 11 u (M 5 w)) 12 u (M 6 w)) 14 u (M 7 w)) 13 u (fun _ => 0)) 15 u (fun _ => 0)) 16 u (fun _ => 0)) 17 u 1 0) 17 u 2 0
/-- a hall becomes another -/
def xBec (M : qMem) (u w : Nat) : qMem := qSet (qUp (qUp (qSet (qSet (qSet (qSet (qSet (qSet (qUp (qUp M 10 u 0 (M 10 w 0)) 10 u 1 (M 10 w 1)) 11 u (M 11 w)) 12 u (M 12 w)) 13 u (M 13 w)) 14 u (M 14 w)) 15 u (M 15 w)) 16 u (M 16 w)) 17 u 1 (M 17 w 1)) 17 u 2 (M 17 w 2)) 18 u (M 18 w)
theorem dX2_open_0 : decode cX2_open 0 = .ok (.aload_n 0, 1) := by decide +kernel
theorem dX2_open_1 : decode cX2_open 1 = .ok (.iconst 0, 1) := by decide +kernel
theorem dX2_open_2 : decode cX2_open 2 = .ok (.putfield 9, 3) := by decide +kernel
theorem dX2_open_5 : decode cX2_open 5 = .ok (.aload_n 0, 1) := by decide +kernel
theorem dX2_open_6 : decode cX2_open 6 = .ok (.iconst 0, 1) := by decide +kernel
theorem dX2_open_7 : decode cX2_open 7 = .ok (.putfield 15, 3) := by decide +kernel
theorem dX2_open_10 : decode cX2_open 10 = .ok (.aload_n 1, 1) := by decide +kernel
theorem dX2_open_11 : decode cX2_open 11 = .ok (.getfield 44, 3) := by decide +kernel
theorem dX2_open_14 : decode cX2_open 14 = .ok (.iconst 0, 1) := by decide +kernel
theorem dX2_open_15 : decode cX2_open 15 = .ok (.aload_n 0, 1) := by decide +kernel
theorem dX2_open_16 : decode cX2_open 16 = .ok (.getfield 18, 3) := by decide +kernel
theorem dX2_open_19 : decode cX2_open 19 = .ok (.iconst 0, 1) := by decide +kernel
theorem dX2_open_20 : decode cX2_open 20 = .ok (.bipush 6, 2) := by decide +kernel
theorem dX2_open_22 : decode cX2_open 22 = .ok (.invokestatic 49, 3) := by decide +kernel
theorem dX2_open_25 : decode cX2_open 25 = .ok (.aload_n 1, 1) := by decide +kernel
theorem dX2_open_26 : decode cX2_open 26 = .ok (.getfield 55, 3) := by decide +kernel
theorem dX2_open_29 : decode cX2_open 29 = .ok (.iconst 0, 1) := by decide +kernel
theorem dX2_open_30 : decode cX2_open 30 = .ok (.aload_n 0, 1) := by decide +kernel
theorem dX2_open_31 : decode cX2_open 31 = .ok (.getfield 22, 3) := by decide +kernel
theorem dX2_open_34 : decode cX2_open 34 = .ok (.iconst 0, 1) := by decide +kernel
theorem dX2_open_35 : decode cX2_open 35 = .ok (.bipush 6, 2) := by decide +kernel
theorem dX2_open_37 : decode cX2_open 37 = .ok (.invokestatic 49, 3) := by decide +kernel
theorem dX2_open_40 : decode cX2_open 40 = .ok (.aload_n 1, 1) := by decide +kernel
theorem dX2_open_41 : decode cX2_open 41 = .ok (.getfield 58, 3) := by decide +kernel
theorem dX2_open_44 : decode cX2_open 44 = .ok (.iconst 0, 1) := by decide +kernel
theorem dX2_open_45 : decode cX2_open 45 = .ok (.aload_n 0, 1) := by decide +kernel
theorem dX2_open_46 : decode cX2_open 46 = .ok (.getfield 28, 3) := by decide +kernel
theorem dX2_open_49 : decode cX2_open 49 = .ok (.iconst 0, 1) := by decide +kernel
theorem dX2_open_50 : decode cX2_open 50 = .ok (.bipush 6, 2) := by decide +kernel
theorem dX2_open_52 : decode cX2_open 52 = .ok (.invokestatic 49, 3) := by decide +kernel
theorem dX2_open_55 : decode cX2_open 55 = .ok (.aload_n 0, 1) := by decide +kernel
theorem dX2_open_56 : decode cX2_open 56 = .ok (.getfield 25, 3) := by decide +kernel
theorem dX2_open_59 : decode cX2_open 59 = .ok (.iconst 0, 1) := by decide +kernel
theorem dX2_open_60 : decode cX2_open 60 = .ok (.invokestatic 61, 3) := by decide +kernel
theorem dX2_open_63 : decode cX2_open 63 = .ok (.aload_n 0, 1) := by decide +kernel
theorem dX2_open_64 : decode cX2_open 64 = .ok (.getfield 31, 3) := by decide +kernel
theorem dX2_open_67 : decode cX2_open 67 = .ok (.iconst 0, 1) := by decide +kernel
theorem dX2_open_68 : decode cX2_open 68 = .ok (.invokestatic 61, 3) := by decide +kernel
theorem dX2_open_71 : decode cX2_open 71 = .ok (.aload_n 0, 1) := by decide +kernel
theorem dX2_open_72 : decode cX2_open 72 = .ok (.getfield 34, 3) := by decide +kernel
theorem dX2_open_75 : decode cX2_open 75 = .ok (.iconst 0, 1) := by decide +kernel
theorem dX2_open_76 : decode cX2_open 76 = .ok (.invokestatic 61, 3) := by decide +kernel
theorem dX2_open_79 : decode cX2_open 79 = .ok (.aload_n 0, 1) := by decide +kernel
theorem dX2_open_80 : decode cX2_open 80 = .ok (.getfield 40, 3) := by decide +kernel
theorem dX2_open_83 : decode cX2_open 83 = .ok (.invokevirtual 67, 3) := by decide +kernel
theorem dX2_open_86 : decode cX2_open 86 = .ok (.return_, 1) := by decide +kernel
set_option maxRecDepth 4000 in
set_option maxHeartbeats 4000000 in
theorem m_X2_open (l : Launch) (g : qGm) (M : qMem) {u : Nat} (hu : u < 33) {w : Nat} (hw : w < 2) : qOk l g 2 yX2_open cX2_open 2 none [qR g 10 u, qR g 3 w] M (qEv none (xOpen M u w)) := by
  refine q_ok (by decide +kernel) (Nat.le_of_ble_eq_true rfl) (fun X C' hn => ?_)
  have C := C'.1
  refine q_aloadn C dX2_open_0 rfl ?_
  refine q_iconst C dX2_open_1 ?_
  refine pf_RX2_9 C (by first | assumption | decide | omega) (by first | assumption | omega | exact q_tin _) dX2_open_2 ?_
  refine q_aloadn C dX2_open_5 rfl ?_
  refine q_iconst C dX2_open_6 ?_
  refine pf_RX2_15 C (by first | assumption | decide | omega) (by first | assumption | omega | exact q_tin _) dX2_open_7 ?_
  refine q_aloadn C dX2_open_10 rfl ?_
  refine gf_RX2_44 C (by first | assumption | decide | omega) dX2_open_11 ?_
  refine q_iconst C dX2_open_14 ?_
  refine q_aloadn C dX2_open_15 rfl ?_
  refine gf_RX2_18 C (by first | assumption | decide | omega) dX2_open_16 ?_
  refine q_iconst C dX2_open_19 ?_
  refine q_bipush C dX2_open_20 (by decide) ?_
  refine q_copy C (by first | assumption | decide) (by first | assumption | decide) rfl (fun _ => rfl) (by decide) q_ml_RX2_49 q_nat q_sta q_sin (by decide) (Nat.le_of_ble_eq_true rfl) dX2_open_22 ?_
  simp only [q_rdR, q_rdSR, q_rd, q_rdS, ↓reduceIte, if_true, if_false, eq_self, Nat.reduceEqDiff, Int.reduceEq, Int.reduceNeg, reduceCtorEq]
  refine q_aloadn C dX2_open_25 rfl ?_
  refine gf_RX2_55 C (by first | assumption | decide | omega) dX2_open_26 ?_
  refine q_iconst C dX2_open_29 ?_
  refine q_aloadn C dX2_open_30 rfl ?_
  refine gf_RX2_22 C (by first | assumption | decide | omega) dX2_open_31 ?_
  refine q_iconst C dX2_open_34 ?_
  refine q_bipush C dX2_open_35 (by decide) ?_
  refine q_copy C (by first | assumption | decide) (by first | assumption | decide) rfl (fun _ => rfl) (by decide) q_ml_RX2_49 q_nat q_sta q_sin (by decide) (Nat.le_of_ble_eq_true rfl) dX2_open_37 ?_
  simp only [q_rdR, q_rdSR, q_rd, q_rdS, ↓reduceIte, if_true, if_false, eq_self, Nat.reduceEqDiff, Int.reduceEq, Int.reduceNeg, reduceCtorEq]
  refine q_aloadn C dX2_open_40 rfl ?_
  refine gf_RX2_58 C (by first | assumption | decide | omega) dX2_open_41 ?_
  refine q_iconst C dX2_open_44 ?_
  refine q_aloadn C dX2_open_45 rfl ?_
  refine gf_RX2_28 C (by first | assumption | decide | omega) dX2_open_46 ?_
  refine q_iconst C dX2_open_49 ?_
  refine q_bipush C dX2_open_50 (by decide) ?_
  refine q_copy C (by first | assumption | decide) (by first | assumption | decide) rfl (fun _ => rfl) (by decide) q_ml_RX2_49 q_nat q_sta q_sin (by decide) (Nat.le_of_ble_eq_true rfl) dX2_open_52 ?_
  simp only [q_rdR, q_rdSR, q_rd, q_rdS, ↓reduceIte, if_true, if_false, eq_self, Nat.reduceEqDiff, Int.reduceEq, Int.reduceNeg, reduceCtorEq]
  refine q_aloadn C dX2_open_55 rfl ?_
  refine gf_RX2_25 C (by first | assumption | decide | omega) dX2_open_56 ?_
  refine q_iconst C dX2_open_59 ?_
  refine cv_RX2_61 C (by decide) (m_J7_fill l g _ (by assumption) (fun _ => rfl) (by decide) (by omega)) dX2_open_60 (Nat.le_of_ble_eq_true rfl) ?_
  refine q_aloadn C dX2_open_63 rfl ?_
  refine gf_RX2_31 C (by first | assumption | decide | omega) dX2_open_64 ?_
  refine q_iconst C dX2_open_67 ?_
  refine cv_RX2_61 C (by decide) (m_J7_fill l g _ (by assumption) (fun _ => rfl) (by decide) (by omega)) dX2_open_68 (Nat.le_of_ble_eq_true rfl) ?_
  refine q_aloadn C dX2_open_71 rfl ?_
  refine gf_RX2_34 C (by first | assumption | decide | omega) dX2_open_72 ?_
  refine q_iconst C dX2_open_75 ?_
  refine cv_RX2_61 C (by decide) (m_J7_fill l g _ (by assumption) (fun _ => rfl) (by decide) (by omega)) dX2_open_76 (Nat.le_of_ble_eq_true rfl) ?_
  refine q_aloadn C dX2_open_79 rfl ?_
  refine gf_RX2_40 C (by first | assumption | decide | omega) dX2_open_80 ?_
  refine cv_RX2_67 C (by decide) (by first | assumption | decide | omega) (m_X4_empty l g _ hu) dX2_open_83 (Nat.le_of_ble_eq_true rfl) ?_
  refine q_vret C' dX2_open_86 ?_
  exact ⟨rfl, rfl⟩
theorem dX2_become_0 : decode cX2_become 0 = .ok (.aload_n 0, 1) := by decide +kernel
theorem dX2_become_1 : decode cX2_become 1 = .ok (.aload_n 1, 1) := by decide +kernel
theorem dX2_become_2 : decode cX2_become 2 = .ok (.getfield 9, 3) := by decide +kernel
theorem dX2_become_5 : decode cX2_become 5 = .ok (.putfield 9, 3) := by decide +kernel
theorem dX2_become_8 : decode cX2_become 8 = .ok (.aload_n 0, 1) := by decide +kernel
theorem dX2_become_9 : decode cX2_become 9 = .ok (.aload_n 1, 1) := by decide +kernel
theorem dX2_become_10 : decode cX2_become 10 = .ok (.getfield 15, 3) := by decide +kernel
theorem dX2_become_13 : decode cX2_become 13 = .ok (.putfield 15, 3) := by decide +kernel
theorem dX2_become_16 : decode cX2_become 16 = .ok (.aload_n 1, 1) := by decide +kernel
theorem dX2_become_17 : decode cX2_become 17 = .ok (.getfield 18, 3) := by decide +kernel
theorem dX2_become_20 : decode cX2_become 20 = .ok (.iconst 0, 1) := by decide +kernel
theorem dX2_become_21 : decode cX2_become 21 = .ok (.aload_n 0, 1) := by decide +kernel
theorem dX2_become_22 : decode cX2_become 22 = .ok (.getfield 18, 3) := by decide +kernel
theorem dX2_become_25 : decode cX2_become 25 = .ok (.iconst 0, 1) := by decide +kernel
theorem dX2_become_26 : decode cX2_become 26 = .ok (.bipush 6, 2) := by decide +kernel
theorem dX2_become_28 : decode cX2_become 28 = .ok (.invokestatic 49, 3) := by decide +kernel
theorem dX2_become_31 : decode cX2_become 31 = .ok (.aload_n 1, 1) := by decide +kernel
theorem dX2_become_32 : decode cX2_become 32 = .ok (.getfield 22, 3) := by decide +kernel
theorem dX2_become_35 : decode cX2_become 35 = .ok (.iconst 0, 1) := by decide +kernel
theorem dX2_become_36 : decode cX2_become 36 = .ok (.aload_n 0, 1) := by decide +kernel
theorem dX2_become_37 : decode cX2_become 37 = .ok (.getfield 22, 3) := by decide +kernel
theorem dX2_become_40 : decode cX2_become 40 = .ok (.iconst 0, 1) := by decide +kernel
theorem dX2_become_41 : decode cX2_become 41 = .ok (.bipush 6, 2) := by decide +kernel
theorem dX2_become_43 : decode cX2_become 43 = .ok (.invokestatic 49, 3) := by decide +kernel
theorem dX2_become_46 : decode cX2_become 46 = .ok (.aload_n 1, 1) := by decide +kernel
theorem dX2_become_47 : decode cX2_become 47 = .ok (.getfield 25, 3) := by decide +kernel
theorem dX2_become_50 : decode cX2_become 50 = .ok (.iconst 0, 1) := by decide +kernel
theorem dX2_become_51 : decode cX2_become 51 = .ok (.aload_n 0, 1) := by decide +kernel
theorem dX2_become_52 : decode cX2_become 52 = .ok (.getfield 25, 3) := by decide +kernel
theorem dX2_become_55 : decode cX2_become 55 = .ok (.iconst 0, 1) := by decide +kernel
theorem dX2_become_56 : decode cX2_become 56 = .ok (.bipush 6, 2) := by decide +kernel
theorem dX2_become_58 : decode cX2_become 58 = .ok (.invokestatic 49, 3) := by decide +kernel
theorem dX2_become_61 : decode cX2_become 61 = .ok (.aload_n 1, 1) := by decide +kernel
theorem dX2_become_62 : decode cX2_become 62 = .ok (.getfield 28, 3) := by decide +kernel
theorem dX2_become_65 : decode cX2_become 65 = .ok (.iconst 0, 1) := by decide +kernel
theorem dX2_become_66 : decode cX2_become 66 = .ok (.aload_n 0, 1) := by decide +kernel
theorem dX2_become_67 : decode cX2_become 67 = .ok (.getfield 28, 3) := by decide +kernel
theorem dX2_become_70 : decode cX2_become 70 = .ok (.iconst 0, 1) := by decide +kernel
theorem dX2_become_71 : decode cX2_become 71 = .ok (.bipush 6, 2) := by decide +kernel
theorem dX2_become_73 : decode cX2_become 73 = .ok (.invokestatic 49, 3) := by decide +kernel
theorem dX2_become_76 : decode cX2_become 76 = .ok (.aload_n 1, 1) := by decide +kernel
theorem dX2_become_77 : decode cX2_become 77 = .ok (.getfield 31, 3) := by decide +kernel
theorem dX2_become_80 : decode cX2_become 80 = .ok (.iconst 0, 1) := by decide +kernel
theorem dX2_become_81 : decode cX2_become 81 = .ok (.aload_n 0, 1) := by decide +kernel
theorem dX2_become_82 : decode cX2_become 82 = .ok (.getfield 31, 3) := by decide +kernel
theorem dX2_become_85 : decode cX2_become 85 = .ok (.iconst 0, 1) := by decide +kernel
theorem dX2_become_86 : decode cX2_become 86 = .ok (.bipush 36, 2) := by decide +kernel
theorem dX2_become_88 : decode cX2_become 88 = .ok (.invokestatic 49, 3) := by decide +kernel
theorem dX2_become_91 : decode cX2_become 91 = .ok (.aload_n 1, 1) := by decide +kernel
theorem dX2_become_92 : decode cX2_become 92 = .ok (.getfield 34, 3) := by decide +kernel
theorem dX2_become_95 : decode cX2_become 95 = .ok (.iconst 0, 1) := by decide +kernel
theorem dX2_become_96 : decode cX2_become 96 = .ok (.aload_n 0, 1) := by decide +kernel
theorem dX2_become_97 : decode cX2_become 97 = .ok (.getfield 34, 3) := by decide +kernel
theorem dX2_become_100 : decode cX2_become 100 = .ok (.iconst 0, 1) := by decide +kernel
theorem dX2_become_101 : decode cX2_become 101 = .ok (.bipush 36, 2) := by decide +kernel
theorem dX2_become_103 : decode cX2_become 103 = .ok (.invokestatic 49, 3) := by decide +kernel
theorem dX2_become_106 : decode cX2_become 106 = .ok (.aload_n 0, 1) := by decide +kernel
theorem dX2_become_107 : decode cX2_become 107 = .ok (.getfield 40, 3) := by decide +kernel
theorem dX2_become_110 : decode cX2_become 110 = .ok (.aload_n 1, 1) := by decide +kernel
theorem dX2_become_111 : decode cX2_become 111 = .ok (.getfield 40, 3) := by decide +kernel
theorem dX2_become_114 : decode cX2_become 114 = .ok (.invokevirtual 70, 3) := by decide +kernel
theorem dX2_become_117 : decode cX2_become 117 = .ok (.return_, 1) := by decide +kernel
set_option maxRecDepth 4000 in
set_option maxHeartbeats 4000000 in
theorem m_X2_become (l : Launch) (g : qGm) (M : qMem) {u : Nat} (hu : u < 33) {w : Nat} (hw : w < 33) (hne : ¬ w = u) : qOk l g 2 yX2_become cX2_become 2 none [qR g 10 u, qR g 10 w] M (qEv none (xBec M u w)) := by
  refine q_ok (by decide +kernel) (Nat.le_of_ble_eq_true rfl) (fun X C' hn => ?_)
  have C := C'.1
  refine q_aloadn C dX2_become_0 rfl ?_
  refine q_aloadn C dX2_become_1 rfl ?_
  refine gf_RX2_9 C (by first | assumption | decide | omega) dX2_become_2 (fun r2 => ?_)
  refine pf_RX2_9 C (by first | assumption | decide | omega) (by first | assumption | omega | exact q_tin _) dX2_become_5 ?_
  refine q_aloadn C dX2_become_8 rfl ?_
  refine q_aloadn C dX2_become_9 rfl ?_
  refine gf_RX2_15 C (by first | assumption | decide | omega) dX2_become_10 (fun r10 => ?_)
  simp only [q_rd, q_rdS, ↓reduceIte, if_true, if_false, eq_self, Nat.reduceEqDiff, Int.reduceEq, Int.reduceNeg, reduceCtorEq, if_neg hne] at r10 ⊢
  refine pf_RX2_15 C (by first | assumption | decide | omega) (by first | assumption | omega | exact q_tin _) dX2_become_13 ?_
  refine q_aloadn C dX2_become_16 rfl ?_
  refine gf_RX2_18 C (by first | assumption | decide | omega) dX2_become_17 ?_
  refine q_iconst C dX2_become_20 ?_
  refine q_aloadn C dX2_become_21 rfl ?_
  refine gf_RX2_18 C (by first | assumption | decide | omega) dX2_become_22 ?_
  refine q_iconst C dX2_become_25 ?_
  refine q_bipush C dX2_become_26 (by decide) ?_
  refine q_copy C (by first | assumption | decide) (by first | assumption | decide) rfl (fun _ => rfl) (by decide) q_ml_RX2_49 q_nat q_sta q_sin (by decide) (Nat.le_of_ble_eq_true rfl) dX2_become_28 ?_
  simp only [q_rdR, q_rdSR, q_rd, q_rdS, ↓reduceIte, if_true, if_false, eq_self, Nat.reduceEqDiff, Int.reduceEq, Int.reduceNeg, reduceCtorEq, if_neg hne]
  refine q_aloadn C dX2_become_31 rfl ?_
  refine gf_RX2_22 C (by first | assumption | decide | omega) dX2_become_32 ?_
  refine q_iconst C dX2_become_35 ?_
  refine q_aloadn C dX2_become_36 rfl ?_
  refine gf_RX2_22 C (by first | assumption | decide | omega) dX2_become_37 ?_
  refine q_iconst C dX2_become_40 ?_
  refine q_bipush C dX2_become_41 (by decide) ?_
  refine q_copy C (by first | assumption | decide) (by first | assumption | decide) rfl (fun _ => rfl) (by decide) q_ml_RX2_49 q_nat q_sta q_sin (by decide) (Nat.le_of_ble_eq_true rfl) dX2_become_43 ?_
  simp only [q_rdR, q_rdSR, q_rd, q_rdS, ↓reduceIte, if_true, if_false, eq_self, Nat.reduceEqDiff, Int.reduceEq, Int.reduceNeg, reduceCtorEq, if_neg hne]
  refine q_aloadn C dX2_become_46 rfl ?_
  refine gf_RX2_25 C (by first | assumption | decide | omega) dX2_become_47 ?_
  refine q_iconst C dX2_become_50 ?_
  refine q_aloadn C dX2_become_51 rfl ?_
  refine gf_RX2_25 C (by first | assumption | decide | omega) dX2_become_52 ?_
  refine q_iconst C dX2_become_55 ?_
  refine q_bipush C dX2_become_56 (by decide) ?_
  refine q_copy C (by first | assumption | decide) (by first | assumption | decide) rfl (fun _ => rfl) (by decide) q_ml_RX2_49 q_nat q_sta q_sin (by decide) (Nat.le_of_ble_eq_true rfl) dX2_become_58 ?_
  simp only [q_rdR, q_rdSR, q_rd, q_rdS, ↓reduceIte, if_true, if_false, eq_self, Nat.reduceEqDiff, Int.reduceEq, Int.reduceNeg, reduceCtorEq, if_neg hne]
  refine q_aloadn C dX2_become_61 rfl ?_
  refine gf_RX2_28 C (by first | assumption | decide | omega) dX2_become_62 ?_
  refine q_iconst C dX2_become_65 ?_
  refine q_aloadn C dX2_become_66 rfl ?_
  refine gf_RX2_28 C (by first | assumption | decide | omega) dX2_become_67 ?_
  refine q_iconst C dX2_become_70 ?_
  refine q_bipush C dX2_become_71 (by decide) ?_
  refine q_copy C (by first | assumption | decide) (by first | assumption | decide) rfl (fun _ => rfl) (by decide) q_ml_RX2_49 q_nat q_sta q_sin (by decide) (Nat.le_of_ble_eq_true rfl) dX2_become_73 ?_
  simp only [q_rdR, q_rdSR, q_rd, q_rdS, ↓reduceIte, if_true, if_false, eq_self, Nat.reduceEqDiff, Int.reduceEq, Int.reduceNeg, reduceCtorEq, if_neg hne]
  refine q_aloadn C dX2_become_76 rfl ?_
  refine gf_RX2_31 C (by first | assumption | decide | omega) dX2_become_77 ?_
  refine q_iconst C dX2_become_80 ?_
  refine q_aloadn C dX2_become_81 rfl ?_
  refine gf_RX2_31 C (by first | assumption | decide | omega) dX2_become_82 ?_
  refine q_iconst C dX2_become_85 ?_
  refine q_bipush C dX2_become_86 (by decide) ?_
  refine q_copy C (by first | assumption | decide) (by first | assumption | decide) rfl (fun _ => rfl) (by decide) q_ml_RX2_49 q_nat q_sta q_sin (by decide) (Nat.le_of_ble_eq_true rfl) dX2_become_88 ?_
  simp only [q_rdR, q_rdSR, q_rd, q_rdS, ↓reduceIte, if_true, if_false, eq_self, Nat.reduceEqDiff, Int.reduceEq, Int.reduceNeg, reduceCtorEq, if_neg hne]
  refine q_aloadn C dX2_become_91 rfl ?_
  refine gf_RX2_34 C (by first | assumption | decide | omega) dX2_become_92 ?_
  refine q_iconst C dX2_become_95 ?_
  refine q_aloadn C dX2_become_96 rfl ?_
  refine gf_RX2_34 C (by first | assumption | decide | omega) dX2_become_97 ?_
  refine q_iconst C dX2_become_100 ?_
  refine q_bipush C dX2_become_101 (by decide) ?_
  refine q_copy C (by first | assumption | decide) (by first | assumption | decide) rfl (fun _ => rfl) (by decide) q_ml_RX2_49 q_nat q_sta q_sin (by decide) (Nat.le_of_ble_eq_true rfl) dX2_become_103 ?_
  simp only [q_rdR, q_rdSR, q_rd, q_rdS, ↓reduceIte, if_true, if_false, eq_self, Nat.reduceEqDiff, Int.reduceEq, Int.reduceNeg, reduceCtorEq, if_neg hne]
  refine q_aloadn C dX2_become_106 rfl ?_
  refine gf_RX2_40 C (by first | assumption | decide | omega) dX2_become_107 ?_
  refine q_aloadn C dX2_become_110 rfl ?_
  refine gf_RX2_40 C (by first | assumption | decide | omega) dX2_become_111 ?_
  refine cv_RX2_70 C (by decide) (by first | assumption | decide | omega) (m_X4_become l g _ hu hw hne) dX2_become_114 (Nat.le_of_ble_eq_true rfl) ?_
  refine q_vret C' dX2_become_117 ?_
  exact ⟨rfl, rfl⟩
end
