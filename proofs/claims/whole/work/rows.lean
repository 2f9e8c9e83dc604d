section
-- ===== PART A: goes FIRST, ahead of the names: the tables' words, and 'selects' of the private methods out of them =====
/-- a private method of a class that the tables say can be made, by its rows of tables_1 -/
def lw_okq (q : MethodName × Nat) : Prop := (q.1.cls ≠ "java/lang/invoke/MethodHandle" ∧ q.1.cls ≠ "java/lang/invoke/VarHandle") ∧ Cond.instantiable q.1.cls q.2 ∈ tables_1 ∧ Cond.privateMethod q.1 ∈ tables_1 ∧ Cond.instanceMethod q.1 ∈ tables_1
theorem lw_p0 : lw_okq (⟨"CurveOrders", "renumber", "()V"⟩, 7) := ⟨⟨by decide +kernel, by decide +kernel⟩, List.mem_of_getElem? (i := 15) (by decide +kernel), List.mem_of_getElem? (i := 221) (by decide +kernel), List.mem_of_getElem? (i := 222) (by decide +kernel)⟩
theorem lw_p1 : lw_okq (⟨"CurveOrders$Numbering", "divideSquares", "(II[I)V"⟩, 4) := ⟨⟨by decide +kernel, by decide +kernel⟩, List.mem_of_getElem? (i := 150) (by decide +kernel), List.mem_of_getElem? (i := 236) (by decide +kernel), List.mem_of_getElem? (i := 237) (by decide +kernel)⟩
theorem lw_p2 : lw_okq (⟨"CurveOrders", "redivide", "()V"⟩, 7) := ⟨⟨by decide +kernel, by decide +kernel⟩, List.mem_of_getElem? (i := 15) (by decide +kernel), List.mem_of_getElem? (i := 256) (by decide +kernel), List.mem_of_getElem? (i := 257) (by decide +kernel)⟩
theorem lw_p3 : lw_okq (⟨"CurveOrders$PointSet", "indexOfPoint", "(ILCurveOrders$Numbering;)I"⟩, 2) := ⟨⟨by decide +kernel, by decide +kernel⟩, List.mem_of_getElem? (i := 74) (by decide +kernel), List.mem_of_getElem? (i := 272) (by decide +kernel), List.mem_of_getElem? (i := 273) (by decide +kernel)⟩
theorem lw_p4 : lw_okq (⟨"CurveOrders$Text", "findFaultOfForm", "()I"⟩, 2) := ⟨⟨by decide +kernel, by decide +kernel⟩, List.mem_of_getElem? (i := 135) (by decide +kernel), List.mem_of_getElem? (i := 390) (by decide +kernel), List.mem_of_getElem? (i := 391) (by decide +kernel)⟩
theorem lw_p5 : lw_okq (⟨"CurveOrders$Text", "fitsForm", "(I)Z"⟩, 2) := ⟨⟨by decide +kernel, by decide +kernel⟩, List.mem_of_getElem? (i := 135) (by decide +kernel), List.mem_of_getElem? (i := 394) (by decide +kernel), List.mem_of_getElem? (i := 395) (by decide +kernel)⟩
theorem lw_p6 : lw_okq (⟨"CurveOrders$Text", "isToldBefore", "(II)Z"⟩, 2) := ⟨⟨by decide +kernel, by decide +kernel⟩, List.mem_of_getElem? (i := 135) (by decide +kernel), List.mem_of_getElem? (i := 398) (by decide +kernel), List.mem_of_getElem? (i := 399) (by decide +kernel)⟩
theorem lw_p7 : lw_okq (⟨"CurveOrders$Text", "findUnknownState", "()I"⟩, 2) := ⟨⟨by decide +kernel, by decide +kernel⟩, List.mem_of_getElem? (i := 135) (by decide +kernel), List.mem_of_getElem? (i := 402) (by decide +kernel), List.mem_of_getElem? (i := 403) (by decide +kernel)⟩
theorem lw_p8 : lw_okq (⟨"CurveOrders$Cover", "countJoined", "(I)I"⟩, 3) := ⟨⟨by decide +kernel, by decide +kernel⟩, List.mem_of_getElem? (i := 173) (by decide +kernel), List.mem_of_getElem? (i := 445) (by decide +kernel), List.mem_of_getElem? (i := 446) (by decide +kernel)⟩
theorem lw_p9 : lw_okq (⟨"CurveOrders$Cover", "findLongestJoined", "(I)I"⟩, 3) := ⟨⟨by decide +kernel, by decide +kernel⟩, List.mem_of_getElem? (i := 173) (by decide +kernel), List.mem_of_getElem? (i := 450) (by decide +kernel), List.mem_of_getElem? (i := 451) (by decide +kernel)⟩
theorem lw_p10 : lw_okq (⟨"CurveOrders$Cover", "countGapsUpTo", "(I)I"⟩, 3) := ⟨⟨by decide +kernel, by decide +kernel⟩, List.mem_of_getElem? (i := 173) (by decide +kernel), List.mem_of_getElem? (i := 454) (by decide +kernel), List.mem_of_getElem? (i := 455) (by decide +kernel)⟩
theorem lw_p11 : lw_okq (⟨"CurveOrders$Cover", "gapBehind", "(I)I"⟩, 3) := ⟨⟨by decide +kernel, by decide +kernel⟩, List.mem_of_getElem? (i := 173) (by decide +kernel), List.mem_of_getElem? (i := 458) (by decide +kernel), List.mem_of_getElem? (i := 459) (by decide +kernel)⟩
theorem lw_p12 : lw_okq (⟨"CurveOrders$Numbering", "countRectangles", "(IIII)I"⟩, 4) := ⟨⟨by decide +kernel, by decide +kernel⟩, List.mem_of_getElem? (i := 150) (by decide +kernel), List.mem_of_getElem? (i := 481) (by decide +kernel), List.mem_of_getElem? (i := 482) (by decide +kernel)⟩
theorem lw_p13 : lw_okq (⟨"CurveOrders$Numbering", "countPlaces", "(III)I"⟩, 4) := ⟨⟨by decide +kernel, by decide +kernel⟩, List.mem_of_getElem? (i := 150) (by decide +kernel), List.mem_of_getElem? (i := 485) (by decide +kernel), List.mem_of_getElem? (i := 486) (by decide +kernel)⟩
theorem lw_p14 : lw_okq (⟨"CurveOrders", "isLeaf", "(I)Z"⟩, 7) := ⟨⟨by decide +kernel, by decide +kernel⟩, List.mem_of_getElem? (i := 15) (by decide +kernel), List.mem_of_getElem? (i := 536) (by decide +kernel), List.mem_of_getElem? (i := 537) (by decide +kernel)⟩
theorem lw_p15 : lw_okq (⟨"CurveOrders$Surroundings", "insert", "(I)V"⟩, 4) := ⟨⟨by decide +kernel, by decide +kernel⟩, List.mem_of_getElem? (i := 192) (by decide +kernel), List.mem_of_getElem? (i := 583) (by decide +kernel), List.mem_of_getElem? (i := 584) (by decide +kernel)⟩
def lw_privs_1 : List (MethodName × Nat) := [(⟨"CurveOrders", "renumber", "()V"⟩, 7), (⟨"CurveOrders$Numbering", "divideSquares", "(II[I)V"⟩, 4), (⟨"CurveOrders", "redivide", "()V"⟩, 7), (⟨"CurveOrders$PointSet", "indexOfPoint", "(ILCurveOrders$Numbering;)I"⟩, 2), (⟨"CurveOrders$Text", "findFaultOfForm", "()I"⟩, 2), (⟨"CurveOrders$Text", "fitsForm", "(I)Z"⟩, 2), (⟨"CurveOrders$Text", "isToldBefore", "(II)Z"⟩, 2), (⟨"CurveOrders$Text", "findUnknownState", "()I"⟩, 2), (⟨"CurveOrders$Cover", "countJoined", "(I)I"⟩, 3), (⟨"CurveOrders$Cover", "findLongestJoined", "(I)I"⟩, 3), (⟨"CurveOrders$Cover", "countGapsUpTo", "(I)I"⟩, 3), (⟨"CurveOrders$Cover", "gapBehind", "(I)I"⟩, 3), (⟨"CurveOrders$Numbering", "countRectangles", "(IIII)I"⟩, 4), (⟨"CurveOrders$Numbering", "countPlaces", "(III)I"⟩, 4), (⟨"CurveOrders", "isLeaf", "(I)Z"⟩, 7), (⟨"CurveOrders$Surroundings", "insert", "(I)V"⟩, 4)]
theorem lw_r1 : ∀ q ∈ lw_privs_1, lw_okq q := List.forall_mem_cons.mpr ⟨lw_p0, List.forall_mem_cons.mpr ⟨lw_p1, List.forall_mem_cons.mpr ⟨lw_p2, List.forall_mem_cons.mpr ⟨lw_p3, List.forall_mem_cons.mpr ⟨lw_p4, List.forall_mem_cons.mpr ⟨lw_p5, List.forall_mem_cons.mpr ⟨lw_p6, List.forall_mem_cons.mpr ⟨lw_p7, List.forall_mem_cons.mpr ⟨lw_p8, List.forall_mem_cons.mpr ⟨lw_p9, List.forall_mem_cons.mpr ⟨lw_p10, List.forall_mem_cons.mpr ⟨lw_p11, List.forall_mem_cons.mpr ⟨lw_p12, List.forall_mem_cons.mpr ⟨lw_p13, List.forall_mem_cons.mpr ⟨lw_p14, List.forall_mem_cons.mpr ⟨lw_p15, fun _ h => absurd h List.not_mem_nil⟩⟩⟩⟩⟩⟩⟩⟩⟩⟩⟩⟩⟩⟩⟩⟩
theorem lw_p16 : lw_okq (⟨"CurveOrders$Surroundings", "isTooLarge", "(I)Z"⟩, 4) := ⟨⟨by decide +kernel, by decide +kernel⟩, List.mem_of_getElem? (i := 192) (by decide +kernel), List.mem_of_getElem? (i := 601) (by decide +kernel), List.mem_of_getElem? (i := 602) (by decide +kernel)⟩
theorem lw_p17 : lw_okq (⟨"CurveOrders$Surroundings", "findLowestAround", "(I)I"⟩, 4) := ⟨⟨by decide +kernel, by decide +kernel⟩, List.mem_of_getElem? (i := 192) (by decide +kernel), List.mem_of_getElem? (i := 606) (by decide +kernel), List.mem_of_getElem? (i := 607) (by decide +kernel)⟩
theorem lw_p18 : lw_okq (⟨"CurveOrders$Surroundings", "findLowest", "(II)I"⟩, 4) := ⟨⟨by decide +kernel, by decide +kernel⟩, List.mem_of_getElem? (i := 192) (by decide +kernel), List.mem_of_getElem? (i := 610) (by decide +kernel), List.mem_of_getElem? (i := 611) (by decide +kernel)⟩
theorem lw_p19 : lw_okq (⟨"CurveOrders", "sumCurve", "(J)J"⟩, 7) := ⟨⟨by decide +kernel, by decide +kernel⟩, List.mem_of_getElem? (i := 15) (by decide +kernel), List.mem_of_getElem? (i := 664) (by decide +kernel), List.mem_of_getElem? (i := 665) (by decide +kernel)⟩
theorem lw_p20 : lw_okq (⟨"CurveOrders", "sumIntervals", "(J)J"⟩, 7) := ⟨⟨by decide +kernel, by decide +kernel⟩, List.mem_of_getElem? (i := 15) (by decide +kernel), List.mem_of_getElem? (i := 676) (by decide +kernel), List.mem_of_getElem? (i := 677) (by decide +kernel)⟩
theorem lw_p21 : lw_okq (⟨"CurveOrders", "sumLeaves", "(J)J"⟩, 7) := ⟨⟨by decide +kernel, by decide +kernel⟩, List.mem_of_getElem? (i := 15) (by decide +kernel), List.mem_of_getElem? (i := 682) (by decide +kernel), List.mem_of_getElem? (i := 683) (by decide +kernel)⟩
theorem lw_p22 : lw_okq (⟨"CurveOrdersModel", "hilbert", "(III)V"⟩, 29) := ⟨⟨by decide +kernel, by decide +kernel⟩, List.mem_of_getElem? (i := 689) (by decide +kernel), List.mem_of_getElem? (i := 695) (by decide +kernel), List.mem_of_getElem? (i := 696) (by decide +kernel)⟩
theorem lw_p23 : lw_okq (⟨"CurveOrdersModel", "numbers", "()V"⟩, 29) := ⟨⟨by decide +kernel, by decide +kernel⟩, List.mem_of_getElem? (i := 689) (by decide +kernel), List.mem_of_getElem? (i := 699) (by decide +kernel), List.mem_of_getElem? (i := 700) (by decide +kernel)⟩
theorem lw_p24 : lw_okq (⟨"CurveOrdersModel", "all", "()I"⟩, 29) := ⟨⟨by decide +kernel, by decide +kernel⟩, List.mem_of_getElem? (i := 689) (by decide +kernel), List.mem_of_getElem? (i := 703) (by decide +kernel), List.mem_of_getElem? (i := 704) (by decide +kernel)⟩
theorem lw_p25 : lw_okq (⟨"CurveOrdersModel", "quarter", "(II)I"⟩, 29) := ⟨⟨by decide +kernel, by decide +kernel⟩, List.mem_of_getElem? (i := 689) (by decide +kernel), List.mem_of_getElem? (i := 707) (by decide +kernel), List.mem_of_getElem? (i := 708) (by decide +kernel)⟩
theorem lw_p26 : lw_okq (⟨"CurveOrdersModel", "stateFor", "(II)I"⟩, 29) := ⟨⟨by decide +kernel, by decide +kernel⟩, List.mem_of_getElem? (i := 689) (by decide +kernel), List.mem_of_getElem? (i := 711) (by decide +kernel), List.mem_of_getElem? (i := 712) (by decide +kernel)⟩
theorem lw_p27 : lw_okq (⟨"CurveOrdersModel", "divides", "()V"⟩, 29) := ⟨⟨by decide +kernel, by decide +kernel⟩, List.mem_of_getElem? (i := 689) (by decide +kernel), List.mem_of_getElem? (i := 715) (by decide +kernel), List.mem_of_getElem? (i := 716) (by decide +kernel)⟩
theorem lw_p28 : lw_okq (⟨"CurveOrdersModel", "pointsIn", "(II)I"⟩, 29) := ⟨⟨by decide +kernel, by decide +kernel⟩, List.mem_of_getElem? (i := 689) (by decide +kernel), List.mem_of_getElem? (i := 719) (by decide +kernel), List.mem_of_getElem? (i := 720) (by decide +kernel)⟩
theorem lw_p29 : lw_okq (⟨"CurveOrdersModel", "maps", "()V"⟩, 29) := ⟨⟨by decide +kernel, by decide +kernel⟩, List.mem_of_getElem? (i := 689) (by decide +kernel), List.mem_of_getElem? (i := 723) (by decide +kernel), List.mem_of_getElem? (i := 724) (by decide +kernel)⟩
theorem lw_p30 : lw_okq (⟨"CurveOrdersModel", "side", "()I"⟩, 29) := ⟨⟨by decide +kernel, by decide +kernel⟩, List.mem_of_getElem? (i := 689) (by decide +kernel), List.mem_of_getElem? (i := 822) (by decide +kernel), List.mem_of_getElem? (i := 823) (by decide +kernel)⟩
theorem lw_p31 : lw_okq (⟨"CurveOrdersModel", "isCell", "(II)Z"⟩, 29) := ⟨⟨by decide +kernel, by decide +kernel⟩, List.mem_of_getElem? (i := 689) (by decide +kernel), List.mem_of_getElem? (i := 842) (by decide +kernel), List.mem_of_getElem? (i := 843) (by decide +kernel)⟩
def lw_privs_2 : List (MethodName × Nat) := [(⟨"CurveOrders$Surroundings", "isTooLarge", "(I)Z"⟩, 4), (⟨"CurveOrders$Surroundings", "findLowestAround", "(I)I"⟩, 4), (⟨"CurveOrders$Surroundings", "findLowest", "(II)I"⟩, 4), (⟨"CurveOrders", "sumCurve", "(J)J"⟩, 7), (⟨"CurveOrders", "sumIntervals", "(J)J"⟩, 7), (⟨"CurveOrders", "sumLeaves", "(J)J"⟩, 7), (⟨"CurveOrdersModel", "hilbert", "(III)V"⟩, 29), (⟨"CurveOrdersModel", "numbers", "()V"⟩, 29), (⟨"CurveOrdersModel", "all", "()I"⟩, 29), (⟨"CurveOrdersModel", "quarter", "(II)I"⟩, 29), (⟨"CurveOrdersModel", "stateFor", "(II)I"⟩, 29), (⟨"CurveOrdersModel", "divides", "()V"⟩, 29), (⟨"CurveOrdersModel", "pointsIn", "(II)I"⟩, 29), (⟨"CurveOrdersModel", "maps", "()V"⟩, 29), (⟨"CurveOrdersModel", "side", "()I"⟩, 29), (⟨"CurveOrdersModel", "isCell", "(II)Z"⟩, 29)]
theorem lw_r2 : ∀ q ∈ lw_privs_2, lw_okq q := List.forall_mem_cons.mpr ⟨lw_p16, List.forall_mem_cons.mpr ⟨lw_p17, List.forall_mem_cons.mpr ⟨lw_p18, List.forall_mem_cons.mpr ⟨lw_p19, List.forall_mem_cons.mpr ⟨lw_p20, List.forall_mem_cons.mpr ⟨lw_p21, List.forall_mem_cons.mpr ⟨lw_p22, List.forall_mem_cons.mpr ⟨lw_p23, List.forall_mem_cons.mpr ⟨lw_p24, List.forall_mem_cons.mpr ⟨lw_p25, List.forall_mem_cons.mpr ⟨lw_p26, List.forall_mem_cons.mpr ⟨lw_p27, List.forall_mem_cons.mpr ⟨lw_p28, List.forall_mem_cons.mpr ⟨lw_p29, List.forall_mem_cons.mpr ⟨lw_p30, List.forall_mem_cons.mpr ⟨lw_p31, fun _ h => absurd h List.not_mem_nil⟩⟩⟩⟩⟩⟩⟩⟩⟩⟩⟩⟩⟩⟩⟩⟩
theorem lw_p32 : lw_okq (⟨"CurveOrdersModel", "breaksNow", "()I"⟩, 29) := ⟨⟨by decide +kernel, by decide +kernel⟩, List.mem_of_getElem? (i := 689) (by decide +kernel), List.mem_of_getElem? (i := 854) (by decide +kernel), List.mem_of_getElem? (i := 855) (by decide +kernel)⟩
theorem lw_p33 : lw_okq (⟨"CurveOrdersModel", "stretchNow", "()I"⟩, 29) := ⟨⟨by decide +kernel, by decide +kernel⟩, List.mem_of_getElem? (i := 689) (by decide +kernel), List.mem_of_getElem? (i := 868) (by decide +kernel), List.mem_of_getElem? (i := 869) (by decide +kernel)⟩
theorem lw_p34 : lw_okq (⟨"CurveOrdersModel", "fault", "()I"⟩, 29) := ⟨⟨by decide +kernel, by decide +kernel⟩, List.mem_of_getElem? (i := 689) (by decide +kernel), List.mem_of_getElem? (i := 884) (by decide +kernel), List.mem_of_getElem? (i := 885) (by decide +kernel)⟩
theorem lw_p35 : lw_okq (⟨"CurveOrdersModel", "isWell", "(I)Z"⟩, 29) := ⟨⟨by decide +kernel, by decide +kernel⟩, List.mem_of_getElem? (i := 689) (by decide +kernel), List.mem_of_getElem? (i := 888) (by decide +kernel), List.mem_of_getElem? (i := 889) (by decide +kernel)⟩
theorem lw_p36 : lw_okq (⟨"CurveOrdersModel", "findIntervals", "()V"⟩, 29) := ⟨⟨by decide +kernel, by decide +kernel⟩, List.mem_of_getElem? (i := 689) (by decide +kernel), List.mem_of_getElem? (i := 904) (by decide +kernel), List.mem_of_getElem? (i := 905) (by decide +kernel)⟩
theorem lw_p37 : lw_okq (⟨"CurveOrdersModel", "isInRange", "(I)Z"⟩, 29) := ⟨⟨by decide +kernel, by decide +kernel⟩, List.mem_of_getElem? (i := 689) (by decide +kernel), List.mem_of_getElem? (i := 908) (by decide +kernel), List.mem_of_getElem? (i := 909) (by decide +kernel)⟩
theorem lw_p38 : lw_okq (⟨"CurveOrdersModel", "joins", "(I)I"⟩, 29) := ⟨⟨by decide +kernel, by decide +kernel⟩, List.mem_of_getElem? (i := 689) (by decide +kernel), List.mem_of_getElem? (i := 920) (by decide +kernel), List.mem_of_getElem? (i := 921) (by decide +kernel)⟩
theorem lw_p39 : lw_okq (⟨"CurveOrdersModel", "places", "(III)I"⟩, 29) := ⟨⟨by decide +kernel, by decide +kernel⟩, List.mem_of_getElem? (i := 689) (by decide +kernel), List.mem_of_getElem? (i := 932) (by decide +kernel), List.mem_of_getElem? (i := 933) (by decide +kernel)⟩
theorem lw_p40 : lw_okq (⟨"CurveOrdersModel", "pointAt", "(II)I"⟩, 29) := ⟨⟨by decide +kernel, by decide +kernel⟩, List.mem_of_getElem? (i := 689) (by decide +kernel), List.mem_of_getElem? (i := 940) (by decide +kernel), List.mem_of_getElem? (i := 941) (by decide +kernel)⟩
theorem lw_p41 : lw_okq (⟨"CurveOrdersModel", "isLeaf", "(I)Z"⟩, 29) := ⟨⟨by decide +kernel, by decide +kernel⟩, List.mem_of_getElem? (i := 689) (by decide +kernel), List.mem_of_getElem? (i := 968) (by decide +kernel), List.mem_of_getElem? (i := 969) (by decide +kernel)⟩
theorem lw_p42 : lw_okq (⟨"CurveOrdersModel", "tells", "(II)I"⟩, 29) := ⟨⟨by decide +kernel, by decide +kernel⟩, List.mem_of_getElem? (i := 689) (by decide +kernel), List.mem_of_getElem? (i := 972) (by decide +kernel), List.mem_of_getElem? (i := 973) (by decide +kernel)⟩
theorem lw_p43 : lw_okq (⟨"CurveOrdersModel", "leftOf", "(I)I"⟩, 29) := ⟨⟨by decide +kernel, by decide +kernel⟩, List.mem_of_getElem? (i := 689) (by decide +kernel), List.mem_of_getElem? (i := 976) (by decide +kernel), List.mem_of_getElem? (i := 977) (by decide +kernel)⟩
theorem lw_p44 : lw_okq (⟨"CurveOrdersModel", "belowOf", "(I)I"⟩, 29) := ⟨⟨by decide +kernel, by decide +kernel⟩, List.mem_of_getElem? (i := 689) (by decide +kernel), List.mem_of_getElem? (i := 980) (by decide +kernel), List.mem_of_getElem? (i := 981) (by decide +kernel)⟩
theorem lw_p45 : lw_okq (⟨"CurveOrdersModel", "findBeside", "(II)V"⟩, 29) := ⟨⟨by decide +kernel, by decide +kernel⟩, List.mem_of_getElem? (i := 689) (by decide +kernel), List.mem_of_getElem? (i := 992) (by decide +kernel), List.mem_of_getElem? (i := 993) (by decide +kernel)⟩
theorem lw_p46 : lw_okq (⟨"CurveOrdersModel", "comesBeside", "(I)V"⟩, 29) := ⟨⟨by decide +kernel, by decide +kernel⟩, List.mem_of_getElem? (i := 689) (by decide +kernel), List.mem_of_getElem? (i := 996) (by decide +kernel), List.mem_of_getElem? (i := 997) (by decide +kernel)⟩
theorem lw_p47 : lw_okq (⟨"CurveOrdersModel", "isUnlike", "(I)Z"⟩, 29) := ⟨⟨by decide +kernel, by decide +kernel⟩, List.mem_of_getElem? (i := 689) (by decide +kernel), List.mem_of_getElem? (i := 1008) (by decide +kernel), List.mem_of_getElem? (i := 1009) (by decide +kernel)⟩
def lw_privs_3 : List (MethodName × Nat) := [(⟨"CurveOrdersModel", "breaksNow", "()I"⟩, 29), (⟨"CurveOrdersModel", "stretchNow", "()I"⟩, 29), (⟨"CurveOrdersModel", "fault", "()I"⟩, 29), (⟨"CurveOrdersModel", "isWell", "(I)Z"⟩, 29), (⟨"CurveOrdersModel", "findIntervals", "()V"⟩, 29), (⟨"CurveOrdersModel", "isInRange", "(I)Z"⟩, 29), (⟨"CurveOrdersModel", "joins", "(I)I"⟩, 29), (⟨"CurveOrdersModel", "places", "(III)I"⟩, 29), (⟨"CurveOrdersModel", "pointAt", "(II)I"⟩, 29), (⟨"CurveOrdersModel", "isLeaf", "(I)Z"⟩, 29), (⟨"CurveOrdersModel", "tells", "(II)I"⟩, 29), (⟨"CurveOrdersModel", "leftOf", "(I)I"⟩, 29), (⟨"CurveOrdersModel", "belowOf", "(I)I"⟩, 29), (⟨"CurveOrdersModel", "findBeside", "(II)V"⟩, 29), (⟨"CurveOrdersModel", "comesBeside", "(I)V"⟩, 29), (⟨"CurveOrdersModel", "isUnlike", "(I)Z"⟩, 29)]
theorem lw_r3 : ∀ q ∈ lw_privs_3, lw_okq q := List.forall_mem_cons.mpr ⟨lw_p32, List.forall_mem_cons.mpr ⟨lw_p33, List.forall_mem_cons.mpr ⟨lw_p34, List.forall_mem_cons.mpr ⟨lw_p35, List.forall_mem_cons.mpr ⟨lw_p36, List.forall_mem_cons.mpr ⟨lw_p37, List.forall_mem_cons.mpr ⟨lw_p38, List.forall_mem_cons.mpr ⟨lw_p39, List.forall_mem_cons.mpr ⟨lw_p40, List.forall_mem_cons.mpr ⟨lw_p41, List.forall_mem_cons.mpr ⟨lw_p42, List.forall_mem_cons.mpr ⟨lw_p43, List.forall_mem_cons.mpr ⟨lw_p44, List.forall_mem_cons.mpr ⟨lw_p45, List.forall_mem_cons.mpr ⟨lw_p46, List.forall_mem_cons.mpr ⟨lw_p47, fun _ h => absurd h List.not_mem_nil⟩⟩⟩⟩⟩⟩⟩⟩⟩⟩⟩⟩⟩⟩⟩⟩
theorem lw_p48 : lw_okq (⟨"CurveOrdersModel", "quarters", "(I)V"⟩, 29) := ⟨⟨by decide +kernel, by decide +kernel⟩, List.mem_of_getElem? (i := 689) (by decide +kernel), List.mem_of_getElem? (i := 1012) (by decide +kernel), List.mem_of_getElem? (i := 1013) (by decide +kernel)⟩
def lw_privs_4 : List (MethodName × Nat) := [(⟨"CurveOrdersModel", "quarters", "(I)V"⟩, 29)]
theorem lw_r4 : ∀ q ∈ lw_privs_4, lw_okq q := List.forall_mem_cons.mpr ⟨lw_p48, fun _ h => absurd h List.not_mem_nil⟩
def lw_privs : List (MethodName × Nat) := lw_privs_1 ++ (lw_privs_2 ++ (lw_privs_3 ++ (lw_privs_4)))
def lw_tbl : List Cond := k2_sels lw_privs ++ tables_1
theorem lw_privs_ok : ∀ q ∈ lw_privs, lw_okq q := by
  show ∀ q ∈ lw_privs_1 ++ (lw_privs_2 ++ (lw_privs_3 ++ (lw_privs_4))), lw_okq q
  exact List.forall_mem_append.mpr ⟨lw_r1, List.forall_mem_append.mpr ⟨lw_r2, List.forall_mem_append.mpr ⟨lw_r3, lw_r4⟩⟩⟩
end
section
/-! ===== BEGIN words of one list among another's, by their places ===== -/
theorem goodIn_r {big : List Cond} (ws : List Cond) (ps : List Nat) (hp : ws = ps.filterMap (fun i => big[i]?)) (h : ws.all goodWord = true) : GoodIn big ws := by
  intro w hw
  have h1 := List.all_eq_true.mp h w hw
  rw [hp] at hw
  obtain ⟨i, -, hi⟩ := List.mem_filterMap.mp hw
  have hm : w ∈ big := by first | exact List.mem_of_getElem? hi | exact List.getElem?_mem hi
  exact ⟨hm, good_of_word h1⟩
theorem goodIn_app {big a b : List Cond} (ha : GoodIn big a) (hb : GoodIn big b) : GoodIn big (a ++ b) := fun w h => (List.mem_append.mp h).elim (ha w) (hb w)
theorem goodIn_ca {big a b : List Cond} {c : Cond} (ha : GoodIn big (c :: a)) (hb : GoodIn big b) : GoodIn big (c :: (a ++ b)) := fun w h => (List.mem_cons.mp h).elim (fun e => ha w (List.mem_cons.mpr (Or.inl e))) (fun h => (List.mem_append.mp h).elim (fun h => ha w (List.mem_cons.mpr (Or.inr h))) (hb w))
theorem goodIn_sub {big ws : List Cond} (hm : ∀ w ∈ ws, w ∈ big) (h : ws.all goodWord = true) : GoodIn big ws := fun w hw => ⟨hm w hw, good_of_word (List.all_eq_true.mp h w hw)⟩
/-! ===== END ===== -/

/-! ===== BEGIN printed: names, fields, word lists, decode rows ===== -/
def RX0 : String := "CurveOrders$Cover"
def TX0 : u_T := fun k => match k with
  | 0 => ("CurveOrders$Cover", "count", "I", false)
  | 1 => ("CurveOrders$Cover", "first", "[I", true)
  | _ => ("CurveOrders$Cover", "last", "[I", true)
def tyX0 : Nat → FieldType := fun k => match k with
  | 0 => .int
  | 1 => .array .int
  | _ => .array .int
abbrev wsX00 : List Cond := u_ws RX0 TX0 3
theorem nmX0 : ∀ a, a < 3 → ∀ b, b < 3 → a ≠ b → (TX0 a).2.1 ≠ (TX0 b).2.1 := by decide +kernel
theorem tyX0_ok : ∀ k, k < 3 → parseFieldDescriptor (TX0 k).2.2.1 = some (tyX0 k) := by decide +kernel
abbrev cX0_init : ByteArray := prog_2_method_1_code
def yX0_init : MethodName := ⟨RX0, "<init>", "()V"⟩
abbrev cX0_fill : ByteArray := prog_2_method_2_code
def yX0_fill : MethodName := ⟨RX0, "fill", "(LCurveOrders$Numbering;LCurveOrders$Rectangle;)V"⟩
abbrev cX0_gapBehind : ByteArray := prog_2_method_3_code
def yX0_gapBehind : MethodName := ⟨RX0, "gapBehind", "(I)I"⟩
abbrev cX0_countGapsUpTo : ByteArray := prog_2_method_4_code
def yX0_countGapsUpTo : MethodName := ⟨RX0, "countGapsUpTo", "(I)I"⟩
abbrev cX0_countJoined : ByteArray := prog_2_method_5_code
def yX0_countJoined : MethodName := ⟨RX0, "countJoined", "(I)I"⟩
abbrev cX0_findLongestJoined : ByteArray := prog_2_method_6_code
def yX0_findLongestJoined : MethodName := ⟨RX0, "findLongestJoined", "(I)I"⟩
abbrev cX0_cellsOfJoinedGaps : ByteArray := prog_2_method_7_code
def yX0_cellsOfJoinedGaps : MethodName := ⟨RX0, "cellsOfJoinedGaps", "(I)I"⟩
abbrev cX0_endOfJoined : ByteArray := prog_2_method_8_code
def yX0_endOfJoined : MethodName := ⟨RX0, "endOfJoined", "(IIZ)I"⟩
def RX1 : String := "CurveOrders$Division"
def TX1 : u_T := fun k => match k with
  | 0 => ("CurveOrders$Division", "count", "I", false)
  | _ => ("CurveOrders$Division", "starts", "[I", true)
def tyX1 : Nat → FieldType := fun k => match k with
  | 0 => .int
  | _ => .array .int
abbrev wsX10 : List Cond := u_ws RX1 TX1 2
theorem nmX1 : ∀ a, a < 2 → ∀ b, b < 2 → a ≠ b → (TX1 a).2.1 ≠ (TX1 b).2.1 := by decide +kernel
theorem tyX1_ok : ∀ k, k < 2 → parseFieldDescriptor (TX1 k).2.2.1 = some (tyX1 k) := by decide +kernel
abbrev cX1_init : ByteArray := prog_3_method_1_code
def yX1_init : MethodName := ⟨RX1, "<init>", "()V"⟩
abbrev cX1_fill : ByteArray := prog_3_method_2_code
def yX1_fill : MethodName := ⟨RX1, "fill", "(LCurveOrders$Numbering;LCurveOrders$PointSet;I)V"⟩
abbrev cX1_divide : ByteArray := prog_3_method_3_code
def yX1_divide : MethodName := ⟨RX1, "divide", "(I)Z"⟩
abbrev cX1_sideOf : ByteArray := prog_3_method_4_code
def yX1_sideOf : MethodName := ⟨RX1, "sideOf", "(I)I"⟩
abbrev cX1_countPoints : ByteArray := prog_3_method_5_code
def yX1_countPoints : MethodName := ⟨RX1, "countPoints", "(ILCurveOrders$Numbering;LCurveOrders$PointSet;)I"⟩
abbrev cX1_leafOfIndex : ByteArray := prog_3_method_6_code
def yX1_leafOfIndex : MethodName := ⟨RX1, "leafOfIndex", "(I)I"⟩
abbrev cX1_copyFrom : ByteArray := prog_3_method_7_code
def yX1_copyFrom : MethodName := ⟨RX1, "copyFrom", "(LCurveOrders$Division;)V"⟩
def RX2 : String := "CurveOrders$Numbering"
def TX2 : u_T := fun k => match k with
  | 0 => ("CurveOrders$Numbering", "side", "I", false)
  | 1 => ("CurveOrders$Numbering", "cells", "I", false)
  | 2 => ("CurveOrders$Numbering", "cellOfIndex", "[I", true)
  | _ => ("CurveOrders$Numbering", "indexOfCell", "[I", true)
def tyX2 : Nat → FieldType := fun k => match k with
  | 0 => .int
  | 1 => .int
  | 2 => .array .int
  | _ => .array .int
abbrev wsX20 : List Cond := u_ws RX2 TX2 4
theorem nmX2 : ∀ a, a < 4 → ∀ b, b < 4 → a ≠ b → (TX2 a).2.1 ≠ (TX2 b).2.1 := by decide +kernel
theorem tyX2_ok : ∀ k, k < 4 → parseFieldDescriptor (TX2 k).2.2.1 = some (tyX2 k) := by decide +kernel
abbrev cX2_init : ByteArray := prog_4_method_1_code
def yX2_init : MethodName := ⟨RX2, "<init>", "()V"⟩
abbrev cX2_fill : ByteArray := prog_4_method_2_code
def yX2_fill : MethodName := ⟨RX2, "fill", "(I[I)V"⟩
abbrev cX2_divideSquares : ByteArray := prog_4_method_3_code
def yX2_divideSquares : MethodName := ⟨RX2, "divideSquares", "(II[I)V"⟩
abbrev cX2_holds : ByteArray := prog_4_method_4_code
def yX2_holds : MethodName := ⟨RX2, "holds", "(II)Z"⟩
abbrev cX2_indexOf : ByteArray := prog_4_method_5_code
def yX2_indexOf : MethodName := ⟨RX2, "indexOf", "(II)I"⟩
abbrev cX2_xAt : ByteArray := prog_4_method_6_code
def yX2_xAt : MethodName := ⟨RX2, "xAt", "(I)I"⟩
abbrev cX2_yAt : ByteArray := prog_4_method_7_code
def yX2_yAt : MethodName := ⟨RX2, "yAt", "(I)I"⟩
abbrev cX2_countBreaks : ByteArray := prog_4_method_8_code
def yX2_countBreaks : MethodName := ⟨RX2, "countBreaks", "()I"⟩
abbrev cX2_greatestDifference : ByteArray := prog_4_method_9_code
def yX2_greatestDifference : MethodName := ⟨RX2, "greatestDifference", "()I"⟩
abbrev cX2_countIntervalsOfAll : ByteArray := prog_4_method_10_code
def yX2_countIntervalsOfAll : MethodName := ⟨RX2, "countIntervalsOfAll", "(II)I"⟩
abbrev cX2_countRectangles : ByteArray := prog_4_method_11_code
def yX2_countRectangles : MethodName := ⟨RX2, "countRectangles", "(IIII)I"⟩
abbrev cX2_countPlaces : ByteArray := prog_4_method_12_code
def yX2_countPlaces : MethodName := ⟨RX2, "countPlaces", "(III)I"⟩
def RX3 : String := "CurveOrders$PointSet"
def TX3 : u_T := fun k => match k with
  | 0 => ("CurveOrders$PointSet", "count", "I", false)
  | _ => ("CurveOrders$PointSet", "cells", "[I", true)
def tyX3 : Nat → FieldType := fun k => match k with
  | 0 => .int
  | _ => .array .int
abbrev wsX30 : List Cond := u_ws RX3 TX3 2
theorem nmX3 : ∀ a, a < 2 → ∀ b, b < 2 → a ≠ b → (TX3 a).2.1 ≠ (TX3 b).2.1 := by decide +kernel
theorem tyX3_ok : ∀ k, k < 2 → parseFieldDescriptor (TX3 k).2.2.1 = some (tyX3 k) := by decide +kernel
abbrev cX3_init : ByteArray := prog_5_method_1_code
def yX3_init : MethodName := ⟨RX3, "<init>", "()V"⟩
abbrev cX3_find : ByteArray := prog_5_method_2_code
def yX3_find : MethodName := ⟨RX3, "find", "(II)I"⟩
abbrev cX3_add : ByteArray := prog_5_method_3_code
def yX3_add : MethodName := ⟨RX3, "add", "(II)Z"⟩
abbrev cX3_remove : ByteArray := prog_5_method_4_code
def yX3_remove : MethodName := ⟨RX3, "remove", "(II)Z"⟩
abbrev cX3_removeAll : ByteArray := prog_5_method_5_code
def yX3_removeAll : MethodName := ⟨RX3, "removeAll", "()V"⟩
abbrev cX3_copyFrom : ByteArray := prog_5_method_6_code
def yX3_copyFrom : MethodName := ⟨RX3, "copyFrom", "(LCurveOrders$PointSet;)V"⟩
abbrev cX3_indexOfPoint : ByteArray := prog_5_method_7_code
def yX3_indexOfPoint : MethodName := ⟨RX3, "indexOfPoint", "(ILCurveOrders$Numbering;)I"⟩
abbrev cX3_countBetween : ByteArray := prog_5_method_8_code
def yX3_countBetween : MethodName := ⟨RX3, "countBetween", "(IILCurveOrders$Numbering;)I"⟩
abbrev cX3_findNearest : ByteArray := prog_5_method_9_code
def yX3_findNearest : MethodName := ⟨RX3, "findNearest", "(LCurveOrders$Numbering;I)I"⟩
def RX4 : String := "CurveOrders$Rectangle"
def TX4 : u_T := fun k => match k with
  | 0 => ("CurveOrders$Rectangle", "left", "I", false)
  | 1 => ("CurveOrders$Rectangle", "below", "I", false)
  | 2 => ("CurveOrders$Rectangle", "right", "I", false)
  | _ => ("CurveOrders$Rectangle", "above", "I", false)
def tyX4 : Nat → FieldType := fun k => match k with
  | 0 => .int
  | 1 => .int
  | 2 => .int
  | _ => .int
abbrev wsX40 : List Cond := u_ws RX4 TX4 4
theorem nmX4 : ∀ a, a < 4 → ∀ b, b < 4 → a ≠ b → (TX4 a).2.1 ≠ (TX4 b).2.1 := by decide +kernel
theorem tyX4_ok : ∀ k, k < 4 → parseFieldDescriptor (TX4 k).2.2.1 = some (tyX4 k) := by decide +kernel
abbrev cX4_init : ByteArray := prog_6_method_1_code
def yX4_init : MethodName := ⟨RX4, "<init>", "()V"⟩
abbrev cX4_setEdges : ByteArray := prog_6_method_2_code
def yX4_setEdges : MethodName := ⟨RX4, "setEdges", "(IIII)V"⟩
abbrev cX4_setWhole : ByteArray := prog_6_method_3_code
def yX4_setWhole : MethodName := ⟨RX4, "setWhole", "(I)V"⟩
abbrev cX4_holds : ByteArray := prog_6_method_4_code
def yX4_holds : MethodName := ⟨RX4, "holds", "(II)Z"⟩
def RX5 : String := "CurveOrders$Setup"
def TX5 : u_T := fun k => match k with
  | 0 => ("CurveOrders$Setup", "levels", "I", false)
  | 1 => ("CurveOrders$Setup", "curve", "I", false)
  | 2 => ("CurveOrders$Setup", "table", "LCurveOrders$StateTable;", true)
  | 3 => ("CurveOrders$Setup", "range", "LCurveOrders$Rectangle;", true)
  | 4 => ("CurveOrders$Setup", "points", "LCurveOrders$PointSet;", true)
  | 5 => ("CurveOrders$Setup", "bucket", "I", false)
  | _ => ("CurveOrders$Setup", "division", "LCurveOrders$Division;", true)
def tyX5 : Nat → FieldType := fun k => match k with
  | 0 => .int
  | 1 => .int
  | 2 => .object "CurveOrders$StateTable"
  | 3 => .object "CurveOrders$Rectangle"
  | 4 => .object "CurveOrders$PointSet"
  | 5 => .int
  | _ => .object "CurveOrders$Division"
abbrev wsX50 : List Cond := u_ws RX5 TX5 7
theorem nmX5 : ∀ a, a < 7 → ∀ b, b < 7 → a ≠ b → (TX5 a).2.1 ≠ (TX5 b).2.1 := by decide +kernel
theorem tyX5_ok : ∀ k, k < 7 → parseFieldDescriptor (TX5 k).2.2.1 = some (tyX5 k) := by decide +kernel
abbrev cX5_init : ByteArray := prog_7_method_1_code
def yX5_init : MethodName := ⟨RX5, "<init>", "()V"⟩
abbrev cX5_stateCount : ByteArray := prog_7_method_2_code
def yX5_stateCount : MethodName := ⟨RX5, "stateCount", "()I"⟩
abbrev cX5_visitsOfCurve : ByteArray := prog_7_method_3_code
def yX5_visitsOfCurve : MethodName := ⟨RX5, "visitsOfCurve", "()[I"⟩
abbrev cX5_copyFrom : ByteArray := prog_7_method_4_code
def yX5_copyFrom : MethodName := ⟨RX5, "copyFrom", "(LCurveOrders$Setup;)V"⟩
def RX6 : String := "CurveOrders$StateTable"
def TX6 : u_T := fun k => match k with
  | 0 => ("CurveOrders$StateTable", "count", "I", false)
  | _ => ("CurveOrders$StateTable", "visits", "[I", true)
def tyX6 : Nat → FieldType := fun k => match k with
  | 0 => .int
  | _ => .array .int
abbrev wsX60 : List Cond := u_ws RX6 TX6 2
theorem nmX6 : ∀ a, a < 2 → ∀ b, b < 2 → a ≠ b → (TX6 a).2.1 ≠ (TX6 b).2.1 := by decide +kernel
theorem tyX6_ok : ∀ k, k < 2 → parseFieldDescriptor (TX6 k).2.2.1 = some (tyX6 k) := by decide +kernel
abbrev cX6_init : ByteArray := prog_8_method_1_code
def yX6_init : MethodName := ⟨RX6, "<init>", "()V"⟩
abbrev cX6_takeFrom : ByteArray := prog_8_method_2_code
def yX6_takeFrom : MethodName := ⟨RX6, "takeFrom", "(LCurveOrders$Text;)V"⟩
abbrev cX6_copyFrom : ByteArray := prog_8_method_3_code
def yX6_copyFrom : MethodName := ⟨RX6, "copyFrom", "(LCurveOrders$StateTable;)V"⟩
def RX7 : String := "CurveOrders$Surroundings"
def TX7 : u_T := fun k => match k with
  | 0 => ("CurveOrders$Surroundings", "numbering", "LCurveOrders$Numbering;", true)
  | 1 => ("CurveOrders$Surroundings", "division", "LCurveOrders$Division;", true)
  | 2 => ("CurveOrders$Surroundings", "count", "I", false)
  | _ => ("CurveOrders$Surroundings", "found", "[I", true)
def tyX7 : Nat → FieldType := fun k => match k with
  | 0 => .object "CurveOrders$Numbering"
  | 1 => .object "CurveOrders$Division"
  | 2 => .int
  | _ => .array .int
abbrev wsX70 : List Cond := u_ws RX7 TX7 4
theorem nmX7 : ∀ a, a < 4 → ∀ b, b < 4 → a ≠ b → (TX7 a).2.1 ≠ (TX7 b).2.1 := by decide +kernel
theorem tyX7_ok : ∀ k, k < 4 → parseFieldDescriptor (TX7 k).2.2.1 = some (tyX7 k) := by decide +kernel
abbrev cX7_init : ByteArray := prog_9_method_1_code
def yX7_init : MethodName := ⟨RX7, "<init>", "(LCurveOrders$Numbering;LCurveOrders$Division;)V"⟩
abbrev cX7_leftOf : ByteArray := prog_9_method_2_code
def yX7_leftOf : MethodName := ⟨RX7, "leftOf", "(I)I"⟩
abbrev cX7_belowOf : ByteArray := prog_9_method_3_code
def yX7_belowOf : MethodName := ⟨RX7, "belowOf", "(I)I"⟩
abbrev cX7_findBeyond : ByteArray := prog_9_method_4_code
def yX7_findBeyond : MethodName := ⟨RX7, "findBeyond", "(II)V"⟩
abbrev cX7_stepAcross : ByteArray := prog_9_method_5_code
def yX7_stepAcross : MethodName := ⟨RX7, "stepAcross", "(ZZI)I"⟩
abbrev cX7_insert : ByteArray := prog_9_method_6_code
def yX7_insert : MethodName := ⟨RX7, "insert", "(I)V"⟩
abbrev cX7_findLowest : ByteArray := prog_9_method_7_code
def yX7_findLowest : MethodName := ⟨RX7, "findLowest", "(II)I"⟩
abbrev cX7_countSteps : ByteArray := prog_9_method_8_code
def yX7_countSteps : MethodName := ⟨RX7, "countSteps", "(II)I"⟩
abbrev cX7_leafAfter : ByteArray := prog_9_method_9_code
def yX7_leafAfter : MethodName := ⟨RX7, "leafAfter", "(III)I"⟩
abbrev cX7_divideAllTooLarge : ByteArray := prog_9_method_10_code
def yX7_divideAllTooLarge : MethodName := ⟨RX7, "divideAllTooLarge", "()I"⟩
abbrev cX7_findLowestAround : ByteArray := prog_9_method_11_code
def yX7_findLowestAround : MethodName := ⟨RX7, "findLowestAround", "(I)I"⟩
abbrev cX7_isTooLarge : ByteArray := prog_9_method_12_code
def yX7_isTooLarge : MethodName := ⟨RX7, "isTooLarge", "(I)Z"⟩
def RX8 : String := "CurveOrders$Text"
def TX8 : u_T := fun k => match k with
  | 0 => ("CurveOrders$Text", "length", "I", false)
  | _ => ("CurveOrders$Text", "bytes", "[I", true)
def tyX8 : Nat → FieldType := fun k => match k with
  | 0 => .int
  | _ => .array .int
abbrev wsX80 : List Cond := u_ws RX8 TX8 2
theorem nmX8 : ∀ a, a < 2 → ∀ b, b < 2 → a ≠ b → (TX8 a).2.1 ≠ (TX8 b).2.1 := by decide +kernel
theorem tyX8_ok : ∀ k, k < 2 → parseFieldDescriptor (TX8 k).2.2.1 = some (tyX8 k) := by decide +kernel
abbrev cX8_init : ByteArray := prog_10_method_1_code
def yX8_init : MethodName := ⟨RX8, "<init>", "()V"⟩
abbrev cX8_add : ByteArray := prog_10_method_2_code
def yX8_add : MethodName := ⟨RX8, "add", "(I)Z"⟩
abbrev cX8_digitAt : ByteArray := prog_10_method_3_code
def yX8_digitAt : MethodName := ⟨RX8, "digitAt", "(II)I"⟩
abbrev cX8_countStates : ByteArray := prog_10_method_4_code
def yX8_countStates : MethodName := ⟨RX8, "countStates", "()I"⟩
abbrev cX8_findFault : ByteArray := prog_10_method_5_code
def yX8_findFault : MethodName := ⟨RX8, "findFault", "()I"⟩
abbrev cX8_findFaultOfForm : ByteArray := prog_10_method_6_code
def yX8_findFaultOfForm : MethodName := ⟨RX8, "findFaultOfForm", "()I"⟩
abbrev cX8_fitsForm : ByteArray := prog_10_method_7_code
def yX8_fitsForm : MethodName := ⟨RX8, "fitsForm", "(I)Z"⟩
abbrev cX8_isToldBefore : ByteArray := prog_10_method_8_code
def yX8_isToldBefore : MethodName := ⟨RX8, "isToldBefore", "(II)Z"⟩
abbrev cX8_findUnknownState : ByteArray := prog_10_method_9_code
def yX8_findUnknownState : MethodName := ⟨RX8, "findUnknownState", "()I"⟩
def RX9 : String := "CurveOrders"
def TX9 : u_T := fun k => match k with
  | 0 => ("CurveOrders", "now", "LCurveOrders$Setup;", true)
  | 1 => ("CurveOrders", "slots", "[LCurveOrders$Setup;", true)
  | 2 => ("CurveOrders", "slotUsed", "[Z", true)
  | 3 => ("CurveOrders", "text", "LCurveOrders$Text;", true)
  | 4 => ("CurveOrders", "numbering", "LCurveOrders$Numbering;", true)
  | 5 => ("CurveOrders", "cover", "LCurveOrders$Cover;", true)
  | _ => ("CurveOrders", "surroundings", "LCurveOrders$Surroundings;", true)
def tyX9 : Nat → FieldType := fun k => match k with
  | 0 => .object "CurveOrders$Setup"
  | 1 => .array (.object "CurveOrders$Setup")
  | 2 => .array .boolean
  | 3 => .object "CurveOrders$Text"
  | 4 => .object "CurveOrders$Numbering"
  | 5 => .object "CurveOrders$Cover"
  | _ => .object "CurveOrders$Surroundings"
abbrev wsX90 : List Cond := u_ws RX9 TX9 7
theorem nmX9 : ∀ a, a < 7 → ∀ b, b < 7 → a ≠ b → (TX9 a).2.1 ≠ (TX9 b).2.1 := by decide +kernel
theorem tyX9_ok : ∀ k, k < 7 → parseFieldDescriptor (TX9 k).2.2.1 = some (tyX9 k) := by decide +kernel
abbrev cX9_init : ByteArray := prog_1_method_1_code
def yX9_init : MethodName := ⟨RX9, "<init>", "()V"⟩
abbrev cX9_setLevels : ByteArray := prog_1_method_2_code
def yX9_setLevels : MethodName := ⟨RX9, "setLevels", "(I)I"⟩
abbrev cX9_setCurve : ByteArray := prog_1_method_3_code
def yX9_setCurve : MethodName := ⟨RX9, "setCurve", "(I)I"⟩
abbrev cX9_states : ByteArray := prog_1_method_4_code
def yX9_states : MethodName := ⟨RX9, "states", "()I"⟩
abbrev cX9_visit : ByteArray := prog_1_method_5_code
def yX9_visit : MethodName := ⟨RX9, "visit", "(II)I"⟩
abbrev cX9_index : ByteArray := prog_1_method_6_code
def yX9_index : MethodName := ⟨RX9, "index", "(II)I"⟩
abbrev cX9_cell : ByteArray := prog_1_method_7_code
def yX9_cell : MethodName := ⟨RX9, "cell", "(IZ)I"⟩
abbrev cX9_breaks : ByteArray := prog_1_method_8_code
def yX9_breaks : MethodName := ⟨RX9, "breaks", "()I"⟩
abbrev cX9_stretch : ByteArray := prog_1_method_9_code
def yX9_stretch : MethodName := ⟨RX9, "stretch", "()I"⟩
abbrev cX9_append : ByteArray := prog_1_method_10_code
def yX9_append : MethodName := ⟨RX9, "append", "(I)I"⟩
abbrev cX9_clearText : ByteArray := prog_1_method_11_code
def yX9_clearText : MethodName := ⟨RX9, "clearText", "()I"⟩
abbrev cX9_faultPosition : ByteArray := prog_1_method_12_code
def yX9_faultPosition : MethodName := ⟨RX9, "faultPosition", "()I"⟩
abbrev cX9_read : ByteArray := prog_1_method_13_code
def yX9_read : MethodName := ⟨RX9, "read", "()I"⟩
abbrev cX9_setRange : ByteArray := prog_1_method_14_code
def yX9_setRange : MethodName := ⟨RX9, "setRange", "(IIII)I"⟩
abbrev cX9_intervals : ByteArray := prog_1_method_15_code
def yX9_intervals : MethodName := ⟨RX9, "intervals", "()I"⟩
abbrev cX9_interval : ByteArray := prog_1_method_16_code
def yX9_interval : MethodName := ⟨RX9, "interval", "(IZ)I"⟩
abbrev cX9_extra : ByteArray := prog_1_method_17_code
def yX9_extra : MethodName := ⟨RX9, "extra", "(I)I"⟩
abbrev cX9_covering : ByteArray := prog_1_method_18_code
def yX9_covering : MethodName := ⟨RX9, "covering", "(IIZ)I"⟩
abbrev cX9_clusters : ByteArray := prog_1_method_19_code
def yX9_clusters : MethodName := ⟨RX9, "clusters", "(II)I"⟩
abbrev cX9_addPoint : ByteArray := prog_1_method_20_code
def yX9_addPoint : MethodName := ⟨RX9, "addPoint", "(II)I"⟩
abbrev cX9_removePoint : ByteArray := prog_1_method_21_code
def yX9_removePoint : MethodName := ⟨RX9, "removePoint", "(II)I"⟩
abbrev cX9_points : ByteArray := prog_1_method_22_code
def yX9_points : MethodName := ⟨RX9, "points", "()I"⟩
abbrev cX9_nearest : ByteArray := prog_1_method_23_code
def yX9_nearest : MethodName := ⟨RX9, "nearest", "(II)I"⟩
abbrev cX9_setBucket : ByteArray := prog_1_method_24_code
def yX9_setBucket : MethodName := ⟨RX9, "setBucket", "(I)I"⟩
abbrev cX9_leaves : ByteArray := prog_1_method_25_code
def yX9_leaves : MethodName := ⟨RX9, "leaves", "()I"⟩
abbrev cX9_leaf : ByteArray := prog_1_method_26_code
def yX9_leaf : MethodName := ⟨RX9, "leaf", "(II)I"⟩
abbrev cX9_leafAt : ByteArray := prog_1_method_27_code
def yX9_leafAt : MethodName := ⟨RX9, "leafAt", "(II)I"⟩
abbrev cX9_neighbours : ByteArray := prog_1_method_28_code
def yX9_neighbours : MethodName := ⟨RX9, "neighbours", "(II)I"⟩
abbrev cX9_neighbour : ByteArray := prog_1_method_29_code
def yX9_neighbour : MethodName := ⟨RX9, "neighbour", "(III)I"⟩
abbrev cX9_balance : ByteArray := prog_1_method_30_code
def yX9_balance : MethodName := ⟨RX9, "balance", "()I"⟩
abbrev cX9_walk : ByteArray := prog_1_method_31_code
def yX9_walk : MethodName := ⟨RX9, "walk", "(II)I"⟩
abbrev cX9_walked : ByteArray := prog_1_method_32_code
def yX9_walked : MethodName := ⟨RX9, "walked", "(III)I"⟩
abbrev cX9_save : ByteArray := prog_1_method_33_code
def yX9_save : MethodName := ⟨RX9, "save", "(I)I"⟩
abbrev cX9_restore : ByteArray := prog_1_method_34_code
def yX9_restore : MethodName := ⟨RX9, "restore", "(I)I"⟩
abbrev cX9_checksum : ByteArray := prog_1_method_35_code
def yX9_checksum : MethodName := ⟨RX9, "checksum", "()J"⟩
abbrev cX9_renumber : ByteArray := prog_1_method_36_code
def yX9_renumber : MethodName := ⟨RX9, "renumber", "()V"⟩
abbrev cX9_redivide : ByteArray := prog_1_method_37_code
def yX9_redivide : MethodName := ⟨RX9, "redivide", "()V"⟩
abbrev cX9_isLeaf : ByteArray := prog_1_method_38_code
def yX9_isLeaf : MethodName := ⟨RX9, "isLeaf", "(I)Z"⟩
abbrev cX9_isSide : ByteArray := prog_1_method_39_code
def yX9_isSide : MethodName := ⟨RX9, "isSide", "(I)Z"⟩
abbrev cX9_sumCurve : ByteArray := prog_1_method_40_code
def yX9_sumCurve : MethodName := ⟨RX9, "sumCurve", "(J)J"⟩
abbrev cX9_sumIntervals : ByteArray := prog_1_method_41_code
def yX9_sumIntervals : MethodName := ⟨RX9, "sumIntervals", "(J)J"⟩
abbrev cX9_sumLeaves : ByteArray := prog_1_method_42_code
def yX9_sumLeaves : MethodName := ⟨RX9, "sumLeaves", "(J)J"⟩
abbrev cX9_sumValue : ByteArray := prog_1_method_43_code
def yX9_sumValue : MethodName := ⟨RX9, "sumValue", "(JI)J"⟩
def RX10 : String := "CurveOrdersModel"
def TX10 : u_T := fun k => match k with
  | 0 => ("CurveOrdersModel", "m", "I", false)
  | 1 => ("CurveOrdersModel", "curve", "I", false)
  | 2 => ("CurveOrdersModel", "stateMany", "[I", true)
  | 3 => ("CurveOrdersModel", "tables", "[I", true)
  | 4 => ("CurveOrdersModel", "left", "I", false)
  | 5 => ("CurveOrdersModel", "below", "I", false)
  | 6 => ("CurveOrdersModel", "right", "I", false)
  | 7 => ("CurveOrdersModel", "above", "I", false)
  | 8 => ("CurveOrdersModel", "points", "[I", true)
  | 9 => ("CurveOrdersModel", "pointMany", "I", false)
  | 10 => ("CurveOrdersModel", "bucket", "I", false)
  | 11 => ("CurveOrdersModel", "starts", "[I", true)
  | 12 => ("CurveOrdersModel", "levels", "[I", true)
  | 13 => ("CurveOrdersModel", "leafMany", "I", false)
  | 14 => ("CurveOrdersModel", "text", "[I", true)
  | 15 => ("CurveOrdersModel", "length", "I", false)
  | 16 => ("CurveOrdersModel", "kept", "[I", true)
  | 17 => ("CurveOrdersModel", "keptTables", "[I", true)
  | 18 => ("CurveOrdersModel", "keptStarts", "[I", true)
  | 19 => ("CurveOrdersModel", "keptLevels", "[I", true)
  | 20 => ("CurveOrdersModel", "isKept", "[Z", true)
  | 21 => ("CurveOrdersModel", "indexOf", "[I", true)
  | 22 => ("CurveOrdersModel", "cellOf", "[I", true)
  | 23 => ("CurveOrdersModel", "firsts", "[I", true)
  | 24 => ("CurveOrdersModel", "lasts", "[I", true)
  | 25 => ("CurveOrdersModel", "intervalMany", "I", false)
  | 26 => ("CurveOrdersModel", "leafOf", "[I", true)
  | 27 => ("CurveOrdersModel", "beside", "[I", true)
  | _ => ("CurveOrdersModel", "besides", "I", false)
def tyX10 : Nat → FieldType := fun k => match k with
  | 0 => .int
  | 1 => .int
  | 2 => .array .int
  | 3 => .array .int
  | 4 => .int
  | 5 => .int
  | 6 => .int
  | 7 => .int
  | 8 => .array .int
  | 9 => .int
  | 10 => .int
  | 11 => .array .int
  | 12 => .array .int
  | 13 => .int
  | 14 => .array .int
  | 15 => .int
  | 16 => .array .int
  | 17 => .array .int
  | 18 => .array .int
  | 19 => .array .int
  | 20 => .array .boolean
  | 21 => .array .int
  | 22 => .array .int
  | 23 => .array .int
  | 24 => .array .int
  | 25 => .int
  | 26 => .array .int
  | 27 => .array .int
  | _ => .int
abbrev wsX100 : List Cond := u_ws RX10 TX10 29
theorem nmX10 : ∀ a, a < 29 → ∀ b, b < 29 → a ≠ b → (TX10 a).2.1 ≠ (TX10 b).2.1 := by decide +kernel
theorem tyX10_ok : ∀ k, k < 29 → parseFieldDescriptor (TX10 k).2.2.1 = some (tyX10 k) := by decide +kernel
abbrev cX10_init : ByteArray := prog_12_method_1_code
def yX10_init : MethodName := ⟨RX10, "<init>", "()V"⟩
abbrev cX10_hilbert : ByteArray := prog_12_method_3_code
def yX10_hilbert : MethodName := ⟨RX10, "hilbert", "(III)V"⟩
abbrev cX10_in : ByteArray := prog_12_method_4_code
def yX10_in : MethodName := ⟨RX10, "in", "(III)Z"⟩
abbrev cX10_side : ByteArray := prog_12_method_5_code
def yX10_side : MethodName := ⟨RX10, "side", "()I"⟩
abbrev cX10_all : ByteArray := prog_12_method_6_code
def yX10_all : MethodName := ⟨RX10, "all", "()I"⟩
abbrev cX10_quarter : ByteArray := prog_12_method_7_code
def yX10_quarter : MethodName := ⟨RX10, "quarter", "(II)I"⟩
abbrev cX10_stateFor : ByteArray := prog_12_method_8_code
def yX10_stateFor : MethodName := ⟨RX10, "stateFor", "(II)I"⟩
abbrev cX10_numbers : ByteArray := prog_12_method_9_code
def yX10_numbers : MethodName := ⟨RX10, "numbers", "()V"⟩
abbrev cX10_setLevels : ByteArray := prog_12_method_10_code
def yX10_setLevels : MethodName := ⟨RX10, "setLevels", "(I)I"⟩
abbrev cX10_setCurve : ByteArray := prog_12_method_11_code
def yX10_setCurve : MethodName := ⟨RX10, "setCurve", "(I)I"⟩
abbrev cX10_states : ByteArray := prog_12_method_12_code
def yX10_states : MethodName := ⟨RX10, "states", "()I"⟩
abbrev cX10_visit : ByteArray := prog_12_method_13_code
def yX10_visit : MethodName := ⟨RX10, "visit", "(II)I"⟩
abbrev cX10_isCell : ByteArray := prog_12_method_14_code
def yX10_isCell : MethodName := ⟨RX10, "isCell", "(II)Z"⟩
abbrev cX10_index : ByteArray := prog_12_method_15_code
def yX10_index : MethodName := ⟨RX10, "index", "(II)I"⟩
abbrev cX10_cell : ByteArray := prog_12_method_16_code
def yX10_cell : MethodName := ⟨RX10, "cell", "(IZ)I"⟩
abbrev cX10_size : ByteArray := prog_12_method_17_code
def yX10_size : MethodName := ⟨RX10, "size", "(I)I"⟩
abbrev cX10_far : ByteArray := prog_12_method_18_code
def yX10_far : MethodName := ⟨RX10, "far", "(II)I"⟩
abbrev cX10_breaksNow : ByteArray := prog_12_method_19_code
def yX10_breaksNow : MethodName := ⟨RX10, "breaksNow", "()I"⟩
abbrev cX10_breaks : ByteArray := prog_12_method_20_code
def yX10_breaks : MethodName := ⟨RX10, "breaks", "()I"⟩
abbrev cX10_stretchNow : ByteArray := prog_12_method_21_code
def yX10_stretchNow : MethodName := ⟨RX10, "stretchNow", "()I"⟩
abbrev cX10_stretch : ByteArray := prog_12_method_22_code
def yX10_stretch : MethodName := ⟨RX10, "stretch", "()I"⟩
abbrev cX10_append : ByteArray := prog_12_method_23_code
def yX10_append : MethodName := ⟨RX10, "append", "(I)I"⟩
abbrev cX10_clearText : ByteArray := prog_12_method_24_code
def yX10_clearText : MethodName := ⟨RX10, "clearText", "()I"⟩
abbrev cX10_isWell : ByteArray := prog_12_method_25_code
def yX10_isWell : MethodName := ⟨RX10, "isWell", "(I)Z"⟩
abbrev cX10_fault : ByteArray := prog_12_method_26_code
def yX10_fault : MethodName := ⟨RX10, "fault", "()I"⟩
abbrev cX10_faultPosition : ByteArray := prog_12_method_27_code
def yX10_faultPosition : MethodName := ⟨RX10, "faultPosition", "()I"⟩
abbrev cX10_read : ByteArray := prog_12_method_28_code
def yX10_read : MethodName := ⟨RX10, "read", "()I"⟩
abbrev cX10_setRange : ByteArray := prog_12_method_29_code
def yX10_setRange : MethodName := ⟨RX10, "setRange", "(IIII)I"⟩
abbrev cX10_isInRange : ByteArray := prog_12_method_30_code
def yX10_isInRange : MethodName := ⟨RX10, "isInRange", "(I)Z"⟩
abbrev cX10_findIntervals : ByteArray := prog_12_method_31_code
def yX10_findIntervals : MethodName := ⟨RX10, "findIntervals", "()V"⟩
abbrev cX10_intervals : ByteArray := prog_12_method_32_code
def yX10_intervals : MethodName := ⟨RX10, "intervals", "()I"⟩
abbrev cX10_interval : ByteArray := prog_12_method_33_code
def yX10_interval : MethodName := ⟨RX10, "interval", "(IZ)I"⟩
abbrev cX10_joins : ByteArray := prog_12_method_34_code
def yX10_joins : MethodName := ⟨RX10, "joins", "(I)I"⟩
abbrev cX10_extra : ByteArray := prog_12_method_35_code
def yX10_extra : MethodName := ⟨RX10, "extra", "(I)I"⟩
abbrev cX10_covering : ByteArray := prog_12_method_36_code
def yX10_covering : MethodName := ⟨RX10, "covering", "(IIZ)I"⟩
abbrev cX10_places : ByteArray := prog_12_method_37_code
def yX10_places : MethodName := ⟨RX10, "places", "(III)I"⟩
abbrev cX10_clusters : ByteArray := prog_12_method_38_code
def yX10_clusters : MethodName := ⟨RX10, "clusters", "(II)I"⟩
abbrev cX10_pointAt : ByteArray := prog_12_method_39_code
def yX10_pointAt : MethodName := ⟨RX10, "pointAt", "(II)I"⟩
abbrev cX10_addPoint : ByteArray := prog_12_method_40_code
def yX10_addPoint : MethodName := ⟨RX10, "addPoint", "(II)I"⟩
abbrev cX10_removePoint : ByteArray := prog_12_method_41_code
def yX10_removePoint : MethodName := ⟨RX10, "removePoint", "(II)I"⟩
abbrev cX10_points : ByteArray := prog_12_method_42_code
def yX10_points : MethodName := ⟨RX10, "points", "()I"⟩
abbrev cX10_nearest : ByteArray := prog_12_method_43_code
def yX10_nearest : MethodName := ⟨RX10, "nearest", "(II)I"⟩
abbrev cX10_setBucket : ByteArray := prog_12_method_44_code
def yX10_setBucket : MethodName := ⟨RX10, "setBucket", "(I)I"⟩
abbrev cX10_pointsIn : ByteArray := prog_12_method_45_code
def yX10_pointsIn : MethodName := ⟨RX10, "pointsIn", "(II)I"⟩
abbrev cX10_divides : ByteArray := prog_12_method_46_code
def yX10_divides : MethodName := ⟨RX10, "divides", "()V"⟩
abbrev cX10_maps : ByteArray := prog_12_method_47_code
def yX10_maps : MethodName := ⟨RX10, "maps", "()V"⟩
abbrev cX10_leaves : ByteArray := prog_12_method_48_code
def yX10_leaves : MethodName := ⟨RX10, "leaves", "()I"⟩
abbrev cX10_isLeaf : ByteArray := prog_12_method_49_code
def yX10_isLeaf : MethodName := ⟨RX10, "isLeaf", "(I)Z"⟩
abbrev cX10_leftOf : ByteArray := prog_12_method_50_code
def yX10_leftOf : MethodName := ⟨RX10, "leftOf", "(I)I"⟩
abbrev cX10_belowOf : ByteArray := prog_12_method_51_code
def yX10_belowOf : MethodName := ⟨RX10, "belowOf", "(I)I"⟩
abbrev cX10_tells : ByteArray := prog_12_method_52_code
def yX10_tells : MethodName := ⟨RX10, "tells", "(II)I"⟩
abbrev cX10_leaf : ByteArray := prog_12_method_53_code
def yX10_leaf : MethodName := ⟨RX10, "leaf", "(II)I"⟩
abbrev cX10_leafAt : ByteArray := prog_12_method_54_code
def yX10_leafAt : MethodName := ⟨RX10, "leafAt", "(II)I"⟩
abbrev cX10_comesBeside : ByteArray := prog_12_method_55_code
def yX10_comesBeside : MethodName := ⟨RX10, "comesBeside", "(I)V"⟩
abbrev cX10_findBeside : ByteArray := prog_12_method_56_code
def yX10_findBeside : MethodName := ⟨RX10, "findBeside", "(II)V"⟩
abbrev cX10_neighbours : ByteArray := prog_12_method_57_code
def yX10_neighbours : MethodName := ⟨RX10, "neighbours", "(II)I"⟩
abbrev cX10_neighbour : ByteArray := prog_12_method_58_code
def yX10_neighbour : MethodName := ⟨RX10, "neighbour", "(III)I"⟩
abbrev cX10_isUnlike : ByteArray := prog_12_method_59_code
def yX10_isUnlike : MethodName := ⟨RX10, "isUnlike", "(I)Z"⟩
abbrev cX10_quarters : ByteArray := prog_12_method_60_code
def yX10_quarters : MethodName := ⟨RX10, "quarters", "(I)V"⟩
abbrev cX10_balance : ByteArray := prog_12_method_61_code
def yX10_balance : MethodName := ⟨RX10, "balance", "()I"⟩
abbrev cX10_walk : ByteArray := prog_12_method_62_code
def yX10_walk : MethodName := ⟨RX10, "walk", "(II)I"⟩
abbrev cX10_walked : ByteArray := prog_12_method_63_code
def yX10_walked : MethodName := ⟨RX10, "walked", "(III)I"⟩
abbrev cX10_save : ByteArray := prog_12_method_64_code
def yX10_save : MethodName := ⟨RX10, "save", "(I)I"⟩
abbrev cX10_restore : ByteArray := prog_12_method_65_code
def yX10_restore : MethodName := ⟨RX10, "restore", "(I)I"⟩
abbrev cX10_more : ByteArray := prog_12_method_66_code
def yX10_more : MethodName := ⟨RX10, "more", "(JI)J"⟩
abbrev cX10_checksum : ByteArray := prog_12_method_67_code
def yX10_checksum : MethodName := ⟨RX10, "checksum", "()J"⟩
def RJ9 : String := "java/lang/Math"
def TJ9 : u_T := fun k => match k with
  | _ => ("", "", "", false)
def tyJ9 : Nat → FieldType := fun k => match k with
  | _ => .int
abbrev wsJ90 : List Cond := u_ws RJ9 TJ9 0
theorem nmJ9 : ∀ a, a < 0 → ∀ b, b < 0 → a ≠ b → (TJ9 a).2.1 ≠ (TJ9 b).2.1 := by decide +kernel
theorem tyJ9_ok : ∀ k, k < 0 → parseFieldDescriptor (TJ9 k).2.2.1 = some (tyJ9 k) := by decide +kernel
abbrev cJ9_abs_0f7a4 : ByteArray := prog_13_method_59_code
def yJ9_abs_0f7a4 : MethodName := ⟨RJ9, "abs", "(I)I"⟩
abbrev cJ9_max_7cf53 : ByteArray := prog_13_method_65_code
def yJ9_max_7cf53 : MethodName := ⟨RJ9, "max", "(II)I"⟩
abbrev cJ9_min_7cf53 : ByteArray := prog_13_method_69_code
def yJ9_min_7cf53 : MethodName := ⟨RJ9, "min", "(II)I"⟩
def RJ10 : String := "java/lang/System"
def TJ10 : u_T := fun k => match k with
  | _ => ("", "", "", false)
def tyJ10 : Nat → FieldType := fun k => match k with
  | _ => .int
abbrev wsJ100 : List Cond := u_ws RJ10 TJ10 0
theorem nmJ10 : ∀ a, a < 0 → ∀ b, b < 0 → a ≠ b → (TJ10 a).2.1 ≠ (TJ10 b).2.1 := by decide +kernel
theorem tyJ10_ok : ∀ k, k < 0 → parseFieldDescriptor (TJ10 k).2.2.1 = some (tyJ10 k) := by decide +kernel
def RL : String := "CurveOrdersLaw"
abbrev cL_law : ByteArray := code
def yL_law : MethodName := ⟨RL, "law", "([I)Z"⟩
def wsX0_init : List Cond := .code yX0_init cX0_init 1 none :: ([.methodLink RX0 3 objectInit, .instanceMethod objectInit, .code objectInit ⟨#[0xb1]⟩ 1 none, .fieldLink RX0 9 "CurveOrders$Cover" "count" "I", .arrayClass .int, .fieldLink RX0 15 "CurveOrders$Cover" "first" "[I", .fieldLink RX0 19 "CurveOrders$Cover" "last" "[I"] ++ wsX00)
def wsX2_xAt : List Cond := .code yX2_xAt cX2_xAt 2 (some .int) :: ([.fieldLink RX2 18 "CurveOrders$Numbering" "cellOfIndex" "[I"] ++ wsX20)
def wsX2_yAt : List Cond := .code yX2_yAt cX2_yAt 2 (some .int) :: ([.fieldLink RX2 18 "CurveOrders$Numbering" "cellOfIndex" "[I"] ++ wsX20)
def wsX4_holds : List Cond := .code yX4_holds cX4_holds 3 (some .boolean) :: ([.fieldLink RX4 7 "CurveOrders$Rectangle" "left" "I", .fieldLink RX4 16 "CurveOrders$Rectangle" "right" "I", .fieldLink RX4 13 "CurveOrders$Rectangle" "below" "I", .fieldLink RX4 19 "CurveOrders$Rectangle" "above" "I"] ++ wsX40)
def wsX0_fill : List Cond := .code yX0_fill cX0_fill 6 none :: ([.fieldLink RX0 9 "CurveOrders$Cover" "count" "I", .fieldLink RX0 22 "CurveOrders$Numbering" "cells" "I", .fieldLink RX0 19 "CurveOrders$Cover" "last" "[I", .fieldLink RX0 15 "CurveOrders$Cover" "first" "[I", .methodLink RX0 27 yX2_xAt, .instanceMethod yX2_xAt, .selects RX2 yX2_xAt yX2_xAt, .initialized RX2, .code yX2_xAt cX2_xAt 2 (some .int), .fieldLink RX2 18 "CurveOrders$Numbering" "cellOfIndex" "[I", .methodLink RX0 31 yX2_yAt, .instanceMethod yX2_yAt, .selects RX2 yX2_yAt yX2_yAt, .code yX2_yAt cX2_yAt 2 (some .int), .methodLink RX0 34 yX4_holds, .instanceMethod yX4_holds, .selects RX4 yX4_holds yX4_holds, .initialized RX4, .code yX4_holds cX4_holds 3 (some .boolean), .fieldLink RX4 7 "CurveOrders$Rectangle" "left" "I", .fieldLink RX4 16 "CurveOrders$Rectangle" "right" "I", .fieldLink RX4 13 "CurveOrders$Rectangle" "below" "I", .fieldLink RX4 19 "CurveOrders$Rectangle" "above" "I"] ++ wsX00 ++ wsX20 ++ wsX40)
def wsX0_gapBehind : List Cond := .code yX0_gapBehind cX0_gapBehind 2 (some .int) :: ([.fieldLink RX0 15 "CurveOrders$Cover" "first" "[I", .fieldLink RX0 19 "CurveOrders$Cover" "last" "[I"] ++ wsX00)
def wsX0_countGapsUpTo : List Cond := .code yX0_countGapsUpTo cX0_countGapsUpTo 4 (some .int) :: ([.fieldLink RX0 9 "CurveOrders$Cover" "count" "I", .methodLink RX0 40 yX0_gapBehind, .instanceMethod yX0_gapBehind, .selects RX0 yX0_gapBehind yX0_gapBehind, .initialized RX0, .code yX0_gapBehind cX0_gapBehind 2 (some .int), .fieldLink RX0 15 "CurveOrders$Cover" "first" "[I", .fieldLink RX0 19 "CurveOrders$Cover" "last" "[I"] ++ wsX00)
def wsX0_countJoined : List Cond := .code yX0_countJoined cX0_countJoined 2 (some .int) :: ([.fieldLink RX0 9 "CurveOrders$Cover" "count" "I", .methodLink RX0 43 Lib.Math.max.name, .static Lib.Math.max.name, .initialized "java/lang/Math", .code Lib.Math.max.name Lib.Math.max.code 2 (some .int)] ++ wsX00)
def wsX0_findLongestJoined : List Cond := .code yX0_findLongestJoined cX0_findLongestJoined 5 (some .int) :: ([.methodLink RX0 49 yX0_countGapsUpTo, .instanceMethod yX0_countGapsUpTo, .selects RX0 yX0_countGapsUpTo yX0_countGapsUpTo, .initialized RX0, .code yX0_countGapsUpTo cX0_countGapsUpTo 4 (some .int), .fieldLink RX0 9 "CurveOrders$Cover" "count" "I", .methodLink RX0 40 yX0_gapBehind, .instanceMethod yX0_gapBehind, .selects RX0 yX0_gapBehind yX0_gapBehind, .code yX0_gapBehind cX0_gapBehind 2 (some .int), .fieldLink RX0 15 "CurveOrders$Cover" "first" "[I", .fieldLink RX0 19 "CurveOrders$Cover" "last" "[I"] ++ wsX00)
def wsX0_cellsOfJoinedGaps : List Cond := .code yX0_cellsOfJoinedGaps cX0_cellsOfJoinedGaps 6 (some .int) :: ([.fieldLink RX0 9 "CurveOrders$Cover" "count" "I", .methodLink RX0 52 yX0_countJoined, .instanceMethod yX0_countJoined, .selects RX0 yX0_countJoined yX0_countJoined, .initialized RX0, .code yX0_countJoined cX0_countJoined 2 (some .int), .methodLink RX0 43 Lib.Math.max.name, .static Lib.Math.max.name, .initialized "java/lang/Math", .code Lib.Math.max.name Lib.Math.max.code 2 (some .int), .methodLink RX0 55 yX0_findLongestJoined, .instanceMethod yX0_findLongestJoined, .selects RX0 yX0_findLongestJoined yX0_findLongestJoined, .code yX0_findLongestJoined cX0_findLongestJoined 5 (some .int), .methodLink RX0 49 yX0_countGapsUpTo, .instanceMethod yX0_countGapsUpTo, .selects RX0 yX0_countGapsUpTo yX0_countGapsUpTo, .code yX0_countGapsUpTo cX0_countGapsUpTo 4 (some .int), .methodLink RX0 40 yX0_gapBehind, .instanceMethod yX0_gapBehind, .selects RX0 yX0_gapBehind yX0_gapBehind, .code yX0_gapBehind cX0_gapBehind 2 (some .int), .fieldLink RX0 15 "CurveOrders$Cover" "first" "[I", .fieldLink RX0 19 "CurveOrders$Cover" "last" "[I"] ++ wsX00)
def wsX0_endOfJoined : List Cond := .code yX0_endOfJoined cX0_endOfJoined 10 (some .int) :: ([.fieldLink RX0 9 "CurveOrders$Cover" "count" "I", .fieldLink RX0 19 "CurveOrders$Cover" "last" "[I", .fieldLink RX0 15 "CurveOrders$Cover" "first" "[I", .methodLink RX0 52 yX0_countJoined, .instanceMethod yX0_countJoined, .selects RX0 yX0_countJoined yX0_countJoined, .initialized RX0, .code yX0_countJoined cX0_countJoined 2 (some .int), .methodLink RX0 43 Lib.Math.max.name, .static Lib.Math.max.name, .initialized "java/lang/Math", .code Lib.Math.max.name Lib.Math.max.code 2 (some .int), .methodLink RX0 55 yX0_findLongestJoined, .instanceMethod yX0_findLongestJoined, .selects RX0 yX0_findLongestJoined yX0_findLongestJoined, .code yX0_findLongestJoined cX0_findLongestJoined 5 (some .int), .methodLink RX0 49 yX0_countGapsUpTo, .instanceMethod yX0_countGapsUpTo, .selects RX0 yX0_countGapsUpTo yX0_countGapsUpTo, .code yX0_countGapsUpTo cX0_countGapsUpTo 4 (some .int), .methodLink RX0 40 yX0_gapBehind, .instanceMethod yX0_gapBehind, .selects RX0 yX0_gapBehind yX0_gapBehind, .code yX0_gapBehind cX0_gapBehind 2 (some .int)] ++ wsX00)
def wsX1_init : List Cond := .code yX1_init cX1_init 1 none :: ([.methodLink RX1 3 objectInit, .instanceMethod objectInit, .code objectInit ⟨#[0xb1]⟩ 1 none, .fieldLink RX1 9 "CurveOrders$Division" "count" "I", .arrayClass .int, .fieldLink RX1 15 "CurveOrders$Division" "starts" "[I"] ++ wsX10)
def wsX2_indexOf : List Cond := .code yX2_indexOf cX2_indexOf 3 (some .int) :: ([.fieldLink RX2 22 "CurveOrders$Numbering" "indexOfCell" "[I"] ++ wsX20)
def wsX3_indexOfPoint : List Cond := .code yX3_indexOfPoint cX3_indexOfPoint 3 (some .int) :: ([.fieldLink RX3 15 "CurveOrders$PointSet" "cells" "[I", .methodLink RX3 29 yX2_indexOf, .instanceMethod yX2_indexOf, .selects RX2 yX2_indexOf yX2_indexOf, .initialized RX2, .code yX2_indexOf cX2_indexOf 3 (some .int), .fieldLink RX2 22 "CurveOrders$Numbering" "indexOfCell" "[I"] ++ wsX30 ++ wsX20)
def wsX3_countBetween : List Cond := .code yX3_countBetween cX3_countBetween 7 (some .int) :: ([.fieldLink RX3 9 "CurveOrders$PointSet" "count" "I", .methodLink RX3 34 yX3_indexOfPoint, .instanceMethod yX3_indexOfPoint, .selects RX3 yX3_indexOfPoint yX3_indexOfPoint, .initialized RX3, .code yX3_indexOfPoint cX3_indexOfPoint 3 (some .int), .fieldLink RX3 15 "CurveOrders$PointSet" "cells" "[I", .methodLink RX3 29 yX2_indexOf, .instanceMethod yX2_indexOf, .selects RX2 yX2_indexOf yX2_indexOf, .initialized RX2, .code yX2_indexOf cX2_indexOf 3 (some .int), .fieldLink RX2 22 "CurveOrders$Numbering" "indexOfCell" "[I"] ++ wsX30 ++ wsX20)
def wsX1_countPoints : List Cond := .code yX1_countPoints cX1_countPoints 4 (some .int) :: ([.fieldLink RX1 15 "CurveOrders$Division" "starts" "[I", .methodLink RX1 32 yX3_countBetween, .instanceMethod yX3_countBetween, .selects RX3 yX3_countBetween yX3_countBetween, .initialized RX3, .code yX3_countBetween cX3_countBetween 7 (some .int), .fieldLink RX3 9 "CurveOrders$PointSet" "count" "I", .methodLink RX3 34 yX3_indexOfPoint, .instanceMethod yX3_indexOfPoint, .selects RX3 yX3_indexOfPoint yX3_indexOfPoint, .code yX3_indexOfPoint cX3_indexOfPoint 3 (some .int), .fieldLink RX3 15 "CurveOrders$PointSet" "cells" "[I", .methodLink RX3 29 yX2_indexOf, .instanceMethod yX2_indexOf, .selects RX2 yX2_indexOf yX2_indexOf, .initialized RX2, .code yX2_indexOf cX2_indexOf 3 (some .int), .fieldLink RX2 22 "CurveOrders$Numbering" "indexOfCell" "[I"] ++ wsX10 ++ wsX30 ++ wsX20)
def wsX1_divide : List Cond := .code yX1_divide cX1_divide 4 (some .boolean) :: ([.fieldLink RX1 15 "CurveOrders$Division" "starts" "[I", .fieldLink RX1 9 "CurveOrders$Division" "count" "I"] ++ wsX10)
def wsX1_fill_r1 : List Cond := [Cond.fieldLink RX1 9 "CurveOrders$Division" "count" "I", Cond.fieldLink RX1 15 "CurveOrders$Division" "starts" "[I", Cond.fieldLink RX1 19 "CurveOrders$Numbering" "cells" "I", Cond.methodLink RX1 24 yX1_countPoints, Cond.instanceMethod yX1_countPoints, Cond.selects RX1 yX1_countPoints yX1_countPoints, Cond.initialized RX1, Cond.code yX1_countPoints cX1_countPoints 4 (some .int), Cond.methodLink RX1 32 yX3_countBetween, Cond.instanceMethod yX3_countBetween, Cond.selects RX3 yX3_countBetween yX3_countBetween, Cond.initialized RX3, Cond.code yX3_countBetween cX3_countBetween 7 (some .int), Cond.fieldLink RX3 9 "CurveOrders$PointSet" "count" "I", Cond.methodLink RX3 34 yX3_indexOfPoint, Cond.instanceMethod yX3_indexOfPoint, Cond.selects RX3 yX3_indexOfPoint yX3_indexOfPoint, Cond.code yX3_indexOfPoint cX3_indexOfPoint 3 (some .int), Cond.fieldLink RX3 15 "CurveOrders$PointSet" "cells" "[I", Cond.methodLink RX3 29 yX2_indexOf, Cond.instanceMethod yX2_indexOf, Cond.selects RX2 yX2_indexOf yX2_indexOf, Cond.initialized RX2, Cond.code yX2_indexOf cX2_indexOf 3 (some .int)]
def wsX1_fill_r2 : List Cond := [Cond.fieldLink RX2 22 "CurveOrders$Numbering" "indexOfCell" "[I", Cond.methodLink RX1 28 yX1_divide, Cond.instanceMethod yX1_divide, Cond.selects RX1 yX1_divide yX1_divide, Cond.code yX1_divide cX1_divide 4 (some .boolean)]
def wsX1_fill : List Cond := .code yX1_fill cX1_fill 6 none :: ((wsX1_fill_r1 ++ wsX1_fill_r2) ++ wsX10 ++ wsX20 ++ wsX30)
def wsX1_sideOf : List Cond := .code yX1_sideOf cX1_sideOf 4 (some .int) :: ([.fieldLink RX1 15 "CurveOrders$Division" "starts" "[I"] ++ wsX10)
def wsX1_leafOfIndex : List Cond := .code yX1_leafOfIndex cX1_leafOfIndex 5 (some .int) :: ([.fieldLink RX1 9 "CurveOrders$Division" "count" "I", .fieldLink RX1 15 "CurveOrders$Division" "starts" "[I"] ++ wsX10)
def wsX1_copyFrom : List Cond := .code yX1_copyFrom cX1_copyFrom 2 none :: ([.fieldLink RX1 9 "CurveOrders$Division" "count" "I", .fieldLink RX1 15 "CurveOrders$Division" "starts" "[I", .methodLink RX1 38 arraycopyName, .native arraycopyName, .static arraycopyName, .initialized "java/lang/System"] ++ wsX10)
def wsX2_init : List Cond := .code yX2_init cX2_init 1 none :: ([.methodLink RX2 3 objectInit, .instanceMethod objectInit, .code objectInit ⟨#[0xb1]⟩ 1 none, .fieldLink RX2 9 "CurveOrders$Numbering" "side" "I", .fieldLink RX2 15 "CurveOrders$Numbering" "cells" "I", .arrayClass .int, .fieldLink RX2 18 "CurveOrders$Numbering" "cellOfIndex" "[I", .fieldLink RX2 22 "CurveOrders$Numbering" "indexOfCell" "[I"] ++ wsX20)
def wsX2_divideSquares : List Cond := .code yX2_divideSquares cX2_divideSquares 11 none :: ([.fieldLink RX2 18 "CurveOrders$Numbering" "cellOfIndex" "[I"] ++ wsX20)
def wsX2_fill : List Cond := .code yX2_fill cX2_fill 4 none :: ([.fieldLink RX2 9 "CurveOrders$Numbering" "side" "I", .fieldLink RX2 15 "CurveOrders$Numbering" "cells" "I", .fieldLink RX2 18 "CurveOrders$Numbering" "cellOfIndex" "[I", .fieldLink RX2 22 "CurveOrders$Numbering" "indexOfCell" "[I", .methodLink RX2 25 yX2_divideSquares, .instanceMethod yX2_divideSquares, .selects RX2 yX2_divideSquares yX2_divideSquares, .initialized RX2, .code yX2_divideSquares cX2_divideSquares 11 none] ++ wsX20)
def wsX2_holds : List Cond := .code yX2_holds cX2_holds 3 (some .boolean) :: ([.fieldLink RX2 9 "CurveOrders$Numbering" "side" "I"] ++ wsX20)
def wsX2_countBreaks : List Cond := .code yX2_countBreaks cX2_countBreaks 3 (some .int) :: ([.fieldLink RX2 15 "CurveOrders$Numbering" "cells" "I", .methodLink RX2 33 Lib.Math.abs.name, .static Lib.Math.abs.name, .initialized "java/lang/Math", .code Lib.Math.abs.name Lib.Math.abs.code 1 (some .int), .methodLink RX2 29 yX2_xAt, .instanceMethod yX2_xAt, .selects RX2 yX2_xAt yX2_xAt, .initialized RX2, .code yX2_xAt cX2_xAt 2 (some .int), .fieldLink RX2 18 "CurveOrders$Numbering" "cellOfIndex" "[I", .methodLink RX2 38 yX2_yAt, .instanceMethod yX2_yAt, .selects RX2 yX2_yAt yX2_yAt, .code yX2_yAt cX2_yAt 2 (some .int)] ++ wsX20)
def wsX2_greatestDifference : List Cond := .code yX2_greatestDifference cX2_greatestDifference 6 (some .int) :: ([.fieldLink RX2 9 "CurveOrders$Numbering" "side" "I", .methodLink RX2 33 Lib.Math.abs.name, .static Lib.Math.abs.name, .initialized "java/lang/Math", .code Lib.Math.abs.name Lib.Math.abs.code 1 (some .int), .methodLink RX2 45 Lib.Math.max.name, .static Lib.Math.max.name, .code Lib.Math.max.name Lib.Math.max.code 2 (some .int), .methodLink RX2 41 yX2_indexOf, .instanceMethod yX2_indexOf, .selects RX2 yX2_indexOf yX2_indexOf, .initialized RX2, .code yX2_indexOf cX2_indexOf 3 (some .int), .fieldLink RX2 22 "CurveOrders$Numbering" "indexOfCell" "[I"] ++ wsX20)
def wsX2_countPlaces : List Cond := .code yX2_countPlaces cX2_countPlaces 6 (some .int) :: ([.methodLink RX2 45 Lib.Math.max.name, .static Lib.Math.max.name, .initialized "java/lang/Math", .code Lib.Math.max.name Lib.Math.max.code 2 (some .int), .fieldLink RX2 9 "CurveOrders$Numbering" "side" "I", .methodLink RX2 56 Lib.Math.min.name, .static Lib.Math.min.name, .code Lib.Math.min.name Lib.Math.min.code 2 (some .int)] ++ wsX20)
def wsX2_countRectangles : List Cond := .code yX2_countRectangles cX2_countRectangles 5 (some .int) :: ([.methodLink RX2 29 yX2_xAt, .instanceMethod yX2_xAt, .selects RX2 yX2_xAt yX2_xAt, .initialized RX2, .code yX2_xAt cX2_xAt 2 (some .int), .fieldLink RX2 18 "CurveOrders$Numbering" "cellOfIndex" "[I", .methodLink RX2 52 yX2_countPlaces, .instanceMethod yX2_countPlaces, .selects RX2 yX2_countPlaces yX2_countPlaces, .code yX2_countPlaces cX2_countPlaces 6 (some .int), .methodLink RX2 45 Lib.Math.max.name, .static Lib.Math.max.name, .initialized "java/lang/Math", .code Lib.Math.max.name Lib.Math.max.code 2 (some .int), .fieldLink RX2 9 "CurveOrders$Numbering" "side" "I", .methodLink RX2 56 Lib.Math.min.name, .static Lib.Math.min.name, .code Lib.Math.min.name Lib.Math.min.code 2 (some .int), .methodLink RX2 38 yX2_yAt, .instanceMethod yX2_yAt, .selects RX2 yX2_yAt yX2_yAt, .code yX2_yAt cX2_yAt 2 (some .int)] ++ wsX20)
def wsX2_countIntervalsOfAll_r1 : List Cond := [Cond.fieldLink RX2 15 "CurveOrders$Numbering" "cells" "I", Cond.methodLink RX2 48 yX2_countRectangles, Cond.instanceMethod yX2_countRectangles, Cond.selects RX2 yX2_countRectangles yX2_countRectangles, Cond.initialized RX2, Cond.code yX2_countRectangles cX2_countRectangles 5 (some .int), Cond.methodLink RX2 29 yX2_xAt, Cond.instanceMethod yX2_xAt, Cond.selects RX2 yX2_xAt yX2_xAt, Cond.code yX2_xAt cX2_xAt 2 (some .int), Cond.fieldLink RX2 18 "CurveOrders$Numbering" "cellOfIndex" "[I", Cond.methodLink RX2 52 yX2_countPlaces, Cond.instanceMethod yX2_countPlaces, Cond.selects RX2 yX2_countPlaces yX2_countPlaces, Cond.code yX2_countPlaces cX2_countPlaces 6 (some .int), Cond.methodLink RX2 45 Lib.Math.max.name, Cond.static Lib.Math.max.name, Cond.initialized "java/lang/Math", Cond.code Lib.Math.max.name Lib.Math.max.code 2 (some .int), Cond.fieldLink RX2 9 "CurveOrders$Numbering" "side" "I", Cond.methodLink RX2 56 Lib.Math.min.name, Cond.static Lib.Math.min.name, Cond.code Lib.Math.min.name Lib.Math.min.code 2 (some .int), Cond.methodLink RX2 38 yX2_yAt]
def wsX2_countIntervalsOfAll_r2 : List Cond := [Cond.instanceMethod yX2_yAt, Cond.selects RX2 yX2_yAt yX2_yAt, Cond.code yX2_yAt cX2_yAt 2 (some .int)]
def wsX2_countIntervalsOfAll : List Cond := .code yX2_countIntervalsOfAll cX2_countIntervalsOfAll 5 (some .int) :: ((wsX2_countIntervalsOfAll_r1 ++ wsX2_countIntervalsOfAll_r2) ++ wsX20)
def wsX3_init : List Cond := .code yX3_init cX3_init 1 none :: ([.methodLink RX3 3 objectInit, .instanceMethod objectInit, .code objectInit ⟨#[0xb1]⟩ 1 none, .fieldLink RX3 9 "CurveOrders$PointSet" "count" "I", .arrayClass .int, .fieldLink RX3 15 "CurveOrders$PointSet" "cells" "[I"] ++ wsX30)
def wsX3_find : List Cond := .code yX3_find cX3_find 4 (some .int) :: ([.fieldLink RX3 9 "CurveOrders$PointSet" "count" "I", .fieldLink RX3 15 "CurveOrders$PointSet" "cells" "[I"] ++ wsX30)
def wsX3_add : List Cond := .code yX3_add cX3_add 3 (some .boolean) :: ([.fieldLink RX3 9 "CurveOrders$PointSet" "count" "I", .fieldLink RX3 15 "CurveOrders$PointSet" "cells" "[I"] ++ wsX30)
def wsX3_remove : List Cond := .code yX3_remove cX3_remove 4 (some .boolean) :: ([.fieldLink RX3 9 "CurveOrders$PointSet" "count" "I", .fieldLink RX3 15 "CurveOrders$PointSet" "cells" "[I", .methodLink RX3 19 yX3_find, .instanceMethod yX3_find, .selects RX3 yX3_find yX3_find, .initialized RX3, .code yX3_find cX3_find 4 (some .int)] ++ wsX30)
def wsX3_removeAll : List Cond := .code yX3_removeAll cX3_removeAll 1 none :: ([.fieldLink RX3 9 "CurveOrders$PointSet" "count" "I"] ++ wsX30)
def wsX3_copyFrom : List Cond := .code yX3_copyFrom cX3_copyFrom 2 none :: ([.fieldLink RX3 9 "CurveOrders$PointSet" "count" "I", .fieldLink RX3 15 "CurveOrders$PointSet" "cells" "[I", .methodLink RX3 23 arraycopyName, .native arraycopyName, .static arraycopyName, .initialized "java/lang/System"] ++ wsX30)
def wsX3_findNearest : List Cond := .code yX3_findNearest cX3_findNearest 7 (some .int) :: ([.fieldLink RX3 9 "CurveOrders$PointSet" "count" "I", .methodLink RX3 38 Lib.Math.abs.name, .static Lib.Math.abs.name, .initialized "java/lang/Math", .code Lib.Math.abs.name Lib.Math.abs.code 1 (some .int), .methodLink RX3 34 yX3_indexOfPoint, .instanceMethod yX3_indexOfPoint, .selects RX3 yX3_indexOfPoint yX3_indexOfPoint, .initialized RX3, .code yX3_indexOfPoint cX3_indexOfPoint 3 (some .int), .fieldLink RX3 15 "CurveOrders$PointSet" "cells" "[I", .methodLink RX3 29 yX2_indexOf, .instanceMethod yX2_indexOf, .selects RX2 yX2_indexOf yX2_indexOf, .initialized RX2, .code yX2_indexOf cX2_indexOf 3 (some .int), .fieldLink RX2 22 "CurveOrders$Numbering" "indexOfCell" "[I"] ++ wsX30 ++ wsX20)
def wsX4_init : List Cond := .code yX4_init cX4_init 1 none :: ([.methodLink RX4 1 objectInit, .instanceMethod objectInit, .code objectInit ⟨#[0xb1]⟩ 1 none, .fieldLink RX4 7 "CurveOrders$Rectangle" "left" "I", .fieldLink RX4 13 "CurveOrders$Rectangle" "below" "I", .fieldLink RX4 16 "CurveOrders$Rectangle" "right" "I", .fieldLink RX4 19 "CurveOrders$Rectangle" "above" "I"] ++ wsX40)
def wsX4_setEdges : List Cond := .code yX4_setEdges cX4_setEdges 5 none :: ([.fieldLink RX4 7 "CurveOrders$Rectangle" "left" "I", .fieldLink RX4 13 "CurveOrders$Rectangle" "below" "I", .fieldLink RX4 16 "CurveOrders$Rectangle" "right" "I", .fieldLink RX4 19 "CurveOrders$Rectangle" "above" "I"] ++ wsX40)
def wsX4_setWhole : List Cond := .code yX4_setWhole cX4_setWhole 2 none :: ([.methodLink RX4 22 yX4_setEdges, .instanceMethod yX4_setEdges, .selects RX4 yX4_setEdges yX4_setEdges, .initialized RX4, .code yX4_setEdges cX4_setEdges 5 none, .fieldLink RX4 7 "CurveOrders$Rectangle" "left" "I", .fieldLink RX4 13 "CurveOrders$Rectangle" "below" "I", .fieldLink RX4 16 "CurveOrders$Rectangle" "right" "I", .fieldLink RX4 19 "CurveOrders$Rectangle" "above" "I"] ++ wsX40)
def wsX6_init : List Cond := .code yX6_init cX6_init 1 none :: ([.methodLink RX6 3 objectInit, .instanceMethod objectInit, .code objectInit ⟨#[0xb1]⟩ 1 none, .fieldLink RX6 9 "CurveOrders$StateTable" "count" "I", .arrayClass .int, .fieldLink RX6 15 "CurveOrders$StateTable" "visits" "[I", .methodLink RX6 22 arraycopyName, .native arraycopyName, .static arraycopyName, .initialized "java/lang/System"] ++ wsX60)
def wsX5_init_r1 : List Cond := [Cond.methodLink RX5 3 objectInit, Cond.instanceMethod objectInit, Cond.code objectInit ⟨#[0xb1]⟩ 1 none, Cond.fieldLink RX5 9 "CurveOrders$Setup" "levels" "I", Cond.fieldLink RX5 15 "CurveOrders$Setup" "curve" "I", Cond.classLink RX5 18 RX6, Cond.instantiable RX6 2, Cond.initialized RX6, Cond.fieldLink RX5 21 "CurveOrders$Setup" "table" "LCurveOrders$StateTable;", Cond.classLink RX5 25 RX4, Cond.instantiable RX4 4, Cond.initialized RX4, Cond.fieldLink RX5 28 "CurveOrders$Setup" "range" "LCurveOrders$Rectangle;", Cond.classLink RX5 32 RX3, Cond.instantiable RX3 2, Cond.initialized RX3, Cond.fieldLink RX5 35 "CurveOrders$Setup" "points" "LCurveOrders$PointSet;", Cond.fieldLink RX5 39 "CurveOrders$Setup" "bucket" "I", Cond.classLink RX5 42 RX1, Cond.instantiable RX1 2, Cond.initialized RX1, Cond.fieldLink RX5 45 "CurveOrders$Setup" "division" "LCurveOrders$Division;", Cond.methodLink RX5 20 yX6_init, Cond.instanceMethod yX6_init]
def wsX5_init_r2 : List Cond := [Cond.code yX6_init cX6_init 1 none, Cond.methodLink RX6 3 objectInit, Cond.fieldLink RX6 9 "CurveOrders$StateTable" "count" "I", Cond.arrayClass .int, Cond.fieldLink RX6 15 "CurveOrders$StateTable" "visits" "[I", Cond.methodLink RX6 22 arraycopyName, Cond.native arraycopyName, Cond.static arraycopyName, Cond.initialized "java/lang/System", Cond.instanceMethod yX4_init, Cond.code yX4_init cX4_init 1 none, Cond.methodLink RX4 1 objectInit, Cond.fieldLink RX4 7 "CurveOrders$Rectangle" "left" "I", Cond.fieldLink RX4 13 "CurveOrders$Rectangle" "below" "I", Cond.fieldLink RX4 16 "CurveOrders$Rectangle" "right" "I", Cond.fieldLink RX4 19 "CurveOrders$Rectangle" "above" "I", Cond.instanceMethod yX3_init, Cond.code yX3_init cX3_init 1 none, Cond.methodLink RX3 3 objectInit, Cond.fieldLink RX3 9 "CurveOrders$PointSet" "count" "I", Cond.fieldLink RX3 15 "CurveOrders$PointSet" "cells" "[I", Cond.instanceMethod yX1_init, Cond.code yX1_init cX1_init 1 none, Cond.methodLink RX1 3 objectInit]
def wsX5_init_r3 : List Cond := [Cond.fieldLink RX1 9 "CurveOrders$Division" "count" "I", Cond.fieldLink RX1 15 "CurveOrders$Division" "starts" "[I"]
def wsX5_init : List Cond := .code yX5_init cX5_init 1 none :: ((wsX5_init_r1 ++ (wsX5_init_r2 ++ wsX5_init_r3)) ++ wsX50 ++ wsX60 ++ wsX40 ++ wsX30 ++ wsX10)
def wsX5_stateCount : List Cond := .code yX5_stateCount cX5_stateCount 1 (some .int) :: ([.fieldLink RX5 15 "CurveOrders$Setup" "curve" "I", .fieldLink RX5 21 "CurveOrders$Setup" "table" "LCurveOrders$StateTable;", .fieldLink RX5 49 "CurveOrders$StateTable" "count" "I"] ++ wsX50 ++ wsX60)
def wsX5_visitsOfCurve : List Cond := .code yX5_visitsOfCurve cX5_visitsOfCurve 1 (some (.array .int)) :: ([.fieldLink RX5 15 "CurveOrders$Setup" "curve" "I", .fieldLink RX5 21 "CurveOrders$Setup" "table" "LCurveOrders$StateTable;", .fieldLink RX5 56 "CurveOrders$StateTable" "visits" "[I"] ++ wsX50 ++ wsX60)
def wsX6_copyFrom : List Cond := .code yX6_copyFrom cX6_copyFrom 2 none :: ([.fieldLink RX6 9 "CurveOrders$StateTable" "count" "I", .fieldLink RX6 15 "CurveOrders$StateTable" "visits" "[I", .methodLink RX6 22 arraycopyName, .native arraycopyName, .static arraycopyName, .initialized "java/lang/System"] ++ wsX60)
def wsX5_copyFrom_r1 : List Cond := [Cond.fieldLink RX5 9 "CurveOrders$Setup" "levels" "I", Cond.fieldLink RX5 15 "CurveOrders$Setup" "curve" "I", Cond.fieldLink RX5 21 "CurveOrders$Setup" "table" "LCurveOrders$StateTable;", Cond.fieldLink RX5 28 "CurveOrders$Setup" "range" "LCurveOrders$Rectangle;", Cond.fieldLink RX5 66 "CurveOrders$Rectangle" "left" "I", Cond.fieldLink RX5 69 "CurveOrders$Rectangle" "below" "I", Cond.fieldLink RX5 72 "CurveOrders$Rectangle" "right" "I", Cond.fieldLink RX5 75 "CurveOrders$Rectangle" "above" "I", Cond.fieldLink RX5 35 "CurveOrders$Setup" "points" "LCurveOrders$PointSet;", Cond.fieldLink RX5 39 "CurveOrders$Setup" "bucket" "I", Cond.fieldLink RX5 45 "CurveOrders$Setup" "division" "LCurveOrders$Division;", Cond.methodLink RX5 62 yX6_copyFrom, Cond.instanceMethod yX6_copyFrom, Cond.selects RX6 yX6_copyFrom yX6_copyFrom, Cond.initialized RX6, Cond.code yX6_copyFrom cX6_copyFrom 2 none, Cond.fieldLink RX6 9 "CurveOrders$StateTable" "count" "I", Cond.fieldLink RX6 15 "CurveOrders$StateTable" "visits" "[I", Cond.methodLink RX6 22 arraycopyName, Cond.native arraycopyName, Cond.static arraycopyName, Cond.initialized "java/lang/System", Cond.methodLink RX5 78 yX4_setEdges, Cond.instanceMethod yX4_setEdges]
def wsX5_copyFrom_r2 : List Cond := [Cond.selects RX4 yX4_setEdges yX4_setEdges, Cond.initialized RX4, Cond.code yX4_setEdges cX4_setEdges 5 none, Cond.fieldLink RX4 7 "CurveOrders$Rectangle" "left" "I", Cond.fieldLink RX4 13 "CurveOrders$Rectangle" "below" "I", Cond.fieldLink RX4 16 "CurveOrders$Rectangle" "right" "I", Cond.fieldLink RX4 19 "CurveOrders$Rectangle" "above" "I", Cond.methodLink RX5 82 yX3_copyFrom, Cond.instanceMethod yX3_copyFrom, Cond.selects RX3 yX3_copyFrom yX3_copyFrom, Cond.initialized RX3, Cond.code yX3_copyFrom cX3_copyFrom 2 none, Cond.fieldLink RX3 9 "CurveOrders$PointSet" "count" "I", Cond.fieldLink RX3 15 "CurveOrders$PointSet" "cells" "[I", Cond.methodLink RX3 23 arraycopyName, Cond.methodLink RX5 85 yX1_copyFrom, Cond.instanceMethod yX1_copyFrom, Cond.selects RX1 yX1_copyFrom yX1_copyFrom, Cond.initialized RX1, Cond.code yX1_copyFrom cX1_copyFrom 2 none, Cond.fieldLink RX1 9 "CurveOrders$Division" "count" "I", Cond.fieldLink RX1 15 "CurveOrders$Division" "starts" "[I", Cond.methodLink RX1 38 arraycopyName]
def wsX5_copyFrom : List Cond := .code yX5_copyFrom cX5_copyFrom 2 none :: ((wsX5_copyFrom_r1 ++ wsX5_copyFrom_r2) ++ wsX50 ++ wsX40 ++ wsX60 ++ wsX30 ++ wsX10)
def wsX8_countStates : List Cond := .code yX8_countStates cX8_countStates 1 (some .int) :: ([.fieldLink RX8 9 "CurveOrders$Text" "length" "I"] ++ wsX80)
def wsX8_digitAt : List Cond := .code yX8_digitAt cX8_digitAt 3 (some .int) :: ([.fieldLink RX8 15 "CurveOrders$Text" "bytes" "[I"] ++ wsX80)
def wsX6_takeFrom : List Cond := .code yX6_takeFrom cX6_takeFrom 5 none :: ([.fieldLink RX6 9 "CurveOrders$StateTable" "count" "I", .fieldLink RX6 15 "CurveOrders$StateTable" "visits" "[I", .methodLink RX6 28 yX8_countStates, .instanceMethod yX8_countStates, .selects RX8 yX8_countStates yX8_countStates, .initialized RX8, .code yX8_countStates cX8_countStates 1 (some .int), .fieldLink RX8 9 "CurveOrders$Text" "length" "I", .methodLink RX6 34 yX8_digitAt, .instanceMethod yX8_digitAt, .selects RX8 yX8_digitAt yX8_digitAt, .code yX8_digitAt cX8_digitAt 3 (some .int), .fieldLink RX8 15 "CurveOrders$Text" "bytes" "[I"] ++ wsX60 ++ wsX80)
def wsX7_init : List Cond := .code yX7_init cX7_init 3 none :: ([.methodLink RX7 3 objectInit, .instanceMethod objectInit, .code objectInit ⟨#[0xb1]⟩ 1 none, .fieldLink RX7 9 "CurveOrders$Surroundings" "count" "I", .arrayClass .int, .fieldLink RX7 15 "CurveOrders$Surroundings" "found" "[I", .fieldLink RX7 19 "CurveOrders$Surroundings" "numbering" "LCurveOrders$Numbering;", .fieldLink RX7 23 "CurveOrders$Surroundings" "division" "LCurveOrders$Division;"] ++ wsX70)
def wsX7_leftOf : List Cond := .code yX7_leftOf cX7_leftOf 2 (some .int) :: ([.fieldLink RX7 19 "CurveOrders$Surroundings" "numbering" "LCurveOrders$Numbering;", .fieldLink RX7 23 "CurveOrders$Surroundings" "division" "LCurveOrders$Division;", .fieldLink RX7 27 "CurveOrders$Division" "starts" "[I", .methodLink RX7 32 yX2_xAt, .instanceMethod yX2_xAt, .selects RX2 yX2_xAt yX2_xAt, .initialized RX2, .code yX2_xAt cX2_xAt 2 (some .int), .fieldLink RX2 18 "CurveOrders$Numbering" "cellOfIndex" "[I", .methodLink RX7 38 yX1_sideOf, .instanceMethod yX1_sideOf, .selects RX1 yX1_sideOf yX1_sideOf, .initialized RX1, .code yX1_sideOf cX1_sideOf 4 (some .int), .fieldLink RX1 15 "CurveOrders$Division" "starts" "[I"] ++ wsX70 ++ wsX10 ++ wsX20)
def wsX7_belowOf : List Cond := .code yX7_belowOf cX7_belowOf 2 (some .int) :: ([.fieldLink RX7 19 "CurveOrders$Surroundings" "numbering" "LCurveOrders$Numbering;", .fieldLink RX7 23 "CurveOrders$Surroundings" "division" "LCurveOrders$Division;", .fieldLink RX7 27 "CurveOrders$Division" "starts" "[I", .methodLink RX7 41 yX2_yAt, .instanceMethod yX2_yAt, .selects RX2 yX2_yAt yX2_yAt, .initialized RX2, .code yX2_yAt cX2_yAt 2 (some .int), .fieldLink RX2 18 "CurveOrders$Numbering" "cellOfIndex" "[I", .methodLink RX7 38 yX1_sideOf, .instanceMethod yX1_sideOf, .selects RX1 yX1_sideOf yX1_sideOf, .initialized RX1, .code yX1_sideOf cX1_sideOf 4 (some .int), .fieldLink RX1 15 "CurveOrders$Division" "starts" "[I"] ++ wsX70 ++ wsX10 ++ wsX20)
def wsX7_stepAcross : List Cond := .code yX7_stepAcross cX7_stepAcross 3 (some .int) :: ([])
def wsX7_insert : List Cond := .code yX7_insert cX7_insert 3 none :: ([.fieldLink RX7 9 "CurveOrders$Surroundings" "count" "I", .fieldLink RX7 15 "CurveOrders$Surroundings" "found" "[I"] ++ wsX70)
def wsX7_findBeyond_r1 : List Cond := [Cond.fieldLink RX7 23 "CurveOrders$Surroundings" "division" "LCurveOrders$Division;", Cond.fieldLink RX7 9 "CurveOrders$Surroundings" "count" "I", Cond.fieldLink RX7 19 "CurveOrders$Surroundings" "numbering" "LCurveOrders$Numbering;", Cond.methodLink RX7 69 Lib.Math.max.name, Cond.static Lib.Math.max.name, Cond.initialized "java/lang/Math", Cond.code Lib.Math.max.name Lib.Math.max.code 2 (some .int), Cond.methodLink RX7 38 yX1_sideOf, Cond.instanceMethod yX1_sideOf, Cond.selects RX1 yX1_sideOf yX1_sideOf, Cond.initialized RX1, Cond.code yX1_sideOf cX1_sideOf 4 (some .int), Cond.fieldLink RX1 15 "CurveOrders$Division" "starts" "[I", Cond.methodLink RX7 44 yX7_leftOf, Cond.instanceMethod yX7_leftOf, Cond.selects RX7 yX7_leftOf yX7_leftOf, Cond.initialized RX7, Cond.code yX7_leftOf cX7_leftOf 2 (some .int), Cond.fieldLink RX7 27 "CurveOrders$Division" "starts" "[I", Cond.methodLink RX7 32 yX2_xAt, Cond.instanceMethod yX2_xAt, Cond.selects RX2 yX2_xAt yX2_xAt, Cond.initialized RX2, Cond.code yX2_xAt cX2_xAt 2 (some .int)]
def wsX7_findBeyond_r2 : List Cond := [Cond.fieldLink RX2 18 "CurveOrders$Numbering" "cellOfIndex" "[I", Cond.methodLink RX7 47 yX7_stepAcross, Cond.static yX7_stepAcross, Cond.code yX7_stepAcross cX7_stepAcross 3 (some .int), Cond.methodLink RX7 51 yX7_belowOf, Cond.instanceMethod yX7_belowOf, Cond.selects RX7 yX7_belowOf yX7_belowOf, Cond.code yX7_belowOf cX7_belowOf 2 (some .int), Cond.methodLink RX7 41 yX2_yAt, Cond.instanceMethod yX2_yAt, Cond.selects RX2 yX2_yAt yX2_yAt, Cond.code yX2_yAt cX2_yAt 2 (some .int), Cond.methodLink RX7 54 yX2_holds, Cond.instanceMethod yX2_holds, Cond.selects RX2 yX2_holds yX2_holds, Cond.code yX2_holds cX2_holds 3 (some .boolean), Cond.fieldLink RX2 9 "CurveOrders$Numbering" "side" "I", Cond.methodLink RX7 58 yX2_indexOf, Cond.instanceMethod yX2_indexOf, Cond.selects RX2 yX2_indexOf yX2_indexOf, Cond.code yX2_indexOf cX2_indexOf 3 (some .int), Cond.fieldLink RX2 22 "CurveOrders$Numbering" "indexOfCell" "[I", Cond.methodLink RX7 62 yX1_leafOfIndex, Cond.instanceMethod yX1_leafOfIndex]
def wsX7_findBeyond_r3 : List Cond := [Cond.selects RX1 yX1_leafOfIndex yX1_leafOfIndex, Cond.code yX1_leafOfIndex cX1_leafOfIndex 5 (some .int), Cond.fieldLink RX1 9 "CurveOrders$Division" "count" "I", Cond.methodLink RX7 65 yX7_insert, Cond.instanceMethod yX7_insert, Cond.selects RX7 yX7_insert yX7_insert, Cond.code yX7_insert cX7_insert 3 none, Cond.fieldLink RX7 15 "CurveOrders$Surroundings" "found" "[I"]
def wsX7_findBeyond : List Cond := .code yX7_findBeyond cX7_findBeyond 9 none :: ((wsX7_findBeyond_r1 ++ (wsX7_findBeyond_r2 ++ wsX7_findBeyond_r3)) ++ wsX70 ++ wsX10 ++ wsX20)
def wsX7_findLowest_r1 : List Cond := [Cond.fieldLink RX7 9 "CurveOrders$Surroundings" "count" "I", Cond.fieldLink RX7 15 "CurveOrders$Surroundings" "found" "[I", Cond.methodLink RX7 74 yX7_findBeyond, Cond.instanceMethod yX7_findBeyond, Cond.selects RX7 yX7_findBeyond yX7_findBeyond, Cond.initialized RX7, Cond.code yX7_findBeyond cX7_findBeyond 9 none, Cond.fieldLink RX7 23 "CurveOrders$Surroundings" "division" "LCurveOrders$Division;", Cond.fieldLink RX7 19 "CurveOrders$Surroundings" "numbering" "LCurveOrders$Numbering;", Cond.methodLink RX7 69 Lib.Math.max.name, Cond.static Lib.Math.max.name, Cond.initialized "java/lang/Math", Cond.code Lib.Math.max.name Lib.Math.max.code 2 (some .int), Cond.methodLink RX7 38 yX1_sideOf, Cond.instanceMethod yX1_sideOf, Cond.selects RX1 yX1_sideOf yX1_sideOf, Cond.initialized RX1, Cond.code yX1_sideOf cX1_sideOf 4 (some .int), Cond.fieldLink RX1 15 "CurveOrders$Division" "starts" "[I", Cond.methodLink RX7 44 yX7_leftOf, Cond.instanceMethod yX7_leftOf, Cond.selects RX7 yX7_leftOf yX7_leftOf, Cond.code yX7_leftOf cX7_leftOf 2 (some .int), Cond.fieldLink RX7 27 "CurveOrders$Division" "starts" "[I"]
def wsX7_findLowest_r2 : List Cond := [Cond.methodLink RX7 32 yX2_xAt, Cond.instanceMethod yX2_xAt, Cond.selects RX2 yX2_xAt yX2_xAt, Cond.initialized RX2, Cond.code yX2_xAt cX2_xAt 2 (some .int), Cond.fieldLink RX2 18 "CurveOrders$Numbering" "cellOfIndex" "[I", Cond.methodLink RX7 47 yX7_stepAcross, Cond.static yX7_stepAcross, Cond.code yX7_stepAcross cX7_stepAcross 3 (some .int), Cond.methodLink RX7 51 yX7_belowOf, Cond.instanceMethod yX7_belowOf, Cond.selects RX7 yX7_belowOf yX7_belowOf, Cond.code yX7_belowOf cX7_belowOf 2 (some .int), Cond.methodLink RX7 41 yX2_yAt, Cond.instanceMethod yX2_yAt, Cond.selects RX2 yX2_yAt yX2_yAt, Cond.code yX2_yAt cX2_yAt 2 (some .int), Cond.methodLink RX7 54 yX2_holds, Cond.instanceMethod yX2_holds, Cond.selects RX2 yX2_holds yX2_holds, Cond.code yX2_holds cX2_holds 3 (some .boolean), Cond.fieldLink RX2 9 "CurveOrders$Numbering" "side" "I", Cond.methodLink RX7 58 yX2_indexOf, Cond.instanceMethod yX2_indexOf]
def wsX7_findLowest_r3 : List Cond := [Cond.selects RX2 yX2_indexOf yX2_indexOf, Cond.code yX2_indexOf cX2_indexOf 3 (some .int), Cond.fieldLink RX2 22 "CurveOrders$Numbering" "indexOfCell" "[I", Cond.methodLink RX7 62 yX1_leafOfIndex, Cond.instanceMethod yX1_leafOfIndex, Cond.selects RX1 yX1_leafOfIndex yX1_leafOfIndex, Cond.code yX1_leafOfIndex cX1_leafOfIndex 5 (some .int), Cond.fieldLink RX1 9 "CurveOrders$Division" "count" "I", Cond.methodLink RX7 65 yX7_insert, Cond.instanceMethod yX7_insert, Cond.selects RX7 yX7_insert yX7_insert, Cond.code yX7_insert cX7_insert 3 none]
def wsX7_findLowest : List Cond := .code yX7_findLowest cX7_findLowest 3 (some .int) :: ((wsX7_findLowest_r1 ++ (wsX7_findLowest_r2 ++ wsX7_findLowest_r3)) ++ wsX70 ++ wsX10 ++ wsX20)
def wsX7_countSteps_r1 : List Cond := [Cond.methodLink RX7 78 yX7_findLowest, Cond.instanceMethod yX7_findLowest, Cond.selects RX7 yX7_findLowest yX7_findLowest, Cond.initialized RX7, Cond.code yX7_findLowest cX7_findLowest 3 (some .int), Cond.fieldLink RX7 9 "CurveOrders$Surroundings" "count" "I", Cond.fieldLink RX7 15 "CurveOrders$Surroundings" "found" "[I", Cond.methodLink RX7 74 yX7_findBeyond, Cond.instanceMethod yX7_findBeyond, Cond.selects RX7 yX7_findBeyond yX7_findBeyond, Cond.code yX7_findBeyond cX7_findBeyond 9 none, Cond.fieldLink RX7 23 "CurveOrders$Surroundings" "division" "LCurveOrders$Division;", Cond.fieldLink RX7 19 "CurveOrders$Surroundings" "numbering" "LCurveOrders$Numbering;", Cond.methodLink RX7 69 Lib.Math.max.name, Cond.static Lib.Math.max.name, Cond.initialized "java/lang/Math", Cond.code Lib.Math.max.name Lib.Math.max.code 2 (some .int), Cond.methodLink RX7 38 yX1_sideOf, Cond.instanceMethod yX1_sideOf, Cond.selects RX1 yX1_sideOf yX1_sideOf, Cond.initialized RX1, Cond.code yX1_sideOf cX1_sideOf 4 (some .int), Cond.fieldLink RX1 15 "CurveOrders$Division" "starts" "[I", Cond.methodLink RX7 44 yX7_leftOf]
def wsX7_countSteps_r2 : List Cond := [Cond.instanceMethod yX7_leftOf, Cond.selects RX7 yX7_leftOf yX7_leftOf, Cond.code yX7_leftOf cX7_leftOf 2 (some .int), Cond.fieldLink RX7 27 "CurveOrders$Division" "starts" "[I", Cond.methodLink RX7 32 yX2_xAt, Cond.instanceMethod yX2_xAt, Cond.selects RX2 yX2_xAt yX2_xAt, Cond.initialized RX2, Cond.code yX2_xAt cX2_xAt 2 (some .int), Cond.fieldLink RX2 18 "CurveOrders$Numbering" "cellOfIndex" "[I", Cond.methodLink RX7 47 yX7_stepAcross, Cond.static yX7_stepAcross, Cond.code yX7_stepAcross cX7_stepAcross 3 (some .int), Cond.methodLink RX7 51 yX7_belowOf, Cond.instanceMethod yX7_belowOf, Cond.selects RX7 yX7_belowOf yX7_belowOf, Cond.code yX7_belowOf cX7_belowOf 2 (some .int), Cond.methodLink RX7 41 yX2_yAt, Cond.instanceMethod yX2_yAt, Cond.selects RX2 yX2_yAt yX2_yAt, Cond.code yX2_yAt cX2_yAt 2 (some .int), Cond.methodLink RX7 54 yX2_holds, Cond.instanceMethod yX2_holds, Cond.selects RX2 yX2_holds yX2_holds]
def wsX7_countSteps_r3 : List Cond := [Cond.code yX2_holds cX2_holds 3 (some .boolean), Cond.fieldLink RX2 9 "CurveOrders$Numbering" "side" "I", Cond.methodLink RX7 58 yX2_indexOf, Cond.instanceMethod yX2_indexOf, Cond.selects RX2 yX2_indexOf yX2_indexOf, Cond.code yX2_indexOf cX2_indexOf 3 (some .int), Cond.fieldLink RX2 22 "CurveOrders$Numbering" "indexOfCell" "[I", Cond.methodLink RX7 62 yX1_leafOfIndex, Cond.instanceMethod yX1_leafOfIndex, Cond.selects RX1 yX1_leafOfIndex yX1_leafOfIndex, Cond.code yX1_leafOfIndex cX1_leafOfIndex 5 (some .int), Cond.fieldLink RX1 9 "CurveOrders$Division" "count" "I", Cond.methodLink RX7 65 yX7_insert, Cond.instanceMethod yX7_insert, Cond.selects RX7 yX7_insert yX7_insert, Cond.code yX7_insert cX7_insert 3 none]
def wsX7_countSteps : List Cond := .code yX7_countSteps cX7_countSteps 5 (some .int) :: ((wsX7_countSteps_r1 ++ (wsX7_countSteps_r2 ++ wsX7_countSteps_r3)) ++ wsX70 ++ wsX10 ++ wsX20)
def wsX7_leafAfter_r1 : List Cond := [Cond.methodLink RX7 78 yX7_findLowest, Cond.instanceMethod yX7_findLowest, Cond.selects RX7 yX7_findLowest yX7_findLowest, Cond.initialized RX7, Cond.code yX7_findLowest cX7_findLowest 3 (some .int), Cond.fieldLink RX7 9 "CurveOrders$Surroundings" "count" "I", Cond.fieldLink RX7 15 "CurveOrders$Surroundings" "found" "[I", Cond.methodLink RX7 74 yX7_findBeyond, Cond.instanceMethod yX7_findBeyond, Cond.selects RX7 yX7_findBeyond yX7_findBeyond, Cond.code yX7_findBeyond cX7_findBeyond 9 none, Cond.fieldLink RX7 23 "CurveOrders$Surroundings" "division" "LCurveOrders$Division;", Cond.fieldLink RX7 19 "CurveOrders$Surroundings" "numbering" "LCurveOrders$Numbering;", Cond.methodLink RX7 69 Lib.Math.max.name, Cond.static Lib.Math.max.name, Cond.initialized "java/lang/Math", Cond.code Lib.Math.max.name Lib.Math.max.code 2 (some .int), Cond.methodLink RX7 38 yX1_sideOf, Cond.instanceMethod yX1_sideOf, Cond.selects RX1 yX1_sideOf yX1_sideOf, Cond.initialized RX1, Cond.code yX1_sideOf cX1_sideOf 4 (some .int), Cond.fieldLink RX1 15 "CurveOrders$Division" "starts" "[I", Cond.methodLink RX7 44 yX7_leftOf]
def wsX7_leafAfter_r2 : List Cond := [Cond.instanceMethod yX7_leftOf, Cond.selects RX7 yX7_leftOf yX7_leftOf, Cond.code yX7_leftOf cX7_leftOf 2 (some .int), Cond.fieldLink RX7 27 "CurveOrders$Division" "starts" "[I", Cond.methodLink RX7 32 yX2_xAt, Cond.instanceMethod yX2_xAt, Cond.selects RX2 yX2_xAt yX2_xAt, Cond.initialized RX2, Cond.code yX2_xAt cX2_xAt 2 (some .int), Cond.fieldLink RX2 18 "CurveOrders$Numbering" "cellOfIndex" "[I", Cond.methodLink RX7 47 yX7_stepAcross, Cond.static yX7_stepAcross, Cond.code yX7_stepAcross cX7_stepAcross 3 (some .int), Cond.methodLink RX7 51 yX7_belowOf, Cond.instanceMethod yX7_belowOf, Cond.selects RX7 yX7_belowOf yX7_belowOf, Cond.code yX7_belowOf cX7_belowOf 2 (some .int), Cond.methodLink RX7 41 yX2_yAt, Cond.instanceMethod yX2_yAt, Cond.selects RX2 yX2_yAt yX2_yAt, Cond.code yX2_yAt cX2_yAt 2 (some .int), Cond.methodLink RX7 54 yX2_holds, Cond.instanceMethod yX2_holds, Cond.selects RX2 yX2_holds yX2_holds]
def wsX7_leafAfter_r3 : List Cond := [Cond.code yX2_holds cX2_holds 3 (some .boolean), Cond.fieldLink RX2 9 "CurveOrders$Numbering" "side" "I", Cond.methodLink RX7 58 yX2_indexOf, Cond.instanceMethod yX2_indexOf, Cond.selects RX2 yX2_indexOf yX2_indexOf, Cond.code yX2_indexOf cX2_indexOf 3 (some .int), Cond.fieldLink RX2 22 "CurveOrders$Numbering" "indexOfCell" "[I", Cond.methodLink RX7 62 yX1_leafOfIndex, Cond.instanceMethod yX1_leafOfIndex, Cond.selects RX1 yX1_leafOfIndex yX1_leafOfIndex, Cond.code yX1_leafOfIndex cX1_leafOfIndex 5 (some .int), Cond.fieldLink RX1 9 "CurveOrders$Division" "count" "I", Cond.methodLink RX7 65 yX7_insert, Cond.instanceMethod yX7_insert, Cond.selects RX7 yX7_insert yX7_insert, Cond.code yX7_insert cX7_insert 3 none]
def wsX7_leafAfter : List Cond := .code yX7_leafAfter cX7_leafAfter 6 (some .int) :: ((wsX7_leafAfter_r1 ++ (wsX7_leafAfter_r2 ++ wsX7_leafAfter_r3)) ++ wsX70 ++ wsX10 ++ wsX20)
def wsX7_isTooLarge_r1 : List Cond := [Cond.fieldLink RX7 9 "CurveOrders$Surroundings" "count" "I", Cond.fieldLink RX7 23 "CurveOrders$Surroundings" "division" "LCurveOrders$Division;", Cond.fieldLink RX7 15 "CurveOrders$Surroundings" "found" "[I", Cond.methodLink RX7 74 yX7_findBeyond, Cond.instanceMethod yX7_findBeyond, Cond.selects RX7 yX7_findBeyond yX7_findBeyond, Cond.initialized RX7, Cond.code yX7_findBeyond cX7_findBeyond 9 none, Cond.fieldLink RX7 19 "CurveOrders$Surroundings" "numbering" "LCurveOrders$Numbering;", Cond.methodLink RX7 69 Lib.Math.max.name, Cond.static Lib.Math.max.name, Cond.initialized "java/lang/Math", Cond.code Lib.Math.max.name Lib.Math.max.code 2 (some .int), Cond.methodLink RX7 38 yX1_sideOf, Cond.instanceMethod yX1_sideOf, Cond.selects RX1 yX1_sideOf yX1_sideOf, Cond.initialized RX1, Cond.code yX1_sideOf cX1_sideOf 4 (some .int), Cond.fieldLink RX1 15 "CurveOrders$Division" "starts" "[I", Cond.methodLink RX7 44 yX7_leftOf, Cond.instanceMethod yX7_leftOf, Cond.selects RX7 yX7_leftOf yX7_leftOf, Cond.code yX7_leftOf cX7_leftOf 2 (some .int), Cond.fieldLink RX7 27 "CurveOrders$Division" "starts" "[I"]
def wsX7_isTooLarge_r2 : List Cond := [Cond.methodLink RX7 32 yX2_xAt, Cond.instanceMethod yX2_xAt, Cond.selects RX2 yX2_xAt yX2_xAt, Cond.initialized RX2, Cond.code yX2_xAt cX2_xAt 2 (some .int), Cond.fieldLink RX2 18 "CurveOrders$Numbering" "cellOfIndex" "[I", Cond.methodLink RX7 47 yX7_stepAcross, Cond.static yX7_stepAcross, Cond.code yX7_stepAcross cX7_stepAcross 3 (some .int), Cond.methodLink RX7 51 yX7_belowOf, Cond.instanceMethod yX7_belowOf, Cond.selects RX7 yX7_belowOf yX7_belowOf, Cond.code yX7_belowOf cX7_belowOf 2 (some .int), Cond.methodLink RX7 41 yX2_yAt, Cond.instanceMethod yX2_yAt, Cond.selects RX2 yX2_yAt yX2_yAt, Cond.code yX2_yAt cX2_yAt 2 (some .int), Cond.methodLink RX7 54 yX2_holds, Cond.instanceMethod yX2_holds, Cond.selects RX2 yX2_holds yX2_holds, Cond.code yX2_holds cX2_holds 3 (some .boolean), Cond.fieldLink RX2 9 "CurveOrders$Numbering" "side" "I", Cond.methodLink RX7 58 yX2_indexOf, Cond.instanceMethod yX2_indexOf]
def wsX7_isTooLarge_r3 : List Cond := [Cond.selects RX2 yX2_indexOf yX2_indexOf, Cond.code yX2_indexOf cX2_indexOf 3 (some .int), Cond.fieldLink RX2 22 "CurveOrders$Numbering" "indexOfCell" "[I", Cond.methodLink RX7 62 yX1_leafOfIndex, Cond.instanceMethod yX1_leafOfIndex, Cond.selects RX1 yX1_leafOfIndex yX1_leafOfIndex, Cond.code yX1_leafOfIndex cX1_leafOfIndex 5 (some .int), Cond.fieldLink RX1 9 "CurveOrders$Division" "count" "I", Cond.methodLink RX7 65 yX7_insert, Cond.instanceMethod yX7_insert, Cond.selects RX7 yX7_insert yX7_insert, Cond.code yX7_insert cX7_insert 3 none]
def wsX7_isTooLarge : List Cond := .code yX7_isTooLarge cX7_isTooLarge 4 (some .boolean) :: ((wsX7_isTooLarge_r1 ++ (wsX7_isTooLarge_r2 ++ wsX7_isTooLarge_r3)) ++ wsX70 ++ wsX10 ++ wsX20)
def wsX7_findLowestAround_r1 : List Cond := [Cond.methodLink RX7 93 Lib.Math.min.name, Cond.static Lib.Math.min.name, Cond.initialized "java/lang/Math", Cond.code Lib.Math.min.name Lib.Math.min.code 2 (some .int), Cond.methodLink RX7 78 yX7_findLowest, Cond.instanceMethod yX7_findLowest, Cond.selects RX7 yX7_findLowest yX7_findLowest, Cond.initialized RX7, Cond.code yX7_findLowest cX7_findLowest 3 (some .int), Cond.fieldLink RX7 9 "CurveOrders$Surroundings" "count" "I", Cond.fieldLink RX7 15 "CurveOrders$Surroundings" "found" "[I", Cond.methodLink RX7 74 yX7_findBeyond, Cond.instanceMethod yX7_findBeyond, Cond.selects RX7 yX7_findBeyond yX7_findBeyond, Cond.code yX7_findBeyond cX7_findBeyond 9 none, Cond.fieldLink RX7 23 "CurveOrders$Surroundings" "division" "LCurveOrders$Division;", Cond.fieldLink RX7 19 "CurveOrders$Surroundings" "numbering" "LCurveOrders$Numbering;", Cond.methodLink RX7 69 Lib.Math.max.name, Cond.static Lib.Math.max.name, Cond.code Lib.Math.max.name Lib.Math.max.code 2 (some .int), Cond.methodLink RX7 38 yX1_sideOf, Cond.instanceMethod yX1_sideOf, Cond.selects RX1 yX1_sideOf yX1_sideOf, Cond.initialized RX1]
def wsX7_findLowestAround_r2 : List Cond := [Cond.code yX1_sideOf cX1_sideOf 4 (some .int), Cond.fieldLink RX1 15 "CurveOrders$Division" "starts" "[I", Cond.methodLink RX7 44 yX7_leftOf, Cond.instanceMethod yX7_leftOf, Cond.selects RX7 yX7_leftOf yX7_leftOf, Cond.code yX7_leftOf cX7_leftOf 2 (some .int), Cond.fieldLink RX7 27 "CurveOrders$Division" "starts" "[I", Cond.methodLink RX7 32 yX2_xAt, Cond.instanceMethod yX2_xAt, Cond.selects RX2 yX2_xAt yX2_xAt, Cond.initialized RX2, Cond.code yX2_xAt cX2_xAt 2 (some .int), Cond.fieldLink RX2 18 "CurveOrders$Numbering" "cellOfIndex" "[I", Cond.methodLink RX7 47 yX7_stepAcross, Cond.static yX7_stepAcross, Cond.code yX7_stepAcross cX7_stepAcross 3 (some .int), Cond.methodLink RX7 51 yX7_belowOf, Cond.instanceMethod yX7_belowOf, Cond.selects RX7 yX7_belowOf yX7_belowOf, Cond.code yX7_belowOf cX7_belowOf 2 (some .int), Cond.methodLink RX7 41 yX2_yAt, Cond.instanceMethod yX2_yAt, Cond.selects RX2 yX2_yAt yX2_yAt, Cond.code yX2_yAt cX2_yAt 2 (some .int)]
def wsX7_findLowestAround_r3 : List Cond := [Cond.methodLink RX7 54 yX2_holds, Cond.instanceMethod yX2_holds, Cond.selects RX2 yX2_holds yX2_holds, Cond.code yX2_holds cX2_holds 3 (some .boolean), Cond.fieldLink RX2 9 "CurveOrders$Numbering" "side" "I", Cond.methodLink RX7 58 yX2_indexOf, Cond.instanceMethod yX2_indexOf, Cond.selects RX2 yX2_indexOf yX2_indexOf, Cond.code yX2_indexOf cX2_indexOf 3 (some .int), Cond.fieldLink RX2 22 "CurveOrders$Numbering" "indexOfCell" "[I", Cond.methodLink RX7 62 yX1_leafOfIndex, Cond.instanceMethod yX1_leafOfIndex, Cond.selects RX1 yX1_leafOfIndex yX1_leafOfIndex, Cond.code yX1_leafOfIndex cX1_leafOfIndex 5 (some .int), Cond.fieldLink RX1 9 "CurveOrders$Division" "count" "I", Cond.methodLink RX7 65 yX7_insert, Cond.instanceMethod yX7_insert, Cond.selects RX7 yX7_insert yX7_insert, Cond.code yX7_insert cX7_insert 3 none]
def wsX7_findLowestAround : List Cond := .code yX7_findLowestAround cX7_findLowestAround 5 (some .int) :: ((wsX7_findLowestAround_r1 ++ (wsX7_findLowestAround_r2 ++ wsX7_findLowestAround_r3)) ++ wsX70 ++ wsX10 ++ wsX20)
def wsX7_divideAllTooLarge_r1 : List Cond := [Cond.constant RX7 81 (1000000), Cond.fieldLink RX7 23 "CurveOrders$Surroundings" "division" "LCurveOrders$Division;", Cond.fieldLink RX7 82 "CurveOrders$Division" "count" "I", Cond.methodLink RX7 83 yX7_isTooLarge, Cond.instanceMethod yX7_isTooLarge, Cond.selects RX7 yX7_isTooLarge yX7_isTooLarge, Cond.initialized RX7, Cond.code yX7_isTooLarge cX7_isTooLarge 4 (some .boolean), Cond.fieldLink RX7 9 "CurveOrders$Surroundings" "count" "I", Cond.fieldLink RX7 15 "CurveOrders$Surroundings" "found" "[I", Cond.methodLink RX7 74 yX7_findBeyond, Cond.instanceMethod yX7_findBeyond, Cond.selects RX7 yX7_findBeyond yX7_findBeyond, Cond.code yX7_findBeyond cX7_findBeyond 9 none, Cond.fieldLink RX7 19 "CurveOrders$Surroundings" "numbering" "LCurveOrders$Numbering;", Cond.methodLink RX7 69 Lib.Math.max.name, Cond.static Lib.Math.max.name, Cond.initialized "java/lang/Math", Cond.code Lib.Math.max.name Lib.Math.max.code 2 (some .int), Cond.methodLink RX7 38 yX1_sideOf, Cond.instanceMethod yX1_sideOf, Cond.selects RX1 yX1_sideOf yX1_sideOf, Cond.initialized RX1, Cond.code yX1_sideOf cX1_sideOf 4 (some .int)]
def wsX7_divideAllTooLarge_r2 : List Cond := [Cond.fieldLink RX1 15 "CurveOrders$Division" "starts" "[I", Cond.methodLink RX7 44 yX7_leftOf, Cond.instanceMethod yX7_leftOf, Cond.selects RX7 yX7_leftOf yX7_leftOf, Cond.code yX7_leftOf cX7_leftOf 2 (some .int), Cond.fieldLink RX7 27 "CurveOrders$Division" "starts" "[I", Cond.methodLink RX7 32 yX2_xAt, Cond.instanceMethod yX2_xAt, Cond.selects RX2 yX2_xAt yX2_xAt, Cond.initialized RX2, Cond.code yX2_xAt cX2_xAt 2 (some .int), Cond.fieldLink RX2 18 "CurveOrders$Numbering" "cellOfIndex" "[I", Cond.methodLink RX7 47 yX7_stepAcross, Cond.static yX7_stepAcross, Cond.code yX7_stepAcross cX7_stepAcross 3 (some .int), Cond.methodLink RX7 51 yX7_belowOf, Cond.instanceMethod yX7_belowOf, Cond.selects RX7 yX7_belowOf yX7_belowOf, Cond.code yX7_belowOf cX7_belowOf 2 (some .int), Cond.methodLink RX7 41 yX2_yAt, Cond.instanceMethod yX2_yAt, Cond.selects RX2 yX2_yAt yX2_yAt, Cond.code yX2_yAt cX2_yAt 2 (some .int), Cond.methodLink RX7 54 yX2_holds]
def wsX7_divideAllTooLarge_r3 : List Cond := [Cond.instanceMethod yX2_holds, Cond.selects RX2 yX2_holds yX2_holds, Cond.code yX2_holds cX2_holds 3 (some .boolean), Cond.fieldLink RX2 9 "CurveOrders$Numbering" "side" "I", Cond.methodLink RX7 58 yX2_indexOf, Cond.instanceMethod yX2_indexOf, Cond.selects RX2 yX2_indexOf yX2_indexOf, Cond.code yX2_indexOf cX2_indexOf 3 (some .int), Cond.fieldLink RX2 22 "CurveOrders$Numbering" "indexOfCell" "[I", Cond.methodLink RX7 62 yX1_leafOfIndex, Cond.instanceMethod yX1_leafOfIndex, Cond.selects RX1 yX1_leafOfIndex yX1_leafOfIndex, Cond.code yX1_leafOfIndex cX1_leafOfIndex 5 (some .int), Cond.fieldLink RX1 9 "CurveOrders$Division" "count" "I", Cond.methodLink RX7 65 yX7_insert, Cond.instanceMethod yX7_insert, Cond.selects RX7 yX7_insert yX7_insert, Cond.code yX7_insert cX7_insert 3 none, Cond.methodLink RX7 87 yX7_findLowestAround, Cond.instanceMethod yX7_findLowestAround, Cond.selects RX7 yX7_findLowestAround yX7_findLowestAround, Cond.code yX7_findLowestAround cX7_findLowestAround 5 (some .int), Cond.methodLink RX7 93 Lib.Math.min.name, Cond.static Lib.Math.min.name]
def wsX7_divideAllTooLarge_r4 : List Cond := [Cond.code Lib.Math.min.name Lib.Math.min.code 2 (some .int), Cond.methodLink RX7 78 yX7_findLowest, Cond.instanceMethod yX7_findLowest, Cond.selects RX7 yX7_findLowest yX7_findLowest, Cond.code yX7_findLowest cX7_findLowest 3 (some .int), Cond.methodLink RX7 90 yX1_divide, Cond.instanceMethod yX1_divide, Cond.selects RX1 yX1_divide yX1_divide, Cond.code yX1_divide cX1_divide 4 (some .boolean)]
def wsX7_divideAllTooLarge : List Cond := .code yX7_divideAllTooLarge cX7_divideAllTooLarge 5 (some .int) :: ((wsX7_divideAllTooLarge_r1 ++ (wsX7_divideAllTooLarge_r2 ++ (wsX7_divideAllTooLarge_r3 ++ wsX7_divideAllTooLarge_r4))) ++ wsX70 ++ wsX10 ++ wsX20)
def wsX8_init : List Cond := .code yX8_init cX8_init 1 none :: ([.methodLink RX8 3 objectInit, .instanceMethod objectInit, .code objectInit ⟨#[0xb1]⟩ 1 none, .fieldLink RX8 9 "CurveOrders$Text" "length" "I", .arrayClass .int, .fieldLink RX8 15 "CurveOrders$Text" "bytes" "[I"] ++ wsX80)
def wsX8_add : List Cond := .code yX8_add cX8_add 2 (some .boolean) :: ([.fieldLink RX8 9 "CurveOrders$Text" "length" "I", .fieldLink RX8 15 "CurveOrders$Text" "bytes" "[I"] ++ wsX80)
def wsX8_isToldBefore : List Cond := .code yX8_isToldBefore cX8_isToldBefore 4 (some .boolean) :: ([.fieldLink RX8 15 "CurveOrders$Text" "bytes" "[I"] ++ wsX80)
def wsX8_fitsForm : List Cond := .code yX8_fitsForm cX8_fitsForm 4 (some .boolean) :: ([.fieldLink RX8 15 "CurveOrders$Text" "bytes" "[I", .methodLink RX8 30 yX8_isToldBefore, .instanceMethod yX8_isToldBefore, .selects RX8 yX8_isToldBefore yX8_isToldBefore, .initialized RX8, .code yX8_isToldBefore cX8_isToldBefore 4 (some .boolean)] ++ wsX80)
def wsX8_findFaultOfForm : List Cond := .code yX8_findFaultOfForm cX8_findFaultOfForm 2 (some .int) :: ([.fieldLink RX8 9 "CurveOrders$Text" "length" "I", .methodLink RX8 26 yX8_fitsForm, .instanceMethod yX8_fitsForm, .selects RX8 yX8_fitsForm yX8_fitsForm, .initialized RX8, .code yX8_fitsForm cX8_fitsForm 4 (some .boolean), .fieldLink RX8 15 "CurveOrders$Text" "bytes" "[I", .methodLink RX8 30 yX8_isToldBefore, .instanceMethod yX8_isToldBefore, .selects RX8 yX8_isToldBefore yX8_isToldBefore, .code yX8_isToldBefore cX8_isToldBefore 4 (some .boolean)] ++ wsX80)
def wsX8_findUnknownState : List Cond := .code yX8_findUnknownState cX8_findUnknownState 3 (some .int) :: ([.methodLink RX8 34 yX8_countStates, .instanceMethod yX8_countStates, .selects RX8 yX8_countStates yX8_countStates, .initialized RX8, .code yX8_countStates cX8_countStates 1 (some .int), .fieldLink RX8 9 "CurveOrders$Text" "length" "I", .methodLink RX8 37 yX8_digitAt, .instanceMethod yX8_digitAt, .selects RX8 yX8_digitAt yX8_digitAt, .code yX8_digitAt cX8_digitAt 3 (some .int), .fieldLink RX8 15 "CurveOrders$Text" "bytes" "[I"] ++ wsX80)
def wsX8_findFault_r1 : List Cond := [Cond.methodLink RX8 19 yX8_findFaultOfForm, Cond.instanceMethod yX8_findFaultOfForm, Cond.selects RX8 yX8_findFaultOfForm yX8_findFaultOfForm, Cond.initialized RX8, Cond.code yX8_findFaultOfForm cX8_findFaultOfForm 2 (some .int), Cond.fieldLink RX8 9 "CurveOrders$Text" "length" "I", Cond.methodLink RX8 26 yX8_fitsForm, Cond.instanceMethod yX8_fitsForm, Cond.selects RX8 yX8_fitsForm yX8_fitsForm, Cond.code yX8_fitsForm cX8_fitsForm 4 (some .boolean), Cond.fieldLink RX8 15 "CurveOrders$Text" "bytes" "[I", Cond.methodLink RX8 30 yX8_isToldBefore, Cond.instanceMethod yX8_isToldBefore, Cond.selects RX8 yX8_isToldBefore yX8_isToldBefore, Cond.code yX8_isToldBefore cX8_isToldBefore 4 (some .boolean), Cond.methodLink RX8 23 yX8_findUnknownState, Cond.instanceMethod yX8_findUnknownState, Cond.selects RX8 yX8_findUnknownState yX8_findUnknownState, Cond.code yX8_findUnknownState cX8_findUnknownState 3 (some .int), Cond.methodLink RX8 34 yX8_countStates, Cond.instanceMethod yX8_countStates, Cond.selects RX8 yX8_countStates yX8_countStates, Cond.code yX8_countStates cX8_countStates 1 (some .int), Cond.methodLink RX8 37 yX8_digitAt]
def wsX8_findFault_r2 : List Cond := [Cond.instanceMethod yX8_digitAt, Cond.selects RX8 yX8_digitAt yX8_digitAt, Cond.code yX8_digitAt cX8_digitAt 3 (some .int)]
def wsX8_findFault : List Cond := .code yX8_findFault cX8_findFault 2 (some .int) :: ((wsX8_findFault_r1 ++ wsX8_findFault_r2) ++ wsX80)
def wsX9_renumber_r1 : List Cond := [Cond.fieldLink RX9 34 "CurveOrders" "numbering" "LCurveOrders$Numbering;", Cond.fieldLink RX9 10 "CurveOrders" "now" "LCurveOrders$Setup;", Cond.fieldLink RX9 62 "CurveOrders$Setup" "levels" "I", Cond.fieldLink RX9 41 "CurveOrders" "cover" "LCurveOrders$Cover;", Cond.fieldLink RX9 58 "CurveOrders$Setup" "range" "LCurveOrders$Rectangle;", Cond.methodLink RX9 94 yX5_visitsOfCurve, Cond.instanceMethod yX5_visitsOfCurve, Cond.selects RX5 yX5_visitsOfCurve yX5_visitsOfCurve, Cond.initialized RX5, Cond.code yX5_visitsOfCurve cX5_visitsOfCurve 1 (some (.array .int)), Cond.fieldLink RX5 15 "CurveOrders$Setup" "curve" "I", Cond.fieldLink RX5 21 "CurveOrders$Setup" "table" "LCurveOrders$StateTable;", Cond.fieldLink RX5 56 "CurveOrders$StateTable" "visits" "[I", Cond.methodLink RX9 257 yX2_fill, Cond.instanceMethod yX2_fill, Cond.selects RX2 yX2_fill yX2_fill, Cond.initialized RX2, Cond.code yX2_fill cX2_fill 4 none, Cond.fieldLink RX2 9 "CurveOrders$Numbering" "side" "I", Cond.fieldLink RX2 15 "CurveOrders$Numbering" "cells" "I", Cond.fieldLink RX2 18 "CurveOrders$Numbering" "cellOfIndex" "[I", Cond.fieldLink RX2 22 "CurveOrders$Numbering" "indexOfCell" "[I", Cond.methodLink RX2 25 yX2_divideSquares, Cond.instanceMethod yX2_divideSquares]
def wsX9_renumber_r2 : List Cond := [Cond.selects RX2 yX2_divideSquares yX2_divideSquares, Cond.code yX2_divideSquares cX2_divideSquares 11 none, Cond.methodLink RX9 149 yX0_fill, Cond.instanceMethod yX0_fill, Cond.selects RX0 yX0_fill yX0_fill, Cond.initialized RX0, Cond.code yX0_fill cX0_fill 6 none, Cond.fieldLink RX0 9 "CurveOrders$Cover" "count" "I", Cond.fieldLink RX0 22 "CurveOrders$Numbering" "cells" "I", Cond.fieldLink RX0 19 "CurveOrders$Cover" "last" "[I", Cond.fieldLink RX0 15 "CurveOrders$Cover" "first" "[I", Cond.methodLink RX0 27 yX2_xAt, Cond.instanceMethod yX2_xAt, Cond.selects RX2 yX2_xAt yX2_xAt, Cond.code yX2_xAt cX2_xAt 2 (some .int), Cond.methodLink RX0 31 yX2_yAt, Cond.instanceMethod yX2_yAt, Cond.selects RX2 yX2_yAt yX2_yAt, Cond.code yX2_yAt cX2_yAt 2 (some .int), Cond.methodLink RX0 34 yX4_holds, Cond.instanceMethod yX4_holds, Cond.selects RX4 yX4_holds yX4_holds, Cond.initialized RX4, Cond.code yX4_holds cX4_holds 3 (some .boolean)]
def wsX9_renumber_r3 : List Cond := [Cond.fieldLink RX4 7 "CurveOrders$Rectangle" "left" "I", Cond.fieldLink RX4 16 "CurveOrders$Rectangle" "right" "I", Cond.fieldLink RX4 13 "CurveOrders$Rectangle" "below" "I", Cond.fieldLink RX4 19 "CurveOrders$Rectangle" "above" "I"]
def wsX9_renumber : List Cond := .code yX9_renumber cX9_renumber 1 none :: ((wsX9_renumber_r1 ++ (wsX9_renumber_r2 ++ wsX9_renumber_r3)) ++ wsX90 ++ wsX50 ++ wsX60 ++ wsX20 ++ wsX00 ++ wsX40)
def wsX9_redivide_r1 : List Cond := [Cond.fieldLink RX9 10 "CurveOrders" "now" "LCurveOrders$Setup;", Cond.fieldLink RX9 47 "CurveOrders$Setup" "division" "LCurveOrders$Division;", Cond.fieldLink RX9 34 "CurveOrders" "numbering" "LCurveOrders$Numbering;", Cond.fieldLink RX9 78 "CurveOrders$Setup" "points" "LCurveOrders$PointSet;", Cond.fieldLink RX9 192 "CurveOrders$Setup" "bucket" "I", Cond.methodLink RX9 260 yX1_fill, Cond.instanceMethod yX1_fill, Cond.selects RX1 yX1_fill yX1_fill, Cond.initialized RX1, Cond.code yX1_fill cX1_fill 6 none, Cond.fieldLink RX1 9 "CurveOrders$Division" "count" "I", Cond.fieldLink RX1 15 "CurveOrders$Division" "starts" "[I", Cond.fieldLink RX1 19 "CurveOrders$Numbering" "cells" "I", Cond.methodLink RX1 24 yX1_countPoints, Cond.instanceMethod yX1_countPoints, Cond.selects RX1 yX1_countPoints yX1_countPoints, Cond.code yX1_countPoints cX1_countPoints 4 (some .int), Cond.methodLink RX1 32 yX3_countBetween, Cond.instanceMethod yX3_countBetween, Cond.selects RX3 yX3_countBetween yX3_countBetween, Cond.initialized RX3, Cond.code yX3_countBetween cX3_countBetween 7 (some .int), Cond.fieldLink RX3 9 "CurveOrders$PointSet" "count" "I", Cond.methodLink RX3 34 yX3_indexOfPoint]
def wsX9_redivide_r2 : List Cond := [Cond.instanceMethod yX3_indexOfPoint, Cond.selects RX3 yX3_indexOfPoint yX3_indexOfPoint, Cond.code yX3_indexOfPoint cX3_indexOfPoint 3 (some .int), Cond.fieldLink RX3 15 "CurveOrders$PointSet" "cells" "[I", Cond.methodLink RX3 29 yX2_indexOf, Cond.instanceMethod yX2_indexOf, Cond.selects RX2 yX2_indexOf yX2_indexOf, Cond.initialized RX2, Cond.code yX2_indexOf cX2_indexOf 3 (some .int), Cond.fieldLink RX2 22 "CurveOrders$Numbering" "indexOfCell" "[I", Cond.methodLink RX1 28 yX1_divide, Cond.instanceMethod yX1_divide, Cond.selects RX1 yX1_divide yX1_divide, Cond.code yX1_divide cX1_divide 4 (some .boolean)]
def wsX9_redivide : List Cond := .code yX9_redivide cX9_redivide 1 none :: ((wsX9_redivide_r1 ++ wsX9_redivide_r2) ++ wsX90 ++ wsX50 ++ wsX10 ++ wsX20 ++ wsX30)
def wsX9_init_r1 : List Cond := [Cond.methodLink RX9 1 objectInit, Cond.instanceMethod objectInit, Cond.code objectInit ⟨#[0xb1]⟩ 1 none, Cond.classLink RX9 7 RX5, Cond.instantiable RX5 7, Cond.initialized RX5, Cond.fieldLink RX9 10 "CurveOrders" "now" "LCurveOrders$Setup;", Cond.fieldLink RX9 16 "CurveOrders" "slots" "[LCurveOrders$Setup;", Cond.arrayClass .boolean, Cond.fieldLink RX9 20 "CurveOrders" "slotUsed" "[Z", Cond.classLink RX9 24 RX8, Cond.instantiable RX8 2, Cond.initialized RX8, Cond.fieldLink RX9 27 "CurveOrders" "text" "LCurveOrders$Text;", Cond.classLink RX9 31 RX2, Cond.instantiable RX2 4, Cond.initialized RX2, Cond.fieldLink RX9 34 "CurveOrders" "numbering" "LCurveOrders$Numbering;", Cond.classLink RX9 38 RX0, Cond.instantiable RX0 3, Cond.initialized RX0, Cond.fieldLink RX9 41 "CurveOrders" "cover" "LCurveOrders$Cover;", Cond.classLink RX9 45 RX7, Cond.instantiable RX7 4]
def wsX9_init_r2 : List Cond := [Cond.initialized RX7, Cond.fieldLink RX9 47 "CurveOrders$Setup" "division" "LCurveOrders$Division;", Cond.fieldLink RX9 54 "CurveOrders" "surroundings" "LCurveOrders$Surroundings;", Cond.fieldLink RX9 58 "CurveOrders$Setup" "range" "LCurveOrders$Rectangle;", Cond.fieldLink RX9 62 "CurveOrders$Setup" "levels" "I", Cond.instanceMethod yX5_init, Cond.code yX5_init cX5_init 1 none, Cond.methodLink RX5 3 objectInit, Cond.fieldLink RX5 9 "CurveOrders$Setup" "levels" "I", Cond.fieldLink RX5 15 "CurveOrders$Setup" "curve" "I", Cond.classLink RX5 18 RX6, Cond.instantiable RX6 2, Cond.initialized RX6, Cond.fieldLink RX5 21 "CurveOrders$Setup" "table" "LCurveOrders$StateTable;", Cond.classLink RX5 25 RX4, Cond.instantiable RX4 4, Cond.initialized RX4, Cond.fieldLink RX5 28 "CurveOrders$Setup" "range" "LCurveOrders$Rectangle;", Cond.classLink RX5 32 RX3, Cond.instantiable RX3 2, Cond.initialized RX3, Cond.fieldLink RX5 35 "CurveOrders$Setup" "points" "LCurveOrders$PointSet;", Cond.fieldLink RX5 39 "CurveOrders$Setup" "bucket" "I", Cond.classLink RX5 42 RX1]
def wsX9_init_r3 : List Cond := [Cond.instantiable RX1 2, Cond.initialized RX1, Cond.fieldLink RX5 45 "CurveOrders$Setup" "division" "LCurveOrders$Division;", Cond.methodLink RX5 20 yX6_init, Cond.instanceMethod yX6_init, Cond.code yX6_init cX6_init 1 none, Cond.methodLink RX6 3 objectInit, Cond.fieldLink RX6 9 "CurveOrders$StateTable" "count" "I", Cond.arrayClass .int, Cond.fieldLink RX6 15 "CurveOrders$StateTable" "visits" "[I", Cond.methodLink RX6 22 arraycopyName, Cond.native arraycopyName, Cond.static arraycopyName, Cond.initialized "java/lang/System", Cond.instanceMethod yX4_init, Cond.code yX4_init cX4_init 1 none, Cond.methodLink RX4 1 objectInit, Cond.fieldLink RX4 7 "CurveOrders$Rectangle" "left" "I", Cond.fieldLink RX4 13 "CurveOrders$Rectangle" "below" "I", Cond.fieldLink RX4 16 "CurveOrders$Rectangle" "right" "I", Cond.fieldLink RX4 19 "CurveOrders$Rectangle" "above" "I", Cond.instanceMethod yX3_init, Cond.code yX3_init cX3_init 1 none, Cond.methodLink RX3 3 objectInit]
def wsX9_init_r4 : List Cond := [Cond.fieldLink RX3 9 "CurveOrders$PointSet" "count" "I", Cond.fieldLink RX3 15 "CurveOrders$PointSet" "cells" "[I", Cond.instanceMethod yX1_init, Cond.code yX1_init cX1_init 1 none, Cond.methodLink RX1 3 objectInit, Cond.fieldLink RX1 9 "CurveOrders$Division" "count" "I", Cond.fieldLink RX1 15 "CurveOrders$Division" "starts" "[I", Cond.instanceMethod yX8_init, Cond.code yX8_init cX8_init 1 none, Cond.methodLink RX8 3 objectInit, Cond.fieldLink RX8 9 "CurveOrders$Text" "length" "I", Cond.fieldLink RX8 15 "CurveOrders$Text" "bytes" "[I", Cond.instanceMethod yX2_init, Cond.code yX2_init cX2_init 1 none, Cond.methodLink RX2 3 objectInit, Cond.fieldLink RX2 9 "CurveOrders$Numbering" "side" "I", Cond.fieldLink RX2 15 "CurveOrders$Numbering" "cells" "I", Cond.fieldLink RX2 18 "CurveOrders$Numbering" "cellOfIndex" "[I", Cond.fieldLink RX2 22 "CurveOrders$Numbering" "indexOfCell" "[I", Cond.instanceMethod yX0_init, Cond.code yX0_init cX0_init 1 none, Cond.methodLink RX0 3 objectInit, Cond.fieldLink RX0 9 "CurveOrders$Cover" "count" "I", Cond.fieldLink RX0 15 "CurveOrders$Cover" "first" "[I"]
def wsX9_init_r5 : List Cond := [Cond.fieldLink RX0 19 "CurveOrders$Cover" "last" "[I", Cond.methodLink RX9 51 yX7_init, Cond.instanceMethod yX7_init, Cond.code yX7_init cX7_init 3 none, Cond.methodLink RX7 3 objectInit, Cond.fieldLink RX7 9 "CurveOrders$Surroundings" "count" "I", Cond.fieldLink RX7 15 "CurveOrders$Surroundings" "found" "[I", Cond.fieldLink RX7 19 "CurveOrders$Surroundings" "numbering" "LCurveOrders$Numbering;", Cond.fieldLink RX7 23 "CurveOrders$Surroundings" "division" "LCurveOrders$Division;", Cond.methodLink RX9 66 yX4_setWhole, Cond.instanceMethod yX4_setWhole, Cond.selects RX4 yX4_setWhole yX4_setWhole, Cond.code yX4_setWhole cX4_setWhole 2 none, Cond.methodLink RX4 22 yX4_setEdges, Cond.instanceMethod yX4_setEdges, Cond.selects RX4 yX4_setEdges yX4_setEdges, Cond.code yX4_setEdges cX4_setEdges 5 none, Cond.methodLink RX9 72 yX9_renumber, Cond.instanceMethod yX9_renumber, Cond.selects RX9 yX9_renumber yX9_renumber, Cond.initialized RX9, Cond.code yX9_renumber cX9_renumber 1 none, Cond.methodLink RX9 94 yX5_visitsOfCurve, Cond.instanceMethod yX5_visitsOfCurve]
def wsX9_init_r6 : List Cond := [Cond.selects RX5 yX5_visitsOfCurve yX5_visitsOfCurve, Cond.code yX5_visitsOfCurve cX5_visitsOfCurve 1 (some (.array .int)), Cond.fieldLink RX5 56 "CurveOrders$StateTable" "visits" "[I", Cond.methodLink RX9 257 yX2_fill, Cond.instanceMethod yX2_fill, Cond.selects RX2 yX2_fill yX2_fill, Cond.code yX2_fill cX2_fill 4 none, Cond.methodLink RX2 25 yX2_divideSquares, Cond.instanceMethod yX2_divideSquares, Cond.selects RX2 yX2_divideSquares yX2_divideSquares, Cond.code yX2_divideSquares cX2_divideSquares 11 none, Cond.methodLink RX9 149 yX0_fill, Cond.instanceMethod yX0_fill, Cond.selects RX0 yX0_fill yX0_fill, Cond.code yX0_fill cX0_fill 6 none, Cond.fieldLink RX0 22 "CurveOrders$Numbering" "cells" "I", Cond.methodLink RX0 27 yX2_xAt, Cond.instanceMethod yX2_xAt, Cond.selects RX2 yX2_xAt yX2_xAt, Cond.code yX2_xAt cX2_xAt 2 (some .int), Cond.methodLink RX0 31 yX2_yAt, Cond.instanceMethod yX2_yAt, Cond.selects RX2 yX2_yAt yX2_yAt, Cond.code yX2_yAt cX2_yAt 2 (some .int)]
def wsX9_init_r7 : List Cond := [Cond.methodLink RX0 34 yX4_holds, Cond.instanceMethod yX4_holds, Cond.selects RX4 yX4_holds yX4_holds, Cond.code yX4_holds cX4_holds 3 (some .boolean), Cond.methodLink RX9 75 yX9_redivide, Cond.instanceMethod yX9_redivide, Cond.selects RX9 yX9_redivide yX9_redivide, Cond.code yX9_redivide cX9_redivide 1 none, Cond.fieldLink RX9 78 "CurveOrders$Setup" "points" "LCurveOrders$PointSet;", Cond.fieldLink RX9 192 "CurveOrders$Setup" "bucket" "I", Cond.methodLink RX9 260 yX1_fill, Cond.instanceMethod yX1_fill, Cond.selects RX1 yX1_fill yX1_fill, Cond.code yX1_fill cX1_fill 6 none, Cond.fieldLink RX1 19 "CurveOrders$Numbering" "cells" "I", Cond.methodLink RX1 24 yX1_countPoints, Cond.instanceMethod yX1_countPoints, Cond.selects RX1 yX1_countPoints yX1_countPoints, Cond.code yX1_countPoints cX1_countPoints 4 (some .int), Cond.methodLink RX1 32 yX3_countBetween, Cond.instanceMethod yX3_countBetween, Cond.selects RX3 yX3_countBetween yX3_countBetween, Cond.code yX3_countBetween cX3_countBetween 7 (some .int), Cond.methodLink RX3 34 yX3_indexOfPoint]
def wsX9_init_r8 : List Cond := [Cond.instanceMethod yX3_indexOfPoint, Cond.selects RX3 yX3_indexOfPoint yX3_indexOfPoint, Cond.code yX3_indexOfPoint cX3_indexOfPoint 3 (some .int), Cond.methodLink RX3 29 yX2_indexOf, Cond.instanceMethod yX2_indexOf, Cond.selects RX2 yX2_indexOf yX2_indexOf, Cond.code yX2_indexOf cX2_indexOf 3 (some .int), Cond.methodLink RX1 28 yX1_divide, Cond.instanceMethod yX1_divide, Cond.selects RX1 yX1_divide yX1_divide, Cond.code yX1_divide cX1_divide 4 (some .boolean)]
def wsX9_init : List Cond := .code yX9_init cX9_init 1 none :: ((wsX9_init_r1 ++ (wsX9_init_r2 ++ (wsX9_init_r3 ++ (wsX9_init_r4 ++ (wsX9_init_r5 ++ (wsX9_init_r6 ++ (wsX9_init_r7 ++ wsX9_init_r8))))))) ++ wsX50 ++ wsX90 ++ wsX80 ++ wsX20 ++ wsX00 ++ wsX70 ++ wsX60 ++ wsX40 ++ wsX30 ++ wsX10)
def wsX9_setLevels_r1 : List Cond := [Cond.fieldLink RX9 10 "CurveOrders" "now" "LCurveOrders$Setup;", Cond.fieldLink RX9 62 "CurveOrders$Setup" "levels" "I", Cond.fieldLink RX9 58 "CurveOrders$Setup" "range" "LCurveOrders$Rectangle;", Cond.fieldLink RX9 78 "CurveOrders$Setup" "points" "LCurveOrders$PointSet;", Cond.methodLink RX9 66 yX4_setWhole, Cond.instanceMethod yX4_setWhole, Cond.selects RX4 yX4_setWhole yX4_setWhole, Cond.initialized RX4, Cond.code yX4_setWhole cX4_setWhole 2 none, Cond.methodLink RX4 22 yX4_setEdges, Cond.instanceMethod yX4_setEdges, Cond.selects RX4 yX4_setEdges yX4_setEdges, Cond.code yX4_setEdges cX4_setEdges 5 none, Cond.fieldLink RX4 7 "CurveOrders$Rectangle" "left" "I", Cond.fieldLink RX4 13 "CurveOrders$Rectangle" "below" "I", Cond.fieldLink RX4 16 "CurveOrders$Rectangle" "right" "I", Cond.fieldLink RX4 19 "CurveOrders$Rectangle" "above" "I", Cond.methodLink RX9 82 yX3_removeAll, Cond.instanceMethod yX3_removeAll, Cond.selects RX3 yX3_removeAll yX3_removeAll, Cond.initialized RX3, Cond.code yX3_removeAll cX3_removeAll 1 none, Cond.fieldLink RX3 9 "CurveOrders$PointSet" "count" "I", Cond.methodLink RX9 72 yX9_renumber]
def wsX9_setLevels_r2 : List Cond := [Cond.instanceMethod yX9_renumber, Cond.selects RX9 yX9_renumber yX9_renumber, Cond.initialized RX9, Cond.code yX9_renumber cX9_renumber 1 none, Cond.fieldLink RX9 34 "CurveOrders" "numbering" "LCurveOrders$Numbering;", Cond.fieldLink RX9 41 "CurveOrders" "cover" "LCurveOrders$Cover;", Cond.methodLink RX9 94 yX5_visitsOfCurve, Cond.instanceMethod yX5_visitsOfCurve, Cond.selects RX5 yX5_visitsOfCurve yX5_visitsOfCurve, Cond.initialized RX5, Cond.code yX5_visitsOfCurve cX5_visitsOfCurve 1 (some (.array .int)), Cond.fieldLink RX5 15 "CurveOrders$Setup" "curve" "I", Cond.fieldLink RX5 21 "CurveOrders$Setup" "table" "LCurveOrders$StateTable;", Cond.fieldLink RX5 56 "CurveOrders$StateTable" "visits" "[I", Cond.methodLink RX9 257 yX2_fill, Cond.instanceMethod yX2_fill, Cond.selects RX2 yX2_fill yX2_fill, Cond.initialized RX2, Cond.code yX2_fill cX2_fill 4 none, Cond.fieldLink RX2 9 "CurveOrders$Numbering" "side" "I", Cond.fieldLink RX2 15 "CurveOrders$Numbering" "cells" "I", Cond.fieldLink RX2 18 "CurveOrders$Numbering" "cellOfIndex" "[I", Cond.fieldLink RX2 22 "CurveOrders$Numbering" "indexOfCell" "[I", Cond.methodLink RX2 25 yX2_divideSquares]
def wsX9_setLevels_r3 : List Cond := [Cond.instanceMethod yX2_divideSquares, Cond.selects RX2 yX2_divideSquares yX2_divideSquares, Cond.code yX2_divideSquares cX2_divideSquares 11 none, Cond.methodLink RX9 149 yX0_fill, Cond.instanceMethod yX0_fill, Cond.selects RX0 yX0_fill yX0_fill, Cond.initialized RX0, Cond.code yX0_fill cX0_fill 6 none, Cond.fieldLink RX0 9 "CurveOrders$Cover" "count" "I", Cond.fieldLink RX0 22 "CurveOrders$Numbering" "cells" "I", Cond.fieldLink RX0 19 "CurveOrders$Cover" "last" "[I", Cond.fieldLink RX0 15 "CurveOrders$Cover" "first" "[I", Cond.methodLink RX0 27 yX2_xAt, Cond.instanceMethod yX2_xAt, Cond.selects RX2 yX2_xAt yX2_xAt, Cond.code yX2_xAt cX2_xAt 2 (some .int), Cond.methodLink RX0 31 yX2_yAt, Cond.instanceMethod yX2_yAt, Cond.selects RX2 yX2_yAt yX2_yAt, Cond.code yX2_yAt cX2_yAt 2 (some .int), Cond.methodLink RX0 34 yX4_holds, Cond.instanceMethod yX4_holds, Cond.selects RX4 yX4_holds yX4_holds, Cond.code yX4_holds cX4_holds 3 (some .boolean)]
def wsX9_setLevels_r4 : List Cond := [Cond.methodLink RX9 75 yX9_redivide, Cond.instanceMethod yX9_redivide, Cond.selects RX9 yX9_redivide yX9_redivide, Cond.code yX9_redivide cX9_redivide 1 none, Cond.fieldLink RX9 47 "CurveOrders$Setup" "division" "LCurveOrders$Division;", Cond.fieldLink RX9 192 "CurveOrders$Setup" "bucket" "I", Cond.methodLink RX9 260 yX1_fill, Cond.instanceMethod yX1_fill, Cond.selects RX1 yX1_fill yX1_fill, Cond.initialized RX1, Cond.code yX1_fill cX1_fill 6 none, Cond.fieldLink RX1 9 "CurveOrders$Division" "count" "I", Cond.fieldLink RX1 15 "CurveOrders$Division" "starts" "[I", Cond.fieldLink RX1 19 "CurveOrders$Numbering" "cells" "I", Cond.methodLink RX1 24 yX1_countPoints, Cond.instanceMethod yX1_countPoints, Cond.selects RX1 yX1_countPoints yX1_countPoints, Cond.code yX1_countPoints cX1_countPoints 4 (some .int), Cond.methodLink RX1 32 yX3_countBetween, Cond.instanceMethod yX3_countBetween, Cond.selects RX3 yX3_countBetween yX3_countBetween, Cond.code yX3_countBetween cX3_countBetween 7 (some .int), Cond.methodLink RX3 34 yX3_indexOfPoint, Cond.instanceMethod yX3_indexOfPoint]
def wsX9_setLevels_r5 : List Cond := [Cond.selects RX3 yX3_indexOfPoint yX3_indexOfPoint, Cond.code yX3_indexOfPoint cX3_indexOfPoint 3 (some .int), Cond.fieldLink RX3 15 "CurveOrders$PointSet" "cells" "[I", Cond.methodLink RX3 29 yX2_indexOf, Cond.instanceMethod yX2_indexOf, Cond.selects RX2 yX2_indexOf yX2_indexOf, Cond.code yX2_indexOf cX2_indexOf 3 (some .int), Cond.methodLink RX1 28 yX1_divide, Cond.instanceMethod yX1_divide, Cond.selects RX1 yX1_divide yX1_divide, Cond.code yX1_divide cX1_divide 4 (some .boolean)]
def wsX9_setLevels : List Cond := .code yX9_setLevels cX9_setLevels 3 (some .int) :: ((wsX9_setLevels_r1 ++ (wsX9_setLevels_r2 ++ (wsX9_setLevels_r3 ++ (wsX9_setLevels_r4 ++ wsX9_setLevels_r5)))) ++ wsX90 ++ wsX50 ++ wsX40 ++ wsX30 ++ wsX60 ++ wsX20 ++ wsX00 ++ wsX10)
def wsX9_setCurve_r1 : List Cond := [Cond.fieldLink RX9 10 "CurveOrders" "now" "LCurveOrders$Setup;", Cond.fieldLink RX9 87 "CurveOrders$Setup" "curve" "I", Cond.methodLink RX9 72 yX9_renumber, Cond.instanceMethod yX9_renumber, Cond.selects RX9 yX9_renumber yX9_renumber, Cond.initialized RX9, Cond.code yX9_renumber cX9_renumber 1 none, Cond.fieldLink RX9 34 "CurveOrders" "numbering" "LCurveOrders$Numbering;", Cond.fieldLink RX9 62 "CurveOrders$Setup" "levels" "I", Cond.fieldLink RX9 41 "CurveOrders" "cover" "LCurveOrders$Cover;", Cond.fieldLink RX9 58 "CurveOrders$Setup" "range" "LCurveOrders$Rectangle;", Cond.methodLink RX9 94 yX5_visitsOfCurve, Cond.instanceMethod yX5_visitsOfCurve, Cond.selects RX5 yX5_visitsOfCurve yX5_visitsOfCurve, Cond.initialized RX5, Cond.code yX5_visitsOfCurve cX5_visitsOfCurve 1 (some (.array .int)), Cond.fieldLink RX5 15 "CurveOrders$Setup" "curve" "I", Cond.fieldLink RX5 21 "CurveOrders$Setup" "table" "LCurveOrders$StateTable;", Cond.fieldLink RX5 56 "CurveOrders$StateTable" "visits" "[I", Cond.methodLink RX9 257 yX2_fill, Cond.instanceMethod yX2_fill, Cond.selects RX2 yX2_fill yX2_fill, Cond.initialized RX2, Cond.code yX2_fill cX2_fill 4 none]
def wsX9_setCurve_r2 : List Cond := [Cond.fieldLink RX2 9 "CurveOrders$Numbering" "side" "I", Cond.fieldLink RX2 15 "CurveOrders$Numbering" "cells" "I", Cond.fieldLink RX2 18 "CurveOrders$Numbering" "cellOfIndex" "[I", Cond.fieldLink RX2 22 "CurveOrders$Numbering" "indexOfCell" "[I", Cond.methodLink RX2 25 yX2_divideSquares, Cond.instanceMethod yX2_divideSquares, Cond.selects RX2 yX2_divideSquares yX2_divideSquares, Cond.code yX2_divideSquares cX2_divideSquares 11 none, Cond.methodLink RX9 149 yX0_fill, Cond.instanceMethod yX0_fill, Cond.selects RX0 yX0_fill yX0_fill, Cond.initialized RX0, Cond.code yX0_fill cX0_fill 6 none, Cond.fieldLink RX0 9 "CurveOrders$Cover" "count" "I", Cond.fieldLink RX0 22 "CurveOrders$Numbering" "cells" "I", Cond.fieldLink RX0 19 "CurveOrders$Cover" "last" "[I", Cond.fieldLink RX0 15 "CurveOrders$Cover" "first" "[I", Cond.methodLink RX0 27 yX2_xAt, Cond.instanceMethod yX2_xAt, Cond.selects RX2 yX2_xAt yX2_xAt, Cond.code yX2_xAt cX2_xAt 2 (some .int), Cond.methodLink RX0 31 yX2_yAt, Cond.instanceMethod yX2_yAt, Cond.selects RX2 yX2_yAt yX2_yAt]
def wsX9_setCurve_r3 : List Cond := [Cond.code yX2_yAt cX2_yAt 2 (some .int), Cond.methodLink RX0 34 yX4_holds, Cond.instanceMethod yX4_holds, Cond.selects RX4 yX4_holds yX4_holds, Cond.initialized RX4, Cond.code yX4_holds cX4_holds 3 (some .boolean), Cond.fieldLink RX4 7 "CurveOrders$Rectangle" "left" "I", Cond.fieldLink RX4 16 "CurveOrders$Rectangle" "right" "I", Cond.fieldLink RX4 13 "CurveOrders$Rectangle" "below" "I", Cond.fieldLink RX4 19 "CurveOrders$Rectangle" "above" "I", Cond.methodLink RX9 75 yX9_redivide, Cond.instanceMethod yX9_redivide, Cond.selects RX9 yX9_redivide yX9_redivide, Cond.code yX9_redivide cX9_redivide 1 none, Cond.fieldLink RX9 47 "CurveOrders$Setup" "division" "LCurveOrders$Division;", Cond.fieldLink RX9 78 "CurveOrders$Setup" "points" "LCurveOrders$PointSet;", Cond.fieldLink RX9 192 "CurveOrders$Setup" "bucket" "I", Cond.methodLink RX9 260 yX1_fill, Cond.instanceMethod yX1_fill, Cond.selects RX1 yX1_fill yX1_fill, Cond.initialized RX1, Cond.code yX1_fill cX1_fill 6 none, Cond.fieldLink RX1 9 "CurveOrders$Division" "count" "I", Cond.fieldLink RX1 15 "CurveOrders$Division" "starts" "[I"]
def wsX9_setCurve_r4 : List Cond := [Cond.fieldLink RX1 19 "CurveOrders$Numbering" "cells" "I", Cond.methodLink RX1 24 yX1_countPoints, Cond.instanceMethod yX1_countPoints, Cond.selects RX1 yX1_countPoints yX1_countPoints, Cond.code yX1_countPoints cX1_countPoints 4 (some .int), Cond.methodLink RX1 32 yX3_countBetween, Cond.instanceMethod yX3_countBetween, Cond.selects RX3 yX3_countBetween yX3_countBetween, Cond.initialized RX3, Cond.code yX3_countBetween cX3_countBetween 7 (some .int), Cond.fieldLink RX3 9 "CurveOrders$PointSet" "count" "I", Cond.methodLink RX3 34 yX3_indexOfPoint, Cond.instanceMethod yX3_indexOfPoint, Cond.selects RX3 yX3_indexOfPoint yX3_indexOfPoint, Cond.code yX3_indexOfPoint cX3_indexOfPoint 3 (some .int), Cond.fieldLink RX3 15 "CurveOrders$PointSet" "cells" "[I", Cond.methodLink RX3 29 yX2_indexOf, Cond.instanceMethod yX2_indexOf, Cond.selects RX2 yX2_indexOf yX2_indexOf, Cond.code yX2_indexOf cX2_indexOf 3 (some .int), Cond.methodLink RX1 28 yX1_divide, Cond.instanceMethod yX1_divide, Cond.selects RX1 yX1_divide yX1_divide, Cond.code yX1_divide cX1_divide 4 (some .boolean)]
def wsX9_setCurve : List Cond := .code yX9_setCurve cX9_setCurve 3 (some .int) :: ((wsX9_setCurve_r1 ++ (wsX9_setCurve_r2 ++ (wsX9_setCurve_r3 ++ wsX9_setCurve_r4))) ++ wsX90 ++ wsX50 ++ wsX60 ++ wsX20 ++ wsX00 ++ wsX40 ++ wsX10 ++ wsX30)
def wsX9_states : List Cond := .code yX9_states cX9_states 1 (some .int) :: ([.fieldLink RX9 10 "CurveOrders" "now" "LCurveOrders$Setup;", .methodLink RX9 90 yX5_stateCount, .instanceMethod yX5_stateCount, .selects RX5 yX5_stateCount yX5_stateCount, .initialized RX5, .code yX5_stateCount cX5_stateCount 1 (some .int), .fieldLink RX5 15 "CurveOrders$Setup" "curve" "I", .fieldLink RX5 21 "CurveOrders$Setup" "table" "LCurveOrders$StateTable;", .fieldLink RX5 49 "CurveOrders$StateTable" "count" "I"] ++ wsX90 ++ wsX50 ++ wsX60)
def wsX9_visit : List Cond := .code yX9_visit cX9_visit 3 (some .int) :: ([.fieldLink RX9 10 "CurveOrders" "now" "LCurveOrders$Setup;", .methodLink RX9 90 yX5_stateCount, .instanceMethod yX5_stateCount, .selects RX5 yX5_stateCount yX5_stateCount, .initialized RX5, .code yX5_stateCount cX5_stateCount 1 (some .int), .fieldLink RX5 15 "CurveOrders$Setup" "curve" "I", .fieldLink RX5 21 "CurveOrders$Setup" "table" "LCurveOrders$StateTable;", .fieldLink RX5 49 "CurveOrders$StateTable" "count" "I", .methodLink RX9 94 yX5_visitsOfCurve, .instanceMethod yX5_visitsOfCurve, .selects RX5 yX5_visitsOfCurve yX5_visitsOfCurve, .code yX5_visitsOfCurve cX5_visitsOfCurve 1 (some (.array .int)), .fieldLink RX5 56 "CurveOrders$StateTable" "visits" "[I"] ++ wsX90 ++ wsX50 ++ wsX60)
def wsX9_index : List Cond := .code yX9_index cX9_index 3 (some .int) :: ([.fieldLink RX9 34 "CurveOrders" "numbering" "LCurveOrders$Numbering;", .methodLink RX9 98 yX2_holds, .instanceMethod yX2_holds, .selects RX2 yX2_holds yX2_holds, .initialized RX2, .code yX2_holds cX2_holds 3 (some .boolean), .fieldLink RX2 9 "CurveOrders$Numbering" "side" "I", .methodLink RX9 102 yX2_indexOf, .instanceMethod yX2_indexOf, .selects RX2 yX2_indexOf yX2_indexOf, .code yX2_indexOf cX2_indexOf 3 (some .int), .fieldLink RX2 22 "CurveOrders$Numbering" "indexOfCell" "[I"] ++ wsX90 ++ wsX20)
def wsX9_cell : List Cond := .code yX9_cell cX9_cell 3 (some .int) :: ([.fieldLink RX9 34 "CurveOrders" "numbering" "LCurveOrders$Numbering;", .fieldLink RX9 106 "CurveOrders$Numbering" "cells" "I", .methodLink RX9 109 yX2_yAt, .instanceMethod yX2_yAt, .selects RX2 yX2_yAt yX2_yAt, .initialized RX2, .code yX2_yAt cX2_yAt 2 (some .int), .fieldLink RX2 18 "CurveOrders$Numbering" "cellOfIndex" "[I", .methodLink RX9 113 yX2_xAt, .instanceMethod yX2_xAt, .selects RX2 yX2_xAt yX2_xAt, .code yX2_xAt cX2_xAt 2 (some .int)] ++ wsX90 ++ wsX20)
def wsX9_breaks : List Cond := .code yX9_breaks cX9_breaks 1 (some .int) :: ([.fieldLink RX9 34 "CurveOrders" "numbering" "LCurveOrders$Numbering;", .methodLink RX9 116 yX2_countBreaks, .instanceMethod yX2_countBreaks, .selects RX2 yX2_countBreaks yX2_countBreaks, .initialized RX2, .code yX2_countBreaks cX2_countBreaks 3 (some .int), .fieldLink RX2 15 "CurveOrders$Numbering" "cells" "I", .methodLink RX2 33 Lib.Math.abs.name, .static Lib.Math.abs.name, .initialized "java/lang/Math", .code Lib.Math.abs.name Lib.Math.abs.code 1 (some .int), .methodLink RX2 29 yX2_xAt, .instanceMethod yX2_xAt, .selects RX2 yX2_xAt yX2_xAt, .code yX2_xAt cX2_xAt 2 (some .int), .fieldLink RX2 18 "CurveOrders$Numbering" "cellOfIndex" "[I", .methodLink RX2 38 yX2_yAt, .instanceMethod yX2_yAt, .selects RX2 yX2_yAt yX2_yAt, .code yX2_yAt cX2_yAt 2 (some .int)] ++ wsX90 ++ wsX20)
def wsX9_stretch : List Cond := .code yX9_stretch cX9_stretch 1 (some .int) :: ([.fieldLink RX9 34 "CurveOrders" "numbering" "LCurveOrders$Numbering;", .methodLink RX9 119 yX2_greatestDifference, .instanceMethod yX2_greatestDifference, .selects RX2 yX2_greatestDifference yX2_greatestDifference, .initialized RX2, .code yX2_greatestDifference cX2_greatestDifference 6 (some .int), .fieldLink RX2 9 "CurveOrders$Numbering" "side" "I", .methodLink RX2 33 Lib.Math.abs.name, .static Lib.Math.abs.name, .initialized "java/lang/Math", .code Lib.Math.abs.name Lib.Math.abs.code 1 (some .int), .methodLink RX2 45 Lib.Math.max.name, .static Lib.Math.max.name, .code Lib.Math.max.name Lib.Math.max.code 2 (some .int), .methodLink RX2 41 yX2_indexOf, .instanceMethod yX2_indexOf, .selects RX2 yX2_indexOf yX2_indexOf, .code yX2_indexOf cX2_indexOf 3 (some .int), .fieldLink RX2 22 "CurveOrders$Numbering" "indexOfCell" "[I"] ++ wsX90 ++ wsX20)
def wsX9_append : List Cond := .code yX9_append cX9_append 2 (some .int) :: ([.fieldLink RX9 27 "CurveOrders" "text" "LCurveOrders$Text;", .fieldLink RX9 126 "CurveOrders$Text" "length" "I", .methodLink RX9 122 yX8_add, .instanceMethod yX8_add, .selects RX8 yX8_add yX8_add, .initialized RX8, .code yX8_add cX8_add 2 (some .boolean), .fieldLink RX8 9 "CurveOrders$Text" "length" "I", .fieldLink RX8 15 "CurveOrders$Text" "bytes" "[I"] ++ wsX90 ++ wsX80)
def wsX9_clearText : List Cond := .code yX9_clearText cX9_clearText 2 (some .int) :: ([.fieldLink RX9 27 "CurveOrders" "text" "LCurveOrders$Text;", .fieldLink RX9 126 "CurveOrders$Text" "length" "I"] ++ wsX90 ++ wsX80)
def wsX9_faultPosition_r1 : List Cond := [Cond.fieldLink RX9 27 "CurveOrders" "text" "LCurveOrders$Text;", Cond.methodLink RX9 129 yX8_findFault, Cond.instanceMethod yX8_findFault, Cond.selects RX8 yX8_findFault yX8_findFault, Cond.initialized RX8, Cond.code yX8_findFault cX8_findFault 2 (some .int), Cond.methodLink RX8 19 yX8_findFaultOfForm, Cond.instanceMethod yX8_findFaultOfForm, Cond.selects RX8 yX8_findFaultOfForm yX8_findFaultOfForm, Cond.code yX8_findFaultOfForm cX8_findFaultOfForm 2 (some .int), Cond.fieldLink RX8 9 "CurveOrders$Text" "length" "I", Cond.methodLink RX8 26 yX8_fitsForm, Cond.instanceMethod yX8_fitsForm, Cond.selects RX8 yX8_fitsForm yX8_fitsForm, Cond.code yX8_fitsForm cX8_fitsForm 4 (some .boolean), Cond.fieldLink RX8 15 "CurveOrders$Text" "bytes" "[I", Cond.methodLink RX8 30 yX8_isToldBefore, Cond.instanceMethod yX8_isToldBefore, Cond.selects RX8 yX8_isToldBefore yX8_isToldBefore, Cond.code yX8_isToldBefore cX8_isToldBefore 4 (some .boolean), Cond.methodLink RX8 23 yX8_findUnknownState, Cond.instanceMethod yX8_findUnknownState, Cond.selects RX8 yX8_findUnknownState yX8_findUnknownState, Cond.code yX8_findUnknownState cX8_findUnknownState 3 (some .int)]
def wsX9_faultPosition_r2 : List Cond := [Cond.methodLink RX8 34 yX8_countStates, Cond.instanceMethod yX8_countStates, Cond.selects RX8 yX8_countStates yX8_countStates, Cond.code yX8_countStates cX8_countStates 1 (some .int), Cond.methodLink RX8 37 yX8_digitAt, Cond.instanceMethod yX8_digitAt, Cond.selects RX8 yX8_digitAt yX8_digitAt, Cond.code yX8_digitAt cX8_digitAt 3 (some .int)]
def wsX9_faultPosition : List Cond := .code yX9_faultPosition cX9_faultPosition 2 (some .int) :: ((wsX9_faultPosition_r1 ++ wsX9_faultPosition_r2) ++ wsX90 ++ wsX80)
def wsX9_read_r1 : List Cond := [Cond.fieldLink RX9 27 "CurveOrders" "text" "LCurveOrders$Text;", Cond.fieldLink RX9 10 "CurveOrders" "now" "LCurveOrders$Setup;", Cond.fieldLink RX9 132 "CurveOrders$Setup" "table" "LCurveOrders$StateTable;", Cond.fieldLink RX9 87 "CurveOrders$Setup" "curve" "I", Cond.fieldLink RX9 142 "CurveOrders$StateTable" "count" "I", Cond.methodLink RX9 129 yX8_findFault, Cond.instanceMethod yX8_findFault, Cond.selects RX8 yX8_findFault yX8_findFault, Cond.initialized RX8, Cond.code yX8_findFault cX8_findFault 2 (some .int), Cond.methodLink RX8 19 yX8_findFaultOfForm, Cond.instanceMethod yX8_findFaultOfForm, Cond.selects RX8 yX8_findFaultOfForm yX8_findFaultOfForm, Cond.code yX8_findFaultOfForm cX8_findFaultOfForm 2 (some .int), Cond.fieldLink RX8 9 "CurveOrders$Text" "length" "I", Cond.methodLink RX8 26 yX8_fitsForm, Cond.instanceMethod yX8_fitsForm, Cond.selects RX8 yX8_fitsForm yX8_fitsForm, Cond.code yX8_fitsForm cX8_fitsForm 4 (some .boolean), Cond.fieldLink RX8 15 "CurveOrders$Text" "bytes" "[I", Cond.methodLink RX8 30 yX8_isToldBefore, Cond.instanceMethod yX8_isToldBefore, Cond.selects RX8 yX8_isToldBefore yX8_isToldBefore, Cond.code yX8_isToldBefore cX8_isToldBefore 4 (some .boolean)]
def wsX9_read_r2 : List Cond := [Cond.methodLink RX8 23 yX8_findUnknownState, Cond.instanceMethod yX8_findUnknownState, Cond.selects RX8 yX8_findUnknownState yX8_findUnknownState, Cond.code yX8_findUnknownState cX8_findUnknownState 3 (some .int), Cond.methodLink RX8 34 yX8_countStates, Cond.instanceMethod yX8_countStates, Cond.selects RX8 yX8_countStates yX8_countStates, Cond.code yX8_countStates cX8_countStates 1 (some .int), Cond.methodLink RX8 37 yX8_digitAt, Cond.instanceMethod yX8_digitAt, Cond.selects RX8 yX8_digitAt yX8_digitAt, Cond.code yX8_digitAt cX8_digitAt 3 (some .int), Cond.methodLink RX9 136 yX6_takeFrom, Cond.instanceMethod yX6_takeFrom, Cond.selects RX6 yX6_takeFrom yX6_takeFrom, Cond.initialized RX6, Cond.code yX6_takeFrom cX6_takeFrom 5 none, Cond.fieldLink RX6 9 "CurveOrders$StateTable" "count" "I", Cond.fieldLink RX6 15 "CurveOrders$StateTable" "visits" "[I", Cond.methodLink RX6 28 yX8_countStates, Cond.methodLink RX6 34 yX8_digitAt, Cond.methodLink RX9 72 yX9_renumber, Cond.instanceMethod yX9_renumber, Cond.selects RX9 yX9_renumber yX9_renumber]
def wsX9_read_r3 : List Cond := [Cond.initialized RX9, Cond.code yX9_renumber cX9_renumber 1 none, Cond.fieldLink RX9 34 "CurveOrders" "numbering" "LCurveOrders$Numbering;", Cond.fieldLink RX9 62 "CurveOrders$Setup" "levels" "I", Cond.fieldLink RX9 41 "CurveOrders" "cover" "LCurveOrders$Cover;", Cond.fieldLink RX9 58 "CurveOrders$Setup" "range" "LCurveOrders$Rectangle;", Cond.methodLink RX9 94 yX5_visitsOfCurve, Cond.instanceMethod yX5_visitsOfCurve, Cond.selects RX5 yX5_visitsOfCurve yX5_visitsOfCurve, Cond.initialized RX5, Cond.code yX5_visitsOfCurve cX5_visitsOfCurve 1 (some (.array .int)), Cond.fieldLink RX5 15 "CurveOrders$Setup" "curve" "I", Cond.fieldLink RX5 21 "CurveOrders$Setup" "table" "LCurveOrders$StateTable;", Cond.fieldLink RX5 56 "CurveOrders$StateTable" "visits" "[I", Cond.methodLink RX9 257 yX2_fill, Cond.instanceMethod yX2_fill, Cond.selects RX2 yX2_fill yX2_fill, Cond.initialized RX2, Cond.code yX2_fill cX2_fill 4 none, Cond.fieldLink RX2 9 "CurveOrders$Numbering" "side" "I", Cond.fieldLink RX2 15 "CurveOrders$Numbering" "cells" "I", Cond.fieldLink RX2 18 "CurveOrders$Numbering" "cellOfIndex" "[I", Cond.fieldLink RX2 22 "CurveOrders$Numbering" "indexOfCell" "[I", Cond.methodLink RX2 25 yX2_divideSquares]
def wsX9_read_r4 : List Cond := [Cond.instanceMethod yX2_divideSquares, Cond.selects RX2 yX2_divideSquares yX2_divideSquares, Cond.code yX2_divideSquares cX2_divideSquares 11 none, Cond.methodLink RX9 149 yX0_fill, Cond.instanceMethod yX0_fill, Cond.selects RX0 yX0_fill yX0_fill, Cond.initialized RX0, Cond.code yX0_fill cX0_fill 6 none, Cond.fieldLink RX0 9 "CurveOrders$Cover" "count" "I", Cond.fieldLink RX0 22 "CurveOrders$Numbering" "cells" "I", Cond.fieldLink RX0 19 "CurveOrders$Cover" "last" "[I", Cond.fieldLink RX0 15 "CurveOrders$Cover" "first" "[I", Cond.methodLink RX0 27 yX2_xAt, Cond.instanceMethod yX2_xAt, Cond.selects RX2 yX2_xAt yX2_xAt, Cond.code yX2_xAt cX2_xAt 2 (some .int), Cond.methodLink RX0 31 yX2_yAt, Cond.instanceMethod yX2_yAt, Cond.selects RX2 yX2_yAt yX2_yAt, Cond.code yX2_yAt cX2_yAt 2 (some .int), Cond.methodLink RX0 34 yX4_holds, Cond.instanceMethod yX4_holds, Cond.selects RX4 yX4_holds yX4_holds, Cond.initialized RX4]
def wsX9_read_r5 : List Cond := [Cond.code yX4_holds cX4_holds 3 (some .boolean), Cond.fieldLink RX4 7 "CurveOrders$Rectangle" "left" "I", Cond.fieldLink RX4 16 "CurveOrders$Rectangle" "right" "I", Cond.fieldLink RX4 13 "CurveOrders$Rectangle" "below" "I", Cond.fieldLink RX4 19 "CurveOrders$Rectangle" "above" "I", Cond.methodLink RX9 75 yX9_redivide, Cond.instanceMethod yX9_redivide, Cond.selects RX9 yX9_redivide yX9_redivide, Cond.code yX9_redivide cX9_redivide 1 none, Cond.fieldLink RX9 47 "CurveOrders$Setup" "division" "LCurveOrders$Division;", Cond.fieldLink RX9 78 "CurveOrders$Setup" "points" "LCurveOrders$PointSet;", Cond.fieldLink RX9 192 "CurveOrders$Setup" "bucket" "I", Cond.methodLink RX9 260 yX1_fill, Cond.instanceMethod yX1_fill, Cond.selects RX1 yX1_fill yX1_fill, Cond.initialized RX1, Cond.code yX1_fill cX1_fill 6 none, Cond.fieldLink RX1 9 "CurveOrders$Division" "count" "I", Cond.fieldLink RX1 15 "CurveOrders$Division" "starts" "[I", Cond.fieldLink RX1 19 "CurveOrders$Numbering" "cells" "I", Cond.methodLink RX1 24 yX1_countPoints, Cond.instanceMethod yX1_countPoints, Cond.selects RX1 yX1_countPoints yX1_countPoints, Cond.code yX1_countPoints cX1_countPoints 4 (some .int)]
def wsX9_read_r6 : List Cond := [Cond.methodLink RX1 32 yX3_countBetween, Cond.instanceMethod yX3_countBetween, Cond.selects RX3 yX3_countBetween yX3_countBetween, Cond.initialized RX3, Cond.code yX3_countBetween cX3_countBetween 7 (some .int), Cond.fieldLink RX3 9 "CurveOrders$PointSet" "count" "I", Cond.methodLink RX3 34 yX3_indexOfPoint, Cond.instanceMethod yX3_indexOfPoint, Cond.selects RX3 yX3_indexOfPoint yX3_indexOfPoint, Cond.code yX3_indexOfPoint cX3_indexOfPoint 3 (some .int), Cond.fieldLink RX3 15 "CurveOrders$PointSet" "cells" "[I", Cond.methodLink RX3 29 yX2_indexOf, Cond.instanceMethod yX2_indexOf, Cond.selects RX2 yX2_indexOf yX2_indexOf, Cond.code yX2_indexOf cX2_indexOf 3 (some .int), Cond.methodLink RX1 28 yX1_divide, Cond.instanceMethod yX1_divide, Cond.selects RX1 yX1_divide yX1_divide, Cond.code yX1_divide cX1_divide 4 (some .boolean)]
def wsX9_read : List Cond := .code yX9_read cX9_read 1 (some .int) :: ((wsX9_read_r1 ++ (wsX9_read_r2 ++ (wsX9_read_r3 ++ (wsX9_read_r4 ++ (wsX9_read_r5 ++ wsX9_read_r6))))) ++ wsX90 ++ wsX50 ++ wsX60 ++ wsX80 ++ wsX20 ++ wsX00 ++ wsX40 ++ wsX10 ++ wsX30)
def wsX9_setRange_r1 : List Cond := [Cond.fieldLink RX9 34 "CurveOrders" "numbering" "LCurveOrders$Numbering;", Cond.fieldLink RX9 10 "CurveOrders" "now" "LCurveOrders$Setup;", Cond.fieldLink RX9 58 "CurveOrders$Setup" "range" "LCurveOrders$Rectangle;", Cond.fieldLink RX9 41 "CurveOrders" "cover" "LCurveOrders$Cover;", Cond.methodLink RX9 98 yX2_holds, Cond.instanceMethod yX2_holds, Cond.selects RX2 yX2_holds yX2_holds, Cond.initialized RX2, Cond.code yX2_holds cX2_holds 3 (some .boolean), Cond.fieldLink RX2 9 "CurveOrders$Numbering" "side" "I", Cond.methodLink RX9 145 yX4_setEdges, Cond.instanceMethod yX4_setEdges, Cond.selects RX4 yX4_setEdges yX4_setEdges, Cond.initialized RX4, Cond.code yX4_setEdges cX4_setEdges 5 none, Cond.fieldLink RX4 7 "CurveOrders$Rectangle" "left" "I", Cond.fieldLink RX4 13 "CurveOrders$Rectangle" "below" "I", Cond.fieldLink RX4 16 "CurveOrders$Rectangle" "right" "I", Cond.fieldLink RX4 19 "CurveOrders$Rectangle" "above" "I", Cond.methodLink RX9 149 yX0_fill, Cond.instanceMethod yX0_fill, Cond.selects RX0 yX0_fill yX0_fill, Cond.initialized RX0, Cond.code yX0_fill cX0_fill 6 none]
def wsX9_setRange_r2 : List Cond := [Cond.fieldLink RX0 9 "CurveOrders$Cover" "count" "I", Cond.fieldLink RX0 22 "CurveOrders$Numbering" "cells" "I", Cond.fieldLink RX0 19 "CurveOrders$Cover" "last" "[I", Cond.fieldLink RX0 15 "CurveOrders$Cover" "first" "[I", Cond.methodLink RX0 27 yX2_xAt, Cond.instanceMethod yX2_xAt, Cond.selects RX2 yX2_xAt yX2_xAt, Cond.code yX2_xAt cX2_xAt 2 (some .int), Cond.fieldLink RX2 18 "CurveOrders$Numbering" "cellOfIndex" "[I", Cond.methodLink RX0 31 yX2_yAt, Cond.instanceMethod yX2_yAt, Cond.selects RX2 yX2_yAt yX2_yAt, Cond.code yX2_yAt cX2_yAt 2 (some .int), Cond.methodLink RX0 34 yX4_holds, Cond.instanceMethod yX4_holds, Cond.selects RX4 yX4_holds yX4_holds, Cond.code yX4_holds cX4_holds 3 (some .boolean)]
def wsX9_setRange : List Cond := .code yX9_setRange cX9_setRange 5 (some .int) :: ((wsX9_setRange_r1 ++ wsX9_setRange_r2) ++ wsX90 ++ wsX50 ++ wsX20 ++ wsX40 ++ wsX00)
def wsX9_intervals : List Cond := .code yX9_intervals cX9_intervals 1 (some .int) :: ([.fieldLink RX9 41 "CurveOrders" "cover" "LCurveOrders$Cover;", .fieldLink RX9 153 "CurveOrders$Cover" "count" "I"] ++ wsX90 ++ wsX00)
def wsX9_interval : List Cond := .code yX9_interval cX9_interval 3 (some .int) :: ([.fieldLink RX9 41 "CurveOrders" "cover" "LCurveOrders$Cover;", .fieldLink RX9 153 "CurveOrders$Cover" "count" "I", .fieldLink RX9 154 "CurveOrders$Cover" "last" "[I", .fieldLink RX9 158 "CurveOrders$Cover" "first" "[I"] ++ wsX90 ++ wsX00)
def wsX9_extra_r1 : List Cond := [Cond.fieldLink RX9 41 "CurveOrders" "cover" "LCurveOrders$Cover;", Cond.methodLink RX9 161 yX0_cellsOfJoinedGaps, Cond.instanceMethod yX0_cellsOfJoinedGaps, Cond.selects RX0 yX0_cellsOfJoinedGaps yX0_cellsOfJoinedGaps, Cond.initialized RX0, Cond.code yX0_cellsOfJoinedGaps cX0_cellsOfJoinedGaps 6 (some .int), Cond.fieldLink RX0 9 "CurveOrders$Cover" "count" "I", Cond.methodLink RX0 52 yX0_countJoined, Cond.instanceMethod yX0_countJoined, Cond.selects RX0 yX0_countJoined yX0_countJoined, Cond.code yX0_countJoined cX0_countJoined 2 (some .int), Cond.methodLink RX0 43 Lib.Math.max.name, Cond.static Lib.Math.max.name, Cond.initialized "java/lang/Math", Cond.code Lib.Math.max.name Lib.Math.max.code 2 (some .int), Cond.methodLink RX0 55 yX0_findLongestJoined, Cond.instanceMethod yX0_findLongestJoined, Cond.selects RX0 yX0_findLongestJoined yX0_findLongestJoined, Cond.code yX0_findLongestJoined cX0_findLongestJoined 5 (some .int), Cond.methodLink RX0 49 yX0_countGapsUpTo, Cond.instanceMethod yX0_countGapsUpTo, Cond.selects RX0 yX0_countGapsUpTo yX0_countGapsUpTo, Cond.code yX0_countGapsUpTo cX0_countGapsUpTo 4 (some .int), Cond.methodLink RX0 40 yX0_gapBehind]
def wsX9_extra_r2 : List Cond := [Cond.instanceMethod yX0_gapBehind, Cond.selects RX0 yX0_gapBehind yX0_gapBehind, Cond.code yX0_gapBehind cX0_gapBehind 2 (some .int), Cond.fieldLink RX0 15 "CurveOrders$Cover" "first" "[I", Cond.fieldLink RX0 19 "CurveOrders$Cover" "last" "[I"]
def wsX9_extra : List Cond := .code yX9_extra cX9_extra 2 (some .int) :: ((wsX9_extra_r1 ++ wsX9_extra_r2) ++ wsX90 ++ wsX00)
def wsX9_covering_r1 : List Cond := [Cond.fieldLink RX9 41 "CurveOrders" "cover" "LCurveOrders$Cover;", Cond.fieldLink RX9 153 "CurveOrders$Cover" "count" "I", Cond.methodLink RX9 164 Lib.Math.min.name, Cond.static Lib.Math.min.name, Cond.initialized "java/lang/Math", Cond.code Lib.Math.min.name Lib.Math.min.code 2 (some .int), Cond.methodLink RX9 169 yX0_endOfJoined, Cond.instanceMethod yX0_endOfJoined, Cond.selects RX0 yX0_endOfJoined yX0_endOfJoined, Cond.initialized RX0, Cond.code yX0_endOfJoined cX0_endOfJoined 10 (some .int), Cond.fieldLink RX0 9 "CurveOrders$Cover" "count" "I", Cond.fieldLink RX0 19 "CurveOrders$Cover" "last" "[I", Cond.fieldLink RX0 15 "CurveOrders$Cover" "first" "[I", Cond.methodLink RX0 52 yX0_countJoined, Cond.instanceMethod yX0_countJoined, Cond.selects RX0 yX0_countJoined yX0_countJoined, Cond.code yX0_countJoined cX0_countJoined 2 (some .int), Cond.methodLink RX0 43 Lib.Math.max.name, Cond.static Lib.Math.max.name, Cond.code Lib.Math.max.name Lib.Math.max.code 2 (some .int), Cond.methodLink RX0 55 yX0_findLongestJoined, Cond.instanceMethod yX0_findLongestJoined, Cond.selects RX0 yX0_findLongestJoined yX0_findLongestJoined]
def wsX9_covering_r2 : List Cond := [Cond.code yX0_findLongestJoined cX0_findLongestJoined 5 (some .int), Cond.methodLink RX0 49 yX0_countGapsUpTo, Cond.instanceMethod yX0_countGapsUpTo, Cond.selects RX0 yX0_countGapsUpTo yX0_countGapsUpTo, Cond.code yX0_countGapsUpTo cX0_countGapsUpTo 4 (some .int), Cond.methodLink RX0 40 yX0_gapBehind, Cond.instanceMethod yX0_gapBehind, Cond.selects RX0 yX0_gapBehind yX0_gapBehind, Cond.code yX0_gapBehind cX0_gapBehind 2 (some .int)]
def wsX9_covering : List Cond := .code yX9_covering cX9_covering 4 (some .int) :: ((wsX9_covering_r1 ++ wsX9_covering_r2) ++ wsX90 ++ wsX00)
def wsX9_clusters_r1 : List Cond := [Cond.fieldLink RX9 34 "CurveOrders" "numbering" "LCurveOrders$Numbering;", Cond.fieldLink RX9 173 "CurveOrders$Numbering" "side" "I", Cond.methodLink RX9 176 yX2_countIntervalsOfAll, Cond.instanceMethod yX2_countIntervalsOfAll, Cond.selects RX2 yX2_countIntervalsOfAll yX2_countIntervalsOfAll, Cond.initialized RX2, Cond.code yX2_countIntervalsOfAll cX2_countIntervalsOfAll 5 (some .int), Cond.fieldLink RX2 15 "CurveOrders$Numbering" "cells" "I", Cond.methodLink RX2 48 yX2_countRectangles, Cond.instanceMethod yX2_countRectangles, Cond.selects RX2 yX2_countRectangles yX2_countRectangles, Cond.code yX2_countRectangles cX2_countRectangles 5 (some .int), Cond.methodLink RX2 29 yX2_xAt, Cond.instanceMethod yX2_xAt, Cond.selects RX2 yX2_xAt yX2_xAt, Cond.code yX2_xAt cX2_xAt 2 (some .int), Cond.fieldLink RX2 18 "CurveOrders$Numbering" "cellOfIndex" "[I", Cond.methodLink RX2 52 yX2_countPlaces, Cond.instanceMethod yX2_countPlaces, Cond.selects RX2 yX2_countPlaces yX2_countPlaces, Cond.code yX2_countPlaces cX2_countPlaces 6 (some .int), Cond.methodLink RX2 45 Lib.Math.max.name, Cond.static Lib.Math.max.name, Cond.initialized "java/lang/Math"]
def wsX9_clusters_r2 : List Cond := [Cond.code Lib.Math.max.name Lib.Math.max.code 2 (some .int), Cond.fieldLink RX2 9 "CurveOrders$Numbering" "side" "I", Cond.methodLink RX2 56 Lib.Math.min.name, Cond.static Lib.Math.min.name, Cond.code Lib.Math.min.name Lib.Math.min.code 2 (some .int), Cond.methodLink RX2 38 yX2_yAt, Cond.instanceMethod yX2_yAt, Cond.selects RX2 yX2_yAt yX2_yAt, Cond.code yX2_yAt cX2_yAt 2 (some .int)]
def wsX9_clusters : List Cond := .code yX9_clusters cX9_clusters 3 (some .int) :: ((wsX9_clusters_r1 ++ wsX9_clusters_r2) ++ wsX90 ++ wsX20)
def wsX9_addPoint_r1 : List Cond := [Cond.fieldLink RX9 34 "CurveOrders" "numbering" "LCurveOrders$Numbering;", Cond.fieldLink RX9 10 "CurveOrders" "now" "LCurveOrders$Setup;", Cond.fieldLink RX9 78 "CurveOrders$Setup" "points" "LCurveOrders$PointSet;", Cond.fieldLink RX9 184 "CurveOrders$PointSet" "count" "I", Cond.methodLink RX9 98 yX2_holds, Cond.instanceMethod yX2_holds, Cond.selects RX2 yX2_holds yX2_holds, Cond.initialized RX2, Cond.code yX2_holds cX2_holds 3 (some .boolean), Cond.fieldLink RX2 9 "CurveOrders$Numbering" "side" "I", Cond.methodLink RX9 179 yX3_find, Cond.instanceMethod yX3_find, Cond.selects RX3 yX3_find yX3_find, Cond.initialized RX3, Cond.code yX3_find cX3_find 4 (some .int), Cond.fieldLink RX3 9 "CurveOrders$PointSet" "count" "I", Cond.fieldLink RX3 15 "CurveOrders$PointSet" "cells" "[I", Cond.methodLink RX9 182 yX3_add, Cond.instanceMethod yX3_add, Cond.selects RX3 yX3_add yX3_add, Cond.code yX3_add cX3_add 3 (some .boolean), Cond.methodLink RX9 75 yX9_redivide, Cond.instanceMethod yX9_redivide, Cond.selects RX9 yX9_redivide yX9_redivide]
def wsX9_addPoint_r2 : List Cond := [Cond.initialized RX9, Cond.code yX9_redivide cX9_redivide 1 none, Cond.fieldLink RX9 47 "CurveOrders$Setup" "division" "LCurveOrders$Division;", Cond.fieldLink RX9 192 "CurveOrders$Setup" "bucket" "I", Cond.methodLink RX9 260 yX1_fill, Cond.instanceMethod yX1_fill, Cond.selects RX1 yX1_fill yX1_fill, Cond.initialized RX1, Cond.code yX1_fill cX1_fill 6 none, Cond.fieldLink RX1 9 "CurveOrders$Division" "count" "I", Cond.fieldLink RX1 15 "CurveOrders$Division" "starts" "[I", Cond.fieldLink RX1 19 "CurveOrders$Numbering" "cells" "I", Cond.methodLink RX1 24 yX1_countPoints, Cond.instanceMethod yX1_countPoints, Cond.selects RX1 yX1_countPoints yX1_countPoints, Cond.code yX1_countPoints cX1_countPoints 4 (some .int), Cond.methodLink RX1 32 yX3_countBetween, Cond.instanceMethod yX3_countBetween, Cond.selects RX3 yX3_countBetween yX3_countBetween, Cond.code yX3_countBetween cX3_countBetween 7 (some .int), Cond.methodLink RX3 34 yX3_indexOfPoint, Cond.instanceMethod yX3_indexOfPoint, Cond.selects RX3 yX3_indexOfPoint yX3_indexOfPoint, Cond.code yX3_indexOfPoint cX3_indexOfPoint 3 (some .int)]
def wsX9_addPoint_r3 : List Cond := [Cond.methodLink RX3 29 yX2_indexOf, Cond.instanceMethod yX2_indexOf, Cond.selects RX2 yX2_indexOf yX2_indexOf, Cond.code yX2_indexOf cX2_indexOf 3 (some .int), Cond.fieldLink RX2 22 "CurveOrders$Numbering" "indexOfCell" "[I", Cond.methodLink RX1 28 yX1_divide, Cond.instanceMethod yX1_divide, Cond.selects RX1 yX1_divide yX1_divide, Cond.code yX1_divide cX1_divide 4 (some .boolean)]
def wsX9_addPoint : List Cond := .code yX9_addPoint cX9_addPoint 3 (some .int) :: ((wsX9_addPoint_r1 ++ (wsX9_addPoint_r2 ++ wsX9_addPoint_r3)) ++ wsX90 ++ wsX50 ++ wsX30 ++ wsX20 ++ wsX10)
def wsX9_removePoint_r1 : List Cond := [Cond.fieldLink RX9 34 "CurveOrders" "numbering" "LCurveOrders$Numbering;", Cond.fieldLink RX9 10 "CurveOrders" "now" "LCurveOrders$Setup;", Cond.fieldLink RX9 78 "CurveOrders$Setup" "points" "LCurveOrders$PointSet;", Cond.fieldLink RX9 184 "CurveOrders$PointSet" "count" "I", Cond.methodLink RX9 98 yX2_holds, Cond.instanceMethod yX2_holds, Cond.selects RX2 yX2_holds yX2_holds, Cond.initialized RX2, Cond.code yX2_holds cX2_holds 3 (some .boolean), Cond.fieldLink RX2 9 "CurveOrders$Numbering" "side" "I", Cond.methodLink RX9 185 yX3_remove, Cond.instanceMethod yX3_remove, Cond.selects RX3 yX3_remove yX3_remove, Cond.initialized RX3, Cond.code yX3_remove cX3_remove 4 (some .boolean), Cond.fieldLink RX3 9 "CurveOrders$PointSet" "count" "I", Cond.fieldLink RX3 15 "CurveOrders$PointSet" "cells" "[I", Cond.methodLink RX3 19 yX3_find, Cond.instanceMethod yX3_find, Cond.selects RX3 yX3_find yX3_find, Cond.code yX3_find cX3_find 4 (some .int), Cond.methodLink RX9 75 yX9_redivide, Cond.instanceMethod yX9_redivide, Cond.selects RX9 yX9_redivide yX9_redivide]
def wsX9_removePoint_r2 : List Cond := [Cond.initialized RX9, Cond.code yX9_redivide cX9_redivide 1 none, Cond.fieldLink RX9 47 "CurveOrders$Setup" "division" "LCurveOrders$Division;", Cond.fieldLink RX9 192 "CurveOrders$Setup" "bucket" "I", Cond.methodLink RX9 260 yX1_fill, Cond.instanceMethod yX1_fill, Cond.selects RX1 yX1_fill yX1_fill, Cond.initialized RX1, Cond.code yX1_fill cX1_fill 6 none, Cond.fieldLink RX1 9 "CurveOrders$Division" "count" "I", Cond.fieldLink RX1 15 "CurveOrders$Division" "starts" "[I", Cond.fieldLink RX1 19 "CurveOrders$Numbering" "cells" "I", Cond.methodLink RX1 24 yX1_countPoints, Cond.instanceMethod yX1_countPoints, Cond.selects RX1 yX1_countPoints yX1_countPoints, Cond.code yX1_countPoints cX1_countPoints 4 (some .int), Cond.methodLink RX1 32 yX3_countBetween, Cond.instanceMethod yX3_countBetween, Cond.selects RX3 yX3_countBetween yX3_countBetween, Cond.code yX3_countBetween cX3_countBetween 7 (some .int), Cond.methodLink RX3 34 yX3_indexOfPoint, Cond.instanceMethod yX3_indexOfPoint, Cond.selects RX3 yX3_indexOfPoint yX3_indexOfPoint, Cond.code yX3_indexOfPoint cX3_indexOfPoint 3 (some .int)]
def wsX9_removePoint_r3 : List Cond := [Cond.methodLink RX3 29 yX2_indexOf, Cond.instanceMethod yX2_indexOf, Cond.selects RX2 yX2_indexOf yX2_indexOf, Cond.code yX2_indexOf cX2_indexOf 3 (some .int), Cond.fieldLink RX2 22 "CurveOrders$Numbering" "indexOfCell" "[I", Cond.methodLink RX1 28 yX1_divide, Cond.instanceMethod yX1_divide, Cond.selects RX1 yX1_divide yX1_divide, Cond.code yX1_divide cX1_divide 4 (some .boolean)]
def wsX9_removePoint : List Cond := .code yX9_removePoint cX9_removePoint 3 (some .int) :: ((wsX9_removePoint_r1 ++ (wsX9_removePoint_r2 ++ wsX9_removePoint_r3)) ++ wsX90 ++ wsX50 ++ wsX30 ++ wsX20 ++ wsX10)
def wsX9_points : List Cond := .code yX9_points cX9_points 1 (some .int) :: ([.fieldLink RX9 10 "CurveOrders" "now" "LCurveOrders$Setup;", .fieldLink RX9 78 "CurveOrders$Setup" "points" "LCurveOrders$PointSet;", .fieldLink RX9 184 "CurveOrders$PointSet" "count" "I"] ++ wsX90 ++ wsX50 ++ wsX30)
def wsX9_nearest_r1 : List Cond := [Cond.fieldLink RX9 34 "CurveOrders" "numbering" "LCurveOrders$Numbering;", Cond.fieldLink RX9 10 "CurveOrders" "now" "LCurveOrders$Setup;", Cond.fieldLink RX9 78 "CurveOrders$Setup" "points" "LCurveOrders$PointSet;", Cond.methodLink RX9 98 yX2_holds, Cond.instanceMethod yX2_holds, Cond.selects RX2 yX2_holds yX2_holds, Cond.initialized RX2, Cond.code yX2_holds cX2_holds 3 (some .boolean), Cond.fieldLink RX2 9 "CurveOrders$Numbering" "side" "I", Cond.methodLink RX9 102 yX2_indexOf, Cond.instanceMethod yX2_indexOf, Cond.selects RX2 yX2_indexOf yX2_indexOf, Cond.code yX2_indexOf cX2_indexOf 3 (some .int), Cond.fieldLink RX2 22 "CurveOrders$Numbering" "indexOfCell" "[I", Cond.methodLink RX9 188 yX3_findNearest, Cond.instanceMethod yX3_findNearest, Cond.selects RX3 yX3_findNearest yX3_findNearest, Cond.initialized RX3, Cond.code yX3_findNearest cX3_findNearest 7 (some .int), Cond.fieldLink RX3 9 "CurveOrders$PointSet" "count" "I", Cond.methodLink RX3 38 Lib.Math.abs.name, Cond.static Lib.Math.abs.name, Cond.initialized "java/lang/Math", Cond.code Lib.Math.abs.name Lib.Math.abs.code 1 (some .int)]
def wsX9_nearest_r2 : List Cond := [Cond.methodLink RX3 34 yX3_indexOfPoint, Cond.instanceMethod yX3_indexOfPoint, Cond.selects RX3 yX3_indexOfPoint yX3_indexOfPoint, Cond.code yX3_indexOfPoint cX3_indexOfPoint 3 (some .int), Cond.fieldLink RX3 15 "CurveOrders$PointSet" "cells" "[I", Cond.methodLink RX3 29 yX2_indexOf]
def wsX9_nearest : List Cond := .code yX9_nearest cX9_nearest 4 (some .int) :: ((wsX9_nearest_r1 ++ wsX9_nearest_r2) ++ wsX90 ++ wsX50 ++ wsX20 ++ wsX30)
def wsX9_setBucket_r1 : List Cond := [Cond.fieldLink RX9 10 "CurveOrders" "now" "LCurveOrders$Setup;", Cond.fieldLink RX9 192 "CurveOrders$Setup" "bucket" "I", Cond.methodLink RX9 75 yX9_redivide, Cond.instanceMethod yX9_redivide, Cond.selects RX9 yX9_redivide yX9_redivide, Cond.initialized RX9, Cond.code yX9_redivide cX9_redivide 1 none, Cond.fieldLink RX9 47 "CurveOrders$Setup" "division" "LCurveOrders$Division;", Cond.fieldLink RX9 34 "CurveOrders" "numbering" "LCurveOrders$Numbering;", Cond.fieldLink RX9 78 "CurveOrders$Setup" "points" "LCurveOrders$PointSet;", Cond.methodLink RX9 260 yX1_fill, Cond.instanceMethod yX1_fill, Cond.selects RX1 yX1_fill yX1_fill, Cond.initialized RX1, Cond.code yX1_fill cX1_fill 6 none, Cond.fieldLink RX1 9 "CurveOrders$Division" "count" "I", Cond.fieldLink RX1 15 "CurveOrders$Division" "starts" "[I", Cond.fieldLink RX1 19 "CurveOrders$Numbering" "cells" "I", Cond.methodLink RX1 24 yX1_countPoints, Cond.instanceMethod yX1_countPoints, Cond.selects RX1 yX1_countPoints yX1_countPoints, Cond.code yX1_countPoints cX1_countPoints 4 (some .int), Cond.methodLink RX1 32 yX3_countBetween, Cond.instanceMethod yX3_countBetween]
def wsX9_setBucket_r2 : List Cond := [Cond.selects RX3 yX3_countBetween yX3_countBetween, Cond.initialized RX3, Cond.code yX3_countBetween cX3_countBetween 7 (some .int), Cond.fieldLink RX3 9 "CurveOrders$PointSet" "count" "I", Cond.methodLink RX3 34 yX3_indexOfPoint, Cond.instanceMethod yX3_indexOfPoint, Cond.selects RX3 yX3_indexOfPoint yX3_indexOfPoint, Cond.code yX3_indexOfPoint cX3_indexOfPoint 3 (some .int), Cond.fieldLink RX3 15 "CurveOrders$PointSet" "cells" "[I", Cond.methodLink RX3 29 yX2_indexOf, Cond.instanceMethod yX2_indexOf, Cond.selects RX2 yX2_indexOf yX2_indexOf, Cond.initialized RX2, Cond.code yX2_indexOf cX2_indexOf 3 (some .int), Cond.fieldLink RX2 22 "CurveOrders$Numbering" "indexOfCell" "[I", Cond.methodLink RX1 28 yX1_divide, Cond.instanceMethod yX1_divide, Cond.selects RX1 yX1_divide yX1_divide, Cond.code yX1_divide cX1_divide 4 (some .boolean)]
def wsX9_setBucket : List Cond := .code yX9_setBucket cX9_setBucket 3 (some .int) :: ((wsX9_setBucket_r1 ++ wsX9_setBucket_r2) ++ wsX90 ++ wsX50 ++ wsX10 ++ wsX20 ++ wsX30)
def wsX9_leaves : List Cond := .code yX9_leaves cX9_leaves 1 (some .int) :: ([.fieldLink RX9 10 "CurveOrders" "now" "LCurveOrders$Setup;", .fieldLink RX9 47 "CurveOrders$Setup" "division" "LCurveOrders$Division;", .fieldLink RX9 195 "CurveOrders$Division" "count" "I"] ++ wsX90 ++ wsX50 ++ wsX10)
def wsX9_isLeaf : List Cond := .code yX9_isLeaf cX9_isLeaf 2 (some .boolean) :: ([.fieldLink RX9 10 "CurveOrders" "now" "LCurveOrders$Setup;", .fieldLink RX9 47 "CurveOrders$Setup" "division" "LCurveOrders$Division;", .fieldLink RX9 195 "CurveOrders$Division" "count" "I"] ++ wsX90 ++ wsX50 ++ wsX10)
def wsX9_leaf_r1 : List Cond := [Cond.fieldLink RX9 54 "CurveOrders" "surroundings" "LCurveOrders$Surroundings;", Cond.fieldLink RX9 10 "CurveOrders" "now" "LCurveOrders$Setup;", Cond.fieldLink RX9 47 "CurveOrders$Setup" "division" "LCurveOrders$Division;", Cond.fieldLink RX9 34 "CurveOrders" "numbering" "LCurveOrders$Numbering;", Cond.fieldLink RX9 78 "CurveOrders$Setup" "points" "LCurveOrders$PointSet;", Cond.fieldLink RX9 214 "CurveOrders$Division" "starts" "[I", Cond.methodLink RX9 198 yX9_isLeaf, Cond.instanceMethod yX9_isLeaf, Cond.selects RX9 yX9_isLeaf yX9_isLeaf, Cond.initialized RX9, Cond.code yX9_isLeaf cX9_isLeaf 2 (some .boolean), Cond.fieldLink RX9 195 "CurveOrders$Division" "count" "I", Cond.methodLink RX9 201 yX7_leftOf, Cond.instanceMethod yX7_leftOf, Cond.selects RX7 yX7_leftOf yX7_leftOf, Cond.initialized RX7, Cond.code yX7_leftOf cX7_leftOf 2 (some .int), Cond.fieldLink RX7 19 "CurveOrders$Surroundings" "numbering" "LCurveOrders$Numbering;", Cond.fieldLink RX7 23 "CurveOrders$Surroundings" "division" "LCurveOrders$Division;", Cond.fieldLink RX7 27 "CurveOrders$Division" "starts" "[I", Cond.methodLink RX7 32 yX2_xAt, Cond.instanceMethod yX2_xAt, Cond.selects RX2 yX2_xAt yX2_xAt, Cond.initialized RX2]
def wsX9_leaf_r2 : List Cond := [Cond.code yX2_xAt cX2_xAt 2 (some .int), Cond.fieldLink RX2 18 "CurveOrders$Numbering" "cellOfIndex" "[I", Cond.methodLink RX7 38 yX1_sideOf, Cond.instanceMethod yX1_sideOf, Cond.selects RX1 yX1_sideOf yX1_sideOf, Cond.initialized RX1, Cond.code yX1_sideOf cX1_sideOf 4 (some .int), Cond.fieldLink RX1 15 "CurveOrders$Division" "starts" "[I", Cond.methodLink RX9 204 yX7_belowOf, Cond.instanceMethod yX7_belowOf, Cond.selects RX7 yX7_belowOf yX7_belowOf, Cond.code yX7_belowOf cX7_belowOf 2 (some .int), Cond.methodLink RX7 41 yX2_yAt, Cond.instanceMethod yX2_yAt, Cond.selects RX2 yX2_yAt yX2_yAt, Cond.code yX2_yAt cX2_yAt 2 (some .int), Cond.methodLink RX9 207 yX1_sideOf, Cond.methodLink RX9 210 yX1_countPoints, Cond.instanceMethod yX1_countPoints, Cond.selects RX1 yX1_countPoints yX1_countPoints, Cond.code yX1_countPoints cX1_countPoints 4 (some .int), Cond.methodLink RX1 32 yX3_countBetween, Cond.instanceMethod yX3_countBetween, Cond.selects RX3 yX3_countBetween yX3_countBetween]
def wsX9_leaf_r3 : List Cond := [Cond.initialized RX3, Cond.code yX3_countBetween cX3_countBetween 7 (some .int), Cond.fieldLink RX3 9 "CurveOrders$PointSet" "count" "I", Cond.methodLink RX3 34 yX3_indexOfPoint, Cond.instanceMethod yX3_indexOfPoint, Cond.selects RX3 yX3_indexOfPoint yX3_indexOfPoint, Cond.code yX3_indexOfPoint cX3_indexOfPoint 3 (some .int), Cond.fieldLink RX3 15 "CurveOrders$PointSet" "cells" "[I", Cond.methodLink RX3 29 yX2_indexOf, Cond.instanceMethod yX2_indexOf, Cond.selects RX2 yX2_indexOf yX2_indexOf, Cond.code yX2_indexOf cX2_indexOf 3 (some .int), Cond.fieldLink RX2 22 "CurveOrders$Numbering" "indexOfCell" "[I"]
def wsX9_leaf : List Cond := .code yX9_leaf cX9_leaf 3 (some .int) :: ((wsX9_leaf_r1 ++ (wsX9_leaf_r2 ++ wsX9_leaf_r3)) ++ wsX90 ++ wsX50 ++ wsX10 ++ wsX70 ++ wsX20 ++ wsX30)
def wsX9_leafAt : List Cond := .code yX9_leafAt cX9_leafAt 3 (some .int) :: ([.fieldLink RX9 34 "CurveOrders" "numbering" "LCurveOrders$Numbering;", .fieldLink RX9 10 "CurveOrders" "now" "LCurveOrders$Setup;", .fieldLink RX9 47 "CurveOrders$Setup" "division" "LCurveOrders$Division;", .methodLink RX9 98 yX2_holds, .instanceMethod yX2_holds, .selects RX2 yX2_holds yX2_holds, .initialized RX2, .code yX2_holds cX2_holds 3 (some .boolean), .fieldLink RX2 9 "CurveOrders$Numbering" "side" "I", .methodLink RX9 102 yX2_indexOf, .instanceMethod yX2_indexOf, .selects RX2 yX2_indexOf yX2_indexOf, .code yX2_indexOf cX2_indexOf 3 (some .int), .fieldLink RX2 22 "CurveOrders$Numbering" "indexOfCell" "[I", .methodLink RX9 217 yX1_leafOfIndex, .instanceMethod yX1_leafOfIndex, .selects RX1 yX1_leafOfIndex yX1_leafOfIndex, .initialized RX1, .code yX1_leafOfIndex cX1_leafOfIndex 5 (some .int), .fieldLink RX1 9 "CurveOrders$Division" "count" "I", .fieldLink RX1 15 "CurveOrders$Division" "starts" "[I"] ++ wsX90 ++ wsX50 ++ wsX20 ++ wsX10)
def wsX9_isSide : List Cond := .code yX9_isSide cX9_isSide 1 (some .boolean) :: ([])
def wsX9_neighbours_r1 : List Cond := [Cond.fieldLink RX9 54 "CurveOrders" "surroundings" "LCurveOrders$Surroundings;", Cond.fieldLink RX9 227 "CurveOrders$Surroundings" "count" "I", Cond.methodLink RX9 198 yX9_isLeaf, Cond.instanceMethod yX9_isLeaf, Cond.selects RX9 yX9_isLeaf yX9_isLeaf, Cond.initialized RX9, Cond.code yX9_isLeaf cX9_isLeaf 2 (some .boolean), Cond.fieldLink RX9 10 "CurveOrders" "now" "LCurveOrders$Setup;", Cond.fieldLink RX9 47 "CurveOrders$Setup" "division" "LCurveOrders$Division;", Cond.fieldLink RX9 195 "CurveOrders$Division" "count" "I", Cond.methodLink RX9 220 yX9_isSide, Cond.static yX9_isSide, Cond.code yX9_isSide cX9_isSide 1 (some .boolean), Cond.methodLink RX9 223 yX7_findBeyond, Cond.instanceMethod yX7_findBeyond, Cond.selects RX7 yX7_findBeyond yX7_findBeyond, Cond.initialized RX7, Cond.code yX7_findBeyond cX7_findBeyond 9 none, Cond.fieldLink RX7 23 "CurveOrders$Surroundings" "division" "LCurveOrders$Division;", Cond.fieldLink RX7 9 "CurveOrders$Surroundings" "count" "I", Cond.fieldLink RX7 19 "CurveOrders$Surroundings" "numbering" "LCurveOrders$Numbering;", Cond.methodLink RX7 69 Lib.Math.max.name, Cond.static Lib.Math.max.name, Cond.initialized "java/lang/Math"]
def wsX9_neighbours_r2 : List Cond := [Cond.code Lib.Math.max.name Lib.Math.max.code 2 (some .int), Cond.methodLink RX7 38 yX1_sideOf, Cond.instanceMethod yX1_sideOf, Cond.selects RX1 yX1_sideOf yX1_sideOf, Cond.initialized RX1, Cond.code yX1_sideOf cX1_sideOf 4 (some .int), Cond.fieldLink RX1 15 "CurveOrders$Division" "starts" "[I", Cond.methodLink RX7 44 yX7_leftOf, Cond.instanceMethod yX7_leftOf, Cond.selects RX7 yX7_leftOf yX7_leftOf, Cond.code yX7_leftOf cX7_leftOf 2 (some .int), Cond.fieldLink RX7 27 "CurveOrders$Division" "starts" "[I", Cond.methodLink RX7 32 yX2_xAt, Cond.instanceMethod yX2_xAt, Cond.selects RX2 yX2_xAt yX2_xAt, Cond.initialized RX2, Cond.code yX2_xAt cX2_xAt 2 (some .int), Cond.fieldLink RX2 18 "CurveOrders$Numbering" "cellOfIndex" "[I", Cond.methodLink RX7 47 yX7_stepAcross, Cond.static yX7_stepAcross, Cond.code yX7_stepAcross cX7_stepAcross 3 (some .int), Cond.methodLink RX7 51 yX7_belowOf, Cond.instanceMethod yX7_belowOf, Cond.selects RX7 yX7_belowOf yX7_belowOf]
def wsX9_neighbours_r3 : List Cond := [Cond.code yX7_belowOf cX7_belowOf 2 (some .int), Cond.methodLink RX7 41 yX2_yAt, Cond.instanceMethod yX2_yAt, Cond.selects RX2 yX2_yAt yX2_yAt, Cond.code yX2_yAt cX2_yAt 2 (some .int), Cond.methodLink RX7 54 yX2_holds, Cond.instanceMethod yX2_holds, Cond.selects RX2 yX2_holds yX2_holds, Cond.code yX2_holds cX2_holds 3 (some .boolean), Cond.fieldLink RX2 9 "CurveOrders$Numbering" "side" "I", Cond.methodLink RX7 58 yX2_indexOf, Cond.instanceMethod yX2_indexOf, Cond.selects RX2 yX2_indexOf yX2_indexOf, Cond.code yX2_indexOf cX2_indexOf 3 (some .int), Cond.fieldLink RX2 22 "CurveOrders$Numbering" "indexOfCell" "[I", Cond.methodLink RX7 62 yX1_leafOfIndex, Cond.instanceMethod yX1_leafOfIndex, Cond.selects RX1 yX1_leafOfIndex yX1_leafOfIndex, Cond.code yX1_leafOfIndex cX1_leafOfIndex 5 (some .int), Cond.fieldLink RX1 9 "CurveOrders$Division" "count" "I", Cond.methodLink RX7 65 yX7_insert, Cond.instanceMethod yX7_insert, Cond.selects RX7 yX7_insert yX7_insert, Cond.code yX7_insert cX7_insert 3 none]
def wsX9_neighbours_r4 : List Cond := [Cond.fieldLink RX7 15 "CurveOrders$Surroundings" "found" "[I"]
def wsX9_neighbours : List Cond := .code yX9_neighbours cX9_neighbours 3 (some .int) :: ((wsX9_neighbours_r1 ++ (wsX9_neighbours_r2 ++ (wsX9_neighbours_r3 ++ wsX9_neighbours_r4))) ++ wsX90 ++ wsX70 ++ wsX50 ++ wsX10 ++ wsX20)
end
section
def wsX9_neighbour_r1 : List Cond := [Cond.fieldLink RX9 54 "CurveOrders" "surroundings" "LCurveOrders$Surroundings;", Cond.fieldLink RX9 227 "CurveOrders$Surroundings" "count" "I", Cond.fieldLink RX9 228 "CurveOrders$Surroundings" "found" "[I", Cond.methodLink RX9 198 yX9_isLeaf, Cond.instanceMethod yX9_isLeaf, Cond.selects RX9 yX9_isLeaf yX9_isLeaf, Cond.initialized RX9, Cond.code yX9_isLeaf cX9_isLeaf 2 (some .boolean), Cond.fieldLink RX9 10 "CurveOrders" "now" "LCurveOrders$Setup;", Cond.fieldLink RX9 47 "CurveOrders$Setup" "division" "LCurveOrders$Division;", Cond.fieldLink RX9 195 "CurveOrders$Division" "count" "I", Cond.methodLink RX9 220 yX9_isSide, Cond.static yX9_isSide, Cond.code yX9_isSide cX9_isSide 1 (some .boolean), Cond.methodLink RX9 223 yX7_findBeyond, Cond.instanceMethod yX7_findBeyond, Cond.selects RX7 yX7_findBeyond yX7_findBeyond, Cond.initialized RX7, Cond.code yX7_findBeyond cX7_findBeyond 9 none, Cond.fieldLink RX7 23 "CurveOrders$Surroundings" "division" "LCurveOrders$Division;", Cond.fieldLink RX7 9 "CurveOrders$Surroundings" "count" "I", Cond.fieldLink RX7 19 "CurveOrders$Surroundings" "numbering" "LCurveOrders$Numbering;", Cond.methodLink RX7 69 Lib.Math.max.name, Cond.static Lib.Math.max.name]
def wsX9_neighbour_r2 : List Cond := [Cond.initialized "java/lang/Math", Cond.code Lib.Math.max.name Lib.Math.max.code 2 (some .int), Cond.methodLink RX7 38 yX1_sideOf, Cond.instanceMethod yX1_sideOf, Cond.selects RX1 yX1_sideOf yX1_sideOf, Cond.initialized RX1, Cond.code yX1_sideOf cX1_sideOf 4 (some .int), Cond.fieldLink RX1 15 "CurveOrders$Division" "starts" "[I", Cond.methodLink RX7 44 yX7_leftOf, Cond.instanceMethod yX7_leftOf, Cond.selects RX7 yX7_leftOf yX7_leftOf, Cond.code yX7_leftOf cX7_leftOf 2 (some .int), Cond.fieldLink RX7 27 "CurveOrders$Division" "starts" "[I", Cond.methodLink RX7 32 yX2_xAt, Cond.instanceMethod yX2_xAt, Cond.selects RX2 yX2_xAt yX2_xAt, Cond.initialized RX2, Cond.code yX2_xAt cX2_xAt 2 (some .int), Cond.fieldLink RX2 18 "CurveOrders$Numbering" "cellOfIndex" "[I", Cond.methodLink RX7 47 yX7_stepAcross, Cond.static yX7_stepAcross, Cond.code yX7_stepAcross cX7_stepAcross 3 (some .int), Cond.methodLink RX7 51 yX7_belowOf, Cond.instanceMethod yX7_belowOf]
def wsX9_neighbour_r3 : List Cond := [Cond.selects RX7 yX7_belowOf yX7_belowOf, Cond.code yX7_belowOf cX7_belowOf 2 (some .int), Cond.methodLink RX7 41 yX2_yAt, Cond.instanceMethod yX2_yAt, Cond.selects RX2 yX2_yAt yX2_yAt, Cond.code yX2_yAt cX2_yAt 2 (some .int), Cond.methodLink RX7 54 yX2_holds, Cond.instanceMethod yX2_holds, Cond.selects RX2 yX2_holds yX2_holds, Cond.code yX2_holds cX2_holds 3 (some .boolean), Cond.fieldLink RX2 9 "CurveOrders$Numbering" "side" "I", Cond.methodLink RX7 58 yX2_indexOf, Cond.instanceMethod yX2_indexOf, Cond.selects RX2 yX2_indexOf yX2_indexOf, Cond.code yX2_indexOf cX2_indexOf 3 (some .int), Cond.fieldLink RX2 22 "CurveOrders$Numbering" "indexOfCell" "[I", Cond.methodLink RX7 62 yX1_leafOfIndex, Cond.instanceMethod yX1_leafOfIndex, Cond.selects RX1 yX1_leafOfIndex yX1_leafOfIndex, Cond.code yX1_leafOfIndex cX1_leafOfIndex 5 (some .int), Cond.fieldLink RX1 9 "CurveOrders$Division" "count" "I", Cond.methodLink RX7 65 yX7_insert, Cond.instanceMethod yX7_insert, Cond.selects RX7 yX7_insert yX7_insert]
def wsX9_neighbour_r4 : List Cond := [Cond.code yX7_insert cX7_insert 3 none, Cond.fieldLink RX7 15 "CurveOrders$Surroundings" "found" "[I"]
def wsX9_neighbour : List Cond := .code yX9_neighbour cX9_neighbour 4 (some .int) :: ((wsX9_neighbour_r1 ++ (wsX9_neighbour_r2 ++ (wsX9_neighbour_r3 ++ wsX9_neighbour_r4))) ++ wsX90 ++ wsX70 ++ wsX50 ++ wsX10 ++ wsX20)
def wsX9_balance_r1 : List Cond := [Cond.fieldLink RX9 54 "CurveOrders" "surroundings" "LCurveOrders$Surroundings;", Cond.methodLink RX9 231 yX7_divideAllTooLarge, Cond.instanceMethod yX7_divideAllTooLarge, Cond.selects RX7 yX7_divideAllTooLarge yX7_divideAllTooLarge, Cond.initialized RX7, Cond.code yX7_divideAllTooLarge cX7_divideAllTooLarge 5 (some .int), Cond.constant RX7 81 (1000000), Cond.fieldLink RX7 23 "CurveOrders$Surroundings" "division" "LCurveOrders$Division;", Cond.fieldLink RX7 82 "CurveOrders$Division" "count" "I", Cond.methodLink RX7 83 yX7_isTooLarge, Cond.instanceMethod yX7_isTooLarge, Cond.selects RX7 yX7_isTooLarge yX7_isTooLarge, Cond.code yX7_isTooLarge cX7_isTooLarge 4 (some .boolean), Cond.fieldLink RX7 9 "CurveOrders$Surroundings" "count" "I", Cond.fieldLink RX7 15 "CurveOrders$Surroundings" "found" "[I", Cond.methodLink RX7 74 yX7_findBeyond, Cond.instanceMethod yX7_findBeyond, Cond.selects RX7 yX7_findBeyond yX7_findBeyond, Cond.code yX7_findBeyond cX7_findBeyond 9 none, Cond.fieldLink RX7 19 "CurveOrders$Surroundings" "numbering" "LCurveOrders$Numbering;", Cond.methodLink RX7 69 Lib.Math.max.name, Cond.static Lib.Math.max.name, Cond.initialized "java/lang/Math", Cond.code Lib.Math.max.name Lib.Math.max.code 2 (some .int)]
def wsX9_balance_r2 : List Cond := [Cond.methodLink RX7 38 yX1_sideOf, Cond.instanceMethod yX1_sideOf, Cond.selects RX1 yX1_sideOf yX1_sideOf, Cond.initialized RX1, Cond.code yX1_sideOf cX1_sideOf 4 (some .int), Cond.fieldLink RX1 15 "CurveOrders$Division" "starts" "[I", Cond.methodLink RX7 44 yX7_leftOf, Cond.instanceMethod yX7_leftOf, Cond.selects RX7 yX7_leftOf yX7_leftOf, Cond.code yX7_leftOf cX7_leftOf 2 (some .int), Cond.fieldLink RX7 27 "CurveOrders$Division" "starts" "[I", Cond.methodLink RX7 32 yX2_xAt, Cond.instanceMethod yX2_xAt, Cond.selects RX2 yX2_xAt yX2_xAt, Cond.initialized RX2, Cond.code yX2_xAt cX2_xAt 2 (some .int), Cond.fieldLink RX2 18 "CurveOrders$Numbering" "cellOfIndex" "[I", Cond.methodLink RX7 47 yX7_stepAcross, Cond.static yX7_stepAcross, Cond.code yX7_stepAcross cX7_stepAcross 3 (some .int), Cond.methodLink RX7 51 yX7_belowOf, Cond.instanceMethod yX7_belowOf, Cond.selects RX7 yX7_belowOf yX7_belowOf, Cond.code yX7_belowOf cX7_belowOf 2 (some .int)]
def wsX9_balance_r3 : List Cond := [Cond.methodLink RX7 41 yX2_yAt, Cond.instanceMethod yX2_yAt, Cond.selects RX2 yX2_yAt yX2_yAt, Cond.code yX2_yAt cX2_yAt 2 (some .int), Cond.methodLink RX7 54 yX2_holds, Cond.instanceMethod yX2_holds, Cond.selects RX2 yX2_holds yX2_holds, Cond.code yX2_holds cX2_holds 3 (some .boolean), Cond.fieldLink RX2 9 "CurveOrders$Numbering" "side" "I", Cond.methodLink RX7 58 yX2_indexOf, Cond.instanceMethod yX2_indexOf, Cond.selects RX2 yX2_indexOf yX2_indexOf, Cond.code yX2_indexOf cX2_indexOf 3 (some .int), Cond.fieldLink RX2 22 "CurveOrders$Numbering" "indexOfCell" "[I", Cond.methodLink RX7 62 yX1_leafOfIndex, Cond.instanceMethod yX1_leafOfIndex, Cond.selects RX1 yX1_leafOfIndex yX1_leafOfIndex, Cond.code yX1_leafOfIndex cX1_leafOfIndex 5 (some .int), Cond.fieldLink RX1 9 "CurveOrders$Division" "count" "I", Cond.methodLink RX7 65 yX7_insert, Cond.instanceMethod yX7_insert, Cond.selects RX7 yX7_insert yX7_insert, Cond.code yX7_insert cX7_insert 3 none, Cond.methodLink RX7 87 yX7_findLowestAround]
def wsX9_balance_r4 : List Cond := [Cond.instanceMethod yX7_findLowestAround, Cond.selects RX7 yX7_findLowestAround yX7_findLowestAround, Cond.code yX7_findLowestAround cX7_findLowestAround 5 (some .int), Cond.methodLink RX7 93 Lib.Math.min.name, Cond.static Lib.Math.min.name, Cond.code Lib.Math.min.name Lib.Math.min.code 2 (some .int), Cond.methodLink RX7 78 yX7_findLowest, Cond.instanceMethod yX7_findLowest, Cond.selects RX7 yX7_findLowest yX7_findLowest, Cond.code yX7_findLowest cX7_findLowest 3 (some .int), Cond.methodLink RX7 90 yX1_divide, Cond.instanceMethod yX1_divide, Cond.selects RX1 yX1_divide yX1_divide, Cond.code yX1_divide cX1_divide 4 (some .boolean)]
def wsX9_balance : List Cond := .code yX9_balance cX9_balance 1 (some .int) :: ((wsX9_balance_r1 ++ (wsX9_balance_r2 ++ (wsX9_balance_r3 ++ wsX9_balance_r4))) ++ wsX90 ++ wsX70 ++ wsX10 ++ wsX20)
def wsX9_walk_r1 : List Cond := [Cond.fieldLink RX9 54 "CurveOrders" "surroundings" "LCurveOrders$Surroundings;", Cond.methodLink RX9 198 yX9_isLeaf, Cond.instanceMethod yX9_isLeaf, Cond.selects RX9 yX9_isLeaf yX9_isLeaf, Cond.initialized RX9, Cond.code yX9_isLeaf cX9_isLeaf 2 (some .boolean), Cond.fieldLink RX9 10 "CurveOrders" "now" "LCurveOrders$Setup;", Cond.fieldLink RX9 47 "CurveOrders$Setup" "division" "LCurveOrders$Division;", Cond.fieldLink RX9 195 "CurveOrders$Division" "count" "I", Cond.methodLink RX9 220 yX9_isSide, Cond.static yX9_isSide, Cond.code yX9_isSide cX9_isSide 1 (some .boolean), Cond.methodLink RX9 234 yX7_countSteps, Cond.instanceMethod yX7_countSteps, Cond.selects RX7 yX7_countSteps yX7_countSteps, Cond.initialized RX7, Cond.code yX7_countSteps cX7_countSteps 5 (some .int), Cond.methodLink RX7 78 yX7_findLowest, Cond.instanceMethod yX7_findLowest, Cond.selects RX7 yX7_findLowest yX7_findLowest, Cond.code yX7_findLowest cX7_findLowest 3 (some .int), Cond.fieldLink RX7 9 "CurveOrders$Surroundings" "count" "I", Cond.fieldLink RX7 15 "CurveOrders$Surroundings" "found" "[I", Cond.methodLink RX7 74 yX7_findBeyond]
def wsX9_walk_r2 : List Cond := [Cond.instanceMethod yX7_findBeyond, Cond.selects RX7 yX7_findBeyond yX7_findBeyond, Cond.code yX7_findBeyond cX7_findBeyond 9 none, Cond.fieldLink RX7 23 "CurveOrders$Surroundings" "division" "LCurveOrders$Division;", Cond.fieldLink RX7 19 "CurveOrders$Surroundings" "numbering" "LCurveOrders$Numbering;", Cond.methodLink RX7 69 Lib.Math.max.name, Cond.static Lib.Math.max.name, Cond.initialized "java/lang/Math", Cond.code Lib.Math.max.name Lib.Math.max.code 2 (some .int), Cond.methodLink RX7 38 yX1_sideOf, Cond.instanceMethod yX1_sideOf, Cond.selects RX1 yX1_sideOf yX1_sideOf, Cond.initialized RX1, Cond.code yX1_sideOf cX1_sideOf 4 (some .int), Cond.fieldLink RX1 15 "CurveOrders$Division" "starts" "[I", Cond.methodLink RX7 44 yX7_leftOf, Cond.instanceMethod yX7_leftOf, Cond.selects RX7 yX7_leftOf yX7_leftOf, Cond.code yX7_leftOf cX7_leftOf 2 (some .int), Cond.fieldLink RX7 27 "CurveOrders$Division" "starts" "[I", Cond.methodLink RX7 32 yX2_xAt, Cond.instanceMethod yX2_xAt, Cond.selects RX2 yX2_xAt yX2_xAt, Cond.initialized RX2]
def wsX9_walk_r3 : List Cond := [Cond.code yX2_xAt cX2_xAt 2 (some .int), Cond.fieldLink RX2 18 "CurveOrders$Numbering" "cellOfIndex" "[I", Cond.methodLink RX7 47 yX7_stepAcross, Cond.static yX7_stepAcross, Cond.code yX7_stepAcross cX7_stepAcross 3 (some .int), Cond.methodLink RX7 51 yX7_belowOf, Cond.instanceMethod yX7_belowOf, Cond.selects RX7 yX7_belowOf yX7_belowOf, Cond.code yX7_belowOf cX7_belowOf 2 (some .int), Cond.methodLink RX7 41 yX2_yAt, Cond.instanceMethod yX2_yAt, Cond.selects RX2 yX2_yAt yX2_yAt, Cond.code yX2_yAt cX2_yAt 2 (some .int), Cond.methodLink RX7 54 yX2_holds, Cond.instanceMethod yX2_holds, Cond.selects RX2 yX2_holds yX2_holds, Cond.code yX2_holds cX2_holds 3 (some .boolean), Cond.fieldLink RX2 9 "CurveOrders$Numbering" "side" "I", Cond.methodLink RX7 58 yX2_indexOf, Cond.instanceMethod yX2_indexOf, Cond.selects RX2 yX2_indexOf yX2_indexOf, Cond.code yX2_indexOf cX2_indexOf 3 (some .int), Cond.fieldLink RX2 22 "CurveOrders$Numbering" "indexOfCell" "[I", Cond.methodLink RX7 62 yX1_leafOfIndex]
def wsX9_walk_r4 : List Cond := [Cond.instanceMethod yX1_leafOfIndex, Cond.selects RX1 yX1_leafOfIndex yX1_leafOfIndex, Cond.code yX1_leafOfIndex cX1_leafOfIndex 5 (some .int), Cond.fieldLink RX1 9 "CurveOrders$Division" "count" "I", Cond.methodLink RX7 65 yX7_insert, Cond.instanceMethod yX7_insert, Cond.selects RX7 yX7_insert yX7_insert, Cond.code yX7_insert cX7_insert 3 none]
def wsX9_walk : List Cond := .code yX9_walk cX9_walk 3 (some .int) :: ((wsX9_walk_r1 ++ (wsX9_walk_r2 ++ (wsX9_walk_r3 ++ wsX9_walk_r4))) ++ wsX90 ++ wsX50 ++ wsX10 ++ wsX70 ++ wsX20)
def wsX9_walked_r1 : List Cond := [Cond.fieldLink RX9 54 "CurveOrders" "surroundings" "LCurveOrders$Surroundings;", Cond.methodLink RX9 198 yX9_isLeaf, Cond.instanceMethod yX9_isLeaf, Cond.selects RX9 yX9_isLeaf yX9_isLeaf, Cond.initialized RX9, Cond.code yX9_isLeaf cX9_isLeaf 2 (some .boolean), Cond.fieldLink RX9 10 "CurveOrders" "now" "LCurveOrders$Setup;", Cond.fieldLink RX9 47 "CurveOrders$Setup" "division" "LCurveOrders$Division;", Cond.fieldLink RX9 195 "CurveOrders$Division" "count" "I", Cond.methodLink RX9 220 yX9_isSide, Cond.static yX9_isSide, Cond.code yX9_isSide cX9_isSide 1 (some .boolean), Cond.methodLink RX9 237 yX7_leafAfter, Cond.instanceMethod yX7_leafAfter, Cond.selects RX7 yX7_leafAfter yX7_leafAfter, Cond.initialized RX7, Cond.code yX7_leafAfter cX7_leafAfter 6 (some .int), Cond.methodLink RX7 78 yX7_findLowest, Cond.instanceMethod yX7_findLowest, Cond.selects RX7 yX7_findLowest yX7_findLowest, Cond.code yX7_findLowest cX7_findLowest 3 (some .int), Cond.fieldLink RX7 9 "CurveOrders$Surroundings" "count" "I", Cond.fieldLink RX7 15 "CurveOrders$Surroundings" "found" "[I", Cond.methodLink RX7 74 yX7_findBeyond]
def wsX9_walked_r2 : List Cond := [Cond.instanceMethod yX7_findBeyond, Cond.selects RX7 yX7_findBeyond yX7_findBeyond, Cond.code yX7_findBeyond cX7_findBeyond 9 none, Cond.fieldLink RX7 23 "CurveOrders$Surroundings" "division" "LCurveOrders$Division;", Cond.fieldLink RX7 19 "CurveOrders$Surroundings" "numbering" "LCurveOrders$Numbering;", Cond.methodLink RX7 69 Lib.Math.max.name, Cond.static Lib.Math.max.name, Cond.initialized "java/lang/Math", Cond.code Lib.Math.max.name Lib.Math.max.code 2 (some .int), Cond.methodLink RX7 38 yX1_sideOf, Cond.instanceMethod yX1_sideOf, Cond.selects RX1 yX1_sideOf yX1_sideOf, Cond.initialized RX1, Cond.code yX1_sideOf cX1_sideOf 4 (some .int), Cond.fieldLink RX1 15 "CurveOrders$Division" "starts" "[I", Cond.methodLink RX7 44 yX7_leftOf, Cond.instanceMethod yX7_leftOf, Cond.selects RX7 yX7_leftOf yX7_leftOf, Cond.code yX7_leftOf cX7_leftOf 2 (some .int), Cond.fieldLink RX7 27 "CurveOrders$Division" "starts" "[I", Cond.methodLink RX7 32 yX2_xAt, Cond.instanceMethod yX2_xAt, Cond.selects RX2 yX2_xAt yX2_xAt, Cond.initialized RX2]
def wsX9_walked_r3 : List Cond := [Cond.code yX2_xAt cX2_xAt 2 (some .int), Cond.fieldLink RX2 18 "CurveOrders$Numbering" "cellOfIndex" "[I", Cond.methodLink RX7 47 yX7_stepAcross, Cond.static yX7_stepAcross, Cond.code yX7_stepAcross cX7_stepAcross 3 (some .int), Cond.methodLink RX7 51 yX7_belowOf, Cond.instanceMethod yX7_belowOf, Cond.selects RX7 yX7_belowOf yX7_belowOf, Cond.code yX7_belowOf cX7_belowOf 2 (some .int), Cond.methodLink RX7 41 yX2_yAt, Cond.instanceMethod yX2_yAt, Cond.selects RX2 yX2_yAt yX2_yAt, Cond.code yX2_yAt cX2_yAt 2 (some .int), Cond.methodLink RX7 54 yX2_holds, Cond.instanceMethod yX2_holds, Cond.selects RX2 yX2_holds yX2_holds, Cond.code yX2_holds cX2_holds 3 (some .boolean), Cond.fieldLink RX2 9 "CurveOrders$Numbering" "side" "I", Cond.methodLink RX7 58 yX2_indexOf, Cond.instanceMethod yX2_indexOf, Cond.selects RX2 yX2_indexOf yX2_indexOf, Cond.code yX2_indexOf cX2_indexOf 3 (some .int), Cond.fieldLink RX2 22 "CurveOrders$Numbering" "indexOfCell" "[I", Cond.methodLink RX7 62 yX1_leafOfIndex]
def wsX9_walked_r4 : List Cond := [Cond.instanceMethod yX1_leafOfIndex, Cond.selects RX1 yX1_leafOfIndex yX1_leafOfIndex, Cond.code yX1_leafOfIndex cX1_leafOfIndex 5 (some .int), Cond.fieldLink RX1 9 "CurveOrders$Division" "count" "I", Cond.methodLink RX7 65 yX7_insert, Cond.instanceMethod yX7_insert, Cond.selects RX7 yX7_insert yX7_insert, Cond.code yX7_insert cX7_insert 3 none]
def wsX9_walked : List Cond := .code yX9_walked cX9_walked 5 (some .int) :: ((wsX9_walked_r1 ++ (wsX9_walked_r2 ++ (wsX9_walked_r3 ++ wsX9_walked_r4))) ++ wsX90 ++ wsX50 ++ wsX10 ++ wsX70 ++ wsX20)
def wsX9_save_r1 : List Cond := [Cond.fieldLink RX9 16 "CurveOrders" "slots" "[LCurveOrders$Setup;", Cond.fieldLink RX9 10 "CurveOrders" "now" "LCurveOrders$Setup;", Cond.fieldLink RX9 20 "CurveOrders" "slotUsed" "[Z", Cond.fieldLink RX9 47 "CurveOrders$Setup" "division" "LCurveOrders$Division;", Cond.fieldLink RX9 195 "CurveOrders$Division" "count" "I", Cond.methodLink RX9 241 yX5_copyFrom, Cond.instanceMethod yX5_copyFrom, Cond.selects RX5 yX5_copyFrom yX5_copyFrom, Cond.initialized RX5, Cond.code yX5_copyFrom cX5_copyFrom 2 none, Cond.fieldLink RX5 9 "CurveOrders$Setup" "levels" "I", Cond.fieldLink RX5 15 "CurveOrders$Setup" "curve" "I", Cond.fieldLink RX5 21 "CurveOrders$Setup" "table" "LCurveOrders$StateTable;", Cond.fieldLink RX5 28 "CurveOrders$Setup" "range" "LCurveOrders$Rectangle;", Cond.fieldLink RX5 66 "CurveOrders$Rectangle" "left" "I", Cond.fieldLink RX5 69 "CurveOrders$Rectangle" "below" "I", Cond.fieldLink RX5 72 "CurveOrders$Rectangle" "right" "I", Cond.fieldLink RX5 75 "CurveOrders$Rectangle" "above" "I", Cond.fieldLink RX5 35 "CurveOrders$Setup" "points" "LCurveOrders$PointSet;", Cond.fieldLink RX5 39 "CurveOrders$Setup" "bucket" "I", Cond.fieldLink RX5 45 "CurveOrders$Setup" "division" "LCurveOrders$Division;", Cond.methodLink RX5 62 yX6_copyFrom, Cond.instanceMethod yX6_copyFrom, Cond.selects RX6 yX6_copyFrom yX6_copyFrom]
def wsX9_save_r2 : List Cond := [Cond.initialized RX6, Cond.code yX6_copyFrom cX6_copyFrom 2 none, Cond.fieldLink RX6 9 "CurveOrders$StateTable" "count" "I", Cond.fieldLink RX6 15 "CurveOrders$StateTable" "visits" "[I", Cond.methodLink RX6 22 arraycopyName, Cond.native arraycopyName, Cond.static arraycopyName, Cond.initialized "java/lang/System", Cond.methodLink RX5 78 yX4_setEdges, Cond.instanceMethod yX4_setEdges, Cond.selects RX4 yX4_setEdges yX4_setEdges, Cond.initialized RX4, Cond.code yX4_setEdges cX4_setEdges 5 none, Cond.fieldLink RX4 7 "CurveOrders$Rectangle" "left" "I", Cond.fieldLink RX4 13 "CurveOrders$Rectangle" "below" "I", Cond.fieldLink RX4 16 "CurveOrders$Rectangle" "right" "I", Cond.fieldLink RX4 19 "CurveOrders$Rectangle" "above" "I", Cond.methodLink RX5 82 yX3_copyFrom, Cond.instanceMethod yX3_copyFrom, Cond.selects RX3 yX3_copyFrom yX3_copyFrom, Cond.initialized RX3, Cond.code yX3_copyFrom cX3_copyFrom 2 none, Cond.fieldLink RX3 9 "CurveOrders$PointSet" "count" "I", Cond.fieldLink RX3 15 "CurveOrders$PointSet" "cells" "[I"]
def wsX9_save_r3 : List Cond := [Cond.methodLink RX3 23 arraycopyName, Cond.methodLink RX5 85 yX1_copyFrom, Cond.instanceMethod yX1_copyFrom, Cond.selects RX1 yX1_copyFrom yX1_copyFrom, Cond.initialized RX1, Cond.code yX1_copyFrom cX1_copyFrom 2 none, Cond.fieldLink RX1 9 "CurveOrders$Division" "count" "I", Cond.fieldLink RX1 15 "CurveOrders$Division" "starts" "[I", Cond.methodLink RX1 38 arraycopyName]
def wsX9_save : List Cond := .code yX9_save cX9_save 2 (some .int) :: ((wsX9_save_r1 ++ (wsX9_save_r2 ++ wsX9_save_r3)) ++ wsX90 ++ wsX50 ++ wsX10 ++ wsX40 ++ wsX60 ++ wsX30)
def wsX9_restore_r1 : List Cond := [Cond.fieldLink RX9 20 "CurveOrders" "slotUsed" "[Z", Cond.fieldLink RX9 10 "CurveOrders" "now" "LCurveOrders$Setup;", Cond.fieldLink RX9 16 "CurveOrders" "slots" "[LCurveOrders$Setup;", Cond.fieldLink RX9 47 "CurveOrders$Setup" "division" "LCurveOrders$Division;", Cond.fieldLink RX9 195 "CurveOrders$Division" "count" "I", Cond.methodLink RX9 241 yX5_copyFrom, Cond.instanceMethod yX5_copyFrom, Cond.selects RX5 yX5_copyFrom yX5_copyFrom, Cond.initialized RX5, Cond.code yX5_copyFrom cX5_copyFrom 2 none, Cond.fieldLink RX5 9 "CurveOrders$Setup" "levels" "I", Cond.fieldLink RX5 15 "CurveOrders$Setup" "curve" "I", Cond.fieldLink RX5 21 "CurveOrders$Setup" "table" "LCurveOrders$StateTable;", Cond.fieldLink RX5 28 "CurveOrders$Setup" "range" "LCurveOrders$Rectangle;", Cond.fieldLink RX5 66 "CurveOrders$Rectangle" "left" "I", Cond.fieldLink RX5 69 "CurveOrders$Rectangle" "below" "I", Cond.fieldLink RX5 72 "CurveOrders$Rectangle" "right" "I", Cond.fieldLink RX5 75 "CurveOrders$Rectangle" "above" "I", Cond.fieldLink RX5 35 "CurveOrders$Setup" "points" "LCurveOrders$PointSet;", Cond.fieldLink RX5 39 "CurveOrders$Setup" "bucket" "I", Cond.fieldLink RX5 45 "CurveOrders$Setup" "division" "LCurveOrders$Division;", Cond.methodLink RX5 62 yX6_copyFrom, Cond.instanceMethod yX6_copyFrom, Cond.selects RX6 yX6_copyFrom yX6_copyFrom]
def wsX9_restore_r2 : List Cond := [Cond.initialized RX6, Cond.code yX6_copyFrom cX6_copyFrom 2 none, Cond.fieldLink RX6 9 "CurveOrders$StateTable" "count" "I", Cond.fieldLink RX6 15 "CurveOrders$StateTable" "visits" "[I", Cond.methodLink RX6 22 arraycopyName, Cond.native arraycopyName, Cond.static arraycopyName, Cond.initialized "java/lang/System", Cond.methodLink RX5 78 yX4_setEdges, Cond.instanceMethod yX4_setEdges, Cond.selects RX4 yX4_setEdges yX4_setEdges, Cond.initialized RX4, Cond.code yX4_setEdges cX4_setEdges 5 none, Cond.fieldLink RX4 7 "CurveOrders$Rectangle" "left" "I", Cond.fieldLink RX4 13 "CurveOrders$Rectangle" "below" "I", Cond.fieldLink RX4 16 "CurveOrders$Rectangle" "right" "I", Cond.fieldLink RX4 19 "CurveOrders$Rectangle" "above" "I", Cond.methodLink RX5 82 yX3_copyFrom, Cond.instanceMethod yX3_copyFrom, Cond.selects RX3 yX3_copyFrom yX3_copyFrom, Cond.initialized RX3, Cond.code yX3_copyFrom cX3_copyFrom 2 none, Cond.fieldLink RX3 9 "CurveOrders$PointSet" "count" "I", Cond.fieldLink RX3 15 "CurveOrders$PointSet" "cells" "[I"]
def wsX9_restore_r3 : List Cond := [Cond.methodLink RX3 23 arraycopyName, Cond.methodLink RX5 85 yX1_copyFrom, Cond.instanceMethod yX1_copyFrom, Cond.selects RX1 yX1_copyFrom yX1_copyFrom, Cond.initialized RX1, Cond.code yX1_copyFrom cX1_copyFrom 2 none, Cond.fieldLink RX1 9 "CurveOrders$Division" "count" "I", Cond.fieldLink RX1 15 "CurveOrders$Division" "starts" "[I", Cond.methodLink RX1 38 arraycopyName, Cond.methodLink RX9 72 yX9_renumber, Cond.instanceMethod yX9_renumber, Cond.selects RX9 yX9_renumber yX9_renumber, Cond.initialized RX9, Cond.code yX9_renumber cX9_renumber 1 none, Cond.fieldLink RX9 34 "CurveOrders" "numbering" "LCurveOrders$Numbering;", Cond.fieldLink RX9 62 "CurveOrders$Setup" "levels" "I", Cond.fieldLink RX9 41 "CurveOrders" "cover" "LCurveOrders$Cover;", Cond.fieldLink RX9 58 "CurveOrders$Setup" "range" "LCurveOrders$Rectangle;", Cond.methodLink RX9 94 yX5_visitsOfCurve, Cond.instanceMethod yX5_visitsOfCurve, Cond.selects RX5 yX5_visitsOfCurve yX5_visitsOfCurve, Cond.code yX5_visitsOfCurve cX5_visitsOfCurve 1 (some (.array .int)), Cond.fieldLink RX5 56 "CurveOrders$StateTable" "visits" "[I", Cond.methodLink RX9 257 yX2_fill]
def wsX9_restore_r4 : List Cond := [Cond.instanceMethod yX2_fill, Cond.selects RX2 yX2_fill yX2_fill, Cond.initialized RX2, Cond.code yX2_fill cX2_fill 4 none, Cond.fieldLink RX2 9 "CurveOrders$Numbering" "side" "I", Cond.fieldLink RX2 15 "CurveOrders$Numbering" "cells" "I", Cond.fieldLink RX2 18 "CurveOrders$Numbering" "cellOfIndex" "[I", Cond.fieldLink RX2 22 "CurveOrders$Numbering" "indexOfCell" "[I", Cond.methodLink RX2 25 yX2_divideSquares, Cond.instanceMethod yX2_divideSquares, Cond.selects RX2 yX2_divideSquares yX2_divideSquares, Cond.code yX2_divideSquares cX2_divideSquares 11 none, Cond.methodLink RX9 149 yX0_fill, Cond.instanceMethod yX0_fill, Cond.selects RX0 yX0_fill yX0_fill, Cond.initialized RX0, Cond.code yX0_fill cX0_fill 6 none, Cond.fieldLink RX0 9 "CurveOrders$Cover" "count" "I", Cond.fieldLink RX0 22 "CurveOrders$Numbering" "cells" "I", Cond.fieldLink RX0 19 "CurveOrders$Cover" "last" "[I", Cond.fieldLink RX0 15 "CurveOrders$Cover" "first" "[I", Cond.methodLink RX0 27 yX2_xAt, Cond.instanceMethod yX2_xAt, Cond.selects RX2 yX2_xAt yX2_xAt]
def wsX9_restore_r5 : List Cond := [Cond.code yX2_xAt cX2_xAt 2 (some .int), Cond.methodLink RX0 31 yX2_yAt, Cond.instanceMethod yX2_yAt, Cond.selects RX2 yX2_yAt yX2_yAt, Cond.code yX2_yAt cX2_yAt 2 (some .int), Cond.methodLink RX0 34 yX4_holds, Cond.instanceMethod yX4_holds, Cond.selects RX4 yX4_holds yX4_holds, Cond.code yX4_holds cX4_holds 3 (some .boolean)]
def wsX9_restore : List Cond := .code yX9_restore cX9_restore 2 (some .int) :: ((wsX9_restore_r1 ++ (wsX9_restore_r2 ++ (wsX9_restore_r3 ++ (wsX9_restore_r4 ++ wsX9_restore_r5)))) ++ wsX90 ++ wsX50 ++ wsX10 ++ wsX40 ++ wsX60 ++ wsX30 ++ wsX20 ++ wsX00)
def wsX9_sumValue : List Cond := .code yX9_sumValue cX9_sumValue 3 (some .long) :: ([.constantLong RX9 294 (31)])
def wsX9_sumCurve_r1 : List Cond := [Cond.fieldLink RX9 10 "CurveOrders" "now" "LCurveOrders$Setup;", Cond.fieldLink RX9 62 "CurveOrders$Setup" "levels" "I", Cond.methodLink RX9 263 yX9_sumValue, Cond.static yX9_sumValue, Cond.initialized RX9, Cond.code yX9_sumValue cX9_sumValue 3 (some .long), Cond.constantLong RX9 294 (31), Cond.methodLink RX9 267 yX9_states, Cond.instanceMethod yX9_states, Cond.selects RX9 yX9_states yX9_states, Cond.code yX9_states cX9_states 1 (some .int), Cond.methodLink RX9 90 yX5_stateCount, Cond.instanceMethod yX5_stateCount, Cond.selects RX5 yX5_stateCount yX5_stateCount, Cond.initialized RX5, Cond.code yX5_stateCount cX5_stateCount 1 (some .int), Cond.fieldLink RX5 15 "CurveOrders$Setup" "curve" "I", Cond.fieldLink RX5 21 "CurveOrders$Setup" "table" "LCurveOrders$StateTable;", Cond.fieldLink RX5 49 "CurveOrders$StateTable" "count" "I", Cond.methodLink RX9 270 yX9_visit, Cond.instanceMethod yX9_visit, Cond.selects RX9 yX9_visit yX9_visit, Cond.code yX9_visit cX9_visit 3 (some .int), Cond.methodLink RX9 94 yX5_visitsOfCurve]
def wsX9_sumCurve_r2 : List Cond := [Cond.instanceMethod yX5_visitsOfCurve, Cond.selects RX5 yX5_visitsOfCurve yX5_visitsOfCurve, Cond.code yX5_visitsOfCurve cX5_visitsOfCurve 1 (some (.array .int)), Cond.fieldLink RX5 56 "CurveOrders$StateTable" "visits" "[I", Cond.methodLink RX9 273 yX9_breaks, Cond.instanceMethod yX9_breaks, Cond.selects RX9 yX9_breaks yX9_breaks, Cond.code yX9_breaks cX9_breaks 1 (some .int), Cond.fieldLink RX9 34 "CurveOrders" "numbering" "LCurveOrders$Numbering;", Cond.methodLink RX9 116 yX2_countBreaks, Cond.instanceMethod yX2_countBreaks, Cond.selects RX2 yX2_countBreaks yX2_countBreaks, Cond.initialized RX2, Cond.code yX2_countBreaks cX2_countBreaks 3 (some .int), Cond.fieldLink RX2 15 "CurveOrders$Numbering" "cells" "I", Cond.methodLink RX2 33 Lib.Math.abs.name, Cond.static Lib.Math.abs.name, Cond.initialized "java/lang/Math", Cond.code Lib.Math.abs.name Lib.Math.abs.code 1 (some .int), Cond.methodLink RX2 29 yX2_xAt, Cond.instanceMethod yX2_xAt, Cond.selects RX2 yX2_xAt yX2_xAt, Cond.code yX2_xAt cX2_xAt 2 (some .int), Cond.fieldLink RX2 18 "CurveOrders$Numbering" "cellOfIndex" "[I"]
def wsX9_sumCurve_r3 : List Cond := [Cond.methodLink RX2 38 yX2_yAt, Cond.instanceMethod yX2_yAt, Cond.selects RX2 yX2_yAt yX2_yAt, Cond.code yX2_yAt cX2_yAt 2 (some .int), Cond.methodLink RX9 276 yX9_stretch, Cond.instanceMethod yX9_stretch, Cond.selects RX9 yX9_stretch yX9_stretch, Cond.code yX9_stretch cX9_stretch 1 (some .int), Cond.methodLink RX9 119 yX2_greatestDifference, Cond.instanceMethod yX2_greatestDifference, Cond.selects RX2 yX2_greatestDifference yX2_greatestDifference, Cond.code yX2_greatestDifference cX2_greatestDifference 6 (some .int), Cond.fieldLink RX2 9 "CurveOrders$Numbering" "side" "I", Cond.methodLink RX2 45 Lib.Math.max.name, Cond.static Lib.Math.max.name, Cond.code Lib.Math.max.name Lib.Math.max.code 2 (some .int), Cond.methodLink RX2 41 yX2_indexOf, Cond.instanceMethod yX2_indexOf, Cond.selects RX2 yX2_indexOf yX2_indexOf, Cond.code yX2_indexOf cX2_indexOf 3 (some .int), Cond.fieldLink RX2 22 "CurveOrders$Numbering" "indexOfCell" "[I"]
def wsX9_sumCurve : List Cond := .code yX9_sumCurve cX9_sumCurve 7 (some .long) :: ((wsX9_sumCurve_r1 ++ (wsX9_sumCurve_r2 ++ wsX9_sumCurve_r3)) ++ wsX90 ++ wsX50 ++ wsX60 ++ wsX20)
def wsX9_sumIntervals : List Cond := .code yX9_sumIntervals cX9_sumIntervals 6 (some .long) :: ([.methodLink RX9 279 yX9_intervals, .instanceMethod yX9_intervals, .selects RX9 yX9_intervals yX9_intervals, .initialized RX9, .code yX9_intervals cX9_intervals 1 (some .int), .fieldLink RX9 41 "CurveOrders" "cover" "LCurveOrders$Cover;", .fieldLink RX9 153 "CurveOrders$Cover" "count" "I", .methodLink RX9 263 yX9_sumValue, .static yX9_sumValue, .code yX9_sumValue cX9_sumValue 3 (some .long), .constantLong RX9 294 (31), .methodLink RX9 282 yX9_interval, .instanceMethod yX9_interval, .selects RX9 yX9_interval yX9_interval, .code yX9_interval cX9_interval 3 (some .int), .fieldLink RX9 154 "CurveOrders$Cover" "last" "[I", .fieldLink RX9 158 "CurveOrders$Cover" "first" "[I"] ++ wsX90 ++ wsX00)
def wsX9_sumLeaves_r1 : List Cond := [Cond.fieldLink RX9 10 "CurveOrders" "now" "LCurveOrders$Setup;", Cond.fieldLink RX9 192 "CurveOrders$Setup" "bucket" "I", Cond.methodLink RX9 286 yX9_points, Cond.instanceMethod yX9_points, Cond.selects RX9 yX9_points yX9_points, Cond.initialized RX9, Cond.code yX9_points cX9_points 1 (some .int), Cond.fieldLink RX9 78 "CurveOrders$Setup" "points" "LCurveOrders$PointSet;", Cond.fieldLink RX9 184 "CurveOrders$PointSet" "count" "I", Cond.methodLink RX9 263 yX9_sumValue, Cond.static yX9_sumValue, Cond.code yX9_sumValue cX9_sumValue 3 (some .long), Cond.constantLong RX9 294 (31), Cond.methodLink RX9 288 yX9_leaves, Cond.instanceMethod yX9_leaves, Cond.selects RX9 yX9_leaves yX9_leaves, Cond.code yX9_leaves cX9_leaves 1 (some .int), Cond.fieldLink RX9 47 "CurveOrders$Setup" "division" "LCurveOrders$Division;", Cond.fieldLink RX9 195 "CurveOrders$Division" "count" "I", Cond.methodLink RX9 291 yX9_leaf, Cond.instanceMethod yX9_leaf, Cond.selects RX9 yX9_leaf yX9_leaf, Cond.code yX9_leaf cX9_leaf 3 (some .int), Cond.fieldLink RX9 54 "CurveOrders" "surroundings" "LCurveOrders$Surroundings;"]
def wsX9_sumLeaves_r2 : List Cond := [Cond.fieldLink RX9 34 "CurveOrders" "numbering" "LCurveOrders$Numbering;", Cond.fieldLink RX9 214 "CurveOrders$Division" "starts" "[I", Cond.methodLink RX9 198 yX9_isLeaf, Cond.instanceMethod yX9_isLeaf, Cond.selects RX9 yX9_isLeaf yX9_isLeaf, Cond.code yX9_isLeaf cX9_isLeaf 2 (some .boolean), Cond.methodLink RX9 201 yX7_leftOf, Cond.instanceMethod yX7_leftOf, Cond.selects RX7 yX7_leftOf yX7_leftOf, Cond.initialized RX7, Cond.code yX7_leftOf cX7_leftOf 2 (some .int), Cond.fieldLink RX7 19 "CurveOrders$Surroundings" "numbering" "LCurveOrders$Numbering;", Cond.fieldLink RX7 23 "CurveOrders$Surroundings" "division" "LCurveOrders$Division;", Cond.fieldLink RX7 27 "CurveOrders$Division" "starts" "[I", Cond.methodLink RX7 32 yX2_xAt, Cond.instanceMethod yX2_xAt, Cond.selects RX2 yX2_xAt yX2_xAt, Cond.initialized RX2, Cond.code yX2_xAt cX2_xAt 2 (some .int), Cond.fieldLink RX2 18 "CurveOrders$Numbering" "cellOfIndex" "[I", Cond.methodLink RX7 38 yX1_sideOf, Cond.instanceMethod yX1_sideOf, Cond.selects RX1 yX1_sideOf yX1_sideOf, Cond.initialized RX1]
def wsX9_sumLeaves_r3 : List Cond := [Cond.code yX1_sideOf cX1_sideOf 4 (some .int), Cond.fieldLink RX1 15 "CurveOrders$Division" "starts" "[I", Cond.methodLink RX9 204 yX7_belowOf, Cond.instanceMethod yX7_belowOf, Cond.selects RX7 yX7_belowOf yX7_belowOf, Cond.code yX7_belowOf cX7_belowOf 2 (some .int), Cond.methodLink RX7 41 yX2_yAt, Cond.instanceMethod yX2_yAt, Cond.selects RX2 yX2_yAt yX2_yAt, Cond.code yX2_yAt cX2_yAt 2 (some .int), Cond.methodLink RX9 207 yX1_sideOf, Cond.methodLink RX9 210 yX1_countPoints, Cond.instanceMethod yX1_countPoints, Cond.selects RX1 yX1_countPoints yX1_countPoints, Cond.code yX1_countPoints cX1_countPoints 4 (some .int), Cond.methodLink RX1 32 yX3_countBetween, Cond.instanceMethod yX3_countBetween, Cond.selects RX3 yX3_countBetween yX3_countBetween, Cond.initialized RX3, Cond.code yX3_countBetween cX3_countBetween 7 (some .int), Cond.fieldLink RX3 9 "CurveOrders$PointSet" "count" "I", Cond.methodLink RX3 34 yX3_indexOfPoint, Cond.instanceMethod yX3_indexOfPoint, Cond.selects RX3 yX3_indexOfPoint yX3_indexOfPoint]
def wsX9_sumLeaves_r4 : List Cond := [Cond.code yX3_indexOfPoint cX3_indexOfPoint 3 (some .int), Cond.fieldLink RX3 15 "CurveOrders$PointSet" "cells" "[I", Cond.methodLink RX3 29 yX2_indexOf, Cond.instanceMethod yX2_indexOf, Cond.selects RX2 yX2_indexOf yX2_indexOf, Cond.code yX2_indexOf cX2_indexOf 3 (some .int), Cond.fieldLink RX2 22 "CurveOrders$Numbering" "indexOfCell" "[I"]
def wsX9_sumLeaves : List Cond := .code yX9_sumLeaves cX9_sumLeaves 7 (some .long) :: ((wsX9_sumLeaves_r1 ++ (wsX9_sumLeaves_r2 ++ (wsX9_sumLeaves_r3 ++ wsX9_sumLeaves_r4))) ++ wsX90 ++ wsX50 ++ wsX30 ++ wsX10 ++ wsX70 ++ wsX20)
def wsX9_checksum_r1 : List Cond := [Cond.constantLong RX9 245 (73), Cond.methodLink RX9 247 yX9_sumCurve, Cond.instanceMethod yX9_sumCurve, Cond.selects RX9 yX9_sumCurve yX9_sumCurve, Cond.initialized RX9, Cond.code yX9_sumCurve cX9_sumCurve 7 (some .long), Cond.fieldLink RX9 10 "CurveOrders" "now" "LCurveOrders$Setup;", Cond.fieldLink RX9 62 "CurveOrders$Setup" "levels" "I", Cond.methodLink RX9 263 yX9_sumValue, Cond.static yX9_sumValue, Cond.code yX9_sumValue cX9_sumValue 3 (some .long), Cond.constantLong RX9 294 (31), Cond.methodLink RX9 267 yX9_states, Cond.instanceMethod yX9_states, Cond.selects RX9 yX9_states yX9_states, Cond.code yX9_states cX9_states 1 (some .int), Cond.methodLink RX9 90 yX5_stateCount, Cond.instanceMethod yX5_stateCount, Cond.selects RX5 yX5_stateCount yX5_stateCount, Cond.initialized RX5, Cond.code yX5_stateCount cX5_stateCount 1 (some .int), Cond.fieldLink RX5 15 "CurveOrders$Setup" "curve" "I", Cond.fieldLink RX5 21 "CurveOrders$Setup" "table" "LCurveOrders$StateTable;", Cond.fieldLink RX5 49 "CurveOrders$StateTable" "count" "I"]
def wsX9_checksum_r2 : List Cond := [Cond.methodLink RX9 270 yX9_visit, Cond.instanceMethod yX9_visit, Cond.selects RX9 yX9_visit yX9_visit, Cond.code yX9_visit cX9_visit 3 (some .int), Cond.methodLink RX9 94 yX5_visitsOfCurve, Cond.instanceMethod yX5_visitsOfCurve, Cond.selects RX5 yX5_visitsOfCurve yX5_visitsOfCurve, Cond.code yX5_visitsOfCurve cX5_visitsOfCurve 1 (some (.array .int)), Cond.fieldLink RX5 56 "CurveOrders$StateTable" "visits" "[I", Cond.methodLink RX9 273 yX9_breaks, Cond.instanceMethod yX9_breaks, Cond.selects RX9 yX9_breaks yX9_breaks, Cond.code yX9_breaks cX9_breaks 1 (some .int), Cond.fieldLink RX9 34 "CurveOrders" "numbering" "LCurveOrders$Numbering;", Cond.methodLink RX9 116 yX2_countBreaks, Cond.instanceMethod yX2_countBreaks, Cond.selects RX2 yX2_countBreaks yX2_countBreaks, Cond.initialized RX2, Cond.code yX2_countBreaks cX2_countBreaks 3 (some .int), Cond.fieldLink RX2 15 "CurveOrders$Numbering" "cells" "I", Cond.methodLink RX2 33 Lib.Math.abs.name, Cond.static Lib.Math.abs.name, Cond.initialized "java/lang/Math", Cond.code Lib.Math.abs.name Lib.Math.abs.code 1 (some .int)]
def wsX9_checksum_r3 : List Cond := [Cond.methodLink RX2 29 yX2_xAt, Cond.instanceMethod yX2_xAt, Cond.selects RX2 yX2_xAt yX2_xAt, Cond.code yX2_xAt cX2_xAt 2 (some .int), Cond.fieldLink RX2 18 "CurveOrders$Numbering" "cellOfIndex" "[I", Cond.methodLink RX2 38 yX2_yAt, Cond.instanceMethod yX2_yAt, Cond.selects RX2 yX2_yAt yX2_yAt, Cond.code yX2_yAt cX2_yAt 2 (some .int), Cond.methodLink RX9 276 yX9_stretch, Cond.instanceMethod yX9_stretch, Cond.selects RX9 yX9_stretch yX9_stretch, Cond.code yX9_stretch cX9_stretch 1 (some .int), Cond.methodLink RX9 119 yX2_greatestDifference, Cond.instanceMethod yX2_greatestDifference, Cond.selects RX2 yX2_greatestDifference yX2_greatestDifference, Cond.code yX2_greatestDifference cX2_greatestDifference 6 (some .int), Cond.fieldLink RX2 9 "CurveOrders$Numbering" "side" "I", Cond.methodLink RX2 45 Lib.Math.max.name, Cond.static Lib.Math.max.name, Cond.code Lib.Math.max.name Lib.Math.max.code 2 (some .int), Cond.methodLink RX2 41 yX2_indexOf, Cond.instanceMethod yX2_indexOf, Cond.selects RX2 yX2_indexOf yX2_indexOf]
def wsX9_checksum_r4 : List Cond := [Cond.code yX2_indexOf cX2_indexOf 3 (some .int), Cond.fieldLink RX2 22 "CurveOrders$Numbering" "indexOfCell" "[I", Cond.methodLink RX9 251 yX9_sumIntervals, Cond.instanceMethod yX9_sumIntervals, Cond.selects RX9 yX9_sumIntervals yX9_sumIntervals, Cond.code yX9_sumIntervals cX9_sumIntervals 6 (some .long), Cond.methodLink RX9 279 yX9_intervals, Cond.instanceMethod yX9_intervals, Cond.selects RX9 yX9_intervals yX9_intervals, Cond.code yX9_intervals cX9_intervals 1 (some .int), Cond.fieldLink RX9 41 "CurveOrders" "cover" "LCurveOrders$Cover;", Cond.fieldLink RX9 153 "CurveOrders$Cover" "count" "I", Cond.methodLink RX9 282 yX9_interval, Cond.instanceMethod yX9_interval, Cond.selects RX9 yX9_interval yX9_interval, Cond.code yX9_interval cX9_interval 3 (some .int), Cond.fieldLink RX9 154 "CurveOrders$Cover" "last" "[I", Cond.fieldLink RX9 158 "CurveOrders$Cover" "first" "[I", Cond.methodLink RX9 254 yX9_sumLeaves, Cond.instanceMethod yX9_sumLeaves, Cond.selects RX9 yX9_sumLeaves yX9_sumLeaves, Cond.code yX9_sumLeaves cX9_sumLeaves 7 (some .long), Cond.fieldLink RX9 192 "CurveOrders$Setup" "bucket" "I", Cond.methodLink RX9 286 yX9_points]
def wsX9_checksum_r5 : List Cond := [Cond.instanceMethod yX9_points, Cond.selects RX9 yX9_points yX9_points, Cond.code yX9_points cX9_points 1 (some .int), Cond.fieldLink RX9 78 "CurveOrders$Setup" "points" "LCurveOrders$PointSet;", Cond.fieldLink RX9 184 "CurveOrders$PointSet" "count" "I", Cond.methodLink RX9 288 yX9_leaves, Cond.instanceMethod yX9_leaves, Cond.selects RX9 yX9_leaves yX9_leaves, Cond.code yX9_leaves cX9_leaves 1 (some .int), Cond.fieldLink RX9 47 "CurveOrders$Setup" "division" "LCurveOrders$Division;", Cond.fieldLink RX9 195 "CurveOrders$Division" "count" "I", Cond.methodLink RX9 291 yX9_leaf, Cond.instanceMethod yX9_leaf, Cond.selects RX9 yX9_leaf yX9_leaf, Cond.code yX9_leaf cX9_leaf 3 (some .int), Cond.fieldLink RX9 54 "CurveOrders" "surroundings" "LCurveOrders$Surroundings;", Cond.fieldLink RX9 214 "CurveOrders$Division" "starts" "[I", Cond.methodLink RX9 198 yX9_isLeaf, Cond.instanceMethod yX9_isLeaf, Cond.selects RX9 yX9_isLeaf yX9_isLeaf, Cond.code yX9_isLeaf cX9_isLeaf 2 (some .boolean), Cond.methodLink RX9 201 yX7_leftOf, Cond.instanceMethod yX7_leftOf, Cond.selects RX7 yX7_leftOf yX7_leftOf]
def wsX9_checksum_r6 : List Cond := [Cond.initialized RX7, Cond.code yX7_leftOf cX7_leftOf 2 (some .int), Cond.fieldLink RX7 19 "CurveOrders$Surroundings" "numbering" "LCurveOrders$Numbering;", Cond.fieldLink RX7 23 "CurveOrders$Surroundings" "division" "LCurveOrders$Division;", Cond.fieldLink RX7 27 "CurveOrders$Division" "starts" "[I", Cond.methodLink RX7 32 yX2_xAt, Cond.methodLink RX7 38 yX1_sideOf, Cond.instanceMethod yX1_sideOf, Cond.selects RX1 yX1_sideOf yX1_sideOf, Cond.initialized RX1, Cond.code yX1_sideOf cX1_sideOf 4 (some .int), Cond.fieldLink RX1 15 "CurveOrders$Division" "starts" "[I", Cond.methodLink RX9 204 yX7_belowOf, Cond.instanceMethod yX7_belowOf, Cond.selects RX7 yX7_belowOf yX7_belowOf, Cond.code yX7_belowOf cX7_belowOf 2 (some .int), Cond.methodLink RX7 41 yX2_yAt, Cond.methodLink RX9 207 yX1_sideOf, Cond.methodLink RX9 210 yX1_countPoints, Cond.instanceMethod yX1_countPoints, Cond.selects RX1 yX1_countPoints yX1_countPoints, Cond.code yX1_countPoints cX1_countPoints 4 (some .int), Cond.methodLink RX1 32 yX3_countBetween, Cond.instanceMethod yX3_countBetween]
def wsX9_checksum_r7 : List Cond := [Cond.selects RX3 yX3_countBetween yX3_countBetween, Cond.initialized RX3, Cond.code yX3_countBetween cX3_countBetween 7 (some .int), Cond.fieldLink RX3 9 "CurveOrders$PointSet" "count" "I", Cond.methodLink RX3 34 yX3_indexOfPoint, Cond.instanceMethod yX3_indexOfPoint, Cond.selects RX3 yX3_indexOfPoint yX3_indexOfPoint, Cond.code yX3_indexOfPoint cX3_indexOfPoint 3 (some .int), Cond.fieldLink RX3 15 "CurveOrders$PointSet" "cells" "[I", Cond.methodLink RX3 29 yX2_indexOf]
def wsX9_checksum : List Cond := .code yX9_checksum cX9_checksum 1 (some .long) :: ((wsX9_checksum_r1 ++ (wsX9_checksum_r2 ++ (wsX9_checksum_r3 ++ (wsX9_checksum_r4 ++ (wsX9_checksum_r5 ++ (wsX9_checksum_r6 ++ wsX9_checksum_r7)))))) ++ wsX90 ++ wsX50 ++ wsX60 ++ wsX20 ++ wsX00 ++ wsX30 ++ wsX10 ++ wsX70)
def wsX10_hilbert : List Cond := .code yX10_hilbert cX10_hilbert 7 none :: ([.fieldLink RX10 17 "CurveOrdersModel" "tables" "[I"] ++ wsX100)
def wsX10_all : List Cond := .code yX10_all cX10_all 1 (some .int) :: ([.fieldLink RX10 7 "CurveOrdersModel" "m" "I"] ++ wsX100)
def wsX10_quarter : List Cond := .code yX10_quarter cX10_quarter 3 (some .int) :: ([.fieldLink RX10 17 "CurveOrdersModel" "tables" "[I", .fieldLink RX10 82 "CurveOrdersModel" "curve" "I"] ++ wsX100)
def wsX10_stateFor : List Cond := .code yX10_stateFor cX10_stateFor 3 (some .int) :: ([.fieldLink RX10 17 "CurveOrdersModel" "tables" "[I", .fieldLink RX10 82 "CurveOrdersModel" "curve" "I"] ++ wsX100)
def wsX10_pointsIn : List Cond := .code yX10_pointsIn cX10_pointsIn 5 (some .int) :: ([.fieldLink RX10 112 "CurveOrdersModel" "pointMany" "I", .fieldLink RX10 57 "CurveOrdersModel" "indexOf" "[I", .fieldLink RX10 26 "CurveOrdersModel" "points" "[I"] ++ wsX100)
def wsX10_maps : List Cond := .code yX10_maps cX10_maps 3 none :: ([.fieldLink RX10 161 "CurveOrdersModel" "leafMany" "I", .fieldLink RX10 32 "CurveOrdersModel" "starts" "[I", .fieldLink RX10 35 "CurveOrdersModel" "levels" "[I", .fieldLink RX10 69 "CurveOrdersModel" "leafOf" "[I"] ++ wsX100)
def wsX10_divides : List Cond := .code yX10_divides cX10_divides 3 none :: ([.fieldLink RX10 161 "CurveOrdersModel" "leafMany" "I", .fieldLink RX10 7 "CurveOrdersModel" "m" "I", .fieldLink RX10 29 "CurveOrdersModel" "bucket" "I", .fieldLink RX10 32 "CurveOrdersModel" "starts" "[I", .fieldLink RX10 35 "CurveOrdersModel" "levels" "[I", .methodLink RX10 85 yX10_all, .instanceMethod yX10_all, .selects RX10 yX10_all yX10_all, .initialized RX10, .code yX10_all cX10_all 1 (some .int), .methodLink RX10 164 yX10_pointsIn, .instanceMethod yX10_pointsIn, .selects RX10 yX10_pointsIn yX10_pointsIn, .code yX10_pointsIn cX10_pointsIn 5 (some .int), .fieldLink RX10 112 "CurveOrdersModel" "pointMany" "I", .fieldLink RX10 57 "CurveOrdersModel" "indexOf" "[I", .fieldLink RX10 26 "CurveOrdersModel" "points" "[I", .methodLink RX10 167 yX10_maps, .instanceMethod yX10_maps, .selects RX10 yX10_maps yX10_maps, .code yX10_maps cX10_maps 3 none, .fieldLink RX10 69 "CurveOrdersModel" "leafOf" "[I"] ++ wsX100)
def wsX10_numbers_r1 : List Cond := [Cond.fieldLink RX10 7 "CurveOrdersModel" "m" "I", Cond.fieldLink RX10 60 "CurveOrdersModel" "cellOf" "[I", Cond.fieldLink RX10 57 "CurveOrdersModel" "indexOf" "[I", Cond.methodLink RX10 85 yX10_all, Cond.instanceMethod yX10_all, Cond.selects RX10 yX10_all yX10_all, Cond.initialized RX10, Cond.code yX10_all cX10_all 1 (some .int), Cond.methodLink RX10 89 yX10_quarter, Cond.instanceMethod yX10_quarter, Cond.selects RX10 yX10_quarter yX10_quarter, Cond.code yX10_quarter cX10_quarter 3 (some .int), Cond.fieldLink RX10 17 "CurveOrdersModel" "tables" "[I", Cond.fieldLink RX10 82 "CurveOrdersModel" "curve" "I", Cond.methodLink RX10 93 yX10_stateFor, Cond.instanceMethod yX10_stateFor, Cond.selects RX10 yX10_stateFor yX10_stateFor, Cond.code yX10_stateFor cX10_stateFor 3 (some .int), Cond.methodLink RX10 96 yX10_divides, Cond.instanceMethod yX10_divides, Cond.selects RX10 yX10_divides yX10_divides, Cond.code yX10_divides cX10_divides 3 none, Cond.fieldLink RX10 161 "CurveOrdersModel" "leafMany" "I", Cond.fieldLink RX10 29 "CurveOrdersModel" "bucket" "I"]
def wsX10_numbers_r2 : List Cond := [Cond.fieldLink RX10 32 "CurveOrdersModel" "starts" "[I", Cond.fieldLink RX10 35 "CurveOrdersModel" "levels" "[I", Cond.methodLink RX10 164 yX10_pointsIn, Cond.instanceMethod yX10_pointsIn, Cond.selects RX10 yX10_pointsIn yX10_pointsIn, Cond.code yX10_pointsIn cX10_pointsIn 5 (some .int), Cond.fieldLink RX10 112 "CurveOrdersModel" "pointMany" "I", Cond.fieldLink RX10 26 "CurveOrdersModel" "points" "[I", Cond.methodLink RX10 167 yX10_maps, Cond.instanceMethod yX10_maps, Cond.selects RX10 yX10_maps yX10_maps, Cond.code yX10_maps cX10_maps 3 none, Cond.fieldLink RX10 69 "CurveOrdersModel" "leafOf" "[I"]
def wsX10_numbers : List Cond := .code yX10_numbers cX10_numbers 8 none :: ((wsX10_numbers_r1 ++ wsX10_numbers_r2) ++ wsX100)
def wsX10_init_r1 : List Cond := [Cond.methodLink RX10 1 objectInit, Cond.instanceMethod objectInit, Cond.code objectInit ⟨#[0xb1]⟩ 1 none, Cond.fieldLink RX10 7 "CurveOrdersModel" "m" "I", Cond.arrayClass .int, Cond.fieldLink RX10 13 "CurveOrdersModel" "stateMany" "[I", Cond.fieldLink RX10 17 "CurveOrdersModel" "tables" "[I", Cond.fieldLink RX10 20 "CurveOrdersModel" "right" "I", Cond.fieldLink RX10 23 "CurveOrdersModel" "above" "I", Cond.fieldLink RX10 26 "CurveOrdersModel" "points" "[I", Cond.fieldLink RX10 29 "CurveOrdersModel" "bucket" "I", Cond.fieldLink RX10 32 "CurveOrdersModel" "starts" "[I", Cond.fieldLink RX10 35 "CurveOrdersModel" "levels" "[I", Cond.fieldLink RX10 38 "CurveOrdersModel" "text" "[I", Cond.fieldLink RX10 41 "CurveOrdersModel" "kept" "[I", Cond.fieldLink RX10 44 "CurveOrdersModel" "keptTables" "[I", Cond.fieldLink RX10 47 "CurveOrdersModel" "keptStarts" "[I", Cond.fieldLink RX10 50 "CurveOrdersModel" "keptLevels" "[I", Cond.arrayClass .boolean, Cond.fieldLink RX10 53 "CurveOrdersModel" "isKept" "[Z", Cond.fieldLink RX10 57 "CurveOrdersModel" "indexOf" "[I", Cond.fieldLink RX10 60 "CurveOrdersModel" "cellOf" "[I", Cond.fieldLink RX10 63 "CurveOrdersModel" "firsts" "[I", Cond.fieldLink RX10 66 "CurveOrdersModel" "lasts" "[I"]
def wsX10_init_r2 : List Cond := [Cond.fieldLink RX10 69 "CurveOrdersModel" "leafOf" "[I", Cond.fieldLink RX10 72 "CurveOrdersModel" "beside" "[I", Cond.methodLink RX10 75 yX10_hilbert, Cond.instanceMethod yX10_hilbert, Cond.selects RX10 yX10_hilbert yX10_hilbert, Cond.initialized RX10, Cond.code yX10_hilbert cX10_hilbert 7 none, Cond.methodLink RX10 79 yX10_numbers, Cond.instanceMethod yX10_numbers, Cond.selects RX10 yX10_numbers yX10_numbers, Cond.code yX10_numbers cX10_numbers 8 none, Cond.methodLink RX10 85 yX10_all, Cond.instanceMethod yX10_all, Cond.selects RX10 yX10_all yX10_all, Cond.code yX10_all cX10_all 1 (some .int), Cond.methodLink RX10 89 yX10_quarter, Cond.instanceMethod yX10_quarter, Cond.selects RX10 yX10_quarter yX10_quarter, Cond.code yX10_quarter cX10_quarter 3 (some .int), Cond.fieldLink RX10 82 "CurveOrdersModel" "curve" "I", Cond.methodLink RX10 93 yX10_stateFor, Cond.instanceMethod yX10_stateFor, Cond.selects RX10 yX10_stateFor yX10_stateFor, Cond.code yX10_stateFor cX10_stateFor 3 (some .int)]
def wsX10_init_r3 : List Cond := [Cond.methodLink RX10 96 yX10_divides, Cond.instanceMethod yX10_divides, Cond.selects RX10 yX10_divides yX10_divides, Cond.code yX10_divides cX10_divides 3 none, Cond.fieldLink RX10 161 "CurveOrdersModel" "leafMany" "I", Cond.methodLink RX10 164 yX10_pointsIn, Cond.instanceMethod yX10_pointsIn, Cond.selects RX10 yX10_pointsIn yX10_pointsIn, Cond.code yX10_pointsIn cX10_pointsIn 5 (some .int), Cond.fieldLink RX10 112 "CurveOrdersModel" "pointMany" "I", Cond.methodLink RX10 167 yX10_maps, Cond.instanceMethod yX10_maps, Cond.selects RX10 yX10_maps yX10_maps, Cond.code yX10_maps cX10_maps 3 none]
def wsX10_init : List Cond := .code yX10_init cX10_init 2 none :: ((wsX10_init_r1 ++ (wsX10_init_r2 ++ wsX10_init_r3)) ++ wsX100)
def wsX10_in : List Cond := .code yX10_in cX10_in 3 (some .boolean) :: ([])
def wsX10_side : List Cond := .code yX10_side cX10_side 1 (some .int) :: ([.fieldLink RX10 7 "CurveOrdersModel" "m" "I"] ++ wsX100)
def wsX10_setLevels_r1 : List Cond := [Cond.fieldLink RX10 7 "CurveOrdersModel" "m" "I", Cond.fieldLink RX10 103 "CurveOrdersModel" "left" "I", Cond.fieldLink RX10 106 "CurveOrdersModel" "below" "I", Cond.fieldLink RX10 20 "CurveOrdersModel" "right" "I", Cond.fieldLink RX10 23 "CurveOrdersModel" "above" "I", Cond.fieldLink RX10 112 "CurveOrdersModel" "pointMany" "I", Cond.methodLink RX10 99 yX10_in, Cond.static yX10_in, Cond.initialized RX10, Cond.code yX10_in cX10_in 3 (some .boolean), Cond.methodLink RX10 109 yX10_side, Cond.instanceMethod yX10_side, Cond.selects RX10 yX10_side yX10_side, Cond.code yX10_side cX10_side 1 (some .int), Cond.methodLink RX10 79 yX10_numbers, Cond.instanceMethod yX10_numbers, Cond.selects RX10 yX10_numbers yX10_numbers, Cond.code yX10_numbers cX10_numbers 8 none, Cond.fieldLink RX10 60 "CurveOrdersModel" "cellOf" "[I", Cond.fieldLink RX10 57 "CurveOrdersModel" "indexOf" "[I", Cond.methodLink RX10 85 yX10_all, Cond.instanceMethod yX10_all, Cond.selects RX10 yX10_all yX10_all, Cond.code yX10_all cX10_all 1 (some .int)]
def wsX10_setLevels_r2 : List Cond := [Cond.methodLink RX10 89 yX10_quarter, Cond.instanceMethod yX10_quarter, Cond.selects RX10 yX10_quarter yX10_quarter, Cond.code yX10_quarter cX10_quarter 3 (some .int), Cond.fieldLink RX10 17 "CurveOrdersModel" "tables" "[I", Cond.fieldLink RX10 82 "CurveOrdersModel" "curve" "I", Cond.methodLink RX10 93 yX10_stateFor, Cond.instanceMethod yX10_stateFor, Cond.selects RX10 yX10_stateFor yX10_stateFor, Cond.code yX10_stateFor cX10_stateFor 3 (some .int), Cond.methodLink RX10 96 yX10_divides, Cond.instanceMethod yX10_divides, Cond.selects RX10 yX10_divides yX10_divides, Cond.code yX10_divides cX10_divides 3 none, Cond.fieldLink RX10 161 "CurveOrdersModel" "leafMany" "I", Cond.fieldLink RX10 29 "CurveOrdersModel" "bucket" "I", Cond.fieldLink RX10 32 "CurveOrdersModel" "starts" "[I", Cond.fieldLink RX10 35 "CurveOrdersModel" "levels" "[I", Cond.methodLink RX10 164 yX10_pointsIn, Cond.instanceMethod yX10_pointsIn, Cond.selects RX10 yX10_pointsIn yX10_pointsIn, Cond.code yX10_pointsIn cX10_pointsIn 5 (some .int), Cond.fieldLink RX10 26 "CurveOrdersModel" "points" "[I", Cond.methodLink RX10 167 yX10_maps]
def wsX10_setLevels_r3 : List Cond := [Cond.instanceMethod yX10_maps, Cond.selects RX10 yX10_maps yX10_maps, Cond.code yX10_maps cX10_maps 3 none, Cond.fieldLink RX10 69 "CurveOrdersModel" "leafOf" "[I"]
def wsX10_setLevels : List Cond := .code yX10_setLevels cX10_setLevels 3 (some .int) :: ((wsX10_setLevels_r1 ++ (wsX10_setLevels_r2 ++ wsX10_setLevels_r3)) ++ wsX100)
def wsX10_setCurve_r1 : List Cond := [Cond.fieldLink RX10 82 "CurveOrdersModel" "curve" "I", Cond.methodLink RX10 99 yX10_in, Cond.static yX10_in, Cond.initialized RX10, Cond.code yX10_in cX10_in 3 (some .boolean), Cond.methodLink RX10 79 yX10_numbers, Cond.instanceMethod yX10_numbers, Cond.selects RX10 yX10_numbers yX10_numbers, Cond.code yX10_numbers cX10_numbers 8 none, Cond.fieldLink RX10 7 "CurveOrdersModel" "m" "I", Cond.fieldLink RX10 60 "CurveOrdersModel" "cellOf" "[I", Cond.fieldLink RX10 57 "CurveOrdersModel" "indexOf" "[I", Cond.methodLink RX10 85 yX10_all, Cond.instanceMethod yX10_all, Cond.selects RX10 yX10_all yX10_all, Cond.code yX10_all cX10_all 1 (some .int), Cond.methodLink RX10 89 yX10_quarter, Cond.instanceMethod yX10_quarter, Cond.selects RX10 yX10_quarter yX10_quarter, Cond.code yX10_quarter cX10_quarter 3 (some .int), Cond.fieldLink RX10 17 "CurveOrdersModel" "tables" "[I", Cond.methodLink RX10 93 yX10_stateFor, Cond.instanceMethod yX10_stateFor, Cond.selects RX10 yX10_stateFor yX10_stateFor]
def wsX10_setCurve_r2 : List Cond := [Cond.code yX10_stateFor cX10_stateFor 3 (some .int), Cond.methodLink RX10 96 yX10_divides, Cond.instanceMethod yX10_divides, Cond.selects RX10 yX10_divides yX10_divides, Cond.code yX10_divides cX10_divides 3 none, Cond.fieldLink RX10 161 "CurveOrdersModel" "leafMany" "I", Cond.fieldLink RX10 29 "CurveOrdersModel" "bucket" "I", Cond.fieldLink RX10 32 "CurveOrdersModel" "starts" "[I", Cond.fieldLink RX10 35 "CurveOrdersModel" "levels" "[I", Cond.methodLink RX10 164 yX10_pointsIn, Cond.instanceMethod yX10_pointsIn, Cond.selects RX10 yX10_pointsIn yX10_pointsIn, Cond.code yX10_pointsIn cX10_pointsIn 5 (some .int), Cond.fieldLink RX10 112 "CurveOrdersModel" "pointMany" "I", Cond.fieldLink RX10 26 "CurveOrdersModel" "points" "[I", Cond.methodLink RX10 167 yX10_maps, Cond.instanceMethod yX10_maps, Cond.selects RX10 yX10_maps yX10_maps, Cond.code yX10_maps cX10_maps 3 none, Cond.fieldLink RX10 69 "CurveOrdersModel" "leafOf" "[I"]
def wsX10_setCurve : List Cond := .code yX10_setCurve cX10_setCurve 3 (some .int) :: ((wsX10_setCurve_r1 ++ wsX10_setCurve_r2) ++ wsX100)
def wsX10_states : List Cond := .code yX10_states cX10_states 1 (some .int) :: ([.fieldLink RX10 13 "CurveOrdersModel" "stateMany" "[I", .fieldLink RX10 82 "CurveOrdersModel" "curve" "I"] ++ wsX100)
def wsX10_visit : List Cond := .code yX10_visit cX10_visit 3 (some .int) :: ([.fieldLink RX10 13 "CurveOrdersModel" "stateMany" "[I", .fieldLink RX10 82 "CurveOrdersModel" "curve" "I", .methodLink RX10 99 yX10_in, .static yX10_in, .initialized RX10, .code yX10_in cX10_in 3 (some .boolean), .methodLink RX10 89 yX10_quarter, .instanceMethod yX10_quarter, .selects RX10 yX10_quarter yX10_quarter, .code yX10_quarter cX10_quarter 3 (some .int), .fieldLink RX10 17 "CurveOrdersModel" "tables" "[I", .methodLink RX10 93 yX10_stateFor, .instanceMethod yX10_stateFor, .selects RX10 yX10_stateFor yX10_stateFor, .code yX10_stateFor cX10_stateFor 3 (some .int)] ++ wsX100)
def wsX10_isCell : List Cond := .code yX10_isCell cX10_isCell 3 (some .boolean) :: ([.methodLink RX10 109 yX10_side, .instanceMethod yX10_side, .selects RX10 yX10_side yX10_side, .initialized RX10, .code yX10_side cX10_side 1 (some .int), .fieldLink RX10 7 "CurveOrdersModel" "m" "I", .methodLink RX10 99 yX10_in, .static yX10_in, .code yX10_in cX10_in 3 (some .boolean)] ++ wsX100)
def wsX10_index : List Cond := .code yX10_index cX10_index 3 (some .int) :: ([.fieldLink RX10 57 "CurveOrdersModel" "indexOf" "[I", .methodLink RX10 115 yX10_isCell, .instanceMethod yX10_isCell, .selects RX10 yX10_isCell yX10_isCell, .initialized RX10, .code yX10_isCell cX10_isCell 3 (some .boolean), .methodLink RX10 109 yX10_side, .instanceMethod yX10_side, .selects RX10 yX10_side yX10_side, .code yX10_side cX10_side 1 (some .int), .fieldLink RX10 7 "CurveOrdersModel" "m" "I", .methodLink RX10 99 yX10_in, .static yX10_in, .code yX10_in cX10_in 3 (some .boolean)] ++ wsX100)
def wsX10_cell : List Cond := .code yX10_cell cX10_cell 3 (some .int) :: ([.fieldLink RX10 60 "CurveOrdersModel" "cellOf" "[I", .methodLink RX10 85 yX10_all, .instanceMethod yX10_all, .selects RX10 yX10_all yX10_all, .initialized RX10, .code yX10_all cX10_all 1 (some .int), .fieldLink RX10 7 "CurveOrdersModel" "m" "I", .methodLink RX10 99 yX10_in, .static yX10_in, .code yX10_in cX10_in 3 (some .boolean)] ++ wsX100)
def wsX10_size : List Cond := .code yX10_size cX10_size 1 (some .int) :: ([])
def wsX10_far : List Cond := .code yX10_far cX10_far 2 (some .int) :: ([.methodLink RX10 119 yX10_size, .static yX10_size, .initialized RX10, .code yX10_size cX10_size 1 (some .int)])
def wsX10_breaksNow : List Cond := .code yX10_breaksNow cX10_breaksNow 3 (some .int) :: ([.fieldLink RX10 60 "CurveOrdersModel" "cellOf" "[I", .methodLink RX10 85 yX10_all, .instanceMethod yX10_all, .selects RX10 yX10_all yX10_all, .initialized RX10, .code yX10_all cX10_all 1 (some .int), .fieldLink RX10 7 "CurveOrdersModel" "m" "I", .methodLink RX10 123 yX10_far, .static yX10_far, .code yX10_far cX10_far 2 (some .int), .methodLink RX10 119 yX10_size, .static yX10_size, .code yX10_size cX10_size 1 (some .int)] ++ wsX100)
def wsX10_breaks : List Cond := .code yX10_breaks cX10_breaks 1 (some .int) :: ([.methodLink RX10 126 yX10_breaksNow, .instanceMethod yX10_breaksNow, .selects RX10 yX10_breaksNow yX10_breaksNow, .initialized RX10, .code yX10_breaksNow cX10_breaksNow 3 (some .int), .fieldLink RX10 60 "CurveOrdersModel" "cellOf" "[I", .methodLink RX10 85 yX10_all, .instanceMethod yX10_all, .selects RX10 yX10_all yX10_all, .code yX10_all cX10_all 1 (some .int), .fieldLink RX10 7 "CurveOrdersModel" "m" "I", .methodLink RX10 123 yX10_far, .static yX10_far, .code yX10_far cX10_far 2 (some .int), .methodLink RX10 119 yX10_size, .static yX10_size, .code yX10_size cX10_size 1 (some .int)] ++ wsX100)
def wsX10_stretchNow : List Cond := .code yX10_stretchNow cX10_stretchNow 6 (some .int) :: ([.fieldLink RX10 60 "CurveOrdersModel" "cellOf" "[I", .fieldLink RX10 57 "CurveOrdersModel" "indexOf" "[I", .methodLink RX10 85 yX10_all, .instanceMethod yX10_all, .selects RX10 yX10_all yX10_all, .initialized RX10, .code yX10_all cX10_all 1 (some .int), .fieldLink RX10 7 "CurveOrdersModel" "m" "I", .methodLink RX10 109 yX10_side, .instanceMethod yX10_side, .selects RX10 yX10_side yX10_side, .code yX10_side cX10_side 1 (some .int), .methodLink RX10 119 yX10_size, .static yX10_size, .code yX10_size cX10_size 1 (some .int)] ++ wsX100)
def wsX10_stretch : List Cond := .code yX10_stretch cX10_stretch 1 (some .int) :: ([.methodLink RX10 129 yX10_stretchNow, .instanceMethod yX10_stretchNow, .selects RX10 yX10_stretchNow yX10_stretchNow, .initialized RX10, .code yX10_stretchNow cX10_stretchNow 6 (some .int), .fieldLink RX10 60 "CurveOrdersModel" "cellOf" "[I", .fieldLink RX10 57 "CurveOrdersModel" "indexOf" "[I", .methodLink RX10 85 yX10_all, .instanceMethod yX10_all, .selects RX10 yX10_all yX10_all, .code yX10_all cX10_all 1 (some .int), .fieldLink RX10 7 "CurveOrdersModel" "m" "I", .methodLink RX10 109 yX10_side, .instanceMethod yX10_side, .selects RX10 yX10_side yX10_side, .code yX10_side cX10_side 1 (some .int), .methodLink RX10 119 yX10_size, .static yX10_size, .code yX10_size cX10_size 1 (some .int)] ++ wsX100)
def wsX10_append : List Cond := .code yX10_append cX10_append 2 (some .int) :: ([.fieldLink RX10 132 "CurveOrdersModel" "length" "I", .fieldLink RX10 38 "CurveOrdersModel" "text" "[I", .methodLink RX10 99 yX10_in, .static yX10_in, .initialized RX10, .code yX10_in cX10_in 3 (some .boolean)] ++ wsX100)
def wsX10_clearText : List Cond := .code yX10_clearText cX10_clearText 2 (some .int) :: ([.fieldLink RX10 132 "CurveOrdersModel" "length" "I"] ++ wsX100)
def wsX10_isWell : List Cond := .code yX10_isWell cX10_isWell 5 (some .boolean) :: ([.fieldLink RX10 38 "CurveOrdersModel" "text" "[I", .methodLink RX10 99 yX10_in, .static yX10_in, .initialized RX10, .code yX10_in cX10_in 3 (some .boolean)] ++ wsX100)
def wsX10_fault : List Cond := .code yX10_fault cX10_fault 2 (some .int) :: ([.fieldLink RX10 132 "CurveOrdersModel" "length" "I", .fieldLink RX10 38 "CurveOrdersModel" "text" "[I", .methodLink RX10 135 yX10_isWell, .instanceMethod yX10_isWell, .selects RX10 yX10_isWell yX10_isWell, .initialized RX10, .code yX10_isWell cX10_isWell 5 (some .boolean), .methodLink RX10 99 yX10_in, .static yX10_in, .code yX10_in cX10_in 3 (some .boolean)] ++ wsX100)
def wsX10_faultPosition : List Cond := .code yX10_faultPosition cX10_faultPosition 2 (some .int) :: ([.methodLink RX10 139 yX10_fault, .instanceMethod yX10_fault, .selects RX10 yX10_fault yX10_fault, .initialized RX10, .code yX10_fault cX10_fault 2 (some .int), .fieldLink RX10 132 "CurveOrdersModel" "length" "I", .fieldLink RX10 38 "CurveOrdersModel" "text" "[I", .methodLink RX10 135 yX10_isWell, .instanceMethod yX10_isWell, .selects RX10 yX10_isWell yX10_isWell, .code yX10_isWell cX10_isWell 5 (some .boolean), .methodLink RX10 99 yX10_in, .static yX10_in, .code yX10_in cX10_in 3 (some .boolean)] ++ wsX100)
def wsX10_read_r1 : List Cond := [Cond.fieldLink RX10 132 "CurveOrdersModel" "length" "I", Cond.fieldLink RX10 17 "CurveOrdersModel" "tables" "[I", Cond.fieldLink RX10 38 "CurveOrdersModel" "text" "[I", Cond.fieldLink RX10 13 "CurveOrdersModel" "stateMany" "[I", Cond.fieldLink RX10 82 "CurveOrdersModel" "curve" "I", Cond.methodLink RX10 139 yX10_fault, Cond.instanceMethod yX10_fault, Cond.selects RX10 yX10_fault yX10_fault, Cond.initialized RX10, Cond.code yX10_fault cX10_fault 2 (some .int), Cond.methodLink RX10 135 yX10_isWell, Cond.instanceMethod yX10_isWell, Cond.selects RX10 yX10_isWell yX10_isWell, Cond.code yX10_isWell cX10_isWell 5 (some .boolean), Cond.methodLink RX10 99 yX10_in, Cond.static yX10_in, Cond.code yX10_in cX10_in 3 (some .boolean), Cond.methodLink RX10 79 yX10_numbers, Cond.instanceMethod yX10_numbers, Cond.selects RX10 yX10_numbers yX10_numbers, Cond.code yX10_numbers cX10_numbers 8 none, Cond.fieldLink RX10 7 "CurveOrdersModel" "m" "I", Cond.fieldLink RX10 60 "CurveOrdersModel" "cellOf" "[I", Cond.fieldLink RX10 57 "CurveOrdersModel" "indexOf" "[I"]
def wsX10_read_r2 : List Cond := [Cond.methodLink RX10 85 yX10_all, Cond.instanceMethod yX10_all, Cond.selects RX10 yX10_all yX10_all, Cond.code yX10_all cX10_all 1 (some .int), Cond.methodLink RX10 89 yX10_quarter, Cond.instanceMethod yX10_quarter, Cond.selects RX10 yX10_quarter yX10_quarter, Cond.code yX10_quarter cX10_quarter 3 (some .int), Cond.methodLink RX10 93 yX10_stateFor, Cond.instanceMethod yX10_stateFor, Cond.selects RX10 yX10_stateFor yX10_stateFor, Cond.code yX10_stateFor cX10_stateFor 3 (some .int), Cond.methodLink RX10 96 yX10_divides, Cond.instanceMethod yX10_divides, Cond.selects RX10 yX10_divides yX10_divides, Cond.code yX10_divides cX10_divides 3 none, Cond.fieldLink RX10 161 "CurveOrdersModel" "leafMany" "I", Cond.fieldLink RX10 29 "CurveOrdersModel" "bucket" "I", Cond.fieldLink RX10 32 "CurveOrdersModel" "starts" "[I", Cond.fieldLink RX10 35 "CurveOrdersModel" "levels" "[I", Cond.methodLink RX10 164 yX10_pointsIn, Cond.instanceMethod yX10_pointsIn, Cond.selects RX10 yX10_pointsIn yX10_pointsIn, Cond.code yX10_pointsIn cX10_pointsIn 5 (some .int)]
def wsX10_read_r3 : List Cond := [Cond.fieldLink RX10 112 "CurveOrdersModel" "pointMany" "I", Cond.fieldLink RX10 26 "CurveOrdersModel" "points" "[I", Cond.methodLink RX10 167 yX10_maps, Cond.instanceMethod yX10_maps, Cond.selects RX10 yX10_maps yX10_maps, Cond.code yX10_maps cX10_maps 3 none, Cond.fieldLink RX10 69 "CurveOrdersModel" "leafOf" "[I"]
def wsX10_read : List Cond := .code yX10_read cX10_read 3 (some .int) :: ((wsX10_read_r1 ++ (wsX10_read_r2 ++ wsX10_read_r3)) ++ wsX100)
def wsX10_setRange : List Cond := .code yX10_setRange cX10_setRange 6 (some .int) :: ([.fieldLink RX10 103 "CurveOrdersModel" "left" "I", .fieldLink RX10 106 "CurveOrdersModel" "below" "I", .fieldLink RX10 20 "CurveOrdersModel" "right" "I", .fieldLink RX10 23 "CurveOrdersModel" "above" "I", .methodLink RX10 109 yX10_side, .instanceMethod yX10_side, .selects RX10 yX10_side yX10_side, .initialized RX10, .code yX10_side cX10_side 1 (some .int), .fieldLink RX10 7 "CurveOrdersModel" "m" "I", .methodLink RX10 99 yX10_in, .static yX10_in, .code yX10_in cX10_in 3 (some .boolean)] ++ wsX100)
def wsX10_isInRange : List Cond := .code yX10_isInRange cX10_isInRange 2 (some .boolean) :: ([.fieldLink RX10 60 "CurveOrdersModel" "cellOf" "[I", .fieldLink RX10 103 "CurveOrdersModel" "left" "I", .fieldLink RX10 20 "CurveOrdersModel" "right" "I", .fieldLink RX10 106 "CurveOrdersModel" "below" "I", .fieldLink RX10 23 "CurveOrdersModel" "above" "I", .methodLink RX10 99 yX10_in, .static yX10_in, .initialized RX10, .code yX10_in cX10_in 3 (some .boolean)] ++ wsX100)
def wsX10_findIntervals : List Cond := .code yX10_findIntervals cX10_findIntervals 4 none :: ([.fieldLink RX10 142 "CurveOrdersModel" "intervalMany" "I", .fieldLink RX10 63 "CurveOrdersModel" "firsts" "[I", .fieldLink RX10 66 "CurveOrdersModel" "lasts" "[I", .methodLink RX10 85 yX10_all, .instanceMethod yX10_all, .selects RX10 yX10_all yX10_all, .initialized RX10, .code yX10_all cX10_all 1 (some .int), .fieldLink RX10 7 "CurveOrdersModel" "m" "I", .methodLink RX10 145 yX10_isInRange, .instanceMethod yX10_isInRange, .selects RX10 yX10_isInRange yX10_isInRange, .code yX10_isInRange cX10_isInRange 2 (some .boolean), .fieldLink RX10 60 "CurveOrdersModel" "cellOf" "[I", .fieldLink RX10 103 "CurveOrdersModel" "left" "I", .fieldLink RX10 20 "CurveOrdersModel" "right" "I", .fieldLink RX10 106 "CurveOrdersModel" "below" "I", .fieldLink RX10 23 "CurveOrdersModel" "above" "I", .methodLink RX10 99 yX10_in, .static yX10_in, .code yX10_in cX10_in 3 (some .boolean)] ++ wsX100)
def wsX10_intervals_r1 : List Cond := [Cond.fieldLink RX10 142 "CurveOrdersModel" "intervalMany" "I", Cond.methodLink RX10 148 yX10_findIntervals, Cond.instanceMethod yX10_findIntervals, Cond.selects RX10 yX10_findIntervals yX10_findIntervals, Cond.initialized RX10, Cond.code yX10_findIntervals cX10_findIntervals 4 none, Cond.fieldLink RX10 63 "CurveOrdersModel" "firsts" "[I", Cond.fieldLink RX10 66 "CurveOrdersModel" "lasts" "[I", Cond.methodLink RX10 85 yX10_all, Cond.instanceMethod yX10_all, Cond.selects RX10 yX10_all yX10_all, Cond.code yX10_all cX10_all 1 (some .int), Cond.fieldLink RX10 7 "CurveOrdersModel" "m" "I", Cond.methodLink RX10 145 yX10_isInRange, Cond.instanceMethod yX10_isInRange, Cond.selects RX10 yX10_isInRange yX10_isInRange, Cond.code yX10_isInRange cX10_isInRange 2 (some .boolean), Cond.fieldLink RX10 60 "CurveOrdersModel" "cellOf" "[I", Cond.fieldLink RX10 103 "CurveOrdersModel" "left" "I", Cond.fieldLink RX10 20 "CurveOrdersModel" "right" "I", Cond.fieldLink RX10 106 "CurveOrdersModel" "below" "I", Cond.fieldLink RX10 23 "CurveOrdersModel" "above" "I", Cond.methodLink RX10 99 yX10_in, Cond.static yX10_in]
def wsX10_intervals_r2 : List Cond := [Cond.code yX10_in cX10_in 3 (some .boolean)]
def wsX10_intervals : List Cond := .code yX10_intervals cX10_intervals 1 (some .int) :: ((wsX10_intervals_r1 ++ wsX10_intervals_r2) ++ wsX100)
def wsX10_interval_r1 : List Cond := [Cond.fieldLink RX10 142 "CurveOrdersModel" "intervalMany" "I", Cond.fieldLink RX10 66 "CurveOrdersModel" "lasts" "[I", Cond.fieldLink RX10 63 "CurveOrdersModel" "firsts" "[I", Cond.methodLink RX10 148 yX10_findIntervals, Cond.instanceMethod yX10_findIntervals, Cond.selects RX10 yX10_findIntervals yX10_findIntervals, Cond.initialized RX10, Cond.code yX10_findIntervals cX10_findIntervals 4 none, Cond.methodLink RX10 85 yX10_all, Cond.instanceMethod yX10_all, Cond.selects RX10 yX10_all yX10_all, Cond.code yX10_all cX10_all 1 (some .int), Cond.fieldLink RX10 7 "CurveOrdersModel" "m" "I", Cond.methodLink RX10 145 yX10_isInRange, Cond.instanceMethod yX10_isInRange, Cond.selects RX10 yX10_isInRange yX10_isInRange, Cond.code yX10_isInRange cX10_isInRange 2 (some .boolean), Cond.fieldLink RX10 60 "CurveOrdersModel" "cellOf" "[I", Cond.fieldLink RX10 103 "CurveOrdersModel" "left" "I", Cond.fieldLink RX10 20 "CurveOrdersModel" "right" "I", Cond.fieldLink RX10 106 "CurveOrdersModel" "below" "I", Cond.fieldLink RX10 23 "CurveOrdersModel" "above" "I", Cond.methodLink RX10 99 yX10_in, Cond.static yX10_in]
def wsX10_interval_r2 : List Cond := [Cond.code yX10_in cX10_in 3 (some .boolean)]
def wsX10_interval : List Cond := .code yX10_interval cX10_interval 3 (some .int) :: ((wsX10_interval_r1 ++ wsX10_interval_r2) ++ wsX100)
def wsX10_joins_r1 : List Cond := [Cond.fieldLink RX10 142 "CurveOrdersModel" "intervalMany" "I", Cond.fieldLink RX10 63 "CurveOrdersModel" "firsts" "[I", Cond.fieldLink RX10 66 "CurveOrdersModel" "lasts" "[I", Cond.methodLink RX10 148 yX10_findIntervals, Cond.instanceMethod yX10_findIntervals, Cond.selects RX10 yX10_findIntervals yX10_findIntervals, Cond.initialized RX10, Cond.code yX10_findIntervals cX10_findIntervals 4 none, Cond.methodLink RX10 85 yX10_all, Cond.instanceMethod yX10_all, Cond.selects RX10 yX10_all yX10_all, Cond.code yX10_all cX10_all 1 (some .int), Cond.fieldLink RX10 7 "CurveOrdersModel" "m" "I", Cond.methodLink RX10 145 yX10_isInRange, Cond.instanceMethod yX10_isInRange, Cond.selects RX10 yX10_isInRange yX10_isInRange, Cond.code yX10_isInRange cX10_isInRange 2 (some .boolean), Cond.fieldLink RX10 60 "CurveOrdersModel" "cellOf" "[I", Cond.fieldLink RX10 103 "CurveOrdersModel" "left" "I", Cond.fieldLink RX10 20 "CurveOrdersModel" "right" "I", Cond.fieldLink RX10 106 "CurveOrdersModel" "below" "I", Cond.fieldLink RX10 23 "CurveOrdersModel" "above" "I", Cond.methodLink RX10 99 yX10_in, Cond.static yX10_in]
def wsX10_joins_r2 : List Cond := [Cond.code yX10_in cX10_in 3 (some .boolean)]
def wsX10_joins : List Cond := .code yX10_joins cX10_joins 5 (some .int) :: ((wsX10_joins_r1 ++ wsX10_joins_r2) ++ wsX100)
def wsX10_extra_r1 : List Cond := [Cond.methodLink RX10 151 yX10_joins, Cond.instanceMethod yX10_joins, Cond.selects RX10 yX10_joins yX10_joins, Cond.initialized RX10, Cond.code yX10_joins cX10_joins 5 (some .int), Cond.fieldLink RX10 142 "CurveOrdersModel" "intervalMany" "I", Cond.fieldLink RX10 63 "CurveOrdersModel" "firsts" "[I", Cond.fieldLink RX10 66 "CurveOrdersModel" "lasts" "[I", Cond.methodLink RX10 148 yX10_findIntervals, Cond.instanceMethod yX10_findIntervals, Cond.selects RX10 yX10_findIntervals yX10_findIntervals, Cond.code yX10_findIntervals cX10_findIntervals 4 none, Cond.methodLink RX10 85 yX10_all, Cond.instanceMethod yX10_all, Cond.selects RX10 yX10_all yX10_all, Cond.code yX10_all cX10_all 1 (some .int), Cond.fieldLink RX10 7 "CurveOrdersModel" "m" "I", Cond.methodLink RX10 145 yX10_isInRange, Cond.instanceMethod yX10_isInRange, Cond.selects RX10 yX10_isInRange yX10_isInRange, Cond.code yX10_isInRange cX10_isInRange 2 (some .boolean), Cond.fieldLink RX10 60 "CurveOrdersModel" "cellOf" "[I", Cond.fieldLink RX10 103 "CurveOrdersModel" "left" "I", Cond.fieldLink RX10 20 "CurveOrdersModel" "right" "I"]
def wsX10_extra_r2 : List Cond := [Cond.fieldLink RX10 106 "CurveOrdersModel" "below" "I", Cond.fieldLink RX10 23 "CurveOrdersModel" "above" "I", Cond.methodLink RX10 99 yX10_in, Cond.static yX10_in, Cond.code yX10_in cX10_in 3 (some .boolean)]
def wsX10_extra : List Cond := .code yX10_extra cX10_extra 2 (some .int) :: ((wsX10_extra_r1 ++ wsX10_extra_r2) ++ wsX100)
def wsX10_covering_r1 : List Cond := [Cond.fieldLink RX10 142 "CurveOrdersModel" "intervalMany" "I", Cond.fieldLink RX10 66 "CurveOrdersModel" "lasts" "[I", Cond.fieldLink RX10 63 "CurveOrdersModel" "firsts" "[I", Cond.methodLink RX10 151 yX10_joins, Cond.instanceMethod yX10_joins, Cond.selects RX10 yX10_joins yX10_joins, Cond.initialized RX10, Cond.code yX10_joins cX10_joins 5 (some .int), Cond.methodLink RX10 148 yX10_findIntervals, Cond.instanceMethod yX10_findIntervals, Cond.selects RX10 yX10_findIntervals yX10_findIntervals, Cond.code yX10_findIntervals cX10_findIntervals 4 none, Cond.methodLink RX10 85 yX10_all, Cond.instanceMethod yX10_all, Cond.selects RX10 yX10_all yX10_all, Cond.code yX10_all cX10_all 1 (some .int), Cond.fieldLink RX10 7 "CurveOrdersModel" "m" "I", Cond.methodLink RX10 145 yX10_isInRange, Cond.instanceMethod yX10_isInRange, Cond.selects RX10 yX10_isInRange yX10_isInRange, Cond.code yX10_isInRange cX10_isInRange 2 (some .boolean), Cond.fieldLink RX10 60 "CurveOrdersModel" "cellOf" "[I", Cond.fieldLink RX10 103 "CurveOrdersModel" "left" "I", Cond.fieldLink RX10 20 "CurveOrdersModel" "right" "I"]
def wsX10_covering_r2 : List Cond := [Cond.fieldLink RX10 106 "CurveOrdersModel" "below" "I", Cond.fieldLink RX10 23 "CurveOrdersModel" "above" "I", Cond.methodLink RX10 99 yX10_in, Cond.static yX10_in, Cond.code yX10_in cX10_in 3 (some .boolean)]
def wsX10_covering : List Cond := .code yX10_covering cX10_covering 5 (some .int) :: ((wsX10_covering_r1 ++ wsX10_covering_r2) ++ wsX100)
def wsX10_places : List Cond := .code yX10_places cX10_places 8 (some .int) :: ([.methodLink RX10 109 yX10_side, .instanceMethod yX10_side, .selects RX10 yX10_side yX10_side, .initialized RX10, .code yX10_side cX10_side 1 (some .int), .fieldLink RX10 7 "CurveOrdersModel" "m" "I"] ++ wsX100)
def wsX10_clusters : List Cond := .code yX10_clusters cX10_clusters 7 (some .int) :: ([.fieldLink RX10 60 "CurveOrdersModel" "cellOf" "[I", .methodLink RX10 109 yX10_side, .instanceMethod yX10_side, .selects RX10 yX10_side yX10_side, .initialized RX10, .code yX10_side cX10_side 1 (some .int), .fieldLink RX10 7 "CurveOrdersModel" "m" "I", .methodLink RX10 99 yX10_in, .static yX10_in, .code yX10_in cX10_in 3 (some .boolean), .methodLink RX10 85 yX10_all, .instanceMethod yX10_all, .selects RX10 yX10_all yX10_all, .code yX10_all cX10_all 1 (some .int), .methodLink RX10 154 yX10_places, .instanceMethod yX10_places, .selects RX10 yX10_places yX10_places, .code yX10_places cX10_places 8 (some .int)] ++ wsX100)
def wsX10_pointAt : List Cond := .code yX10_pointAt cX10_pointAt 4 (some .int) :: ([.fieldLink RX10 112 "CurveOrdersModel" "pointMany" "I", .fieldLink RX10 26 "CurveOrdersModel" "points" "[I"] ++ wsX100)
def wsX10_addPoint_r1 : List Cond := [Cond.fieldLink RX10 112 "CurveOrdersModel" "pointMany" "I", Cond.fieldLink RX10 26 "CurveOrdersModel" "points" "[I", Cond.methodLink RX10 115 yX10_isCell, Cond.instanceMethod yX10_isCell, Cond.selects RX10 yX10_isCell yX10_isCell, Cond.initialized RX10, Cond.code yX10_isCell cX10_isCell 3 (some .boolean), Cond.methodLink RX10 109 yX10_side, Cond.instanceMethod yX10_side, Cond.selects RX10 yX10_side yX10_side, Cond.code yX10_side cX10_side 1 (some .int), Cond.fieldLink RX10 7 "CurveOrdersModel" "m" "I", Cond.methodLink RX10 99 yX10_in, Cond.static yX10_in, Cond.code yX10_in cX10_in 3 (some .boolean), Cond.methodLink RX10 158 yX10_pointAt, Cond.instanceMethod yX10_pointAt, Cond.selects RX10 yX10_pointAt yX10_pointAt, Cond.code yX10_pointAt cX10_pointAt 4 (some .int), Cond.methodLink RX10 96 yX10_divides, Cond.instanceMethod yX10_divides, Cond.selects RX10 yX10_divides yX10_divides, Cond.code yX10_divides cX10_divides 3 none, Cond.fieldLink RX10 161 "CurveOrdersModel" "leafMany" "I"]
def wsX10_addPoint_r2 : List Cond := [Cond.fieldLink RX10 29 "CurveOrdersModel" "bucket" "I", Cond.fieldLink RX10 32 "CurveOrdersModel" "starts" "[I", Cond.fieldLink RX10 35 "CurveOrdersModel" "levels" "[I", Cond.methodLink RX10 85 yX10_all, Cond.instanceMethod yX10_all, Cond.selects RX10 yX10_all yX10_all, Cond.code yX10_all cX10_all 1 (some .int), Cond.methodLink RX10 164 yX10_pointsIn, Cond.instanceMethod yX10_pointsIn, Cond.selects RX10 yX10_pointsIn yX10_pointsIn, Cond.code yX10_pointsIn cX10_pointsIn 5 (some .int), Cond.fieldLink RX10 57 "CurveOrdersModel" "indexOf" "[I", Cond.methodLink RX10 167 yX10_maps, Cond.instanceMethod yX10_maps, Cond.selects RX10 yX10_maps yX10_maps, Cond.code yX10_maps cX10_maps 3 none, Cond.fieldLink RX10 69 "CurveOrdersModel" "leafOf" "[I"]
def wsX10_addPoint : List Cond := .code yX10_addPoint cX10_addPoint 3 (some .int) :: ((wsX10_addPoint_r1 ++ wsX10_addPoint_r2) ++ wsX100)
def wsX10_removePoint_r1 : List Cond := [Cond.fieldLink RX10 112 "CurveOrdersModel" "pointMany" "I", Cond.fieldLink RX10 26 "CurveOrdersModel" "points" "[I", Cond.methodLink RX10 115 yX10_isCell, Cond.instanceMethod yX10_isCell, Cond.selects RX10 yX10_isCell yX10_isCell, Cond.initialized RX10, Cond.code yX10_isCell cX10_isCell 3 (some .boolean), Cond.methodLink RX10 109 yX10_side, Cond.instanceMethod yX10_side, Cond.selects RX10 yX10_side yX10_side, Cond.code yX10_side cX10_side 1 (some .int), Cond.fieldLink RX10 7 "CurveOrdersModel" "m" "I", Cond.methodLink RX10 99 yX10_in, Cond.static yX10_in, Cond.code yX10_in cX10_in 3 (some .boolean), Cond.methodLink RX10 158 yX10_pointAt, Cond.instanceMethod yX10_pointAt, Cond.selects RX10 yX10_pointAt yX10_pointAt, Cond.code yX10_pointAt cX10_pointAt 4 (some .int), Cond.methodLink RX10 96 yX10_divides, Cond.instanceMethod yX10_divides, Cond.selects RX10 yX10_divides yX10_divides, Cond.code yX10_divides cX10_divides 3 none, Cond.fieldLink RX10 161 "CurveOrdersModel" "leafMany" "I"]
def wsX10_removePoint_r2 : List Cond := [Cond.fieldLink RX10 29 "CurveOrdersModel" "bucket" "I", Cond.fieldLink RX10 32 "CurveOrdersModel" "starts" "[I", Cond.fieldLink RX10 35 "CurveOrdersModel" "levels" "[I", Cond.methodLink RX10 85 yX10_all, Cond.instanceMethod yX10_all, Cond.selects RX10 yX10_all yX10_all, Cond.code yX10_all cX10_all 1 (some .int), Cond.methodLink RX10 164 yX10_pointsIn, Cond.instanceMethod yX10_pointsIn, Cond.selects RX10 yX10_pointsIn yX10_pointsIn, Cond.code yX10_pointsIn cX10_pointsIn 5 (some .int), Cond.fieldLink RX10 57 "CurveOrdersModel" "indexOf" "[I", Cond.methodLink RX10 167 yX10_maps, Cond.instanceMethod yX10_maps, Cond.selects RX10 yX10_maps yX10_maps, Cond.code yX10_maps cX10_maps 3 none, Cond.fieldLink RX10 69 "CurveOrdersModel" "leafOf" "[I"]
def wsX10_removePoint : List Cond := .code yX10_removePoint cX10_removePoint 4 (some .int) :: ((wsX10_removePoint_r1 ++ wsX10_removePoint_r2) ++ wsX100)
def wsX10_points : List Cond := .code yX10_points cX10_points 1 (some .int) :: ([.fieldLink RX10 112 "CurveOrdersModel" "pointMany" "I"] ++ wsX100)
def wsX10_nearest : List Cond := .code yX10_nearest cX10_nearest 8 (some .int) :: ([.fieldLink RX10 57 "CurveOrdersModel" "indexOf" "[I", .fieldLink RX10 112 "CurveOrdersModel" "pointMany" "I", .fieldLink RX10 26 "CurveOrdersModel" "points" "[I", .methodLink RX10 115 yX10_isCell, .instanceMethod yX10_isCell, .selects RX10 yX10_isCell yX10_isCell, .initialized RX10, .code yX10_isCell cX10_isCell 3 (some .boolean), .methodLink RX10 109 yX10_side, .instanceMethod yX10_side, .selects RX10 yX10_side yX10_side, .code yX10_side cX10_side 1 (some .int), .fieldLink RX10 7 "CurveOrdersModel" "m" "I", .methodLink RX10 99 yX10_in, .static yX10_in, .code yX10_in cX10_in 3 (some .boolean), .methodLink RX10 119 yX10_size, .static yX10_size, .code yX10_size cX10_size 1 (some .int)] ++ wsX100)
def wsX10_setBucket_r1 : List Cond := [Cond.fieldLink RX10 29 "CurveOrdersModel" "bucket" "I", Cond.methodLink RX10 99 yX10_in, Cond.static yX10_in, Cond.initialized RX10, Cond.code yX10_in cX10_in 3 (some .boolean), Cond.methodLink RX10 96 yX10_divides, Cond.instanceMethod yX10_divides, Cond.selects RX10 yX10_divides yX10_divides, Cond.code yX10_divides cX10_divides 3 none, Cond.fieldLink RX10 161 "CurveOrdersModel" "leafMany" "I", Cond.fieldLink RX10 7 "CurveOrdersModel" "m" "I", Cond.fieldLink RX10 32 "CurveOrdersModel" "starts" "[I", Cond.fieldLink RX10 35 "CurveOrdersModel" "levels" "[I", Cond.methodLink RX10 85 yX10_all, Cond.instanceMethod yX10_all, Cond.selects RX10 yX10_all yX10_all, Cond.code yX10_all cX10_all 1 (some .int), Cond.methodLink RX10 164 yX10_pointsIn, Cond.instanceMethod yX10_pointsIn, Cond.selects RX10 yX10_pointsIn yX10_pointsIn, Cond.code yX10_pointsIn cX10_pointsIn 5 (some .int), Cond.fieldLink RX10 112 "CurveOrdersModel" "pointMany" "I", Cond.fieldLink RX10 57 "CurveOrdersModel" "indexOf" "[I", Cond.fieldLink RX10 26 "CurveOrdersModel" "points" "[I"]
def wsX10_setBucket_r2 : List Cond := [Cond.methodLink RX10 167 yX10_maps, Cond.instanceMethod yX10_maps, Cond.selects RX10 yX10_maps yX10_maps, Cond.code yX10_maps cX10_maps 3 none, Cond.fieldLink RX10 69 "CurveOrdersModel" "leafOf" "[I"]
def wsX10_setBucket : List Cond := .code yX10_setBucket cX10_setBucket 3 (some .int) :: ((wsX10_setBucket_r1 ++ wsX10_setBucket_r2) ++ wsX100)
def wsX10_leaves : List Cond := .code yX10_leaves cX10_leaves 1 (some .int) :: ([.fieldLink RX10 161 "CurveOrdersModel" "leafMany" "I"] ++ wsX100)
def wsX10_isLeaf : List Cond := .code yX10_isLeaf cX10_isLeaf 2 (some .boolean) :: ([.fieldLink RX10 161 "CurveOrdersModel" "leafMany" "I", .methodLink RX10 99 yX10_in, .static yX10_in, .initialized RX10, .code yX10_in cX10_in 3 (some .boolean)] ++ wsX100)
def wsX10_leftOf : List Cond := .code yX10_leftOf cX10_leftOf 2 (some .int) :: ([.fieldLink RX10 60 "CurveOrdersModel" "cellOf" "[I", .fieldLink RX10 32 "CurveOrdersModel" "starts" "[I", .fieldLink RX10 35 "CurveOrdersModel" "levels" "[I"] ++ wsX100)
def wsX10_belowOf : List Cond := .code yX10_belowOf cX10_belowOf 2 (some .int) :: ([.fieldLink RX10 60 "CurveOrdersModel" "cellOf" "[I", .fieldLink RX10 32 "CurveOrdersModel" "starts" "[I", .fieldLink RX10 35 "CurveOrdersModel" "levels" "[I"] ++ wsX100)
def wsX10_tells : List Cond := .code yX10_tells cX10_tells 3 (some .int) :: ([.fieldLink RX10 35 "CurveOrdersModel" "levels" "[I", .fieldLink RX10 32 "CurveOrdersModel" "starts" "[I", .methodLink RX10 170 yX10_leftOf, .instanceMethod yX10_leftOf, .selects RX10 yX10_leftOf yX10_leftOf, .initialized RX10, .code yX10_leftOf cX10_leftOf 2 (some .int), .fieldLink RX10 60 "CurveOrdersModel" "cellOf" "[I", .methodLink RX10 173 yX10_belowOf, .instanceMethod yX10_belowOf, .selects RX10 yX10_belowOf yX10_belowOf, .code yX10_belowOf cX10_belowOf 2 (some .int), .methodLink RX10 164 yX10_pointsIn, .instanceMethod yX10_pointsIn, .selects RX10 yX10_pointsIn yX10_pointsIn, .code yX10_pointsIn cX10_pointsIn 5 (some .int), .fieldLink RX10 112 "CurveOrdersModel" "pointMany" "I", .fieldLink RX10 57 "CurveOrdersModel" "indexOf" "[I", .fieldLink RX10 26 "CurveOrdersModel" "points" "[I"] ++ wsX100)
def wsX10_leaf_r1 : List Cond := [Cond.methodLink RX10 176 yX10_isLeaf, Cond.instanceMethod yX10_isLeaf, Cond.selects RX10 yX10_isLeaf yX10_isLeaf, Cond.initialized RX10, Cond.code yX10_isLeaf cX10_isLeaf 2 (some .boolean), Cond.fieldLink RX10 161 "CurveOrdersModel" "leafMany" "I", Cond.methodLink RX10 99 yX10_in, Cond.static yX10_in, Cond.code yX10_in cX10_in 3 (some .boolean), Cond.methodLink RX10 179 yX10_tells, Cond.instanceMethod yX10_tells, Cond.selects RX10 yX10_tells yX10_tells, Cond.code yX10_tells cX10_tells 3 (some .int), Cond.fieldLink RX10 35 "CurveOrdersModel" "levels" "[I", Cond.fieldLink RX10 32 "CurveOrdersModel" "starts" "[I", Cond.methodLink RX10 170 yX10_leftOf, Cond.instanceMethod yX10_leftOf, Cond.selects RX10 yX10_leftOf yX10_leftOf, Cond.code yX10_leftOf cX10_leftOf 2 (some .int), Cond.fieldLink RX10 60 "CurveOrdersModel" "cellOf" "[I", Cond.methodLink RX10 173 yX10_belowOf, Cond.instanceMethod yX10_belowOf, Cond.selects RX10 yX10_belowOf yX10_belowOf, Cond.code yX10_belowOf cX10_belowOf 2 (some .int)]
def wsX10_leaf_r2 : List Cond := [Cond.methodLink RX10 164 yX10_pointsIn, Cond.instanceMethod yX10_pointsIn, Cond.selects RX10 yX10_pointsIn yX10_pointsIn, Cond.code yX10_pointsIn cX10_pointsIn 5 (some .int), Cond.fieldLink RX10 112 "CurveOrdersModel" "pointMany" "I", Cond.fieldLink RX10 57 "CurveOrdersModel" "indexOf" "[I", Cond.fieldLink RX10 26 "CurveOrdersModel" "points" "[I"]
def wsX10_leaf : List Cond := .code yX10_leaf cX10_leaf 3 (some .int) :: ((wsX10_leaf_r1 ++ wsX10_leaf_r2) ++ wsX100)
def wsX10_leafAt : List Cond := .code yX10_leafAt cX10_leafAt 3 (some .int) :: ([.fieldLink RX10 69 "CurveOrdersModel" "leafOf" "[I", .fieldLink RX10 57 "CurveOrdersModel" "indexOf" "[I", .methodLink RX10 115 yX10_isCell, .instanceMethod yX10_isCell, .selects RX10 yX10_isCell yX10_isCell, .initialized RX10, .code yX10_isCell cX10_isCell 3 (some .boolean), .methodLink RX10 109 yX10_side, .instanceMethod yX10_side, .selects RX10 yX10_side yX10_side, .code yX10_side cX10_side 1 (some .int), .fieldLink RX10 7 "CurveOrdersModel" "m" "I", .methodLink RX10 99 yX10_in, .static yX10_in, .code yX10_in cX10_in 3 (some .boolean)] ++ wsX100)
def wsX10_comesBeside : List Cond := .code yX10_comesBeside cX10_comesBeside 5 none :: ([.fieldLink RX10 182 "CurveOrdersModel" "besides" "I", .fieldLink RX10 72 "CurveOrdersModel" "beside" "[I"] ++ wsX100)
def wsX10_findBeside_r1 : List Cond := [Cond.fieldLink RX10 182 "CurveOrdersModel" "besides" "I", Cond.fieldLink RX10 35 "CurveOrdersModel" "levels" "[I", Cond.fieldLink RX10 69 "CurveOrdersModel" "leafOf" "[I", Cond.fieldLink RX10 57 "CurveOrdersModel" "indexOf" "[I", Cond.methodLink RX10 170 yX10_leftOf, Cond.instanceMethod yX10_leftOf, Cond.selects RX10 yX10_leftOf yX10_leftOf, Cond.initialized RX10, Cond.code yX10_leftOf cX10_leftOf 2 (some .int), Cond.fieldLink RX10 60 "CurveOrdersModel" "cellOf" "[I", Cond.fieldLink RX10 32 "CurveOrdersModel" "starts" "[I", Cond.methodLink RX10 173 yX10_belowOf, Cond.instanceMethod yX10_belowOf, Cond.selects RX10 yX10_belowOf yX10_belowOf, Cond.code yX10_belowOf cX10_belowOf 2 (some .int), Cond.methodLink RX10 115 yX10_isCell, Cond.instanceMethod yX10_isCell, Cond.selects RX10 yX10_isCell yX10_isCell, Cond.code yX10_isCell cX10_isCell 3 (some .boolean), Cond.methodLink RX10 109 yX10_side, Cond.instanceMethod yX10_side, Cond.selects RX10 yX10_side yX10_side, Cond.code yX10_side cX10_side 1 (some .int), Cond.fieldLink RX10 7 "CurveOrdersModel" "m" "I"]
def wsX10_findBeside_r2 : List Cond := [Cond.methodLink RX10 99 yX10_in, Cond.static yX10_in, Cond.code yX10_in cX10_in 3 (some .boolean), Cond.methodLink RX10 185 yX10_comesBeside, Cond.instanceMethod yX10_comesBeside, Cond.selects RX10 yX10_comesBeside yX10_comesBeside, Cond.code yX10_comesBeside cX10_comesBeside 5 none, Cond.fieldLink RX10 72 "CurveOrdersModel" "beside" "[I"]
def wsX10_findBeside : List Cond := .code yX10_findBeside cX10_findBeside 9 none :: ((wsX10_findBeside_r1 ++ wsX10_findBeside_r2) ++ wsX100)
def wsX10_neighbours_r1 : List Cond := [Cond.fieldLink RX10 182 "CurveOrdersModel" "besides" "I", Cond.methodLink RX10 176 yX10_isLeaf, Cond.instanceMethod yX10_isLeaf, Cond.selects RX10 yX10_isLeaf yX10_isLeaf, Cond.initialized RX10, Cond.code yX10_isLeaf cX10_isLeaf 2 (some .boolean), Cond.fieldLink RX10 161 "CurveOrdersModel" "leafMany" "I", Cond.methodLink RX10 99 yX10_in, Cond.static yX10_in, Cond.code yX10_in cX10_in 3 (some .boolean), Cond.methodLink RX10 189 yX10_findBeside, Cond.instanceMethod yX10_findBeside, Cond.selects RX10 yX10_findBeside yX10_findBeside, Cond.code yX10_findBeside cX10_findBeside 9 none, Cond.fieldLink RX10 35 "CurveOrdersModel" "levels" "[I", Cond.fieldLink RX10 69 "CurveOrdersModel" "leafOf" "[I", Cond.fieldLink RX10 57 "CurveOrdersModel" "indexOf" "[I", Cond.methodLink RX10 170 yX10_leftOf, Cond.instanceMethod yX10_leftOf, Cond.selects RX10 yX10_leftOf yX10_leftOf, Cond.code yX10_leftOf cX10_leftOf 2 (some .int), Cond.fieldLink RX10 60 "CurveOrdersModel" "cellOf" "[I", Cond.fieldLink RX10 32 "CurveOrdersModel" "starts" "[I", Cond.methodLink RX10 173 yX10_belowOf]
def wsX10_neighbours_r2 : List Cond := [Cond.instanceMethod yX10_belowOf, Cond.selects RX10 yX10_belowOf yX10_belowOf, Cond.code yX10_belowOf cX10_belowOf 2 (some .int), Cond.methodLink RX10 115 yX10_isCell, Cond.instanceMethod yX10_isCell, Cond.selects RX10 yX10_isCell yX10_isCell, Cond.code yX10_isCell cX10_isCell 3 (some .boolean), Cond.methodLink RX10 109 yX10_side, Cond.instanceMethod yX10_side, Cond.selects RX10 yX10_side yX10_side, Cond.code yX10_side cX10_side 1 (some .int), Cond.fieldLink RX10 7 "CurveOrdersModel" "m" "I", Cond.methodLink RX10 185 yX10_comesBeside, Cond.instanceMethod yX10_comesBeside, Cond.selects RX10 yX10_comesBeside yX10_comesBeside, Cond.code yX10_comesBeside cX10_comesBeside 5 none, Cond.fieldLink RX10 72 "CurveOrdersModel" "beside" "[I"]
def wsX10_neighbours : List Cond := .code yX10_neighbours cX10_neighbours 3 (some .int) :: ((wsX10_neighbours_r1 ++ wsX10_neighbours_r2) ++ wsX100)
def wsX10_neighbour_r1 : List Cond := [Cond.fieldLink RX10 182 "CurveOrdersModel" "besides" "I", Cond.fieldLink RX10 72 "CurveOrdersModel" "beside" "[I", Cond.methodLink RX10 176 yX10_isLeaf, Cond.instanceMethod yX10_isLeaf, Cond.selects RX10 yX10_isLeaf yX10_isLeaf, Cond.initialized RX10, Cond.code yX10_isLeaf cX10_isLeaf 2 (some .boolean), Cond.fieldLink RX10 161 "CurveOrdersModel" "leafMany" "I", Cond.methodLink RX10 99 yX10_in, Cond.static yX10_in, Cond.code yX10_in cX10_in 3 (some .boolean), Cond.methodLink RX10 189 yX10_findBeside, Cond.instanceMethod yX10_findBeside, Cond.selects RX10 yX10_findBeside yX10_findBeside, Cond.code yX10_findBeside cX10_findBeside 9 none, Cond.fieldLink RX10 35 "CurveOrdersModel" "levels" "[I", Cond.fieldLink RX10 69 "CurveOrdersModel" "leafOf" "[I", Cond.fieldLink RX10 57 "CurveOrdersModel" "indexOf" "[I", Cond.methodLink RX10 170 yX10_leftOf, Cond.instanceMethod yX10_leftOf, Cond.selects RX10 yX10_leftOf yX10_leftOf, Cond.code yX10_leftOf cX10_leftOf 2 (some .int), Cond.fieldLink RX10 60 "CurveOrdersModel" "cellOf" "[I", Cond.fieldLink RX10 32 "CurveOrdersModel" "starts" "[I"]
def wsX10_neighbour_r2 : List Cond := [Cond.methodLink RX10 173 yX10_belowOf, Cond.instanceMethod yX10_belowOf, Cond.selects RX10 yX10_belowOf yX10_belowOf, Cond.code yX10_belowOf cX10_belowOf 2 (some .int), Cond.methodLink RX10 115 yX10_isCell, Cond.instanceMethod yX10_isCell, Cond.selects RX10 yX10_isCell yX10_isCell, Cond.code yX10_isCell cX10_isCell 3 (some .boolean), Cond.methodLink RX10 109 yX10_side, Cond.instanceMethod yX10_side, Cond.selects RX10 yX10_side yX10_side, Cond.code yX10_side cX10_side 1 (some .int), Cond.fieldLink RX10 7 "CurveOrdersModel" "m" "I", Cond.methodLink RX10 185 yX10_comesBeside, Cond.instanceMethod yX10_comesBeside, Cond.selects RX10 yX10_comesBeside yX10_comesBeside, Cond.code yX10_comesBeside cX10_comesBeside 5 none]
def wsX10_neighbour : List Cond := .code yX10_neighbour cX10_neighbour 4 (some .int) :: ((wsX10_neighbour_r1 ++ wsX10_neighbour_r2) ++ wsX100)
def wsX10_isUnlike_r1 : List Cond := [Cond.fieldLink RX10 35 "CurveOrdersModel" "levels" "[I", Cond.fieldLink RX10 182 "CurveOrdersModel" "besides" "I", Cond.fieldLink RX10 72 "CurveOrdersModel" "beside" "[I", Cond.methodLink RX10 189 yX10_findBeside, Cond.instanceMethod yX10_findBeside, Cond.selects RX10 yX10_findBeside yX10_findBeside, Cond.initialized RX10, Cond.code yX10_findBeside cX10_findBeside 9 none, Cond.fieldLink RX10 69 "CurveOrdersModel" "leafOf" "[I", Cond.fieldLink RX10 57 "CurveOrdersModel" "indexOf" "[I", Cond.methodLink RX10 170 yX10_leftOf, Cond.instanceMethod yX10_leftOf, Cond.selects RX10 yX10_leftOf yX10_leftOf, Cond.code yX10_leftOf cX10_leftOf 2 (some .int), Cond.fieldLink RX10 60 "CurveOrdersModel" "cellOf" "[I", Cond.fieldLink RX10 32 "CurveOrdersModel" "starts" "[I", Cond.methodLink RX10 173 yX10_belowOf, Cond.instanceMethod yX10_belowOf, Cond.selects RX10 yX10_belowOf yX10_belowOf, Cond.code yX10_belowOf cX10_belowOf 2 (some .int), Cond.methodLink RX10 115 yX10_isCell, Cond.instanceMethod yX10_isCell, Cond.selects RX10 yX10_isCell yX10_isCell, Cond.code yX10_isCell cX10_isCell 3 (some .boolean)]
def wsX10_isUnlike_r2 : List Cond := [Cond.methodLink RX10 109 yX10_side, Cond.instanceMethod yX10_side, Cond.selects RX10 yX10_side yX10_side, Cond.code yX10_side cX10_side 1 (some .int), Cond.fieldLink RX10 7 "CurveOrdersModel" "m" "I", Cond.methodLink RX10 99 yX10_in, Cond.static yX10_in, Cond.code yX10_in cX10_in 3 (some .boolean), Cond.methodLink RX10 185 yX10_comesBeside, Cond.instanceMethod yX10_comesBeside, Cond.selects RX10 yX10_comesBeside yX10_comesBeside, Cond.code yX10_comesBeside cX10_comesBeside 5 none]
def wsX10_isUnlike : List Cond := .code yX10_isUnlike cX10_isUnlike 5 (some .boolean) :: ((wsX10_isUnlike_r1 ++ wsX10_isUnlike_r2) ++ wsX100)
def wsX10_quarters : List Cond := .code yX10_quarters cX10_quarters 4 none :: ([.fieldLink RX10 161 "CurveOrdersModel" "leafMany" "I", .fieldLink RX10 32 "CurveOrdersModel" "starts" "[I", .fieldLink RX10 35 "CurveOrdersModel" "levels" "[I", .methodLink RX10 167 yX10_maps, .instanceMethod yX10_maps, .selects RX10 yX10_maps yX10_maps, .initialized RX10, .code yX10_maps cX10_maps 3 none, .fieldLink RX10 69 "CurveOrdersModel" "leafOf" "[I"] ++ wsX100)
def wsX10_balance_r1 : List Cond := [Cond.fieldLink RX10 161 "CurveOrdersModel" "leafMany" "I", Cond.methodLink RX10 193 yX10_isUnlike, Cond.instanceMethod yX10_isUnlike, Cond.selects RX10 yX10_isUnlike yX10_isUnlike, Cond.initialized RX10, Cond.code yX10_isUnlike cX10_isUnlike 5 (some .boolean), Cond.fieldLink RX10 35 "CurveOrdersModel" "levels" "[I", Cond.fieldLink RX10 182 "CurveOrdersModel" "besides" "I", Cond.fieldLink RX10 72 "CurveOrdersModel" "beside" "[I", Cond.methodLink RX10 189 yX10_findBeside, Cond.instanceMethod yX10_findBeside, Cond.selects RX10 yX10_findBeside yX10_findBeside, Cond.code yX10_findBeside cX10_findBeside 9 none, Cond.fieldLink RX10 69 "CurveOrdersModel" "leafOf" "[I", Cond.fieldLink RX10 57 "CurveOrdersModel" "indexOf" "[I", Cond.methodLink RX10 170 yX10_leftOf, Cond.instanceMethod yX10_leftOf, Cond.selects RX10 yX10_leftOf yX10_leftOf, Cond.code yX10_leftOf cX10_leftOf 2 (some .int), Cond.fieldLink RX10 60 "CurveOrdersModel" "cellOf" "[I", Cond.fieldLink RX10 32 "CurveOrdersModel" "starts" "[I", Cond.methodLink RX10 173 yX10_belowOf, Cond.instanceMethod yX10_belowOf, Cond.selects RX10 yX10_belowOf yX10_belowOf]
def wsX10_balance_r2 : List Cond := [Cond.code yX10_belowOf cX10_belowOf 2 (some .int), Cond.methodLink RX10 115 yX10_isCell, Cond.instanceMethod yX10_isCell, Cond.selects RX10 yX10_isCell yX10_isCell, Cond.code yX10_isCell cX10_isCell 3 (some .boolean), Cond.methodLink RX10 109 yX10_side, Cond.instanceMethod yX10_side, Cond.selects RX10 yX10_side yX10_side, Cond.code yX10_side cX10_side 1 (some .int), Cond.fieldLink RX10 7 "CurveOrdersModel" "m" "I", Cond.methodLink RX10 99 yX10_in, Cond.static yX10_in, Cond.code yX10_in cX10_in 3 (some .boolean), Cond.methodLink RX10 185 yX10_comesBeside, Cond.instanceMethod yX10_comesBeside, Cond.selects RX10 yX10_comesBeside yX10_comesBeside, Cond.code yX10_comesBeside cX10_comesBeside 5 none, Cond.methodLink RX10 196 yX10_quarters, Cond.instanceMethod yX10_quarters, Cond.selects RX10 yX10_quarters yX10_quarters, Cond.code yX10_quarters cX10_quarters 4 none, Cond.methodLink RX10 167 yX10_maps, Cond.instanceMethod yX10_maps, Cond.selects RX10 yX10_maps yX10_maps]
def wsX10_balance_r3 : List Cond := [Cond.code yX10_maps cX10_maps 3 none]
def wsX10_balance : List Cond := .code yX10_balance cX10_balance 3 (some .int) :: ((wsX10_balance_r1 ++ (wsX10_balance_r2 ++ wsX10_balance_r3)) ++ wsX100)
def wsX10_walk_r1 : List Cond := [Cond.fieldLink RX10 182 "CurveOrdersModel" "besides" "I", Cond.fieldLink RX10 72 "CurveOrdersModel" "beside" "[I", Cond.methodLink RX10 176 yX10_isLeaf, Cond.instanceMethod yX10_isLeaf, Cond.selects RX10 yX10_isLeaf yX10_isLeaf, Cond.initialized RX10, Cond.code yX10_isLeaf cX10_isLeaf 2 (some .boolean), Cond.fieldLink RX10 161 "CurveOrdersModel" "leafMany" "I", Cond.methodLink RX10 99 yX10_in, Cond.static yX10_in, Cond.code yX10_in cX10_in 3 (some .boolean), Cond.methodLink RX10 189 yX10_findBeside, Cond.instanceMethod yX10_findBeside, Cond.selects RX10 yX10_findBeside yX10_findBeside, Cond.code yX10_findBeside cX10_findBeside 9 none, Cond.fieldLink RX10 35 "CurveOrdersModel" "levels" "[I", Cond.fieldLink RX10 69 "CurveOrdersModel" "leafOf" "[I", Cond.fieldLink RX10 57 "CurveOrdersModel" "indexOf" "[I", Cond.methodLink RX10 170 yX10_leftOf, Cond.instanceMethod yX10_leftOf, Cond.selects RX10 yX10_leftOf yX10_leftOf, Cond.code yX10_leftOf cX10_leftOf 2 (some .int), Cond.fieldLink RX10 60 "CurveOrdersModel" "cellOf" "[I", Cond.fieldLink RX10 32 "CurveOrdersModel" "starts" "[I"]
def wsX10_walk_r2 : List Cond := [Cond.methodLink RX10 173 yX10_belowOf, Cond.instanceMethod yX10_belowOf, Cond.selects RX10 yX10_belowOf yX10_belowOf, Cond.code yX10_belowOf cX10_belowOf 2 (some .int), Cond.methodLink RX10 115 yX10_isCell, Cond.instanceMethod yX10_isCell, Cond.selects RX10 yX10_isCell yX10_isCell, Cond.code yX10_isCell cX10_isCell 3 (some .boolean), Cond.methodLink RX10 109 yX10_side, Cond.instanceMethod yX10_side, Cond.selects RX10 yX10_side yX10_side, Cond.code yX10_side cX10_side 1 (some .int), Cond.fieldLink RX10 7 "CurveOrdersModel" "m" "I", Cond.methodLink RX10 185 yX10_comesBeside, Cond.instanceMethod yX10_comesBeside, Cond.selects RX10 yX10_comesBeside yX10_comesBeside, Cond.code yX10_comesBeside cX10_comesBeside 5 none]
def wsX10_walk : List Cond := .code yX10_walk cX10_walk 4 (some .int) :: ((wsX10_walk_r1 ++ wsX10_walk_r2) ++ wsX100)
def wsX10_walked_r1 : List Cond := [Cond.fieldLink RX10 182 "CurveOrdersModel" "besides" "I", Cond.fieldLink RX10 72 "CurveOrdersModel" "beside" "[I", Cond.methodLink RX10 176 yX10_isLeaf, Cond.instanceMethod yX10_isLeaf, Cond.selects RX10 yX10_isLeaf yX10_isLeaf, Cond.initialized RX10, Cond.code yX10_isLeaf cX10_isLeaf 2 (some .boolean), Cond.fieldLink RX10 161 "CurveOrdersModel" "leafMany" "I", Cond.methodLink RX10 99 yX10_in, Cond.static yX10_in, Cond.code yX10_in cX10_in 3 (some .boolean), Cond.methodLink RX10 189 yX10_findBeside, Cond.instanceMethod yX10_findBeside, Cond.selects RX10 yX10_findBeside yX10_findBeside, Cond.code yX10_findBeside cX10_findBeside 9 none, Cond.fieldLink RX10 35 "CurveOrdersModel" "levels" "[I", Cond.fieldLink RX10 69 "CurveOrdersModel" "leafOf" "[I", Cond.fieldLink RX10 57 "CurveOrdersModel" "indexOf" "[I", Cond.methodLink RX10 170 yX10_leftOf, Cond.instanceMethod yX10_leftOf, Cond.selects RX10 yX10_leftOf yX10_leftOf, Cond.code yX10_leftOf cX10_leftOf 2 (some .int), Cond.fieldLink RX10 60 "CurveOrdersModel" "cellOf" "[I", Cond.fieldLink RX10 32 "CurveOrdersModel" "starts" "[I"]
def wsX10_walked_r2 : List Cond := [Cond.methodLink RX10 173 yX10_belowOf, Cond.instanceMethod yX10_belowOf, Cond.selects RX10 yX10_belowOf yX10_belowOf, Cond.code yX10_belowOf cX10_belowOf 2 (some .int), Cond.methodLink RX10 115 yX10_isCell, Cond.instanceMethod yX10_isCell, Cond.selects RX10 yX10_isCell yX10_isCell, Cond.code yX10_isCell cX10_isCell 3 (some .boolean), Cond.methodLink RX10 109 yX10_side, Cond.instanceMethod yX10_side, Cond.selects RX10 yX10_side yX10_side, Cond.code yX10_side cX10_side 1 (some .int), Cond.fieldLink RX10 7 "CurveOrdersModel" "m" "I", Cond.methodLink RX10 185 yX10_comesBeside, Cond.instanceMethod yX10_comesBeside, Cond.selects RX10 yX10_comesBeside yX10_comesBeside, Cond.code yX10_comesBeside cX10_comesBeside 5 none]
def wsX10_walked : List Cond := .code yX10_walked cX10_walked 6 (some .int) :: ((wsX10_walked_r1 ++ wsX10_walked_r2) ++ wsX100)
def wsX10_save : List Cond := .code yX10_save cX10_save 4 (some .int) :: ([.fieldLink RX10 41 "CurveOrdersModel" "kept" "[I", .fieldLink RX10 7 "CurveOrdersModel" "m" "I", .fieldLink RX10 82 "CurveOrdersModel" "curve" "I", .fieldLink RX10 13 "CurveOrdersModel" "stateMany" "[I", .fieldLink RX10 103 "CurveOrdersModel" "left" "I", .fieldLink RX10 106 "CurveOrdersModel" "below" "I", .fieldLink RX10 20 "CurveOrdersModel" "right" "I", .fieldLink RX10 23 "CurveOrdersModel" "above" "I", .fieldLink RX10 112 "CurveOrdersModel" "pointMany" "I", .fieldLink RX10 29 "CurveOrdersModel" "bucket" "I", .fieldLink RX10 161 "CurveOrdersModel" "leafMany" "I", .fieldLink RX10 26 "CurveOrdersModel" "points" "[I", .fieldLink RX10 44 "CurveOrdersModel" "keptTables" "[I", .fieldLink RX10 17 "CurveOrdersModel" "tables" "[I", .fieldLink RX10 47 "CurveOrdersModel" "keptStarts" "[I", .fieldLink RX10 32 "CurveOrdersModel" "starts" "[I", .fieldLink RX10 50 "CurveOrdersModel" "keptLevels" "[I", .fieldLink RX10 35 "CurveOrdersModel" "levels" "[I", .fieldLink RX10 53 "CurveOrdersModel" "isKept" "[Z", .methodLink RX10 99 yX10_in, .static yX10_in, .initialized RX10, .code yX10_in cX10_in 3 (some .boolean)] ++ wsX100)
def wsX10_restore_r1 : List Cond := [Cond.fieldLink RX10 53 "CurveOrdersModel" "isKept" "[Z", Cond.fieldLink RX10 41 "CurveOrdersModel" "kept" "[I", Cond.fieldLink RX10 7 "CurveOrdersModel" "m" "I", Cond.fieldLink RX10 82 "CurveOrdersModel" "curve" "I", Cond.fieldLink RX10 13 "CurveOrdersModel" "stateMany" "[I", Cond.fieldLink RX10 103 "CurveOrdersModel" "left" "I", Cond.fieldLink RX10 106 "CurveOrdersModel" "below" "I", Cond.fieldLink RX10 20 "CurveOrdersModel" "right" "I", Cond.fieldLink RX10 23 "CurveOrdersModel" "above" "I", Cond.fieldLink RX10 112 "CurveOrdersModel" "pointMany" "I", Cond.fieldLink RX10 29 "CurveOrdersModel" "bucket" "I", Cond.fieldLink RX10 26 "CurveOrdersModel" "points" "[I", Cond.fieldLink RX10 17 "CurveOrdersModel" "tables" "[I", Cond.fieldLink RX10 44 "CurveOrdersModel" "keptTables" "[I", Cond.fieldLink RX10 161 "CurveOrdersModel" "leafMany" "I", Cond.fieldLink RX10 32 "CurveOrdersModel" "starts" "[I", Cond.fieldLink RX10 47 "CurveOrdersModel" "keptStarts" "[I", Cond.fieldLink RX10 35 "CurveOrdersModel" "levels" "[I", Cond.fieldLink RX10 50 "CurveOrdersModel" "keptLevels" "[I", Cond.methodLink RX10 99 yX10_in, Cond.static yX10_in, Cond.initialized RX10, Cond.code yX10_in cX10_in 3 (some .boolean), Cond.methodLink RX10 79 yX10_numbers]
def wsX10_restore_r2 : List Cond := [Cond.instanceMethod yX10_numbers, Cond.selects RX10 yX10_numbers yX10_numbers, Cond.code yX10_numbers cX10_numbers 8 none, Cond.fieldLink RX10 60 "CurveOrdersModel" "cellOf" "[I", Cond.fieldLink RX10 57 "CurveOrdersModel" "indexOf" "[I", Cond.methodLink RX10 85 yX10_all, Cond.instanceMethod yX10_all, Cond.selects RX10 yX10_all yX10_all, Cond.code yX10_all cX10_all 1 (some .int), Cond.methodLink RX10 89 yX10_quarter, Cond.instanceMethod yX10_quarter, Cond.selects RX10 yX10_quarter yX10_quarter, Cond.code yX10_quarter cX10_quarter 3 (some .int), Cond.methodLink RX10 93 yX10_stateFor, Cond.instanceMethod yX10_stateFor, Cond.selects RX10 yX10_stateFor yX10_stateFor, Cond.code yX10_stateFor cX10_stateFor 3 (some .int), Cond.methodLink RX10 96 yX10_divides, Cond.instanceMethod yX10_divides, Cond.selects RX10 yX10_divides yX10_divides, Cond.code yX10_divides cX10_divides 3 none, Cond.methodLink RX10 164 yX10_pointsIn, Cond.instanceMethod yX10_pointsIn, Cond.selects RX10 yX10_pointsIn yX10_pointsIn]
def wsX10_restore_r3 : List Cond := [Cond.code yX10_pointsIn cX10_pointsIn 5 (some .int), Cond.methodLink RX10 167 yX10_maps, Cond.instanceMethod yX10_maps, Cond.selects RX10 yX10_maps yX10_maps, Cond.code yX10_maps cX10_maps 3 none, Cond.fieldLink RX10 69 "CurveOrdersModel" "leafOf" "[I"]
def wsX10_restore : List Cond := .code yX10_restore cX10_restore 4 (some .int) :: ((wsX10_restore_r1 ++ (wsX10_restore_r2 ++ wsX10_restore_r3)) ++ wsX100)
def wsX10_more : List Cond := .code yX10_more cX10_more 3 (some .long) :: ([.constantLong RX10 199 (31)])
def wsX10_checksum_r1 : List Cond := [Cond.constantLong RX10 201 (73), Cond.fieldLink RX10 7 "CurveOrdersModel" "m" "I", Cond.fieldLink RX10 13 "CurveOrdersModel" "stateMany" "[I", Cond.fieldLink RX10 82 "CurveOrdersModel" "curve" "I", Cond.fieldLink RX10 142 "CurveOrdersModel" "intervalMany" "I", Cond.fieldLink RX10 63 "CurveOrdersModel" "firsts" "[I", Cond.fieldLink RX10 66 "CurveOrdersModel" "lasts" "[I", Cond.fieldLink RX10 112 "CurveOrdersModel" "pointMany" "I", Cond.fieldLink RX10 29 "CurveOrdersModel" "bucket" "I", Cond.fieldLink RX10 161 "CurveOrdersModel" "leafMany" "I", Cond.methodLink RX10 203 yX10_more, Cond.static yX10_more, Cond.initialized RX10, Cond.code yX10_more cX10_more 3 (some .long), Cond.constantLong RX10 199 (31), Cond.methodLink RX10 89 yX10_quarter, Cond.instanceMethod yX10_quarter, Cond.selects RX10 yX10_quarter yX10_quarter, Cond.code yX10_quarter cX10_quarter 3 (some .int), Cond.fieldLink RX10 17 "CurveOrdersModel" "tables" "[I", Cond.methodLink RX10 93 yX10_stateFor, Cond.instanceMethod yX10_stateFor, Cond.selects RX10 yX10_stateFor yX10_stateFor, Cond.code yX10_stateFor cX10_stateFor 3 (some .int)]
def wsX10_checksum_r2 : List Cond := [Cond.methodLink RX10 126 yX10_breaksNow, Cond.instanceMethod yX10_breaksNow, Cond.selects RX10 yX10_breaksNow yX10_breaksNow, Cond.code yX10_breaksNow cX10_breaksNow 3 (some .int), Cond.fieldLink RX10 60 "CurveOrdersModel" "cellOf" "[I", Cond.methodLink RX10 85 yX10_all, Cond.instanceMethod yX10_all, Cond.selects RX10 yX10_all yX10_all, Cond.code yX10_all cX10_all 1 (some .int), Cond.methodLink RX10 123 yX10_far, Cond.static yX10_far, Cond.code yX10_far cX10_far 2 (some .int), Cond.methodLink RX10 119 yX10_size, Cond.static yX10_size, Cond.code yX10_size cX10_size 1 (some .int), Cond.methodLink RX10 129 yX10_stretchNow, Cond.instanceMethod yX10_stretchNow, Cond.selects RX10 yX10_stretchNow yX10_stretchNow, Cond.code yX10_stretchNow cX10_stretchNow 6 (some .int), Cond.fieldLink RX10 57 "CurveOrdersModel" "indexOf" "[I", Cond.methodLink RX10 109 yX10_side, Cond.instanceMethod yX10_side, Cond.selects RX10 yX10_side yX10_side, Cond.code yX10_side cX10_side 1 (some .int)]
def wsX10_checksum_r3 : List Cond := [Cond.methodLink RX10 148 yX10_findIntervals, Cond.instanceMethod yX10_findIntervals, Cond.selects RX10 yX10_findIntervals yX10_findIntervals, Cond.code yX10_findIntervals cX10_findIntervals 4 none, Cond.methodLink RX10 145 yX10_isInRange, Cond.instanceMethod yX10_isInRange, Cond.selects RX10 yX10_isInRange yX10_isInRange, Cond.code yX10_isInRange cX10_isInRange 2 (some .boolean), Cond.fieldLink RX10 103 "CurveOrdersModel" "left" "I", Cond.fieldLink RX10 20 "CurveOrdersModel" "right" "I", Cond.fieldLink RX10 106 "CurveOrdersModel" "below" "I", Cond.fieldLink RX10 23 "CurveOrdersModel" "above" "I", Cond.methodLink RX10 99 yX10_in, Cond.static yX10_in, Cond.code yX10_in cX10_in 3 (some .boolean), Cond.methodLink RX10 179 yX10_tells, Cond.instanceMethod yX10_tells, Cond.selects RX10 yX10_tells yX10_tells, Cond.code yX10_tells cX10_tells 3 (some .int), Cond.fieldLink RX10 35 "CurveOrdersModel" "levels" "[I", Cond.fieldLink RX10 32 "CurveOrdersModel" "starts" "[I", Cond.methodLink RX10 170 yX10_leftOf, Cond.instanceMethod yX10_leftOf, Cond.selects RX10 yX10_leftOf yX10_leftOf]
def wsX10_checksum_r4 : List Cond := [Cond.code yX10_leftOf cX10_leftOf 2 (some .int), Cond.methodLink RX10 173 yX10_belowOf, Cond.instanceMethod yX10_belowOf, Cond.selects RX10 yX10_belowOf yX10_belowOf, Cond.code yX10_belowOf cX10_belowOf 2 (some .int), Cond.methodLink RX10 164 yX10_pointsIn, Cond.instanceMethod yX10_pointsIn, Cond.selects RX10 yX10_pointsIn yX10_pointsIn, Cond.code yX10_pointsIn cX10_pointsIn 5 (some .int), Cond.fieldLink RX10 26 "CurveOrdersModel" "points" "[I"]
def wsX10_checksum : List Cond := .code yX10_checksum cX10_checksum 5 (some .long) :: ((wsX10_checksum_r1 ++ (wsX10_checksum_r2 ++ (wsX10_checksum_r3 ++ wsX10_checksum_r4))) ++ wsX100)
def wsJ9_abs_0f7a4 : List Cond := .code yJ9_abs_0f7a4 cJ9_abs_0f7a4 1 (some .int) :: ([])
def wsJ9_max_7cf53 : List Cond := .code yJ9_max_7cf53 cJ9_max_7cf53 2 (some .int) :: ([])
def wsJ9_min_7cf53 : List Cond := .code yJ9_min_7cf53 cJ9_min_7cf53 2 (some .int) :: ([])
theorem inJ9 : ∀ w ∈ wsJ90, w ∈ lw_tbl := by decide +kernel
theorem inJ10 : ∀ w ∈ wsJ100, w ∈ lw_tbl := by decide +kernel
theorem dX0_init_0 : decode cX0_init 0 = .ok (.aload_n 0, 1) := by decide +kernel
theorem dX0_init_1 : decode cX0_init 1 = .ok (.invokespecial 3, 3) := by decide +kernel
theorem dX0_init_4 : decode cX0_init 4 = .ok (.aload_n 0, 1) := by decide +kernel
theorem dX0_init_5 : decode cX0_init 5 = .ok (.iconst 0, 1) := by decide +kernel
theorem dX0_init_6 : decode cX0_init 6 = .ok (.putfield 9, 3) := by decide +kernel
theorem dX0_init_9 : decode cX0_init 9 = .ok (.aload_n 0, 1) := by decide +kernel
theorem dX0_init_10 : decode cX0_init 10 = .ok (.sipush 505, 3) := by decide +kernel
theorem dX0_init_13 : decode cX0_init 13 = .ok (.newarray .int, 2) := by decide +kernel
theorem dX0_init_15 : decode cX0_init 15 = .ok (.putfield 15, 3) := by decide +kernel
theorem dX0_init_18 : decode cX0_init 18 = .ok (.aload_n 0, 1) := by decide +kernel
theorem dX0_init_19 : decode cX0_init 19 = .ok (.sipush 505, 3) := by decide +kernel
theorem dX0_init_22 : decode cX0_init 22 = .ok (.newarray .int, 2) := by decide +kernel
theorem dX0_init_24 : decode cX0_init 24 = .ok (.putfield 19, 3) := by decide +kernel
theorem dX0_init_27 : decode cX0_init 27 = .ok (.return_, 1) := by decide +kernel
set_option maxRecDepth 20000 in
theorem ggX0_fill_X2_xAt : GoodIn wsX0_fill wsX2_xAt := goodIn_r _ [9, 10, 27, 28, 29, 30] (by decide +kernel) (by decide +kernel)
set_option maxRecDepth 20000 in
theorem gX0_fill_X2_xAt : GoodIn wsX0_fill (wsV RX0 27 RX2 yX2_xAt wsX2_xAt) := goodIn_app (goodIn_of _ (by decide +kernel)) ggX0_fill_X2_xAt
set_option maxRecDepth 20000 in
theorem ggX0_fill_X2_yAt : GoodIn wsX0_fill wsX2_yAt := goodIn_r _ [14, 10, 27, 28, 29, 30] (by decide +kernel) (by decide +kernel)
set_option maxRecDepth 20000 in
theorem gX0_fill_X2_yAt : GoodIn wsX0_fill (wsV RX0 31 RX2 yX2_yAt wsX2_yAt) := goodIn_app (goodIn_of _ (by decide +kernel)) ggX0_fill_X2_yAt
set_option maxRecDepth 20000 in
theorem ggX0_fill_X4_holds : GoodIn wsX0_fill wsX4_holds := goodIn_r _ [19, 20, 21, 22, 23, 31, 32, 33, 34] (by decide +kernel) (by decide +kernel)
set_option maxRecDepth 20000 in
theorem gX0_fill_X4_holds : GoodIn wsX0_fill (wsV RX0 34 RX4 yX4_holds wsX4_holds) := goodIn_app (goodIn_of _ (by decide +kernel)) ggX0_fill_X4_holds
theorem dX0_fill_0 : decode cX0_fill 0 = .ok (.aload_n 0, 1) := by decide +kernel
theorem dX0_fill_1 : decode cX0_fill 1 = .ok (.iconst 0, 1) := by decide +kernel
theorem dX0_fill_2 : decode cX0_fill 2 = .ok (.putfield 9, 3) := by decide +kernel
theorem dX0_fill_5 : decode cX0_fill 5 = .ok (.iconst 0, 1) := by decide +kernel
theorem dX0_fill_6 : decode cX0_fill 6 = .ok (.istore_n 3, 1) := by decide +kernel
theorem dX0_fill_7 : decode cX0_fill 7 = .ok (.iconst 0, 1) := by decide +kernel
theorem dX0_fill_8 : decode cX0_fill 8 = .ok (.istore 4, 2) := by decide +kernel
theorem dX0_fill_10 : decode cX0_fill 10 = .ok (.iload 4, 2) := by decide +kernel
theorem dX0_fill_12 : decode cX0_fill 12 = .ok (.aload_n 1, 1) := by decide +kernel
theorem dX0_fill_13 : decode cX0_fill 13 = .ok (.getfield 22, 3) := by decide +kernel
theorem dX0_fill_16 : decode cX0_fill 16 = .ok (.if_icmp .ge 102, 3) := by decide +kernel
theorem dX0_fill_19 : decode cX0_fill 19 = .ok (.aload_n 2, 1) := by decide +kernel
theorem dX0_fill_20 : decode cX0_fill 20 = .ok (.aload_n 1, 1) := by decide +kernel
theorem dX0_fill_21 : decode cX0_fill 21 = .ok (.iload 4, 2) := by decide +kernel
theorem dX0_fill_23 : decode cX0_fill 23 = .ok (.invokevirtual 27, 3) := by decide +kernel
theorem dX0_fill_26 : decode cX0_fill 26 = .ok (.aload_n 1, 1) := by decide +kernel
theorem dX0_fill_27 : decode cX0_fill 27 = .ok (.iload 4, 2) := by decide +kernel
theorem dX0_fill_29 : decode cX0_fill 29 = .ok (.invokevirtual 31, 3) := by decide +kernel
theorem dX0_fill_32 : decode cX0_fill 32 = .ok (.invokevirtual 34, 3) := by decide +kernel
theorem dX0_fill_35 : decode cX0_fill 35 = .ok (.istore 5, 2) := by decide +kernel
theorem dX0_fill_37 : decode cX0_fill 37 = .ok (.iload 5, 2) := by decide +kernel
theorem dX0_fill_39 : decode cX0_fill 39 = .ok (.ifCond .eq 23, 3) := by decide +kernel
theorem dX0_fill_42 : decode cX0_fill 42 = .ok (.iload_n 3, 1) := by decide +kernel
theorem dX0_fill_43 : decode cX0_fill 43 = .ok (.ifCond .eq 19, 3) := by decide +kernel
theorem dX0_fill_46 : decode cX0_fill 46 = .ok (.aload_n 0, 1) := by decide +kernel
theorem dX0_fill_47 : decode cX0_fill 47 = .ok (.getfield 19, 3) := by decide +kernel
theorem dX0_fill_50 : decode cX0_fill 50 = .ok (.aload_n 0, 1) := by decide +kernel
theorem dX0_fill_51 : decode cX0_fill 51 = .ok (.getfield 9, 3) := by decide +kernel
theorem dX0_fill_54 : decode cX0_fill 54 = .ok (.iconst 1, 1) := by decide +kernel
theorem dX0_fill_55 : decode cX0_fill 55 = .ok (.isub, 1) := by decide +kernel
theorem dX0_fill_56 : decode cX0_fill 56 = .ok (.iload 4, 2) := by decide +kernel
theorem dX0_fill_58 : decode cX0_fill 58 = .ok (.iastore, 1) := by decide +kernel
theorem dX0_fill_59 : decode cX0_fill 59 = .ok (.goto 50, 3) := by decide +kernel
theorem dX0_fill_62 : decode cX0_fill 62 = .ok (.iload 5, 2) := by decide +kernel
theorem dX0_fill_64 : decode cX0_fill 64 = .ok (.ifCond .eq 45, 3) := by decide +kernel
theorem dX0_fill_67 : decode cX0_fill 67 = .ok (.aload_n 0, 1) := by decide +kernel
theorem dX0_fill_68 : decode cX0_fill 68 = .ok (.getfield 9, 3) := by decide +kernel
theorem dX0_fill_71 : decode cX0_fill 71 = .ok (.sipush 505, 3) := by decide +kernel
theorem dX0_fill_74 : decode cX0_fill 74 = .ok (.if_icmp .ge 35, 3) := by decide +kernel
theorem dX0_fill_77 : decode cX0_fill 77 = .ok (.aload_n 0, 1) := by decide +kernel
theorem dX0_fill_78 : decode cX0_fill 78 = .ok (.getfield 15, 3) := by decide +kernel
theorem dX0_fill_81 : decode cX0_fill 81 = .ok (.aload_n 0, 1) := by decide +kernel
theorem dX0_fill_82 : decode cX0_fill 82 = .ok (.getfield 9, 3) := by decide +kernel
theorem dX0_fill_85 : decode cX0_fill 85 = .ok (.iload 4, 2) := by decide +kernel
theorem dX0_fill_87 : decode cX0_fill 87 = .ok (.iastore, 1) := by decide +kernel
theorem dX0_fill_88 : decode cX0_fill 88 = .ok (.aload_n 0, 1) := by decide +kernel
theorem dX0_fill_89 : decode cX0_fill 89 = .ok (.getfield 19, 3) := by decide +kernel
theorem dX0_fill_92 : decode cX0_fill 92 = .ok (.aload_n 0, 1) := by decide +kernel
theorem dX0_fill_93 : decode cX0_fill 93 = .ok (.getfield 9, 3) := by decide +kernel
theorem dX0_fill_96 : decode cX0_fill 96 = .ok (.iload 4, 2) := by decide +kernel
theorem dX0_fill_98 : decode cX0_fill 98 = .ok (.iastore, 1) := by decide +kernel
theorem dX0_fill_99 : decode cX0_fill 99 = .ok (.aload_n 0, 1) := by decide +kernel
theorem dX0_fill_100 : decode cX0_fill 100 = .ok (.dup, 1) := by decide +kernel
theorem dX0_fill_101 : decode cX0_fill 101 = .ok (.getfield 9, 3) := by decide +kernel
theorem dX0_fill_104 : decode cX0_fill 104 = .ok (.iconst 1, 1) := by decide +kernel
theorem dX0_fill_105 : decode cX0_fill 105 = .ok (.iadd, 1) := by decide +kernel
theorem dX0_fill_106 : decode cX0_fill 106 = .ok (.putfield 9, 3) := by decide +kernel
theorem dX0_fill_109 : decode cX0_fill 109 = .ok (.iload 5, 2) := by decide +kernel
theorem dX0_fill_111 : decode cX0_fill 111 = .ok (.istore_n 3, 1) := by decide +kernel
theorem dX0_fill_112 : decode cX0_fill 112 = .ok (.iinc 4 1, 3) := by decide +kernel
theorem dX0_fill_115 : decode cX0_fill 115 = .ok (.goto (-105), 3) := by decide +kernel
theorem dX0_fill_118 : decode cX0_fill 118 = .ok (.return_, 1) := by decide +kernel
theorem dX0_gapBehind_0 : decode cX0_gapBehind 0 = .ok (.aload_n 0, 1) := by decide +kernel
theorem dX0_gapBehind_1 : decode cX0_gapBehind 1 = .ok (.getfield 15, 3) := by decide +kernel
theorem dX0_gapBehind_4 : decode cX0_gapBehind 4 = .ok (.iload_n 1, 1) := by decide +kernel
theorem dX0_gapBehind_5 : decode cX0_gapBehind 5 = .ok (.iconst 1, 1) := by decide +kernel
theorem dX0_gapBehind_6 : decode cX0_gapBehind 6 = .ok (.iadd, 1) := by decide +kernel
theorem dX0_gapBehind_7 : decode cX0_gapBehind 7 = .ok (.iaload, 1) := by decide +kernel
theorem dX0_gapBehind_8 : decode cX0_gapBehind 8 = .ok (.aload_n 0, 1) := by decide +kernel
theorem dX0_gapBehind_9 : decode cX0_gapBehind 9 = .ok (.getfield 19, 3) := by decide +kernel
theorem dX0_gapBehind_12 : decode cX0_gapBehind 12 = .ok (.iload_n 1, 1) := by decide +kernel
theorem dX0_gapBehind_13 : decode cX0_gapBehind 13 = .ok (.iaload, 1) := by decide +kernel
theorem dX0_gapBehind_14 : decode cX0_gapBehind 14 = .ok (.isub, 1) := by decide +kernel
theorem dX0_gapBehind_15 : decode cX0_gapBehind 15 = .ok (.iconst 1, 1) := by decide +kernel
theorem dX0_gapBehind_16 : decode cX0_gapBehind 16 = .ok (.isub, 1) := by decide +kernel
theorem dX0_gapBehind_17 : decode cX0_gapBehind 17 = .ok (.ireturn, 1) := by decide +kernel
set_option maxRecDepth 20000 in
theorem ggX0_countGapsUpTo_X0_gapBehind : GoodIn wsX0_countGapsUpTo wsX0_gapBehind := goodIn_r _ [6, 7, 8, 9, 10, 11] (by decide +kernel) (by decide +kernel)
set_option maxRecDepth 20000 in
theorem gX0_countGapsUpTo_X0_gapBehind : GoodIn wsX0_countGapsUpTo (wsV RX0 40 RX0 yX0_gapBehind wsX0_gapBehind) := goodIn_app (goodIn_of _ (by decide +kernel)) ggX0_countGapsUpTo_X0_gapBehind
theorem dX0_countGapsUpTo_0 : decode cX0_countGapsUpTo 0 = .ok (.iconst 0, 1) := by decide +kernel
theorem dX0_countGapsUpTo_1 : decode cX0_countGapsUpTo 1 = .ok (.istore_n 2, 1) := by decide +kernel
theorem dX0_countGapsUpTo_2 : decode cX0_countGapsUpTo 2 = .ok (.iconst 0, 1) := by decide +kernel
theorem dX0_countGapsUpTo_3 : decode cX0_countGapsUpTo 3 = .ok (.istore_n 3, 1) := by decide +kernel
theorem dX0_countGapsUpTo_4 : decode cX0_countGapsUpTo 4 = .ok (.iload_n 3, 1) := by decide +kernel
theorem dX0_countGapsUpTo_5 : decode cX0_countGapsUpTo 5 = .ok (.iconst 1, 1) := by decide +kernel
theorem dX0_countGapsUpTo_6 : decode cX0_countGapsUpTo 6 = .ok (.iadd, 1) := by decide +kernel
theorem dX0_countGapsUpTo_7 : decode cX0_countGapsUpTo 7 = .ok (.aload_n 0, 1) := by decide +kernel
theorem dX0_countGapsUpTo_8 : decode cX0_countGapsUpTo 8 = .ok (.getfield 9, 3) := by decide +kernel
theorem dX0_countGapsUpTo_11 : decode cX0_countGapsUpTo 11 = .ok (.if_icmp .ge 21, 3) := by decide +kernel
theorem dX0_countGapsUpTo_14 : decode cX0_countGapsUpTo 14 = .ok (.aload_n 0, 1) := by decide +kernel
theorem dX0_countGapsUpTo_15 : decode cX0_countGapsUpTo 15 = .ok (.iload_n 3, 1) := by decide +kernel
theorem dX0_countGapsUpTo_16 : decode cX0_countGapsUpTo 16 = .ok (.invokevirtual 40, 3) := by decide +kernel
theorem dX0_countGapsUpTo_19 : decode cX0_countGapsUpTo 19 = .ok (.iload_n 1, 1) := by decide +kernel
theorem dX0_countGapsUpTo_20 : decode cX0_countGapsUpTo 20 = .ok (.if_icmp .gt 6, 3) := by decide +kernel
theorem dX0_countGapsUpTo_23 : decode cX0_countGapsUpTo 23 = .ok (.iinc 2 1, 3) := by decide +kernel
theorem dX0_countGapsUpTo_26 : decode cX0_countGapsUpTo 26 = .ok (.iinc 3 1, 3) := by decide +kernel
theorem dX0_countGapsUpTo_29 : decode cX0_countGapsUpTo 29 = .ok (.goto (-25), 3) := by decide +kernel
theorem dX0_countGapsUpTo_32 : decode cX0_countGapsUpTo 32 = .ok (.iload_n 2, 1) := by decide +kernel
theorem dX0_countGapsUpTo_33 : decode cX0_countGapsUpTo 33 = .ok (.ireturn, 1) := by decide +kernel
theorem dX0_countJoined_0 : decode cX0_countJoined 0 = .ok (.iconst 0, 1) := by decide +kernel
theorem dX0_countJoined_1 : decode cX0_countJoined 1 = .ok (.aload_n 0, 1) := by decide +kernel
theorem dX0_countJoined_2 : decode cX0_countJoined 2 = .ok (.getfield 9, 3) := by decide +kernel
theorem dX0_countJoined_5 : decode cX0_countJoined 5 = .ok (.iload_n 1, 1) := by decide +kernel
theorem dX0_countJoined_6 : decode cX0_countJoined 6 = .ok (.isub, 1) := by decide +kernel
theorem dX0_countJoined_7 : decode cX0_countJoined 7 = .ok (.invokestatic 43, 3) := by decide +kernel
theorem dX0_countJoined_10 : decode cX0_countJoined 10 = .ok (.ireturn, 1) := by decide +kernel
set_option maxRecDepth 20000 in
theorem ggX0_findLongestJoined_X0_countGapsUpTo : GoodIn wsX0_findLongestJoined wsX0_countGapsUpTo := goodIn_r _ [5, 6, 7, 8, 9, 4, 10, 11, 12, 13, 14, 15] (by decide +kernel) (by decide +kernel)
set_option maxRecDepth 20000 in
theorem gX0_findLongestJoined_X0_countGapsUpTo : GoodIn wsX0_findLongestJoined (wsV RX0 49 RX0 yX0_countGapsUpTo wsX0_countGapsUpTo) := goodIn_app (goodIn_of _ (by decide +kernel)) ggX0_findLongestJoined_X0_countGapsUpTo
theorem dX0_findLongestJoined_0 : decode cX0_findLongestJoined 0 = .ok (.iconst 0, 1) := by decide +kernel
theorem dX0_findLongestJoined_1 : decode cX0_findLongestJoined 1 = .ok (.istore_n 2, 1) := by decide +kernel
theorem dX0_findLongestJoined_2 : decode cX0_findLongestJoined 2 = .ok (.sipush 4096, 3) := by decide +kernel
theorem dX0_findLongestJoined_5 : decode cX0_findLongestJoined 5 = .ok (.istore_n 3, 1) := by decide +kernel
theorem dX0_findLongestJoined_6 : decode cX0_findLongestJoined 6 = .ok (.iload_n 2, 1) := by decide +kernel
theorem dX0_findLongestJoined_7 : decode cX0_findLongestJoined 7 = .ok (.iload_n 3, 1) := by decide +kernel
theorem dX0_findLongestJoined_8 : decode cX0_findLongestJoined 8 = .ok (.if_icmp .ge 34, 3) := by decide +kernel
theorem dX0_findLongestJoined_11 : decode cX0_findLongestJoined 11 = .ok (.iload_n 2, 1) := by decide +kernel
theorem dX0_findLongestJoined_12 : decode cX0_findLongestJoined 12 = .ok (.iload_n 3, 1) := by decide +kernel
theorem dX0_findLongestJoined_13 : decode cX0_findLongestJoined 13 = .ok (.iadd, 1) := by decide +kernel
theorem dX0_findLongestJoined_14 : decode cX0_findLongestJoined 14 = .ok (.iconst 2, 1) := by decide +kernel
theorem dX0_findLongestJoined_15 : decode cX0_findLongestJoined 15 = .ok (.idiv, 1) := by decide +kernel
theorem dX0_findLongestJoined_16 : decode cX0_findLongestJoined 16 = .ok (.istore 4, 2) := by decide +kernel
theorem dX0_findLongestJoined_18 : decode cX0_findLongestJoined 18 = .ok (.aload_n 0, 1) := by decide +kernel
theorem dX0_findLongestJoined_19 : decode cX0_findLongestJoined 19 = .ok (.iload 4, 2) := by decide +kernel
theorem dX0_findLongestJoined_21 : decode cX0_findLongestJoined 21 = .ok (.invokevirtual 49, 3) := by decide +kernel
theorem dX0_findLongestJoined_24 : decode cX0_findLongestJoined 24 = .ok (.iload_n 1, 1) := by decide +kernel
theorem dX0_findLongestJoined_25 : decode cX0_findLongestJoined 25 = .ok (.if_icmp .lt 9, 3) := by decide +kernel
theorem dX0_findLongestJoined_28 : decode cX0_findLongestJoined 28 = .ok (.iload 4, 2) := by decide +kernel
theorem dX0_findLongestJoined_30 : decode cX0_findLongestJoined 30 = .ok (.istore_n 3, 1) := by decide +kernel
theorem dX0_findLongestJoined_31 : decode cX0_findLongestJoined 31 = .ok (.goto 8, 3) := by decide +kernel
theorem dX0_findLongestJoined_34 : decode cX0_findLongestJoined 34 = .ok (.iload 4, 2) := by decide +kernel
theorem dX0_findLongestJoined_36 : decode cX0_findLongestJoined 36 = .ok (.iconst 1, 1) := by decide +kernel
theorem dX0_findLongestJoined_37 : decode cX0_findLongestJoined 37 = .ok (.iadd, 1) := by decide +kernel
theorem dX0_findLongestJoined_38 : decode cX0_findLongestJoined 38 = .ok (.istore_n 2, 1) := by decide +kernel
theorem dX0_findLongestJoined_39 : decode cX0_findLongestJoined 39 = .ok (.goto (-33), 3) := by decide +kernel
theorem dX0_findLongestJoined_42 : decode cX0_findLongestJoined 42 = .ok (.iload_n 2, 1) := by decide +kernel
theorem dX0_findLongestJoined_43 : decode cX0_findLongestJoined 43 = .ok (.ireturn, 1) := by decide +kernel
set_option maxRecDepth 20000 in
theorem ggX0_cellsOfJoinedGaps_X0_countJoined : GoodIn wsX0_cellsOfJoinedGaps wsX0_countJoined := goodIn_r _ [6, 1, 7, 8, 9, 10, 25, 26, 27] (by decide +kernel) (by decide +kernel)
set_option maxRecDepth 20000 in
theorem gX0_cellsOfJoinedGaps_X0_countJoined : GoodIn wsX0_cellsOfJoinedGaps (wsV RX0 52 RX0 yX0_countJoined wsX0_countJoined) := goodIn_app (goodIn_of _ (by decide +kernel)) ggX0_cellsOfJoinedGaps_X0_countJoined
set_option maxRecDepth 20000 in
theorem ggX0_cellsOfJoinedGaps_X0_findLongestJoined : GoodIn wsX0_cellsOfJoinedGaps wsX0_findLongestJoined := goodIn_r _ [14, 15, 16, 17, 5, 18, 1, 19, 20, 21, 22, 23, 24, 25, 26, 27] (by decide +kernel) (by decide +kernel)
set_option maxRecDepth 20000 in
theorem gX0_cellsOfJoinedGaps_X0_findLongestJoined : GoodIn wsX0_cellsOfJoinedGaps (wsV RX0 55 RX0 yX0_findLongestJoined wsX0_findLongestJoined) := goodIn_app (goodIn_of _ (by decide +kernel)) ggX0_cellsOfJoinedGaps_X0_findLongestJoined
set_option maxRecDepth 20000 in
theorem ggX0_cellsOfJoinedGaps_X0_gapBehind : GoodIn wsX0_cellsOfJoinedGaps wsX0_gapBehind := goodIn_r _ [22, 23, 24, 25, 26, 27] (by decide +kernel) (by decide +kernel)
set_option maxRecDepth 20000 in
theorem gX0_cellsOfJoinedGaps_X0_gapBehind : GoodIn wsX0_cellsOfJoinedGaps (wsV RX0 40 RX0 yX0_gapBehind wsX0_gapBehind) := goodIn_app (goodIn_of _ (by decide +kernel)) ggX0_cellsOfJoinedGaps_X0_gapBehind
theorem dX0_cellsOfJoinedGaps_0 : decode cX0_cellsOfJoinedGaps 0 = .ok (.aload_n 0, 1) := by decide +kernel
theorem dX0_cellsOfJoinedGaps_1 : decode cX0_cellsOfJoinedGaps 1 = .ok (.aload_n 0, 1) := by decide +kernel
theorem dX0_cellsOfJoinedGaps_2 : decode cX0_cellsOfJoinedGaps 2 = .ok (.iload_n 1, 1) := by decide +kernel
theorem dX0_cellsOfJoinedGaps_3 : decode cX0_cellsOfJoinedGaps 3 = .ok (.invokevirtual 52, 3) := by decide +kernel
theorem dX0_cellsOfJoinedGaps_6 : decode cX0_cellsOfJoinedGaps 6 = .ok (.invokevirtual 55, 3) := by decide +kernel
theorem dX0_cellsOfJoinedGaps_9 : decode cX0_cellsOfJoinedGaps 9 = .ok (.istore_n 2, 1) := by decide +kernel
theorem dX0_cellsOfJoinedGaps_10 : decode cX0_cellsOfJoinedGaps 10 = .ok (.iconst 0, 1) := by decide +kernel
theorem dX0_cellsOfJoinedGaps_11 : decode cX0_cellsOfJoinedGaps 11 = .ok (.istore_n 3, 1) := by decide +kernel
theorem dX0_cellsOfJoinedGaps_12 : decode cX0_cellsOfJoinedGaps 12 = .ok (.iconst 0, 1) := by decide +kernel
theorem dX0_cellsOfJoinedGaps_13 : decode cX0_cellsOfJoinedGaps 13 = .ok (.istore 4, 2) := by decide +kernel
theorem dX0_cellsOfJoinedGaps_15 : decode cX0_cellsOfJoinedGaps 15 = .ok (.iconst 0, 1) := by decide +kernel
theorem dX0_cellsOfJoinedGaps_16 : decode cX0_cellsOfJoinedGaps 16 = .ok (.istore 5, 2) := by decide +kernel
theorem dX0_cellsOfJoinedGaps_18 : decode cX0_cellsOfJoinedGaps 18 = .ok (.iload 5, 2) := by decide +kernel
theorem dX0_cellsOfJoinedGaps_20 : decode cX0_cellsOfJoinedGaps 20 = .ok (.iconst 1, 1) := by decide +kernel
theorem dX0_cellsOfJoinedGaps_21 : decode cX0_cellsOfJoinedGaps 21 = .ok (.iadd, 1) := by decide +kernel
theorem dX0_cellsOfJoinedGaps_22 : decode cX0_cellsOfJoinedGaps 22 = .ok (.aload_n 0, 1) := by decide +kernel
theorem dX0_cellsOfJoinedGaps_23 : decode cX0_cellsOfJoinedGaps 23 = .ok (.getfield 9, 3) := by decide +kernel
theorem dX0_cellsOfJoinedGaps_26 : decode cX0_cellsOfJoinedGaps 26 = .ok (.if_icmp .ge 33, 3) := by decide +kernel
theorem dX0_cellsOfJoinedGaps_29 : decode cX0_cellsOfJoinedGaps 29 = .ok (.aload_n 0, 1) := by decide +kernel
theorem dX0_cellsOfJoinedGaps_30 : decode cX0_cellsOfJoinedGaps 30 = .ok (.iload 5, 2) := by decide +kernel
theorem dX0_cellsOfJoinedGaps_32 : decode cX0_cellsOfJoinedGaps 32 = .ok (.invokevirtual 40, 3) := by decide +kernel
theorem dX0_cellsOfJoinedGaps_35 : decode cX0_cellsOfJoinedGaps 35 = .ok (.iload_n 2, 1) := by decide +kernel
theorem dX0_cellsOfJoinedGaps_36 : decode cX0_cellsOfJoinedGaps 36 = .ok (.if_icmp .ge 17, 3) := by decide +kernel
theorem dX0_cellsOfJoinedGaps_39 : decode cX0_cellsOfJoinedGaps 39 = .ok (.iinc 3 1, 3) := by decide +kernel
theorem dX0_cellsOfJoinedGaps_42 : decode cX0_cellsOfJoinedGaps 42 = .ok (.iload 4, 2) := by decide +kernel
theorem dX0_cellsOfJoinedGaps_44 : decode cX0_cellsOfJoinedGaps 44 = .ok (.aload_n 0, 1) := by decide +kernel
theorem dX0_cellsOfJoinedGaps_45 : decode cX0_cellsOfJoinedGaps 45 = .ok (.iload 5, 2) := by decide +kernel
theorem dX0_cellsOfJoinedGaps_47 : decode cX0_cellsOfJoinedGaps 47 = .ok (.invokevirtual 40, 3) := by decide +kernel
theorem dX0_cellsOfJoinedGaps_50 : decode cX0_cellsOfJoinedGaps 50 = .ok (.iadd, 1) := by decide +kernel
theorem dX0_cellsOfJoinedGaps_51 : decode cX0_cellsOfJoinedGaps 51 = .ok (.istore 4, 2) := by decide +kernel
theorem dX0_cellsOfJoinedGaps_53 : decode cX0_cellsOfJoinedGaps 53 = .ok (.iinc 5 1, 3) := by decide +kernel
theorem dX0_cellsOfJoinedGaps_56 : decode cX0_cellsOfJoinedGaps 56 = .ok (.goto (-38), 3) := by decide +kernel
theorem dX0_cellsOfJoinedGaps_59 : decode cX0_cellsOfJoinedGaps 59 = .ok (.iload 4, 2) := by decide +kernel
theorem dX0_cellsOfJoinedGaps_61 : decode cX0_cellsOfJoinedGaps 61 = .ok (.aload_n 0, 1) := by decide +kernel
theorem dX0_cellsOfJoinedGaps_62 : decode cX0_cellsOfJoinedGaps 62 = .ok (.iload_n 1, 1) := by decide +kernel
theorem dX0_cellsOfJoinedGaps_63 : decode cX0_cellsOfJoinedGaps 63 = .ok (.invokevirtual 52, 3) := by decide +kernel
theorem dX0_cellsOfJoinedGaps_66 : decode cX0_cellsOfJoinedGaps 66 = .ok (.iload_n 3, 1) := by decide +kernel
theorem dX0_cellsOfJoinedGaps_67 : decode cX0_cellsOfJoinedGaps 67 = .ok (.isub, 1) := by decide +kernel
theorem dX0_cellsOfJoinedGaps_68 : decode cX0_cellsOfJoinedGaps 68 = .ok (.iload_n 2, 1) := by decide +kernel
theorem dX0_cellsOfJoinedGaps_69 : decode cX0_cellsOfJoinedGaps 69 = .ok (.imul, 1) := by decide +kernel
theorem dX0_cellsOfJoinedGaps_70 : decode cX0_cellsOfJoinedGaps 70 = .ok (.iadd, 1) := by decide +kernel
theorem dX0_cellsOfJoinedGaps_71 : decode cX0_cellsOfJoinedGaps 71 = .ok (.ireturn, 1) := by decide +kernel
set_option maxRecDepth 20000 in
theorem ggX0_endOfJoined_X0_countJoined : GoodIn wsX0_endOfJoined wsX0_countJoined := goodIn_r _ [8, 1, 9, 10, 11, 12, 25, 26, 27] (by decide +kernel) (by decide +kernel)
set_option maxRecDepth 20000 in
theorem gX0_endOfJoined_X0_countJoined : GoodIn wsX0_endOfJoined (wsV RX0 52 RX0 yX0_countJoined wsX0_countJoined) := goodIn_app (goodIn_of _ (by decide +kernel)) ggX0_endOfJoined_X0_countJoined
set_option maxRecDepth 20000 in
theorem ggX0_endOfJoined_X0_findLongestJoined : GoodIn wsX0_endOfJoined wsX0_findLongestJoined := goodIn_r _ [16, 17, 18, 19, 7, 20, 1, 21, 22, 23, 24, 3, 2, 25, 26, 27] (by decide +kernel) (by decide +kernel)
set_option maxRecDepth 20000 in
theorem gX0_endOfJoined_X0_findLongestJoined : GoodIn wsX0_endOfJoined (wsV RX0 55 RX0 yX0_findLongestJoined wsX0_findLongestJoined) := goodIn_app (goodIn_of _ (by decide +kernel)) ggX0_endOfJoined_X0_findLongestJoined
set_option maxRecDepth 20000 in
theorem ggX0_endOfJoined_X0_countGapsUpTo : GoodIn wsX0_endOfJoined wsX0_countGapsUpTo := goodIn_r _ [20, 1, 21, 22, 23, 7, 24, 3, 2, 25, 26, 27] (by decide +kernel) (by decide +kernel)
set_option maxRecDepth 20000 in
theorem gX0_endOfJoined_X0_countGapsUpTo : GoodIn wsX0_endOfJoined (wsV RX0 49 RX0 yX0_countGapsUpTo wsX0_countGapsUpTo) := goodIn_app (goodIn_of _ (by decide +kernel)) ggX0_endOfJoined_X0_countGapsUpTo
set_option maxRecDepth 20000 in
theorem ggX0_endOfJoined_X0_gapBehind : GoodIn wsX0_endOfJoined wsX0_gapBehind := goodIn_r _ [24, 3, 2, 25, 26, 27] (by decide +kernel) (by decide +kernel)
set_option maxRecDepth 20000 in
theorem gX0_endOfJoined_X0_gapBehind : GoodIn wsX0_endOfJoined (wsV RX0 40 RX0 yX0_gapBehind wsX0_gapBehind) := goodIn_app (goodIn_of _ (by decide +kernel)) ggX0_endOfJoined_X0_gapBehind
theorem dX0_endOfJoined_0 : decode cX0_endOfJoined 0 = .ok (.aload_n 0, 1) := by decide +kernel
theorem dX0_endOfJoined_1 : decode cX0_endOfJoined 1 = .ok (.aload_n 0, 1) := by decide +kernel
theorem dX0_endOfJoined_2 : decode cX0_endOfJoined 2 = .ok (.iload_n 1, 1) := by decide +kernel
theorem dX0_endOfJoined_3 : decode cX0_endOfJoined 3 = .ok (.invokevirtual 52, 3) := by decide +kernel
theorem dX0_endOfJoined_6 : decode cX0_endOfJoined 6 = .ok (.invokevirtual 55, 3) := by decide +kernel
theorem dX0_endOfJoined_9 : decode cX0_endOfJoined 9 = .ok (.istore 4, 2) := by decide +kernel
theorem dX0_endOfJoined_11 : decode cX0_endOfJoined 11 = .ok (.aload_n 0, 1) := by decide +kernel
theorem dX0_endOfJoined_12 : decode cX0_endOfJoined 12 = .ok (.iload_n 1, 1) := by decide +kernel
theorem dX0_endOfJoined_13 : decode cX0_endOfJoined 13 = .ok (.invokevirtual 52, 3) := by decide +kernel
theorem dX0_endOfJoined_16 : decode cX0_endOfJoined 16 = .ok (.aload_n 0, 1) := by decide +kernel
theorem dX0_endOfJoined_17 : decode cX0_endOfJoined 17 = .ok (.iload 4, 2) := by decide +kernel
theorem dX0_endOfJoined_19 : decode cX0_endOfJoined 19 = .ok (.iconst 1, 1) := by decide +kernel
theorem dX0_endOfJoined_20 : decode cX0_endOfJoined 20 = .ok (.isub, 1) := by decide +kernel
theorem dX0_endOfJoined_21 : decode cX0_endOfJoined 21 = .ok (.invokevirtual 49, 3) := by decide +kernel
theorem dX0_endOfJoined_24 : decode cX0_endOfJoined 24 = .ok (.isub, 1) := by decide +kernel
theorem dX0_endOfJoined_25 : decode cX0_endOfJoined 25 = .ok (.istore 5, 2) := by decide +kernel
theorem dX0_endOfJoined_27 : decode cX0_endOfJoined 27 = .ok (.iconst 0, 1) := by decide +kernel
theorem dX0_endOfJoined_28 : decode cX0_endOfJoined 28 = .ok (.istore 6, 2) := by decide +kernel
theorem dX0_endOfJoined_30 : decode cX0_endOfJoined 30 = .ok (.iconst 0, 1) := by decide +kernel
theorem dX0_endOfJoined_31 : decode cX0_endOfJoined 31 = .ok (.istore 7, 2) := by decide +kernel
theorem dX0_endOfJoined_33 : decode cX0_endOfJoined 33 = .ok (.iconst 0, 1) := by decide +kernel
theorem dX0_endOfJoined_34 : decode cX0_endOfJoined 34 = .ok (.istore 8, 2) := by decide +kernel
theorem dX0_endOfJoined_36 : decode cX0_endOfJoined 36 = .ok (.iload 8, 2) := by decide +kernel
theorem dX0_endOfJoined_38 : decode cX0_endOfJoined 38 = .ok (.iconst 1, 1) := by decide +kernel
theorem dX0_endOfJoined_39 : decode cX0_endOfJoined 39 = .ok (.iadd, 1) := by decide +kernel
theorem dX0_endOfJoined_40 : decode cX0_endOfJoined 40 = .ok (.aload_n 0, 1) := by decide +kernel
theorem dX0_endOfJoined_41 : decode cX0_endOfJoined 41 = .ok (.getfield 9, 3) := by decide +kernel
theorem dX0_endOfJoined_44 : decode cX0_endOfJoined 44 = .ok (.if_icmp .ge 86, 3) := by decide +kernel
theorem dX0_endOfJoined_47 : decode cX0_endOfJoined 47 = .ok (.aload_n 0, 1) := by decide +kernel
theorem dX0_endOfJoined_48 : decode cX0_endOfJoined 48 = .ok (.iload 8, 2) := by decide +kernel
theorem dX0_endOfJoined_50 : decode cX0_endOfJoined 50 = .ok (.invokevirtual 40, 3) := by decide +kernel
theorem dX0_endOfJoined_53 : decode cX0_endOfJoined 53 = .ok (.istore 9, 2) := by decide +kernel
theorem dX0_endOfJoined_55 : decode cX0_endOfJoined 55 = .ok (.iload 9, 2) := by decide +kernel
theorem dX0_endOfJoined_57 : decode cX0_endOfJoined 57 = .ok (.iload 4, 2) := by decide +kernel
theorem dX0_endOfJoined_59 : decode cX0_endOfJoined 59 = .ok (.if_icmp .ne 6, 3) := by decide +kernel
theorem dX0_endOfJoined_62 : decode cX0_endOfJoined 62 = .ok (.iinc 5 (-1), 3) := by decide +kernel
theorem dX0_endOfJoined_65 : decode cX0_endOfJoined 65 = .ok (.iload 9, 2) := by decide +kernel
theorem dX0_endOfJoined_67 : decode cX0_endOfJoined 67 = .ok (.iload 4, 2) := by decide +kernel
theorem dX0_endOfJoined_69 : decode cX0_endOfJoined 69 = .ok (.if_icmp .lt 55, 3) := by decide +kernel
theorem dX0_endOfJoined_72 : decode cX0_endOfJoined 72 = .ok (.iload 9, 2) := by decide +kernel
theorem dX0_endOfJoined_74 : decode cX0_endOfJoined 74 = .ok (.iload 4, 2) := by decide +kernel
theorem dX0_endOfJoined_76 : decode cX0_endOfJoined 76 = .ok (.if_icmp .ne 11, 3) := by decide +kernel
theorem dX0_endOfJoined_79 : decode cX0_endOfJoined 79 = .ok (.iload 5, 2) := by decide +kernel
theorem dX0_endOfJoined_81 : decode cX0_endOfJoined 81 = .ok (.ifCond .lt 6, 3) := by decide +kernel
theorem dX0_endOfJoined_84 : decode cX0_endOfJoined 84 = .ok (.goto 40, 3) := by decide +kernel
theorem dX0_endOfJoined_87 : decode cX0_endOfJoined 87 = .ok (.iload 6, 2) := by decide +kernel
theorem dX0_endOfJoined_89 : decode cX0_endOfJoined 89 = .ok (.iload_n 2, 1) := by decide +kernel
theorem dX0_endOfJoined_90 : decode cX0_endOfJoined 90 = .ok (.if_icmp .ne 25, 3) := by decide +kernel
theorem dX0_endOfJoined_93 : decode cX0_endOfJoined 93 = .ok (.iload_n 3, 1) := by decide +kernel
theorem dX0_endOfJoined_94 : decode cX0_endOfJoined 94 = .ok (.ifCond .eq 13, 3) := by decide +kernel
theorem dX0_endOfJoined_97 : decode cX0_endOfJoined 97 = .ok (.aload_n 0, 1) := by decide +kernel
theorem dX0_endOfJoined_98 : decode cX0_endOfJoined 98 = .ok (.getfield 19, 3) := by decide +kernel
theorem dX0_endOfJoined_101 : decode cX0_endOfJoined 101 = .ok (.iload 8, 2) := by decide +kernel
theorem dX0_endOfJoined_103 : decode cX0_endOfJoined 103 = .ok (.iaload, 1) := by decide +kernel
theorem dX0_endOfJoined_104 : decode cX0_endOfJoined 104 = .ok (.goto 10, 3) := by decide +kernel
theorem dX0_endOfJoined_107 : decode cX0_endOfJoined 107 = .ok (.aload_n 0, 1) := by decide +kernel
theorem dX0_endOfJoined_108 : decode cX0_endOfJoined 108 = .ok (.getfield 15, 3) := by decide +kernel
theorem dX0_endOfJoined_111 : decode cX0_endOfJoined 111 = .ok (.iload 7, 2) := by decide +kernel
theorem dX0_endOfJoined_113 : decode cX0_endOfJoined 113 = .ok (.iaload, 1) := by decide +kernel
theorem dX0_endOfJoined_114 : decode cX0_endOfJoined 114 = .ok (.ireturn, 1) := by decide +kernel
theorem dX0_endOfJoined_115 : decode cX0_endOfJoined 115 = .ok (.iinc 6 1, 3) := by decide +kernel
theorem dX0_endOfJoined_118 : decode cX0_endOfJoined 118 = .ok (.iload 8, 2) := by decide +kernel
theorem dX0_endOfJoined_120 : decode cX0_endOfJoined 120 = .ok (.iconst 1, 1) := by decide +kernel
theorem dX0_endOfJoined_121 : decode cX0_endOfJoined 121 = .ok (.iadd, 1) := by decide +kernel
theorem dX0_endOfJoined_122 : decode cX0_endOfJoined 122 = .ok (.istore 7, 2) := by decide +kernel
theorem dX0_endOfJoined_124 : decode cX0_endOfJoined 124 = .ok (.iinc 8 1, 3) := by decide +kernel
theorem dX0_endOfJoined_127 : decode cX0_endOfJoined 127 = .ok (.goto (-91), 3) := by decide +kernel
theorem dX0_endOfJoined_130 : decode cX0_endOfJoined 130 = .ok (.iload_n 3, 1) := by decide +kernel
theorem dX0_endOfJoined_131 : decode cX0_endOfJoined 131 = .ok (.ifCond .eq 17, 3) := by decide +kernel
theorem dX0_endOfJoined_134 : decode cX0_endOfJoined 134 = .ok (.aload_n 0, 1) := by decide +kernel
theorem dX0_endOfJoined_135 : decode cX0_endOfJoined 135 = .ok (.getfield 19, 3) := by decide +kernel
theorem dX0_endOfJoined_138 : decode cX0_endOfJoined 138 = .ok (.aload_n 0, 1) := by decide +kernel
theorem dX0_endOfJoined_139 : decode cX0_endOfJoined 139 = .ok (.getfield 9, 3) := by decide +kernel
theorem dX0_endOfJoined_142 : decode cX0_endOfJoined 142 = .ok (.iconst 1, 1) := by decide +kernel
theorem dX0_endOfJoined_143 : decode cX0_endOfJoined 143 = .ok (.isub, 1) := by decide +kernel
theorem dX0_endOfJoined_144 : decode cX0_endOfJoined 144 = .ok (.iaload, 1) := by decide +kernel
theorem dX0_endOfJoined_145 : decode cX0_endOfJoined 145 = .ok (.goto 10, 3) := by decide +kernel
theorem dX0_endOfJoined_148 : decode cX0_endOfJoined 148 = .ok (.aload_n 0, 1) := by decide +kernel
theorem dX0_endOfJoined_149 : decode cX0_endOfJoined 149 = .ok (.getfield 15, 3) := by decide +kernel
theorem dX0_endOfJoined_152 : decode cX0_endOfJoined 152 = .ok (.iload 7, 2) := by decide +kernel
theorem dX0_endOfJoined_154 : decode cX0_endOfJoined 154 = .ok (.iaload, 1) := by decide +kernel
theorem dX0_endOfJoined_155 : decode cX0_endOfJoined 155 = .ok (.ireturn, 1) := by decide +kernel
theorem dX1_init_0 : decode cX1_init 0 = .ok (.aload_n 0, 1) := by decide +kernel
theorem dX1_init_1 : decode cX1_init 1 = .ok (.invokespecial 3, 3) := by decide +kernel
theorem dX1_init_4 : decode cX1_init 4 = .ok (.aload_n 0, 1) := by decide +kernel
theorem dX1_init_5 : decode cX1_init 5 = .ok (.iconst 1, 1) := by decide +kernel
theorem dX1_init_6 : decode cX1_init 6 = .ok (.putfield 9, 3) := by decide +kernel
theorem dX1_init_9 : decode cX1_init 9 = .ok (.aload_n 0, 1) := by decide +kernel
theorem dX1_init_10 : decode cX1_init 10 = .ok (.sipush 497, 3) := by decide +kernel
theorem dX1_init_13 : decode cX1_init 13 = .ok (.newarray .int, 2) := by decide +kernel
theorem dX1_init_15 : decode cX1_init 15 = .ok (.putfield 15, 3) := by decide +kernel
theorem dX1_init_18 : decode cX1_init 18 = .ok (.return_, 1) := by decide +kernel
set_option maxRecDepth 20000 in
theorem ggX1_fill_X1_countPoints : GoodIn wsX1_fill wsX1_countPoints := goodIn_r _ [8, 2, 9, 10, 11, 12, 13, 14, 15, 16, 17, 18, 19, 20, 21, 22, 23, 24, 25, 30, 31, 36, 37, 32, 33, 34, 35] (by decide +kernel) (by decide +kernel)
set_option maxRecDepth 20000 in
theorem gX1_fill_X1_countPoints : GoodIn wsX1_fill (wsV RX1 24 RX1 yX1_countPoints wsX1_countPoints) := goodIn_app (goodIn_of _ (by decide +kernel)) ggX1_fill_X1_countPoints
set_option maxRecDepth 20000 in
theorem ggX1_fill_X1_divide : GoodIn wsX1_fill wsX1_divide := goodIn_r _ [29, 2, 1, 30, 31] (by decide +kernel) (by decide +kernel)
set_option maxRecDepth 20000 in
theorem gX1_fill_X1_divide : GoodIn wsX1_fill (wsV RX1 28 RX1 yX1_divide wsX1_divide) := goodIn_app (goodIn_of _ (by decide +kernel)) ggX1_fill_X1_divide
theorem dX1_fill_0 : decode cX1_fill 0 = .ok (.aload_n 0, 1) := by decide +kernel
theorem dX1_fill_1 : decode cX1_fill 1 = .ok (.iconst 1, 1) := by decide +kernel
theorem dX1_fill_2 : decode cX1_fill 2 = .ok (.putfield 9, 3) := by decide +kernel
theorem dX1_fill_5 : decode cX1_fill 5 = .ok (.aload_n 0, 1) := by decide +kernel
theorem dX1_fill_6 : decode cX1_fill 6 = .ok (.getfield 15, 3) := by decide +kernel
theorem dX1_fill_9 : decode cX1_fill 9 = .ok (.iconst 0, 1) := by decide +kernel
theorem dX1_fill_10 : decode cX1_fill 10 = .ok (.iconst 0, 1) := by decide +kernel
theorem dX1_fill_11 : decode cX1_fill 11 = .ok (.iastore, 1) := by decide +kernel
theorem dX1_fill_12 : decode cX1_fill 12 = .ok (.aload_n 0, 1) := by decide +kernel
theorem dX1_fill_13 : decode cX1_fill 13 = .ok (.getfield 15, 3) := by decide +kernel
theorem dX1_fill_16 : decode cX1_fill 16 = .ok (.iconst 1, 1) := by decide +kernel
theorem dX1_fill_17 : decode cX1_fill 17 = .ok (.aload_n 1, 1) := by decide +kernel
theorem dX1_fill_18 : decode cX1_fill 18 = .ok (.getfield 19, 3) := by decide +kernel
theorem dX1_fill_21 : decode cX1_fill 21 = .ok (.iastore, 1) := by decide +kernel
theorem dX1_fill_22 : decode cX1_fill 22 = .ok (.iconst 0, 1) := by decide +kernel
theorem dX1_fill_23 : decode cX1_fill 23 = .ok (.istore 4, 2) := by decide +kernel
theorem dX1_fill_25 : decode cX1_fill 25 = .ok (.iconst 0, 1) := by decide +kernel
theorem dX1_fill_26 : decode cX1_fill 26 = .ok (.istore 5, 2) := by decide +kernel
theorem dX1_fill_28 : decode cX1_fill 28 = .ok (.iload 5, 2) := by decide +kernel
theorem dX1_fill_30 : decode cX1_fill 30 = .ok (.sipush 992, 3) := by decide +kernel
theorem dX1_fill_33 : decode cX1_fill 33 = .ok (.if_icmp .ge 42, 3) := by decide +kernel
theorem dX1_fill_36 : decode cX1_fill 36 = .ok (.iload 4, 2) := by decide +kernel
theorem dX1_fill_38 : decode cX1_fill 38 = .ok (.aload_n 0, 1) := by decide +kernel
theorem dX1_fill_39 : decode cX1_fill 39 = .ok (.getfield 9, 3) := by decide +kernel
theorem dX1_fill_42 : decode cX1_fill 42 = .ok (.if_icmp .ge 33, 3) := by decide +kernel
theorem dX1_fill_45 : decode cX1_fill 45 = .ok (.aload_n 0, 1) := by decide +kernel
theorem dX1_fill_46 : decode cX1_fill 46 = .ok (.iload 4, 2) := by decide +kernel
theorem dX1_fill_48 : decode cX1_fill 48 = .ok (.aload_n 1, 1) := by decide +kernel
theorem dX1_fill_49 : decode cX1_fill 49 = .ok (.aload_n 2, 1) := by decide +kernel
theorem dX1_fill_50 : decode cX1_fill 50 = .ok (.invokevirtual 24, 3) := by decide +kernel
theorem dX1_fill_53 : decode cX1_fill 53 = .ok (.iload_n 3, 1) := by decide +kernel
theorem dX1_fill_54 : decode cX1_fill 54 = .ok (.if_icmp .le 12, 3) := by decide +kernel
theorem dX1_fill_57 : decode cX1_fill 57 = .ok (.aload_n 0, 1) := by decide +kernel
theorem dX1_fill_58 : decode cX1_fill 58 = .ok (.iload 4, 2) := by decide +kernel
theorem dX1_fill_60 : decode cX1_fill 60 = .ok (.invokevirtual 28, 3) := by decide +kernel
theorem dX1_fill_63 : decode cX1_fill 63 = .ok (.ifCond .ne 6, 3) := by decide +kernel
theorem dX1_fill_66 : decode cX1_fill 66 = .ok (.iinc 4 1, 3) := by decide +kernel
theorem dX1_fill_69 : decode cX1_fill 69 = .ok (.iinc 5 1, 3) := by decide +kernel
theorem dX1_fill_72 : decode cX1_fill 72 = .ok (.goto (-44), 3) := by decide +kernel
theorem dX1_fill_75 : decode cX1_fill 75 = .ok (.return_, 1) := by decide +kernel
theorem dX1_divide_0 : decode cX1_divide 0 = .ok (.aload_n 0, 1) := by decide +kernel
theorem dX1_divide_1 : decode cX1_divide 1 = .ok (.getfield 15, 3) := by decide +kernel
theorem dX1_divide_4 : decode cX1_divide 4 = .ok (.iload_n 1, 1) := by decide +kernel
theorem dX1_divide_5 : decode cX1_divide 5 = .ok (.iconst 1, 1) := by decide +kernel
theorem dX1_divide_6 : decode cX1_divide 6 = .ok (.iadd, 1) := by decide +kernel
theorem dX1_divide_7 : decode cX1_divide 7 = .ok (.iaload, 1) := by decide +kernel
theorem dX1_divide_8 : decode cX1_divide 8 = .ok (.aload_n 0, 1) := by decide +kernel
theorem dX1_divide_9 : decode cX1_divide 9 = .ok (.getfield 15, 3) := by decide +kernel
theorem dX1_divide_12 : decode cX1_divide 12 = .ok (.iload_n 1, 1) := by decide +kernel
theorem dX1_divide_13 : decode cX1_divide 13 = .ok (.iaload, 1) := by decide +kernel
theorem dX1_divide_14 : decode cX1_divide 14 = .ok (.isub, 1) := by decide +kernel
theorem dX1_divide_15 : decode cX1_divide 15 = .ok (.iconst 4, 1) := by decide +kernel
theorem dX1_divide_16 : decode cX1_divide 16 = .ok (.idiv, 1) := by decide +kernel
theorem dX1_divide_17 : decode cX1_divide 17 = .ok (.istore_n 2, 1) := by decide +kernel
theorem dX1_divide_18 : decode cX1_divide 18 = .ok (.iload_n 2, 1) := by decide +kernel
theorem dX1_divide_19 : decode cX1_divide 19 = .ok (.iconst 1, 1) := by decide +kernel
theorem dX1_divide_20 : decode cX1_divide 20 = .ok (.if_icmp .lt 15, 3) := by decide +kernel
theorem dX1_divide_23 : decode cX1_divide 23 = .ok (.aload_n 0, 1) := by decide +kernel
theorem dX1_divide_24 : decode cX1_divide 24 = .ok (.getfield 9, 3) := by decide +kernel
theorem dX1_divide_27 : decode cX1_divide 27 = .ok (.iconst 3, 1) := by decide +kernel
theorem dX1_divide_28 : decode cX1_divide 28 = .ok (.iadd, 1) := by decide +kernel
theorem dX1_divide_29 : decode cX1_divide 29 = .ok (.sipush 496, 3) := by decide +kernel
theorem dX1_divide_32 : decode cX1_divide 32 = .ok (.if_icmp .le 5, 3) := by decide +kernel
theorem dX1_divide_35 : decode cX1_divide 35 = .ok (.iconst 0, 1) := by decide +kernel
theorem dX1_divide_36 : decode cX1_divide 36 = .ok (.ireturn, 1) := by decide +kernel
theorem dX1_divide_37 : decode cX1_divide 37 = .ok (.aload_n 0, 1) := by decide +kernel
theorem dX1_divide_38 : decode cX1_divide 38 = .ok (.getfield 9, 3) := by decide +kernel
theorem dX1_divide_41 : decode cX1_divide 41 = .ok (.istore_n 3, 1) := by decide +kernel
theorem dX1_divide_42 : decode cX1_divide 42 = .ok (.iload_n 3, 1) := by decide +kernel
theorem dX1_divide_43 : decode cX1_divide 43 = .ok (.iload_n 1, 1) := by decide +kernel
theorem dX1_divide_44 : decode cX1_divide 44 = .ok (.if_icmp .le 23, 3) := by decide +kernel
theorem dX1_divide_47 : decode cX1_divide 47 = .ok (.aload_n 0, 1) := by decide +kernel
theorem dX1_divide_48 : decode cX1_divide 48 = .ok (.getfield 15, 3) := by decide +kernel
theorem dX1_divide_51 : decode cX1_divide 51 = .ok (.iload_n 3, 1) := by decide +kernel
theorem dX1_divide_52 : decode cX1_divide 52 = .ok (.iconst 3, 1) := by decide +kernel
theorem dX1_divide_53 : decode cX1_divide 53 = .ok (.iadd, 1) := by decide +kernel
theorem dX1_divide_54 : decode cX1_divide 54 = .ok (.aload_n 0, 1) := by decide +kernel
theorem dX1_divide_55 : decode cX1_divide 55 = .ok (.getfield 15, 3) := by decide +kernel
theorem dX1_divide_58 : decode cX1_divide 58 = .ok (.iload_n 3, 1) := by decide +kernel
theorem dX1_divide_59 : decode cX1_divide 59 = .ok (.iaload, 1) := by decide +kernel
theorem dX1_divide_60 : decode cX1_divide 60 = .ok (.iastore, 1) := by decide +kernel
theorem dX1_divide_61 : decode cX1_divide 61 = .ok (.iinc 3 (-1), 3) := by decide +kernel
theorem dX1_divide_64 : decode cX1_divide 64 = .ok (.goto (-22), 3) := by decide +kernel
theorem dX1_divide_67 : decode cX1_divide 67 = .ok (.iconst 1, 1) := by decide +kernel
theorem dX1_divide_68 : decode cX1_divide 68 = .ok (.istore_n 3, 1) := by decide +kernel
theorem dX1_divide_69 : decode cX1_divide 69 = .ok (.iload_n 3, 1) := by decide +kernel
theorem dX1_divide_70 : decode cX1_divide 70 = .ok (.iconst 4, 1) := by decide +kernel
theorem dX1_divide_71 : decode cX1_divide 71 = .ok (.if_icmp .ge 27, 3) := by decide +kernel
theorem dX1_divide_74 : decode cX1_divide 74 = .ok (.aload_n 0, 1) := by decide +kernel
theorem dX1_divide_75 : decode cX1_divide 75 = .ok (.getfield 15, 3) := by decide +kernel
theorem dX1_divide_78 : decode cX1_divide 78 = .ok (.iload_n 1, 1) := by decide +kernel
theorem dX1_divide_79 : decode cX1_divide 79 = .ok (.iload_n 3, 1) := by decide +kernel
theorem dX1_divide_80 : decode cX1_divide 80 = .ok (.iadd, 1) := by decide +kernel
theorem dX1_divide_81 : decode cX1_divide 81 = .ok (.aload_n 0, 1) := by decide +kernel
theorem dX1_divide_82 : decode cX1_divide 82 = .ok (.getfield 15, 3) := by decide +kernel
theorem dX1_divide_85 : decode cX1_divide 85 = .ok (.iload_n 1, 1) := by decide +kernel
theorem dX1_divide_86 : decode cX1_divide 86 = .ok (.iaload, 1) := by decide +kernel
theorem dX1_divide_87 : decode cX1_divide 87 = .ok (.iload_n 3, 1) := by decide +kernel
theorem dX1_divide_88 : decode cX1_divide 88 = .ok (.iload_n 2, 1) := by decide +kernel
theorem dX1_divide_89 : decode cX1_divide 89 = .ok (.imul, 1) := by decide +kernel
theorem dX1_divide_90 : decode cX1_divide 90 = .ok (.iadd, 1) := by decide +kernel
theorem dX1_divide_91 : decode cX1_divide 91 = .ok (.iastore, 1) := by decide +kernel
theorem dX1_divide_92 : decode cX1_divide 92 = .ok (.iinc 3 1, 3) := by decide +kernel
theorem dX1_divide_95 : decode cX1_divide 95 = .ok (.goto (-26), 3) := by decide +kernel
theorem dX1_divide_98 : decode cX1_divide 98 = .ok (.aload_n 0, 1) := by decide +kernel
theorem dX1_divide_99 : decode cX1_divide 99 = .ok (.dup, 1) := by decide +kernel
theorem dX1_divide_100 : decode cX1_divide 100 = .ok (.getfield 9, 3) := by decide +kernel
theorem dX1_divide_103 : decode cX1_divide 103 = .ok (.iconst 3, 1) := by decide +kernel
theorem dX1_divide_104 : decode cX1_divide 104 = .ok (.iadd, 1) := by decide +kernel
theorem dX1_divide_105 : decode cX1_divide 105 = .ok (.putfield 9, 3) := by decide +kernel
theorem dX1_divide_108 : decode cX1_divide 108 = .ok (.iconst 1, 1) := by decide +kernel
theorem dX1_divide_109 : decode cX1_divide 109 = .ok (.ireturn, 1) := by decide +kernel
theorem dX1_sideOf_0 : decode cX1_sideOf 0 = .ok (.aload_n 0, 1) := by decide +kernel
theorem dX1_sideOf_1 : decode cX1_sideOf 1 = .ok (.getfield 15, 3) := by decide +kernel
theorem dX1_sideOf_4 : decode cX1_sideOf 4 = .ok (.iload_n 1, 1) := by decide +kernel
theorem dX1_sideOf_5 : decode cX1_sideOf 5 = .ok (.iconst 1, 1) := by decide +kernel
theorem dX1_sideOf_6 : decode cX1_sideOf 6 = .ok (.iadd, 1) := by decide +kernel
theorem dX1_sideOf_7 : decode cX1_sideOf 7 = .ok (.iaload, 1) := by decide +kernel
theorem dX1_sideOf_8 : decode cX1_sideOf 8 = .ok (.aload_n 0, 1) := by decide +kernel
theorem dX1_sideOf_9 : decode cX1_sideOf 9 = .ok (.getfield 15, 3) := by decide +kernel
theorem dX1_sideOf_12 : decode cX1_sideOf 12 = .ok (.iload_n 1, 1) := by decide +kernel
theorem dX1_sideOf_13 : decode cX1_sideOf 13 = .ok (.iaload, 1) := by decide +kernel
theorem dX1_sideOf_14 : decode cX1_sideOf 14 = .ok (.isub, 1) := by decide +kernel
theorem dX1_sideOf_15 : decode cX1_sideOf 15 = .ok (.istore_n 2, 1) := by decide +kernel
theorem dX1_sideOf_16 : decode cX1_sideOf 16 = .ok (.iconst 1, 1) := by decide +kernel
theorem dX1_sideOf_17 : decode cX1_sideOf 17 = .ok (.istore_n 3, 1) := by decide +kernel
theorem dX1_sideOf_18 : decode cX1_sideOf 18 = .ok (.iload_n 3, 1) := by decide +kernel
theorem dX1_sideOf_19 : decode cX1_sideOf 19 = .ok (.bipush 64, 2) := by decide +kernel
theorem dX1_sideOf_21 : decode cX1_sideOf 21 = .ok (.if_icmp .ge 17, 3) := by decide +kernel
theorem dX1_sideOf_24 : decode cX1_sideOf 24 = .ok (.iload_n 3, 1) := by decide +kernel
theorem dX1_sideOf_25 : decode cX1_sideOf 25 = .ok (.iload_n 3, 1) := by decide +kernel
theorem dX1_sideOf_26 : decode cX1_sideOf 26 = .ok (.imul, 1) := by decide +kernel
theorem dX1_sideOf_27 : decode cX1_sideOf 27 = .ok (.iload_n 2, 1) := by decide +kernel
theorem dX1_sideOf_28 : decode cX1_sideOf 28 = .ok (.if_icmp .ge 10, 3) := by decide +kernel
theorem dX1_sideOf_31 : decode cX1_sideOf 31 = .ok (.iload_n 3, 1) := by decide +kernel
theorem dX1_sideOf_32 : decode cX1_sideOf 32 = .ok (.iconst 2, 1) := by decide +kernel
theorem dX1_sideOf_33 : decode cX1_sideOf 33 = .ok (.imul, 1) := by decide +kernel
theorem dX1_sideOf_34 : decode cX1_sideOf 34 = .ok (.istore_n 3, 1) := by decide +kernel
theorem dX1_sideOf_35 : decode cX1_sideOf 35 = .ok (.goto (-17), 3) := by decide +kernel
theorem dX1_sideOf_38 : decode cX1_sideOf 38 = .ok (.iload_n 3, 1) := by decide +kernel
theorem dX1_sideOf_39 : decode cX1_sideOf 39 = .ok (.ireturn, 1) := by decide +kernel
end
section
set_option maxRecDepth 20000 in
theorem ggX1_countPoints_X3_countBetween : GoodIn wsX1_countPoints wsX3_countBetween := goodIn_r _ [6, 7, 8, 9, 10, 5, 11, 12, 13, 14, 15, 16, 17, 18, 21, 22, 23, 24, 25, 26] (by decide +kernel) (by decide +kernel)
set_option maxRecDepth 20000 in
theorem gX1_countPoints_X3_countBetween : GoodIn wsX1_countPoints (wsV RX1 32 RX3 yX3_countBetween wsX3_countBetween) := goodIn_app (goodIn_of _ (by decide +kernel)) ggX1_countPoints_X3_countBetween
theorem dX1_countPoints_0 : decode cX1_countPoints 0 = .ok (.aload_n 3, 1) := by decide +kernel
theorem dX1_countPoints_1 : decode cX1_countPoints 1 = .ok (.aload_n 0, 1) := by decide +kernel
theorem dX1_countPoints_2 : decode cX1_countPoints 2 = .ok (.getfield 15, 3) := by decide +kernel
theorem dX1_countPoints_5 : decode cX1_countPoints 5 = .ok (.iload_n 1, 1) := by decide +kernel
theorem dX1_countPoints_6 : decode cX1_countPoints 6 = .ok (.iaload, 1) := by decide +kernel
theorem dX1_countPoints_7 : decode cX1_countPoints 7 = .ok (.aload_n 0, 1) := by decide +kernel
theorem dX1_countPoints_8 : decode cX1_countPoints 8 = .ok (.getfield 15, 3) := by decide +kernel
theorem dX1_countPoints_11 : decode cX1_countPoints 11 = .ok (.iload_n 1, 1) := by decide +kernel
theorem dX1_countPoints_12 : decode cX1_countPoints 12 = .ok (.iconst 1, 1) := by decide +kernel
theorem dX1_countPoints_13 : decode cX1_countPoints 13 = .ok (.iadd, 1) := by decide +kernel
theorem dX1_countPoints_14 : decode cX1_countPoints 14 = .ok (.iaload, 1) := by decide +kernel
theorem dX1_countPoints_15 : decode cX1_countPoints 15 = .ok (.aload_n 2, 1) := by decide +kernel
theorem dX1_countPoints_16 : decode cX1_countPoints 16 = .ok (.invokevirtual 32, 3) := by decide +kernel
theorem dX1_countPoints_19 : decode cX1_countPoints 19 = .ok (.ireturn, 1) := by decide +kernel
theorem dX1_leafOfIndex_0 : decode cX1_leafOfIndex 0 = .ok (.iconst 0, 1) := by decide +kernel
theorem dX1_leafOfIndex_1 : decode cX1_leafOfIndex 1 = .ok (.istore_n 2, 1) := by decide +kernel
theorem dX1_leafOfIndex_2 : decode cX1_leafOfIndex 2 = .ok (.aload_n 0, 1) := by decide +kernel
theorem dX1_leafOfIndex_3 : decode cX1_leafOfIndex 3 = .ok (.getfield 9, 3) := by decide +kernel
theorem dX1_leafOfIndex_6 : decode cX1_leafOfIndex 6 = .ok (.iconst 1, 1) := by decide +kernel
theorem dX1_leafOfIndex_7 : decode cX1_leafOfIndex 7 = .ok (.isub, 1) := by decide +kernel
theorem dX1_leafOfIndex_8 : decode cX1_leafOfIndex 8 = .ok (.istore_n 3, 1) := by decide +kernel
theorem dX1_leafOfIndex_9 : decode cX1_leafOfIndex 9 = .ok (.iload_n 2, 1) := by decide +kernel
theorem dX1_leafOfIndex_10 : decode cX1_leafOfIndex 10 = .ok (.iload_n 3, 1) := by decide +kernel
theorem dX1_leafOfIndex_11 : decode cX1_leafOfIndex 11 = .ok (.if_icmp .ge 37, 3) := by decide +kernel
theorem dX1_leafOfIndex_14 : decode cX1_leafOfIndex 14 = .ok (.iload_n 2, 1) := by decide +kernel
theorem dX1_leafOfIndex_15 : decode cX1_leafOfIndex 15 = .ok (.iload_n 3, 1) := by decide +kernel
theorem dX1_leafOfIndex_16 : decode cX1_leafOfIndex 16 = .ok (.iadd, 1) := by decide +kernel
theorem dX1_leafOfIndex_17 : decode cX1_leafOfIndex 17 = .ok (.iconst 1, 1) := by decide +kernel
theorem dX1_leafOfIndex_18 : decode cX1_leafOfIndex 18 = .ok (.iadd, 1) := by decide +kernel
theorem dX1_leafOfIndex_19 : decode cX1_leafOfIndex 19 = .ok (.iconst 2, 1) := by decide +kernel
theorem dX1_leafOfIndex_20 : decode cX1_leafOfIndex 20 = .ok (.idiv, 1) := by decide +kernel
theorem dX1_leafOfIndex_21 : decode cX1_leafOfIndex 21 = .ok (.istore 4, 2) := by decide +kernel
theorem dX1_leafOfIndex_23 : decode cX1_leafOfIndex 23 = .ok (.aload_n 0, 1) := by decide +kernel
theorem dX1_leafOfIndex_24 : decode cX1_leafOfIndex 24 = .ok (.getfield 15, 3) := by decide +kernel
theorem dX1_leafOfIndex_27 : decode cX1_leafOfIndex 27 = .ok (.iload 4, 2) := by decide +kernel
theorem dX1_leafOfIndex_29 : decode cX1_leafOfIndex 29 = .ok (.iaload, 1) := by decide +kernel
theorem dX1_leafOfIndex_30 : decode cX1_leafOfIndex 30 = .ok (.iload_n 1, 1) := by decide +kernel
theorem dX1_leafOfIndex_31 : decode cX1_leafOfIndex 31 = .ok (.if_icmp .gt 9, 3) := by decide +kernel
theorem dX1_leafOfIndex_34 : decode cX1_leafOfIndex 34 = .ok (.iload 4, 2) := by decide +kernel
theorem dX1_leafOfIndex_36 : decode cX1_leafOfIndex 36 = .ok (.istore_n 2, 1) := by decide +kernel
theorem dX1_leafOfIndex_37 : decode cX1_leafOfIndex 37 = .ok (.goto 8, 3) := by decide +kernel
theorem dX1_leafOfIndex_40 : decode cX1_leafOfIndex 40 = .ok (.iload 4, 2) := by decide +kernel
theorem dX1_leafOfIndex_42 : decode cX1_leafOfIndex 42 = .ok (.iconst 1, 1) := by decide +kernel
theorem dX1_leafOfIndex_43 : decode cX1_leafOfIndex 43 = .ok (.isub, 1) := by decide +kernel
theorem dX1_leafOfIndex_44 : decode cX1_leafOfIndex 44 = .ok (.istore_n 3, 1) := by decide +kernel
theorem dX1_leafOfIndex_45 : decode cX1_leafOfIndex 45 = .ok (.goto (-36), 3) := by decide +kernel
theorem dX1_leafOfIndex_48 : decode cX1_leafOfIndex 48 = .ok (.iload_n 2, 1) := by decide +kernel
theorem dX1_leafOfIndex_49 : decode cX1_leafOfIndex 49 = .ok (.ireturn, 1) := by decide +kernel
theorem dX1_copyFrom_0 : decode cX1_copyFrom 0 = .ok (.aload_n 0, 1) := by decide +kernel
theorem dX1_copyFrom_1 : decode cX1_copyFrom 1 = .ok (.aload_n 1, 1) := by decide +kernel
theorem dX1_copyFrom_2 : decode cX1_copyFrom 2 = .ok (.getfield 9, 3) := by decide +kernel
theorem dX1_copyFrom_5 : decode cX1_copyFrom 5 = .ok (.putfield 9, 3) := by decide +kernel
theorem dX1_copyFrom_8 : decode cX1_copyFrom 8 = .ok (.aload_n 1, 1) := by decide +kernel
theorem dX1_copyFrom_9 : decode cX1_copyFrom 9 = .ok (.getfield 15, 3) := by decide +kernel
theorem dX1_copyFrom_12 : decode cX1_copyFrom 12 = .ok (.iconst 0, 1) := by decide +kernel
theorem dX1_copyFrom_13 : decode cX1_copyFrom 13 = .ok (.aload_n 0, 1) := by decide +kernel
theorem dX1_copyFrom_14 : decode cX1_copyFrom 14 = .ok (.getfield 15, 3) := by decide +kernel
theorem dX1_copyFrom_17 : decode cX1_copyFrom 17 = .ok (.iconst 0, 1) := by decide +kernel
theorem dX1_copyFrom_18 : decode cX1_copyFrom 18 = .ok (.aload_n 0, 1) := by decide +kernel
theorem dX1_copyFrom_19 : decode cX1_copyFrom 19 = .ok (.getfield 15, 3) := by decide +kernel
theorem dX1_copyFrom_22 : decode cX1_copyFrom 22 = .ok (.arraylength, 1) := by decide +kernel
theorem dX1_copyFrom_23 : decode cX1_copyFrom 23 = .ok (.invokestatic 38, 3) := by decide +kernel
theorem dX1_copyFrom_26 : decode cX1_copyFrom 26 = .ok (.return_, 1) := by decide +kernel
theorem dX2_init_0 : decode cX2_init 0 = .ok (.aload_n 0, 1) := by decide +kernel
theorem dX2_init_1 : decode cX2_init 1 = .ok (.invokespecial 3, 3) := by decide +kernel
theorem dX2_init_4 : decode cX2_init 4 = .ok (.aload_n 0, 1) := by decide +kernel
theorem dX2_init_5 : decode cX2_init 5 = .ok (.iconst 1, 1) := by decide +kernel
theorem dX2_init_6 : decode cX2_init 6 = .ok (.putfield 9, 3) := by decide +kernel
theorem dX2_init_9 : decode cX2_init 9 = .ok (.aload_n 0, 1) := by decide +kernel
theorem dX2_init_10 : decode cX2_init 10 = .ok (.iconst 1, 1) := by decide +kernel
theorem dX2_init_11 : decode cX2_init 11 = .ok (.putfield 15, 3) := by decide +kernel
theorem dX2_init_14 : decode cX2_init 14 = .ok (.aload_n 0, 1) := by decide +kernel
theorem dX2_init_15 : decode cX2_init 15 = .ok (.sipush 4096, 3) := by decide +kernel
theorem dX2_init_18 : decode cX2_init 18 = .ok (.newarray .int, 2) := by decide +kernel
theorem dX2_init_20 : decode cX2_init 20 = .ok (.putfield 18, 3) := by decide +kernel
theorem dX2_init_23 : decode cX2_init 23 = .ok (.aload_n 0, 1) := by decide +kernel
theorem dX2_init_24 : decode cX2_init 24 = .ok (.sipush 4096, 3) := by decide +kernel
theorem dX2_init_27 : decode cX2_init 27 = .ok (.newarray .int, 2) := by decide +kernel
theorem dX2_init_29 : decode cX2_init 29 = .ok (.putfield 22, 3) := by decide +kernel
theorem dX2_init_32 : decode cX2_init 32 = .ok (.return_, 1) := by decide +kernel
set_option maxRecDepth 20000 in
theorem ggX2_fill_X2_divideSquares : GoodIn wsX2_fill wsX2_divideSquares := goodIn_r _ [9, 3, 10, 11, 12, 13] (by decide +kernel) (by decide +kernel)
set_option maxRecDepth 20000 in
theorem gX2_fill_X2_divideSquares : GoodIn wsX2_fill (wsV RX2 25 RX2 yX2_divideSquares wsX2_divideSquares) := goodIn_app (goodIn_of _ (by decide +kernel)) ggX2_fill_X2_divideSquares
theorem dX2_fill_0 : decode cX2_fill 0 = .ok (.aload_n 0, 1) := by decide +kernel
theorem dX2_fill_1 : decode cX2_fill 1 = .ok (.iconst 1, 1) := by decide +kernel
theorem dX2_fill_2 : decode cX2_fill 2 = .ok (.iload_n 1, 1) := by decide +kernel
theorem dX2_fill_3 : decode cX2_fill 3 = .ok (.ishl, 1) := by decide +kernel
theorem dX2_fill_4 : decode cX2_fill 4 = .ok (.putfield 9, 3) := by decide +kernel
theorem dX2_fill_7 : decode cX2_fill 7 = .ok (.aload_n 0, 1) := by decide +kernel
theorem dX2_fill_8 : decode cX2_fill 8 = .ok (.aload_n 0, 1) := by decide +kernel
theorem dX2_fill_9 : decode cX2_fill 9 = .ok (.getfield 9, 3) := by decide +kernel
theorem dX2_fill_12 : decode cX2_fill 12 = .ok (.aload_n 0, 1) := by decide +kernel
theorem dX2_fill_13 : decode cX2_fill 13 = .ok (.getfield 9, 3) := by decide +kernel
theorem dX2_fill_16 : decode cX2_fill 16 = .ok (.imul, 1) := by decide +kernel
theorem dX2_fill_17 : decode cX2_fill 17 = .ok (.putfield 15, 3) := by decide +kernel
theorem dX2_fill_20 : decode cX2_fill 20 = .ok (.aload_n 0, 1) := by decide +kernel
theorem dX2_fill_21 : decode cX2_fill 21 = .ok (.getfield 18, 3) := by decide +kernel
theorem dX2_fill_24 : decode cX2_fill 24 = .ok (.iconst 0, 1) := by decide +kernel
theorem dX2_fill_25 : decode cX2_fill 25 = .ok (.iconst 0, 1) := by decide +kernel
theorem dX2_fill_26 : decode cX2_fill 26 = .ok (.iastore, 1) := by decide +kernel
theorem dX2_fill_27 : decode cX2_fill 27 = .ok (.iconst 0, 1) := by decide +kernel
theorem dX2_fill_28 : decode cX2_fill 28 = .ok (.istore_n 3, 1) := by decide +kernel
theorem dX2_fill_29 : decode cX2_fill 29 = .ok (.iload_n 3, 1) := by decide +kernel
theorem dX2_fill_30 : decode cX2_fill 30 = .ok (.iload_n 1, 1) := by decide +kernel
theorem dX2_fill_31 : decode cX2_fill 31 = .ok (.if_icmp .ge 27, 3) := by decide +kernel
theorem dX2_fill_34 : decode cX2_fill 34 = .ok (.aload_n 0, 1) := by decide +kernel
theorem dX2_fill_35 : decode cX2_fill 35 = .ok (.iconst 1, 1) := by decide +kernel
theorem dX2_fill_36 : decode cX2_fill 36 = .ok (.iconst 2, 1) := by decide +kernel
theorem dX2_fill_37 : decode cX2_fill 37 = .ok (.iload_n 3, 1) := by decide +kernel
theorem dX2_fill_38 : decode cX2_fill 38 = .ok (.imul, 1) := by decide +kernel
theorem dX2_fill_39 : decode cX2_fill 39 = .ok (.ishl, 1) := by decide +kernel
theorem dX2_fill_40 : decode cX2_fill 40 = .ok (.aload_n 0, 1) := by decide +kernel
theorem dX2_fill_41 : decode cX2_fill 41 = .ok (.getfield 9, 3) := by decide +kernel
theorem dX2_fill_44 : decode cX2_fill 44 = .ok (.iload_n 3, 1) := by decide +kernel
theorem dX2_fill_45 : decode cX2_fill 45 = .ok (.iconst 1, 1) := by decide +kernel
theorem dX2_fill_46 : decode cX2_fill 46 = .ok (.iadd, 1) := by decide +kernel
theorem dX2_fill_47 : decode cX2_fill 47 = .ok (.ishr, 1) := by decide +kernel
theorem dX2_fill_48 : decode cX2_fill 48 = .ok (.aload_n 2, 1) := by decide +kernel
theorem dX2_fill_49 : decode cX2_fill 49 = .ok (.invokevirtual 25, 3) := by decide +kernel
theorem dX2_fill_52 : decode cX2_fill 52 = .ok (.iinc 3 1, 3) := by decide +kernel
theorem dX2_fill_55 : decode cX2_fill 55 = .ok (.goto (-26), 3) := by decide +kernel
theorem dX2_fill_58 : decode cX2_fill 58 = .ok (.iconst 0, 1) := by decide +kernel
theorem dX2_fill_59 : decode cX2_fill 59 = .ok (.istore_n 3, 1) := by decide +kernel
theorem dX2_fill_60 : decode cX2_fill 60 = .ok (.iload_n 3, 1) := by decide +kernel
theorem dX2_fill_61 : decode cX2_fill 61 = .ok (.aload_n 0, 1) := by decide +kernel
theorem dX2_fill_62 : decode cX2_fill 62 = .ok (.getfield 15, 3) := by decide +kernel
theorem dX2_fill_65 : decode cX2_fill 65 = .ok (.if_icmp .ge 33, 3) := by decide +kernel
theorem dX2_fill_68 : decode cX2_fill 68 = .ok (.aload_n 0, 1) := by decide +kernel
theorem dX2_fill_69 : decode cX2_fill 69 = .ok (.getfield 18, 3) := by decide +kernel
theorem dX2_fill_72 : decode cX2_fill 72 = .ok (.iload_n 3, 1) := by decide +kernel
theorem dX2_fill_73 : decode cX2_fill 73 = .ok (.dup2, 1) := by decide +kernel
theorem dX2_fill_74 : decode cX2_fill 74 = .ok (.iaload, 1) := by decide +kernel
theorem dX2_fill_75 : decode cX2_fill 75 = .ok (.sipush 4096, 3) := by decide +kernel
theorem dX2_fill_78 : decode cX2_fill 78 = .ok (.irem, 1) := by decide +kernel
theorem dX2_fill_79 : decode cX2_fill 79 = .ok (.iastore, 1) := by decide +kernel
theorem dX2_fill_80 : decode cX2_fill 80 = .ok (.aload_n 0, 1) := by decide +kernel
theorem dX2_fill_81 : decode cX2_fill 81 = .ok (.getfield 22, 3) := by decide +kernel
theorem dX2_fill_84 : decode cX2_fill 84 = .ok (.aload_n 0, 1) := by decide +kernel
theorem dX2_fill_85 : decode cX2_fill 85 = .ok (.getfield 18, 3) := by decide +kernel
theorem dX2_fill_88 : decode cX2_fill 88 = .ok (.iload_n 3, 1) := by decide +kernel
theorem dX2_fill_89 : decode cX2_fill 89 = .ok (.iaload, 1) := by decide +kernel
theorem dX2_fill_90 : decode cX2_fill 90 = .ok (.iload_n 3, 1) := by decide +kernel
theorem dX2_fill_91 : decode cX2_fill 91 = .ok (.iastore, 1) := by decide +kernel
theorem dX2_fill_92 : decode cX2_fill 92 = .ok (.iinc 3 1, 3) := by decide +kernel
theorem dX2_fill_95 : decode cX2_fill 95 = .ok (.goto (-35), 3) := by decide +kernel
theorem dX2_fill_98 : decode cX2_fill 98 = .ok (.return_, 1) := by decide +kernel
theorem dX2_divideSquares_0 : decode cX2_divideSquares 0 = .ok (.iload_n 1, 1) := by decide +kernel
theorem dX2_divideSquares_1 : decode cX2_divideSquares 1 = .ok (.iconst 1, 1) := by decide +kernel
theorem dX2_divideSquares_2 : decode cX2_divideSquares 2 = .ok (.isub, 1) := by decide +kernel
theorem dX2_divideSquares_3 : decode cX2_divideSquares 3 = .ok (.istore 4, 2) := by decide +kernel
theorem dX2_divideSquares_5 : decode cX2_divideSquares 5 = .ok (.iload 4, 2) := by decide +kernel
theorem dX2_divideSquares_7 : decode cX2_divideSquares 7 = .ok (.ifCond .lt 111, 3) := by decide +kernel
theorem dX2_divideSquares_10 : decode cX2_divideSquares 10 = .ok (.aload_n 0, 1) := by decide +kernel
theorem dX2_divideSquares_11 : decode cX2_divideSquares 11 = .ok (.getfield 18, 3) := by decide +kernel
theorem dX2_divideSquares_14 : decode cX2_divideSquares 14 = .ok (.iload 4, 2) := by decide +kernel
theorem dX2_divideSquares_16 : decode cX2_divideSquares 16 = .ok (.iaload, 1) := by decide +kernel
theorem dX2_divideSquares_17 : decode cX2_divideSquares 17 = .ok (.sipush 4096, 3) := by decide +kernel
theorem dX2_divideSquares_20 : decode cX2_divideSquares 20 = .ok (.idiv, 1) := by decide +kernel
theorem dX2_divideSquares_21 : decode cX2_divideSquares 21 = .ok (.istore 5, 2) := by decide +kernel
theorem dX2_divideSquares_23 : decode cX2_divideSquares 23 = .ok (.aload_n 0, 1) := by decide +kernel
theorem dX2_divideSquares_24 : decode cX2_divideSquares 24 = .ok (.getfield 18, 3) := by decide +kernel
theorem dX2_divideSquares_27 : decode cX2_divideSquares 27 = .ok (.iload 4, 2) := by decide +kernel
theorem dX2_divideSquares_29 : decode cX2_divideSquares 29 = .ok (.iaload, 1) := by decide +kernel
theorem dX2_divideSquares_30 : decode cX2_divideSquares 30 = .ok (.sipush 4096, 3) := by decide +kernel
theorem dX2_divideSquares_33 : decode cX2_divideSquares 33 = .ok (.irem, 1) := by decide +kernel
theorem dX2_divideSquares_34 : decode cX2_divideSquares 34 = .ok (.istore 6, 2) := by decide +kernel
theorem dX2_divideSquares_36 : decode cX2_divideSquares 36 = .ok (.iconst 0, 1) := by decide +kernel
theorem dX2_divideSquares_37 : decode cX2_divideSquares 37 = .ok (.istore 7, 2) := by decide +kernel
theorem dX2_divideSquares_39 : decode cX2_divideSquares 39 = .ok (.iload 7, 2) := by decide +kernel
theorem dX2_divideSquares_41 : decode cX2_divideSquares 41 = .ok (.iconst 4, 1) := by decide +kernel
theorem dX2_divideSquares_42 : decode cX2_divideSquares 42 = .ok (.if_icmp .ge 70, 3) := by decide +kernel
theorem dX2_divideSquares_45 : decode cX2_divideSquares 45 = .ok (.aload_n 3, 1) := by decide +kernel
theorem dX2_divideSquares_46 : decode cX2_divideSquares 46 = .ok (.iconst 4, 1) := by decide +kernel
theorem dX2_divideSquares_47 : decode cX2_divideSquares 47 = .ok (.iload 5, 2) := by decide +kernel
theorem dX2_divideSquares_49 : decode cX2_divideSquares 49 = .ok (.imul, 1) := by decide +kernel
theorem dX2_divideSquares_50 : decode cX2_divideSquares 50 = .ok (.iload 7, 2) := by decide +kernel
theorem dX2_divideSquares_52 : decode cX2_divideSquares 52 = .ok (.iadd, 1) := by decide +kernel
theorem dX2_divideSquares_53 : decode cX2_divideSquares 53 = .ok (.iaload, 1) := by decide +kernel
theorem dX2_divideSquares_54 : decode cX2_divideSquares 54 = .ok (.istore 8, 2) := by decide +kernel
theorem dX2_divideSquares_56 : decode cX2_divideSquares 56 = .ok (.iload 8, 2) := by decide +kernel
theorem dX2_divideSquares_58 : decode cX2_divideSquares 58 = .ok (.bipush 10, 2) := by decide +kernel
theorem dX2_divideSquares_60 : decode cX2_divideSquares 60 = .ok (.idiv, 1) := by decide +kernel
theorem dX2_divideSquares_61 : decode cX2_divideSquares 61 = .ok (.istore 9, 2) := by decide +kernel
theorem dX2_divideSquares_63 : decode cX2_divideSquares 63 = .ok (.iload 6, 2) := by decide +kernel
theorem dX2_divideSquares_65 : decode cX2_divideSquares 65 = .ok (.iload_n 2, 1) := by decide +kernel
theorem dX2_divideSquares_66 : decode cX2_divideSquares 66 = .ok (.iload 9, 2) := by decide +kernel
theorem dX2_divideSquares_68 : decode cX2_divideSquares 68 = .ok (.iconst 2, 1) := by decide +kernel
theorem dX2_divideSquares_69 : decode cX2_divideSquares 69 = .ok (.irem, 1) := by decide +kernel
theorem dX2_divideSquares_70 : decode cX2_divideSquares 70 = .ok (.iload 9, 2) := by decide +kernel
theorem dX2_divideSquares_72 : decode cX2_divideSquares 72 = .ok (.iconst 2, 1) := by decide +kernel
theorem dX2_divideSquares_73 : decode cX2_divideSquares 73 = .ok (.idiv, 1) := by decide +kernel
theorem dX2_divideSquares_74 : decode cX2_divideSquares 74 = .ok (.bipush 64, 2) := by decide +kernel
theorem dX2_divideSquares_76 : decode cX2_divideSquares 76 = .ok (.imul, 1) := by decide +kernel
theorem dX2_divideSquares_77 : decode cX2_divideSquares 77 = .ok (.iadd, 1) := by decide +kernel
theorem dX2_divideSquares_78 : decode cX2_divideSquares 78 = .ok (.imul, 1) := by decide +kernel
theorem dX2_divideSquares_79 : decode cX2_divideSquares 79 = .ok (.iadd, 1) := by decide +kernel
theorem dX2_divideSquares_80 : decode cX2_divideSquares 80 = .ok (.istore 10, 2) := by decide +kernel
theorem dX2_divideSquares_82 : decode cX2_divideSquares 82 = .ok (.aload_n 0, 1) := by decide +kernel
theorem dX2_divideSquares_83 : decode cX2_divideSquares 83 = .ok (.getfield 18, 3) := by decide +kernel
theorem dX2_divideSquares_86 : decode cX2_divideSquares 86 = .ok (.iconst 4, 1) := by decide +kernel
theorem dX2_divideSquares_87 : decode cX2_divideSquares 87 = .ok (.iload 4, 2) := by decide +kernel
theorem dX2_divideSquares_89 : decode cX2_divideSquares 89 = .ok (.imul, 1) := by decide +kernel
theorem dX2_divideSquares_90 : decode cX2_divideSquares 90 = .ok (.iload 7, 2) := by decide +kernel
theorem dX2_divideSquares_92 : decode cX2_divideSquares 92 = .ok (.iadd, 1) := by decide +kernel
theorem dX2_divideSquares_93 : decode cX2_divideSquares 93 = .ok (.sipush 4096, 3) := by decide +kernel
theorem dX2_divideSquares_96 : decode cX2_divideSquares 96 = .ok (.iload 8, 2) := by decide +kernel
theorem dX2_divideSquares_98 : decode cX2_divideSquares 98 = .ok (.bipush 10, 2) := by decide +kernel
theorem dX2_divideSquares_100 : decode cX2_divideSquares 100 = .ok (.irem, 1) := by decide +kernel
theorem dX2_divideSquares_101 : decode cX2_divideSquares 101 = .ok (.imul, 1) := by decide +kernel
theorem dX2_divideSquares_102 : decode cX2_divideSquares 102 = .ok (.iload 10, 2) := by decide +kernel
theorem dX2_divideSquares_104 : decode cX2_divideSquares 104 = .ok (.iadd, 1) := by decide +kernel
theorem dX2_divideSquares_105 : decode cX2_divideSquares 105 = .ok (.iastore, 1) := by decide +kernel
theorem dX2_divideSquares_106 : decode cX2_divideSquares 106 = .ok (.iinc 7 1, 3) := by decide +kernel
theorem dX2_divideSquares_109 : decode cX2_divideSquares 109 = .ok (.goto (-70), 3) := by decide +kernel
theorem dX2_divideSquares_112 : decode cX2_divideSquares 112 = .ok (.iinc 4 (-1), 3) := by decide +kernel
theorem dX2_divideSquares_115 : decode cX2_divideSquares 115 = .ok (.goto (-110), 3) := by decide +kernel
theorem dX2_divideSquares_118 : decode cX2_divideSquares 118 = .ok (.return_, 1) := by decide +kernel
theorem dX2_holds_0 : decode cX2_holds 0 = .ok (.iload_n 1, 1) := by decide +kernel
theorem dX2_holds_1 : decode cX2_holds 1 = .ok (.ifCond .lt 27, 3) := by decide +kernel
theorem dX2_holds_4 : decode cX2_holds 4 = .ok (.iload_n 1, 1) := by decide +kernel
theorem dX2_holds_5 : decode cX2_holds 5 = .ok (.aload_n 0, 1) := by decide +kernel
theorem dX2_holds_6 : decode cX2_holds 6 = .ok (.getfield 9, 3) := by decide +kernel
theorem dX2_holds_9 : decode cX2_holds 9 = .ok (.if_icmp .ge 19, 3) := by decide +kernel
theorem dX2_holds_12 : decode cX2_holds 12 = .ok (.iload_n 2, 1) := by decide +kernel
theorem dX2_holds_13 : decode cX2_holds 13 = .ok (.ifCond .lt 15, 3) := by decide +kernel
theorem dX2_holds_16 : decode cX2_holds 16 = .ok (.iload_n 2, 1) := by decide +kernel
theorem dX2_holds_17 : decode cX2_holds 17 = .ok (.aload_n 0, 1) := by decide +kernel
theorem dX2_holds_18 : decode cX2_holds 18 = .ok (.getfield 9, 3) := by decide +kernel
theorem dX2_holds_21 : decode cX2_holds 21 = .ok (.if_icmp .ge 7, 3) := by decide +kernel
theorem dX2_holds_24 : decode cX2_holds 24 = .ok (.iconst 1, 1) := by decide +kernel
theorem dX2_holds_25 : decode cX2_holds 25 = .ok (.goto 4, 3) := by decide +kernel
theorem dX2_holds_28 : decode cX2_holds 28 = .ok (.iconst 0, 1) := by decide +kernel
theorem dX2_holds_29 : decode cX2_holds 29 = .ok (.ireturn, 1) := by decide +kernel
theorem dX2_indexOf_0 : decode cX2_indexOf 0 = .ok (.aload_n 0, 1) := by decide +kernel
theorem dX2_indexOf_1 : decode cX2_indexOf 1 = .ok (.getfield 22, 3) := by decide +kernel
theorem dX2_indexOf_4 : decode cX2_indexOf 4 = .ok (.iload_n 2, 1) := by decide +kernel
theorem dX2_indexOf_5 : decode cX2_indexOf 5 = .ok (.bipush 64, 2) := by decide +kernel
theorem dX2_indexOf_7 : decode cX2_indexOf 7 = .ok (.imul, 1) := by decide +kernel
theorem dX2_indexOf_8 : decode cX2_indexOf 8 = .ok (.iload_n 1, 1) := by decide +kernel
theorem dX2_indexOf_9 : decode cX2_indexOf 9 = .ok (.iadd, 1) := by decide +kernel
theorem dX2_indexOf_10 : decode cX2_indexOf 10 = .ok (.iaload, 1) := by decide +kernel
theorem dX2_indexOf_11 : decode cX2_indexOf 11 = .ok (.ireturn, 1) := by decide +kernel
theorem dX2_xAt_0 : decode cX2_xAt 0 = .ok (.aload_n 0, 1) := by decide +kernel
theorem dX2_xAt_1 : decode cX2_xAt 1 = .ok (.getfield 18, 3) := by decide +kernel
theorem dX2_xAt_4 : decode cX2_xAt 4 = .ok (.iload_n 1, 1) := by decide +kernel
theorem dX2_xAt_5 : decode cX2_xAt 5 = .ok (.iaload, 1) := by decide +kernel
theorem dX2_xAt_6 : decode cX2_xAt 6 = .ok (.bipush 64, 2) := by decide +kernel
theorem dX2_xAt_8 : decode cX2_xAt 8 = .ok (.irem, 1) := by decide +kernel
theorem dX2_xAt_9 : decode cX2_xAt 9 = .ok (.ireturn, 1) := by decide +kernel
theorem dX2_yAt_0 : decode cX2_yAt 0 = .ok (.aload_n 0, 1) := by decide +kernel
theorem dX2_yAt_1 : decode cX2_yAt 1 = .ok (.getfield 18, 3) := by decide +kernel
theorem dX2_yAt_4 : decode cX2_yAt 4 = .ok (.iload_n 1, 1) := by decide +kernel
theorem dX2_yAt_5 : decode cX2_yAt 5 = .ok (.iaload, 1) := by decide +kernel
theorem dX2_yAt_6 : decode cX2_yAt 6 = .ok (.bipush 64, 2) := by decide +kernel
theorem dX2_yAt_8 : decode cX2_yAt 8 = .ok (.idiv, 1) := by decide +kernel
theorem dX2_yAt_9 : decode cX2_yAt 9 = .ok (.ireturn, 1) := by decide +kernel
set_option maxRecDepth 20000 in
theorem ggX2_countBreaks_X2_xAt : GoodIn wsX2_countBreaks wsX2_xAt := goodIn_r _ [10, 11, 16, 17, 18, 19] (by decide +kernel) (by decide +kernel)
set_option maxRecDepth 20000 in
theorem gX2_countBreaks_X2_xAt : GoodIn wsX2_countBreaks (wsV RX2 29 RX2 yX2_xAt wsX2_xAt) := goodIn_app (goodIn_of _ (by decide +kernel)) ggX2_countBreaks_X2_xAt
set_option maxRecDepth 20000 in
theorem ggX2_countBreaks_X2_yAt : GoodIn wsX2_countBreaks wsX2_yAt := goodIn_r _ [15, 11, 16, 17, 18, 19] (by decide +kernel) (by decide +kernel)
set_option maxRecDepth 20000 in
theorem gX2_countBreaks_X2_yAt : GoodIn wsX2_countBreaks (wsV RX2 38 RX2 yX2_yAt wsX2_yAt) := goodIn_app (goodIn_of _ (by decide +kernel)) ggX2_countBreaks_X2_yAt
theorem dX2_countBreaks_0 : decode cX2_countBreaks 0 = .ok (.iconst 0, 1) := by decide +kernel
theorem dX2_countBreaks_1 : decode cX2_countBreaks 1 = .ok (.istore_n 1, 1) := by decide +kernel
theorem dX2_countBreaks_2 : decode cX2_countBreaks 2 = .ok (.iconst 1, 1) := by decide +kernel
theorem dX2_countBreaks_3 : decode cX2_countBreaks 3 = .ok (.istore_n 2, 1) := by decide +kernel
theorem dX2_countBreaks_4 : decode cX2_countBreaks 4 = .ok (.iload_n 2, 1) := by decide +kernel
theorem dX2_countBreaks_5 : decode cX2_countBreaks 5 = .ok (.aload_n 0, 1) := by decide +kernel
theorem dX2_countBreaks_6 : decode cX2_countBreaks 6 = .ok (.getfield 15, 3) := by decide +kernel
theorem dX2_countBreaks_9 : decode cX2_countBreaks 9 = .ok (.if_icmp .ge 49, 3) := by decide +kernel
theorem dX2_countBreaks_12 : decode cX2_countBreaks 12 = .ok (.aload_n 0, 1) := by decide +kernel
theorem dX2_countBreaks_13 : decode cX2_countBreaks 13 = .ok (.iload_n 2, 1) := by decide +kernel
theorem dX2_countBreaks_14 : decode cX2_countBreaks 14 = .ok (.invokevirtual 29, 3) := by decide +kernel
theorem dX2_countBreaks_17 : decode cX2_countBreaks 17 = .ok (.aload_n 0, 1) := by decide +kernel
theorem dX2_countBreaks_18 : decode cX2_countBreaks 18 = .ok (.iload_n 2, 1) := by decide +kernel
theorem dX2_countBreaks_19 : decode cX2_countBreaks 19 = .ok (.iconst 1, 1) := by decide +kernel
theorem dX2_countBreaks_20 : decode cX2_countBreaks 20 = .ok (.isub, 1) := by decide +kernel
theorem dX2_countBreaks_21 : decode cX2_countBreaks 21 = .ok (.invokevirtual 29, 3) := by decide +kernel
theorem dX2_countBreaks_24 : decode cX2_countBreaks 24 = .ok (.isub, 1) := by decide +kernel
theorem dX2_countBreaks_25 : decode cX2_countBreaks 25 = .ok (.invokestatic 33, 3) := by decide +kernel
theorem dX2_countBreaks_28 : decode cX2_countBreaks 28 = .ok (.aload_n 0, 1) := by decide +kernel
theorem dX2_countBreaks_29 : decode cX2_countBreaks 29 = .ok (.iload_n 2, 1) := by decide +kernel
theorem dX2_countBreaks_30 : decode cX2_countBreaks 30 = .ok (.invokevirtual 38, 3) := by decide +kernel
theorem dX2_countBreaks_33 : decode cX2_countBreaks 33 = .ok (.aload_n 0, 1) := by decide +kernel
theorem dX2_countBreaks_34 : decode cX2_countBreaks 34 = .ok (.iload_n 2, 1) := by decide +kernel
theorem dX2_countBreaks_35 : decode cX2_countBreaks 35 = .ok (.iconst 1, 1) := by decide +kernel
theorem dX2_countBreaks_36 : decode cX2_countBreaks 36 = .ok (.isub, 1) := by decide +kernel
theorem dX2_countBreaks_37 : decode cX2_countBreaks 37 = .ok (.invokevirtual 38, 3) := by decide +kernel
theorem dX2_countBreaks_40 : decode cX2_countBreaks 40 = .ok (.isub, 1) := by decide +kernel
theorem dX2_countBreaks_41 : decode cX2_countBreaks 41 = .ok (.invokestatic 33, 3) := by decide +kernel
theorem dX2_countBreaks_44 : decode cX2_countBreaks 44 = .ok (.iadd, 1) := by decide +kernel
theorem dX2_countBreaks_45 : decode cX2_countBreaks 45 = .ok (.iconst 1, 1) := by decide +kernel
theorem dX2_countBreaks_46 : decode cX2_countBreaks 46 = .ok (.if_icmp .eq 6, 3) := by decide +kernel
theorem dX2_countBreaks_49 : decode cX2_countBreaks 49 = .ok (.iinc 1 1, 3) := by decide +kernel
theorem dX2_countBreaks_52 : decode cX2_countBreaks 52 = .ok (.iinc 2 1, 3) := by decide +kernel
theorem dX2_countBreaks_55 : decode cX2_countBreaks 55 = .ok (.goto (-51), 3) := by decide +kernel
theorem dX2_countBreaks_58 : decode cX2_countBreaks 58 = .ok (.iload_n 1, 1) := by decide +kernel
theorem dX2_countBreaks_59 : decode cX2_countBreaks 59 = .ok (.ireturn, 1) := by decide +kernel
set_option maxRecDepth 20000 in
theorem ggX2_greatestDifference_X2_indexOf : GoodIn wsX2_greatestDifference wsX2_indexOf := goodIn_r _ [13, 14, 15, 16, 17, 18] (by decide +kernel) (by decide +kernel)
set_option maxRecDepth 20000 in
theorem gX2_greatestDifference_X2_indexOf : GoodIn wsX2_greatestDifference (wsV RX2 41 RX2 yX2_indexOf wsX2_indexOf) := goodIn_app (goodIn_of _ (by decide +kernel)) ggX2_greatestDifference_X2_indexOf
theorem dX2_greatestDifference_0 : decode cX2_greatestDifference 0 = .ok (.iconst 0, 1) := by decide +kernel
theorem dX2_greatestDifference_1 : decode cX2_greatestDifference 1 = .ok (.istore_n 1, 1) := by decide +kernel
theorem dX2_greatestDifference_2 : decode cX2_greatestDifference 2 = .ok (.iconst 0, 1) := by decide +kernel
theorem dX2_greatestDifference_3 : decode cX2_greatestDifference 3 = .ok (.istore_n 2, 1) := by decide +kernel
theorem dX2_greatestDifference_4 : decode cX2_greatestDifference 4 = .ok (.iload_n 2, 1) := by decide +kernel
theorem dX2_greatestDifference_5 : decode cX2_greatestDifference 5 = .ok (.iconst 1, 1) := by decide +kernel
theorem dX2_greatestDifference_6 : decode cX2_greatestDifference 6 = .ok (.iadd, 1) := by decide +kernel
theorem dX2_greatestDifference_7 : decode cX2_greatestDifference 7 = .ok (.aload_n 0, 1) := by decide +kernel
theorem dX2_greatestDifference_8 : decode cX2_greatestDifference 8 = .ok (.getfield 9, 3) := by decide +kernel
theorem dX2_greatestDifference_11 : decode cX2_greatestDifference 11 = .ok (.if_icmp .ge 77, 3) := by decide +kernel
theorem dX2_greatestDifference_14 : decode cX2_greatestDifference 14 = .ok (.iconst 0, 1) := by decide +kernel
theorem dX2_greatestDifference_15 : decode cX2_greatestDifference 15 = .ok (.istore_n 3, 1) := by decide +kernel
theorem dX2_greatestDifference_16 : decode cX2_greatestDifference 16 = .ok (.iload_n 3, 1) := by decide +kernel
theorem dX2_greatestDifference_17 : decode cX2_greatestDifference 17 = .ok (.aload_n 0, 1) := by decide +kernel
theorem dX2_greatestDifference_18 : decode cX2_greatestDifference 18 = .ok (.getfield 9, 3) := by decide +kernel
theorem dX2_greatestDifference_21 : decode cX2_greatestDifference 21 = .ok (.if_icmp .ge 61, 3) := by decide +kernel
theorem dX2_greatestDifference_24 : decode cX2_greatestDifference 24 = .ok (.aload_n 0, 1) := by decide +kernel
theorem dX2_greatestDifference_25 : decode cX2_greatestDifference 25 = .ok (.iload_n 2, 1) := by decide +kernel
theorem dX2_greatestDifference_26 : decode cX2_greatestDifference 26 = .ok (.iconst 1, 1) := by decide +kernel
theorem dX2_greatestDifference_27 : decode cX2_greatestDifference 27 = .ok (.iadd, 1) := by decide +kernel
theorem dX2_greatestDifference_28 : decode cX2_greatestDifference 28 = .ok (.iload_n 3, 1) := by decide +kernel
theorem dX2_greatestDifference_29 : decode cX2_greatestDifference 29 = .ok (.invokevirtual 41, 3) := by decide +kernel
theorem dX2_greatestDifference_32 : decode cX2_greatestDifference 32 = .ok (.aload_n 0, 1) := by decide +kernel
theorem dX2_greatestDifference_33 : decode cX2_greatestDifference 33 = .ok (.iload_n 2, 1) := by decide +kernel
theorem dX2_greatestDifference_34 : decode cX2_greatestDifference 34 = .ok (.iload_n 3, 1) := by decide +kernel
theorem dX2_greatestDifference_35 : decode cX2_greatestDifference 35 = .ok (.invokevirtual 41, 3) := by decide +kernel
theorem dX2_greatestDifference_38 : decode cX2_greatestDifference 38 = .ok (.isub, 1) := by decide +kernel
theorem dX2_greatestDifference_39 : decode cX2_greatestDifference 39 = .ok (.invokestatic 33, 3) := by decide +kernel
theorem dX2_greatestDifference_42 : decode cX2_greatestDifference 42 = .ok (.istore 4, 2) := by decide +kernel
theorem dX2_greatestDifference_44 : decode cX2_greatestDifference 44 = .ok (.aload_n 0, 1) := by decide +kernel
theorem dX2_greatestDifference_45 : decode cX2_greatestDifference 45 = .ok (.iload_n 3, 1) := by decide +kernel
theorem dX2_greatestDifference_46 : decode cX2_greatestDifference 46 = .ok (.iload_n 2, 1) := by decide +kernel
theorem dX2_greatestDifference_47 : decode cX2_greatestDifference 47 = .ok (.iconst 1, 1) := by decide +kernel
theorem dX2_greatestDifference_48 : decode cX2_greatestDifference 48 = .ok (.iadd, 1) := by decide +kernel
theorem dX2_greatestDifference_49 : decode cX2_greatestDifference 49 = .ok (.invokevirtual 41, 3) := by decide +kernel
theorem dX2_greatestDifference_52 : decode cX2_greatestDifference 52 = .ok (.aload_n 0, 1) := by decide +kernel
theorem dX2_greatestDifference_53 : decode cX2_greatestDifference 53 = .ok (.iload_n 3, 1) := by decide +kernel
theorem dX2_greatestDifference_54 : decode cX2_greatestDifference 54 = .ok (.iload_n 2, 1) := by decide +kernel
theorem dX2_greatestDifference_55 : decode cX2_greatestDifference 55 = .ok (.invokevirtual 41, 3) := by decide +kernel
theorem dX2_greatestDifference_58 : decode cX2_greatestDifference 58 = .ok (.isub, 1) := by decide +kernel
theorem dX2_greatestDifference_59 : decode cX2_greatestDifference 59 = .ok (.invokestatic 33, 3) := by decide +kernel
theorem dX2_greatestDifference_62 : decode cX2_greatestDifference 62 = .ok (.istore 5, 2) := by decide +kernel
theorem dX2_greatestDifference_64 : decode cX2_greatestDifference 64 = .ok (.iload_n 1, 1) := by decide +kernel
theorem dX2_greatestDifference_65 : decode cX2_greatestDifference 65 = .ok (.iload 4, 2) := by decide +kernel
theorem dX2_greatestDifference_67 : decode cX2_greatestDifference 67 = .ok (.iload 5, 2) := by decide +kernel
theorem dX2_greatestDifference_69 : decode cX2_greatestDifference 69 = .ok (.invokestatic 45, 3) := by decide +kernel
theorem dX2_greatestDifference_72 : decode cX2_greatestDifference 72 = .ok (.invokestatic 45, 3) := by decide +kernel
theorem dX2_greatestDifference_75 : decode cX2_greatestDifference 75 = .ok (.istore_n 1, 1) := by decide +kernel
theorem dX2_greatestDifference_76 : decode cX2_greatestDifference 76 = .ok (.iinc 3 1, 3) := by decide +kernel
theorem dX2_greatestDifference_79 : decode cX2_greatestDifference 79 = .ok (.goto (-63), 3) := by decide +kernel
theorem dX2_greatestDifference_82 : decode cX2_greatestDifference 82 = .ok (.iinc 2 1, 3) := by decide +kernel
theorem dX2_greatestDifference_85 : decode cX2_greatestDifference 85 = .ok (.goto (-81), 3) := by decide +kernel
theorem dX2_greatestDifference_88 : decode cX2_greatestDifference 88 = .ok (.iload_n 1, 1) := by decide +kernel
theorem dX2_greatestDifference_89 : decode cX2_greatestDifference 89 = .ok (.ireturn, 1) := by decide +kernel
set_option maxRecDepth 20000 in
theorem ggX2_countIntervalsOfAll_X2_countRectangles : GoodIn wsX2_countIntervalsOfAll wsX2_countRectangles := goodIn_r _ [6, 7, 8, 9, 5, 10, 11, 12, 13, 14, 15, 16, 17, 18, 19, 20, 21, 22, 23, 24, 25, 26, 27, 28, 29, 30, 31] (by decide +kernel) (by decide +kernel)
set_option maxRecDepth 20000 in
theorem gX2_countIntervalsOfAll_X2_countRectangles : GoodIn wsX2_countIntervalsOfAll (wsV RX2 48 RX2 yX2_countRectangles wsX2_countRectangles) := goodIn_app (goodIn_of _ (by decide +kernel)) ggX2_countIntervalsOfAll_X2_countRectangles
theorem dX2_countIntervalsOfAll_0 : decode cX2_countIntervalsOfAll 0 = .ok (.iconst 0, 1) := by decide +kernel
theorem dX2_countIntervalsOfAll_1 : decode cX2_countIntervalsOfAll 1 = .ok (.istore_n 3, 1) := by decide +kernel
theorem dX2_countIntervalsOfAll_2 : decode cX2_countIntervalsOfAll 2 = .ok (.iconst 0, 1) := by decide +kernel
theorem dX2_countIntervalsOfAll_3 : decode cX2_countIntervalsOfAll 3 = .ok (.istore 4, 2) := by decide +kernel
theorem dX2_countIntervalsOfAll_5 : decode cX2_countIntervalsOfAll 5 = .ok (.iload 4, 2) := by decide +kernel
theorem dX2_countIntervalsOfAll_7 : decode cX2_countIntervalsOfAll 7 = .ok (.aload_n 0, 1) := by decide +kernel
theorem dX2_countIntervalsOfAll_8 : decode cX2_countIntervalsOfAll 8 = .ok (.getfield 15, 3) := by decide +kernel
theorem dX2_countIntervalsOfAll_11 : decode cX2_countIntervalsOfAll 11 = .ok (.if_icmp .ge 42, 3) := by decide +kernel
theorem dX2_countIntervalsOfAll_14 : decode cX2_countIntervalsOfAll 14 = .ok (.iload_n 3, 1) := by decide +kernel
theorem dX2_countIntervalsOfAll_15 : decode cX2_countIntervalsOfAll 15 = .ok (.aload_n 0, 1) := by decide +kernel
theorem dX2_countIntervalsOfAll_16 : decode cX2_countIntervalsOfAll 16 = .ok (.iload 4, 2) := by decide +kernel
theorem dX2_countIntervalsOfAll_18 : decode cX2_countIntervalsOfAll 18 = .ok (.iload 4, 2) := by decide +kernel
theorem dX2_countIntervalsOfAll_20 : decode cX2_countIntervalsOfAll 20 = .ok (.iload_n 1, 1) := by decide +kernel
theorem dX2_countIntervalsOfAll_21 : decode cX2_countIntervalsOfAll 21 = .ok (.iload_n 2, 1) := by decide +kernel
theorem dX2_countIntervalsOfAll_22 : decode cX2_countIntervalsOfAll 22 = .ok (.invokevirtual 48, 3) := by decide +kernel
theorem dX2_countIntervalsOfAll_25 : decode cX2_countIntervalsOfAll 25 = .ok (.iadd, 1) := by decide +kernel
theorem dX2_countIntervalsOfAll_26 : decode cX2_countIntervalsOfAll 26 = .ok (.istore_n 3, 1) := by decide +kernel
theorem dX2_countIntervalsOfAll_27 : decode cX2_countIntervalsOfAll 27 = .ok (.iload 4, 2) := by decide +kernel
theorem dX2_countIntervalsOfAll_29 : decode cX2_countIntervalsOfAll 29 = .ok (.ifCond .le 18, 3) := by decide +kernel
theorem dX2_countIntervalsOfAll_32 : decode cX2_countIntervalsOfAll 32 = .ok (.iload_n 3, 1) := by decide +kernel
theorem dX2_countIntervalsOfAll_33 : decode cX2_countIntervalsOfAll 33 = .ok (.aload_n 0, 1) := by decide +kernel
theorem dX2_countIntervalsOfAll_34 : decode cX2_countIntervalsOfAll 34 = .ok (.iload 4, 2) := by decide +kernel
theorem dX2_countIntervalsOfAll_36 : decode cX2_countIntervalsOfAll 36 = .ok (.iconst 1, 1) := by decide +kernel
theorem dX2_countIntervalsOfAll_37 : decode cX2_countIntervalsOfAll 37 = .ok (.isub, 1) := by decide +kernel
theorem dX2_countIntervalsOfAll_38 : decode cX2_countIntervalsOfAll 38 = .ok (.iload 4, 2) := by decide +kernel
theorem dX2_countIntervalsOfAll_40 : decode cX2_countIntervalsOfAll 40 = .ok (.iload_n 1, 1) := by decide +kernel
theorem dX2_countIntervalsOfAll_41 : decode cX2_countIntervalsOfAll 41 = .ok (.iload_n 2, 1) := by decide +kernel
theorem dX2_countIntervalsOfAll_42 : decode cX2_countIntervalsOfAll 42 = .ok (.invokevirtual 48, 3) := by decide +kernel
theorem dX2_countIntervalsOfAll_45 : decode cX2_countIntervalsOfAll 45 = .ok (.isub, 1) := by decide +kernel
theorem dX2_countIntervalsOfAll_46 : decode cX2_countIntervalsOfAll 46 = .ok (.istore_n 3, 1) := by decide +kernel
theorem dX2_countIntervalsOfAll_47 : decode cX2_countIntervalsOfAll 47 = .ok (.iinc 4 1, 3) := by decide +kernel
theorem dX2_countIntervalsOfAll_50 : decode cX2_countIntervalsOfAll 50 = .ok (.goto (-45), 3) := by decide +kernel
theorem dX2_countIntervalsOfAll_53 : decode cX2_countIntervalsOfAll 53 = .ok (.iload_n 3, 1) := by decide +kernel
theorem dX2_countIntervalsOfAll_54 : decode cX2_countIntervalsOfAll 54 = .ok (.ireturn, 1) := by decide +kernel
set_option maxRecDepth 20000 in
theorem ggX2_countRectangles_X2_xAt : GoodIn wsX2_countRectangles wsX2_xAt := goodIn_r _ [5, 6, 23, 24, 25, 26] (by decide +kernel) (by decide +kernel)
set_option maxRecDepth 20000 in
theorem gX2_countRectangles_X2_xAt : GoodIn wsX2_countRectangles (wsV RX2 29 RX2 yX2_xAt wsX2_xAt) := goodIn_app (goodIn_of _ (by decide +kernel)) ggX2_countRectangles_X2_xAt
set_option maxRecDepth 20000 in
theorem ggX2_countRectangles_X2_countPlaces : GoodIn wsX2_countRectangles wsX2_countPlaces := goodIn_r _ [10, 11, 12, 13, 14, 15, 16, 17, 18, 23, 24, 25, 26] (by decide +kernel) (by decide +kernel)
set_option maxRecDepth 20000 in
theorem gX2_countRectangles_X2_countPlaces : GoodIn wsX2_countRectangles (wsV RX2 52 RX2 yX2_countPlaces wsX2_countPlaces) := goodIn_app (goodIn_of _ (by decide +kernel)) ggX2_countRectangles_X2_countPlaces
set_option maxRecDepth 20000 in
theorem ggX2_countRectangles_X2_yAt : GoodIn wsX2_countRectangles wsX2_yAt := goodIn_r _ [22, 6, 23, 24, 25, 26] (by decide +kernel) (by decide +kernel)
set_option maxRecDepth 20000 in
theorem gX2_countRectangles_X2_yAt : GoodIn wsX2_countRectangles (wsV RX2 38 RX2 yX2_yAt wsX2_yAt) := goodIn_app (goodIn_of _ (by decide +kernel)) ggX2_countRectangles_X2_yAt
theorem dX2_countRectangles_0 : decode cX2_countRectangles 0 = .ok (.aload_n 0, 1) := by decide +kernel
theorem dX2_countRectangles_1 : decode cX2_countRectangles 1 = .ok (.aload_n 0, 1) := by decide +kernel
theorem dX2_countRectangles_2 : decode cX2_countRectangles 2 = .ok (.iload_n 1, 1) := by decide +kernel
theorem dX2_countRectangles_3 : decode cX2_countRectangles 3 = .ok (.invokevirtual 29, 3) := by decide +kernel
theorem dX2_countRectangles_6 : decode cX2_countRectangles 6 = .ok (.aload_n 0, 1) := by decide +kernel
theorem dX2_countRectangles_7 : decode cX2_countRectangles 7 = .ok (.iload_n 2, 1) := by decide +kernel
theorem dX2_countRectangles_8 : decode cX2_countRectangles 8 = .ok (.invokevirtual 29, 3) := by decide +kernel
theorem dX2_countRectangles_11 : decode cX2_countRectangles 11 = .ok (.iload_n 3, 1) := by decide +kernel
theorem dX2_countRectangles_12 : decode cX2_countRectangles 12 = .ok (.invokevirtual 52, 3) := by decide +kernel
theorem dX2_countRectangles_15 : decode cX2_countRectangles 15 = .ok (.aload_n 0, 1) := by decide +kernel
theorem dX2_countRectangles_16 : decode cX2_countRectangles 16 = .ok (.aload_n 0, 1) := by decide +kernel
theorem dX2_countRectangles_17 : decode cX2_countRectangles 17 = .ok (.iload_n 1, 1) := by decide +kernel
theorem dX2_countRectangles_18 : decode cX2_countRectangles 18 = .ok (.invokevirtual 38, 3) := by decide +kernel
theorem dX2_countRectangles_21 : decode cX2_countRectangles 21 = .ok (.aload_n 0, 1) := by decide +kernel
theorem dX2_countRectangles_22 : decode cX2_countRectangles 22 = .ok (.iload_n 2, 1) := by decide +kernel
theorem dX2_countRectangles_23 : decode cX2_countRectangles 23 = .ok (.invokevirtual 38, 3) := by decide +kernel
theorem dX2_countRectangles_26 : decode cX2_countRectangles 26 = .ok (.iload 4, 2) := by decide +kernel
theorem dX2_countRectangles_28 : decode cX2_countRectangles 28 = .ok (.invokevirtual 52, 3) := by decide +kernel
theorem dX2_countRectangles_31 : decode cX2_countRectangles 31 = .ok (.imul, 1) := by decide +kernel
theorem dX2_countRectangles_32 : decode cX2_countRectangles 32 = .ok (.ireturn, 1) := by decide +kernel
theorem dX2_countPlaces_0 : decode cX2_countPlaces 0 = .ok (.iconst 0, 1) := by decide +kernel
theorem dX2_countPlaces_1 : decode cX2_countPlaces 1 = .ok (.iload_n 1, 1) := by decide +kernel
theorem dX2_countPlaces_2 : decode cX2_countPlaces 2 = .ok (.iload_n 2, 1) := by decide +kernel
theorem dX2_countPlaces_3 : decode cX2_countPlaces 3 = .ok (.invokestatic 45, 3) := by decide +kernel
theorem dX2_countPlaces_6 : decode cX2_countPlaces 6 = .ok (.iload_n 3, 1) := by decide +kernel
theorem dX2_countPlaces_7 : decode cX2_countPlaces 7 = .ok (.isub, 1) := by decide +kernel
theorem dX2_countPlaces_8 : decode cX2_countPlaces 8 = .ok (.iconst 1, 1) := by decide +kernel
theorem dX2_countPlaces_9 : decode cX2_countPlaces 9 = .ok (.iadd, 1) := by decide +kernel
theorem dX2_countPlaces_10 : decode cX2_countPlaces 10 = .ok (.invokestatic 45, 3) := by decide +kernel
theorem dX2_countPlaces_13 : decode cX2_countPlaces 13 = .ok (.istore 4, 2) := by decide +kernel
theorem dX2_countPlaces_15 : decode cX2_countPlaces 15 = .ok (.aload_n 0, 1) := by decide +kernel
theorem dX2_countPlaces_16 : decode cX2_countPlaces 16 = .ok (.getfield 9, 3) := by decide +kernel
theorem dX2_countPlaces_19 : decode cX2_countPlaces 19 = .ok (.iload_n 3, 1) := by decide +kernel
theorem dX2_countPlaces_20 : decode cX2_countPlaces 20 = .ok (.isub, 1) := by decide +kernel
theorem dX2_countPlaces_21 : decode cX2_countPlaces 21 = .ok (.iload_n 1, 1) := by decide +kernel
theorem dX2_countPlaces_22 : decode cX2_countPlaces 22 = .ok (.iload_n 2, 1) := by decide +kernel
theorem dX2_countPlaces_23 : decode cX2_countPlaces 23 = .ok (.invokestatic 56, 3) := by decide +kernel
theorem dX2_countPlaces_26 : decode cX2_countPlaces 26 = .ok (.invokestatic 56, 3) := by decide +kernel
theorem dX2_countPlaces_29 : decode cX2_countPlaces 29 = .ok (.istore 5, 2) := by decide +kernel
theorem dX2_countPlaces_31 : decode cX2_countPlaces 31 = .ok (.iconst 0, 1) := by decide +kernel
theorem dX2_countPlaces_32 : decode cX2_countPlaces 32 = .ok (.iload 5, 2) := by decide +kernel
theorem dX2_countPlaces_34 : decode cX2_countPlaces 34 = .ok (.iload 4, 2) := by decide +kernel
theorem dX2_countPlaces_36 : decode cX2_countPlaces 36 = .ok (.isub, 1) := by decide +kernel
theorem dX2_countPlaces_37 : decode cX2_countPlaces 37 = .ok (.iconst 1, 1) := by decide +kernel
theorem dX2_countPlaces_38 : decode cX2_countPlaces 38 = .ok (.iadd, 1) := by decide +kernel
theorem dX2_countPlaces_39 : decode cX2_countPlaces 39 = .ok (.invokestatic 45, 3) := by decide +kernel
theorem dX2_countPlaces_42 : decode cX2_countPlaces 42 = .ok (.ireturn, 1) := by decide +kernel
theorem dX3_init_0 : decode cX3_init 0 = .ok (.aload_n 0, 1) := by decide +kernel
theorem dX3_init_1 : decode cX3_init 1 = .ok (.invokespecial 3, 3) := by decide +kernel
theorem dX3_init_4 : decode cX3_init 4 = .ok (.aload_n 0, 1) := by decide +kernel
theorem dX3_init_5 : decode cX3_init 5 = .ok (.iconst 0, 1) := by decide +kernel
theorem dX3_init_6 : decode cX3_init 6 = .ok (.putfield 9, 3) := by decide +kernel
theorem dX3_init_9 : decode cX3_init 9 = .ok (.aload_n 0, 1) := by decide +kernel
theorem dX3_init_10 : decode cX3_init 10 = .ok (.bipush 40, 2) := by decide +kernel
theorem dX3_init_12 : decode cX3_init 12 = .ok (.newarray .int, 2) := by decide +kernel
theorem dX3_init_14 : decode cX3_init 14 = .ok (.putfield 15, 3) := by decide +kernel
theorem dX3_init_17 : decode cX3_init 17 = .ok (.return_, 1) := by decide +kernel
theorem dX3_find_0 : decode cX3_find 0 = .ok (.iconst 0, 1) := by decide +kernel
theorem dX3_find_1 : decode cX3_find 1 = .ok (.istore_n 3, 1) := by decide +kernel
theorem dX3_find_2 : decode cX3_find 2 = .ok (.iload_n 3, 1) := by decide +kernel
theorem dX3_find_3 : decode cX3_find 3 = .ok (.aload_n 0, 1) := by decide +kernel
theorem dX3_find_4 : decode cX3_find 4 = .ok (.getfield 9, 3) := by decide +kernel
theorem dX3_find_7 : decode cX3_find 7 = .ok (.if_icmp .ge 26, 3) := by decide +kernel
theorem dX3_find_10 : decode cX3_find 10 = .ok (.aload_n 0, 1) := by decide +kernel
theorem dX3_find_11 : decode cX3_find 11 = .ok (.getfield 15, 3) := by decide +kernel
theorem dX3_find_14 : decode cX3_find 14 = .ok (.iload_n 3, 1) := by decide +kernel
theorem dX3_find_15 : decode cX3_find 15 = .ok (.iaload, 1) := by decide +kernel
theorem dX3_find_16 : decode cX3_find 16 = .ok (.iload_n 2, 1) := by decide +kernel
theorem dX3_find_17 : decode cX3_find 17 = .ok (.bipush 64, 2) := by decide +kernel
theorem dX3_find_19 : decode cX3_find 19 = .ok (.imul, 1) := by decide +kernel
theorem dX3_find_20 : decode cX3_find 20 = .ok (.iload_n 1, 1) := by decide +kernel
theorem dX3_find_21 : decode cX3_find 21 = .ok (.iadd, 1) := by decide +kernel
theorem dX3_find_22 : decode cX3_find 22 = .ok (.if_icmp .ne 5, 3) := by decide +kernel
theorem dX3_find_25 : decode cX3_find 25 = .ok (.iload_n 3, 1) := by decide +kernel
theorem dX3_find_26 : decode cX3_find 26 = .ok (.ireturn, 1) := by decide +kernel
theorem dX3_find_27 : decode cX3_find 27 = .ok (.iinc 3 1, 3) := by decide +kernel
theorem dX3_find_30 : decode cX3_find 30 = .ok (.goto (-28), 3) := by decide +kernel
theorem dX3_find_33 : decode cX3_find 33 = .ok (.iconst (-1), 1) := by decide +kernel
theorem dX3_find_34 : decode cX3_find 34 = .ok (.ireturn, 1) := by decide +kernel
theorem dX3_add_0 : decode cX3_add 0 = .ok (.aload_n 0, 1) := by decide +kernel
theorem dX3_add_1 : decode cX3_add 1 = .ok (.getfield 9, 3) := by decide +kernel
theorem dX3_add_4 : decode cX3_add 4 = .ok (.bipush 40, 2) := by decide +kernel
theorem dX3_add_6 : decode cX3_add 6 = .ok (.if_icmp .lt 5, 3) := by decide +kernel
theorem dX3_add_9 : decode cX3_add 9 = .ok (.iconst 0, 1) := by decide +kernel
theorem dX3_add_10 : decode cX3_add 10 = .ok (.ireturn, 1) := by decide +kernel
theorem dX3_add_11 : decode cX3_add 11 = .ok (.aload_n 0, 1) := by decide +kernel
theorem dX3_add_12 : decode cX3_add 12 = .ok (.getfield 15, 3) := by decide +kernel
theorem dX3_add_15 : decode cX3_add 15 = .ok (.aload_n 0, 1) := by decide +kernel
theorem dX3_add_16 : decode cX3_add 16 = .ok (.getfield 9, 3) := by decide +kernel
theorem dX3_add_19 : decode cX3_add 19 = .ok (.iload_n 2, 1) := by decide +kernel
theorem dX3_add_20 : decode cX3_add 20 = .ok (.bipush 64, 2) := by decide +kernel
theorem dX3_add_22 : decode cX3_add 22 = .ok (.imul, 1) := by decide +kernel
theorem dX3_add_23 : decode cX3_add 23 = .ok (.iload_n 1, 1) := by decide +kernel
theorem dX3_add_24 : decode cX3_add 24 = .ok (.iadd, 1) := by decide +kernel
theorem dX3_add_25 : decode cX3_add 25 = .ok (.iastore, 1) := by decide +kernel
theorem dX3_add_26 : decode cX3_add 26 = .ok (.aload_n 0, 1) := by decide +kernel
theorem dX3_add_27 : decode cX3_add 27 = .ok (.dup, 1) := by decide +kernel
theorem dX3_add_28 : decode cX3_add 28 = .ok (.getfield 9, 3) := by decide +kernel
theorem dX3_add_31 : decode cX3_add 31 = .ok (.iconst 1, 1) := by decide +kernel
theorem dX3_add_32 : decode cX3_add 32 = .ok (.iadd, 1) := by decide +kernel
theorem dX3_add_33 : decode cX3_add 33 = .ok (.putfield 9, 3) := by decide +kernel
theorem dX3_add_36 : decode cX3_add 36 = .ok (.iconst 1, 1) := by decide +kernel
theorem dX3_add_37 : decode cX3_add 37 = .ok (.ireturn, 1) := by decide +kernel
set_option maxRecDepth 20000 in
theorem ggX3_remove_X3_find : GoodIn wsX3_remove wsX3_find := goodIn_r _ [7, 1, 2, 8, 9] (by decide +kernel) (by decide +kernel)
set_option maxRecDepth 20000 in
theorem gX3_remove_X3_find : GoodIn wsX3_remove (wsV RX3 19 RX3 yX3_find wsX3_find) := goodIn_app (goodIn_of _ (by decide +kernel)) ggX3_remove_X3_find
theorem dX3_remove_0 : decode cX3_remove 0 = .ok (.aload_n 0, 1) := by decide +kernel
theorem dX3_remove_1 : decode cX3_remove 1 = .ok (.iload_n 1, 1) := by decide +kernel
theorem dX3_remove_2 : decode cX3_remove 2 = .ok (.iload_n 2, 1) := by decide +kernel
theorem dX3_remove_3 : decode cX3_remove 3 = .ok (.invokevirtual 19, 3) := by decide +kernel
theorem dX3_remove_6 : decode cX3_remove 6 = .ok (.istore_n 3, 1) := by decide +kernel
theorem dX3_remove_7 : decode cX3_remove 7 = .ok (.iload_n 3, 1) := by decide +kernel
theorem dX3_remove_8 : decode cX3_remove 8 = .ok (.iconst (-1), 1) := by decide +kernel
theorem dX3_remove_9 : decode cX3_remove 9 = .ok (.if_icmp .ne 5, 3) := by decide +kernel
theorem dX3_remove_12 : decode cX3_remove 12 = .ok (.iconst 0, 1) := by decide +kernel
theorem dX3_remove_13 : decode cX3_remove 13 = .ok (.ireturn, 1) := by decide +kernel
theorem dX3_remove_14 : decode cX3_remove 14 = .ok (.aload_n 0, 1) := by decide +kernel
theorem dX3_remove_15 : decode cX3_remove 15 = .ok (.dup, 1) := by decide +kernel
theorem dX3_remove_16 : decode cX3_remove 16 = .ok (.getfield 9, 3) := by decide +kernel
theorem dX3_remove_19 : decode cX3_remove 19 = .ok (.iconst 1, 1) := by decide +kernel
theorem dX3_remove_20 : decode cX3_remove 20 = .ok (.isub, 1) := by decide +kernel
theorem dX3_remove_21 : decode cX3_remove 21 = .ok (.putfield 9, 3) := by decide +kernel
theorem dX3_remove_24 : decode cX3_remove 24 = .ok (.aload_n 0, 1) := by decide +kernel
theorem dX3_remove_25 : decode cX3_remove 25 = .ok (.getfield 15, 3) := by decide +kernel
theorem dX3_remove_28 : decode cX3_remove 28 = .ok (.iload_n 3, 1) := by decide +kernel
theorem dX3_remove_29 : decode cX3_remove 29 = .ok (.aload_n 0, 1) := by decide +kernel
theorem dX3_remove_30 : decode cX3_remove 30 = .ok (.getfield 15, 3) := by decide +kernel
theorem dX3_remove_33 : decode cX3_remove 33 = .ok (.aload_n 0, 1) := by decide +kernel
theorem dX3_remove_34 : decode cX3_remove 34 = .ok (.getfield 9, 3) := by decide +kernel
theorem dX3_remove_37 : decode cX3_remove 37 = .ok (.iaload, 1) := by decide +kernel
theorem dX3_remove_38 : decode cX3_remove 38 = .ok (.iastore, 1) := by decide +kernel
theorem dX3_remove_39 : decode cX3_remove 39 = .ok (.iconst 1, 1) := by decide +kernel
theorem dX3_remove_40 : decode cX3_remove 40 = .ok (.ireturn, 1) := by decide +kernel
theorem dX3_removeAll_0 : decode cX3_removeAll 0 = .ok (.aload_n 0, 1) := by decide +kernel
theorem dX3_removeAll_1 : decode cX3_removeAll 1 = .ok (.iconst 0, 1) := by decide +kernel
theorem dX3_removeAll_2 : decode cX3_removeAll 2 = .ok (.putfield 9, 3) := by decide +kernel
theorem dX3_removeAll_5 : decode cX3_removeAll 5 = .ok (.return_, 1) := by decide +kernel
theorem dX3_copyFrom_0 : decode cX3_copyFrom 0 = .ok (.aload_n 0, 1) := by decide +kernel
theorem dX3_copyFrom_1 : decode cX3_copyFrom 1 = .ok (.aload_n 1, 1) := by decide +kernel
theorem dX3_copyFrom_2 : decode cX3_copyFrom 2 = .ok (.getfield 9, 3) := by decide +kernel
theorem dX3_copyFrom_5 : decode cX3_copyFrom 5 = .ok (.putfield 9, 3) := by decide +kernel
theorem dX3_copyFrom_8 : decode cX3_copyFrom 8 = .ok (.aload_n 1, 1) := by decide +kernel
theorem dX3_copyFrom_9 : decode cX3_copyFrom 9 = .ok (.getfield 15, 3) := by decide +kernel
theorem dX3_copyFrom_12 : decode cX3_copyFrom 12 = .ok (.iconst 0, 1) := by decide +kernel
theorem dX3_copyFrom_13 : decode cX3_copyFrom 13 = .ok (.aload_n 0, 1) := by decide +kernel
theorem dX3_copyFrom_14 : decode cX3_copyFrom 14 = .ok (.getfield 15, 3) := by decide +kernel
theorem dX3_copyFrom_17 : decode cX3_copyFrom 17 = .ok (.iconst 0, 1) := by decide +kernel
theorem dX3_copyFrom_18 : decode cX3_copyFrom 18 = .ok (.aload_n 0, 1) := by decide +kernel
theorem dX3_copyFrom_19 : decode cX3_copyFrom 19 = .ok (.getfield 15, 3) := by decide +kernel
theorem dX3_copyFrom_22 : decode cX3_copyFrom 22 = .ok (.arraylength, 1) := by decide +kernel
theorem dX3_copyFrom_23 : decode cX3_copyFrom 23 = .ok (.invokestatic 23, 3) := by decide +kernel
theorem dX3_copyFrom_26 : decode cX3_copyFrom 26 = .ok (.return_, 1) := by decide +kernel
set_option maxRecDepth 20000 in
theorem ggX3_indexOfPoint_X2_indexOf : GoodIn wsX3_indexOfPoint wsX2_indexOf := goodIn_r _ [6, 7, 10, 11, 12, 13] (by decide +kernel) (by decide +kernel)
set_option maxRecDepth 20000 in
theorem gX3_indexOfPoint_X2_indexOf : GoodIn wsX3_indexOfPoint (wsV RX3 29 RX2 yX2_indexOf wsX2_indexOf) := goodIn_app (goodIn_of _ (by decide +kernel)) ggX3_indexOfPoint_X2_indexOf
theorem dX3_indexOfPoint_0 : decode cX3_indexOfPoint 0 = .ok (.aload_n 2, 1) := by decide +kernel
theorem dX3_indexOfPoint_1 : decode cX3_indexOfPoint 1 = .ok (.aload_n 0, 1) := by decide +kernel
theorem dX3_indexOfPoint_2 : decode cX3_indexOfPoint 2 = .ok (.getfield 15, 3) := by decide +kernel
theorem dX3_indexOfPoint_5 : decode cX3_indexOfPoint 5 = .ok (.iload_n 1, 1) := by decide +kernel
theorem dX3_indexOfPoint_6 : decode cX3_indexOfPoint 6 = .ok (.iaload, 1) := by decide +kernel
theorem dX3_indexOfPoint_7 : decode cX3_indexOfPoint 7 = .ok (.bipush 64, 2) := by decide +kernel
theorem dX3_indexOfPoint_9 : decode cX3_indexOfPoint 9 = .ok (.irem, 1) := by decide +kernel
theorem dX3_indexOfPoint_10 : decode cX3_indexOfPoint 10 = .ok (.aload_n 0, 1) := by decide +kernel
theorem dX3_indexOfPoint_11 : decode cX3_indexOfPoint 11 = .ok (.getfield 15, 3) := by decide +kernel
theorem dX3_indexOfPoint_14 : decode cX3_indexOfPoint 14 = .ok (.iload_n 1, 1) := by decide +kernel
theorem dX3_indexOfPoint_15 : decode cX3_indexOfPoint 15 = .ok (.iaload, 1) := by decide +kernel
theorem dX3_indexOfPoint_16 : decode cX3_indexOfPoint 16 = .ok (.bipush 64, 2) := by decide +kernel
theorem dX3_indexOfPoint_18 : decode cX3_indexOfPoint 18 = .ok (.idiv, 1) := by decide +kernel
theorem dX3_indexOfPoint_19 : decode cX3_indexOfPoint 19 = .ok (.invokevirtual 29, 3) := by decide +kernel
theorem dX3_indexOfPoint_22 : decode cX3_indexOfPoint 22 = .ok (.ireturn, 1) := by decide +kernel
set_option maxRecDepth 20000 in
theorem ggX3_countBetween_X3_indexOfPoint : GoodIn wsX3_countBetween wsX3_indexOfPoint := goodIn_r _ [6, 7, 8, 9, 10, 11, 12, 13, 14, 15, 16, 17, 18, 19] (by decide +kernel) (by decide +kernel)
set_option maxRecDepth 20000 in
theorem gX3_countBetween_X3_indexOfPoint : GoodIn wsX3_countBetween (wsV RX3 34 RX3 yX3_indexOfPoint wsX3_indexOfPoint) := goodIn_app (goodIn_of _ (by decide +kernel)) ggX3_countBetween_X3_indexOfPoint
theorem dX3_countBetween_0 : decode cX3_countBetween 0 = .ok (.iconst 0, 1) := by decide +kernel
theorem dX3_countBetween_1 : decode cX3_countBetween 1 = .ok (.istore 4, 2) := by decide +kernel
theorem dX3_countBetween_3 : decode cX3_countBetween 3 = .ok (.iconst 0, 1) := by decide +kernel
theorem dX3_countBetween_4 : decode cX3_countBetween 4 = .ok (.istore 5, 2) := by decide +kernel
theorem dX3_countBetween_6 : decode cX3_countBetween 6 = .ok (.iload 5, 2) := by decide +kernel
theorem dX3_countBetween_8 : decode cX3_countBetween 8 = .ok (.aload_n 0, 1) := by decide +kernel
theorem dX3_countBetween_9 : decode cX3_countBetween 9 = .ok (.getfield 9, 3) := by decide +kernel
theorem dX3_countBetween_12 : decode cX3_countBetween 12 = .ok (.if_icmp .ge 33, 3) := by decide +kernel
theorem dX3_countBetween_15 : decode cX3_countBetween 15 = .ok (.aload_n 0, 1) := by decide +kernel
theorem dX3_countBetween_16 : decode cX3_countBetween 16 = .ok (.iload 5, 2) := by decide +kernel
theorem dX3_countBetween_18 : decode cX3_countBetween 18 = .ok (.aload_n 3, 1) := by decide +kernel
theorem dX3_countBetween_19 : decode cX3_countBetween 19 = .ok (.invokevirtual 34, 3) := by decide +kernel
theorem dX3_countBetween_22 : decode cX3_countBetween 22 = .ok (.istore 6, 2) := by decide +kernel
theorem dX3_countBetween_24 : decode cX3_countBetween 24 = .ok (.iload 6, 2) := by decide +kernel
theorem dX3_countBetween_26 : decode cX3_countBetween 26 = .ok (.iload_n 1, 1) := by decide +kernel
theorem dX3_countBetween_27 : decode cX3_countBetween 27 = .ok (.if_icmp .lt 12, 3) := by decide +kernel
theorem dX3_countBetween_30 : decode cX3_countBetween 30 = .ok (.iload 6, 2) := by decide +kernel
theorem dX3_countBetween_32 : decode cX3_countBetween 32 = .ok (.iload_n 2, 1) := by decide +kernel
theorem dX3_countBetween_33 : decode cX3_countBetween 33 = .ok (.if_icmp .ge 6, 3) := by decide +kernel
theorem dX3_countBetween_36 : decode cX3_countBetween 36 = .ok (.iinc 4 1, 3) := by decide +kernel
theorem dX3_countBetween_39 : decode cX3_countBetween 39 = .ok (.iinc 5 1, 3) := by decide +kernel
theorem dX3_countBetween_42 : decode cX3_countBetween 42 = .ok (.goto (-36), 3) := by decide +kernel
theorem dX3_countBetween_45 : decode cX3_countBetween 45 = .ok (.iload 4, 2) := by decide +kernel
theorem dX3_countBetween_47 : decode cX3_countBetween 47 = .ok (.ireturn, 1) := by decide +kernel
set_option maxRecDepth 20000 in
theorem ggX3_findNearest_X3_indexOfPoint : GoodIn wsX3_findNearest wsX3_indexOfPoint := goodIn_r _ [10, 11, 12, 13, 14, 15, 16, 17, 18, 19, 20, 21, 22, 23] (by decide +kernel) (by decide +kernel)
set_option maxRecDepth 20000 in
theorem gX3_findNearest_X3_indexOfPoint : GoodIn wsX3_findNearest (wsV RX3 34 RX3 yX3_indexOfPoint wsX3_indexOfPoint) := goodIn_app (goodIn_of _ (by decide +kernel)) ggX3_findNearest_X3_indexOfPoint
theorem dX3_findNearest_0 : decode cX3_findNearest 0 = .ok (.iconst (-1), 1) := by decide +kernel
theorem dX3_findNearest_1 : decode cX3_findNearest 1 = .ok (.istore_n 3, 1) := by decide +kernel
theorem dX3_findNearest_2 : decode cX3_findNearest 2 = .ok (.iconst 0, 1) := by decide +kernel
theorem dX3_findNearest_3 : decode cX3_findNearest 3 = .ok (.istore 4, 2) := by decide +kernel
theorem dX3_findNearest_5 : decode cX3_findNearest 5 = .ok (.iload 4, 2) := by decide +kernel
theorem dX3_findNearest_7 : decode cX3_findNearest 7 = .ok (.aload_n 0, 1) := by decide +kernel
theorem dX3_findNearest_8 : decode cX3_findNearest 8 = .ok (.getfield 9, 3) := by decide +kernel
theorem dX3_findNearest_11 : decode cX3_findNearest 11 = .ok (.if_icmp .ge 58, 3) := by decide +kernel
theorem dX3_findNearest_14 : decode cX3_findNearest 14 = .ok (.aload_n 0, 1) := by decide +kernel
theorem dX3_findNearest_15 : decode cX3_findNearest 15 = .ok (.iload 4, 2) := by decide +kernel
theorem dX3_findNearest_17 : decode cX3_findNearest 17 = .ok (.aload_n 1, 1) := by decide +kernel
theorem dX3_findNearest_18 : decode cX3_findNearest 18 = .ok (.invokevirtual 34, 3) := by decide +kernel
theorem dX3_findNearest_21 : decode cX3_findNearest 21 = .ok (.istore 5, 2) := by decide +kernel
theorem dX3_findNearest_23 : decode cX3_findNearest 23 = .ok (.iload 5, 2) := by decide +kernel
theorem dX3_findNearest_25 : decode cX3_findNearest 25 = .ok (.iload_n 2, 1) := by decide +kernel
theorem dX3_findNearest_26 : decode cX3_findNearest 26 = .ok (.isub, 1) := by decide +kernel
theorem dX3_findNearest_27 : decode cX3_findNearest 27 = .ok (.invokestatic 38, 3) := by decide +kernel
theorem dX3_findNearest_30 : decode cX3_findNearest 30 = .ok (.iload_n 3, 1) := by decide +kernel
theorem dX3_findNearest_31 : decode cX3_findNearest 31 = .ok (.iload_n 2, 1) := by decide +kernel
theorem dX3_findNearest_32 : decode cX3_findNearest 32 = .ok (.isub, 1) := by decide +kernel
theorem dX3_findNearest_33 : decode cX3_findNearest 33 = .ok (.invokestatic 38, 3) := by decide +kernel
theorem dX3_findNearest_36 : decode cX3_findNearest 36 = .ok (.isub, 1) := by decide +kernel
theorem dX3_findNearest_37 : decode cX3_findNearest 37 = .ok (.istore 6, 2) := by decide +kernel
theorem dX3_findNearest_39 : decode cX3_findNearest 39 = .ok (.iload_n 3, 1) := by decide +kernel
theorem dX3_findNearest_40 : decode cX3_findNearest 40 = .ok (.iconst (-1), 1) := by decide +kernel
theorem dX3_findNearest_41 : decode cX3_findNearest 41 = .ok (.if_icmp .eq 19, 3) := by decide +kernel
theorem dX3_findNearest_44 : decode cX3_findNearest 44 = .ok (.iload 6, 2) := by decide +kernel
theorem dX3_findNearest_46 : decode cX3_findNearest 46 = .ok (.ifCond .lt 14, 3) := by decide +kernel
theorem dX3_findNearest_49 : decode cX3_findNearest 49 = .ok (.iload 6, 2) := by decide +kernel
theorem dX3_findNearest_51 : decode cX3_findNearest 51 = .ok (.ifCond .ne 12, 3) := by decide +kernel
theorem dX3_findNearest_54 : decode cX3_findNearest 54 = .ok (.iload 5, 2) := by decide +kernel
theorem dX3_findNearest_56 : decode cX3_findNearest 56 = .ok (.iload_n 3, 1) := by decide +kernel
theorem dX3_findNearest_57 : decode cX3_findNearest 57 = .ok (.if_icmp .ge 6, 3) := by decide +kernel
theorem dX3_findNearest_60 : decode cX3_findNearest 60 = .ok (.iload 5, 2) := by decide +kernel
theorem dX3_findNearest_62 : decode cX3_findNearest 62 = .ok (.istore_n 3, 1) := by decide +kernel
theorem dX3_findNearest_63 : decode cX3_findNearest 63 = .ok (.iinc 4 1, 3) := by decide +kernel
theorem dX3_findNearest_66 : decode cX3_findNearest 66 = .ok (.goto (-61), 3) := by decide +kernel
theorem dX3_findNearest_69 : decode cX3_findNearest 69 = .ok (.iload_n 3, 1) := by decide +kernel
theorem dX3_findNearest_70 : decode cX3_findNearest 70 = .ok (.ireturn, 1) := by decide +kernel
theorem dX4_init_0 : decode cX4_init 0 = .ok (.aload_n 0, 1) := by decide +kernel
theorem dX4_init_1 : decode cX4_init 1 = .ok (.invokespecial 1, 3) := by decide +kernel
theorem dX4_init_4 : decode cX4_init 4 = .ok (.aload_n 0, 1) := by decide +kernel
theorem dX4_init_5 : decode cX4_init 5 = .ok (.iconst 0, 1) := by decide +kernel
theorem dX4_init_6 : decode cX4_init 6 = .ok (.putfield 7, 3) := by decide +kernel
theorem dX4_init_9 : decode cX4_init 9 = .ok (.aload_n 0, 1) := by decide +kernel
theorem dX4_init_10 : decode cX4_init 10 = .ok (.iconst 0, 1) := by decide +kernel
theorem dX4_init_11 : decode cX4_init 11 = .ok (.putfield 13, 3) := by decide +kernel
theorem dX4_init_14 : decode cX4_init 14 = .ok (.aload_n 0, 1) := by decide +kernel
theorem dX4_init_15 : decode cX4_init 15 = .ok (.iconst 0, 1) := by decide +kernel
theorem dX4_init_16 : decode cX4_init 16 = .ok (.putfield 16, 3) := by decide +kernel
theorem dX4_init_19 : decode cX4_init 19 = .ok (.aload_n 0, 1) := by decide +kernel
theorem dX4_init_20 : decode cX4_init 20 = .ok (.iconst 0, 1) := by decide +kernel
theorem dX4_init_21 : decode cX4_init 21 = .ok (.putfield 19, 3) := by decide +kernel
theorem dX4_init_24 : decode cX4_init 24 = .ok (.return_, 1) := by decide +kernel
theorem dX4_setEdges_0 : decode cX4_setEdges 0 = .ok (.aload_n 0, 1) := by decide +kernel
theorem dX4_setEdges_1 : decode cX4_setEdges 1 = .ok (.iload_n 1, 1) := by decide +kernel
theorem dX4_setEdges_2 : decode cX4_setEdges 2 = .ok (.putfield 7, 3) := by decide +kernel
theorem dX4_setEdges_5 : decode cX4_setEdges 5 = .ok (.aload_n 0, 1) := by decide +kernel
theorem dX4_setEdges_6 : decode cX4_setEdges 6 = .ok (.iload_n 2, 1) := by decide +kernel
theorem dX4_setEdges_7 : decode cX4_setEdges 7 = .ok (.putfield 13, 3) := by decide +kernel
theorem dX4_setEdges_10 : decode cX4_setEdges 10 = .ok (.aload_n 0, 1) := by decide +kernel
theorem dX4_setEdges_11 : decode cX4_setEdges 11 = .ok (.iload_n 3, 1) := by decide +kernel
theorem dX4_setEdges_12 : decode cX4_setEdges 12 = .ok (.putfield 16, 3) := by decide +kernel
theorem dX4_setEdges_15 : decode cX4_setEdges 15 = .ok (.aload_n 0, 1) := by decide +kernel
theorem dX4_setEdges_16 : decode cX4_setEdges 16 = .ok (.iload 4, 2) := by decide +kernel
theorem dX4_setEdges_18 : decode cX4_setEdges 18 = .ok (.putfield 19, 3) := by decide +kernel
theorem dX4_setEdges_21 : decode cX4_setEdges 21 = .ok (.return_, 1) := by decide +kernel
set_option maxRecDepth 20000 in
theorem ggX4_setWhole_X4_setEdges : GoodIn wsX4_setWhole wsX4_setEdges := goodIn_r _ [5, 6, 7, 8, 9, 10, 11, 12, 13] (by decide +kernel) (by decide +kernel)
set_option maxRecDepth 20000 in
theorem gX4_setWhole_X4_setEdges : GoodIn wsX4_setWhole (wsV RX4 22 RX4 yX4_setEdges wsX4_setEdges) := goodIn_app (goodIn_of _ (by decide +kernel)) ggX4_setWhole_X4_setEdges
theorem dX4_setWhole_0 : decode cX4_setWhole 0 = .ok (.aload_n 0, 1) := by decide +kernel
theorem dX4_setWhole_1 : decode cX4_setWhole 1 = .ok (.iconst 0, 1) := by decide +kernel
theorem dX4_setWhole_2 : decode cX4_setWhole 2 = .ok (.iconst 0, 1) := by decide +kernel
theorem dX4_setWhole_3 : decode cX4_setWhole 3 = .ok (.iload_n 1, 1) := by decide +kernel
theorem dX4_setWhole_4 : decode cX4_setWhole 4 = .ok (.iconst 1, 1) := by decide +kernel
theorem dX4_setWhole_5 : decode cX4_setWhole 5 = .ok (.isub, 1) := by decide +kernel
theorem dX4_setWhole_6 : decode cX4_setWhole 6 = .ok (.iload_n 1, 1) := by decide +kernel
theorem dX4_setWhole_7 : decode cX4_setWhole 7 = .ok (.iconst 1, 1) := by decide +kernel
theorem dX4_setWhole_8 : decode cX4_setWhole 8 = .ok (.isub, 1) := by decide +kernel
theorem dX4_setWhole_9 : decode cX4_setWhole 9 = .ok (.invokevirtual 22, 3) := by decide +kernel
theorem dX4_setWhole_12 : decode cX4_setWhole 12 = .ok (.return_, 1) := by decide +kernel
theorem dX4_holds_0 : decode cX4_holds 0 = .ok (.iload_n 1, 1) := by decide +kernel
theorem dX4_holds_1 : decode cX4_holds 1 = .ok (.aload_n 0, 1) := by decide +kernel
theorem dX4_holds_2 : decode cX4_holds 2 = .ok (.getfield 7, 3) := by decide +kernel
theorem dX4_holds_5 : decode cX4_holds 5 = .ok (.if_icmp .lt 31, 3) := by decide +kernel
theorem dX4_holds_8 : decode cX4_holds 8 = .ok (.iload_n 1, 1) := by decide +kernel
theorem dX4_holds_9 : decode cX4_holds 9 = .ok (.aload_n 0, 1) := by decide +kernel
theorem dX4_holds_10 : decode cX4_holds 10 = .ok (.getfield 16, 3) := by decide +kernel
theorem dX4_holds_13 : decode cX4_holds 13 = .ok (.if_icmp .gt 23, 3) := by decide +kernel
theorem dX4_holds_16 : decode cX4_holds 16 = .ok (.iload_n 2, 1) := by decide +kernel
theorem dX4_holds_17 : decode cX4_holds 17 = .ok (.aload_n 0, 1) := by decide +kernel
theorem dX4_holds_18 : decode cX4_holds 18 = .ok (.getfield 13, 3) := by decide +kernel
theorem dX4_holds_21 : decode cX4_holds 21 = .ok (.if_icmp .lt 15, 3) := by decide +kernel
theorem dX4_holds_24 : decode cX4_holds 24 = .ok (.iload_n 2, 1) := by decide +kernel
theorem dX4_holds_25 : decode cX4_holds 25 = .ok (.aload_n 0, 1) := by decide +kernel
theorem dX4_holds_26 : decode cX4_holds 26 = .ok (.getfield 19, 3) := by decide +kernel
theorem dX4_holds_29 : decode cX4_holds 29 = .ok (.if_icmp .gt 7, 3) := by decide +kernel
theorem dX4_holds_32 : decode cX4_holds 32 = .ok (.iconst 1, 1) := by decide +kernel
theorem dX4_holds_33 : decode cX4_holds 33 = .ok (.goto 4, 3) := by decide +kernel
theorem dX4_holds_36 : decode cX4_holds 36 = .ok (.iconst 0, 1) := by decide +kernel
theorem dX4_holds_37 : decode cX4_holds 37 = .ok (.ireturn, 1) := by decide +kernel
set_option maxRecDepth 20000 in
theorem ggX5_init_X6_init : GoodIn wsX5_init wsX6_init := goodIn_r _ [25, 26, 2, 3, 27, 28, 29, 30, 31, 32, 33, 58, 59] (by decide +kernel) (by decide +kernel)
set_option maxRecDepth 20000 in
theorem gX5_init_X6_init : GoodIn wsX5_init (wsX6_init) := ggX5_init_X6_init
set_option maxRecDepth 20000 in
theorem ggX5_init_X4_init : GoodIn wsX5_init wsX4_init := goodIn_r _ [35, 36, 2, 3, 37, 38, 39, 40, 60, 61, 62, 63] (by decide +kernel) (by decide +kernel)
set_option maxRecDepth 20000 in
theorem gX5_init_X4_init_n27 : GoodIn wsX5_init (wsX4_init) := ggX5_init_X4_init
set_option maxRecDepth 20000 in
theorem ggX5_init_X3_init : GoodIn wsX5_init wsX3_init := goodIn_r _ [42, 43, 2, 3, 44, 28, 45, 64, 65] (by decide +kernel) (by decide +kernel)
set_option maxRecDepth 20000 in
theorem gX5_init_X3_init_n34 : GoodIn wsX5_init (wsX3_init) := ggX5_init_X3_init
set_option maxRecDepth 20000 in
theorem ggX5_init_X1_init : GoodIn wsX5_init wsX1_init := goodIn_r _ [47, 48, 2, 3, 49, 28, 50, 66, 67] (by decide +kernel) (by decide +kernel)
set_option maxRecDepth 20000 in
theorem gX5_init_X1_init_n44 : GoodIn wsX5_init (wsX1_init) := ggX5_init_X1_init
theorem dX5_init_0 : decode cX5_init 0 = .ok (.aload_n 0, 1) := by decide +kernel
theorem dX5_init_1 : decode cX5_init 1 = .ok (.invokespecial 3, 3) := by decide +kernel
theorem dX5_init_4 : decode cX5_init 4 = .ok (.aload_n 0, 1) := by decide +kernel
theorem dX5_init_5 : decode cX5_init 5 = .ok (.iconst 3, 1) := by decide +kernel
theorem dX5_init_6 : decode cX5_init 6 = .ok (.putfield 9, 3) := by decide +kernel
theorem dX5_init_9 : decode cX5_init 9 = .ok (.aload_n 0, 1) := by decide +kernel
theorem dX5_init_10 : decode cX5_init 10 = .ok (.iconst 0, 1) := by decide +kernel
theorem dX5_init_11 : decode cX5_init 11 = .ok (.putfield 15, 3) := by decide +kernel
theorem dX5_init_14 : decode cX5_init 14 = .ok (.aload_n 0, 1) := by decide +kernel
theorem dX5_init_15 : decode cX5_init 15 = .ok (.new 18, 3) := by decide +kernel
theorem dX5_init_18 : decode cX5_init 18 = .ok (.dup, 1) := by decide +kernel
theorem dX5_init_19 : decode cX5_init 19 = .ok (.invokespecial 20, 3) := by decide +kernel
theorem dX5_init_22 : decode cX5_init 22 = .ok (.putfield 21, 3) := by decide +kernel
theorem dX5_init_25 : decode cX5_init 25 = .ok (.aload_n 0, 1) := by decide +kernel
theorem dX5_init_26 : decode cX5_init 26 = .ok (.new 25, 3) := by decide +kernel
theorem dX5_init_29 : decode cX5_init 29 = .ok (.dup, 1) := by decide +kernel
theorem dX5_init_30 : decode cX5_init 30 = .ok (.invokespecial 27, 3) := by decide +kernel
theorem dX5_init_33 : decode cX5_init 33 = .ok (.putfield 28, 3) := by decide +kernel
theorem dX5_init_36 : decode cX5_init 36 = .ok (.aload_n 0, 1) := by decide +kernel
theorem dX5_init_37 : decode cX5_init 37 = .ok (.new 32, 3) := by decide +kernel
theorem dX5_init_40 : decode cX5_init 40 = .ok (.dup, 1) := by decide +kernel
theorem dX5_init_41 : decode cX5_init 41 = .ok (.invokespecial 34, 3) := by decide +kernel
theorem dX5_init_44 : decode cX5_init 44 = .ok (.putfield 35, 3) := by decide +kernel
theorem dX5_init_47 : decode cX5_init 47 = .ok (.aload_n 0, 1) := by decide +kernel
theorem dX5_init_48 : decode cX5_init 48 = .ok (.iconst 2, 1) := by decide +kernel
theorem dX5_init_49 : decode cX5_init 49 = .ok (.putfield 39, 3) := by decide +kernel
theorem dX5_init_52 : decode cX5_init 52 = .ok (.aload_n 0, 1) := by decide +kernel
theorem dX5_init_53 : decode cX5_init 53 = .ok (.new 42, 3) := by decide +kernel
theorem dX5_init_56 : decode cX5_init 56 = .ok (.dup, 1) := by decide +kernel
theorem dX5_init_57 : decode cX5_init 57 = .ok (.invokespecial 44, 3) := by decide +kernel
theorem dX5_init_60 : decode cX5_init 60 = .ok (.putfield 45, 3) := by decide +kernel
theorem dX5_init_63 : decode cX5_init 63 = .ok (.return_, 1) := by decide +kernel
theorem dX5_stateCount_0 : decode cX5_stateCount 0 = .ok (.aload_n 0, 1) := by decide +kernel
theorem dX5_stateCount_1 : decode cX5_stateCount 1 = .ok (.getfield 15, 3) := by decide +kernel
theorem dX5_stateCount_4 : decode cX5_stateCount 4 = .ok (.lookupswitch 38 #[(1, 28), (2, 30)], 28) := by decide +kernel
theorem dX5_stateCount_32 : decode cX5_stateCount 32 = .ok (.iconst 4, 1) := by decide +kernel
theorem dX5_stateCount_33 : decode cX5_stateCount 33 = .ok (.ireturn, 1) := by decide +kernel
theorem dX5_stateCount_34 : decode cX5_stateCount 34 = .ok (.aload_n 0, 1) := by decide +kernel
theorem dX5_stateCount_35 : decode cX5_stateCount 35 = .ok (.getfield 21, 3) := by decide +kernel
theorem dX5_stateCount_38 : decode cX5_stateCount 38 = .ok (.getfield 49, 3) := by decide +kernel
theorem dX5_stateCount_41 : decode cX5_stateCount 41 = .ok (.ireturn, 1) := by decide +kernel
theorem dX5_stateCount_42 : decode cX5_stateCount 42 = .ok (.iconst 1, 1) := by decide +kernel
theorem dX5_stateCount_43 : decode cX5_stateCount 43 = .ok (.ireturn, 1) := by decide +kernel
theorem dX5_visitsOfCurve_0 : decode cX5_visitsOfCurve 0 = .ok (.aload_n 0, 1) := by decide +kernel
theorem dX5_visitsOfCurve_1 : decode cX5_visitsOfCurve 1 = .ok (.getfield 15, 3) := by decide +kernel
theorem dX5_visitsOfCurve_4 : decode cX5_visitsOfCurve 4 = .ok (.lookupswitch 40 #[(1, 28), (2, 32)], 28) := by decide +kernel
theorem dX5_visitsOfCurve_32 : decode cX5_visitsOfCurve 32 = .ok (.getstatic 52, 3) := by decide +kernel
theorem dX5_visitsOfCurve_35 : decode cX5_visitsOfCurve 35 = .ok (.areturn, 1) := by decide +kernel
theorem dX5_visitsOfCurve_36 : decode cX5_visitsOfCurve 36 = .ok (.aload_n 0, 1) := by decide +kernel
theorem dX5_visitsOfCurve_37 : decode cX5_visitsOfCurve 37 = .ok (.getfield 21, 3) := by decide +kernel
theorem dX5_visitsOfCurve_40 : decode cX5_visitsOfCurve 40 = .ok (.getfield 56, 3) := by decide +kernel
theorem dX5_visitsOfCurve_43 : decode cX5_visitsOfCurve 43 = .ok (.areturn, 1) := by decide +kernel
theorem dX5_visitsOfCurve_44 : decode cX5_visitsOfCurve 44 = .ok (.getstatic 59, 3) := by decide +kernel
theorem dX5_visitsOfCurve_47 : decode cX5_visitsOfCurve 47 = .ok (.areturn, 1) := by decide +kernel
set_option maxRecDepth 20000 in
theorem ggX5_copyFrom_X6_copyFrom : GoodIn wsX5_copyFrom wsX6_copyFrom := goodIn_r _ [16, 17, 18, 19, 20, 21, 22, 59, 60] (by decide +kernel) (by decide +kernel)
set_option maxRecDepth 20000 in
theorem gX5_copyFrom_X6_copyFrom : GoodIn wsX5_copyFrom (wsV RX5 62 RX6 yX6_copyFrom wsX6_copyFrom) := goodIn_app (goodIn_of _ (by decide +kernel)) ggX5_copyFrom_X6_copyFrom
set_option maxRecDepth 20000 in
theorem ggX5_copyFrom_X4_setEdges : GoodIn wsX5_copyFrom wsX4_setEdges := goodIn_r _ [27, 28, 29, 30, 31, 55, 56, 57, 58] (by decide +kernel) (by decide +kernel)
set_option maxRecDepth 20000 in
theorem gX5_copyFrom_X4_setEdges : GoodIn wsX5_copyFrom (wsV RX5 78 RX4 yX4_setEdges wsX4_setEdges) := goodIn_app (goodIn_of _ (by decide +kernel)) ggX5_copyFrom_X4_setEdges
set_option maxRecDepth 20000 in
theorem ggX5_copyFrom_X3_copyFrom : GoodIn wsX5_copyFrom wsX3_copyFrom := goodIn_r _ [36, 37, 38, 39, 20, 21, 22, 61, 62] (by decide +kernel) (by decide +kernel)
set_option maxRecDepth 20000 in
theorem gX5_copyFrom_X3_copyFrom : GoodIn wsX5_copyFrom (wsV RX5 82 RX3 yX3_copyFrom wsX3_copyFrom) := goodIn_app (goodIn_of _ (by decide +kernel)) ggX5_copyFrom_X3_copyFrom
set_option maxRecDepth 20000 in
theorem ggX5_copyFrom_X1_copyFrom : GoodIn wsX5_copyFrom wsX1_copyFrom := goodIn_r _ [44, 45, 46, 47, 20, 21, 22, 63, 64] (by decide +kernel) (by decide +kernel)
set_option maxRecDepth 20000 in
theorem gX5_copyFrom_X1_copyFrom : GoodIn wsX5_copyFrom (wsV RX5 85 RX1 yX1_copyFrom wsX1_copyFrom) := goodIn_app (goodIn_of _ (by decide +kernel)) ggX5_copyFrom_X1_copyFrom
theorem dX5_copyFrom_0 : decode cX5_copyFrom 0 = .ok (.aload_n 0, 1) := by decide +kernel
theorem dX5_copyFrom_1 : decode cX5_copyFrom 1 = .ok (.aload_n 1, 1) := by decide +kernel
theorem dX5_copyFrom_2 : decode cX5_copyFrom 2 = .ok (.getfield 9, 3) := by decide +kernel
theorem dX5_copyFrom_5 : decode cX5_copyFrom 5 = .ok (.putfield 9, 3) := by decide +kernel
theorem dX5_copyFrom_8 : decode cX5_copyFrom 8 = .ok (.aload_n 0, 1) := by decide +kernel
theorem dX5_copyFrom_9 : decode cX5_copyFrom 9 = .ok (.aload_n 1, 1) := by decide +kernel
theorem dX5_copyFrom_10 : decode cX5_copyFrom 10 = .ok (.getfield 15, 3) := by decide +kernel
theorem dX5_copyFrom_13 : decode cX5_copyFrom 13 = .ok (.putfield 15, 3) := by decide +kernel
theorem dX5_copyFrom_16 : decode cX5_copyFrom 16 = .ok (.aload_n 0, 1) := by decide +kernel
theorem dX5_copyFrom_17 : decode cX5_copyFrom 17 = .ok (.getfield 21, 3) := by decide +kernel
theorem dX5_copyFrom_20 : decode cX5_copyFrom 20 = .ok (.aload_n 1, 1) := by decide +kernel
theorem dX5_copyFrom_21 : decode cX5_copyFrom 21 = .ok (.getfield 21, 3) := by decide +kernel
theorem dX5_copyFrom_24 : decode cX5_copyFrom 24 = .ok (.invokevirtual 62, 3) := by decide +kernel
theorem dX5_copyFrom_27 : decode cX5_copyFrom 27 = .ok (.aload_n 0, 1) := by decide +kernel
theorem dX5_copyFrom_28 : decode cX5_copyFrom 28 = .ok (.getfield 28, 3) := by decide +kernel
theorem dX5_copyFrom_31 : decode cX5_copyFrom 31 = .ok (.aload_n 1, 1) := by decide +kernel
theorem dX5_copyFrom_32 : decode cX5_copyFrom 32 = .ok (.getfield 28, 3) := by decide +kernel
theorem dX5_copyFrom_35 : decode cX5_copyFrom 35 = .ok (.getfield 66, 3) := by decide +kernel
theorem dX5_copyFrom_38 : decode cX5_copyFrom 38 = .ok (.aload_n 1, 1) := by decide +kernel
theorem dX5_copyFrom_39 : decode cX5_copyFrom 39 = .ok (.getfield 28, 3) := by decide +kernel
theorem dX5_copyFrom_42 : decode cX5_copyFrom 42 = .ok (.getfield 69, 3) := by decide +kernel
theorem dX5_copyFrom_45 : decode cX5_copyFrom 45 = .ok (.aload_n 1, 1) := by decide +kernel
theorem dX5_copyFrom_46 : decode cX5_copyFrom 46 = .ok (.getfield 28, 3) := by decide +kernel
theorem dX5_copyFrom_49 : decode cX5_copyFrom 49 = .ok (.getfield 72, 3) := by decide +kernel
theorem dX5_copyFrom_52 : decode cX5_copyFrom 52 = .ok (.aload_n 1, 1) := by decide +kernel
theorem dX5_copyFrom_53 : decode cX5_copyFrom 53 = .ok (.getfield 28, 3) := by decide +kernel
theorem dX5_copyFrom_56 : decode cX5_copyFrom 56 = .ok (.getfield 75, 3) := by decide +kernel
theorem dX5_copyFrom_59 : decode cX5_copyFrom 59 = .ok (.invokevirtual 78, 3) := by decide +kernel
theorem dX5_copyFrom_62 : decode cX5_copyFrom 62 = .ok (.aload_n 0, 1) := by decide +kernel
theorem dX5_copyFrom_63 : decode cX5_copyFrom 63 = .ok (.getfield 35, 3) := by decide +kernel
theorem dX5_copyFrom_66 : decode cX5_copyFrom 66 = .ok (.aload_n 1, 1) := by decide +kernel
theorem dX5_copyFrom_67 : decode cX5_copyFrom 67 = .ok (.getfield 35, 3) := by decide +kernel
theorem dX5_copyFrom_70 : decode cX5_copyFrom 70 = .ok (.invokevirtual 82, 3) := by decide +kernel
theorem dX5_copyFrom_73 : decode cX5_copyFrom 73 = .ok (.aload_n 0, 1) := by decide +kernel
theorem dX5_copyFrom_74 : decode cX5_copyFrom 74 = .ok (.aload_n 1, 1) := by decide +kernel
theorem dX5_copyFrom_75 : decode cX5_copyFrom 75 = .ok (.getfield 39, 3) := by decide +kernel
theorem dX5_copyFrom_78 : decode cX5_copyFrom 78 = .ok (.putfield 39, 3) := by decide +kernel
theorem dX5_copyFrom_81 : decode cX5_copyFrom 81 = .ok (.aload_n 0, 1) := by decide +kernel
theorem dX5_copyFrom_82 : decode cX5_copyFrom 82 = .ok (.getfield 45, 3) := by decide +kernel
theorem dX5_copyFrom_85 : decode cX5_copyFrom 85 = .ok (.aload_n 1, 1) := by decide +kernel
theorem dX5_copyFrom_86 : decode cX5_copyFrom 86 = .ok (.getfield 45, 3) := by decide +kernel
theorem dX5_copyFrom_89 : decode cX5_copyFrom 89 = .ok (.invokevirtual 85, 3) := by decide +kernel
theorem dX5_copyFrom_92 : decode cX5_copyFrom 92 = .ok (.return_, 1) := by decide +kernel
theorem dX6_init_0 : decode cX6_init 0 = .ok (.aload_n 0, 1) := by decide +kernel
theorem dX6_init_1 : decode cX6_init 1 = .ok (.invokespecial 3, 3) := by decide +kernel
theorem dX6_init_4 : decode cX6_init 4 = .ok (.aload_n 0, 1) := by decide +kernel
theorem dX6_init_5 : decode cX6_init 5 = .ok (.iconst 1, 1) := by decide +kernel
theorem dX6_init_6 : decode cX6_init 6 = .ok (.putfield 9, 3) := by decide +kernel
theorem dX6_init_9 : decode cX6_init 9 = .ok (.aload_n 0, 1) := by decide +kernel
theorem dX6_init_10 : decode cX6_init 10 = .ok (.bipush 32, 2) := by decide +kernel
theorem dX6_init_12 : decode cX6_init 12 = .ok (.newarray .int, 2) := by decide +kernel
theorem dX6_init_14 : decode cX6_init 14 = .ok (.putfield 15, 3) := by decide +kernel
theorem dX6_init_17 : decode cX6_init 17 = .ok (.getstatic 19, 3) := by decide +kernel
theorem dX6_init_20 : decode cX6_init 20 = .ok (.iconst 0, 1) := by decide +kernel
theorem dX6_init_21 : decode cX6_init 21 = .ok (.aload_n 0, 1) := by decide +kernel
theorem dX6_init_22 : decode cX6_init 22 = .ok (.getfield 15, 3) := by decide +kernel
theorem dX6_init_25 : decode cX6_init 25 = .ok (.iconst 0, 1) := by decide +kernel
theorem dX6_init_26 : decode cX6_init 26 = .ok (.iconst 4, 1) := by decide +kernel
theorem dX6_init_27 : decode cX6_init 27 = .ok (.invokestatic 22, 3) := by decide +kernel
theorem dX6_init_30 : decode cX6_init 30 = .ok (.return_, 1) := by decide +kernel
set_option maxRecDepth 20000 in
theorem ggX6_takeFrom_X8_countStates : GoodIn wsX6_takeFrom wsX8_countStates := goodIn_r _ [7, 8, 16, 17] (by decide +kernel) (by decide +kernel)
set_option maxRecDepth 20000 in
theorem gX6_takeFrom_X8_countStates : GoodIn wsX6_takeFrom (wsV RX6 28 RX8 yX8_countStates wsX8_countStates) := goodIn_app (goodIn_of _ (by decide +kernel)) ggX6_takeFrom_X8_countStates
set_option maxRecDepth 20000 in
theorem ggX6_takeFrom_X8_digitAt : GoodIn wsX6_takeFrom wsX8_digitAt := goodIn_r _ [12, 13, 16, 17] (by decide +kernel) (by decide +kernel)
set_option maxRecDepth 20000 in
theorem gX6_takeFrom_X8_digitAt : GoodIn wsX6_takeFrom (wsV RX6 34 RX8 yX8_digitAt wsX8_digitAt) := goodIn_app (goodIn_of _ (by decide +kernel)) ggX6_takeFrom_X8_digitAt
theorem dX6_takeFrom_0 : decode cX6_takeFrom 0 = .ok (.aload_n 0, 1) := by decide +kernel
theorem dX6_takeFrom_1 : decode cX6_takeFrom 1 = .ok (.aload_n 1, 1) := by decide +kernel
theorem dX6_takeFrom_2 : decode cX6_takeFrom 2 = .ok (.invokevirtual 28, 3) := by decide +kernel
theorem dX6_takeFrom_5 : decode cX6_takeFrom 5 = .ok (.putfield 9, 3) := by decide +kernel
theorem dX6_takeFrom_8 : decode cX6_takeFrom 8 = .ok (.iconst 0, 1) := by decide +kernel
theorem dX6_takeFrom_9 : decode cX6_takeFrom 9 = .ok (.istore_n 2, 1) := by decide +kernel
theorem dX6_takeFrom_10 : decode cX6_takeFrom 10 = .ok (.iload_n 2, 1) := by decide +kernel
theorem dX6_takeFrom_11 : decode cX6_takeFrom 11 = .ok (.aload_n 0, 1) := by decide +kernel
theorem dX6_takeFrom_12 : decode cX6_takeFrom 12 = .ok (.getfield 9, 3) := by decide +kernel
theorem dX6_takeFrom_15 : decode cX6_takeFrom 15 = .ok (.if_icmp .ge 54, 3) := by decide +kernel
theorem dX6_takeFrom_18 : decode cX6_takeFrom 18 = .ok (.iconst 0, 1) := by decide +kernel
theorem dX6_takeFrom_19 : decode cX6_takeFrom 19 = .ok (.istore_n 3, 1) := by decide +kernel
theorem dX6_takeFrom_20 : decode cX6_takeFrom 20 = .ok (.iload_n 3, 1) := by decide +kernel
theorem dX6_takeFrom_21 : decode cX6_takeFrom 21 = .ok (.iconst 4, 1) := by decide +kernel
theorem dX6_takeFrom_22 : decode cX6_takeFrom 22 = .ok (.if_icmp .ge 41, 3) := by decide +kernel
theorem dX6_takeFrom_25 : decode cX6_takeFrom 25 = .ok (.aload_n 1, 1) := by decide +kernel
theorem dX6_takeFrom_26 : decode cX6_takeFrom 26 = .ok (.iload_n 2, 1) := by decide +kernel
theorem dX6_takeFrom_27 : decode cX6_takeFrom 27 = .ok (.iload_n 3, 1) := by decide +kernel
theorem dX6_takeFrom_28 : decode cX6_takeFrom 28 = .ok (.invokevirtual 34, 3) := by decide +kernel
theorem dX6_takeFrom_31 : decode cX6_takeFrom 31 = .ok (.istore 4, 2) := by decide +kernel
theorem dX6_takeFrom_33 : decode cX6_takeFrom 33 = .ok (.aload_n 0, 1) := by decide +kernel
theorem dX6_takeFrom_34 : decode cX6_takeFrom 34 = .ok (.getfield 15, 3) := by decide +kernel
theorem dX6_takeFrom_37 : decode cX6_takeFrom 37 = .ok (.iconst 4, 1) := by decide +kernel
theorem dX6_takeFrom_38 : decode cX6_takeFrom 38 = .ok (.iload_n 2, 1) := by decide +kernel
theorem dX6_takeFrom_39 : decode cX6_takeFrom 39 = .ok (.imul, 1) := by decide +kernel
theorem dX6_takeFrom_40 : decode cX6_takeFrom 40 = .ok (.iload_n 3, 1) := by decide +kernel
theorem dX6_takeFrom_41 : decode cX6_takeFrom 41 = .ok (.iadd, 1) := by decide +kernel
theorem dX6_takeFrom_42 : decode cX6_takeFrom 42 = .ok (.bipush 10, 2) := by decide +kernel
theorem dX6_takeFrom_44 : decode cX6_takeFrom 44 = .ok (.iload 4, 2) := by decide +kernel
theorem dX6_takeFrom_46 : decode cX6_takeFrom 46 = .ok (.imul, 1) := by decide +kernel
theorem dX6_takeFrom_47 : decode cX6_takeFrom 47 = .ok (.aload_n 1, 1) := by decide +kernel
theorem dX6_takeFrom_48 : decode cX6_takeFrom 48 = .ok (.iload_n 2, 1) := by decide +kernel
theorem dX6_takeFrom_49 : decode cX6_takeFrom 49 = .ok (.iconst 4, 1) := by decide +kernel
theorem dX6_takeFrom_50 : decode cX6_takeFrom 50 = .ok (.iload_n 3, 1) := by decide +kernel
theorem dX6_takeFrom_51 : decode cX6_takeFrom 51 = .ok (.iadd, 1) := by decide +kernel
theorem dX6_takeFrom_52 : decode cX6_takeFrom 52 = .ok (.invokevirtual 34, 3) := by decide +kernel
theorem dX6_takeFrom_55 : decode cX6_takeFrom 55 = .ok (.iadd, 1) := by decide +kernel
theorem dX6_takeFrom_56 : decode cX6_takeFrom 56 = .ok (.iastore, 1) := by decide +kernel
theorem dX6_takeFrom_57 : decode cX6_takeFrom 57 = .ok (.iinc 3 1, 3) := by decide +kernel
theorem dX6_takeFrom_60 : decode cX6_takeFrom 60 = .ok (.goto (-40), 3) := by decide +kernel
theorem dX6_takeFrom_63 : decode cX6_takeFrom 63 = .ok (.iinc 2 1, 3) := by decide +kernel
theorem dX6_takeFrom_66 : decode cX6_takeFrom 66 = .ok (.goto (-56), 3) := by decide +kernel
theorem dX6_takeFrom_69 : decode cX6_takeFrom 69 = .ok (.return_, 1) := by decide +kernel
theorem dX6_copyFrom_0 : decode cX6_copyFrom 0 = .ok (.aload_n 0, 1) := by decide +kernel
theorem dX6_copyFrom_1 : decode cX6_copyFrom 1 = .ok (.aload_n 1, 1) := by decide +kernel
theorem dX6_copyFrom_2 : decode cX6_copyFrom 2 = .ok (.getfield 9, 3) := by decide +kernel
theorem dX6_copyFrom_5 : decode cX6_copyFrom 5 = .ok (.putfield 9, 3) := by decide +kernel
theorem dX6_copyFrom_8 : decode cX6_copyFrom 8 = .ok (.aload_n 1, 1) := by decide +kernel
theorem dX6_copyFrom_9 : decode cX6_copyFrom 9 = .ok (.getfield 15, 3) := by decide +kernel
theorem dX6_copyFrom_12 : decode cX6_copyFrom 12 = .ok (.iconst 0, 1) := by decide +kernel
theorem dX6_copyFrom_13 : decode cX6_copyFrom 13 = .ok (.aload_n 0, 1) := by decide +kernel
theorem dX6_copyFrom_14 : decode cX6_copyFrom 14 = .ok (.getfield 15, 3) := by decide +kernel
theorem dX6_copyFrom_17 : decode cX6_copyFrom 17 = .ok (.iconst 0, 1) := by decide +kernel
theorem dX6_copyFrom_18 : decode cX6_copyFrom 18 = .ok (.aload_n 0, 1) := by decide +kernel
theorem dX6_copyFrom_19 : decode cX6_copyFrom 19 = .ok (.getfield 15, 3) := by decide +kernel
theorem dX6_copyFrom_22 : decode cX6_copyFrom 22 = .ok (.arraylength, 1) := by decide +kernel
theorem dX6_copyFrom_23 : decode cX6_copyFrom 23 = .ok (.invokestatic 22, 3) := by decide +kernel
theorem dX6_copyFrom_26 : decode cX6_copyFrom 26 = .ok (.return_, 1) := by decide +kernel
theorem dX7_init_0 : decode cX7_init 0 = .ok (.aload_n 0, 1) := by decide +kernel
theorem dX7_init_1 : decode cX7_init 1 = .ok (.invokespecial 3, 3) := by decide +kernel
theorem dX7_init_4 : decode cX7_init 4 = .ok (.aload_n 0, 1) := by decide +kernel
theorem dX7_init_5 : decode cX7_init 5 = .ok (.iconst 0, 1) := by decide +kernel
theorem dX7_init_6 : decode cX7_init 6 = .ok (.putfield 9, 3) := by decide +kernel
theorem dX7_init_9 : decode cX7_init 9 = .ok (.aload_n 0, 1) := by decide +kernel
theorem dX7_init_10 : decode cX7_init 10 = .ok (.bipush 64, 2) := by decide +kernel
theorem dX7_init_12 : decode cX7_init 12 = .ok (.newarray .int, 2) := by decide +kernel
theorem dX7_init_14 : decode cX7_init 14 = .ok (.putfield 15, 3) := by decide +kernel
theorem dX7_init_17 : decode cX7_init 17 = .ok (.aload_n 0, 1) := by decide +kernel
theorem dX7_init_18 : decode cX7_init 18 = .ok (.aload_n 1, 1) := by decide +kernel
theorem dX7_init_19 : decode cX7_init 19 = .ok (.putfield 19, 3) := by decide +kernel
theorem dX7_init_22 : decode cX7_init 22 = .ok (.aload_n 0, 1) := by decide +kernel
theorem dX7_init_23 : decode cX7_init 23 = .ok (.aload_n 2, 1) := by decide +kernel
theorem dX7_init_24 : decode cX7_init 24 = .ok (.putfield 23, 3) := by decide +kernel
theorem dX7_init_27 : decode cX7_init 27 = .ok (.return_, 1) := by decide +kernel
set_option maxRecDepth 20000 in
theorem ggX7_leftOf_X2_xAt : GoodIn wsX7_leftOf wsX2_xAt := goodIn_r _ [8, 9, 22, 23, 24, 25] (by decide +kernel) (by decide +kernel)
set_option maxRecDepth 20000 in
theorem gX7_leftOf_X2_xAt : GoodIn wsX7_leftOf (wsV RX7 32 RX2 yX2_xAt wsX2_xAt) := goodIn_app (goodIn_of _ (by decide +kernel)) ggX7_leftOf_X2_xAt
set_option maxRecDepth 20000 in
theorem ggX7_leftOf_X1_sideOf : GoodIn wsX7_leftOf wsX1_sideOf := goodIn_r _ [14, 15, 20, 21] (by decide +kernel) (by decide +kernel)
set_option maxRecDepth 20000 in
theorem gX7_leftOf_X1_sideOf : GoodIn wsX7_leftOf (wsV RX7 38 RX1 yX1_sideOf wsX1_sideOf) := goodIn_app (goodIn_of _ (by decide +kernel)) ggX7_leftOf_X1_sideOf
theorem dX7_leftOf_0 : decode cX7_leftOf 0 = .ok (.aload_n 0, 1) := by decide +kernel
theorem dX7_leftOf_1 : decode cX7_leftOf 1 = .ok (.getfield 19, 3) := by decide +kernel
theorem dX7_leftOf_4 : decode cX7_leftOf 4 = .ok (.aload_n 0, 1) := by decide +kernel
theorem dX7_leftOf_5 : decode cX7_leftOf 5 = .ok (.getfield 23, 3) := by decide +kernel
theorem dX7_leftOf_8 : decode cX7_leftOf 8 = .ok (.getfield 27, 3) := by decide +kernel
theorem dX7_leftOf_11 : decode cX7_leftOf 11 = .ok (.iload_n 1, 1) := by decide +kernel
theorem dX7_leftOf_12 : decode cX7_leftOf 12 = .ok (.iaload, 1) := by decide +kernel
theorem dX7_leftOf_13 : decode cX7_leftOf 13 = .ok (.invokevirtual 32, 3) := by decide +kernel
theorem dX7_leftOf_16 : decode cX7_leftOf 16 = .ok (.aload_n 0, 1) := by decide +kernel
theorem dX7_leftOf_17 : decode cX7_leftOf 17 = .ok (.getfield 23, 3) := by decide +kernel
theorem dX7_leftOf_20 : decode cX7_leftOf 20 = .ok (.iload_n 1, 1) := by decide +kernel
theorem dX7_leftOf_21 : decode cX7_leftOf 21 = .ok (.invokevirtual 38, 3) := by decide +kernel
theorem dX7_leftOf_24 : decode cX7_leftOf 24 = .ok (.ineg, 1) := by decide +kernel
theorem dX7_leftOf_25 : decode cX7_leftOf 25 = .ok (.iand, 1) := by decide +kernel
theorem dX7_leftOf_26 : decode cX7_leftOf 26 = .ok (.ireturn, 1) := by decide +kernel
set_option maxRecDepth 20000 in
theorem ggX7_belowOf_X2_yAt : GoodIn wsX7_belowOf wsX2_yAt := goodIn_r _ [8, 9, 22, 23, 24, 25] (by decide +kernel) (by decide +kernel)
set_option maxRecDepth 20000 in
theorem gX7_belowOf_X2_yAt : GoodIn wsX7_belowOf (wsV RX7 41 RX2 yX2_yAt wsX2_yAt) := goodIn_app (goodIn_of _ (by decide +kernel)) ggX7_belowOf_X2_yAt
set_option maxRecDepth 20000 in
theorem ggX7_belowOf_X1_sideOf : GoodIn wsX7_belowOf wsX1_sideOf := goodIn_r _ [14, 15, 20, 21] (by decide +kernel) (by decide +kernel)
set_option maxRecDepth 20000 in
theorem gX7_belowOf_X1_sideOf : GoodIn wsX7_belowOf (wsV RX7 38 RX1 yX1_sideOf wsX1_sideOf) := goodIn_app (goodIn_of _ (by decide +kernel)) ggX7_belowOf_X1_sideOf
theorem dX7_belowOf_0 : decode cX7_belowOf 0 = .ok (.aload_n 0, 1) := by decide +kernel
theorem dX7_belowOf_1 : decode cX7_belowOf 1 = .ok (.getfield 19, 3) := by decide +kernel
theorem dX7_belowOf_4 : decode cX7_belowOf 4 = .ok (.aload_n 0, 1) := by decide +kernel
theorem dX7_belowOf_5 : decode cX7_belowOf 5 = .ok (.getfield 23, 3) := by decide +kernel
theorem dX7_belowOf_8 : decode cX7_belowOf 8 = .ok (.getfield 27, 3) := by decide +kernel
theorem dX7_belowOf_11 : decode cX7_belowOf 11 = .ok (.iload_n 1, 1) := by decide +kernel
theorem dX7_belowOf_12 : decode cX7_belowOf 12 = .ok (.iaload, 1) := by decide +kernel
theorem dX7_belowOf_13 : decode cX7_belowOf 13 = .ok (.invokevirtual 41, 3) := by decide +kernel
theorem dX7_belowOf_16 : decode cX7_belowOf 16 = .ok (.aload_n 0, 1) := by decide +kernel
theorem dX7_belowOf_17 : decode cX7_belowOf 17 = .ok (.getfield 23, 3) := by decide +kernel
theorem dX7_belowOf_20 : decode cX7_belowOf 20 = .ok (.iload_n 1, 1) := by decide +kernel
theorem dX7_belowOf_21 : decode cX7_belowOf 21 = .ok (.invokevirtual 38, 3) := by decide +kernel
theorem dX7_belowOf_24 : decode cX7_belowOf 24 = .ok (.ineg, 1) := by decide +kernel
theorem dX7_belowOf_25 : decode cX7_belowOf 25 = .ok (.iand, 1) := by decide +kernel
theorem dX7_belowOf_26 : decode cX7_belowOf 26 = .ok (.ireturn, 1) := by decide +kernel
set_option maxRecDepth 20000 in
theorem ggX7_findBeyond_X1_sideOf : GoodIn wsX7_findBeyond wsX1_sideOf := goodIn_r _ [12, 13, 61, 62] (by decide +kernel) (by decide +kernel)
set_option maxRecDepth 20000 in
theorem gX7_findBeyond_X1_sideOf : GoodIn wsX7_findBeyond (wsV RX7 38 RX1 yX1_sideOf wsX1_sideOf) := goodIn_app (goodIn_of _ (by decide +kernel)) ggX7_findBeyond_X1_sideOf
set_option maxRecDepth 20000 in
theorem ggX7_findBeyond_X7_leftOf : GoodIn wsX7_findBeyond wsX7_leftOf := goodIn_r _ [18, 3, 1, 19, 20, 21, 22, 23, 24, 25, 8, 9, 10, 11, 12, 13, 57, 58, 59, 60, 61, 62, 63, 64, 65, 66] (by decide +kernel) (by decide +kernel)
set_option maxRecDepth 20000 in
theorem gX7_findBeyond_X7_leftOf : GoodIn wsX7_findBeyond (wsV RX7 44 RX7 yX7_leftOf wsX7_leftOf) := goodIn_app (goodIn_of _ (by decide +kernel)) ggX7_findBeyond_X7_leftOf
set_option maxRecDepth 20000 in
theorem ggX7_findBeyond_X7_stepAcross : GoodIn wsX7_findBeyond wsX7_stepAcross := goodIn_r _ [28] (by decide +kernel) (by decide +kernel)
set_option maxRecDepth 20000 in
theorem gX7_findBeyond_X7_stepAcross : GoodIn wsX7_findBeyond (va_wsS RX7 47 yX7_stepAcross wsX7_stepAcross) := goodIn_app (goodIn_of _ (by decide +kernel)) ggX7_findBeyond_X7_stepAcross
set_option maxRecDepth 20000 in
theorem ggX7_findBeyond_X7_belowOf : GoodIn wsX7_findBeyond wsX7_belowOf := goodIn_r _ [32, 3, 1, 19, 33, 34, 35, 23, 36, 25, 8, 9, 10, 11, 12, 13, 57, 58, 59, 60, 61, 62, 63, 64, 65, 66] (by decide +kernel) (by decide +kernel)
set_option maxRecDepth 20000 in
theorem gX7_findBeyond_X7_belowOf : GoodIn wsX7_findBeyond (wsV RX7 51 RX7 yX7_belowOf wsX7_belowOf) := goodIn_app (goodIn_of _ (by decide +kernel)) ggX7_findBeyond_X7_belowOf
set_option maxRecDepth 20000 in
theorem ggX7_findBeyond_X2_holds : GoodIn wsX7_findBeyond wsX2_holds := goodIn_r _ [40, 41, 63, 64, 65, 66] (by decide +kernel) (by decide +kernel)
set_option maxRecDepth 20000 in
theorem gX7_findBeyond_X2_holds : GoodIn wsX7_findBeyond (wsV RX7 54 RX2 yX2_holds wsX2_holds) := goodIn_app (goodIn_of _ (by decide +kernel)) ggX7_findBeyond_X2_holds
set_option maxRecDepth 20000 in
theorem ggX7_findBeyond_X2_indexOf : GoodIn wsX7_findBeyond wsX2_indexOf := goodIn_r _ [45, 46, 63, 64, 65, 66] (by decide +kernel) (by decide +kernel)
set_option maxRecDepth 20000 in
theorem gX7_findBeyond_X2_indexOf : GoodIn wsX7_findBeyond (wsV RX7 58 RX2 yX2_indexOf wsX2_indexOf) := goodIn_app (goodIn_of _ (by decide +kernel)) ggX7_findBeyond_X2_indexOf
set_option maxRecDepth 20000 in
theorem ggX7_findBeyond_X1_leafOfIndex : GoodIn wsX7_findBeyond wsX1_leafOfIndex := goodIn_r _ [50, 51, 13, 61, 62] (by decide +kernel) (by decide +kernel)
set_option maxRecDepth 20000 in
theorem gX7_findBeyond_X1_leafOfIndex : GoodIn wsX7_findBeyond (wsV RX7 62 RX1 yX1_leafOfIndex wsX1_leafOfIndex) := goodIn_app (goodIn_of _ (by decide +kernel)) ggX7_findBeyond_X1_leafOfIndex
set_option maxRecDepth 20000 in
theorem ggX7_findBeyond_X7_insert : GoodIn wsX7_findBeyond wsX7_insert := goodIn_r _ [55, 2, 56, 57, 58, 59, 60] (by decide +kernel) (by decide +kernel)
set_option maxRecDepth 20000 in
theorem gX7_findBeyond_X7_insert : GoodIn wsX7_findBeyond (wsV RX7 65 RX7 yX7_insert wsX7_insert) := goodIn_app (goodIn_of _ (by decide +kernel)) ggX7_findBeyond_X7_insert
theorem dX7_findBeyond_0 : decode cX7_findBeyond 0 = .ok (.aload_n 0, 1) := by decide +kernel
theorem dX7_findBeyond_1 : decode cX7_findBeyond 1 = .ok (.getfield 23, 3) := by decide +kernel
theorem dX7_findBeyond_4 : decode cX7_findBeyond 4 = .ok (.iload_n 1, 1) := by decide +kernel
theorem dX7_findBeyond_5 : decode cX7_findBeyond 5 = .ok (.invokevirtual 38, 3) := by decide +kernel
theorem dX7_findBeyond_8 : decode cX7_findBeyond 8 = .ok (.istore_n 3, 1) := by decide +kernel
theorem dX7_findBeyond_9 : decode cX7_findBeyond 9 = .ok (.aload_n 0, 1) := by decide +kernel
theorem dX7_findBeyond_10 : decode cX7_findBeyond 10 = .ok (.iload_n 1, 1) := by decide +kernel
theorem dX7_findBeyond_11 : decode cX7_findBeyond 11 = .ok (.invokevirtual 44, 3) := by decide +kernel
theorem dX7_findBeyond_14 : decode cX7_findBeyond 14 = .ok (.iload_n 2, 1) := by decide +kernel
theorem dX7_findBeyond_15 : decode cX7_findBeyond 15 = .ok (.ifCond .ne 7, 3) := by decide +kernel
theorem dX7_findBeyond_18 : decode cX7_findBeyond 18 = .ok (.iconst 1, 1) := by decide +kernel
theorem dX7_findBeyond_19 : decode cX7_findBeyond 19 = .ok (.goto 4, 3) := by decide +kernel
theorem dX7_findBeyond_22 : decode cX7_findBeyond 22 = .ok (.iconst 0, 1) := by decide +kernel
theorem dX7_findBeyond_23 : decode cX7_findBeyond 23 = .ok (.iload_n 2, 1) := by decide +kernel
theorem dX7_findBeyond_24 : decode cX7_findBeyond 24 = .ok (.iconst 1, 1) := by decide +kernel
theorem dX7_findBeyond_25 : decode cX7_findBeyond 25 = .ok (.if_icmp .ne 7, 3) := by decide +kernel
theorem dX7_findBeyond_28 : decode cX7_findBeyond 28 = .ok (.iconst 1, 1) := by decide +kernel
theorem dX7_findBeyond_29 : decode cX7_findBeyond 29 = .ok (.goto 4, 3) := by decide +kernel
theorem dX7_findBeyond_32 : decode cX7_findBeyond 32 = .ok (.iconst 0, 1) := by decide +kernel
theorem dX7_findBeyond_33 : decode cX7_findBeyond 33 = .ok (.iload_n 3, 1) := by decide +kernel
theorem dX7_findBeyond_34 : decode cX7_findBeyond 34 = .ok (.invokestatic 47, 3) := by decide +kernel
theorem dX7_findBeyond_37 : decode cX7_findBeyond 37 = .ok (.iadd, 1) := by decide +kernel
theorem dX7_findBeyond_38 : decode cX7_findBeyond 38 = .ok (.istore 4, 2) := by decide +kernel
theorem dX7_findBeyond_40 : decode cX7_findBeyond 40 = .ok (.aload_n 0, 1) := by decide +kernel
theorem dX7_findBeyond_41 : decode cX7_findBeyond 41 = .ok (.iload_n 1, 1) := by decide +kernel
theorem dX7_findBeyond_42 : decode cX7_findBeyond 42 = .ok (.invokevirtual 51, 3) := by decide +kernel
theorem dX7_findBeyond_45 : decode cX7_findBeyond 45 = .ok (.iload_n 2, 1) := by decide +kernel
theorem dX7_findBeyond_46 : decode cX7_findBeyond 46 = .ok (.iconst 2, 1) := by decide +kernel
theorem dX7_findBeyond_47 : decode cX7_findBeyond 47 = .ok (.if_icmp .ne 7, 3) := by decide +kernel
theorem dX7_findBeyond_50 : decode cX7_findBeyond 50 = .ok (.iconst 1, 1) := by decide +kernel
theorem dX7_findBeyond_51 : decode cX7_findBeyond 51 = .ok (.goto 4, 3) := by decide +kernel
theorem dX7_findBeyond_54 : decode cX7_findBeyond 54 = .ok (.iconst 0, 1) := by decide +kernel
theorem dX7_findBeyond_55 : decode cX7_findBeyond 55 = .ok (.iload_n 2, 1) := by decide +kernel
theorem dX7_findBeyond_56 : decode cX7_findBeyond 56 = .ok (.iconst 3, 1) := by decide +kernel
theorem dX7_findBeyond_57 : decode cX7_findBeyond 57 = .ok (.if_icmp .ne 7, 3) := by decide +kernel
theorem dX7_findBeyond_60 : decode cX7_findBeyond 60 = .ok (.iconst 1, 1) := by decide +kernel
theorem dX7_findBeyond_61 : decode cX7_findBeyond 61 = .ok (.goto 4, 3) := by decide +kernel
theorem dX7_findBeyond_64 : decode cX7_findBeyond 64 = .ok (.iconst 0, 1) := by decide +kernel
theorem dX7_findBeyond_65 : decode cX7_findBeyond 65 = .ok (.iload_n 3, 1) := by decide +kernel
theorem dX7_findBeyond_66 : decode cX7_findBeyond 66 = .ok (.invokestatic 47, 3) := by decide +kernel
theorem dX7_findBeyond_69 : decode cX7_findBeyond 69 = .ok (.iadd, 1) := by decide +kernel
theorem dX7_findBeyond_70 : decode cX7_findBeyond 70 = .ok (.istore 5, 2) := by decide +kernel
theorem dX7_findBeyond_72 : decode cX7_findBeyond 72 = .ok (.iconst 0, 1) := by decide +kernel
theorem dX7_findBeyond_73 : decode cX7_findBeyond 73 = .ok (.istore 6, 2) := by decide +kernel
theorem dX7_findBeyond_75 : decode cX7_findBeyond 75 = .ok (.aload_n 0, 1) := by decide +kernel
theorem dX7_findBeyond_76 : decode cX7_findBeyond 76 = .ok (.iconst 0, 1) := by decide +kernel
theorem dX7_findBeyond_77 : decode cX7_findBeyond 77 = .ok (.putfield 9, 3) := by decide +kernel
theorem dX7_findBeyond_80 : decode cX7_findBeyond 80 = .ok (.iload 6, 2) := by decide +kernel
theorem dX7_findBeyond_82 : decode cX7_findBeyond 82 = .ok (.iload_n 3, 1) := by decide +kernel
theorem dX7_findBeyond_83 : decode cX7_findBeyond 83 = .ok (.if_icmp .ge 103, 3) := by decide +kernel
theorem dX7_findBeyond_86 : decode cX7_findBeyond 86 = .ok (.aload_n 0, 1) := by decide +kernel
theorem dX7_findBeyond_87 : decode cX7_findBeyond 87 = .ok (.getfield 9, 3) := by decide +kernel
theorem dX7_findBeyond_90 : decode cX7_findBeyond 90 = .ok (.bipush 64, 2) := by decide +kernel
theorem dX7_findBeyond_92 : decode cX7_findBeyond 92 = .ok (.if_icmp .ge 94, 3) := by decide +kernel
theorem dX7_findBeyond_95 : decode cX7_findBeyond 95 = .ok (.aload_n 0, 1) := by decide +kernel
theorem dX7_findBeyond_96 : decode cX7_findBeyond 96 = .ok (.getfield 19, 3) := by decide +kernel
theorem dX7_findBeyond_99 : decode cX7_findBeyond 99 = .ok (.iload 4, 2) := by decide +kernel
theorem dX7_findBeyond_101 : decode cX7_findBeyond 101 = .ok (.iload 5, 2) := by decide +kernel
theorem dX7_findBeyond_103 : decode cX7_findBeyond 103 = .ok (.invokevirtual 54, 3) := by decide +kernel
theorem dX7_findBeyond_106 : decode cX7_findBeyond 106 = .ok (.ifCond .eq 80, 3) := by decide +kernel
theorem dX7_findBeyond_109 : decode cX7_findBeyond 109 = .ok (.aload_n 0, 1) := by decide +kernel
theorem dX7_findBeyond_110 : decode cX7_findBeyond 110 = .ok (.getfield 23, 3) := by decide +kernel
theorem dX7_findBeyond_113 : decode cX7_findBeyond 113 = .ok (.aload_n 0, 1) := by decide +kernel
theorem dX7_findBeyond_114 : decode cX7_findBeyond 114 = .ok (.getfield 19, 3) := by decide +kernel
theorem dX7_findBeyond_117 : decode cX7_findBeyond 117 = .ok (.iload 4, 2) := by decide +kernel
theorem dX7_findBeyond_119 : decode cX7_findBeyond 119 = .ok (.iload 5, 2) := by decide +kernel
theorem dX7_findBeyond_121 : decode cX7_findBeyond 121 = .ok (.invokevirtual 58, 3) := by decide +kernel
theorem dX7_findBeyond_124 : decode cX7_findBeyond 124 = .ok (.invokevirtual 62, 3) := by decide +kernel
theorem dX7_findBeyond_127 : decode cX7_findBeyond 127 = .ok (.istore 7, 2) := by decide +kernel
theorem dX7_findBeyond_129 : decode cX7_findBeyond 129 = .ok (.aload_n 0, 1) := by decide +kernel
theorem dX7_findBeyond_130 : decode cX7_findBeyond 130 = .ok (.iload 7, 2) := by decide +kernel
theorem dX7_findBeyond_132 : decode cX7_findBeyond 132 = .ok (.invokevirtual 65, 3) := by decide +kernel
theorem dX7_findBeyond_135 : decode cX7_findBeyond 135 = .ok (.iconst 1, 1) := by decide +kernel
theorem dX7_findBeyond_136 : decode cX7_findBeyond 136 = .ok (.aload_n 0, 1) := by decide +kernel
theorem dX7_findBeyond_137 : decode cX7_findBeyond 137 = .ok (.getfield 23, 3) := by decide +kernel
theorem dX7_findBeyond_140 : decode cX7_findBeyond 140 = .ok (.iload 7, 2) := by decide +kernel
theorem dX7_findBeyond_142 : decode cX7_findBeyond 142 = .ok (.invokevirtual 38, 3) := by decide +kernel
theorem dX7_findBeyond_145 : decode cX7_findBeyond 145 = .ok (.invokestatic 69, 3) := by decide +kernel
theorem dX7_findBeyond_148 : decode cX7_findBeyond 148 = .ok (.istore 8, 2) := by decide +kernel
theorem dX7_findBeyond_150 : decode cX7_findBeyond 150 = .ok (.iload 6, 2) := by decide +kernel
theorem dX7_findBeyond_152 : decode cX7_findBeyond 152 = .ok (.iload 8, 2) := by decide +kernel
theorem dX7_findBeyond_154 : decode cX7_findBeyond 154 = .ok (.iadd, 1) := by decide +kernel
theorem dX7_findBeyond_155 : decode cX7_findBeyond 155 = .ok (.istore 6, 2) := by decide +kernel
theorem dX7_findBeyond_157 : decode cX7_findBeyond 157 = .ok (.iload_n 2, 1) := by decide +kernel
theorem dX7_findBeyond_158 : decode cX7_findBeyond 158 = .ok (.ifCond .eq 8, 3) := by decide +kernel
theorem dX7_findBeyond_161 : decode cX7_findBeyond 161 = .ok (.iload_n 2, 1) := by decide +kernel
theorem dX7_findBeyond_162 : decode cX7_findBeyond 162 = .ok (.iconst 1, 1) := by decide +kernel
theorem dX7_findBeyond_163 : decode cX7_findBeyond 163 = .ok (.if_icmp .ne 13, 3) := by decide +kernel
theorem dX7_findBeyond_166 : decode cX7_findBeyond 166 = .ok (.iload 5, 2) := by decide +kernel
theorem dX7_findBeyond_168 : decode cX7_findBeyond 168 = .ok (.iload 8, 2) := by decide +kernel
theorem dX7_findBeyond_170 : decode cX7_findBeyond 170 = .ok (.iadd, 1) := by decide +kernel
theorem dX7_findBeyond_171 : decode cX7_findBeyond 171 = .ok (.istore 5, 2) := by decide +kernel
theorem dX7_findBeyond_173 : decode cX7_findBeyond 173 = .ok (.goto 10, 3) := by decide +kernel
theorem dX7_findBeyond_176 : decode cX7_findBeyond 176 = .ok (.iload 4, 2) := by decide +kernel
theorem dX7_findBeyond_178 : decode cX7_findBeyond 178 = .ok (.iload 8, 2) := by decide +kernel
theorem dX7_findBeyond_180 : decode cX7_findBeyond 180 = .ok (.iadd, 1) := by decide +kernel
theorem dX7_findBeyond_181 : decode cX7_findBeyond 181 = .ok (.istore 4, 2) := by decide +kernel
theorem dX7_findBeyond_183 : decode cX7_findBeyond 183 = .ok (.goto (-103), 3) := by decide +kernel
theorem dX7_findBeyond_186 : decode cX7_findBeyond 186 = .ok (.return_, 1) := by decide +kernel
theorem dX7_stepAcross_0 : decode cX7_stepAcross 0 = .ok (.iload_n 0, 1) := by decide +kernel
theorem dX7_stepAcross_1 : decode cX7_stepAcross 1 = .ok (.ifCond .eq 5, 3) := by decide +kernel
theorem dX7_stepAcross_4 : decode cX7_stepAcross 4 = .ok (.iconst (-1), 1) := by decide +kernel
theorem dX7_stepAcross_5 : decode cX7_stepAcross 5 = .ok (.ireturn, 1) := by decide +kernel
theorem dX7_stepAcross_6 : decode cX7_stepAcross 6 = .ok (.iload_n 1, 1) := by decide +kernel
theorem dX7_stepAcross_7 : decode cX7_stepAcross 7 = .ok (.ifCond .eq 7, 3) := by decide +kernel
theorem dX7_stepAcross_10 : decode cX7_stepAcross 10 = .ok (.iload_n 2, 1) := by decide +kernel
theorem dX7_stepAcross_11 : decode cX7_stepAcross 11 = .ok (.goto 4, 3) := by decide +kernel
theorem dX7_stepAcross_14 : decode cX7_stepAcross 14 = .ok (.iconst 0, 1) := by decide +kernel
theorem dX7_stepAcross_15 : decode cX7_stepAcross 15 = .ok (.ireturn, 1) := by decide +kernel
theorem dX7_insert_0 : decode cX7_insert 0 = .ok (.aload_n 0, 1) := by decide +kernel
theorem dX7_insert_1 : decode cX7_insert 1 = .ok (.getfield 9, 3) := by decide +kernel
theorem dX7_insert_4 : decode cX7_insert 4 = .ok (.istore_n 2, 1) := by decide +kernel
theorem dX7_insert_5 : decode cX7_insert 5 = .ok (.iload_n 2, 1) := by decide +kernel
theorem dX7_insert_6 : decode cX7_insert 6 = .ok (.ifCond .le 35, 3) := by decide +kernel
theorem dX7_insert_9 : decode cX7_insert 9 = .ok (.aload_n 0, 1) := by decide +kernel
theorem dX7_insert_10 : decode cX7_insert 10 = .ok (.getfield 15, 3) := by decide +kernel
theorem dX7_insert_13 : decode cX7_insert 13 = .ok (.iload_n 2, 1) := by decide +kernel
theorem dX7_insert_14 : decode cX7_insert 14 = .ok (.iconst 1, 1) := by decide +kernel
theorem dX7_insert_15 : decode cX7_insert 15 = .ok (.isub, 1) := by decide +kernel
theorem dX7_insert_16 : decode cX7_insert 16 = .ok (.iaload, 1) := by decide +kernel
theorem dX7_insert_17 : decode cX7_insert 17 = .ok (.iload_n 1, 1) := by decide +kernel
theorem dX7_insert_18 : decode cX7_insert 18 = .ok (.if_icmp .le 23, 3) := by decide +kernel
theorem dX7_insert_21 : decode cX7_insert 21 = .ok (.aload_n 0, 1) := by decide +kernel
theorem dX7_insert_22 : decode cX7_insert 22 = .ok (.getfield 15, 3) := by decide +kernel
theorem dX7_insert_25 : decode cX7_insert 25 = .ok (.iload_n 2, 1) := by decide +kernel
theorem dX7_insert_26 : decode cX7_insert 26 = .ok (.aload_n 0, 1) := by decide +kernel
theorem dX7_insert_27 : decode cX7_insert 27 = .ok (.getfield 15, 3) := by decide +kernel
theorem dX7_insert_30 : decode cX7_insert 30 = .ok (.iload_n 2, 1) := by decide +kernel
theorem dX7_insert_31 : decode cX7_insert 31 = .ok (.iconst 1, 1) := by decide +kernel
theorem dX7_insert_32 : decode cX7_insert 32 = .ok (.isub, 1) := by decide +kernel
theorem dX7_insert_33 : decode cX7_insert 33 = .ok (.iaload, 1) := by decide +kernel
theorem dX7_insert_34 : decode cX7_insert 34 = .ok (.iastore, 1) := by decide +kernel
theorem dX7_insert_35 : decode cX7_insert 35 = .ok (.iinc 2 (-1), 3) := by decide +kernel
theorem dX7_insert_38 : decode cX7_insert 38 = .ok (.goto (-33), 3) := by decide +kernel
theorem dX7_insert_41 : decode cX7_insert 41 = .ok (.aload_n 0, 1) := by decide +kernel
theorem dX7_insert_42 : decode cX7_insert 42 = .ok (.getfield 15, 3) := by decide +kernel
theorem dX7_insert_45 : decode cX7_insert 45 = .ok (.iload_n 2, 1) := by decide +kernel
theorem dX7_insert_46 : decode cX7_insert 46 = .ok (.iload_n 1, 1) := by decide +kernel
theorem dX7_insert_47 : decode cX7_insert 47 = .ok (.iastore, 1) := by decide +kernel
theorem dX7_insert_48 : decode cX7_insert 48 = .ok (.aload_n 0, 1) := by decide +kernel
theorem dX7_insert_49 : decode cX7_insert 49 = .ok (.dup, 1) := by decide +kernel
theorem dX7_insert_50 : decode cX7_insert 50 = .ok (.getfield 9, 3) := by decide +kernel
theorem dX7_insert_53 : decode cX7_insert 53 = .ok (.iconst 1, 1) := by decide +kernel
theorem dX7_insert_54 : decode cX7_insert 54 = .ok (.iadd, 1) := by decide +kernel
theorem dX7_insert_55 : decode cX7_insert 55 = .ok (.putfield 9, 3) := by decide +kernel
theorem dX7_insert_58 : decode cX7_insert 58 = .ok (.return_, 1) := by decide +kernel
set_option maxRecDepth 20000 in
theorem ggX7_findLowest_X7_findBeyond : GoodIn wsX7_findLowest wsX7_findBeyond := goodIn_r _ [7, 8, 1, 9, 10, 11, 12, 13, 14, 15, 16, 17, 18, 19, 20, 21, 22, 6, 23, 24, 25, 26, 27, 28, 29, 30, 31, 32, 33, 34, 35, 36, 37, 38, 39, 40, 41, 42, 43, 44, 45, 46, 47, 48, 49, 50, 51, 52, 53, 54, 55, 56, 57, 58, 59, 60, 2, 61, 62, 63, 64, 65, 66, 67, 68, 69, 70] (by decide +kernel) (by decide +kernel)
set_option maxRecDepth 20000 in
theorem gX7_findLowest_X7_findBeyond : GoodIn wsX7_findLowest (wsV RX7 74 RX7 yX7_findBeyond wsX7_findBeyond) := goodIn_app (goodIn_of _ (by decide +kernel)) ggX7_findLowest_X7_findBeyond
theorem dX7_findLowest_0 : decode cX7_findLowest 0 = .ok (.aload_n 0, 1) := by decide +kernel
theorem dX7_findLowest_1 : decode cX7_findLowest 1 = .ok (.iload_n 1, 1) := by decide +kernel
theorem dX7_findLowest_2 : decode cX7_findLowest 2 = .ok (.iload_n 2, 1) := by decide +kernel
theorem dX7_findLowest_3 : decode cX7_findLowest 3 = .ok (.invokevirtual 74, 3) := by decide +kernel
theorem dX7_findLowest_6 : decode cX7_findLowest 6 = .ok (.aload_n 0, 1) := by decide +kernel
theorem dX7_findLowest_7 : decode cX7_findLowest 7 = .ok (.getfield 9, 3) := by decide +kernel
theorem dX7_findLowest_10 : decode cX7_findLowest 10 = .ok (.ifCond .le 12, 3) := by decide +kernel
theorem dX7_findLowest_13 : decode cX7_findLowest 13 = .ok (.aload_n 0, 1) := by decide +kernel
theorem dX7_findLowest_14 : decode cX7_findLowest 14 = .ok (.getfield 15, 3) := by decide +kernel
theorem dX7_findLowest_17 : decode cX7_findLowest 17 = .ok (.iconst 0, 1) := by decide +kernel
theorem dX7_findLowest_18 : decode cX7_findLowest 18 = .ok (.iaload, 1) := by decide +kernel
theorem dX7_findLowest_19 : decode cX7_findLowest 19 = .ok (.goto 4, 3) := by decide +kernel
theorem dX7_findLowest_22 : decode cX7_findLowest 22 = .ok (.iconst (-1), 1) := by decide +kernel
theorem dX7_findLowest_23 : decode cX7_findLowest 23 = .ok (.ireturn, 1) := by decide +kernel
set_option maxRecDepth 20000 in
theorem ggX7_countSteps_X7_findLowest : GoodIn wsX7_countSteps wsX7_findLowest := goodIn_r _ [5, 6, 7, 8, 9, 10, 4, 11, 12, 13, 14, 15, 16, 17, 18, 19, 20, 21, 22, 23, 24, 25, 26, 27, 28, 29, 30, 31, 32, 33, 34, 35, 36, 37, 38, 39, 40, 41, 42, 43, 44, 45, 46, 47, 48, 49, 50, 51, 52, 53, 54, 55, 56, 57, 58, 59, 60, 61, 62, 63, 64, 65, 66, 67, 68, 69, 70, 71, 72, 73, 74] (by decide +kernel) (by decide +kernel)
set_option maxRecDepth 20000 in
theorem gX7_countSteps_X7_findLowest : GoodIn wsX7_countSteps (wsV RX7 78 RX7 yX7_findLowest wsX7_findLowest) := goodIn_app (goodIn_of _ (by decide +kernel)) ggX7_countSteps_X7_findLowest
theorem dX7_countSteps_0 : decode cX7_countSteps 0 = .ok (.iconst 0, 1) := by decide +kernel
theorem dX7_countSteps_1 : decode cX7_countSteps 1 = .ok (.istore_n 3, 1) := by decide +kernel
theorem dX7_countSteps_2 : decode cX7_countSteps 2 = .ok (.aload_n 0, 1) := by decide +kernel
theorem dX7_countSteps_3 : decode cX7_countSteps 3 = .ok (.iload_n 1, 1) := by decide +kernel
theorem dX7_countSteps_4 : decode cX7_countSteps 4 = .ok (.iload_n 2, 1) := by decide +kernel
theorem dX7_countSteps_5 : decode cX7_countSteps 5 = .ok (.invokevirtual 78, 3) := by decide +kernel
theorem dX7_countSteps_8 : decode cX7_countSteps 8 = .ok (.istore 4, 2) := by decide +kernel
theorem dX7_countSteps_10 : decode cX7_countSteps 10 = .ok (.iload 4, 2) := by decide +kernel
theorem dX7_countSteps_12 : decode cX7_countSteps 12 = .ok (.iconst (-1), 1) := by decide +kernel
theorem dX7_countSteps_13 : decode cX7_countSteps 13 = .ok (.if_icmp .eq 24, 3) := by decide +kernel
theorem dX7_countSteps_16 : decode cX7_countSteps 16 = .ok (.iload_n 3, 1) := by decide +kernel
theorem dX7_countSteps_17 : decode cX7_countSteps 17 = .ok (.bipush 64, 2) := by decide +kernel
theorem dX7_countSteps_19 : decode cX7_countSteps 19 = .ok (.if_icmp .ge 18, 3) := by decide +kernel
theorem dX7_countSteps_22 : decode cX7_countSteps 22 = .ok (.iinc 3 1, 3) := by decide +kernel
theorem dX7_countSteps_25 : decode cX7_countSteps 25 = .ok (.aload_n 0, 1) := by decide +kernel
theorem dX7_countSteps_26 : decode cX7_countSteps 26 = .ok (.iload 4, 2) := by decide +kernel
theorem dX7_countSteps_28 : decode cX7_countSteps 28 = .ok (.iload_n 2, 1) := by decide +kernel
theorem dX7_countSteps_29 : decode cX7_countSteps 29 = .ok (.invokevirtual 78, 3) := by decide +kernel
theorem dX7_countSteps_32 : decode cX7_countSteps 32 = .ok (.istore 4, 2) := by decide +kernel
theorem dX7_countSteps_34 : decode cX7_countSteps 34 = .ok (.goto (-24), 3) := by decide +kernel
theorem dX7_countSteps_37 : decode cX7_countSteps 37 = .ok (.iload_n 3, 1) := by decide +kernel
theorem dX7_countSteps_38 : decode cX7_countSteps 38 = .ok (.ireturn, 1) := by decide +kernel
set_option maxRecDepth 20000 in
theorem ggX7_leafAfter_X7_findLowest : GoodIn wsX7_leafAfter wsX7_findLowest := goodIn_r _ [5, 6, 7, 8, 9, 10, 4, 11, 12, 13, 14, 15, 16, 17, 18, 19, 20, 21, 22, 23, 24, 25, 26, 27, 28, 29, 30, 31, 32, 33, 34, 35, 36, 37, 38, 39, 40, 41, 42, 43, 44, 45, 46, 47, 48, 49, 50, 51, 52, 53, 54, 55, 56, 57, 58, 59, 60, 61, 62, 63, 64, 65, 66, 67, 68, 69, 70, 71, 72, 73, 74] (by decide +kernel) (by decide +kernel)
set_option maxRecDepth 20000 in
theorem gX7_leafAfter_X7_findLowest : GoodIn wsX7_leafAfter (wsV RX7 78 RX7 yX7_findLowest wsX7_findLowest) := goodIn_app (goodIn_of _ (by decide +kernel)) ggX7_leafAfter_X7_findLowest
theorem dX7_leafAfter_0 : decode cX7_leafAfter 0 = .ok (.iload_n 1, 1) := by decide +kernel
theorem dX7_leafAfter_1 : decode cX7_leafAfter 1 = .ok (.istore 4, 2) := by decide +kernel
theorem dX7_leafAfter_3 : decode cX7_leafAfter 3 = .ok (.iconst 0, 1) := by decide +kernel
theorem dX7_leafAfter_4 : decode cX7_leafAfter 4 = .ok (.istore 5, 2) := by decide +kernel
theorem dX7_leafAfter_6 : decode cX7_leafAfter 6 = .ok (.iload 5, 2) := by decide +kernel
theorem dX7_leafAfter_8 : decode cX7_leafAfter 8 = .ok (.iload_n 3, 1) := by decide +kernel
theorem dX7_leafAfter_9 : decode cX7_leafAfter 9 = .ok (.if_icmp .ge 24, 3) := by decide +kernel
theorem dX7_leafAfter_12 : decode cX7_leafAfter 12 = .ok (.iload 4, 2) := by decide +kernel
theorem dX7_leafAfter_14 : decode cX7_leafAfter 14 = .ok (.iconst (-1), 1) := by decide +kernel
theorem dX7_leafAfter_15 : decode cX7_leafAfter 15 = .ok (.if_icmp .eq 18, 3) := by decide +kernel
theorem dX7_leafAfter_18 : decode cX7_leafAfter 18 = .ok (.aload_n 0, 1) := by decide +kernel
theorem dX7_leafAfter_19 : decode cX7_leafAfter 19 = .ok (.iload 4, 2) := by decide +kernel
theorem dX7_leafAfter_21 : decode cX7_leafAfter 21 = .ok (.iload_n 2, 1) := by decide +kernel
theorem dX7_leafAfter_22 : decode cX7_leafAfter 22 = .ok (.invokevirtual 78, 3) := by decide +kernel
theorem dX7_leafAfter_25 : decode cX7_leafAfter 25 = .ok (.istore 4, 2) := by decide +kernel
theorem dX7_leafAfter_27 : decode cX7_leafAfter 27 = .ok (.iinc 5 1, 3) := by decide +kernel
theorem dX7_leafAfter_30 : decode cX7_leafAfter 30 = .ok (.goto (-24), 3) := by decide +kernel
theorem dX7_leafAfter_33 : decode cX7_leafAfter 33 = .ok (.iload 4, 2) := by decide +kernel
theorem dX7_leafAfter_35 : decode cX7_leafAfter 35 = .ok (.ireturn, 1) := by decide +kernel
set_option maxRecDepth 20000 in
theorem ggX7_divideAllTooLarge_X7_isTooLarge : GoodIn wsX7_divideAllTooLarge wsX7_isTooLarge := goodIn_r _ [8, 9, 2, 10, 11, 12, 13, 7, 14, 15, 16, 17, 18, 19, 20, 21, 22, 23, 24, 25, 26, 27, 28, 29, 30, 31, 32, 33, 34, 35, 36, 37, 38, 39, 40, 41, 42, 43, 44, 45, 46, 47, 48, 49, 50, 51, 52, 53, 54, 55, 56, 57, 58, 59, 60, 61, 62, 63, 64, 65, 66, 82, 83, 84, 85, 86, 87, 88, 89, 90, 91] (by decide +kernel) (by decide +kernel)
set_option maxRecDepth 20000 in
theorem gX7_divideAllTooLarge_X7_isTooLarge : GoodIn wsX7_divideAllTooLarge (wsV RX7 83 RX7 yX7_isTooLarge wsX7_isTooLarge) := goodIn_app (goodIn_of _ (by decide +kernel)) ggX7_divideAllTooLarge_X7_isTooLarge
set_option maxRecDepth 20000 in
theorem ggX7_divideAllTooLarge_X7_findLowestAround : GoodIn wsX7_divideAllTooLarge wsX7_findLowestAround := goodIn_r _ [70, 71, 72, 18, 73, 74, 75, 76, 7, 77, 9, 10, 11, 12, 13, 14, 2, 15, 16, 17, 19, 20, 21, 22, 23, 24, 25, 26, 27, 28, 29, 30, 31, 32, 33, 34, 35, 36, 37, 38, 39, 40, 41, 42, 43, 44, 45, 46, 47, 48, 49, 50, 51, 52, 53, 54, 55, 56, 57, 58, 59, 60, 61, 62, 63, 64, 65, 66, 82, 83, 84, 85, 86, 87, 88, 89, 90, 91] (by decide +kernel) (by decide +kernel)
set_option maxRecDepth 20000 in
theorem gX7_divideAllTooLarge_X7_findLowestAround : GoodIn wsX7_divideAllTooLarge (wsV RX7 87 RX7 yX7_findLowestAround wsX7_findLowestAround) := goodIn_app (goodIn_of _ (by decide +kernel)) ggX7_divideAllTooLarge_X7_findLowestAround
set_option maxRecDepth 20000 in
theorem ggX7_divideAllTooLarge_X1_divide : GoodIn wsX7_divideAllTooLarge wsX1_divide := goodIn_r _ [81, 25, 62, 86, 87] (by decide +kernel) (by decide +kernel)
set_option maxRecDepth 20000 in
theorem gX7_divideAllTooLarge_X1_divide : GoodIn wsX7_divideAllTooLarge (wsV RX7 90 RX1 yX1_divide wsX1_divide) := goodIn_app (goodIn_of _ (by decide +kernel)) ggX7_divideAllTooLarge_X1_divide
theorem dX7_divideAllTooLarge_0 : decode cX7_divideAllTooLarge 0 = .ok (.iconst 0, 1) := by decide +kernel
theorem dX7_divideAllTooLarge_1 : decode cX7_divideAllTooLarge 1 = .ok (.istore_n 1, 1) := by decide +kernel
theorem dX7_divideAllTooLarge_2 : decode cX7_divideAllTooLarge 2 = .ok (.iconst 0, 1) := by decide +kernel
theorem dX7_divideAllTooLarge_3 : decode cX7_divideAllTooLarge 3 = .ok (.istore_n 2, 1) := by decide +kernel
theorem dX7_divideAllTooLarge_4 : decode cX7_divideAllTooLarge 4 = .ok (.iconst 0, 1) := by decide +kernel
theorem dX7_divideAllTooLarge_5 : decode cX7_divideAllTooLarge 5 = .ok (.istore_n 3, 1) := by decide +kernel
theorem dX7_divideAllTooLarge_6 : decode cX7_divideAllTooLarge 6 = .ok (.iload_n 3, 1) := by decide +kernel
theorem dX7_divideAllTooLarge_7 : decode cX7_divideAllTooLarge 7 = .ok (.ldc 81, 2) := by decide +kernel
theorem dX7_divideAllTooLarge_9 : decode cX7_divideAllTooLarge 9 = .ok (.if_icmp .ge 61, 3) := by decide +kernel
theorem dX7_divideAllTooLarge_12 : decode cX7_divideAllTooLarge 12 = .ok (.iload_n 2, 1) := by decide +kernel
theorem dX7_divideAllTooLarge_13 : decode cX7_divideAllTooLarge 13 = .ok (.aload_n 0, 1) := by decide +kernel
theorem dX7_divideAllTooLarge_14 : decode cX7_divideAllTooLarge 14 = .ok (.getfield 23, 3) := by decide +kernel
theorem dX7_divideAllTooLarge_17 : decode cX7_divideAllTooLarge 17 = .ok (.getfield 82, 3) := by decide +kernel
theorem dX7_divideAllTooLarge_20 : decode cX7_divideAllTooLarge 20 = .ok (.if_icmp .ge 50, 3) := by decide +kernel
theorem dX7_divideAllTooLarge_23 : decode cX7_divideAllTooLarge 23 = .ok (.aload_n 0, 1) := by decide +kernel
theorem dX7_divideAllTooLarge_24 : decode cX7_divideAllTooLarge 24 = .ok (.iload_n 2, 1) := by decide +kernel
theorem dX7_divideAllTooLarge_25 : decode cX7_divideAllTooLarge 25 = .ok (.invokevirtual 83, 3) := by decide +kernel
theorem dX7_divideAllTooLarge_28 : decode cX7_divideAllTooLarge 28 = .ok (.ifCond .ne 9, 3) := by decide +kernel
theorem dX7_divideAllTooLarge_31 : decode cX7_divideAllTooLarge 31 = .ok (.iinc 2 1, 3) := by decide +kernel
theorem dX7_divideAllTooLarge_34 : decode cX7_divideAllTooLarge 34 = .ok (.goto 30, 3) := by decide +kernel
theorem dX7_divideAllTooLarge_37 : decode cX7_divideAllTooLarge 37 = .ok (.aload_n 0, 1) := by decide +kernel
theorem dX7_divideAllTooLarge_38 : decode cX7_divideAllTooLarge 38 = .ok (.iload_n 2, 1) := by decide +kernel
theorem dX7_divideAllTooLarge_39 : decode cX7_divideAllTooLarge 39 = .ok (.invokevirtual 87, 3) := by decide +kernel
theorem dX7_divideAllTooLarge_42 : decode cX7_divideAllTooLarge 42 = .ok (.istore 4, 2) := by decide +kernel
theorem dX7_divideAllTooLarge_44 : decode cX7_divideAllTooLarge 44 = .ok (.aload_n 0, 1) := by decide +kernel
theorem dX7_divideAllTooLarge_45 : decode cX7_divideAllTooLarge 45 = .ok (.getfield 23, 3) := by decide +kernel
theorem dX7_divideAllTooLarge_48 : decode cX7_divideAllTooLarge 48 = .ok (.iload_n 2, 1) := by decide +kernel
theorem dX7_divideAllTooLarge_49 : decode cX7_divideAllTooLarge 49 = .ok (.invokevirtual 90, 3) := by decide +kernel
theorem dX7_divideAllTooLarge_52 : decode cX7_divideAllTooLarge 52 = .ok (.ifCond .ne 6, 3) := by decide +kernel
theorem dX7_divideAllTooLarge_55 : decode cX7_divideAllTooLarge 55 = .ok (.goto 15, 3) := by decide +kernel
theorem dX7_divideAllTooLarge_58 : decode cX7_divideAllTooLarge 58 = .ok (.iinc 1 1, 3) := by decide +kernel
theorem dX7_divideAllTooLarge_61 : decode cX7_divideAllTooLarge 61 = .ok (.iload 4, 2) := by decide +kernel
theorem dX7_divideAllTooLarge_63 : decode cX7_divideAllTooLarge 63 = .ok (.istore_n 2, 1) := by decide +kernel
theorem dX7_divideAllTooLarge_64 : decode cX7_divideAllTooLarge 64 = .ok (.iinc 3 1, 3) := by decide +kernel
theorem dX7_divideAllTooLarge_67 : decode cX7_divideAllTooLarge 67 = .ok (.goto (-61), 3) := by decide +kernel
theorem dX7_divideAllTooLarge_70 : decode cX7_divideAllTooLarge 70 = .ok (.iload_n 1, 1) := by decide +kernel
theorem dX7_divideAllTooLarge_71 : decode cX7_divideAllTooLarge 71 = .ok (.ireturn, 1) := by decide +kernel
set_option maxRecDepth 20000 in
theorem ggX7_findLowestAround_X7_findLowest : GoodIn wsX7_findLowestAround wsX7_findLowest := goodIn_r _ [9, 10, 11, 12, 13, 14, 8, 15, 16, 17, 18, 19, 3, 20, 21, 22, 23, 24, 25, 26, 27, 28, 29, 30, 31, 32, 33, 34, 35, 36, 37, 38, 39, 40, 41, 42, 43, 44, 45, 46, 47, 48, 49, 50, 51, 52, 53, 54, 55, 56, 57, 58, 59, 60, 61, 62, 63, 64, 65, 66, 67, 68, 69, 70, 71, 72, 73, 74, 75, 76, 77] (by decide +kernel) (by decide +kernel)
set_option maxRecDepth 20000 in
theorem gX7_findLowestAround_X7_findLowest : GoodIn wsX7_findLowestAround (wsV RX7 78 RX7 yX7_findLowest wsX7_findLowest) := goodIn_app (goodIn_of _ (by decide +kernel)) ggX7_findLowestAround_X7_findLowest
theorem dX7_findLowestAround_0 : decode cX7_findLowestAround 0 = .ok (.iload_n 1, 1) := by decide +kernel
theorem dX7_findLowestAround_1 : decode cX7_findLowestAround 1 = .ok (.istore_n 2, 1) := by decide +kernel
theorem dX7_findLowestAround_2 : decode cX7_findLowestAround 2 = .ok (.iconst 0, 1) := by decide +kernel
theorem dX7_findLowestAround_3 : decode cX7_findLowestAround 3 = .ok (.istore_n 3, 1) := by decide +kernel
theorem dX7_findLowestAround_4 : decode cX7_findLowestAround 4 = .ok (.iload_n 3, 1) := by decide +kernel
theorem dX7_findLowestAround_5 : decode cX7_findLowestAround 5 = .ok (.iconst 4, 1) := by decide +kernel
theorem dX7_findLowestAround_6 : decode cX7_findLowestAround 6 = .ok (.if_icmp .ge 30, 3) := by decide +kernel
theorem dX7_findLowestAround_9 : decode cX7_findLowestAround 9 = .ok (.aload_n 0, 1) := by decide +kernel
theorem dX7_findLowestAround_10 : decode cX7_findLowestAround 10 = .ok (.iload_n 1, 1) := by decide +kernel
theorem dX7_findLowestAround_11 : decode cX7_findLowestAround 11 = .ok (.iload_n 3, 1) := by decide +kernel
theorem dX7_findLowestAround_12 : decode cX7_findLowestAround 12 = .ok (.invokevirtual 78, 3) := by decide +kernel
theorem dX7_findLowestAround_15 : decode cX7_findLowestAround 15 = .ok (.istore 4, 2) := by decide +kernel
theorem dX7_findLowestAround_17 : decode cX7_findLowestAround 17 = .ok (.iload 4, 2) := by decide +kernel
theorem dX7_findLowestAround_19 : decode cX7_findLowestAround 19 = .ok (.iconst (-1), 1) := by decide +kernel
theorem dX7_findLowestAround_20 : decode cX7_findLowestAround 20 = .ok (.if_icmp .eq 10, 3) := by decide +kernel
theorem dX7_findLowestAround_23 : decode cX7_findLowestAround 23 = .ok (.iload_n 2, 1) := by decide +kernel
theorem dX7_findLowestAround_24 : decode cX7_findLowestAround 24 = .ok (.iload 4, 2) := by decide +kernel
theorem dX7_findLowestAround_26 : decode cX7_findLowestAround 26 = .ok (.invokestatic 93, 3) := by decide +kernel
theorem dX7_findLowestAround_29 : decode cX7_findLowestAround 29 = .ok (.istore_n 2, 1) := by decide +kernel
theorem dX7_findLowestAround_30 : decode cX7_findLowestAround 30 = .ok (.iinc 3 1, 3) := by decide +kernel
theorem dX7_findLowestAround_33 : decode cX7_findLowestAround 33 = .ok (.goto (-29), 3) := by decide +kernel
theorem dX7_findLowestAround_36 : decode cX7_findLowestAround 36 = .ok (.iload_n 2, 1) := by decide +kernel
theorem dX7_findLowestAround_37 : decode cX7_findLowestAround 37 = .ok (.ireturn, 1) := by decide +kernel
set_option maxRecDepth 20000 in
theorem ggX7_isTooLarge_X7_findBeyond : GoodIn wsX7_isTooLarge wsX7_findBeyond := goodIn_r _ [8, 2, 1, 9, 10, 11, 12, 13, 14, 15, 16, 17, 18, 19, 20, 21, 22, 7, 23, 24, 25, 26, 27, 28, 29, 30, 31, 32, 33, 34, 35, 36, 37, 38, 39, 40, 41, 42, 43, 44, 45, 46, 47, 48, 49, 50, 51, 52, 53, 54, 55, 56, 57, 58, 59, 60, 3, 61, 62, 63, 64, 65, 66, 67, 68, 69, 70] (by decide +kernel) (by decide +kernel)
set_option maxRecDepth 20000 in
theorem gX7_isTooLarge_X7_findBeyond : GoodIn wsX7_isTooLarge (wsV RX7 74 RX7 yX7_findBeyond wsX7_findBeyond) := goodIn_app (goodIn_of _ (by decide +kernel)) ggX7_isTooLarge_X7_findBeyond
set_option maxRecDepth 20000 in
theorem ggX7_isTooLarge_X1_sideOf : GoodIn wsX7_isTooLarge wsX1_sideOf := goodIn_r _ [18, 19, 65, 66] (by decide +kernel) (by decide +kernel)
set_option maxRecDepth 20000 in
theorem gX7_isTooLarge_X1_sideOf : GoodIn wsX7_isTooLarge (wsV RX7 38 RX1 yX1_sideOf wsX1_sideOf) := goodIn_app (goodIn_of _ (by decide +kernel)) ggX7_isTooLarge_X1_sideOf
theorem dX7_isTooLarge_0 : decode cX7_isTooLarge 0 = .ok (.iconst 0, 1) := by decide +kernel
theorem dX7_isTooLarge_1 : decode cX7_isTooLarge 1 = .ok (.istore_n 2, 1) := by decide +kernel
theorem dX7_isTooLarge_2 : decode cX7_isTooLarge 2 = .ok (.iload_n 2, 1) := by decide +kernel
theorem dX7_isTooLarge_3 : decode cX7_isTooLarge 3 = .ok (.iconst 4, 1) := by decide +kernel
theorem dX7_isTooLarge_4 : decode cX7_isTooLarge 4 = .ok (.if_icmp .ge 59, 3) := by decide +kernel
theorem dX7_isTooLarge_7 : decode cX7_isTooLarge 7 = .ok (.aload_n 0, 1) := by decide +kernel
theorem dX7_isTooLarge_8 : decode cX7_isTooLarge 8 = .ok (.iload_n 1, 1) := by decide +kernel
theorem dX7_isTooLarge_9 : decode cX7_isTooLarge 9 = .ok (.iload_n 2, 1) := by decide +kernel
theorem dX7_isTooLarge_10 : decode cX7_isTooLarge 10 = .ok (.invokevirtual 74, 3) := by decide +kernel
theorem dX7_isTooLarge_13 : decode cX7_isTooLarge 13 = .ok (.iconst 0, 1) := by decide +kernel
theorem dX7_isTooLarge_14 : decode cX7_isTooLarge 14 = .ok (.istore_n 3, 1) := by decide +kernel
theorem dX7_isTooLarge_15 : decode cX7_isTooLarge 15 = .ok (.iload_n 3, 1) := by decide +kernel
theorem dX7_isTooLarge_16 : decode cX7_isTooLarge 16 = .ok (.aload_n 0, 1) := by decide +kernel
theorem dX7_isTooLarge_17 : decode cX7_isTooLarge 17 = .ok (.getfield 9, 3) := by decide +kernel
theorem dX7_isTooLarge_20 : decode cX7_isTooLarge 20 = .ok (.if_icmp .ge 37, 3) := by decide +kernel
theorem dX7_isTooLarge_23 : decode cX7_isTooLarge 23 = .ok (.iconst 2, 1) := by decide +kernel
theorem dX7_isTooLarge_24 : decode cX7_isTooLarge 24 = .ok (.aload_n 0, 1) := by decide +kernel
theorem dX7_isTooLarge_25 : decode cX7_isTooLarge 25 = .ok (.getfield 23, 3) := by decide +kernel
theorem dX7_isTooLarge_28 : decode cX7_isTooLarge 28 = .ok (.aload_n 0, 1) := by decide +kernel
theorem dX7_isTooLarge_29 : decode cX7_isTooLarge 29 = .ok (.getfield 15, 3) := by decide +kernel
theorem dX7_isTooLarge_32 : decode cX7_isTooLarge 32 = .ok (.iload_n 3, 1) := by decide +kernel
theorem dX7_isTooLarge_33 : decode cX7_isTooLarge 33 = .ok (.iaload, 1) := by decide +kernel
theorem dX7_isTooLarge_34 : decode cX7_isTooLarge 34 = .ok (.invokevirtual 38, 3) := by decide +kernel
theorem dX7_isTooLarge_37 : decode cX7_isTooLarge 37 = .ok (.imul, 1) := by decide +kernel
theorem dX7_isTooLarge_38 : decode cX7_isTooLarge 38 = .ok (.aload_n 0, 1) := by decide +kernel
theorem dX7_isTooLarge_39 : decode cX7_isTooLarge 39 = .ok (.getfield 23, 3) := by decide +kernel
theorem dX7_isTooLarge_42 : decode cX7_isTooLarge 42 = .ok (.iload_n 1, 1) := by decide +kernel
theorem dX7_isTooLarge_43 : decode cX7_isTooLarge 43 = .ok (.invokevirtual 38, 3) := by decide +kernel
theorem dX7_isTooLarge_46 : decode cX7_isTooLarge 46 = .ok (.if_icmp .ge 5, 3) := by decide +kernel
theorem dX7_isTooLarge_49 : decode cX7_isTooLarge 49 = .ok (.iconst 1, 1) := by decide +kernel
theorem dX7_isTooLarge_50 : decode cX7_isTooLarge 50 = .ok (.ireturn, 1) := by decide +kernel
theorem dX7_isTooLarge_51 : decode cX7_isTooLarge 51 = .ok (.iinc 3 1, 3) := by decide +kernel
theorem dX7_isTooLarge_54 : decode cX7_isTooLarge 54 = .ok (.goto (-39), 3) := by decide +kernel
theorem dX7_isTooLarge_57 : decode cX7_isTooLarge 57 = .ok (.iinc 2 1, 3) := by decide +kernel
theorem dX7_isTooLarge_60 : decode cX7_isTooLarge 60 = .ok (.goto (-58), 3) := by decide +kernel
theorem dX7_isTooLarge_63 : decode cX7_isTooLarge 63 = .ok (.iconst 0, 1) := by decide +kernel
theorem dX7_isTooLarge_64 : decode cX7_isTooLarge 64 = .ok (.ireturn, 1) := by decide +kernel
theorem dX8_init_0 : decode cX8_init 0 = .ok (.aload_n 0, 1) := by decide +kernel
theorem dX8_init_1 : decode cX8_init 1 = .ok (.invokespecial 3, 3) := by decide +kernel
theorem dX8_init_4 : decode cX8_init 4 = .ok (.aload_n 0, 1) := by decide +kernel
theorem dX8_init_5 : decode cX8_init 5 = .ok (.iconst 0, 1) := by decide +kernel
theorem dX8_init_6 : decode cX8_init 6 = .ok (.putfield 9, 3) := by decide +kernel
theorem dX8_init_9 : decode cX8_init 9 = .ok (.aload_n 0, 1) := by decide +kernel
theorem dX8_init_10 : decode cX8_init 10 = .ok (.bipush 80, 2) := by decide +kernel
theorem dX8_init_12 : decode cX8_init 12 = .ok (.newarray .int, 2) := by decide +kernel
theorem dX8_init_14 : decode cX8_init 14 = .ok (.putfield 15, 3) := by decide +kernel
theorem dX8_init_17 : decode cX8_init 17 = .ok (.return_, 1) := by decide +kernel
theorem dX8_add_0 : decode cX8_add 0 = .ok (.aload_n 0, 1) := by decide +kernel
theorem dX8_add_1 : decode cX8_add 1 = .ok (.getfield 9, 3) := by decide +kernel
theorem dX8_add_4 : decode cX8_add 4 = .ok (.bipush 80, 2) := by decide +kernel
theorem dX8_add_6 : decode cX8_add 6 = .ok (.if_icmp .lt 5, 3) := by decide +kernel
theorem dX8_add_9 : decode cX8_add 9 = .ok (.iconst 0, 1) := by decide +kernel
theorem dX8_add_10 : decode cX8_add 10 = .ok (.ireturn, 1) := by decide +kernel
theorem dX8_add_11 : decode cX8_add 11 = .ok (.aload_n 0, 1) := by decide +kernel
theorem dX8_add_12 : decode cX8_add 12 = .ok (.getfield 15, 3) := by decide +kernel
theorem dX8_add_15 : decode cX8_add 15 = .ok (.aload_n 0, 1) := by decide +kernel
theorem dX8_add_16 : decode cX8_add 16 = .ok (.getfield 9, 3) := by decide +kernel
theorem dX8_add_19 : decode cX8_add 19 = .ok (.iload_n 1, 1) := by decide +kernel
theorem dX8_add_20 : decode cX8_add 20 = .ok (.iastore, 1) := by decide +kernel
theorem dX8_add_21 : decode cX8_add 21 = .ok (.aload_n 0, 1) := by decide +kernel
theorem dX8_add_22 : decode cX8_add 22 = .ok (.dup, 1) := by decide +kernel
theorem dX8_add_23 : decode cX8_add 23 = .ok (.getfield 9, 3) := by decide +kernel
theorem dX8_add_26 : decode cX8_add 26 = .ok (.iconst 1, 1) := by decide +kernel
theorem dX8_add_27 : decode cX8_add 27 = .ok (.iadd, 1) := by decide +kernel
theorem dX8_add_28 : decode cX8_add 28 = .ok (.putfield 9, 3) := by decide +kernel
theorem dX8_add_31 : decode cX8_add 31 = .ok (.iconst 1, 1) := by decide +kernel
theorem dX8_add_32 : decode cX8_add 32 = .ok (.ireturn, 1) := by decide +kernel
theorem dX8_digitAt_0 : decode cX8_digitAt 0 = .ok (.aload_n 0, 1) := by decide +kernel
theorem dX8_digitAt_1 : decode cX8_digitAt 1 = .ok (.getfield 15, 3) := by decide +kernel
theorem dX8_digitAt_4 : decode cX8_digitAt 4 = .ok (.bipush 9, 2) := by decide +kernel
theorem dX8_digitAt_6 : decode cX8_digitAt 6 = .ok (.iload_n 1, 1) := by decide +kernel
theorem dX8_digitAt_7 : decode cX8_digitAt 7 = .ok (.imul, 1) := by decide +kernel
theorem dX8_digitAt_8 : decode cX8_digitAt 8 = .ok (.iload_n 2, 1) := by decide +kernel
theorem dX8_digitAt_9 : decode cX8_digitAt 9 = .ok (.iadd, 1) := by decide +kernel
theorem dX8_digitAt_10 : decode cX8_digitAt 10 = .ok (.iaload, 1) := by decide +kernel
theorem dX8_digitAt_11 : decode cX8_digitAt 11 = .ok (.bipush 48, 2) := by decide +kernel
theorem dX8_digitAt_13 : decode cX8_digitAt 13 = .ok (.isub, 1) := by decide +kernel
theorem dX8_digitAt_14 : decode cX8_digitAt 14 = .ok (.ireturn, 1) := by decide +kernel
theorem dX8_countStates_0 : decode cX8_countStates 0 = .ok (.aload_n 0, 1) := by decide +kernel
theorem dX8_countStates_1 : decode cX8_countStates 1 = .ok (.getfield 9, 3) := by decide +kernel
theorem dX8_countStates_4 : decode cX8_countStates 4 = .ok (.bipush 9, 2) := by decide +kernel
theorem dX8_countStates_6 : decode cX8_countStates 6 = .ok (.idiv, 1) := by decide +kernel
theorem dX8_countStates_7 : decode cX8_countStates 7 = .ok (.ireturn, 1) := by decide +kernel
set_option maxRecDepth 20000 in
theorem ggX8_findFault_X8_findFaultOfForm : GoodIn wsX8_findFault wsX8_findFaultOfForm := goodIn_r _ [5, 6, 7, 8, 9, 4, 10, 11, 12, 13, 14, 15, 28, 29] (by decide +kernel) (by decide +kernel)
set_option maxRecDepth 20000 in
theorem gX8_findFault_X8_findFaultOfForm : GoodIn wsX8_findFault (wsV RX8 19 RX8 yX8_findFaultOfForm wsX8_findFaultOfForm) := goodIn_app (goodIn_of _ (by decide +kernel)) ggX8_findFault_X8_findFaultOfForm
set_option maxRecDepth 20000 in
theorem ggX8_findFault_X8_findUnknownState : GoodIn wsX8_findFault wsX8_findUnknownState := goodIn_r _ [19, 20, 21, 22, 4, 23, 6, 24, 25, 26, 27, 11, 28, 29] (by decide +kernel) (by decide +kernel)
set_option maxRecDepth 20000 in
theorem gX8_findFault_X8_findUnknownState : GoodIn wsX8_findFault (wsV RX8 23 RX8 yX8_findUnknownState wsX8_findUnknownState) := goodIn_app (goodIn_of _ (by decide +kernel)) ggX8_findFault_X8_findUnknownState
theorem dX8_findFault_0 : decode cX8_findFault 0 = .ok (.aload_n 0, 1) := by decide +kernel
theorem dX8_findFault_1 : decode cX8_findFault 1 = .ok (.invokevirtual 19, 3) := by decide +kernel
theorem dX8_findFault_4 : decode cX8_findFault 4 = .ok (.istore_n 1, 1) := by decide +kernel
theorem dX8_findFault_5 : decode cX8_findFault 5 = .ok (.iload_n 1, 1) := by decide +kernel
theorem dX8_findFault_6 : decode cX8_findFault 6 = .ok (.iconst (-1), 1) := by decide +kernel
theorem dX8_findFault_7 : decode cX8_findFault 7 = .ok (.if_icmp .ne 10, 3) := by decide +kernel
theorem dX8_findFault_10 : decode cX8_findFault 10 = .ok (.aload_n 0, 1) := by decide +kernel
theorem dX8_findFault_11 : decode cX8_findFault 11 = .ok (.invokevirtual 23, 3) := by decide +kernel
theorem dX8_findFault_14 : decode cX8_findFault 14 = .ok (.goto 4, 3) := by decide +kernel
theorem dX8_findFault_17 : decode cX8_findFault 17 = .ok (.iload_n 1, 1) := by decide +kernel
theorem dX8_findFault_18 : decode cX8_findFault 18 = .ok (.ireturn, 1) := by decide +kernel
set_option maxRecDepth 20000 in
theorem ggX8_findFaultOfForm_X8_fitsForm : GoodIn wsX8_findFaultOfForm wsX8_fitsForm := goodIn_r _ [6, 7, 8, 9, 10, 5, 11, 12, 13] (by decide +kernel) (by decide +kernel)
set_option maxRecDepth 20000 in
theorem gX8_findFaultOfForm_X8_fitsForm : GoodIn wsX8_findFaultOfForm (wsV RX8 26 RX8 yX8_fitsForm wsX8_fitsForm) := goodIn_app (goodIn_of _ (by decide +kernel)) ggX8_findFaultOfForm_X8_fitsForm
theorem dX8_findFaultOfForm_0 : decode cX8_findFaultOfForm 0 = .ok (.iconst 0, 1) := by decide +kernel
theorem dX8_findFaultOfForm_1 : decode cX8_findFaultOfForm 1 = .ok (.istore_n 1, 1) := by decide +kernel
theorem dX8_findFaultOfForm_2 : decode cX8_findFaultOfForm 2 = .ok (.iload_n 1, 1) := by decide +kernel
theorem dX8_findFaultOfForm_3 : decode cX8_findFaultOfForm 3 = .ok (.aload_n 0, 1) := by decide +kernel
theorem dX8_findFaultOfForm_4 : decode cX8_findFaultOfForm 4 = .ok (.getfield 9, 3) := by decide +kernel
theorem dX8_findFaultOfForm_7 : decode cX8_findFaultOfForm 7 = .ok (.if_icmp .ge 25, 3) := by decide +kernel
theorem dX8_findFaultOfForm_10 : decode cX8_findFaultOfForm 10 = .ok (.iload_n 1, 1) := by decide +kernel
theorem dX8_findFaultOfForm_11 : decode cX8_findFaultOfForm 11 = .ok (.bipush 72, 2) := by decide +kernel
theorem dX8_findFaultOfForm_13 : decode cX8_findFaultOfForm 13 = .ok (.if_icmp .ge 11, 3) := by decide +kernel
theorem dX8_findFaultOfForm_16 : decode cX8_findFaultOfForm 16 = .ok (.aload_n 0, 1) := by decide +kernel
theorem dX8_findFaultOfForm_17 : decode cX8_findFaultOfForm 17 = .ok (.iload_n 1, 1) := by decide +kernel
theorem dX8_findFaultOfForm_18 : decode cX8_findFaultOfForm 18 = .ok (.invokevirtual 26, 3) := by decide +kernel
theorem dX8_findFaultOfForm_21 : decode cX8_findFaultOfForm 21 = .ok (.ifCond .ne 5, 3) := by decide +kernel
theorem dX8_findFaultOfForm_24 : decode cX8_findFaultOfForm 24 = .ok (.iload_n 1, 1) := by decide +kernel
theorem dX8_findFaultOfForm_25 : decode cX8_findFaultOfForm 25 = .ok (.ireturn, 1) := by decide +kernel
theorem dX8_findFaultOfForm_26 : decode cX8_findFaultOfForm 26 = .ok (.iinc 1 1, 3) := by decide +kernel
theorem dX8_findFaultOfForm_29 : decode cX8_findFaultOfForm 29 = .ok (.goto (-27), 3) := by decide +kernel
theorem dX8_findFaultOfForm_32 : decode cX8_findFaultOfForm 32 = .ok (.aload_n 0, 1) := by decide +kernel
theorem dX8_findFaultOfForm_33 : decode cX8_findFaultOfForm 33 = .ok (.getfield 9, 3) := by decide +kernel
theorem dX8_findFaultOfForm_36 : decode cX8_findFaultOfForm 36 = .ok (.ifCond .eq 13, 3) := by decide +kernel
theorem dX8_findFaultOfForm_39 : decode cX8_findFaultOfForm 39 = .ok (.aload_n 0, 1) := by decide +kernel
theorem dX8_findFaultOfForm_40 : decode cX8_findFaultOfForm 40 = .ok (.getfield 9, 3) := by decide +kernel
theorem dX8_findFaultOfForm_43 : decode cX8_findFaultOfForm 43 = .ok (.bipush 9, 2) := by decide +kernel
theorem dX8_findFaultOfForm_45 : decode cX8_findFaultOfForm 45 = .ok (.irem, 1) := by decide +kernel
theorem dX8_findFaultOfForm_46 : decode cX8_findFaultOfForm 46 = .ok (.ifCond .eq 10, 3) := by decide +kernel
theorem dX8_findFaultOfForm_49 : decode cX8_findFaultOfForm 49 = .ok (.aload_n 0, 1) := by decide +kernel
theorem dX8_findFaultOfForm_50 : decode cX8_findFaultOfForm 50 = .ok (.getfield 9, 3) := by decide +kernel
theorem dX8_findFaultOfForm_53 : decode cX8_findFaultOfForm 53 = .ok (.goto 4, 3) := by decide +kernel
theorem dX8_findFaultOfForm_56 : decode cX8_findFaultOfForm 56 = .ok (.iconst (-1), 1) := by decide +kernel
theorem dX8_findFaultOfForm_57 : decode cX8_findFaultOfForm 57 = .ok (.ireturn, 1) := by decide +kernel
set_option maxRecDepth 20000 in
theorem ggX8_fitsForm_X8_isToldBefore : GoodIn wsX8_fitsForm wsX8_isToldBefore := goodIn_r _ [6, 1, 7, 8] (by decide +kernel) (by decide +kernel)
set_option maxRecDepth 20000 in
theorem gX8_fitsForm_X8_isToldBefore : GoodIn wsX8_fitsForm (wsV RX8 30 RX8 yX8_isToldBefore wsX8_isToldBefore) := goodIn_app (goodIn_of _ (by decide +kernel)) ggX8_fitsForm_X8_isToldBefore
theorem dX8_fitsForm_0 : decode cX8_fitsForm 0 = .ok (.iload_n 1, 1) := by decide +kernel
theorem dX8_fitsForm_1 : decode cX8_fitsForm 1 = .ok (.bipush 9, 2) := by decide +kernel
theorem dX8_fitsForm_3 : decode cX8_fitsForm 3 = .ok (.irem, 1) := by decide +kernel
theorem dX8_fitsForm_4 : decode cX8_fitsForm 4 = .ok (.istore_n 2, 1) := by decide +kernel
theorem dX8_fitsForm_5 : decode cX8_fitsForm 5 = .ok (.aload_n 0, 1) := by decide +kernel
theorem dX8_fitsForm_6 : decode cX8_fitsForm 6 = .ok (.getfield 15, 3) := by decide +kernel
theorem dX8_fitsForm_9 : decode cX8_fitsForm 9 = .ok (.iload_n 1, 1) := by decide +kernel
theorem dX8_fitsForm_10 : decode cX8_fitsForm 10 = .ok (.iaload, 1) := by decide +kernel
theorem dX8_fitsForm_11 : decode cX8_fitsForm 11 = .ok (.istore_n 3, 1) := by decide +kernel
theorem dX8_fitsForm_12 : decode cX8_fitsForm 12 = .ok (.iload_n 2, 1) := by decide +kernel
theorem dX8_fitsForm_13 : decode cX8_fitsForm 13 = .ok (.iconst 4, 1) := by decide +kernel
theorem dX8_fitsForm_14 : decode cX8_fitsForm 14 = .ok (.if_icmp .ge 30, 3) := by decide +kernel
theorem dX8_fitsForm_17 : decode cX8_fitsForm 17 = .ok (.iload_n 3, 1) := by decide +kernel
theorem dX8_fitsForm_18 : decode cX8_fitsForm 18 = .ok (.bipush 48, 2) := by decide +kernel
theorem dX8_fitsForm_20 : decode cX8_fitsForm 20 = .ok (.if_icmp .lt 22, 3) := by decide +kernel
theorem dX8_fitsForm_23 : decode cX8_fitsForm 23 = .ok (.iload_n 3, 1) := by decide +kernel
theorem dX8_fitsForm_24 : decode cX8_fitsForm 24 = .ok (.bipush 51, 2) := by decide +kernel
theorem dX8_fitsForm_26 : decode cX8_fitsForm 26 = .ok (.if_icmp .gt 16, 3) := by decide +kernel
theorem dX8_fitsForm_29 : decode cX8_fitsForm 29 = .ok (.aload_n 0, 1) := by decide +kernel
theorem dX8_fitsForm_30 : decode cX8_fitsForm 30 = .ok (.iload_n 1, 1) := by decide +kernel
theorem dX8_fitsForm_31 : decode cX8_fitsForm 31 = .ok (.iload_n 2, 1) := by decide +kernel
theorem dX8_fitsForm_32 : decode cX8_fitsForm 32 = .ok (.invokevirtual 30, 3) := by decide +kernel
theorem dX8_fitsForm_35 : decode cX8_fitsForm 35 = .ok (.ifCond .ne 7, 3) := by decide +kernel
theorem dX8_fitsForm_38 : decode cX8_fitsForm 38 = .ok (.iconst 1, 1) := by decide +kernel
theorem dX8_fitsForm_39 : decode cX8_fitsForm 39 = .ok (.goto 4, 3) := by decide +kernel
theorem dX8_fitsForm_42 : decode cX8_fitsForm 42 = .ok (.iconst 0, 1) := by decide +kernel
theorem dX8_fitsForm_43 : decode cX8_fitsForm 43 = .ok (.ireturn, 1) := by decide +kernel
theorem dX8_fitsForm_44 : decode cX8_fitsForm 44 = .ok (.iload_n 2, 1) := by decide +kernel
theorem dX8_fitsForm_45 : decode cX8_fitsForm 45 = .ok (.bipush 8, 2) := by decide +kernel
theorem dX8_fitsForm_47 : decode cX8_fitsForm 47 = .ok (.if_icmp .ge 21, 3) := by decide +kernel
theorem dX8_fitsForm_50 : decode cX8_fitsForm 50 = .ok (.iload_n 3, 1) := by decide +kernel
theorem dX8_fitsForm_51 : decode cX8_fitsForm 51 = .ok (.bipush 48, 2) := by decide +kernel
theorem dX8_fitsForm_53 : decode cX8_fitsForm 53 = .ok (.if_icmp .lt 13, 3) := by decide +kernel
theorem dX8_fitsForm_56 : decode cX8_fitsForm 56 = .ok (.iload_n 3, 1) := by decide +kernel
theorem dX8_fitsForm_57 : decode cX8_fitsForm 57 = .ok (.bipush 57, 2) := by decide +kernel
theorem dX8_fitsForm_59 : decode cX8_fitsForm 59 = .ok (.if_icmp .gt 7, 3) := by decide +kernel
theorem dX8_fitsForm_62 : decode cX8_fitsForm 62 = .ok (.iconst 1, 1) := by decide +kernel
theorem dX8_fitsForm_63 : decode cX8_fitsForm 63 = .ok (.goto 4, 3) := by decide +kernel
theorem dX8_fitsForm_66 : decode cX8_fitsForm 66 = .ok (.iconst 0, 1) := by decide +kernel
theorem dX8_fitsForm_67 : decode cX8_fitsForm 67 = .ok (.ireturn, 1) := by decide +kernel
theorem dX8_fitsForm_68 : decode cX8_fitsForm 68 = .ok (.iload_n 3, 1) := by decide +kernel
theorem dX8_fitsForm_69 : decode cX8_fitsForm 69 = .ok (.bipush 59, 2) := by decide +kernel
theorem dX8_fitsForm_71 : decode cX8_fitsForm 71 = .ok (.if_icmp .ne 7, 3) := by decide +kernel
theorem dX8_fitsForm_74 : decode cX8_fitsForm 74 = .ok (.iconst 1, 1) := by decide +kernel
theorem dX8_fitsForm_75 : decode cX8_fitsForm 75 = .ok (.goto 4, 3) := by decide +kernel
theorem dX8_fitsForm_78 : decode cX8_fitsForm 78 = .ok (.iconst 0, 1) := by decide +kernel
theorem dX8_fitsForm_79 : decode cX8_fitsForm 79 = .ok (.ireturn, 1) := by decide +kernel
theorem dX8_isToldBefore_0 : decode cX8_isToldBefore 0 = .ok (.iload_n 1, 1) := by decide +kernel
theorem dX8_isToldBefore_1 : decode cX8_isToldBefore 1 = .ok (.iload_n 2, 1) := by decide +kernel
theorem dX8_isToldBefore_2 : decode cX8_isToldBefore 2 = .ok (.isub, 1) := by decide +kernel
theorem dX8_isToldBefore_3 : decode cX8_isToldBefore 3 = .ok (.istore_n 3, 1) := by decide +kernel
theorem dX8_isToldBefore_4 : decode cX8_isToldBefore 4 = .ok (.iload_n 3, 1) := by decide +kernel
theorem dX8_isToldBefore_5 : decode cX8_isToldBefore 5 = .ok (.iload_n 1, 1) := by decide +kernel
theorem dX8_isToldBefore_6 : decode cX8_isToldBefore 6 = .ok (.if_icmp .ge 26, 3) := by decide +kernel
theorem dX8_isToldBefore_9 : decode cX8_isToldBefore 9 = .ok (.aload_n 0, 1) := by decide +kernel
theorem dX8_isToldBefore_10 : decode cX8_isToldBefore 10 = .ok (.getfield 15, 3) := by decide +kernel
theorem dX8_isToldBefore_13 : decode cX8_isToldBefore 13 = .ok (.iload_n 3, 1) := by decide +kernel
theorem dX8_isToldBefore_14 : decode cX8_isToldBefore 14 = .ok (.iaload, 1) := by decide +kernel
theorem dX8_isToldBefore_15 : decode cX8_isToldBefore 15 = .ok (.aload_n 0, 1) := by decide +kernel
theorem dX8_isToldBefore_16 : decode cX8_isToldBefore 16 = .ok (.getfield 15, 3) := by decide +kernel
theorem dX8_isToldBefore_19 : decode cX8_isToldBefore 19 = .ok (.iload_n 1, 1) := by decide +kernel
theorem dX8_isToldBefore_20 : decode cX8_isToldBefore 20 = .ok (.iaload, 1) := by decide +kernel
theorem dX8_isToldBefore_21 : decode cX8_isToldBefore 21 = .ok (.if_icmp .ne 5, 3) := by decide +kernel
theorem dX8_isToldBefore_24 : decode cX8_isToldBefore 24 = .ok (.iconst 1, 1) := by decide +kernel
theorem dX8_isToldBefore_25 : decode cX8_isToldBefore 25 = .ok (.ireturn, 1) := by decide +kernel
theorem dX8_isToldBefore_26 : decode cX8_isToldBefore 26 = .ok (.iinc 3 1, 3) := by decide +kernel
theorem dX8_isToldBefore_29 : decode cX8_isToldBefore 29 = .ok (.goto (-25), 3) := by decide +kernel
theorem dX8_isToldBefore_32 : decode cX8_isToldBefore 32 = .ok (.iconst 0, 1) := by decide +kernel
theorem dX8_isToldBefore_33 : decode cX8_isToldBefore 33 = .ok (.ireturn, 1) := by decide +kernel
set_option maxRecDepth 20000 in
theorem ggX8_findUnknownState_X8_countStates : GoodIn wsX8_findUnknownState wsX8_countStates := goodIn_r _ [5, 6, 12, 13] (by decide +kernel) (by decide +kernel)
set_option maxRecDepth 20000 in
theorem gX8_findUnknownState_X8_countStates : GoodIn wsX8_findUnknownState (wsV RX8 34 RX8 yX8_countStates wsX8_countStates) := goodIn_app (goodIn_of _ (by decide +kernel)) ggX8_findUnknownState_X8_countStates
set_option maxRecDepth 20000 in
theorem ggX8_findUnknownState_X8_digitAt : GoodIn wsX8_findUnknownState wsX8_digitAt := goodIn_r _ [10, 11, 12, 13] (by decide +kernel) (by decide +kernel)
set_option maxRecDepth 20000 in
theorem gX8_findUnknownState_X8_digitAt : GoodIn wsX8_findUnknownState (wsV RX8 37 RX8 yX8_digitAt wsX8_digitAt) := goodIn_app (goodIn_of _ (by decide +kernel)) ggX8_findUnknownState_X8_digitAt
theorem dX8_findUnknownState_0 : decode cX8_findUnknownState 0 = .ok (.iconst 0, 1) := by decide +kernel
theorem dX8_findUnknownState_1 : decode cX8_findUnknownState 1 = .ok (.istore_n 1, 1) := by decide +kernel
theorem dX8_findUnknownState_2 : decode cX8_findUnknownState 2 = .ok (.iload_n 1, 1) := by decide +kernel
theorem dX8_findUnknownState_3 : decode cX8_findUnknownState 3 = .ok (.aload_n 0, 1) := by decide +kernel
theorem dX8_findUnknownState_4 : decode cX8_findUnknownState 4 = .ok (.invokevirtual 34, 3) := by decide +kernel
theorem dX8_findUnknownState_7 : decode cX8_findUnknownState 7 = .ok (.if_icmp .ge 43, 3) := by decide +kernel
theorem dX8_findUnknownState_10 : decode cX8_findUnknownState 10 = .ok (.iconst 4, 1) := by decide +kernel
theorem dX8_findUnknownState_11 : decode cX8_findUnknownState 11 = .ok (.istore_n 2, 1) := by decide +kernel
theorem dX8_findUnknownState_12 : decode cX8_findUnknownState 12 = .ok (.iload_n 2, 1) := by decide +kernel
theorem dX8_findUnknownState_13 : decode cX8_findUnknownState 13 = .ok (.bipush 8, 2) := by decide +kernel
theorem dX8_findUnknownState_15 : decode cX8_findUnknownState 15 = .ok (.if_icmp .ge 29, 3) := by decide +kernel
theorem dX8_findUnknownState_18 : decode cX8_findUnknownState 18 = .ok (.aload_n 0, 1) := by decide +kernel
end
section
theorem dX8_findUnknownState_19 : decode cX8_findUnknownState 19 = .ok (.iload_n 1, 1) := by decide +kernel
theorem dX8_findUnknownState_20 : decode cX8_findUnknownState 20 = .ok (.iload_n 2, 1) := by decide +kernel
theorem dX8_findUnknownState_21 : decode cX8_findUnknownState 21 = .ok (.invokevirtual 37, 3) := by decide +kernel
theorem dX8_findUnknownState_24 : decode cX8_findUnknownState 24 = .ok (.aload_n 0, 1) := by decide +kernel
theorem dX8_findUnknownState_25 : decode cX8_findUnknownState 25 = .ok (.invokevirtual 34, 3) := by decide +kernel
theorem dX8_findUnknownState_28 : decode cX8_findUnknownState 28 = .ok (.if_icmp .lt 10, 3) := by decide +kernel
theorem dX8_findUnknownState_31 : decode cX8_findUnknownState 31 = .ok (.bipush 9, 2) := by decide +kernel
theorem dX8_findUnknownState_33 : decode cX8_findUnknownState 33 = .ok (.iload_n 1, 1) := by decide +kernel
theorem dX8_findUnknownState_34 : decode cX8_findUnknownState 34 = .ok (.imul, 1) := by decide +kernel
theorem dX8_findUnknownState_35 : decode cX8_findUnknownState 35 = .ok (.iload_n 2, 1) := by decide +kernel
theorem dX8_findUnknownState_36 : decode cX8_findUnknownState 36 = .ok (.iadd, 1) := by decide +kernel
theorem dX8_findUnknownState_37 : decode cX8_findUnknownState 37 = .ok (.ireturn, 1) := by decide +kernel
theorem dX8_findUnknownState_38 : decode cX8_findUnknownState 38 = .ok (.iinc 2 1, 3) := by decide +kernel
theorem dX8_findUnknownState_41 : decode cX8_findUnknownState 41 = .ok (.goto (-29), 3) := by decide +kernel
theorem dX8_findUnknownState_44 : decode cX8_findUnknownState 44 = .ok (.iinc 1 1, 3) := by decide +kernel
theorem dX8_findUnknownState_47 : decode cX8_findUnknownState 47 = .ok (.goto (-45), 3) := by decide +kernel
theorem dX8_findUnknownState_50 : decode cX8_findUnknownState 50 = .ok (.iconst (-1), 1) := by decide +kernel
theorem dX8_findUnknownState_51 : decode cX8_findUnknownState 51 = .ok (.ireturn, 1) := by decide +kernel
set_option maxRecDepth 20000 in
theorem ggX9_init_X5_init : GoodIn wsX9_init wsX5_init := goodIn_r _ [31, 32, 2, 3, 33, 34, 35, 36, 37, 38, 39, 40, 41, 42, 43, 44, 45, 46, 47, 48, 49, 50, 51, 52, 53, 54, 55, 56, 57, 58, 59, 60, 61, 62, 63, 64, 65, 66, 67, 68, 69, 70, 71, 72, 73, 74, 75, 76, 77, 78, 79, 180, 181, 182, 183, 184, 185, 186, 207, 208, 209, 210, 211, 212, 213, 214, 215, 216] (by decide +kernel) (by decide +kernel)
set_option maxRecDepth 20000 in
theorem gX9_init_X5_init_n9 : GoodIn wsX9_init (wsX5_init) := ggX9_init_X5_init
set_option maxRecDepth 20000 in
theorem ggX9_init_X8_init : GoodIn wsX9_init wsX8_init := goodIn_r _ [81, 82, 2, 3, 83, 57, 84, 194, 195] (by decide +kernel) (by decide +kernel)
set_option maxRecDepth 20000 in
theorem gX9_init_X8_init_n26 : GoodIn wsX9_init (wsX8_init) := ggX9_init_X8_init
set_option maxRecDepth 20000 in
theorem ggX9_init_X2_init : GoodIn wsX9_init wsX2_init := goodIn_r _ [86, 87, 2, 3, 88, 89, 57, 90, 91, 196, 197, 198, 199] (by decide +kernel) (by decide +kernel)
set_option maxRecDepth 20000 in
theorem gX9_init_X2_init_n33 : GoodIn wsX9_init (wsX2_init) := ggX9_init_X2_init
set_option maxRecDepth 20000 in
theorem ggX9_init_X0_init : GoodIn wsX9_init wsX0_init := goodIn_r _ [93, 94, 2, 3, 95, 57, 96, 97, 200, 201, 202] (by decide +kernel) (by decide +kernel)
set_option maxRecDepth 20000 in
theorem gX9_init_X0_init_n40 : GoodIn wsX9_init (wsX0_init) := ggX9_init_X0_init
set_option maxRecDepth 20000 in
theorem ggX9_init_X7_init : GoodIn wsX9_init wsX7_init := goodIn_r _ [100, 101, 2, 3, 102, 57, 103, 104, 105, 203, 204, 205, 206] (by decide +kernel) (by decide +kernel)
set_option maxRecDepth 20000 in
theorem gX9_init_X7_init : GoodIn wsX9_init (wsX7_init) := ggX9_init_X7_init
set_option maxRecDepth 20000 in
theorem ggX9_init_X4_setWhole : GoodIn wsX9_init wsX4_setWhole := goodIn_r _ [109, 110, 111, 112, 41, 113, 66, 67, 68, 69, 209, 210, 211, 212] (by decide +kernel) (by decide +kernel)
set_option maxRecDepth 20000 in
theorem gX9_init_X4_setWhole : GoodIn wsX9_init (wsV RX9 66 RX4 yX4_setWhole wsX4_setWhole) := goodIn_app (goodIn_of _ (by decide +kernel)) ggX9_init_X4_setWhole
set_option maxRecDepth 20000 in
theorem ggX9_init_X9_renumber : GoodIn wsX9_init wsX9_renumber := goodIn_r _ [118, 18, 7, 29, 22, 28, 119, 120, 121, 6, 122, 34, 38, 123, 124, 125, 126, 17, 127, 88, 89, 90, 91, 128, 129, 130, 131, 132, 133, 134, 21, 135, 95, 136, 97, 96, 137, 138, 139, 140, 141, 142, 143, 144, 145, 146, 147, 41, 148, 66, 68, 67, 69, 187, 188, 189, 190, 191, 192, 193, 180, 181, 182, 183, 184, 185, 186, 207, 208, 196, 197, 198, 199, 200, 201, 202, 209, 210, 211, 212] (by decide +kernel) (by decide +kernel)
set_option maxRecDepth 20000 in
theorem gX9_init_X9_renumber : GoodIn wsX9_init (wsV RX9 72 RX9 yX9_renumber wsX9_renumber) := goodIn_app (goodIn_of _ (by decide +kernel)) ggX9_init_X9_renumber
set_option maxRecDepth 20000 in
theorem ggX9_init_X9_redivide : GoodIn wsX9_init wsX9_redivide := goodIn_r _ [152, 7, 26, 18, 153, 154, 155, 156, 157, 50, 158, 78, 79, 159, 160, 161, 162, 163, 164, 165, 166, 45, 167, 73, 168, 169, 170, 171, 74, 172, 173, 174, 17, 175, 91, 176, 177, 178, 179, 187, 188, 189, 190, 191, 192, 193, 180, 181, 182, 183, 184, 185, 186, 215, 216, 196, 197, 198, 199, 213, 214] (by decide +kernel) (by decide +kernel)
set_option maxRecDepth 20000 in
theorem gX9_init_X9_redivide : GoodIn wsX9_init (wsV RX9 75 RX9 yX9_redivide wsX9_redivide) := goodIn_app (goodIn_of _ (by decide +kernel)) ggX9_init_X9_redivide
theorem dX9_init_0 : decode cX9_init 0 = .ok (.aload_n 0, 1) := by decide +kernel
theorem dX9_init_1 : decode cX9_init 1 = .ok (.invokespecial 1, 3) := by decide +kernel
theorem dX9_init_4 : decode cX9_init 4 = .ok (.aload_n 0, 1) := by decide +kernel
theorem dX9_init_5 : decode cX9_init 5 = .ok (.new 7, 3) := by decide +kernel
theorem dX9_init_8 : decode cX9_init 8 = .ok (.dup, 1) := by decide +kernel
theorem dX9_init_9 : decode cX9_init 9 = .ok (.invokespecial 9, 3) := by decide +kernel
theorem dX9_init_12 : decode cX9_init 12 = .ok (.putfield 10, 3) := by decide +kernel
theorem dX9_init_15 : decode cX9_init 15 = .ok (.aload_n 0, 1) := by decide +kernel
theorem dX9_init_16 : decode cX9_init 16 = .ok (.iconst 2, 1) := by decide +kernel
theorem dX9_init_17 : decode cX9_init 17 = .ok (.anewarray 7, 3) := by decide +kernel
theorem dX9_init_20 : decode cX9_init 20 = .ok (.dup, 1) := by decide +kernel
theorem dX9_init_21 : decode cX9_init 21 = .ok (.iconst 0, 1) := by decide +kernel
theorem dX9_init_22 : decode cX9_init 22 = .ok (.new 7, 3) := by decide +kernel
theorem dX9_init_25 : decode cX9_init 25 = .ok (.dup, 1) := by decide +kernel
theorem dX9_init_26 : decode cX9_init 26 = .ok (.invokespecial 9, 3) := by decide +kernel
theorem dX9_init_29 : decode cX9_init 29 = .ok (.aastore, 1) := by decide +kernel
theorem dX9_init_30 : decode cX9_init 30 = .ok (.dup, 1) := by decide +kernel
theorem dX9_init_31 : decode cX9_init 31 = .ok (.iconst 1, 1) := by decide +kernel
theorem dX9_init_32 : decode cX9_init 32 = .ok (.new 7, 3) := by decide +kernel
theorem dX9_init_35 : decode cX9_init 35 = .ok (.dup, 1) := by decide +kernel
theorem dX9_init_36 : decode cX9_init 36 = .ok (.invokespecial 9, 3) := by decide +kernel
theorem dX9_init_39 : decode cX9_init 39 = .ok (.aastore, 1) := by decide +kernel
theorem dX9_init_40 : decode cX9_init 40 = .ok (.putfield 16, 3) := by decide +kernel
theorem dX9_init_43 : decode cX9_init 43 = .ok (.aload_n 0, 1) := by decide +kernel
theorem dX9_init_44 : decode cX9_init 44 = .ok (.iconst 2, 1) := by decide +kernel
theorem dX9_init_45 : decode cX9_init 45 = .ok (.newarray .boolean, 2) := by decide +kernel
theorem dX9_init_47 : decode cX9_init 47 = .ok (.putfield 20, 3) := by decide +kernel
theorem dX9_init_50 : decode cX9_init 50 = .ok (.aload_n 0, 1) := by decide +kernel
theorem dX9_init_51 : decode cX9_init 51 = .ok (.new 24, 3) := by decide +kernel
theorem dX9_init_54 : decode cX9_init 54 = .ok (.dup, 1) := by decide +kernel
theorem dX9_init_55 : decode cX9_init 55 = .ok (.invokespecial 26, 3) := by decide +kernel
theorem dX9_init_58 : decode cX9_init 58 = .ok (.putfield 27, 3) := by decide +kernel
theorem dX9_init_61 : decode cX9_init 61 = .ok (.aload_n 0, 1) := by decide +kernel
theorem dX9_init_62 : decode cX9_init 62 = .ok (.new 31, 3) := by decide +kernel
theorem dX9_init_65 : decode cX9_init 65 = .ok (.dup, 1) := by decide +kernel
theorem dX9_init_66 : decode cX9_init 66 = .ok (.invokespecial 33, 3) := by decide +kernel
theorem dX9_init_69 : decode cX9_init 69 = .ok (.putfield 34, 3) := by decide +kernel
theorem dX9_init_72 : decode cX9_init 72 = .ok (.aload_n 0, 1) := by decide +kernel
theorem dX9_init_73 : decode cX9_init 73 = .ok (.new 38, 3) := by decide +kernel
theorem dX9_init_76 : decode cX9_init 76 = .ok (.dup, 1) := by decide +kernel
theorem dX9_init_77 : decode cX9_init 77 = .ok (.invokespecial 40, 3) := by decide +kernel
theorem dX9_init_80 : decode cX9_init 80 = .ok (.putfield 41, 3) := by decide +kernel
theorem dX9_init_83 : decode cX9_init 83 = .ok (.aload_n 0, 1) := by decide +kernel
theorem dX9_init_84 : decode cX9_init 84 = .ok (.new 45, 3) := by decide +kernel
theorem dX9_init_87 : decode cX9_init 87 = .ok (.dup, 1) := by decide +kernel
theorem dX9_init_88 : decode cX9_init 88 = .ok (.aload_n 0, 1) := by decide +kernel
theorem dX9_init_89 : decode cX9_init 89 = .ok (.getfield 34, 3) := by decide +kernel
theorem dX9_init_92 : decode cX9_init 92 = .ok (.aload_n 0, 1) := by decide +kernel
theorem dX9_init_93 : decode cX9_init 93 = .ok (.getfield 10, 3) := by decide +kernel
theorem dX9_init_96 : decode cX9_init 96 = .ok (.getfield 47, 3) := by decide +kernel
theorem dX9_init_99 : decode cX9_init 99 = .ok (.invokespecial 51, 3) := by decide +kernel
theorem dX9_init_102 : decode cX9_init 102 = .ok (.putfield 54, 3) := by decide +kernel
theorem dX9_init_105 : decode cX9_init 105 = .ok (.aload_n 0, 1) := by decide +kernel
theorem dX9_init_106 : decode cX9_init 106 = .ok (.getfield 10, 3) := by decide +kernel
theorem dX9_init_109 : decode cX9_init 109 = .ok (.getfield 58, 3) := by decide +kernel
theorem dX9_init_112 : decode cX9_init 112 = .ok (.iconst 1, 1) := by decide +kernel
theorem dX9_init_113 : decode cX9_init 113 = .ok (.aload_n 0, 1) := by decide +kernel
theorem dX9_init_114 : decode cX9_init 114 = .ok (.getfield 10, 3) := by decide +kernel
theorem dX9_init_117 : decode cX9_init 117 = .ok (.getfield 62, 3) := by decide +kernel
theorem dX9_init_120 : decode cX9_init 120 = .ok (.ishl, 1) := by decide +kernel
theorem dX9_init_121 : decode cX9_init 121 = .ok (.invokevirtual 66, 3) := by decide +kernel
theorem dX9_init_124 : decode cX9_init 124 = .ok (.aload_n 0, 1) := by decide +kernel
theorem dX9_init_125 : decode cX9_init 125 = .ok (.invokevirtual 72, 3) := by decide +kernel
theorem dX9_init_128 : decode cX9_init 128 = .ok (.aload_n 0, 1) := by decide +kernel
theorem dX9_init_129 : decode cX9_init 129 = .ok (.invokevirtual 75, 3) := by decide +kernel
theorem dX9_init_132 : decode cX9_init 132 = .ok (.return_, 1) := by decide +kernel
set_option maxRecDepth 20000 in
theorem ggX9_setLevels_X4_setWhole : GoodIn wsX9_setLevels wsX4_setWhole := goodIn_r _ [9, 10, 11, 12, 8, 13, 14, 15, 16, 17, 122, 123, 124, 125] (by decide +kernel) (by decide +kernel)
set_option maxRecDepth 20000 in
theorem gX9_setLevels_X4_setWhole : GoodIn wsX9_setLevels (wsV RX9 66 RX4 yX4_setWhole wsX4_setWhole) := goodIn_app (goodIn_of _ (by decide +kernel)) ggX9_setLevels_X4_setWhole
set_option maxRecDepth 20000 in
theorem ggX9_setLevels_X3_removeAll : GoodIn wsX9_setLevels wsX3_removeAll := goodIn_r _ [22, 23, 126, 127] (by decide +kernel) (by decide +kernel)
set_option maxRecDepth 20000 in
theorem gX9_setLevels_X3_removeAll : GoodIn wsX9_setLevels (wsV RX9 82 RX3 yX3_removeAll wsX3_removeAll) := goodIn_app (goodIn_of _ (by decide +kernel)) ggX9_setLevels_X3_removeAll
set_option maxRecDepth 20000 in
theorem ggX9_setLevels_X9_renumber : GoodIn wsX9_setLevels wsX9_renumber := goodIn_r _ [28, 29, 1, 2, 30, 3, 31, 32, 33, 34, 35, 36, 37, 38, 39, 40, 41, 42, 43, 44, 45, 46, 47, 48, 49, 50, 51, 52, 53, 54, 55, 56, 57, 58, 59, 60, 61, 62, 63, 64, 65, 66, 67, 68, 69, 70, 71, 8, 72, 14, 16, 15, 17, 108, 109, 110, 111, 112, 113, 114, 115, 116, 117, 118, 119, 120, 121, 128, 129, 130, 131, 132, 133, 134, 135, 136, 122, 123, 124, 125] (by decide +kernel) (by decide +kernel)
set_option maxRecDepth 20000 in
theorem gX9_setLevels_X9_renumber : GoodIn wsX9_setLevels (wsV RX9 72 RX9 yX9_renumber wsX9_renumber) := goodIn_app (goodIn_of _ (by decide +kernel)) ggX9_setLevels_X9_renumber
set_option maxRecDepth 20000 in
theorem ggX9_setLevels_X9_redivide : GoodIn wsX9_setLevels wsX9_redivide := goodIn_r _ [76, 1, 77, 29, 4, 78, 79, 80, 81, 82, 83, 84, 85, 86, 87, 88, 89, 90, 91, 92, 93, 21, 94, 23, 95, 96, 97, 98, 99, 100, 101, 102, 42, 103, 47, 104, 105, 106, 107, 108, 109, 110, 111, 112, 113, 114, 115, 116, 117, 118, 119, 120, 121, 137, 138, 130, 131, 132, 133, 126, 127] (by decide +kernel) (by decide +kernel)
set_option maxRecDepth 20000 in
theorem gX9_setLevels_X9_redivide : GoodIn wsX9_setLevels (wsV RX9 75 RX9 yX9_redivide wsX9_redivide) := goodIn_app (goodIn_of _ (by decide +kernel)) ggX9_setLevels_X9_redivide
theorem dX9_setLevels_0 : decode cX9_setLevels 0 = .ok (.iload_n 1, 1) := by decide +kernel
theorem dX9_setLevels_1 : decode cX9_setLevels 1 = .ok (.iconst 1, 1) := by decide +kernel
theorem dX9_setLevels_2 : decode cX9_setLevels 2 = .ok (.if_icmp .lt 9, 3) := by decide +kernel
theorem dX9_setLevels_5 : decode cX9_setLevels 5 = .ok (.iload_n 1, 1) := by decide +kernel
theorem dX9_setLevels_6 : decode cX9_setLevels 6 = .ok (.bipush 6, 2) := by decide +kernel
theorem dX9_setLevels_8 : decode cX9_setLevels 8 = .ok (.if_icmp .le 6, 3) := by decide +kernel
theorem dX9_setLevels_11 : decode cX9_setLevels 11 = .ok (.bipush (-2), 2) := by decide +kernel
theorem dX9_setLevels_13 : decode cX9_setLevels 13 = .ok (.ireturn, 1) := by decide +kernel
theorem dX9_setLevels_14 : decode cX9_setLevels 14 = .ok (.aload_n 0, 1) := by decide +kernel
theorem dX9_setLevels_15 : decode cX9_setLevels 15 = .ok (.getfield 10, 3) := by decide +kernel
theorem dX9_setLevels_18 : decode cX9_setLevels 18 = .ok (.getfield 62, 3) := by decide +kernel
theorem dX9_setLevels_21 : decode cX9_setLevels 21 = .ok (.istore_n 2, 1) := by decide +kernel
theorem dX9_setLevels_22 : decode cX9_setLevels 22 = .ok (.aload_n 0, 1) := by decide +kernel
theorem dX9_setLevels_23 : decode cX9_setLevels 23 = .ok (.getfield 10, 3) := by decide +kernel
theorem dX9_setLevels_26 : decode cX9_setLevels 26 = .ok (.iload_n 1, 1) := by decide +kernel
theorem dX9_setLevels_27 : decode cX9_setLevels 27 = .ok (.putfield 62, 3) := by decide +kernel
theorem dX9_setLevels_30 : decode cX9_setLevels 30 = .ok (.aload_n 0, 1) := by decide +kernel
theorem dX9_setLevels_31 : decode cX9_setLevels 31 = .ok (.getfield 10, 3) := by decide +kernel
theorem dX9_setLevels_34 : decode cX9_setLevels 34 = .ok (.getfield 58, 3) := by decide +kernel
theorem dX9_setLevels_37 : decode cX9_setLevels 37 = .ok (.iconst 1, 1) := by decide +kernel
theorem dX9_setLevels_38 : decode cX9_setLevels 38 = .ok (.iload_n 1, 1) := by decide +kernel
theorem dX9_setLevels_39 : decode cX9_setLevels 39 = .ok (.ishl, 1) := by decide +kernel
theorem dX9_setLevels_40 : decode cX9_setLevels 40 = .ok (.invokevirtual 66, 3) := by decide +kernel
theorem dX9_setLevels_43 : decode cX9_setLevels 43 = .ok (.aload_n 0, 1) := by decide +kernel
theorem dX9_setLevels_44 : decode cX9_setLevels 44 = .ok (.getfield 10, 3) := by decide +kernel
theorem dX9_setLevels_47 : decode cX9_setLevels 47 = .ok (.getfield 78, 3) := by decide +kernel
theorem dX9_setLevels_50 : decode cX9_setLevels 50 = .ok (.invokevirtual 82, 3) := by decide +kernel
theorem dX9_setLevels_53 : decode cX9_setLevels 53 = .ok (.aload_n 0, 1) := by decide +kernel
theorem dX9_setLevels_54 : decode cX9_setLevels 54 = .ok (.invokevirtual 72, 3) := by decide +kernel
theorem dX9_setLevels_57 : decode cX9_setLevels 57 = .ok (.aload_n 0, 1) := by decide +kernel
theorem dX9_setLevels_58 : decode cX9_setLevels 58 = .ok (.invokevirtual 75, 3) := by decide +kernel
theorem dX9_setLevels_61 : decode cX9_setLevels 61 = .ok (.iload_n 2, 1) := by decide +kernel
theorem dX9_setLevels_62 : decode cX9_setLevels 62 = .ok (.ireturn, 1) := by decide +kernel
set_option maxRecDepth 20000 in
theorem ggX9_setCurve_X9_renumber : GoodIn wsX9_setCurve wsX9_renumber := goodIn_r _ [7, 8, 1, 9, 10, 11, 12, 13, 14, 15, 16, 17, 18, 19, 20, 21, 22, 23, 24, 25, 26, 27, 28, 29, 30, 31, 32, 33, 34, 35, 36, 37, 38, 39, 40, 41, 42, 43, 44, 45, 46, 47, 48, 49, 50, 51, 52, 53, 54, 55, 56, 57, 58, 97, 98, 99, 100, 101, 102, 103, 104, 105, 106, 107, 108, 109, 110, 111, 112, 113, 114, 115, 116, 117, 118, 119, 120, 121, 122, 123] (by decide +kernel) (by decide +kernel)
set_option maxRecDepth 20000 in
theorem gX9_setCurve_X9_renumber : GoodIn wsX9_setCurve (wsV RX9 72 RX9 yX9_renumber wsX9_renumber) := goodIn_app (goodIn_of _ (by decide +kernel)) ggX9_setCurve_X9_renumber
set_option maxRecDepth 20000 in
theorem ggX9_setCurve_X9_redivide : GoodIn wsX9_setCurve wsX9_redivide := goodIn_r _ [62, 1, 63, 8, 64, 65, 66, 67, 68, 69, 70, 71, 72, 73, 74, 75, 76, 77, 78, 79, 80, 81, 82, 83, 84, 85, 86, 87, 88, 89, 90, 91, 23, 92, 28, 93, 94, 95, 96, 97, 98, 99, 100, 101, 102, 103, 104, 105, 106, 107, 108, 109, 110, 124, 125, 113, 114, 115, 116, 126, 127] (by decide +kernel) (by decide +kernel)
set_option maxRecDepth 20000 in
theorem gX9_setCurve_X9_redivide : GoodIn wsX9_setCurve (wsV RX9 75 RX9 yX9_redivide wsX9_redivide) := goodIn_app (goodIn_of _ (by decide +kernel)) ggX9_setCurve_X9_redivide
theorem dX9_setCurve_0 : decode cX9_setCurve 0 = .ok (.iload_n 1, 1) := by decide +kernel
theorem dX9_setCurve_1 : decode cX9_setCurve 1 = .ok (.ifCond .lt 8, 3) := by decide +kernel
theorem dX9_setCurve_4 : decode cX9_setCurve 4 = .ok (.iload_n 1, 1) := by decide +kernel
theorem dX9_setCurve_5 : decode cX9_setCurve 5 = .ok (.iconst 2, 1) := by decide +kernel
theorem dX9_setCurve_6 : decode cX9_setCurve 6 = .ok (.if_icmp .le 6, 3) := by decide +kernel
theorem dX9_setCurve_9 : decode cX9_setCurve 9 = .ok (.bipush (-2), 2) := by decide +kernel
theorem dX9_setCurve_11 : decode cX9_setCurve 11 = .ok (.ireturn, 1) := by decide +kernel
theorem dX9_setCurve_12 : decode cX9_setCurve 12 = .ok (.aload_n 0, 1) := by decide +kernel
theorem dX9_setCurve_13 : decode cX9_setCurve 13 = .ok (.getfield 10, 3) := by decide +kernel
theorem dX9_setCurve_16 : decode cX9_setCurve 16 = .ok (.getfield 87, 3) := by decide +kernel
theorem dX9_setCurve_19 : decode cX9_setCurve 19 = .ok (.istore_n 2, 1) := by decide +kernel
theorem dX9_setCurve_20 : decode cX9_setCurve 20 = .ok (.aload_n 0, 1) := by decide +kernel
theorem dX9_setCurve_21 : decode cX9_setCurve 21 = .ok (.getfield 10, 3) := by decide +kernel
theorem dX9_setCurve_24 : decode cX9_setCurve 24 = .ok (.iload_n 1, 1) := by decide +kernel
theorem dX9_setCurve_25 : decode cX9_setCurve 25 = .ok (.putfield 87, 3) := by decide +kernel
theorem dX9_setCurve_28 : decode cX9_setCurve 28 = .ok (.aload_n 0, 1) := by decide +kernel
theorem dX9_setCurve_29 : decode cX9_setCurve 29 = .ok (.invokevirtual 72, 3) := by decide +kernel
theorem dX9_setCurve_32 : decode cX9_setCurve 32 = .ok (.aload_n 0, 1) := by decide +kernel
theorem dX9_setCurve_33 : decode cX9_setCurve 33 = .ok (.invokevirtual 75, 3) := by decide +kernel
theorem dX9_setCurve_36 : decode cX9_setCurve 36 = .ok (.iload_n 2, 1) := by decide +kernel
theorem dX9_setCurve_37 : decode cX9_setCurve 37 = .ok (.ireturn, 1) := by decide +kernel
set_option maxRecDepth 20000 in
theorem ggX9_states_X5_stateCount : GoodIn wsX9_states wsX5_stateCount := goodIn_r _ [6, 7, 8, 9, 17, 18, 19, 20, 21, 22, 23, 24, 25] (by decide +kernel) (by decide +kernel)
set_option maxRecDepth 20000 in
theorem gX9_states_X5_stateCount : GoodIn wsX9_states (wsV RX9 90 RX5 yX5_stateCount wsX5_stateCount) := goodIn_app (goodIn_of _ (by decide +kernel)) ggX9_states_X5_stateCount
theorem dX9_states_0 : decode cX9_states 0 = .ok (.aload_n 0, 1) := by decide +kernel
theorem dX9_states_1 : decode cX9_states 1 = .ok (.getfield 10, 3) := by decide +kernel
theorem dX9_states_4 : decode cX9_states 4 = .ok (.invokevirtual 90, 3) := by decide +kernel
theorem dX9_states_7 : decode cX9_states 7 = .ok (.ireturn, 1) := by decide +kernel
set_option maxRecDepth 20000 in
theorem ggX9_visit_X5_stateCount : GoodIn wsX9_visit wsX5_stateCount := goodIn_r _ [6, 7, 8, 9, 22, 23, 24, 25, 26, 27, 28, 29, 30] (by decide +kernel) (by decide +kernel)
set_option maxRecDepth 20000 in
theorem gX9_visit_X5_stateCount : GoodIn wsX9_visit (wsV RX9 90 RX5 yX5_stateCount wsX5_stateCount) := goodIn_app (goodIn_of _ (by decide +kernel)) ggX9_visit_X5_stateCount
set_option maxRecDepth 20000 in
theorem ggX9_visit_X5_visitsOfCurve : GoodIn wsX9_visit wsX5_visitsOfCurve := goodIn_r _ [13, 7, 8, 14, 22, 23, 24, 25, 26, 27, 28, 29, 30] (by decide +kernel) (by decide +kernel)
set_option maxRecDepth 20000 in
theorem gX9_visit_X5_visitsOfCurve : GoodIn wsX9_visit (wsV RX9 94 RX5 yX5_visitsOfCurve wsX5_visitsOfCurve) := goodIn_app (goodIn_of _ (by decide +kernel)) ggX9_visit_X5_visitsOfCurve
theorem dX9_visit_0 : decode cX9_visit 0 = .ok (.iload_n 1, 1) := by decide +kernel
theorem dX9_visit_1 : decode cX9_visit 1 = .ok (.ifCond .lt 23, 3) := by decide +kernel
theorem dX9_visit_4 : decode cX9_visit 4 = .ok (.iload_n 1, 1) := by decide +kernel
theorem dX9_visit_5 : decode cX9_visit 5 = .ok (.aload_n 0, 1) := by decide +kernel
theorem dX9_visit_6 : decode cX9_visit 6 = .ok (.getfield 10, 3) := by decide +kernel
theorem dX9_visit_9 : decode cX9_visit 9 = .ok (.invokevirtual 90, 3) := by decide +kernel
theorem dX9_visit_12 : decode cX9_visit 12 = .ok (.if_icmp .ge 12, 3) := by decide +kernel
theorem dX9_visit_15 : decode cX9_visit 15 = .ok (.iload_n 2, 1) := by decide +kernel
theorem dX9_visit_16 : decode cX9_visit 16 = .ok (.ifCond .lt 8, 3) := by decide +kernel
theorem dX9_visit_19 : decode cX9_visit 19 = .ok (.iload_n 2, 1) := by decide +kernel
theorem dX9_visit_20 : decode cX9_visit 20 = .ok (.iconst 4, 1) := by decide +kernel
theorem dX9_visit_21 : decode cX9_visit 21 = .ok (.if_icmp .lt 5, 3) := by decide +kernel
theorem dX9_visit_24 : decode cX9_visit 24 = .ok (.iconst (-1), 1) := by decide +kernel
theorem dX9_visit_25 : decode cX9_visit 25 = .ok (.ireturn, 1) := by decide +kernel
theorem dX9_visit_26 : decode cX9_visit 26 = .ok (.aload_n 0, 1) := by decide +kernel
theorem dX9_visit_27 : decode cX9_visit 27 = .ok (.getfield 10, 3) := by decide +kernel
theorem dX9_visit_30 : decode cX9_visit 30 = .ok (.invokevirtual 94, 3) := by decide +kernel
theorem dX9_visit_33 : decode cX9_visit 33 = .ok (.iconst 4, 1) := by decide +kernel
theorem dX9_visit_34 : decode cX9_visit 34 = .ok (.iload_n 1, 1) := by decide +kernel
theorem dX9_visit_35 : decode cX9_visit 35 = .ok (.imul, 1) := by decide +kernel
theorem dX9_visit_36 : decode cX9_visit 36 = .ok (.iload_n 2, 1) := by decide +kernel
theorem dX9_visit_37 : decode cX9_visit 37 = .ok (.iadd, 1) := by decide +kernel
theorem dX9_visit_38 : decode cX9_visit 38 = .ok (.iaload, 1) := by decide +kernel
theorem dX9_visit_39 : decode cX9_visit 39 = .ok (.ireturn, 1) := by decide +kernel
set_option maxRecDepth 20000 in
theorem ggX9_index_X2_holds : GoodIn wsX9_index wsX2_holds := goodIn_r _ [6, 7, 20, 21, 22, 23] (by decide +kernel) (by decide +kernel)
set_option maxRecDepth 20000 in
theorem gX9_index_X2_holds : GoodIn wsX9_index (wsV RX9 98 RX2 yX2_holds wsX2_holds) := goodIn_app (goodIn_of _ (by decide +kernel)) ggX9_index_X2_holds
set_option maxRecDepth 20000 in
theorem ggX9_index_X2_indexOf : GoodIn wsX9_index wsX2_indexOf := goodIn_r _ [11, 12, 20, 21, 22, 23] (by decide +kernel) (by decide +kernel)
set_option maxRecDepth 20000 in
theorem gX9_index_X2_indexOf : GoodIn wsX9_index (wsV RX9 102 RX2 yX2_indexOf wsX2_indexOf) := goodIn_app (goodIn_of _ (by decide +kernel)) ggX9_index_X2_indexOf
theorem dX9_index_0 : decode cX9_index 0 = .ok (.aload_n 0, 1) := by decide +kernel
theorem dX9_index_1 : decode cX9_index 1 = .ok (.getfield 34, 3) := by decide +kernel
theorem dX9_index_4 : decode cX9_index 4 = .ok (.iload_n 1, 1) := by decide +kernel
theorem dX9_index_5 : decode cX9_index 5 = .ok (.iload_n 2, 1) := by decide +kernel
theorem dX9_index_6 : decode cX9_index 6 = .ok (.invokevirtual 98, 3) := by decide +kernel
theorem dX9_index_9 : decode cX9_index 9 = .ok (.ifCond .eq 15, 3) := by decide +kernel
theorem dX9_index_12 : decode cX9_index 12 = .ok (.aload_n 0, 1) := by decide +kernel
theorem dX9_index_13 : decode cX9_index 13 = .ok (.getfield 34, 3) := by decide +kernel
theorem dX9_index_16 : decode cX9_index 16 = .ok (.iload_n 1, 1) := by decide +kernel
theorem dX9_index_17 : decode cX9_index 17 = .ok (.iload_n 2, 1) := by decide +kernel
theorem dX9_index_18 : decode cX9_index 18 = .ok (.invokevirtual 102, 3) := by decide +kernel
theorem dX9_index_21 : decode cX9_index 21 = .ok (.goto 4, 3) := by decide +kernel
theorem dX9_index_24 : decode cX9_index 24 = .ok (.iconst (-1), 1) := by decide +kernel
theorem dX9_index_25 : decode cX9_index 25 = .ok (.ireturn, 1) := by decide +kernel
set_option maxRecDepth 20000 in
theorem ggX9_cell_X2_yAt : GoodIn wsX9_cell wsX2_yAt := goodIn_r _ [7, 8, 20, 21, 22, 23] (by decide +kernel) (by decide +kernel)
set_option maxRecDepth 20000 in
theorem gX9_cell_X2_yAt : GoodIn wsX9_cell (wsV RX9 109 RX2 yX2_yAt wsX2_yAt) := goodIn_app (goodIn_of _ (by decide +kernel)) ggX9_cell_X2_yAt
set_option maxRecDepth 20000 in
theorem ggX9_cell_X2_xAt : GoodIn wsX9_cell wsX2_xAt := goodIn_r _ [12, 8, 20, 21, 22, 23] (by decide +kernel) (by decide +kernel)
set_option maxRecDepth 20000 in
theorem gX9_cell_X2_xAt : GoodIn wsX9_cell (wsV RX9 113 RX2 yX2_xAt wsX2_xAt) := goodIn_app (goodIn_of _ (by decide +kernel)) ggX9_cell_X2_xAt
theorem dX9_cell_0 : decode cX9_cell 0 = .ok (.iload_n 1, 1) := by decide +kernel
theorem dX9_cell_1 : decode cX9_cell 1 = .ok (.ifCond .lt 14, 3) := by decide +kernel
theorem dX9_cell_4 : decode cX9_cell 4 = .ok (.iload_n 1, 1) := by decide +kernel
theorem dX9_cell_5 : decode cX9_cell 5 = .ok (.aload_n 0, 1) := by decide +kernel
theorem dX9_cell_6 : decode cX9_cell 6 = .ok (.getfield 34, 3) := by decide +kernel
theorem dX9_cell_9 : decode cX9_cell 9 = .ok (.getfield 106, 3) := by decide +kernel
theorem dX9_cell_12 : decode cX9_cell 12 = .ok (.if_icmp .lt 5, 3) := by decide +kernel
theorem dX9_cell_15 : decode cX9_cell 15 = .ok (.iconst (-1), 1) := by decide +kernel
theorem dX9_cell_16 : decode cX9_cell 16 = .ok (.ireturn, 1) := by decide +kernel
theorem dX9_cell_17 : decode cX9_cell 17 = .ok (.iload_n 2, 1) := by decide +kernel
theorem dX9_cell_18 : decode cX9_cell 18 = .ok (.ifCond .eq 14, 3) := by decide +kernel
theorem dX9_cell_21 : decode cX9_cell 21 = .ok (.aload_n 0, 1) := by decide +kernel
theorem dX9_cell_22 : decode cX9_cell 22 = .ok (.getfield 34, 3) := by decide +kernel
theorem dX9_cell_25 : decode cX9_cell 25 = .ok (.iload_n 1, 1) := by decide +kernel
theorem dX9_cell_26 : decode cX9_cell 26 = .ok (.invokevirtual 109, 3) := by decide +kernel
theorem dX9_cell_29 : decode cX9_cell 29 = .ok (.goto 11, 3) := by decide +kernel
theorem dX9_cell_32 : decode cX9_cell 32 = .ok (.aload_n 0, 1) := by decide +kernel
theorem dX9_cell_33 : decode cX9_cell 33 = .ok (.getfield 34, 3) := by decide +kernel
theorem dX9_cell_36 : decode cX9_cell 36 = .ok (.iload_n 1, 1) := by decide +kernel
theorem dX9_cell_37 : decode cX9_cell 37 = .ok (.invokevirtual 113, 3) := by decide +kernel
theorem dX9_cell_40 : decode cX9_cell 40 = .ok (.ireturn, 1) := by decide +kernel
set_option maxRecDepth 20000 in
theorem ggX9_breaks_X2_countBreaks : GoodIn wsX9_breaks wsX2_countBreaks := goodIn_r _ [6, 7, 8, 9, 10, 11, 12, 13, 14, 5, 15, 16, 17, 18, 19, 20, 28, 29, 30, 31] (by decide +kernel) (by decide +kernel)
set_option maxRecDepth 20000 in
theorem gX9_breaks_X2_countBreaks : GoodIn wsX9_breaks (wsV RX9 116 RX2 yX2_countBreaks wsX2_countBreaks) := goodIn_app (goodIn_of _ (by decide +kernel)) ggX9_breaks_X2_countBreaks
theorem dX9_breaks_0 : decode cX9_breaks 0 = .ok (.aload_n 0, 1) := by decide +kernel
theorem dX9_breaks_1 : decode cX9_breaks 1 = .ok (.getfield 34, 3) := by decide +kernel
theorem dX9_breaks_4 : decode cX9_breaks 4 = .ok (.invokevirtual 116, 3) := by decide +kernel
theorem dX9_breaks_7 : decode cX9_breaks 7 = .ok (.ireturn, 1) := by decide +kernel
set_option maxRecDepth 20000 in
theorem ggX9_stretch_X2_greatestDifference : GoodIn wsX9_stretch wsX2_greatestDifference := goodIn_r _ [6, 7, 8, 9, 10, 11, 12, 13, 14, 15, 16, 17, 5, 18, 19, 27, 28, 29, 30] (by decide +kernel) (by decide +kernel)
set_option maxRecDepth 20000 in
theorem gX9_stretch_X2_greatestDifference : GoodIn wsX9_stretch (wsV RX9 119 RX2 yX2_greatestDifference wsX2_greatestDifference) := goodIn_app (goodIn_of _ (by decide +kernel)) ggX9_stretch_X2_greatestDifference
theorem dX9_stretch_0 : decode cX9_stretch 0 = .ok (.aload_n 0, 1) := by decide +kernel
theorem dX9_stretch_1 : decode cX9_stretch 1 = .ok (.getfield 34, 3) := by decide +kernel
theorem dX9_stretch_4 : decode cX9_stretch 4 = .ok (.invokevirtual 119, 3) := by decide +kernel
theorem dX9_stretch_7 : decode cX9_stretch 7 = .ok (.ireturn, 1) := by decide +kernel
set_option maxRecDepth 20000 in
theorem ggX9_append_X8_add : GoodIn wsX9_append wsX8_add := goodIn_r _ [7, 8, 9, 17, 18] (by decide +kernel) (by decide +kernel)
set_option maxRecDepth 20000 in
theorem gX9_append_X8_add : GoodIn wsX9_append (wsV RX9 122 RX8 yX8_add wsX8_add) := goodIn_app (goodIn_of _ (by decide +kernel)) ggX9_append_X8_add
theorem dX9_append_0 : decode cX9_append 0 = .ok (.iload_n 1, 1) := by decide +kernel
theorem dX9_append_1 : decode cX9_append 1 = .ok (.ifCond .lt 9, 3) := by decide +kernel
theorem dX9_append_4 : decode cX9_append 4 = .ok (.iload_n 1, 1) := by decide +kernel
theorem dX9_append_5 : decode cX9_append 5 = .ok (.bipush 127, 2) := by decide +kernel
theorem dX9_append_7 : decode cX9_append 7 = .ok (.if_icmp .le 6, 3) := by decide +kernel
theorem dX9_append_10 : decode cX9_append 10 = .ok (.bipush (-2), 2) := by decide +kernel
theorem dX9_append_12 : decode cX9_append 12 = .ok (.ireturn, 1) := by decide +kernel
theorem dX9_append_13 : decode cX9_append 13 = .ok (.aload_n 0, 1) := by decide +kernel
theorem dX9_append_14 : decode cX9_append 14 = .ok (.getfield 27, 3) := by decide +kernel
theorem dX9_append_17 : decode cX9_append 17 = .ok (.iload_n 1, 1) := by decide +kernel
theorem dX9_append_18 : decode cX9_append 18 = .ok (.invokevirtual 122, 3) := by decide +kernel
theorem dX9_append_21 : decode cX9_append 21 = .ok (.ifCond .eq 13, 3) := by decide +kernel
theorem dX9_append_24 : decode cX9_append 24 = .ok (.aload_n 0, 1) := by decide +kernel
theorem dX9_append_25 : decode cX9_append 25 = .ok (.getfield 27, 3) := by decide +kernel
theorem dX9_append_28 : decode cX9_append 28 = .ok (.getfield 126, 3) := by decide +kernel
theorem dX9_append_31 : decode cX9_append 31 = .ok (.goto 5, 3) := by decide +kernel
theorem dX9_append_34 : decode cX9_append 34 = .ok (.bipush (-4), 2) := by decide +kernel
theorem dX9_append_36 : decode cX9_append 36 = .ok (.ireturn, 1) := by decide +kernel
theorem dX9_clearText_0 : decode cX9_clearText 0 = .ok (.aload_n 0, 1) := by decide +kernel
theorem dX9_clearText_1 : decode cX9_clearText 1 = .ok (.getfield 27, 3) := by decide +kernel
theorem dX9_clearText_4 : decode cX9_clearText 4 = .ok (.getfield 126, 3) := by decide +kernel
theorem dX9_clearText_7 : decode cX9_clearText 7 = .ok (.istore_n 1, 1) := by decide +kernel
theorem dX9_clearText_8 : decode cX9_clearText 8 = .ok (.aload_n 0, 1) := by decide +kernel
theorem dX9_clearText_9 : decode cX9_clearText 9 = .ok (.getfield 27, 3) := by decide +kernel
theorem dX9_clearText_12 : decode cX9_clearText 12 = .ok (.iconst 0, 1) := by decide +kernel
theorem dX9_clearText_13 : decode cX9_clearText 13 = .ok (.putfield 126, 3) := by decide +kernel
theorem dX9_clearText_16 : decode cX9_clearText 16 = .ok (.iload_n 1, 1) := by decide +kernel
theorem dX9_clearText_17 : decode cX9_clearText 17 = .ok (.ireturn, 1) := by decide +kernel
set_option maxRecDepth 20000 in
theorem ggX9_faultPosition_X8_findFault : GoodIn wsX9_faultPosition wsX8_findFault := goodIn_r _ [6, 7, 8, 9, 5, 10, 11, 12, 13, 14, 15, 16, 17, 18, 19, 20, 21, 22, 23, 24, 25, 26, 27, 28, 29, 30, 31, 32, 40, 41] (by decide +kernel) (by decide +kernel)
set_option maxRecDepth 20000 in
theorem gX9_faultPosition_X8_findFault : GoodIn wsX9_faultPosition (wsV RX9 129 RX8 yX8_findFault wsX8_findFault) := goodIn_app (goodIn_of _ (by decide +kernel)) ggX9_faultPosition_X8_findFault
theorem dX9_faultPosition_0 : decode cX9_faultPosition 0 = .ok (.aload_n 0, 1) := by decide +kernel
theorem dX9_faultPosition_1 : decode cX9_faultPosition 1 = .ok (.getfield 27, 3) := by decide +kernel
theorem dX9_faultPosition_4 : decode cX9_faultPosition 4 = .ok (.invokevirtual 129, 3) := by decide +kernel
theorem dX9_faultPosition_7 : decode cX9_faultPosition 7 = .ok (.istore_n 1, 1) := by decide +kernel
theorem dX9_faultPosition_8 : decode cX9_faultPosition 8 = .ok (.iload_n 1, 1) := by decide +kernel
theorem dX9_faultPosition_9 : decode cX9_faultPosition 9 = .ok (.iconst (-1), 1) := by decide +kernel
theorem dX9_faultPosition_10 : decode cX9_faultPosition 10 = .ok (.if_icmp .ne 8, 3) := by decide +kernel
theorem dX9_faultPosition_13 : decode cX9_faultPosition 13 = .ok (.bipush (-5), 2) := by decide +kernel
theorem dX9_faultPosition_15 : decode cX9_faultPosition 15 = .ok (.goto 4, 3) := by decide +kernel
theorem dX9_faultPosition_18 : decode cX9_faultPosition 18 = .ok (.iload_n 1, 1) := by decide +kernel
theorem dX9_faultPosition_19 : decode cX9_faultPosition 19 = .ok (.ireturn, 1) := by decide +kernel
set_option maxRecDepth 20000 in
theorem ggX9_read_X8_findFault : GoodIn wsX9_read wsX8_findFault := goodIn_r _ [10, 11, 12, 13, 9, 14, 15, 16, 17, 18, 19, 20, 21, 22, 23, 24, 25, 26, 27, 28, 29, 30, 31, 32, 33, 34, 35, 36, 156, 157] (by decide +kernel) (by decide +kernel)
set_option maxRecDepth 20000 in
theorem gX9_read_X8_findFault : GoodIn wsX9_read (wsV RX9 129 RX8 yX8_findFault wsX8_findFault) := goodIn_app (goodIn_of _ (by decide +kernel)) ggX9_read_X8_findFault
set_option maxRecDepth 20000 in
theorem ggX9_read_X6_takeFrom : GoodIn wsX9_read wsX6_takeFrom := goodIn_r _ [41, 42, 43, 44, 30, 31, 9, 32, 15, 45, 34, 35, 36, 20, 154, 155, 156, 157] (by decide +kernel) (by decide +kernel)
set_option maxRecDepth 20000 in
theorem gX9_read_X6_takeFrom : GoodIn wsX9_read (wsV RX9 136 RX6 yX6_takeFrom wsX6_takeFrom) := goodIn_app (goodIn_of _ (by decide +kernel)) ggX9_read_X6_takeFrom
set_option maxRecDepth 20000 in
theorem ggX9_read_X9_renumber : GoodIn wsX9_read wsX9_renumber := goodIn_r _ [50, 51, 2, 52, 53, 54, 55, 56, 57, 58, 59, 60, 61, 62, 63, 64, 65, 66, 67, 68, 69, 70, 71, 72, 73, 74, 75, 76, 77, 78, 79, 80, 81, 82, 83, 84, 85, 86, 87, 88, 89, 90, 91, 92, 93, 94, 95, 96, 97, 98, 99, 100, 101, 140, 141, 142, 143, 144, 145, 146, 147, 148, 149, 150, 151, 152, 153, 154, 155, 158, 159, 160, 161, 162, 163, 164, 165, 166, 167, 168] (by decide +kernel) (by decide +kernel)
set_option maxRecDepth 20000 in
theorem gX9_read_X9_renumber : GoodIn wsX9_read (wsV RX9 72 RX9 yX9_renumber wsX9_renumber) := goodIn_app (goodIn_of _ (by decide +kernel)) ggX9_read_X9_renumber
set_option maxRecDepth 20000 in
theorem ggX9_read_X9_redivide : GoodIn wsX9_read wsX9_redivide := goodIn_r _ [105, 2, 106, 51, 107, 108, 109, 110, 111, 112, 113, 114, 115, 116, 117, 118, 119, 120, 121, 122, 123, 124, 125, 126, 127, 128, 129, 130, 131, 132, 133, 134, 66, 135, 71, 136, 137, 138, 139, 140, 141, 142, 143, 144, 145, 146, 147, 148, 149, 150, 151, 152, 153, 169, 170, 158, 159, 160, 161, 171, 172] (by decide +kernel) (by decide +kernel)
set_option maxRecDepth 20000 in
theorem gX9_read_X9_redivide : GoodIn wsX9_read (wsV RX9 75 RX9 yX9_redivide wsX9_redivide) := goodIn_app (goodIn_of _ (by decide +kernel)) ggX9_read_X9_redivide
theorem dX9_read_0 : decode cX9_read 0 = .ok (.aload_n 0, 1) := by decide +kernel
theorem dX9_read_1 : decode cX9_read 1 = .ok (.getfield 27, 3) := by decide +kernel
theorem dX9_read_4 : decode cX9_read 4 = .ok (.invokevirtual 129, 3) := by decide +kernel
theorem dX9_read_7 : decode cX9_read 7 = .ok (.iconst (-1), 1) := by decide +kernel
theorem dX9_read_8 : decode cX9_read 8 = .ok (.if_icmp .eq 6, 3) := by decide +kernel
theorem dX9_read_11 : decode cX9_read 11 = .ok (.bipush (-3), 2) := by decide +kernel
theorem dX9_read_13 : decode cX9_read 13 = .ok (.ireturn, 1) := by decide +kernel
theorem dX9_read_14 : decode cX9_read 14 = .ok (.aload_n 0, 1) := by decide +kernel
theorem dX9_read_15 : decode cX9_read 15 = .ok (.getfield 10, 3) := by decide +kernel
theorem dX9_read_18 : decode cX9_read 18 = .ok (.getfield 132, 3) := by decide +kernel
theorem dX9_read_21 : decode cX9_read 21 = .ok (.aload_n 0, 1) := by decide +kernel
theorem dX9_read_22 : decode cX9_read 22 = .ok (.getfield 27, 3) := by decide +kernel
theorem dX9_read_25 : decode cX9_read 25 = .ok (.invokevirtual 136, 3) := by decide +kernel
theorem dX9_read_28 : decode cX9_read 28 = .ok (.aload_n 0, 1) := by decide +kernel
theorem dX9_read_29 : decode cX9_read 29 = .ok (.getfield 10, 3) := by decide +kernel
theorem dX9_read_32 : decode cX9_read 32 = .ok (.iconst 2, 1) := by decide +kernel
theorem dX9_read_33 : decode cX9_read 33 = .ok (.putfield 87, 3) := by decide +kernel
theorem dX9_read_36 : decode cX9_read 36 = .ok (.aload_n 0, 1) := by decide +kernel
theorem dX9_read_37 : decode cX9_read 37 = .ok (.invokevirtual 72, 3) := by decide +kernel
theorem dX9_read_40 : decode cX9_read 40 = .ok (.aload_n 0, 1) := by decide +kernel
theorem dX9_read_41 : decode cX9_read 41 = .ok (.invokevirtual 75, 3) := by decide +kernel
theorem dX9_read_44 : decode cX9_read 44 = .ok (.aload_n 0, 1) := by decide +kernel
theorem dX9_read_45 : decode cX9_read 45 = .ok (.getfield 10, 3) := by decide +kernel
theorem dX9_read_48 : decode cX9_read 48 = .ok (.getfield 132, 3) := by decide +kernel
theorem dX9_read_51 : decode cX9_read 51 = .ok (.getfield 142, 3) := by decide +kernel
theorem dX9_read_54 : decode cX9_read 54 = .ok (.ireturn, 1) := by decide +kernel
set_option maxRecDepth 20000 in
theorem ggX9_setRange_X2_holds : GoodIn wsX9_setRange wsX2_holds := goodIn_r _ [9, 10, 56, 57, 58, 59] (by decide +kernel) (by decide +kernel)
set_option maxRecDepth 20000 in
theorem gX9_setRange_X2_holds : GoodIn wsX9_setRange (wsV RX9 98 RX2 yX2_holds wsX2_holds) := goodIn_app (goodIn_of _ (by decide +kernel)) ggX9_setRange_X2_holds
set_option maxRecDepth 20000 in
theorem ggX9_setRange_X4_setEdges : GoodIn wsX9_setRange wsX4_setEdges := goodIn_r _ [15, 16, 17, 18, 19, 60, 61, 62, 63] (by decide +kernel) (by decide +kernel)
set_option maxRecDepth 20000 in
theorem gX9_setRange_X4_setEdges : GoodIn wsX9_setRange (wsV RX9 145 RX4 yX4_setEdges wsX4_setEdges) := goodIn_app (goodIn_of _ (by decide +kernel)) ggX9_setRange_X4_setEdges
set_option maxRecDepth 20000 in
theorem ggX9_setRange_X0_fill : GoodIn wsX9_setRange wsX0_fill := goodIn_r _ [24, 25, 26, 27, 28, 29, 30, 31, 8, 32, 33, 34, 35, 36, 37, 38, 39, 40, 14, 41, 16, 18, 17, 19, 64, 65, 66, 56, 57, 58, 59, 60, 61, 62, 63] (by decide +kernel) (by decide +kernel)
set_option maxRecDepth 20000 in
theorem gX9_setRange_X0_fill : GoodIn wsX9_setRange (wsV RX9 149 RX0 yX0_fill wsX0_fill) := goodIn_app (goodIn_of _ (by decide +kernel)) ggX9_setRange_X0_fill
theorem dX9_setRange_0 : decode cX9_setRange 0 = .ok (.aload_n 0, 1) := by decide +kernel
theorem dX9_setRange_1 : decode cX9_setRange 1 = .ok (.getfield 34, 3) := by decide +kernel
theorem dX9_setRange_4 : decode cX9_setRange 4 = .ok (.iload_n 1, 1) := by decide +kernel
theorem dX9_setRange_5 : decode cX9_setRange 5 = .ok (.iload_n 2, 1) := by decide +kernel
theorem dX9_setRange_6 : decode cX9_setRange 6 = .ok (.invokevirtual 98, 3) := by decide +kernel
theorem dX9_setRange_9 : decode cX9_setRange 9 = .ok (.ifCond .eq 27, 3) := by decide +kernel
theorem dX9_setRange_12 : decode cX9_setRange 12 = .ok (.aload_n 0, 1) := by decide +kernel
theorem dX9_setRange_13 : decode cX9_setRange 13 = .ok (.getfield 34, 3) := by decide +kernel
theorem dX9_setRange_16 : decode cX9_setRange 16 = .ok (.iload_n 3, 1) := by decide +kernel
theorem dX9_setRange_17 : decode cX9_setRange 17 = .ok (.iload 4, 2) := by decide +kernel
theorem dX9_setRange_19 : decode cX9_setRange 19 = .ok (.invokevirtual 98, 3) := by decide +kernel
theorem dX9_setRange_22 : decode cX9_setRange 22 = .ok (.ifCond .eq 14, 3) := by decide +kernel
theorem dX9_setRange_25 : decode cX9_setRange 25 = .ok (.iload_n 3, 1) := by decide +kernel
theorem dX9_setRange_26 : decode cX9_setRange 26 = .ok (.iload_n 1, 1) := by decide +kernel
theorem dX9_setRange_27 : decode cX9_setRange 27 = .ok (.if_icmp .lt 9, 3) := by decide +kernel
theorem dX9_setRange_30 : decode cX9_setRange 30 = .ok (.iload 4, 2) := by decide +kernel
theorem dX9_setRange_32 : decode cX9_setRange 32 = .ok (.iload_n 2, 1) := by decide +kernel
theorem dX9_setRange_33 : decode cX9_setRange 33 = .ok (.if_icmp .ge 6, 3) := by decide +kernel
theorem dX9_setRange_36 : decode cX9_setRange 36 = .ok (.bipush (-2), 2) := by decide +kernel
theorem dX9_setRange_38 : decode cX9_setRange 38 = .ok (.ireturn, 1) := by decide +kernel
theorem dX9_setRange_39 : decode cX9_setRange 39 = .ok (.aload_n 0, 1) := by decide +kernel
theorem dX9_setRange_40 : decode cX9_setRange 40 = .ok (.getfield 10, 3) := by decide +kernel
theorem dX9_setRange_43 : decode cX9_setRange 43 = .ok (.getfield 58, 3) := by decide +kernel
theorem dX9_setRange_46 : decode cX9_setRange 46 = .ok (.iload_n 1, 1) := by decide +kernel
theorem dX9_setRange_47 : decode cX9_setRange 47 = .ok (.iload_n 2, 1) := by decide +kernel
theorem dX9_setRange_48 : decode cX9_setRange 48 = .ok (.iload_n 3, 1) := by decide +kernel
theorem dX9_setRange_49 : decode cX9_setRange 49 = .ok (.iload 4, 2) := by decide +kernel
theorem dX9_setRange_51 : decode cX9_setRange 51 = .ok (.invokevirtual 145, 3) := by decide +kernel
theorem dX9_setRange_54 : decode cX9_setRange 54 = .ok (.aload_n 0, 1) := by decide +kernel
theorem dX9_setRange_55 : decode cX9_setRange 55 = .ok (.getfield 41, 3) := by decide +kernel
theorem dX9_setRange_58 : decode cX9_setRange 58 = .ok (.aload_n 0, 1) := by decide +kernel
theorem dX9_setRange_59 : decode cX9_setRange 59 = .ok (.getfield 34, 3) := by decide +kernel
theorem dX9_setRange_62 : decode cX9_setRange 62 = .ok (.aload_n 0, 1) := by decide +kernel
theorem dX9_setRange_63 : decode cX9_setRange 63 = .ok (.getfield 10, 3) := by decide +kernel
theorem dX9_setRange_66 : decode cX9_setRange 66 = .ok (.getfield 58, 3) := by decide +kernel
theorem dX9_setRange_69 : decode cX9_setRange 69 = .ok (.invokevirtual 149, 3) := by decide +kernel
theorem dX9_setRange_72 : decode cX9_setRange 72 = .ok (.iload_n 3, 1) := by decide +kernel
theorem dX9_setRange_73 : decode cX9_setRange 73 = .ok (.iload_n 1, 1) := by decide +kernel
theorem dX9_setRange_74 : decode cX9_setRange 74 = .ok (.isub, 1) := by decide +kernel
theorem dX9_setRange_75 : decode cX9_setRange 75 = .ok (.iconst 1, 1) := by decide +kernel
theorem dX9_setRange_76 : decode cX9_setRange 76 = .ok (.iadd, 1) := by decide +kernel
theorem dX9_setRange_77 : decode cX9_setRange 77 = .ok (.iload 4, 2) := by decide +kernel
theorem dX9_setRange_79 : decode cX9_setRange 79 = .ok (.iload_n 2, 1) := by decide +kernel
theorem dX9_setRange_80 : decode cX9_setRange 80 = .ok (.isub, 1) := by decide +kernel
theorem dX9_setRange_81 : decode cX9_setRange 81 = .ok (.iconst 1, 1) := by decide +kernel
theorem dX9_setRange_82 : decode cX9_setRange 82 = .ok (.iadd, 1) := by decide +kernel
theorem dX9_setRange_83 : decode cX9_setRange 83 = .ok (.imul, 1) := by decide +kernel
theorem dX9_setRange_84 : decode cX9_setRange 84 = .ok (.ireturn, 1) := by decide +kernel
theorem dX9_intervals_0 : decode cX9_intervals 0 = .ok (.aload_n 0, 1) := by decide +kernel
theorem dX9_intervals_1 : decode cX9_intervals 1 = .ok (.getfield 41, 3) := by decide +kernel
theorem dX9_intervals_4 : decode cX9_intervals 4 = .ok (.getfield 153, 3) := by decide +kernel
theorem dX9_intervals_7 : decode cX9_intervals 7 = .ok (.ireturn, 1) := by decide +kernel
theorem dX9_interval_0 : decode cX9_interval 0 = .ok (.iload_n 1, 1) := by decide +kernel
theorem dX9_interval_1 : decode cX9_interval 1 = .ok (.ifCond .lt 14, 3) := by decide +kernel
theorem dX9_interval_4 : decode cX9_interval 4 = .ok (.iload_n 1, 1) := by decide +kernel
theorem dX9_interval_5 : decode cX9_interval 5 = .ok (.aload_n 0, 1) := by decide +kernel
theorem dX9_interval_6 : decode cX9_interval 6 = .ok (.getfield 41, 3) := by decide +kernel
theorem dX9_interval_9 : decode cX9_interval 9 = .ok (.getfield 153, 3) := by decide +kernel
theorem dX9_interval_12 : decode cX9_interval 12 = .ok (.if_icmp .lt 5, 3) := by decide +kernel
theorem dX9_interval_15 : decode cX9_interval 15 = .ok (.iconst (-1), 1) := by decide +kernel
theorem dX9_interval_16 : decode cX9_interval 16 = .ok (.ireturn, 1) := by decide +kernel
theorem dX9_interval_17 : decode cX9_interval 17 = .ok (.iload_n 2, 1) := by decide +kernel
theorem dX9_interval_18 : decode cX9_interval 18 = .ok (.ifCond .eq 15, 3) := by decide +kernel
theorem dX9_interval_21 : decode cX9_interval 21 = .ok (.aload_n 0, 1) := by decide +kernel
theorem dX9_interval_22 : decode cX9_interval 22 = .ok (.getfield 41, 3) := by decide +kernel
theorem dX9_interval_25 : decode cX9_interval 25 = .ok (.getfield 154, 3) := by decide +kernel
theorem dX9_interval_28 : decode cX9_interval 28 = .ok (.iload_n 1, 1) := by decide +kernel
theorem dX9_interval_29 : decode cX9_interval 29 = .ok (.iaload, 1) := by decide +kernel
theorem dX9_interval_30 : decode cX9_interval 30 = .ok (.goto 12, 3) := by decide +kernel
theorem dX9_interval_33 : decode cX9_interval 33 = .ok (.aload_n 0, 1) := by decide +kernel
theorem dX9_interval_34 : decode cX9_interval 34 = .ok (.getfield 41, 3) := by decide +kernel
theorem dX9_interval_37 : decode cX9_interval 37 = .ok (.getfield 158, 3) := by decide +kernel
theorem dX9_interval_40 : decode cX9_interval 40 = .ok (.iload_n 1, 1) := by decide +kernel
theorem dX9_interval_41 : decode cX9_interval 41 = .ok (.iaload, 1) := by decide +kernel
theorem dX9_interval_42 : decode cX9_interval 42 = .ok (.ireturn, 1) := by decide +kernel
set_option maxRecDepth 20000 in
theorem ggX9_extra_X0_cellsOfJoinedGaps : GoodIn wsX9_extra wsX0_cellsOfJoinedGaps := goodIn_r _ [6, 7, 8, 9, 10, 5, 11, 12, 13, 14, 15, 16, 17, 18, 19, 20, 21, 22, 23, 24, 25, 26, 27, 28, 29, 37, 38, 39] (by decide +kernel) (by decide +kernel)
set_option maxRecDepth 20000 in
theorem gX9_extra_X0_cellsOfJoinedGaps : GoodIn wsX9_extra (wsV RX9 161 RX0 yX0_cellsOfJoinedGaps wsX0_cellsOfJoinedGaps) := goodIn_app (goodIn_of _ (by decide +kernel)) ggX9_extra_X0_cellsOfJoinedGaps
theorem dX9_extra_0 : decode cX9_extra 0 = .ok (.iload_n 1, 1) := by decide +kernel
theorem dX9_extra_1 : decode cX9_extra 1 = .ok (.iconst 1, 1) := by decide +kernel
theorem dX9_extra_2 : decode cX9_extra 2 = .ok (.if_icmp .ge 8, 3) := by decide +kernel
theorem dX9_extra_5 : decode cX9_extra 5 = .ok (.bipush (-2), 2) := by decide +kernel
theorem dX9_extra_7 : decode cX9_extra 7 = .ok (.goto 11, 3) := by decide +kernel
theorem dX9_extra_10 : decode cX9_extra 10 = .ok (.aload_n 0, 1) := by decide +kernel
theorem dX9_extra_11 : decode cX9_extra 11 = .ok (.getfield 41, 3) := by decide +kernel
theorem dX9_extra_14 : decode cX9_extra 14 = .ok (.iload_n 1, 1) := by decide +kernel
theorem dX9_extra_15 : decode cX9_extra 15 = .ok (.invokevirtual 161, 3) := by decide +kernel
theorem dX9_extra_18 : decode cX9_extra 18 = .ok (.ireturn, 1) := by decide +kernel
set_option maxRecDepth 20000 in
theorem ggX9_covering_X0_endOfJoined : GoodIn wsX9_covering wsX0_endOfJoined := goodIn_r _ [11, 12, 13, 14, 15, 16, 17, 10, 18, 19, 20, 5, 21, 22, 23, 24, 25, 26, 27, 28, 29, 30, 31, 32, 33, 41, 42, 43] (by decide +kernel) (by decide +kernel)
set_option maxRecDepth 20000 in
theorem gX9_covering_X0_endOfJoined : GoodIn wsX9_covering (wsV RX9 169 RX0 yX0_endOfJoined wsX0_endOfJoined) := goodIn_app (goodIn_of _ (by decide +kernel)) ggX9_covering_X0_endOfJoined
theorem dX9_covering_0 : decode cX9_covering 0 = .ok (.iload_n 1, 1) := by decide +kernel
theorem dX9_covering_1 : decode cX9_covering 1 = .ok (.iconst 1, 1) := by decide +kernel
theorem dX9_covering_2 : decode cX9_covering 2 = .ok (.if_icmp .ge 6, 3) := by decide +kernel
theorem dX9_covering_5 : decode cX9_covering 5 = .ok (.bipush (-2), 2) := by decide +kernel
theorem dX9_covering_7 : decode cX9_covering 7 = .ok (.ireturn, 1) := by decide +kernel
theorem dX9_covering_8 : decode cX9_covering 8 = .ok (.iload_n 2, 1) := by decide +kernel
theorem dX9_covering_9 : decode cX9_covering 9 = .ok (.ifCond .lt 18, 3) := by decide +kernel
theorem dX9_covering_12 : decode cX9_covering 12 = .ok (.iload_n 2, 1) := by decide +kernel
theorem dX9_covering_13 : decode cX9_covering 13 = .ok (.iload_n 1, 1) := by decide +kernel
theorem dX9_covering_14 : decode cX9_covering 14 = .ok (.aload_n 0, 1) := by decide +kernel
theorem dX9_covering_15 : decode cX9_covering 15 = .ok (.getfield 41, 3) := by decide +kernel
theorem dX9_covering_18 : decode cX9_covering 18 = .ok (.getfield 153, 3) := by decide +kernel
theorem dX9_covering_21 : decode cX9_covering 21 = .ok (.invokestatic 164, 3) := by decide +kernel
theorem dX9_covering_24 : decode cX9_covering 24 = .ok (.if_icmp .lt 5, 3) := by decide +kernel
theorem dX9_covering_27 : decode cX9_covering 27 = .ok (.iconst (-1), 1) := by decide +kernel
theorem dX9_covering_28 : decode cX9_covering 28 = .ok (.ireturn, 1) := by decide +kernel
theorem dX9_covering_29 : decode cX9_covering 29 = .ok (.aload_n 0, 1) := by decide +kernel
theorem dX9_covering_30 : decode cX9_covering 30 = .ok (.getfield 41, 3) := by decide +kernel
theorem dX9_covering_33 : decode cX9_covering 33 = .ok (.iload_n 1, 1) := by decide +kernel
theorem dX9_covering_34 : decode cX9_covering 34 = .ok (.iload_n 2, 1) := by decide +kernel
theorem dX9_covering_35 : decode cX9_covering 35 = .ok (.iload_n 3, 1) := by decide +kernel
theorem dX9_covering_36 : decode cX9_covering 36 = .ok (.invokevirtual 169, 3) := by decide +kernel
theorem dX9_covering_39 : decode cX9_covering 39 = .ok (.ireturn, 1) := by decide +kernel
set_option maxRecDepth 20000 in
theorem ggX9_clusters_X2_countIntervalsOfAll : GoodIn wsX9_clusters wsX2_countIntervalsOfAll := goodIn_r _ [7, 8, 9, 10, 11, 6, 12, 13, 14, 15, 16, 17, 18, 19, 20, 21, 22, 23, 24, 25, 26, 27, 28, 29, 30, 31, 32, 33, 41, 42, 43, 44] (by decide +kernel) (by decide +kernel)
set_option maxRecDepth 20000 in
theorem gX9_clusters_X2_countIntervalsOfAll : GoodIn wsX9_clusters (wsV RX9 176 RX2 yX2_countIntervalsOfAll wsX2_countIntervalsOfAll) := goodIn_app (goodIn_of _ (by decide +kernel)) ggX9_clusters_X2_countIntervalsOfAll
theorem dX9_clusters_0 : decode cX9_clusters 0 = .ok (.iload_n 1, 1) := by decide +kernel
theorem dX9_clusters_1 : decode cX9_clusters 1 = .ok (.iconst 1, 1) := by decide +kernel
theorem dX9_clusters_2 : decode cX9_clusters 2 = .ok (.if_icmp .lt 30, 3) := by decide +kernel
theorem dX9_clusters_5 : decode cX9_clusters 5 = .ok (.iload_n 1, 1) := by decide +kernel
theorem dX9_clusters_6 : decode cX9_clusters 6 = .ok (.aload_n 0, 1) := by decide +kernel
theorem dX9_clusters_7 : decode cX9_clusters 7 = .ok (.getfield 34, 3) := by decide +kernel
theorem dX9_clusters_10 : decode cX9_clusters 10 = .ok (.getfield 173, 3) := by decide +kernel
theorem dX9_clusters_13 : decode cX9_clusters 13 = .ok (.if_icmp .gt 19, 3) := by decide +kernel
theorem dX9_clusters_16 : decode cX9_clusters 16 = .ok (.iload_n 2, 1) := by decide +kernel
theorem dX9_clusters_17 : decode cX9_clusters 17 = .ok (.iconst 1, 1) := by decide +kernel
theorem dX9_clusters_18 : decode cX9_clusters 18 = .ok (.if_icmp .lt 14, 3) := by decide +kernel
theorem dX9_clusters_21 : decode cX9_clusters 21 = .ok (.iload_n 2, 1) := by decide +kernel
theorem dX9_clusters_22 : decode cX9_clusters 22 = .ok (.aload_n 0, 1) := by decide +kernel
theorem dX9_clusters_23 : decode cX9_clusters 23 = .ok (.getfield 34, 3) := by decide +kernel
theorem dX9_clusters_26 : decode cX9_clusters 26 = .ok (.getfield 173, 3) := by decide +kernel
theorem dX9_clusters_29 : decode cX9_clusters 29 = .ok (.if_icmp .le 6, 3) := by decide +kernel
theorem dX9_clusters_32 : decode cX9_clusters 32 = .ok (.bipush (-2), 2) := by decide +kernel
theorem dX9_clusters_34 : decode cX9_clusters 34 = .ok (.ireturn, 1) := by decide +kernel
theorem dX9_clusters_35 : decode cX9_clusters 35 = .ok (.aload_n 0, 1) := by decide +kernel
theorem dX9_clusters_36 : decode cX9_clusters 36 = .ok (.getfield 34, 3) := by decide +kernel
theorem dX9_clusters_39 : decode cX9_clusters 39 = .ok (.iload_n 1, 1) := by decide +kernel
theorem dX9_clusters_40 : decode cX9_clusters 40 = .ok (.iload_n 2, 1) := by decide +kernel
theorem dX9_clusters_41 : decode cX9_clusters 41 = .ok (.invokevirtual 176, 3) := by decide +kernel
theorem dX9_clusters_44 : decode cX9_clusters 44 = .ok (.ireturn, 1) := by decide +kernel
set_option maxRecDepth 20000 in
theorem ggX9_addPoint_X2_holds : GoodIn wsX9_addPoint wsX2_holds := goodIn_r _ [9, 10, 74, 75, 76, 77] (by decide +kernel) (by decide +kernel)
set_option maxRecDepth 20000 in
theorem gX9_addPoint_X2_holds : GoodIn wsX9_addPoint (wsV RX9 98 RX2 yX2_holds wsX2_holds) := goodIn_app (goodIn_of _ (by decide +kernel)) ggX9_addPoint_X2_holds
set_option maxRecDepth 20000 in
theorem ggX9_addPoint_X3_find : GoodIn wsX9_addPoint wsX3_find := goodIn_r _ [15, 16, 17, 72, 73] (by decide +kernel) (by decide +kernel)
set_option maxRecDepth 20000 in
theorem gX9_addPoint_X3_find : GoodIn wsX9_addPoint (wsV RX9 179 RX3 yX3_find wsX3_find) := goodIn_app (goodIn_of _ (by decide +kernel)) ggX9_addPoint_X3_find
set_option maxRecDepth 20000 in
theorem ggX9_addPoint_X3_add : GoodIn wsX9_addPoint wsX3_add := goodIn_r _ [21, 16, 17, 72, 73] (by decide +kernel) (by decide +kernel)
set_option maxRecDepth 20000 in
theorem gX9_addPoint_X3_add : GoodIn wsX9_addPoint (wsV RX9 182 RX3 yX3_add wsX3_add) := goodIn_app (goodIn_of _ (by decide +kernel)) ggX9_addPoint_X3_add
set_option maxRecDepth 20000 in
theorem ggX9_addPoint_X9_redivide : GoodIn wsX9_addPoint wsX9_redivide := goodIn_r _ [26, 2, 27, 1, 3, 28, 29, 30, 31, 32, 33, 34, 35, 36, 37, 38, 39, 40, 41, 42, 43, 14, 44, 16, 45, 46, 47, 48, 17, 49, 50, 51, 8, 52, 53, 54, 55, 56, 57, 58, 59, 60, 61, 62, 63, 64, 65, 66, 67, 68, 69, 70, 71, 78, 79, 74, 75, 76, 77, 72, 73] (by decide +kernel) (by decide +kernel)
set_option maxRecDepth 20000 in
theorem gX9_addPoint_X9_redivide : GoodIn wsX9_addPoint (wsV RX9 75 RX9 yX9_redivide wsX9_redivide) := goodIn_app (goodIn_of _ (by decide +kernel)) ggX9_addPoint_X9_redivide
theorem dX9_addPoint_0 : decode cX9_addPoint 0 = .ok (.aload_n 0, 1) := by decide +kernel
theorem dX9_addPoint_1 : decode cX9_addPoint 1 = .ok (.getfield 34, 3) := by decide +kernel
theorem dX9_addPoint_4 : decode cX9_addPoint 4 = .ok (.iload_n 1, 1) := by decide +kernel
theorem dX9_addPoint_5 : decode cX9_addPoint 5 = .ok (.iload_n 2, 1) := by decide +kernel
theorem dX9_addPoint_6 : decode cX9_addPoint 6 = .ok (.invokevirtual 98, 3) := by decide +kernel
theorem dX9_addPoint_9 : decode cX9_addPoint 9 = .ok (.ifCond .ne 5, 3) := by decide +kernel
theorem dX9_addPoint_12 : decode cX9_addPoint 12 = .ok (.iconst (-1), 1) := by decide +kernel
theorem dX9_addPoint_13 : decode cX9_addPoint 13 = .ok (.ireturn, 1) := by decide +kernel
theorem dX9_addPoint_14 : decode cX9_addPoint 14 = .ok (.aload_n 0, 1) := by decide +kernel
theorem dX9_addPoint_15 : decode cX9_addPoint 15 = .ok (.getfield 10, 3) := by decide +kernel
theorem dX9_addPoint_18 : decode cX9_addPoint 18 = .ok (.getfield 78, 3) := by decide +kernel
theorem dX9_addPoint_21 : decode cX9_addPoint 21 = .ok (.iload_n 1, 1) := by decide +kernel
theorem dX9_addPoint_22 : decode cX9_addPoint 22 = .ok (.iload_n 2, 1) := by decide +kernel
theorem dX9_addPoint_23 : decode cX9_addPoint 23 = .ok (.invokevirtual 179, 3) := by decide +kernel
theorem dX9_addPoint_26 : decode cX9_addPoint 26 = .ok (.iconst (-1), 1) := by decide +kernel
theorem dX9_addPoint_27 : decode cX9_addPoint 27 = .ok (.if_icmp .eq 6, 3) := by decide +kernel
theorem dX9_addPoint_30 : decode cX9_addPoint 30 = .ok (.bipush (-3), 2) := by decide +kernel
theorem dX9_addPoint_32 : decode cX9_addPoint 32 = .ok (.ireturn, 1) := by decide +kernel
theorem dX9_addPoint_33 : decode cX9_addPoint 33 = .ok (.aload_n 0, 1) := by decide +kernel
theorem dX9_addPoint_34 : decode cX9_addPoint 34 = .ok (.getfield 10, 3) := by decide +kernel
theorem dX9_addPoint_37 : decode cX9_addPoint 37 = .ok (.getfield 78, 3) := by decide +kernel
theorem dX9_addPoint_40 : decode cX9_addPoint 40 = .ok (.iload_n 1, 1) := by decide +kernel
theorem dX9_addPoint_41 : decode cX9_addPoint 41 = .ok (.iload_n 2, 1) := by decide +kernel
theorem dX9_addPoint_42 : decode cX9_addPoint 42 = .ok (.invokevirtual 182, 3) := by decide +kernel
theorem dX9_addPoint_45 : decode cX9_addPoint 45 = .ok (.ifCond .ne 6, 3) := by decide +kernel
theorem dX9_addPoint_48 : decode cX9_addPoint 48 = .ok (.bipush (-4), 2) := by decide +kernel
theorem dX9_addPoint_50 : decode cX9_addPoint 50 = .ok (.ireturn, 1) := by decide +kernel
theorem dX9_addPoint_51 : decode cX9_addPoint 51 = .ok (.aload_n 0, 1) := by decide +kernel
theorem dX9_addPoint_52 : decode cX9_addPoint 52 = .ok (.invokevirtual 75, 3) := by decide +kernel
theorem dX9_addPoint_55 : decode cX9_addPoint 55 = .ok (.aload_n 0, 1) := by decide +kernel
theorem dX9_addPoint_56 : decode cX9_addPoint 56 = .ok (.getfield 10, 3) := by decide +kernel
theorem dX9_addPoint_59 : decode cX9_addPoint 59 = .ok (.getfield 78, 3) := by decide +kernel
theorem dX9_addPoint_62 : decode cX9_addPoint 62 = .ok (.getfield 184, 3) := by decide +kernel
theorem dX9_addPoint_65 : decode cX9_addPoint 65 = .ok (.ireturn, 1) := by decide +kernel
set_option maxRecDepth 20000 in
theorem ggX9_removePoint_X2_holds : GoodIn wsX9_removePoint wsX2_holds := goodIn_r _ [9, 10, 74, 75, 76, 77] (by decide +kernel) (by decide +kernel)
set_option maxRecDepth 20000 in
theorem gX9_removePoint_X2_holds : GoodIn wsX9_removePoint (wsV RX9 98 RX2 yX2_holds wsX2_holds) := goodIn_app (goodIn_of _ (by decide +kernel)) ggX9_removePoint_X2_holds
set_option maxRecDepth 20000 in
theorem ggX9_removePoint_X3_remove : GoodIn wsX9_removePoint wsX3_remove := goodIn_r _ [15, 16, 17, 18, 19, 20, 14, 21, 72, 73] (by decide +kernel) (by decide +kernel)
set_option maxRecDepth 20000 in
theorem gX9_removePoint_X3_remove : GoodIn wsX9_removePoint (wsV RX9 185 RX3 yX3_remove wsX3_remove) := goodIn_app (goodIn_of _ (by decide +kernel)) ggX9_removePoint_X3_remove
set_option maxRecDepth 20000 in
theorem ggX9_removePoint_X9_redivide : GoodIn wsX9_removePoint wsX9_redivide := goodIn_r _ [26, 2, 27, 1, 3, 28, 29, 30, 31, 32, 33, 34, 35, 36, 37, 38, 39, 40, 41, 42, 43, 14, 44, 16, 45, 46, 47, 48, 17, 49, 50, 51, 8, 52, 53, 54, 55, 56, 57, 58, 59, 60, 61, 62, 63, 64, 65, 66, 67, 68, 69, 70, 71, 78, 79, 74, 75, 76, 77, 72, 73] (by decide +kernel) (by decide +kernel)
set_option maxRecDepth 20000 in
theorem gX9_removePoint_X9_redivide : GoodIn wsX9_removePoint (wsV RX9 75 RX9 yX9_redivide wsX9_redivide) := goodIn_app (goodIn_of _ (by decide +kernel)) ggX9_removePoint_X9_redivide
theorem dX9_removePoint_0 : decode cX9_removePoint 0 = .ok (.aload_n 0, 1) := by decide +kernel
theorem dX9_removePoint_1 : decode cX9_removePoint 1 = .ok (.getfield 34, 3) := by decide +kernel
theorem dX9_removePoint_4 : decode cX9_removePoint 4 = .ok (.iload_n 1, 1) := by decide +kernel
theorem dX9_removePoint_5 : decode cX9_removePoint 5 = .ok (.iload_n 2, 1) := by decide +kernel
theorem dX9_removePoint_6 : decode cX9_removePoint 6 = .ok (.invokevirtual 98, 3) := by decide +kernel
theorem dX9_removePoint_9 : decode cX9_removePoint 9 = .ok (.ifCond .ne 5, 3) := by decide +kernel
theorem dX9_removePoint_12 : decode cX9_removePoint 12 = .ok (.iconst (-1), 1) := by decide +kernel
theorem dX9_removePoint_13 : decode cX9_removePoint 13 = .ok (.ireturn, 1) := by decide +kernel
theorem dX9_removePoint_14 : decode cX9_removePoint 14 = .ok (.aload_n 0, 1) := by decide +kernel
theorem dX9_removePoint_15 : decode cX9_removePoint 15 = .ok (.getfield 10, 3) := by decide +kernel
theorem dX9_removePoint_18 : decode cX9_removePoint 18 = .ok (.getfield 78, 3) := by decide +kernel
theorem dX9_removePoint_21 : decode cX9_removePoint 21 = .ok (.iload_n 1, 1) := by decide +kernel
theorem dX9_removePoint_22 : decode cX9_removePoint 22 = .ok (.iload_n 2, 1) := by decide +kernel
theorem dX9_removePoint_23 : decode cX9_removePoint 23 = .ok (.invokevirtual 185, 3) := by decide +kernel
theorem dX9_removePoint_26 : decode cX9_removePoint 26 = .ok (.ifCond .ne 6, 3) := by decide +kernel
theorem dX9_removePoint_29 : decode cX9_removePoint 29 = .ok (.bipush (-3), 2) := by decide +kernel
theorem dX9_removePoint_31 : decode cX9_removePoint 31 = .ok (.ireturn, 1) := by decide +kernel
theorem dX9_removePoint_32 : decode cX9_removePoint 32 = .ok (.aload_n 0, 1) := by decide +kernel
theorem dX9_removePoint_33 : decode cX9_removePoint 33 = .ok (.invokevirtual 75, 3) := by decide +kernel
theorem dX9_removePoint_36 : decode cX9_removePoint 36 = .ok (.aload_n 0, 1) := by decide +kernel
theorem dX9_removePoint_37 : decode cX9_removePoint 37 = .ok (.getfield 10, 3) := by decide +kernel
theorem dX9_removePoint_40 : decode cX9_removePoint 40 = .ok (.getfield 78, 3) := by decide +kernel
theorem dX9_removePoint_43 : decode cX9_removePoint 43 = .ok (.getfield 184, 3) := by decide +kernel
theorem dX9_removePoint_46 : decode cX9_removePoint 46 = .ok (.ireturn, 1) := by decide +kernel
theorem dX9_points_0 : decode cX9_points 0 = .ok (.aload_n 0, 1) := by decide +kernel
theorem dX9_points_1 : decode cX9_points 1 = .ok (.getfield 10, 3) := by decide +kernel
theorem dX9_points_4 : decode cX9_points 4 = .ok (.getfield 78, 3) := by decide +kernel
theorem dX9_points_7 : decode cX9_points 7 = .ok (.getfield 184, 3) := by decide +kernel
theorem dX9_points_10 : decode cX9_points 10 = .ok (.ireturn, 1) := by decide +kernel
set_option maxRecDepth 20000 in
theorem ggX9_nearest_X2_holds : GoodIn wsX9_nearest wsX2_holds := goodIn_r _ [8, 9, 45, 46, 47, 48] (by decide +kernel) (by decide +kernel)
set_option maxRecDepth 20000 in
theorem gX9_nearest_X2_holds : GoodIn wsX9_nearest (wsV RX9 98 RX2 yX2_holds wsX2_holds) := goodIn_app (goodIn_of _ (by decide +kernel)) ggX9_nearest_X2_holds
set_option maxRecDepth 20000 in
theorem ggX9_nearest_X2_indexOf : GoodIn wsX9_nearest wsX2_indexOf := goodIn_r _ [13, 14, 45, 46, 47, 48] (by decide +kernel) (by decide +kernel)
set_option maxRecDepth 20000 in
theorem gX9_nearest_X2_indexOf : GoodIn wsX9_nearest (wsV RX9 102 RX2 yX2_indexOf wsX2_indexOf) := goodIn_app (goodIn_of _ (by decide +kernel)) ggX9_nearest_X2_indexOf
set_option maxRecDepth 20000 in
theorem ggX9_nearest_X3_findNearest : GoodIn wsX9_nearest wsX3_findNearest := goodIn_r _ [19, 20, 21, 22, 23, 24, 25, 26, 27, 18, 28, 29, 30, 11, 12, 7, 13, 14, 49, 50, 45, 46, 47, 48] (by decide +kernel) (by decide +kernel)
set_option maxRecDepth 20000 in
theorem gX9_nearest_X3_findNearest : GoodIn wsX9_nearest (wsV RX9 188 RX3 yX3_findNearest wsX3_findNearest) := goodIn_app (goodIn_of _ (by decide +kernel)) ggX9_nearest_X3_findNearest
theorem dX9_nearest_0 : decode cX9_nearest 0 = .ok (.aload_n 0, 1) := by decide +kernel
theorem dX9_nearest_1 : decode cX9_nearest 1 = .ok (.getfield 34, 3) := by decide +kernel
theorem dX9_nearest_4 : decode cX9_nearest 4 = .ok (.iload_n 1, 1) := by decide +kernel
theorem dX9_nearest_5 : decode cX9_nearest 5 = .ok (.iload_n 2, 1) := by decide +kernel
theorem dX9_nearest_6 : decode cX9_nearest 6 = .ok (.invokevirtual 98, 3) := by decide +kernel
theorem dX9_nearest_9 : decode cX9_nearest 9 = .ok (.ifCond .ne 5, 3) := by decide +kernel
theorem dX9_nearest_12 : decode cX9_nearest 12 = .ok (.iconst (-1), 1) := by decide +kernel
theorem dX9_nearest_13 : decode cX9_nearest 13 = .ok (.ireturn, 1) := by decide +kernel
theorem dX9_nearest_14 : decode cX9_nearest 14 = .ok (.aload_n 0, 1) := by decide +kernel
theorem dX9_nearest_15 : decode cX9_nearest 15 = .ok (.getfield 10, 3) := by decide +kernel
theorem dX9_nearest_18 : decode cX9_nearest 18 = .ok (.getfield 78, 3) := by decide +kernel
theorem dX9_nearest_21 : decode cX9_nearest 21 = .ok (.aload_n 0, 1) := by decide +kernel
theorem dX9_nearest_22 : decode cX9_nearest 22 = .ok (.getfield 34, 3) := by decide +kernel
theorem dX9_nearest_25 : decode cX9_nearest 25 = .ok (.aload_n 0, 1) := by decide +kernel
theorem dX9_nearest_26 : decode cX9_nearest 26 = .ok (.getfield 34, 3) := by decide +kernel
theorem dX9_nearest_29 : decode cX9_nearest 29 = .ok (.iload_n 1, 1) := by decide +kernel
theorem dX9_nearest_30 : decode cX9_nearest 30 = .ok (.iload_n 2, 1) := by decide +kernel
theorem dX9_nearest_31 : decode cX9_nearest 31 = .ok (.invokevirtual 102, 3) := by decide +kernel
theorem dX9_nearest_34 : decode cX9_nearest 34 = .ok (.invokevirtual 188, 3) := by decide +kernel
theorem dX9_nearest_37 : decode cX9_nearest 37 = .ok (.istore_n 3, 1) := by decide +kernel
theorem dX9_nearest_38 : decode cX9_nearest 38 = .ok (.iload_n 3, 1) := by decide +kernel
theorem dX9_nearest_39 : decode cX9_nearest 39 = .ok (.iconst (-1), 1) := by decide +kernel
theorem dX9_nearest_40 : decode cX9_nearest 40 = .ok (.if_icmp .ne 8, 3) := by decide +kernel
theorem dX9_nearest_43 : decode cX9_nearest 43 = .ok (.bipush (-5), 2) := by decide +kernel
theorem dX9_nearest_45 : decode cX9_nearest 45 = .ok (.goto 4, 3) := by decide +kernel
theorem dX9_nearest_48 : decode cX9_nearest 48 = .ok (.iload_n 3, 1) := by decide +kernel
theorem dX9_nearest_49 : decode cX9_nearest 49 = .ok (.ireturn, 1) := by decide +kernel
set_option maxRecDepth 20000 in
theorem ggX9_setBucket_X9_redivide : GoodIn wsX9_setBucket wsX9_redivide := goodIn_r _ [7, 1, 8, 9, 10, 2, 11, 12, 13, 14, 15, 16, 17, 18, 19, 20, 21, 22, 23, 24, 25, 26, 27, 28, 29, 30, 31, 32, 33, 34, 35, 36, 37, 38, 39, 40, 41, 42, 43, 44, 45, 46, 47, 48, 49, 50, 51, 52, 53, 54, 55, 56, 57, 58, 59, 60, 61, 62, 63, 64, 65] (by decide +kernel) (by decide +kernel)
set_option maxRecDepth 20000 in
theorem gX9_setBucket_X9_redivide : GoodIn wsX9_setBucket (wsV RX9 75 RX9 yX9_redivide wsX9_redivide) := goodIn_app (goodIn_of _ (by decide +kernel)) ggX9_setBucket_X9_redivide
theorem dX9_setBucket_0 : decode cX9_setBucket 0 = .ok (.iload_n 1, 1) := by decide +kernel
theorem dX9_setBucket_1 : decode cX9_setBucket 1 = .ok (.iconst 1, 1) := by decide +kernel
theorem dX9_setBucket_2 : decode cX9_setBucket 2 = .ok (.if_icmp .lt 9, 3) := by decide +kernel
theorem dX9_setBucket_5 : decode cX9_setBucket 5 = .ok (.iload_n 1, 1) := by decide +kernel
theorem dX9_setBucket_6 : decode cX9_setBucket 6 = .ok (.bipush 8, 2) := by decide +kernel
theorem dX9_setBucket_8 : decode cX9_setBucket 8 = .ok (.if_icmp .le 6, 3) := by decide +kernel
theorem dX9_setBucket_11 : decode cX9_setBucket 11 = .ok (.bipush (-2), 2) := by decide +kernel
theorem dX9_setBucket_13 : decode cX9_setBucket 13 = .ok (.ireturn, 1) := by decide +kernel
theorem dX9_setBucket_14 : decode cX9_setBucket 14 = .ok (.aload_n 0, 1) := by decide +kernel
theorem dX9_setBucket_15 : decode cX9_setBucket 15 = .ok (.getfield 10, 3) := by decide +kernel
theorem dX9_setBucket_18 : decode cX9_setBucket 18 = .ok (.getfield 192, 3) := by decide +kernel
theorem dX9_setBucket_21 : decode cX9_setBucket 21 = .ok (.istore_n 2, 1) := by decide +kernel
theorem dX9_setBucket_22 : decode cX9_setBucket 22 = .ok (.aload_n 0, 1) := by decide +kernel
theorem dX9_setBucket_23 : decode cX9_setBucket 23 = .ok (.getfield 10, 3) := by decide +kernel
theorem dX9_setBucket_26 : decode cX9_setBucket 26 = .ok (.iload_n 1, 1) := by decide +kernel
theorem dX9_setBucket_27 : decode cX9_setBucket 27 = .ok (.putfield 192, 3) := by decide +kernel
theorem dX9_setBucket_30 : decode cX9_setBucket 30 = .ok (.aload_n 0, 1) := by decide +kernel
theorem dX9_setBucket_31 : decode cX9_setBucket 31 = .ok (.invokevirtual 75, 3) := by decide +kernel
theorem dX9_setBucket_34 : decode cX9_setBucket 34 = .ok (.iload_n 2, 1) := by decide +kernel
theorem dX9_setBucket_35 : decode cX9_setBucket 35 = .ok (.ireturn, 1) := by decide +kernel
theorem dX9_leaves_0 : decode cX9_leaves 0 = .ok (.aload_n 0, 1) := by decide +kernel
theorem dX9_leaves_1 : decode cX9_leaves 1 = .ok (.getfield 10, 3) := by decide +kernel
theorem dX9_leaves_4 : decode cX9_leaves 4 = .ok (.getfield 47, 3) := by decide +kernel
theorem dX9_leaves_7 : decode cX9_leaves 7 = .ok (.getfield 195, 3) := by decide +kernel
theorem dX9_leaves_10 : decode cX9_leaves 10 = .ok (.ireturn, 1) := by decide +kernel
set_option maxRecDepth 20000 in
theorem ggX9_leaf_X9_isLeaf : GoodIn wsX9_leaf wsX9_isLeaf := goodIn_r _ [11, 2, 3, 12, 62, 63, 64, 65, 66, 67, 68, 69, 70, 71, 72, 73, 74, 75, 76, 77] (by decide +kernel) (by decide +kernel)
set_option maxRecDepth 20000 in
theorem gX9_leaf_X9_isLeaf : GoodIn wsX9_leaf (wsV RX9 198 RX9 yX9_isLeaf wsX9_isLeaf) := goodIn_app (goodIn_of _ (by decide +kernel)) ggX9_leaf_X9_isLeaf
set_option maxRecDepth 20000 in
theorem ggX9_leaf_X7_leftOf : GoodIn wsX9_leaf wsX7_leftOf := goodIn_r _ [17, 18, 19, 20, 21, 22, 23, 24, 25, 26, 27, 28, 29, 30, 31, 32, 78, 79, 80, 81, 76, 77, 82, 83, 84, 85] (by decide +kernel) (by decide +kernel)
set_option maxRecDepth 20000 in
theorem gX9_leaf_X7_leftOf : GoodIn wsX9_leaf (wsV RX9 201 RX7 yX7_leftOf wsX7_leftOf) := goodIn_app (goodIn_of _ (by decide +kernel)) ggX9_leaf_X7_leftOf
set_option maxRecDepth 20000 in
theorem ggX9_leaf_X7_belowOf : GoodIn wsX9_leaf wsX7_belowOf := goodIn_r _ [36, 18, 19, 20, 37, 38, 39, 24, 40, 26, 27, 28, 29, 30, 31, 32, 78, 79, 80, 81, 76, 77, 82, 83, 84, 85] (by decide +kernel) (by decide +kernel)
set_option maxRecDepth 20000 in
theorem gX9_leaf_X7_belowOf : GoodIn wsX9_leaf (wsV RX9 204 RX7 yX7_belowOf wsX7_belowOf) := goodIn_app (goodIn_of _ (by decide +kernel)) ggX9_leaf_X7_belowOf
set_option maxRecDepth 20000 in
theorem ggX9_leaf_X1_sideOf : GoodIn wsX9_leaf wsX1_sideOf := goodIn_r _ [31, 32, 76, 77] (by decide +kernel) (by decide +kernel)
set_option maxRecDepth 20000 in
theorem gX9_leaf_X1_sideOf : GoodIn wsX9_leaf (wsV RX9 207 RX1 yX1_sideOf wsX1_sideOf) := goodIn_app (goodIn_of _ (by decide +kernel)) ggX9_leaf_X1_sideOf
set_option maxRecDepth 20000 in
theorem ggX9_leaf_X1_countPoints : GoodIn wsX9_leaf wsX1_countPoints := goodIn_r _ [45, 32, 46, 47, 48, 49, 50, 51, 52, 53, 54, 55, 56, 57, 58, 59, 24, 60, 61, 76, 77, 86, 87, 82, 83, 84, 85] (by decide +kernel) (by decide +kernel)
set_option maxRecDepth 20000 in
theorem gX9_leaf_X1_countPoints : GoodIn wsX9_leaf (wsV RX9 210 RX1 yX1_countPoints wsX1_countPoints) := goodIn_app (goodIn_of _ (by decide +kernel)) ggX9_leaf_X1_countPoints
theorem dX9_leaf_0 : decode cX9_leaf 0 = .ok (.aload_n 0, 1) := by decide +kernel
theorem dX9_leaf_1 : decode cX9_leaf 1 = .ok (.iload_n 1, 1) := by decide +kernel
theorem dX9_leaf_2 : decode cX9_leaf 2 = .ok (.invokevirtual 198, 3) := by decide +kernel
theorem dX9_leaf_5 : decode cX9_leaf 5 = .ok (.ifCond .ne 5, 3) := by decide +kernel
theorem dX9_leaf_8 : decode cX9_leaf 8 = .ok (.iconst (-1), 1) := by decide +kernel
theorem dX9_leaf_9 : decode cX9_leaf 9 = .ok (.ireturn, 1) := by decide +kernel
theorem dX9_leaf_10 : decode cX9_leaf 10 = .ok (.iload_n 2, 1) := by decide +kernel
theorem dX9_leaf_11 : decode cX9_leaf 11 = .ok (.tableswitch 99 0 4 #[33, 42, 51, 63, 86], 33) := by decide +kernel
theorem dX9_leaf_44 : decode cX9_leaf 44 = .ok (.aload_n 0, 1) := by decide +kernel
theorem dX9_leaf_45 : decode cX9_leaf 45 = .ok (.getfield 54, 3) := by decide +kernel
theorem dX9_leaf_48 : decode cX9_leaf 48 = .ok (.iload_n 1, 1) := by decide +kernel
theorem dX9_leaf_49 : decode cX9_leaf 49 = .ok (.invokevirtual 201, 3) := by decide +kernel
theorem dX9_leaf_52 : decode cX9_leaf 52 = .ok (.ireturn, 1) := by decide +kernel
theorem dX9_leaf_53 : decode cX9_leaf 53 = .ok (.aload_n 0, 1) := by decide +kernel
theorem dX9_leaf_54 : decode cX9_leaf 54 = .ok (.getfield 54, 3) := by decide +kernel
theorem dX9_leaf_57 : decode cX9_leaf 57 = .ok (.iload_n 1, 1) := by decide +kernel
theorem dX9_leaf_58 : decode cX9_leaf 58 = .ok (.invokevirtual 204, 3) := by decide +kernel
theorem dX9_leaf_61 : decode cX9_leaf 61 = .ok (.ireturn, 1) := by decide +kernel
theorem dX9_leaf_62 : decode cX9_leaf 62 = .ok (.aload_n 0, 1) := by decide +kernel
theorem dX9_leaf_63 : decode cX9_leaf 63 = .ok (.getfield 10, 3) := by decide +kernel
theorem dX9_leaf_66 : decode cX9_leaf 66 = .ok (.getfield 47, 3) := by decide +kernel
theorem dX9_leaf_69 : decode cX9_leaf 69 = .ok (.iload_n 1, 1) := by decide +kernel
theorem dX9_leaf_70 : decode cX9_leaf 70 = .ok (.invokevirtual 207, 3) := by decide +kernel
theorem dX9_leaf_73 : decode cX9_leaf 73 = .ok (.ireturn, 1) := by decide +kernel
theorem dX9_leaf_74 : decode cX9_leaf 74 = .ok (.aload_n 0, 1) := by decide +kernel
theorem dX9_leaf_75 : decode cX9_leaf 75 = .ok (.getfield 10, 3) := by decide +kernel
theorem dX9_leaf_78 : decode cX9_leaf 78 = .ok (.getfield 47, 3) := by decide +kernel
theorem dX9_leaf_81 : decode cX9_leaf 81 = .ok (.iload_n 1, 1) := by decide +kernel
theorem dX9_leaf_82 : decode cX9_leaf 82 = .ok (.aload_n 0, 1) := by decide +kernel
theorem dX9_leaf_83 : decode cX9_leaf 83 = .ok (.getfield 34, 3) := by decide +kernel
theorem dX9_leaf_86 : decode cX9_leaf 86 = .ok (.aload_n 0, 1) := by decide +kernel
theorem dX9_leaf_87 : decode cX9_leaf 87 = .ok (.getfield 10, 3) := by decide +kernel
theorem dX9_leaf_90 : decode cX9_leaf 90 = .ok (.getfield 78, 3) := by decide +kernel
theorem dX9_leaf_93 : decode cX9_leaf 93 = .ok (.invokevirtual 210, 3) := by decide +kernel
theorem dX9_leaf_96 : decode cX9_leaf 96 = .ok (.ireturn, 1) := by decide +kernel
theorem dX9_leaf_97 : decode cX9_leaf 97 = .ok (.aload_n 0, 1) := by decide +kernel
theorem dX9_leaf_98 : decode cX9_leaf 98 = .ok (.getfield 10, 3) := by decide +kernel
theorem dX9_leaf_101 : decode cX9_leaf 101 = .ok (.getfield 47, 3) := by decide +kernel
theorem dX9_leaf_104 : decode cX9_leaf 104 = .ok (.getfield 214, 3) := by decide +kernel
theorem dX9_leaf_107 : decode cX9_leaf 107 = .ok (.iload_n 1, 1) := by decide +kernel
theorem dX9_leaf_108 : decode cX9_leaf 108 = .ok (.iaload, 1) := by decide +kernel
theorem dX9_leaf_109 : decode cX9_leaf 109 = .ok (.ireturn, 1) := by decide +kernel
theorem dX9_leaf_110 : decode cX9_leaf 110 = .ok (.bipush (-2), 2) := by decide +kernel
theorem dX9_leaf_112 : decode cX9_leaf 112 = .ok (.ireturn, 1) := by decide +kernel
set_option maxRecDepth 20000 in
theorem ggX9_leafAt_X2_holds : GoodIn wsX9_leafAt wsX2_holds := goodIn_r _ [8, 9, 36, 37, 38, 39] (by decide +kernel) (by decide +kernel)
set_option maxRecDepth 20000 in
theorem gX9_leafAt_X2_holds : GoodIn wsX9_leafAt (wsV RX9 98 RX2 yX2_holds wsX2_holds) := goodIn_app (goodIn_of _ (by decide +kernel)) ggX9_leafAt_X2_holds
set_option maxRecDepth 20000 in
theorem ggX9_leafAt_X2_indexOf : GoodIn wsX9_leafAt wsX2_indexOf := goodIn_r _ [13, 14, 36, 37, 38, 39] (by decide +kernel) (by decide +kernel)
set_option maxRecDepth 20000 in
theorem gX9_leafAt_X2_indexOf : GoodIn wsX9_leafAt (wsV RX9 102 RX2 yX2_indexOf wsX2_indexOf) := goodIn_app (goodIn_of _ (by decide +kernel)) ggX9_leafAt_X2_indexOf
set_option maxRecDepth 20000 in
theorem ggX9_leafAt_X1_leafOfIndex : GoodIn wsX9_leafAt wsX1_leafOfIndex := goodIn_r _ [19, 20, 21, 40, 41] (by decide +kernel) (by decide +kernel)
set_option maxRecDepth 20000 in
theorem gX9_leafAt_X1_leafOfIndex : GoodIn wsX9_leafAt (wsV RX9 217 RX1 yX1_leafOfIndex wsX1_leafOfIndex) := goodIn_app (goodIn_of _ (by decide +kernel)) ggX9_leafAt_X1_leafOfIndex
theorem dX9_leafAt_0 : decode cX9_leafAt 0 = .ok (.aload_n 0, 1) := by decide +kernel
theorem dX9_leafAt_1 : decode cX9_leafAt 1 = .ok (.getfield 34, 3) := by decide +kernel
theorem dX9_leafAt_4 : decode cX9_leafAt 4 = .ok (.iload_n 1, 1) := by decide +kernel
theorem dX9_leafAt_5 : decode cX9_leafAt 5 = .ok (.iload_n 2, 1) := by decide +kernel
theorem dX9_leafAt_6 : decode cX9_leafAt 6 = .ok (.invokevirtual 98, 3) := by decide +kernel
theorem dX9_leafAt_9 : decode cX9_leafAt 9 = .ok (.ifCond .eq 25, 3) := by decide +kernel
theorem dX9_leafAt_12 : decode cX9_leafAt 12 = .ok (.aload_n 0, 1) := by decide +kernel
theorem dX9_leafAt_13 : decode cX9_leafAt 13 = .ok (.getfield 10, 3) := by decide +kernel
theorem dX9_leafAt_16 : decode cX9_leafAt 16 = .ok (.getfield 47, 3) := by decide +kernel
theorem dX9_leafAt_19 : decode cX9_leafAt 19 = .ok (.aload_n 0, 1) := by decide +kernel
theorem dX9_leafAt_20 : decode cX9_leafAt 20 = .ok (.getfield 34, 3) := by decide +kernel
theorem dX9_leafAt_23 : decode cX9_leafAt 23 = .ok (.iload_n 1, 1) := by decide +kernel
theorem dX9_leafAt_24 : decode cX9_leafAt 24 = .ok (.iload_n 2, 1) := by decide +kernel
theorem dX9_leafAt_25 : decode cX9_leafAt 25 = .ok (.invokevirtual 102, 3) := by decide +kernel
theorem dX9_leafAt_28 : decode cX9_leafAt 28 = .ok (.invokevirtual 217, 3) := by decide +kernel
theorem dX9_leafAt_31 : decode cX9_leafAt 31 = .ok (.goto 4, 3) := by decide +kernel
theorem dX9_leafAt_34 : decode cX9_leafAt 34 = .ok (.iconst (-1), 1) := by decide +kernel
theorem dX9_leafAt_35 : decode cX9_leafAt 35 = .ok (.ireturn, 1) := by decide +kernel
set_option maxRecDepth 20000 in
theorem ggX9_neighbours_X9_isLeaf : GoodIn wsX9_neighbours wsX9_isLeaf := goodIn_r _ [7, 8, 9, 10, 74, 75, 76, 77, 78, 79, 80, 85, 86, 87, 88, 89, 90, 91, 92, 93] (by decide +kernel) (by decide +kernel)
set_option maxRecDepth 20000 in
theorem gX9_neighbours_X9_isLeaf : GoodIn wsX9_neighbours (wsV RX9 198 RX9 yX9_isLeaf wsX9_isLeaf) := goodIn_app (goodIn_of _ (by decide +kernel)) ggX9_neighbours_X9_isLeaf
set_option maxRecDepth 20000 in
theorem ggX9_neighbours_X9_isSide : GoodIn wsX9_neighbours wsX9_isSide := goodIn_r _ [13] (by decide +kernel) (by decide +kernel)
set_option maxRecDepth 20000 in
theorem gX9_neighbours_X9_isSide : GoodIn wsX9_neighbours (va_wsS RX9 220 yX9_isSide wsX9_isSide) := goodIn_app (goodIn_of _ (by decide +kernel)) ggX9_neighbours_X9_isSide
set_option maxRecDepth 20000 in
theorem ggX9_neighbours_X7_findBeyond : GoodIn wsX9_neighbours wsX7_findBeyond := goodIn_r _ [18, 19, 20, 21, 22, 23, 24, 25, 26, 27, 28, 29, 30, 31, 32, 33, 34, 17, 35, 36, 37, 38, 39, 40, 41, 42, 43, 44, 45, 46, 47, 48, 49, 50, 51, 52, 53, 54, 55, 56, 57, 58, 59, 60, 61, 62, 63, 64, 65, 66, 67, 68, 69, 70, 71, 72, 73, 81, 82, 83, 84, 92, 93, 94, 95, 96, 97] (by decide +kernel) (by decide +kernel)
set_option maxRecDepth 20000 in
theorem gX9_neighbours_X7_findBeyond : GoodIn wsX9_neighbours (wsV RX9 223 RX7 yX7_findBeyond wsX7_findBeyond) := goodIn_app (goodIn_of _ (by decide +kernel)) ggX9_neighbours_X7_findBeyond
theorem dX9_neighbours_0 : decode cX9_neighbours 0 = .ok (.aload_n 0, 1) := by decide +kernel
theorem dX9_neighbours_1 : decode cX9_neighbours 1 = .ok (.iload_n 1, 1) := by decide +kernel
theorem dX9_neighbours_2 : decode cX9_neighbours 2 = .ok (.invokevirtual 198, 3) := by decide +kernel
theorem dX9_neighbours_5 : decode cX9_neighbours 5 = .ok (.ifCond .eq 10, 3) := by decide +kernel
theorem dX9_neighbours_8 : decode cX9_neighbours 8 = .ok (.iload_n 2, 1) := by decide +kernel
theorem dX9_neighbours_9 : decode cX9_neighbours 9 = .ok (.invokestatic 220, 3) := by decide +kernel
theorem dX9_neighbours_12 : decode cX9_neighbours 12 = .ok (.ifCond .ne 5, 3) := by decide +kernel
theorem dX9_neighbours_15 : decode cX9_neighbours 15 = .ok (.iconst (-1), 1) := by decide +kernel
theorem dX9_neighbours_16 : decode cX9_neighbours 16 = .ok (.ireturn, 1) := by decide +kernel
theorem dX9_neighbours_17 : decode cX9_neighbours 17 = .ok (.aload_n 0, 1) := by decide +kernel
theorem dX9_neighbours_18 : decode cX9_neighbours 18 = .ok (.getfield 54, 3) := by decide +kernel
theorem dX9_neighbours_21 : decode cX9_neighbours 21 = .ok (.iload_n 1, 1) := by decide +kernel
theorem dX9_neighbours_22 : decode cX9_neighbours 22 = .ok (.iload_n 2, 1) := by decide +kernel
theorem dX9_neighbours_23 : decode cX9_neighbours 23 = .ok (.invokevirtual 223, 3) := by decide +kernel
theorem dX9_neighbours_26 : decode cX9_neighbours 26 = .ok (.aload_n 0, 1) := by decide +kernel
theorem dX9_neighbours_27 : decode cX9_neighbours 27 = .ok (.getfield 54, 3) := by decide +kernel
theorem dX9_neighbours_30 : decode cX9_neighbours 30 = .ok (.getfield 227, 3) := by decide +kernel
theorem dX9_neighbours_33 : decode cX9_neighbours 33 = .ok (.ireturn, 1) := by decide +kernel
set_option maxRecDepth 20000 in
theorem ggX9_neighbour_X9_isLeaf : GoodIn wsX9_neighbour wsX9_isLeaf := goodIn_r _ [8, 9, 10, 11, 75, 76, 77, 78, 79, 80, 81, 86, 87, 88, 89, 90, 91, 92, 93, 94] (by decide +kernel) (by decide +kernel)
set_option maxRecDepth 20000 in
theorem gX9_neighbour_X9_isLeaf : GoodIn wsX9_neighbour (wsV RX9 198 RX9 yX9_isLeaf wsX9_isLeaf) := goodIn_app (goodIn_of _ (by decide +kernel)) ggX9_neighbour_X9_isLeaf
set_option maxRecDepth 20000 in
theorem ggX9_neighbour_X9_isSide : GoodIn wsX9_neighbour wsX9_isSide := goodIn_r _ [14] (by decide +kernel) (by decide +kernel)
set_option maxRecDepth 20000 in
theorem gX9_neighbour_X9_isSide : GoodIn wsX9_neighbour (va_wsS RX9 220 yX9_isSide wsX9_isSide) := goodIn_app (goodIn_of _ (by decide +kernel)) ggX9_neighbour_X9_isSide
set_option maxRecDepth 20000 in
theorem ggX9_neighbour_X7_findBeyond : GoodIn wsX9_neighbour wsX7_findBeyond := goodIn_r _ [19, 20, 21, 22, 23, 24, 25, 26, 27, 28, 29, 30, 31, 32, 33, 34, 35, 18, 36, 37, 38, 39, 40, 41, 42, 43, 44, 45, 46, 47, 48, 49, 50, 51, 52, 53, 54, 55, 56, 57, 58, 59, 60, 61, 62, 63, 64, 65, 66, 67, 68, 69, 70, 71, 72, 73, 74, 82, 83, 84, 85, 93, 94, 95, 96, 97, 98] (by decide +kernel) (by decide +kernel)
set_option maxRecDepth 20000 in
theorem gX9_neighbour_X7_findBeyond : GoodIn wsX9_neighbour (wsV RX9 223 RX7 yX7_findBeyond wsX7_findBeyond) := goodIn_app (goodIn_of _ (by decide +kernel)) ggX9_neighbour_X7_findBeyond
theorem dX9_neighbour_0 : decode cX9_neighbour 0 = .ok (.aload_n 0, 1) := by decide +kernel
theorem dX9_neighbour_1 : decode cX9_neighbour 1 = .ok (.iload_n 1, 1) := by decide +kernel
theorem dX9_neighbour_2 : decode cX9_neighbour 2 = .ok (.invokevirtual 198, 3) := by decide +kernel
theorem dX9_neighbour_5 : decode cX9_neighbour 5 = .ok (.ifCond .eq 14, 3) := by decide +kernel
theorem dX9_neighbour_8 : decode cX9_neighbour 8 = .ok (.iload_n 2, 1) := by decide +kernel
theorem dX9_neighbour_9 : decode cX9_neighbour 9 = .ok (.invokestatic 220, 3) := by decide +kernel
theorem dX9_neighbour_12 : decode cX9_neighbour 12 = .ok (.ifCond .eq 7, 3) := by decide +kernel
theorem dX9_neighbour_15 : decode cX9_neighbour 15 = .ok (.iload_n 3, 1) := by decide +kernel
theorem dX9_neighbour_16 : decode cX9_neighbour 16 = .ok (.ifCond .ge 5, 3) := by decide +kernel
theorem dX9_neighbour_19 : decode cX9_neighbour 19 = .ok (.iconst (-1), 1) := by decide +kernel
theorem dX9_neighbour_20 : decode cX9_neighbour 20 = .ok (.ireturn, 1) := by decide +kernel
theorem dX9_neighbour_21 : decode cX9_neighbour 21 = .ok (.aload_n 0, 1) := by decide +kernel
theorem dX9_neighbour_22 : decode cX9_neighbour 22 = .ok (.getfield 54, 3) := by decide +kernel
theorem dX9_neighbour_25 : decode cX9_neighbour 25 = .ok (.iload_n 1, 1) := by decide +kernel
theorem dX9_neighbour_26 : decode cX9_neighbour 26 = .ok (.iload_n 2, 1) := by decide +kernel
theorem dX9_neighbour_27 : decode cX9_neighbour 27 = .ok (.invokevirtual 223, 3) := by decide +kernel
theorem dX9_neighbour_30 : decode cX9_neighbour 30 = .ok (.iload_n 3, 1) := by decide +kernel
theorem dX9_neighbour_31 : decode cX9_neighbour 31 = .ok (.aload_n 0, 1) := by decide +kernel
theorem dX9_neighbour_32 : decode cX9_neighbour 32 = .ok (.getfield 54, 3) := by decide +kernel
theorem dX9_neighbour_35 : decode cX9_neighbour 35 = .ok (.getfield 227, 3) := by decide +kernel
theorem dX9_neighbour_38 : decode cX9_neighbour 38 = .ok (.if_icmp .ge 15, 3) := by decide +kernel
theorem dX9_neighbour_41 : decode cX9_neighbour 41 = .ok (.aload_n 0, 1) := by decide +kernel
theorem dX9_neighbour_42 : decode cX9_neighbour 42 = .ok (.getfield 54, 3) := by decide +kernel
theorem dX9_neighbour_45 : decode cX9_neighbour 45 = .ok (.getfield 228, 3) := by decide +kernel
theorem dX9_neighbour_48 : decode cX9_neighbour 48 = .ok (.iload_n 3, 1) := by decide +kernel
theorem dX9_neighbour_49 : decode cX9_neighbour 49 = .ok (.iaload, 1) := by decide +kernel
theorem dX9_neighbour_50 : decode cX9_neighbour 50 = .ok (.goto 5, 3) := by decide +kernel
theorem dX9_neighbour_53 : decode cX9_neighbour 53 = .ok (.bipush (-5), 2) := by decide +kernel
theorem dX9_neighbour_55 : decode cX9_neighbour 55 = .ok (.ireturn, 1) := by decide +kernel
set_option maxRecDepth 20000 in
theorem ggX9_balance_X7_divideAllTooLarge : GoodIn wsX9_balance wsX7_divideAllTooLarge := goodIn_r _ [6, 7, 8, 9, 10, 11, 12, 5, 13, 14, 15, 16, 17, 18, 19, 20, 21, 22, 23, 24, 25, 26, 27, 28, 29, 30, 31, 32, 33, 34, 35, 36, 37, 38, 39, 40, 41, 42, 43, 44, 45, 46, 47, 48, 49, 50, 51, 52, 53, 54, 55, 56, 57, 58, 59, 60, 61, 62, 63, 64, 65, 66, 67, 68, 69, 70, 71, 72, 73, 74, 75, 76, 77, 78, 79, 80, 81, 82, 83, 84, 85, 86, 94, 95, 96, 97, 98, 99, 100, 101, 102, 103] (by decide +kernel) (by decide +kernel)
set_option maxRecDepth 20000 in
theorem gX9_balance_X7_divideAllTooLarge : GoodIn wsX9_balance (wsV RX9 231 RX7 yX7_divideAllTooLarge wsX7_divideAllTooLarge) := goodIn_app (goodIn_of _ (by decide +kernel)) ggX9_balance_X7_divideAllTooLarge
theorem dX9_balance_0 : decode cX9_balance 0 = .ok (.aload_n 0, 1) := by decide +kernel
theorem dX9_balance_1 : decode cX9_balance 1 = .ok (.getfield 54, 3) := by decide +kernel
theorem dX9_balance_4 : decode cX9_balance 4 = .ok (.invokevirtual 231, 3) := by decide +kernel
theorem dX9_balance_7 : decode cX9_balance 7 = .ok (.ireturn, 1) := by decide +kernel
set_option maxRecDepth 20000 in
theorem ggX9_walk_X9_isLeaf : GoodIn wsX9_walk wsX9_isLeaf := goodIn_r _ [6, 7, 8, 9, 81, 82, 83, 84, 85, 86, 87, 88, 89, 90, 91, 92, 93, 94, 95, 96] (by decide +kernel) (by decide +kernel)
set_option maxRecDepth 20000 in
theorem gX9_walk_X9_isLeaf : GoodIn wsX9_walk (wsV RX9 198 RX9 yX9_isLeaf wsX9_isLeaf) := goodIn_app (goodIn_of _ (by decide +kernel)) ggX9_walk_X9_isLeaf
set_option maxRecDepth 20000 in
theorem ggX9_walk_X9_isSide : GoodIn wsX9_walk wsX9_isSide := goodIn_r _ [12] (by decide +kernel) (by decide +kernel)
set_option maxRecDepth 20000 in
theorem gX9_walk_X9_isSide : GoodIn wsX9_walk (va_wsS RX9 220 yX9_isSide wsX9_isSide) := goodIn_app (goodIn_of _ (by decide +kernel)) ggX9_walk_X9_isSide
set_option maxRecDepth 20000 in
theorem ggX9_walk_X7_countSteps : GoodIn wsX9_walk wsX7_countSteps := goodIn_r _ [17, 18, 19, 20, 16, 21, 22, 23, 24, 25, 26, 27, 28, 29, 30, 31, 32, 33, 34, 35, 36, 37, 38, 39, 40, 41, 42, 43, 44, 45, 46, 47, 48, 49, 50, 51, 52, 53, 54, 55, 56, 57, 58, 59, 60, 61, 62, 63, 64, 65, 66, 67, 68, 69, 70, 71, 72, 73, 74, 75, 76, 77, 78, 79, 80, 97, 98, 99, 100, 95, 96, 101, 102, 103, 104] (by decide +kernel) (by decide +kernel)
set_option maxRecDepth 20000 in
theorem gX9_walk_X7_countSteps : GoodIn wsX9_walk (wsV RX9 234 RX7 yX7_countSteps wsX7_countSteps) := goodIn_app (goodIn_of _ (by decide +kernel)) ggX9_walk_X7_countSteps
theorem dX9_walk_0 : decode cX9_walk 0 = .ok (.aload_n 0, 1) := by decide +kernel
theorem dX9_walk_1 : decode cX9_walk 1 = .ok (.iload_n 1, 1) := by decide +kernel
theorem dX9_walk_2 : decode cX9_walk 2 = .ok (.invokevirtual 198, 3) := by decide +kernel
theorem dX9_walk_5 : decode cX9_walk 5 = .ok (.ifCond .eq 22, 3) := by decide +kernel
theorem dX9_walk_8 : decode cX9_walk 8 = .ok (.iload_n 2, 1) := by decide +kernel
theorem dX9_walk_9 : decode cX9_walk 9 = .ok (.invokestatic 220, 3) := by decide +kernel
theorem dX9_walk_12 : decode cX9_walk 12 = .ok (.ifCond .eq 15, 3) := by decide +kernel
theorem dX9_walk_15 : decode cX9_walk 15 = .ok (.aload_n 0, 1) := by decide +kernel
theorem dX9_walk_16 : decode cX9_walk 16 = .ok (.getfield 54, 3) := by decide +kernel
theorem dX9_walk_19 : decode cX9_walk 19 = .ok (.iload_n 1, 1) := by decide +kernel
theorem dX9_walk_20 : decode cX9_walk 20 = .ok (.iload_n 2, 1) := by decide +kernel
theorem dX9_walk_21 : decode cX9_walk 21 = .ok (.invokevirtual 234, 3) := by decide +kernel
theorem dX9_walk_24 : decode cX9_walk 24 = .ok (.goto 4, 3) := by decide +kernel
theorem dX9_walk_27 : decode cX9_walk 27 = .ok (.iconst (-1), 1) := by decide +kernel
theorem dX9_walk_28 : decode cX9_walk 28 = .ok (.ireturn, 1) := by decide +kernel
set_option maxRecDepth 20000 in
theorem ggX9_walked_X9_isLeaf : GoodIn wsX9_walked wsX9_isLeaf := goodIn_r _ [6, 7, 8, 9, 81, 82, 83, 84, 85, 86, 87, 88, 89, 90, 91, 92, 93, 94, 95, 96] (by decide +kernel) (by decide +kernel)
set_option maxRecDepth 20000 in
theorem gX9_walked_X9_isLeaf : GoodIn wsX9_walked (wsV RX9 198 RX9 yX9_isLeaf wsX9_isLeaf) := goodIn_app (goodIn_of _ (by decide +kernel)) ggX9_walked_X9_isLeaf
set_option maxRecDepth 20000 in
theorem ggX9_walked_X9_isSide : GoodIn wsX9_walked wsX9_isSide := goodIn_r _ [12] (by decide +kernel) (by decide +kernel)
set_option maxRecDepth 20000 in
theorem gX9_walked_X9_isSide : GoodIn wsX9_walked (va_wsS RX9 220 yX9_isSide wsX9_isSide) := goodIn_app (goodIn_of _ (by decide +kernel)) ggX9_walked_X9_isSide
set_option maxRecDepth 20000 in
theorem ggX9_walked_X7_leafAfter : GoodIn wsX9_walked wsX7_leafAfter := goodIn_r _ [17, 18, 19, 20, 16, 21, 22, 23, 24, 25, 26, 27, 28, 29, 30, 31, 32, 33, 34, 35, 36, 37, 38, 39, 40, 41, 42, 43, 44, 45, 46, 47, 48, 49, 50, 51, 52, 53, 54, 55, 56, 57, 58, 59, 60, 61, 62, 63, 64, 65, 66, 67, 68, 69, 70, 71, 72, 73, 74, 75, 76, 77, 78, 79, 80, 97, 98, 99, 100, 95, 96, 101, 102, 103, 104] (by decide +kernel) (by decide +kernel)
set_option maxRecDepth 20000 in
theorem gX9_walked_X7_leafAfter : GoodIn wsX9_walked (wsV RX9 237 RX7 yX7_leafAfter wsX7_leafAfter) := goodIn_app (goodIn_of _ (by decide +kernel)) ggX9_walked_X7_leafAfter
theorem dX9_walked_0 : decode cX9_walked 0 = .ok (.aload_n 0, 1) := by decide +kernel
theorem dX9_walked_1 : decode cX9_walked 1 = .ok (.iload_n 1, 1) := by decide +kernel
theorem dX9_walked_2 : decode cX9_walked 2 = .ok (.invokevirtual 198, 3) := by decide +kernel
theorem dX9_walked_5 : decode cX9_walked 5 = .ok (.ifCond .eq 14, 3) := by decide +kernel
theorem dX9_walked_8 : decode cX9_walked 8 = .ok (.iload_n 2, 1) := by decide +kernel
theorem dX9_walked_9 : decode cX9_walked 9 = .ok (.invokestatic 220, 3) := by decide +kernel
theorem dX9_walked_12 : decode cX9_walked 12 = .ok (.ifCond .eq 7, 3) := by decide +kernel
theorem dX9_walked_15 : decode cX9_walked 15 = .ok (.iload_n 3, 1) := by decide +kernel
theorem dX9_walked_16 : decode cX9_walked 16 = .ok (.ifCond .ge 5, 3) := by decide +kernel
theorem dX9_walked_19 : decode cX9_walked 19 = .ok (.iconst (-1), 1) := by decide +kernel
theorem dX9_walked_20 : decode cX9_walked 20 = .ok (.ireturn, 1) := by decide +kernel
theorem dX9_walked_21 : decode cX9_walked 21 = .ok (.aload_n 0, 1) := by decide +kernel
theorem dX9_walked_22 : decode cX9_walked 22 = .ok (.getfield 54, 3) := by decide +kernel
theorem dX9_walked_25 : decode cX9_walked 25 = .ok (.iload_n 1, 1) := by decide +kernel
theorem dX9_walked_26 : decode cX9_walked 26 = .ok (.iload_n 2, 1) := by decide +kernel
theorem dX9_walked_27 : decode cX9_walked 27 = .ok (.iload_n 3, 1) := by decide +kernel
theorem dX9_walked_28 : decode cX9_walked 28 = .ok (.invokevirtual 237, 3) := by decide +kernel
theorem dX9_walked_31 : decode cX9_walked 31 = .ok (.istore 4, 2) := by decide +kernel
theorem dX9_walked_33 : decode cX9_walked 33 = .ok (.iload 4, 2) := by decide +kernel
theorem dX9_walked_35 : decode cX9_walked 35 = .ok (.iconst (-1), 1) := by decide +kernel
theorem dX9_walked_36 : decode cX9_walked 36 = .ok (.if_icmp .ne 8, 3) := by decide +kernel
theorem dX9_walked_39 : decode cX9_walked 39 = .ok (.bipush (-5), 2) := by decide +kernel
theorem dX9_walked_41 : decode cX9_walked 41 = .ok (.goto 5, 3) := by decide +kernel
theorem dX9_walked_44 : decode cX9_walked 44 = .ok (.iload 4, 2) := by decide +kernel
theorem dX9_walked_46 : decode cX9_walked 46 = .ok (.ireturn, 1) := by decide +kernel
set_option maxRecDepth 20000 in
theorem ggX9_save_X5_copyFrom : GoodIn wsX9_save wsX5_copyFrom := goodIn_r _ [10, 11, 12, 13, 14, 15, 16, 17, 18, 19, 20, 21, 22, 23, 24, 25, 26, 27, 28, 29, 30, 31, 32, 33, 34, 35, 36, 37, 38, 39, 40, 41, 42, 43, 44, 45, 46, 47, 48, 49, 50, 51, 52, 53, 54, 55, 56, 57, 65, 66, 67, 68, 69, 70, 71, 74, 75, 76, 77, 78, 79, 80, 81, 72, 73] (by decide +kernel) (by decide +kernel)
set_option maxRecDepth 20000 in
theorem gX9_save_X5_copyFrom : GoodIn wsX9_save (wsV RX9 241 RX5 yX5_copyFrom wsX5_copyFrom) := goodIn_app (goodIn_of _ (by decide +kernel)) ggX9_save_X5_copyFrom
theorem dX9_save_0 : decode cX9_save 0 = .ok (.iload_n 1, 1) := by decide +kernel
theorem dX9_save_1 : decode cX9_save 1 = .ok (.ifCond .lt 8, 3) := by decide +kernel
theorem dX9_save_4 : decode cX9_save 4 = .ok (.iload_n 1, 1) := by decide +kernel
theorem dX9_save_5 : decode cX9_save 5 = .ok (.iconst 2, 1) := by decide +kernel
theorem dX9_save_6 : decode cX9_save 6 = .ok (.if_icmp .lt 5, 3) := by decide +kernel
theorem dX9_save_9 : decode cX9_save 9 = .ok (.iconst (-1), 1) := by decide +kernel
theorem dX9_save_10 : decode cX9_save 10 = .ok (.ireturn, 1) := by decide +kernel
theorem dX9_save_11 : decode cX9_save 11 = .ok (.aload_n 0, 1) := by decide +kernel
theorem dX9_save_12 : decode cX9_save 12 = .ok (.getfield 16, 3) := by decide +kernel
theorem dX9_save_15 : decode cX9_save 15 = .ok (.iload_n 1, 1) := by decide +kernel
theorem dX9_save_16 : decode cX9_save 16 = .ok (.aaload, 1) := by decide +kernel
theorem dX9_save_17 : decode cX9_save 17 = .ok (.aload_n 0, 1) := by decide +kernel
theorem dX9_save_18 : decode cX9_save 18 = .ok (.getfield 10, 3) := by decide +kernel
theorem dX9_save_21 : decode cX9_save 21 = .ok (.invokevirtual 241, 3) := by decide +kernel
theorem dX9_save_24 : decode cX9_save 24 = .ok (.aload_n 0, 1) := by decide +kernel
theorem dX9_save_25 : decode cX9_save 25 = .ok (.getfield 20, 3) := by decide +kernel
theorem dX9_save_28 : decode cX9_save 28 = .ok (.iload_n 1, 1) := by decide +kernel
theorem dX9_save_29 : decode cX9_save 29 = .ok (.iconst 1, 1) := by decide +kernel
theorem dX9_save_30 : decode cX9_save 30 = .ok (.bastore, 1) := by decide +kernel
theorem dX9_save_31 : decode cX9_save 31 = .ok (.aload_n 0, 1) := by decide +kernel
theorem dX9_save_32 : decode cX9_save 32 = .ok (.getfield 10, 3) := by decide +kernel
theorem dX9_save_35 : decode cX9_save 35 = .ok (.getfield 47, 3) := by decide +kernel
theorem dX9_save_38 : decode cX9_save 38 = .ok (.getfield 195, 3) := by decide +kernel
theorem dX9_save_41 : decode cX9_save 41 = .ok (.ireturn, 1) := by decide +kernel
set_option maxRecDepth 20000 in
theorem ggX9_restore_X5_copyFrom : GoodIn wsX9_restore wsX5_copyFrom := goodIn_r _ [10, 11, 12, 13, 14, 15, 16, 17, 18, 19, 20, 21, 22, 23, 24, 25, 26, 27, 28, 29, 30, 31, 32, 33, 34, 35, 36, 37, 38, 39, 40, 41, 42, 43, 44, 45, 46, 47, 48, 49, 50, 51, 52, 53, 54, 55, 56, 57, 113, 114, 115, 116, 117, 118, 119, 122, 123, 124, 125, 126, 127, 128, 129, 120, 121] (by decide +kernel) (by decide +kernel)
set_option maxRecDepth 20000 in
theorem gX9_restore_X5_copyFrom : GoodIn wsX9_restore (wsV RX9 241 RX5 yX5_copyFrom wsX5_copyFrom) := goodIn_app (goodIn_of _ (by decide +kernel)) ggX9_restore_X5_copyFrom
set_option maxRecDepth 20000 in
theorem ggX9_restore_X9_renumber : GoodIn wsX9_restore wsX9_renumber := goodIn_r _ [62, 63, 2, 64, 65, 66, 67, 68, 69, 9, 70, 12, 13, 71, 72, 73, 74, 75, 76, 77, 78, 79, 80, 81, 82, 83, 84, 85, 86, 87, 88, 89, 90, 91, 92, 93, 94, 95, 96, 97, 98, 99, 100, 101, 102, 103, 104, 36, 105, 38, 40, 39, 41, 106, 107, 108, 109, 110, 111, 112, 113, 114, 115, 116, 117, 118, 119, 126, 127, 130, 131, 132, 133, 134, 135, 136, 122, 123, 124, 125] (by decide +kernel) (by decide +kernel)
set_option maxRecDepth 20000 in
theorem gX9_restore_X9_renumber : GoodIn wsX9_restore (wsV RX9 72 RX9 yX9_renumber wsX9_renumber) := goodIn_app (goodIn_of _ (by decide +kernel)) ggX9_restore_X9_renumber
theorem dX9_restore_0 : decode cX9_restore 0 = .ok (.iload_n 1, 1) := by decide +kernel
theorem dX9_restore_1 : decode cX9_restore 1 = .ok (.ifCond .lt 8, 3) := by decide +kernel
theorem dX9_restore_4 : decode cX9_restore 4 = .ok (.iload_n 1, 1) := by decide +kernel
theorem dX9_restore_5 : decode cX9_restore 5 = .ok (.iconst 2, 1) := by decide +kernel
theorem dX9_restore_6 : decode cX9_restore 6 = .ok (.if_icmp .lt 5, 3) := by decide +kernel
theorem dX9_restore_9 : decode cX9_restore 9 = .ok (.iconst (-1), 1) := by decide +kernel
theorem dX9_restore_10 : decode cX9_restore 10 = .ok (.ireturn, 1) := by decide +kernel
theorem dX9_restore_11 : decode cX9_restore 11 = .ok (.aload_n 0, 1) := by decide +kernel
theorem dX9_restore_12 : decode cX9_restore 12 = .ok (.getfield 20, 3) := by decide +kernel
theorem dX9_restore_15 : decode cX9_restore 15 = .ok (.iload_n 1, 1) := by decide +kernel
theorem dX9_restore_16 : decode cX9_restore 16 = .ok (.baload, 1) := by decide +kernel
theorem dX9_restore_17 : decode cX9_restore 17 = .ok (.ifCond .ne 6, 3) := by decide +kernel
theorem dX9_restore_20 : decode cX9_restore 20 = .ok (.bipush (-3), 2) := by decide +kernel
theorem dX9_restore_22 : decode cX9_restore 22 = .ok (.ireturn, 1) := by decide +kernel
theorem dX9_restore_23 : decode cX9_restore 23 = .ok (.aload_n 0, 1) := by decide +kernel
theorem dX9_restore_24 : decode cX9_restore 24 = .ok (.getfield 10, 3) := by decide +kernel
theorem dX9_restore_27 : decode cX9_restore 27 = .ok (.aload_n 0, 1) := by decide +kernel
theorem dX9_restore_28 : decode cX9_restore 28 = .ok (.getfield 16, 3) := by decide +kernel
theorem dX9_restore_31 : decode cX9_restore 31 = .ok (.iload_n 1, 1) := by decide +kernel
theorem dX9_restore_32 : decode cX9_restore 32 = .ok (.aaload, 1) := by decide +kernel
theorem dX9_restore_33 : decode cX9_restore 33 = .ok (.invokevirtual 241, 3) := by decide +kernel
theorem dX9_restore_36 : decode cX9_restore 36 = .ok (.aload_n 0, 1) := by decide +kernel
theorem dX9_restore_37 : decode cX9_restore 37 = .ok (.invokevirtual 72, 3) := by decide +kernel
theorem dX9_restore_40 : decode cX9_restore 40 = .ok (.aload_n 0, 1) := by decide +kernel
theorem dX9_restore_41 : decode cX9_restore 41 = .ok (.getfield 10, 3) := by decide +kernel
theorem dX9_restore_44 : decode cX9_restore 44 = .ok (.getfield 47, 3) := by decide +kernel
theorem dX9_restore_47 : decode cX9_restore 47 = .ok (.getfield 195, 3) := by decide +kernel
theorem dX9_restore_50 : decode cX9_restore 50 = .ok (.ireturn, 1) := by decide +kernel
set_option maxRecDepth 20000 in
theorem ggX9_checksum_X9_sumCurve : GoodIn wsX9_checksum wsX9_sumCurve := goodIn_r _ [6, 7, 8, 9, 10, 5, 11, 12, 13, 14, 15, 16, 17, 18, 19, 20, 21, 22, 23, 24, 25, 26, 27, 28, 29, 30, 31, 32, 33, 34, 35, 36, 37, 38, 39, 40, 41, 42, 43, 44, 45, 46, 47, 48, 49, 50, 51, 52, 53, 54, 55, 56, 57, 58, 59, 60, 61, 62, 63, 64, 65, 66, 67, 68, 69, 70, 71, 72, 73, 74, 155, 156, 157, 158, 159, 160, 161, 162, 163, 164, 165, 166, 167, 168, 169, 170, 171, 172, 173, 174] (by decide +kernel) (by decide +kernel)
set_option maxRecDepth 20000 in
theorem gX9_checksum_X9_sumCurve : GoodIn wsX9_checksum (wsV RX9 247 RX9 yX9_sumCurve wsX9_sumCurve) := goodIn_app (goodIn_of _ (by decide +kernel)) ggX9_checksum_X9_sumCurve
set_option maxRecDepth 20000 in
theorem ggX9_checksum_X9_sumIntervals : GoodIn wsX9_checksum wsX9_sumIntervals := goodIn_r _ [78, 79, 80, 81, 5, 82, 83, 84, 9, 10, 11, 12, 85, 86, 87, 88, 89, 90, 155, 156, 157, 158, 159, 160, 161, 175, 176, 177] (by decide +kernel) (by decide +kernel)
set_option maxRecDepth 20000 in
theorem gX9_checksum_X9_sumIntervals : GoodIn wsX9_checksum (wsV RX9 251 RX9 yX9_sumIntervals wsX9_sumIntervals) := goodIn_app (goodIn_of _ (by decide +kernel)) ggX9_checksum_X9_sumIntervals
set_option maxRecDepth 20000 in
theorem ggX9_checksum_X9_sumLeaves : GoodIn wsX9_checksum wsX9_sumLeaves := goodIn_r _ [94, 7, 95, 96, 97, 98, 5, 99, 100, 101, 9, 10, 11, 12, 102, 103, 104, 105, 106, 107, 108, 109, 110, 111, 112, 38, 113, 114, 115, 116, 117, 118, 119, 120, 121, 122, 123, 124, 125, 126, 50, 51, 42, 52, 53, 127, 128, 129, 130, 131, 132, 133, 134, 135, 136, 137, 55, 56, 57, 138, 139, 140, 141, 142, 143, 144, 145, 146, 147, 148, 149, 150, 151, 152, 153, 154, 71, 72, 73, 74, 155, 156, 157, 158, 159, 160, 161, 162, 163, 164, 165, 166, 167, 168, 178, 179, 180, 181, 182, 183, 184, 185, 171, 172, 173, 174] (by decide +kernel) (by decide +kernel)
set_option maxRecDepth 20000 in
theorem gX9_checksum_X9_sumLeaves : GoodIn wsX9_checksum (wsV RX9 254 RX9 yX9_sumLeaves wsX9_sumLeaves) := goodIn_app (goodIn_of _ (by decide +kernel)) ggX9_checksum_X9_sumLeaves
theorem dX9_checksum_0 : decode cX9_checksum 0 = .ok (.aload_n 0, 1) := by decide +kernel
theorem dX9_checksum_1 : decode cX9_checksum 1 = .ok (.aload_n 0, 1) := by decide +kernel
theorem dX9_checksum_2 : decode cX9_checksum 2 = .ok (.aload_n 0, 1) := by decide +kernel
theorem dX9_checksum_3 : decode cX9_checksum 3 = .ok (.ldc2_w 245, 3) := by decide +kernel
theorem dX9_checksum_6 : decode cX9_checksum 6 = .ok (.invokevirtual 247, 3) := by decide +kernel
theorem dX9_checksum_9 : decode cX9_checksum 9 = .ok (.invokevirtual 251, 3) := by decide +kernel
theorem dX9_checksum_12 : decode cX9_checksum 12 = .ok (.invokevirtual 254, 3) := by decide +kernel
theorem dX9_checksum_15 : decode cX9_checksum 15 = .ok (.lreturn, 1) := by decide +kernel
set_option maxRecDepth 20000 in
theorem ggX9_renumber_X5_visitsOfCurve : GoodIn wsX9_renumber wsX5_visitsOfCurve := goodIn_r _ [10, 11, 12, 13, 60, 61, 62, 63, 64, 65, 66, 67, 68] (by decide +kernel) (by decide +kernel)
set_option maxRecDepth 20000 in
theorem gX9_renumber_X5_visitsOfCurve : GoodIn wsX9_renumber (wsV RX9 94 RX5 yX5_visitsOfCurve wsX5_visitsOfCurve) := goodIn_app (goodIn_of _ (by decide +kernel)) ggX9_renumber_X5_visitsOfCurve
set_option maxRecDepth 20000 in
theorem ggX9_renumber_X2_fill : GoodIn wsX9_renumber wsX2_fill := goodIn_r _ [18, 19, 20, 21, 22, 23, 24, 25, 17, 26, 69, 70, 71, 72] (by decide +kernel) (by decide +kernel)
set_option maxRecDepth 20000 in
theorem gX9_renumber_X2_fill : GoodIn wsX9_renumber (wsV RX9 257 RX2 yX2_fill wsX2_fill) := goodIn_app (goodIn_of _ (by decide +kernel)) ggX9_renumber_X2_fill
set_option maxRecDepth 20000 in
theorem ggX9_renumber_X0_fill : GoodIn wsX9_renumber wsX0_fill := goodIn_r _ [31, 32, 33, 34, 35, 36, 37, 38, 17, 39, 21, 40, 41, 42, 43, 44, 45, 46, 47, 48, 49, 50, 51, 52, 73, 74, 75, 69, 70, 71, 72, 76, 77, 78, 79] (by decide +kernel) (by decide +kernel)
set_option maxRecDepth 20000 in
theorem gX9_renumber_X0_fill : GoodIn wsX9_renumber (wsV RX9 149 RX0 yX0_fill wsX0_fill) := goodIn_app (goodIn_of _ (by decide +kernel)) ggX9_renumber_X0_fill
theorem dX9_renumber_0 : decode cX9_renumber 0 = .ok (.aload_n 0, 1) := by decide +kernel
theorem dX9_renumber_1 : decode cX9_renumber 1 = .ok (.getfield 34, 3) := by decide +kernel
theorem dX9_renumber_4 : decode cX9_renumber 4 = .ok (.aload_n 0, 1) := by decide +kernel
theorem dX9_renumber_5 : decode cX9_renumber 5 = .ok (.getfield 10, 3) := by decide +kernel
theorem dX9_renumber_8 : decode cX9_renumber 8 = .ok (.getfield 62, 3) := by decide +kernel
theorem dX9_renumber_11 : decode cX9_renumber 11 = .ok (.aload_n 0, 1) := by decide +kernel
theorem dX9_renumber_12 : decode cX9_renumber 12 = .ok (.getfield 10, 3) := by decide +kernel
theorem dX9_renumber_15 : decode cX9_renumber 15 = .ok (.invokevirtual 94, 3) := by decide +kernel
theorem dX9_renumber_18 : decode cX9_renumber 18 = .ok (.invokevirtual 257, 3) := by decide +kernel
theorem dX9_renumber_21 : decode cX9_renumber 21 = .ok (.aload_n 0, 1) := by decide +kernel
theorem dX9_renumber_22 : decode cX9_renumber 22 = .ok (.getfield 41, 3) := by decide +kernel
theorem dX9_renumber_25 : decode cX9_renumber 25 = .ok (.aload_n 0, 1) := by decide +kernel
theorem dX9_renumber_26 : decode cX9_renumber 26 = .ok (.getfield 34, 3) := by decide +kernel
theorem dX9_renumber_29 : decode cX9_renumber 29 = .ok (.aload_n 0, 1) := by decide +kernel
theorem dX9_renumber_30 : decode cX9_renumber 30 = .ok (.getfield 10, 3) := by decide +kernel
theorem dX9_renumber_33 : decode cX9_renumber 33 = .ok (.getfield 58, 3) := by decide +kernel
theorem dX9_renumber_36 : decode cX9_renumber 36 = .ok (.invokevirtual 149, 3) := by decide +kernel
theorem dX9_renumber_39 : decode cX9_renumber 39 = .ok (.return_, 1) := by decide +kernel
set_option maxRecDepth 20000 in
theorem ggX9_redivide_X1_fill : GoodIn wsX9_redivide wsX1_fill := goodIn_r _ [10, 11, 12, 13, 14, 15, 16, 9, 17, 18, 19, 20, 21, 22, 23, 24, 25, 26, 27, 28, 29, 30, 31, 32, 33, 34, 35, 36, 37, 38, 53, 54, 55, 56, 57, 58, 59, 60] (by decide +kernel) (by decide +kernel)
set_option maxRecDepth 20000 in
theorem gX9_redivide_X1_fill : GoodIn wsX9_redivide (wsV RX9 260 RX1 yX1_fill wsX1_fill) := goodIn_app (goodIn_of _ (by decide +kernel)) ggX9_redivide_X1_fill
theorem dX9_redivide_0 : decode cX9_redivide 0 = .ok (.aload_n 0, 1) := by decide +kernel
theorem dX9_redivide_1 : decode cX9_redivide 1 = .ok (.getfield 10, 3) := by decide +kernel
theorem dX9_redivide_4 : decode cX9_redivide 4 = .ok (.getfield 47, 3) := by decide +kernel
theorem dX9_redivide_7 : decode cX9_redivide 7 = .ok (.aload_n 0, 1) := by decide +kernel
theorem dX9_redivide_8 : decode cX9_redivide 8 = .ok (.getfield 34, 3) := by decide +kernel
theorem dX9_redivide_11 : decode cX9_redivide 11 = .ok (.aload_n 0, 1) := by decide +kernel
theorem dX9_redivide_12 : decode cX9_redivide 12 = .ok (.getfield 10, 3) := by decide +kernel
theorem dX9_redivide_15 : decode cX9_redivide 15 = .ok (.getfield 78, 3) := by decide +kernel
theorem dX9_redivide_18 : decode cX9_redivide 18 = .ok (.aload_n 0, 1) := by decide +kernel
theorem dX9_redivide_19 : decode cX9_redivide 19 = .ok (.getfield 10, 3) := by decide +kernel
theorem dX9_redivide_22 : decode cX9_redivide 22 = .ok (.getfield 192, 3) := by decide +kernel
theorem dX9_redivide_25 : decode cX9_redivide 25 = .ok (.invokevirtual 260, 3) := by decide +kernel
theorem dX9_redivide_28 : decode cX9_redivide 28 = .ok (.return_, 1) := by decide +kernel
theorem dX9_isLeaf_0 : decode cX9_isLeaf 0 = .ok (.iload_n 1, 1) := by decide +kernel
theorem dX9_isLeaf_1 : decode cX9_isLeaf 1 = .ok (.ifCond .lt 21, 3) := by decide +kernel
theorem dX9_isLeaf_4 : decode cX9_isLeaf 4 = .ok (.iload_n 1, 1) := by decide +kernel
theorem dX9_isLeaf_5 : decode cX9_isLeaf 5 = .ok (.aload_n 0, 1) := by decide +kernel
theorem dX9_isLeaf_6 : decode cX9_isLeaf 6 = .ok (.getfield 10, 3) := by decide +kernel
theorem dX9_isLeaf_9 : decode cX9_isLeaf 9 = .ok (.getfield 47, 3) := by decide +kernel
theorem dX9_isLeaf_12 : decode cX9_isLeaf 12 = .ok (.getfield 195, 3) := by decide +kernel
theorem dX9_isLeaf_15 : decode cX9_isLeaf 15 = .ok (.if_icmp .ge 7, 3) := by decide +kernel
theorem dX9_isLeaf_18 : decode cX9_isLeaf 18 = .ok (.iconst 1, 1) := by decide +kernel
theorem dX9_isLeaf_19 : decode cX9_isLeaf 19 = .ok (.goto 4, 3) := by decide +kernel
theorem dX9_isLeaf_22 : decode cX9_isLeaf 22 = .ok (.iconst 0, 1) := by decide +kernel
theorem dX9_isLeaf_23 : decode cX9_isLeaf 23 = .ok (.ireturn, 1) := by decide +kernel
theorem dX9_isSide_0 : decode cX9_isSide 0 = .ok (.iload_n 0, 1) := by decide +kernel
theorem dX9_isSide_1 : decode cX9_isSide 1 = .ok (.ifCond .lt 12, 3) := by decide +kernel
theorem dX9_isSide_4 : decode cX9_isSide 4 = .ok (.iload_n 0, 1) := by decide +kernel
theorem dX9_isSide_5 : decode cX9_isSide 5 = .ok (.iconst 4, 1) := by decide +kernel
theorem dX9_isSide_6 : decode cX9_isSide 6 = .ok (.if_icmp .ge 7, 3) := by decide +kernel
theorem dX9_isSide_9 : decode cX9_isSide 9 = .ok (.iconst 1, 1) := by decide +kernel
theorem dX9_isSide_10 : decode cX9_isSide 10 = .ok (.goto 4, 3) := by decide +kernel
theorem dX9_isSide_13 : decode cX9_isSide 13 = .ok (.iconst 0, 1) := by decide +kernel
theorem dX9_isSide_14 : decode cX9_isSide 14 = .ok (.ireturn, 1) := by decide +kernel
set_option maxRecDepth 20000 in
theorem ggX9_sumCurve_X9_sumValue : GoodIn wsX9_sumCurve wsX9_sumValue := goodIn_r _ [6, 7] (by decide +kernel) (by decide +kernel)
set_option maxRecDepth 20000 in
theorem gX9_sumCurve_X9_sumValue : GoodIn wsX9_sumCurve (va_wsS RX9 263 yX9_sumValue wsX9_sumValue) := goodIn_app (goodIn_of _ (by decide +kernel)) ggX9_sumCurve_X9_sumValue
set_option maxRecDepth 20000 in
theorem ggX9_sumCurve_X9_states : GoodIn wsX9_sumCurve wsX9_states := goodIn_r _ [11, 1, 12, 13, 14, 15, 16, 17, 18, 19, 70, 71, 72, 73, 74, 75, 76, 77, 78, 79, 80, 81, 82, 83, 84, 85] (by decide +kernel) (by decide +kernel)
set_option maxRecDepth 20000 in
theorem gX9_sumCurve_X9_states : GoodIn wsX9_sumCurve (wsV RX9 267 RX9 yX9_states wsX9_states) := goodIn_app (goodIn_of _ (by decide +kernel)) ggX9_sumCurve_X9_states
set_option maxRecDepth 20000 in
theorem ggX9_sumCurve_X9_visit : GoodIn wsX9_sumCurve wsX9_visit := goodIn_r _ [23, 1, 12, 13, 14, 15, 16, 17, 18, 19, 24, 25, 26, 27, 28, 70, 71, 72, 73, 74, 75, 76, 77, 78, 79, 80, 81, 82, 83, 84, 85] (by decide +kernel) (by decide +kernel)
set_option maxRecDepth 20000 in
theorem gX9_sumCurve_X9_visit : GoodIn wsX9_sumCurve (wsV RX9 270 RX9 yX9_visit wsX9_visit) := goodIn_app (goodIn_of _ (by decide +kernel)) ggX9_sumCurve_X9_visit
set_option maxRecDepth 20000 in
theorem ggX9_sumCurve_X9_breaks : GoodIn wsX9_sumCurve wsX9_breaks := goodIn_r _ [32, 33, 34, 35, 36, 37, 38, 39, 40, 41, 42, 43, 44, 45, 46, 47, 48, 49, 50, 51, 52, 70, 71, 72, 73, 74, 75, 76, 86, 87, 88, 89] (by decide +kernel) (by decide +kernel)
set_option maxRecDepth 20000 in
theorem gX9_sumCurve_X9_breaks : GoodIn wsX9_sumCurve (wsV RX9 273 RX9 yX9_breaks wsX9_breaks) := goodIn_app (goodIn_of _ (by decide +kernel)) ggX9_sumCurve_X9_breaks
set_option maxRecDepth 20000 in
theorem ggX9_sumCurve_X9_stretch : GoodIn wsX9_sumCurve wsX9_stretch := goodIn_r _ [56, 33, 57, 58, 59, 37, 60, 61, 40, 41, 42, 43, 62, 63, 64, 65, 66, 67, 68, 69, 70, 71, 72, 73, 74, 75, 76, 86, 87, 88, 89] (by decide +kernel) (by decide +kernel)
set_option maxRecDepth 20000 in
theorem gX9_sumCurve_X9_stretch : GoodIn wsX9_sumCurve (wsV RX9 276 RX9 yX9_stretch wsX9_stretch) := goodIn_app (goodIn_of _ (by decide +kernel)) ggX9_sumCurve_X9_stretch
theorem dX9_sumCurve_0 : decode cX9_sumCurve 0 = .ok (.lload_n 1, 1) := by decide +kernel
theorem dX9_sumCurve_1 : decode cX9_sumCurve 1 = .ok (.aload_n 0, 1) := by decide +kernel
theorem dX9_sumCurve_2 : decode cX9_sumCurve 2 = .ok (.getfield 10, 3) := by decide +kernel
theorem dX9_sumCurve_5 : decode cX9_sumCurve 5 = .ok (.getfield 62, 3) := by decide +kernel
theorem dX9_sumCurve_8 : decode cX9_sumCurve 8 = .ok (.invokestatic 263, 3) := by decide +kernel
theorem dX9_sumCurve_11 : decode cX9_sumCurve 11 = .ok (.aload_n 0, 1) := by decide +kernel
theorem dX9_sumCurve_12 : decode cX9_sumCurve 12 = .ok (.invokevirtual 267, 3) := by decide +kernel
theorem dX9_sumCurve_15 : decode cX9_sumCurve 15 = .ok (.invokestatic 263, 3) := by decide +kernel
theorem dX9_sumCurve_18 : decode cX9_sumCurve 18 = .ok (.lstore_n 3, 1) := by decide +kernel
theorem dX9_sumCurve_19 : decode cX9_sumCurve 19 = .ok (.iconst 0, 1) := by decide +kernel
theorem dX9_sumCurve_20 : decode cX9_sumCurve 20 = .ok (.istore 5, 2) := by decide +kernel
theorem dX9_sumCurve_22 : decode cX9_sumCurve 22 = .ok (.iload 5, 2) := by decide +kernel
theorem dX9_sumCurve_24 : decode cX9_sumCurve 24 = .ok (.aload_n 0, 1) := by decide +kernel
theorem dX9_sumCurve_25 : decode cX9_sumCurve 25 = .ok (.invokevirtual 267, 3) := by decide +kernel
theorem dX9_sumCurve_28 : decode cX9_sumCurve 28 = .ok (.if_icmp .ge 37, 3) := by decide +kernel
theorem dX9_sumCurve_31 : decode cX9_sumCurve 31 = .ok (.iconst 0, 1) := by decide +kernel
theorem dX9_sumCurve_32 : decode cX9_sumCurve 32 = .ok (.istore 6, 2) := by decide +kernel
theorem dX9_sumCurve_34 : decode cX9_sumCurve 34 = .ok (.iload 6, 2) := by decide +kernel
theorem dX9_sumCurve_36 : decode cX9_sumCurve 36 = .ok (.iconst 4, 1) := by decide +kernel
theorem dX9_sumCurve_37 : decode cX9_sumCurve 37 = .ok (.if_icmp .ge 22, 3) := by decide +kernel
theorem dX9_sumCurve_40 : decode cX9_sumCurve 40 = .ok (.lload_n 3, 1) := by decide +kernel
theorem dX9_sumCurve_41 : decode cX9_sumCurve 41 = .ok (.aload_n 0, 1) := by decide +kernel
theorem dX9_sumCurve_42 : decode cX9_sumCurve 42 = .ok (.iload 5, 2) := by decide +kernel
theorem dX9_sumCurve_44 : decode cX9_sumCurve 44 = .ok (.iload 6, 2) := by decide +kernel
theorem dX9_sumCurve_46 : decode cX9_sumCurve 46 = .ok (.invokevirtual 270, 3) := by decide +kernel
theorem dX9_sumCurve_49 : decode cX9_sumCurve 49 = .ok (.invokestatic 263, 3) := by decide +kernel
theorem dX9_sumCurve_52 : decode cX9_sumCurve 52 = .ok (.lstore_n 3, 1) := by decide +kernel
theorem dX9_sumCurve_53 : decode cX9_sumCurve 53 = .ok (.iinc 6 1, 3) := by decide +kernel
theorem dX9_sumCurve_56 : decode cX9_sumCurve 56 = .ok (.goto (-22), 3) := by decide +kernel
theorem dX9_sumCurve_59 : decode cX9_sumCurve 59 = .ok (.iinc 5 1, 3) := by decide +kernel
theorem dX9_sumCurve_62 : decode cX9_sumCurve 62 = .ok (.goto (-40), 3) := by decide +kernel
theorem dX9_sumCurve_65 : decode cX9_sumCurve 65 = .ok (.lload_n 3, 1) := by decide +kernel
theorem dX9_sumCurve_66 : decode cX9_sumCurve 66 = .ok (.aload_n 0, 1) := by decide +kernel
theorem dX9_sumCurve_67 : decode cX9_sumCurve 67 = .ok (.invokevirtual 273, 3) := by decide +kernel
theorem dX9_sumCurve_70 : decode cX9_sumCurve 70 = .ok (.invokestatic 263, 3) := by decide +kernel
theorem dX9_sumCurve_73 : decode cX9_sumCurve 73 = .ok (.aload_n 0, 1) := by decide +kernel
theorem dX9_sumCurve_74 : decode cX9_sumCurve 74 = .ok (.invokevirtual 276, 3) := by decide +kernel
theorem dX9_sumCurve_77 : decode cX9_sumCurve 77 = .ok (.invokestatic 263, 3) := by decide +kernel
theorem dX9_sumCurve_80 : decode cX9_sumCurve 80 = .ok (.lreturn, 1) := by decide +kernel
set_option maxRecDepth 20000 in
theorem ggX9_sumIntervals_X9_intervals : GoodIn wsX9_sumIntervals wsX9_intervals := goodIn_r _ [5, 6, 7, 18, 19, 20, 21, 22, 23, 24, 25, 26, 27] (by decide +kernel) (by decide +kernel)
set_option maxRecDepth 20000 in
theorem gX9_sumIntervals_X9_intervals : GoodIn wsX9_sumIntervals (wsV RX9 279 RX9 yX9_intervals wsX9_intervals) := goodIn_app (goodIn_of _ (by decide +kernel)) ggX9_sumIntervals_X9_intervals
set_option maxRecDepth 20000 in
theorem ggX9_sumIntervals_X9_sumValue : GoodIn wsX9_sumIntervals wsX9_sumValue := goodIn_r _ [10, 11] (by decide +kernel) (by decide +kernel)
set_option maxRecDepth 20000 in
theorem gX9_sumIntervals_X9_sumValue : GoodIn wsX9_sumIntervals (va_wsS RX9 263 yX9_sumValue wsX9_sumValue) := goodIn_app (goodIn_of _ (by decide +kernel)) ggX9_sumIntervals_X9_sumValue
set_option maxRecDepth 20000 in
theorem ggX9_sumIntervals_X9_interval : GoodIn wsX9_sumIntervals wsX9_interval := goodIn_r _ [15, 6, 7, 16, 17, 18, 19, 20, 21, 22, 23, 24, 25, 26, 27] (by decide +kernel) (by decide +kernel)
set_option maxRecDepth 20000 in
theorem gX9_sumIntervals_X9_interval : GoodIn wsX9_sumIntervals (wsV RX9 282 RX9 yX9_interval wsX9_interval) := goodIn_app (goodIn_of _ (by decide +kernel)) ggX9_sumIntervals_X9_interval
theorem dX9_sumIntervals_0 : decode cX9_sumIntervals 0 = .ok (.lload_n 1, 1) := by decide +kernel
theorem dX9_sumIntervals_1 : decode cX9_sumIntervals 1 = .ok (.aload_n 0, 1) := by decide +kernel
theorem dX9_sumIntervals_2 : decode cX9_sumIntervals 2 = .ok (.invokevirtual 279, 3) := by decide +kernel
theorem dX9_sumIntervals_5 : decode cX9_sumIntervals 5 = .ok (.invokestatic 263, 3) := by decide +kernel
theorem dX9_sumIntervals_8 : decode cX9_sumIntervals 8 = .ok (.lstore_n 3, 1) := by decide +kernel
theorem dX9_sumIntervals_9 : decode cX9_sumIntervals 9 = .ok (.iconst 0, 1) := by decide +kernel
theorem dX9_sumIntervals_10 : decode cX9_sumIntervals 10 = .ok (.istore 5, 2) := by decide +kernel
theorem dX9_sumIntervals_12 : decode cX9_sumIntervals 12 = .ok (.iload 5, 2) := by decide +kernel
theorem dX9_sumIntervals_14 : decode cX9_sumIntervals 14 = .ok (.aload_n 0, 1) := by decide +kernel
theorem dX9_sumIntervals_15 : decode cX9_sumIntervals 15 = .ok (.invokevirtual 279, 3) := by decide +kernel
theorem dX9_sumIntervals_18 : decode cX9_sumIntervals 18 = .ok (.if_icmp .ge 31, 3) := by decide +kernel
theorem dX9_sumIntervals_21 : decode cX9_sumIntervals 21 = .ok (.lload_n 3, 1) := by decide +kernel
theorem dX9_sumIntervals_22 : decode cX9_sumIntervals 22 = .ok (.aload_n 0, 1) := by decide +kernel
theorem dX9_sumIntervals_23 : decode cX9_sumIntervals 23 = .ok (.iload 5, 2) := by decide +kernel
theorem dX9_sumIntervals_25 : decode cX9_sumIntervals 25 = .ok (.iconst 0, 1) := by decide +kernel
theorem dX9_sumIntervals_26 : decode cX9_sumIntervals 26 = .ok (.invokevirtual 282, 3) := by decide +kernel
theorem dX9_sumIntervals_29 : decode cX9_sumIntervals 29 = .ok (.invokestatic 263, 3) := by decide +kernel
theorem dX9_sumIntervals_32 : decode cX9_sumIntervals 32 = .ok (.aload_n 0, 1) := by decide +kernel
theorem dX9_sumIntervals_33 : decode cX9_sumIntervals 33 = .ok (.iload 5, 2) := by decide +kernel
theorem dX9_sumIntervals_35 : decode cX9_sumIntervals 35 = .ok (.iconst 1, 1) := by decide +kernel
theorem dX9_sumIntervals_36 : decode cX9_sumIntervals 36 = .ok (.invokevirtual 282, 3) := by decide +kernel
theorem dX9_sumIntervals_39 : decode cX9_sumIntervals 39 = .ok (.invokestatic 263, 3) := by decide +kernel
theorem dX9_sumIntervals_42 : decode cX9_sumIntervals 42 = .ok (.lstore_n 3, 1) := by decide +kernel
theorem dX9_sumIntervals_43 : decode cX9_sumIntervals 43 = .ok (.iinc 5 1, 3) := by decide +kernel
theorem dX9_sumIntervals_46 : decode cX9_sumIntervals 46 = .ok (.goto (-34), 3) := by decide +kernel
theorem dX9_sumIntervals_49 : decode cX9_sumIntervals 49 = .ok (.lload_n 3, 1) := by decide +kernel
theorem dX9_sumIntervals_50 : decode cX9_sumIntervals 50 = .ok (.lreturn, 1) := by decide +kernel
set_option maxRecDepth 20000 in
theorem ggX9_sumLeaves_X9_points : GoodIn wsX9_sumLeaves wsX9_points := goodIn_r _ [7, 1, 8, 9, 80, 81, 82, 83, 84, 85, 86, 87, 88, 89, 90, 91, 92, 93, 94, 95] (by decide +kernel) (by decide +kernel)
set_option maxRecDepth 20000 in
theorem gX9_sumLeaves_X9_points : GoodIn wsX9_sumLeaves (wsV RX9 286 RX9 yX9_points wsX9_points) := goodIn_app (goodIn_of _ (by decide +kernel)) ggX9_sumLeaves_X9_points
set_option maxRecDepth 20000 in
theorem ggX9_sumLeaves_X9_sumValue : GoodIn wsX9_sumLeaves wsX9_sumValue := goodIn_r _ [12, 13] (by decide +kernel) (by decide +kernel)
set_option maxRecDepth 20000 in
theorem gX9_sumLeaves_X9_sumValue : GoodIn wsX9_sumLeaves (va_wsS RX9 263 yX9_sumValue wsX9_sumValue) := goodIn_app (goodIn_of _ (by decide +kernel)) ggX9_sumLeaves_X9_sumValue
set_option maxRecDepth 20000 in
theorem ggX9_sumLeaves_X9_leaves : GoodIn wsX9_sumLeaves wsX9_leaves := goodIn_r _ [17, 1, 18, 19, 80, 81, 82, 83, 84, 85, 86, 87, 88, 89, 90, 91, 92, 93, 96, 97] (by decide +kernel) (by decide +kernel)
set_option maxRecDepth 20000 in
theorem gX9_sumLeaves_X9_leaves : GoodIn wsX9_sumLeaves (wsV RX9 288 RX9 yX9_leaves wsX9_leaves) := goodIn_app (goodIn_of _ (by decide +kernel)) ggX9_sumLeaves_X9_leaves
set_option maxRecDepth 20000 in
theorem ggX9_sumLeaves_X9_leaf : GoodIn wsX9_sumLeaves wsX9_leaf := goodIn_r _ [23, 24, 1, 18, 25, 8, 26, 27, 28, 29, 6, 30, 19, 31, 32, 33, 34, 35, 36, 37, 38, 39, 40, 41, 42, 43, 44, 45, 46, 47, 48, 49, 50, 51, 52, 53, 54, 55, 56, 57, 58, 59, 60, 61, 62, 63, 64, 65, 66, 67, 68, 69, 70, 71, 72, 73, 74, 75, 76, 77, 78, 79, 80, 81, 82, 83, 84, 85, 86, 87, 88, 89, 90, 91, 92, 93, 96, 97, 98, 99, 100, 101, 102, 103, 104, 105, 94, 95] (by decide +kernel) (by decide +kernel)
set_option maxRecDepth 20000 in
theorem gX9_sumLeaves_X9_leaf : GoodIn wsX9_sumLeaves (wsV RX9 291 RX9 yX9_leaf wsX9_leaf) := goodIn_app (goodIn_of _ (by decide +kernel)) ggX9_sumLeaves_X9_leaf
theorem dX9_sumLeaves_0 : decode cX9_sumLeaves 0 = .ok (.lload_n 1, 1) := by decide +kernel
theorem dX9_sumLeaves_1 : decode cX9_sumLeaves 1 = .ok (.aload_n 0, 1) := by decide +kernel
theorem dX9_sumLeaves_2 : decode cX9_sumLeaves 2 = .ok (.invokevirtual 286, 3) := by decide +kernel
theorem dX9_sumLeaves_5 : decode cX9_sumLeaves 5 = .ok (.invokestatic 263, 3) := by decide +kernel
theorem dX9_sumLeaves_8 : decode cX9_sumLeaves 8 = .ok (.aload_n 0, 1) := by decide +kernel
theorem dX9_sumLeaves_9 : decode cX9_sumLeaves 9 = .ok (.getfield 10, 3) := by decide +kernel
theorem dX9_sumLeaves_12 : decode cX9_sumLeaves 12 = .ok (.getfield 192, 3) := by decide +kernel
theorem dX9_sumLeaves_15 : decode cX9_sumLeaves 15 = .ok (.invokestatic 263, 3) := by decide +kernel
theorem dX9_sumLeaves_18 : decode cX9_sumLeaves 18 = .ok (.aload_n 0, 1) := by decide +kernel
theorem dX9_sumLeaves_19 : decode cX9_sumLeaves 19 = .ok (.invokevirtual 288, 3) := by decide +kernel
theorem dX9_sumLeaves_22 : decode cX9_sumLeaves 22 = .ok (.invokestatic 263, 3) := by decide +kernel
theorem dX9_sumLeaves_25 : decode cX9_sumLeaves 25 = .ok (.lstore_n 3, 1) := by decide +kernel
theorem dX9_sumLeaves_26 : decode cX9_sumLeaves 26 = .ok (.iconst 0, 1) := by decide +kernel
theorem dX9_sumLeaves_27 : decode cX9_sumLeaves 27 = .ok (.istore 5, 2) := by decide +kernel
theorem dX9_sumLeaves_29 : decode cX9_sumLeaves 29 = .ok (.iload 5, 2) := by decide +kernel
theorem dX9_sumLeaves_31 : decode cX9_sumLeaves 31 = .ok (.aload_n 0, 1) := by decide +kernel
theorem dX9_sumLeaves_32 : decode cX9_sumLeaves 32 = .ok (.invokevirtual 288, 3) := by decide +kernel
theorem dX9_sumLeaves_35 : decode cX9_sumLeaves 35 = .ok (.if_icmp .ge 37, 3) := by decide +kernel
theorem dX9_sumLeaves_38 : decode cX9_sumLeaves 38 = .ok (.iconst 0, 1) := by decide +kernel
theorem dX9_sumLeaves_39 : decode cX9_sumLeaves 39 = .ok (.istore 6, 2) := by decide +kernel
theorem dX9_sumLeaves_41 : decode cX9_sumLeaves 41 = .ok (.iload 6, 2) := by decide +kernel
theorem dX9_sumLeaves_43 : decode cX9_sumLeaves 43 = .ok (.iconst 5, 1) := by decide +kernel
theorem dX9_sumLeaves_44 : decode cX9_sumLeaves 44 = .ok (.if_icmp .ge 22, 3) := by decide +kernel
theorem dX9_sumLeaves_47 : decode cX9_sumLeaves 47 = .ok (.lload_n 3, 1) := by decide +kernel
theorem dX9_sumLeaves_48 : decode cX9_sumLeaves 48 = .ok (.aload_n 0, 1) := by decide +kernel
theorem dX9_sumLeaves_49 : decode cX9_sumLeaves 49 = .ok (.iload 5, 2) := by decide +kernel
theorem dX9_sumLeaves_51 : decode cX9_sumLeaves 51 = .ok (.iload 6, 2) := by decide +kernel
theorem dX9_sumLeaves_53 : decode cX9_sumLeaves 53 = .ok (.invokevirtual 291, 3) := by decide +kernel
theorem dX9_sumLeaves_56 : decode cX9_sumLeaves 56 = .ok (.invokestatic 263, 3) := by decide +kernel
theorem dX9_sumLeaves_59 : decode cX9_sumLeaves 59 = .ok (.lstore_n 3, 1) := by decide +kernel
theorem dX9_sumLeaves_60 : decode cX9_sumLeaves 60 = .ok (.iinc 6 1, 3) := by decide +kernel
theorem dX9_sumLeaves_63 : decode cX9_sumLeaves 63 = .ok (.goto (-22), 3) := by decide +kernel
theorem dX9_sumLeaves_66 : decode cX9_sumLeaves 66 = .ok (.iinc 5 1, 3) := by decide +kernel
theorem dX9_sumLeaves_69 : decode cX9_sumLeaves 69 = .ok (.goto (-40), 3) := by decide +kernel
theorem dX9_sumLeaves_72 : decode cX9_sumLeaves 72 = .ok (.lload_n 3, 1) := by decide +kernel
theorem dX9_sumLeaves_73 : decode cX9_sumLeaves 73 = .ok (.lreturn, 1) := by decide +kernel
theorem dX9_sumValue_0 : decode cX9_sumValue 0 = .ok (.ldc2_w 294, 3) := by decide +kernel
theorem dX9_sumValue_3 : decode cX9_sumValue 3 = .ok (.lload_n 0, 1) := by decide +kernel
theorem dX9_sumValue_4 : decode cX9_sumValue 4 = .ok (.lmul, 1) := by decide +kernel
theorem dX9_sumValue_5 : decode cX9_sumValue 5 = .ok (.iload_n 2, 1) := by decide +kernel
theorem dX9_sumValue_6 : decode cX9_sumValue 6 = .ok (.i2l, 1) := by decide +kernel
theorem dX9_sumValue_7 : decode cX9_sumValue 7 = .ok (.ladd, 1) := by decide +kernel
theorem dX9_sumValue_8 : decode cX9_sumValue 8 = .ok (.lreturn, 1) := by decide +kernel
set_option maxRecDepth 20000 in
theorem ggX10_init_X10_hilbert : GoodIn wsX10_init wsX10_hilbert := goodIn_r _ [31, 7, 63, 64, 65, 66, 67, 68, 69, 70, 71, 72, 73, 74, 75, 76, 77, 78, 79, 80, 81, 82, 83, 84, 85, 86, 87, 88, 89, 90, 91] (by decide +kernel) (by decide +kernel)
set_option maxRecDepth 20000 in
theorem gX10_init_X10_hilbert : GoodIn wsX10_init (wsV RX10 75 RX10 yX10_hilbert wsX10_hilbert) := goodIn_app (goodIn_of _ (by decide +kernel)) ggX10_init_X10_hilbert
set_option maxRecDepth 20000 in
theorem ggX10_init_X10_numbers : GoodIn wsX10_init wsX10_numbers := goodIn_r _ [35, 4, 22, 21, 36, 37, 38, 30, 39, 40, 41, 42, 43, 7, 44, 45, 46, 47, 48, 49, 50, 51, 52, 53, 11, 12, 13, 54, 55, 56, 57, 58, 10, 59, 60, 61, 62, 25, 63, 64, 65, 66, 67, 68, 69, 70, 71, 72, 73, 74, 75, 76, 77, 78, 79, 80, 81, 82, 83, 84, 85, 86, 87, 88, 89, 90, 91] (by decide +kernel) (by decide +kernel)
set_option maxRecDepth 20000 in
theorem gX10_init_X10_numbers : GoodIn wsX10_init (wsV RX10 79 RX10 yX10_numbers wsX10_numbers) := goodIn_app (goodIn_of _ (by decide +kernel)) ggX10_init_X10_numbers
theorem dX10_init_0 : decode cX10_init 0 = .ok (.aload_n 0, 1) := by decide +kernel
theorem dX10_init_1 : decode cX10_init 1 = .ok (.invokespecial 1, 3) := by decide +kernel
theorem dX10_init_4 : decode cX10_init 4 = .ok (.aload_n 0, 1) := by decide +kernel
theorem dX10_init_5 : decode cX10_init 5 = .ok (.iconst 3, 1) := by decide +kernel
theorem dX10_init_6 : decode cX10_init 6 = .ok (.putfield 7, 3) := by decide +kernel
theorem dX10_init_9 : decode cX10_init 9 = .ok (.aload_n 0, 1) := by decide +kernel
theorem dX10_init_10 : decode cX10_init 10 = .ok (.iconst 3, 1) := by decide +kernel
theorem dX10_init_11 : decode cX10_init 11 = .ok (.newarray .int, 2) := by decide +kernel
theorem dX10_init_13 : decode cX10_init 13 = .ok (.putfield 13, 3) := by decide +kernel
theorem dX10_init_16 : decode cX10_init 16 = .ok (.aload_n 0, 1) := by decide +kernel
theorem dX10_init_17 : decode cX10_init 17 = .ok (.sipush 192, 3) := by decide +kernel
theorem dX10_init_20 : decode cX10_init 20 = .ok (.newarray .int, 2) := by decide +kernel
theorem dX10_init_22 : decode cX10_init 22 = .ok (.putfield 17, 3) := by decide +kernel
theorem dX10_init_25 : decode cX10_init 25 = .ok (.aload_n 0, 1) := by decide +kernel
theorem dX10_init_26 : decode cX10_init 26 = .ok (.bipush 7, 2) := by decide +kernel
theorem dX10_init_28 : decode cX10_init 28 = .ok (.putfield 20, 3) := by decide +kernel
theorem dX10_init_31 : decode cX10_init 31 = .ok (.aload_n 0, 1) := by decide +kernel
theorem dX10_init_32 : decode cX10_init 32 = .ok (.bipush 7, 2) := by decide +kernel
theorem dX10_init_34 : decode cX10_init 34 = .ok (.putfield 23, 3) := by decide +kernel
theorem dX10_init_37 : decode cX10_init 37 = .ok (.aload_n 0, 1) := by decide +kernel
theorem dX10_init_38 : decode cX10_init 38 = .ok (.bipush 40, 2) := by decide +kernel
theorem dX10_init_40 : decode cX10_init 40 = .ok (.newarray .int, 2) := by decide +kernel
theorem dX10_init_42 : decode cX10_init 42 = .ok (.putfield 26, 3) := by decide +kernel
theorem dX10_init_45 : decode cX10_init 45 = .ok (.aload_n 0, 1) := by decide +kernel
theorem dX10_init_46 : decode cX10_init 46 = .ok (.iconst 2, 1) := by decide +kernel
theorem dX10_init_47 : decode cX10_init 47 = .ok (.putfield 29, 3) := by decide +kernel
theorem dX10_init_50 : decode cX10_init 50 = .ok (.aload_n 0, 1) := by decide +kernel
theorem dX10_init_51 : decode cX10_init 51 = .ok (.sipush 4096, 3) := by decide +kernel
theorem dX10_init_54 : decode cX10_init 54 = .ok (.newarray .int, 2) := by decide +kernel
theorem dX10_init_56 : decode cX10_init 56 = .ok (.putfield 32, 3) := by decide +kernel
theorem dX10_init_59 : decode cX10_init 59 = .ok (.aload_n 0, 1) := by decide +kernel
theorem dX10_init_60 : decode cX10_init 60 = .ok (.sipush 4096, 3) := by decide +kernel
theorem dX10_init_63 : decode cX10_init 63 = .ok (.newarray .int, 2) := by decide +kernel
theorem dX10_init_65 : decode cX10_init 65 = .ok (.putfield 35, 3) := by decide +kernel
theorem dX10_init_68 : decode cX10_init 68 = .ok (.aload_n 0, 1) := by decide +kernel
theorem dX10_init_69 : decode cX10_init 69 = .ok (.bipush 80, 2) := by decide +kernel
theorem dX10_init_71 : decode cX10_init 71 = .ok (.newarray .int, 2) := by decide +kernel
theorem dX10_init_73 : decode cX10_init 73 = .ok (.putfield 38, 3) := by decide +kernel
theorem dX10_init_76 : decode cX10_init 76 = .ok (.aload_n 0, 1) := by decide +kernel
theorem dX10_init_77 : decode cX10_init 77 = .ok (.sipush 200, 3) := by decide +kernel
theorem dX10_init_80 : decode cX10_init 80 = .ok (.newarray .int, 2) := by decide +kernel
theorem dX10_init_82 : decode cX10_init 82 = .ok (.putfield 41, 3) := by decide +kernel
theorem dX10_init_85 : decode cX10_init 85 = .ok (.aload_n 0, 1) := by decide +kernel
theorem dX10_init_86 : decode cX10_init 86 = .ok (.sipush 128, 3) := by decide +kernel
theorem dX10_init_89 : decode cX10_init 89 = .ok (.newarray .int, 2) := by decide +kernel
theorem dX10_init_91 : decode cX10_init 91 = .ok (.putfield 44, 3) := by decide +kernel
theorem dX10_init_94 : decode cX10_init 94 = .ok (.aload_n 0, 1) := by decide +kernel
theorem dX10_init_95 : decode cX10_init 95 = .ok (.sipush 8192, 3) := by decide +kernel
theorem dX10_init_98 : decode cX10_init 98 = .ok (.newarray .int, 2) := by decide +kernel
theorem dX10_init_100 : decode cX10_init 100 = .ok (.putfield 47, 3) := by decide +kernel
theorem dX10_init_103 : decode cX10_init 103 = .ok (.aload_n 0, 1) := by decide +kernel
theorem dX10_init_104 : decode cX10_init 104 = .ok (.sipush 8192, 3) := by decide +kernel
theorem dX10_init_107 : decode cX10_init 107 = .ok (.newarray .int, 2) := by decide +kernel
theorem dX10_init_109 : decode cX10_init 109 = .ok (.putfield 50, 3) := by decide +kernel
theorem dX10_init_112 : decode cX10_init 112 = .ok (.aload_n 0, 1) := by decide +kernel
theorem dX10_init_113 : decode cX10_init 113 = .ok (.iconst 2, 1) := by decide +kernel
theorem dX10_init_114 : decode cX10_init 114 = .ok (.newarray .boolean, 2) := by decide +kernel
theorem dX10_init_116 : decode cX10_init 116 = .ok (.putfield 53, 3) := by decide +kernel
theorem dX10_init_119 : decode cX10_init 119 = .ok (.aload_n 0, 1) := by decide +kernel
theorem dX10_init_120 : decode cX10_init 120 = .ok (.sipush 4096, 3) := by decide +kernel
theorem dX10_init_123 : decode cX10_init 123 = .ok (.newarray .int, 2) := by decide +kernel
theorem dX10_init_125 : decode cX10_init 125 = .ok (.putfield 57, 3) := by decide +kernel
theorem dX10_init_128 : decode cX10_init 128 = .ok (.aload_n 0, 1) := by decide +kernel
theorem dX10_init_129 : decode cX10_init 129 = .ok (.sipush 4096, 3) := by decide +kernel
theorem dX10_init_132 : decode cX10_init 132 = .ok (.newarray .int, 2) := by decide +kernel
theorem dX10_init_134 : decode cX10_init 134 = .ok (.putfield 60, 3) := by decide +kernel
theorem dX10_init_137 : decode cX10_init 137 = .ok (.aload_n 0, 1) := by decide +kernel
theorem dX10_init_138 : decode cX10_init 138 = .ok (.sipush 4096, 3) := by decide +kernel
theorem dX10_init_141 : decode cX10_init 141 = .ok (.newarray .int, 2) := by decide +kernel
theorem dX10_init_143 : decode cX10_init 143 = .ok (.putfield 63, 3) := by decide +kernel
theorem dX10_init_146 : decode cX10_init 146 = .ok (.aload_n 0, 1) := by decide +kernel
theorem dX10_init_147 : decode cX10_init 147 = .ok (.sipush 4096, 3) := by decide +kernel
theorem dX10_init_150 : decode cX10_init 150 = .ok (.newarray .int, 2) := by decide +kernel
theorem dX10_init_152 : decode cX10_init 152 = .ok (.putfield 66, 3) := by decide +kernel
theorem dX10_init_155 : decode cX10_init 155 = .ok (.aload_n 0, 1) := by decide +kernel
theorem dX10_init_156 : decode cX10_init 156 = .ok (.sipush 4096, 3) := by decide +kernel
theorem dX10_init_159 : decode cX10_init 159 = .ok (.newarray .int, 2) := by decide +kernel
theorem dX10_init_161 : decode cX10_init 161 = .ok (.putfield 69, 3) := by decide +kernel
theorem dX10_init_164 : decode cX10_init 164 = .ok (.aload_n 0, 1) := by decide +kernel
theorem dX10_init_165 : decode cX10_init 165 = .ok (.bipush 64, 2) := by decide +kernel
theorem dX10_init_167 : decode cX10_init 167 = .ok (.newarray .int, 2) := by decide +kernel
theorem dX10_init_169 : decode cX10_init 169 = .ok (.putfield 72, 3) := by decide +kernel
theorem dX10_init_172 : decode cX10_init 172 = .ok (.aload_n 0, 1) := by decide +kernel
theorem dX10_init_173 : decode cX10_init 173 = .ok (.getfield 13, 3) := by decide +kernel
theorem dX10_init_176 : decode cX10_init 176 = .ok (.iconst 0, 1) := by decide +kernel
theorem dX10_init_177 : decode cX10_init 177 = .ok (.iconst 1, 1) := by decide +kernel
theorem dX10_init_178 : decode cX10_init 178 = .ok (.iastore, 1) := by decide +kernel
theorem dX10_init_179 : decode cX10_init 179 = .ok (.aload_n 0, 1) := by decide +kernel
theorem dX10_init_180 : decode cX10_init 180 = .ok (.getfield 13, 3) := by decide +kernel
theorem dX10_init_183 : decode cX10_init 183 = .ok (.iconst 1, 1) := by decide +kernel
theorem dX10_init_184 : decode cX10_init 184 = .ok (.iconst 4, 1) := by decide +kernel
theorem dX10_init_185 : decode cX10_init 185 = .ok (.iastore, 1) := by decide +kernel
theorem dX10_init_186 : decode cX10_init 186 = .ok (.aload_n 0, 1) := by decide +kernel
theorem dX10_init_187 : decode cX10_init 187 = .ok (.getfield 13, 3) := by decide +kernel
theorem dX10_init_190 : decode cX10_init 190 = .ok (.iconst 2, 1) := by decide +kernel
theorem dX10_init_191 : decode cX10_init 191 = .ok (.iconst 1, 1) := by decide +kernel
theorem dX10_init_192 : decode cX10_init 192 = .ok (.iastore, 1) := by decide +kernel
theorem dX10_init_193 : decode cX10_init 193 = .ok (.iconst 0, 1) := by decide +kernel
theorem dX10_init_194 : decode cX10_init 194 = .ok (.istore_n 1, 1) := by decide +kernel
theorem dX10_init_195 : decode cX10_init 195 = .ok (.iload_n 1, 1) := by decide +kernel
theorem dX10_init_196 : decode cX10_init 196 = .ok (.iconst 4, 1) := by decide +kernel
theorem dX10_init_197 : decode cX10_init 197 = .ok (.if_icmp .ge 27, 3) := by decide +kernel
theorem dX10_init_200 : decode cX10_init 200 = .ok (.aload_n 0, 1) := by decide +kernel
theorem dX10_init_201 : decode cX10_init 201 = .ok (.getfield 17, 3) := by decide +kernel
theorem dX10_init_204 : decode cX10_init 204 = .ok (.iload_n 1, 1) := by decide +kernel
theorem dX10_init_205 : decode cX10_init 205 = .ok (.iload_n 1, 1) := by decide +kernel
theorem dX10_init_206 : decode cX10_init 206 = .ok (.iastore, 1) := by decide +kernel
theorem dX10_init_207 : decode cX10_init 207 = .ok (.aload_n 0, 1) := by decide +kernel
theorem dX10_init_208 : decode cX10_init 208 = .ok (.getfield 17, 3) := by decide +kernel
theorem dX10_init_211 : decode cX10_init 211 = .ok (.sipush 128, 3) := by decide +kernel
theorem dX10_init_214 : decode cX10_init 214 = .ok (.iload_n 1, 1) := by decide +kernel
theorem dX10_init_215 : decode cX10_init 215 = .ok (.iadd, 1) := by decide +kernel
theorem dX10_init_216 : decode cX10_init 216 = .ok (.iload_n 1, 1) := by decide +kernel
theorem dX10_init_217 : decode cX10_init 217 = .ok (.iastore, 1) := by decide +kernel
theorem dX10_init_218 : decode cX10_init 218 = .ok (.iinc 1 1, 3) := by decide +kernel
theorem dX10_init_221 : decode cX10_init 221 = .ok (.goto (-26), 3) := by decide +kernel
theorem dX10_init_224 : decode cX10_init 224 = .ok (.aload_n 0, 1) := by decide +kernel
theorem dX10_init_225 : decode cX10_init 225 = .ok (.iconst 0, 1) := by decide +kernel
theorem dX10_init_226 : decode cX10_init 226 = .ok (.sipush 231, 3) := by decide +kernel
theorem dX10_init_229 : decode cX10_init 229 = .ok (.sipush 1002, 3) := by decide +kernel
theorem dX10_init_232 : decode cX10_init 232 = .ok (.invokevirtual 75, 3) := by decide +kernel
theorem dX10_init_235 : decode cX10_init 235 = .ok (.aload_n 0, 1) := by decide +kernel
theorem dX10_init_236 : decode cX10_init 236 = .ok (.iconst 1, 1) := by decide +kernel
theorem dX10_init_237 : decode cX10_init 237 = .ok (.sipush 132, 3) := by decide +kernel
theorem dX10_init_240 : decode cX10_init 240 = .ok (.bipush 113, 2) := by decide +kernel
theorem dX10_init_242 : decode cX10_init 242 = .ok (.invokevirtual 75, 3) := by decide +kernel
theorem dX10_init_245 : decode cX10_init 245 = .ok (.aload_n 0, 1) := by decide +kernel
theorem dX10_init_246 : decode cX10_init 246 = .ok (.iconst 2, 1) := by decide +kernel
theorem dX10_init_247 : decode cX10_init 247 = .ok (.sipush 3201, 3) := by decide +kernel
theorem dX10_init_250 : decode cX10_init 250 = .ok (.sipush 3220, 3) := by decide +kernel
theorem dX10_init_253 : decode cX10_init 253 = .ok (.invokevirtual 75, 3) := by decide +kernel
theorem dX10_init_256 : decode cX10_init 256 = .ok (.aload_n 0, 1) := by decide +kernel
theorem dX10_init_257 : decode cX10_init 257 = .ok (.iconst 3, 1) := by decide +kernel
theorem dX10_init_258 : decode cX10_init 258 = .ok (.sipush 3102, 3) := by decide +kernel
theorem dX10_init_261 : decode cX10_init 261 = .ok (.sipush 2331, 3) := by decide +kernel
theorem dX10_init_264 : decode cX10_init 264 = .ok (.invokevirtual 75, 3) := by decide +kernel
theorem dX10_init_267 : decode cX10_init 267 = .ok (.aload_n 0, 1) := by decide +kernel
theorem dX10_init_268 : decode cX10_init 268 = .ok (.invokevirtual 79, 3) := by decide +kernel
theorem dX10_init_271 : decode cX10_init 271 = .ok (.return_, 1) := by decide +kernel
theorem dX10_hilbert_0 : decode cX10_hilbert 0 = .ok (.iload_n 2, 1) := by decide +kernel
theorem dX10_hilbert_1 : decode cX10_hilbert 1 = .ok (.istore 4, 2) := by decide +kernel
theorem dX10_hilbert_3 : decode cX10_hilbert 3 = .ok (.iload_n 3, 1) := by decide +kernel
theorem dX10_hilbert_4 : decode cX10_hilbert 4 = .ok (.istore 5, 2) := by decide +kernel
theorem dX10_hilbert_6 : decode cX10_hilbert 6 = .ok (.iconst 3, 1) := by decide +kernel
theorem dX10_hilbert_7 : decode cX10_hilbert 7 = .ok (.istore 6, 2) := by decide +kernel
theorem dX10_hilbert_9 : decode cX10_hilbert 9 = .ok (.iload 6, 2) := by decide +kernel
theorem dX10_hilbert_11 : decode cX10_hilbert 11 = .ok (.ifCond .lt 65, 3) := by decide +kernel
theorem dX10_hilbert_14 : decode cX10_hilbert 14 = .ok (.aload_n 0, 1) := by decide +kernel
theorem dX10_hilbert_15 : decode cX10_hilbert 15 = .ok (.getfield 17, 3) := by decide +kernel
theorem dX10_hilbert_18 : decode cX10_hilbert 18 = .ok (.bipush 64, 2) := by decide +kernel
theorem dX10_hilbert_20 : decode cX10_hilbert 20 = .ok (.bipush 8, 2) := by decide +kernel
theorem dX10_hilbert_22 : decode cX10_hilbert 22 = .ok (.iload_n 1, 1) := by decide +kernel
theorem dX10_hilbert_23 : decode cX10_hilbert 23 = .ok (.imul, 1) := by decide +kernel
theorem dX10_hilbert_24 : decode cX10_hilbert 24 = .ok (.iadd, 1) := by decide +kernel
theorem dX10_hilbert_25 : decode cX10_hilbert 25 = .ok (.iload 6, 2) := by decide +kernel
theorem dX10_hilbert_27 : decode cX10_hilbert 27 = .ok (.iadd, 1) := by decide +kernel
theorem dX10_hilbert_28 : decode cX10_hilbert 28 = .ok (.iload 4, 2) := by decide +kernel
theorem dX10_hilbert_30 : decode cX10_hilbert 30 = .ok (.bipush 10, 2) := by decide +kernel
theorem dX10_hilbert_32 : decode cX10_hilbert 32 = .ok (.irem, 1) := by decide +kernel
theorem dX10_hilbert_33 : decode cX10_hilbert 33 = .ok (.iastore, 1) := by decide +kernel
theorem dX10_hilbert_34 : decode cX10_hilbert 34 = .ok (.aload_n 0, 1) := by decide +kernel
theorem dX10_hilbert_35 : decode cX10_hilbert 35 = .ok (.getfield 17, 3) := by decide +kernel
theorem dX10_hilbert_38 : decode cX10_hilbert 38 = .ok (.bipush 64, 2) := by decide +kernel
theorem dX10_hilbert_40 : decode cX10_hilbert 40 = .ok (.bipush 8, 2) := by decide +kernel
theorem dX10_hilbert_42 : decode cX10_hilbert 42 = .ok (.iload_n 1, 1) := by decide +kernel
theorem dX10_hilbert_43 : decode cX10_hilbert 43 = .ok (.imul, 1) := by decide +kernel
theorem dX10_hilbert_44 : decode cX10_hilbert 44 = .ok (.iadd, 1) := by decide +kernel
theorem dX10_hilbert_45 : decode cX10_hilbert 45 = .ok (.iconst 4, 1) := by decide +kernel
theorem dX10_hilbert_46 : decode cX10_hilbert 46 = .ok (.iadd, 1) := by decide +kernel
theorem dX10_hilbert_47 : decode cX10_hilbert 47 = .ok (.iload 6, 2) := by decide +kernel
theorem dX10_hilbert_49 : decode cX10_hilbert 49 = .ok (.iadd, 1) := by decide +kernel
theorem dX10_hilbert_50 : decode cX10_hilbert 50 = .ok (.iload 5, 2) := by decide +kernel
theorem dX10_hilbert_52 : decode cX10_hilbert 52 = .ok (.bipush 10, 2) := by decide +kernel
theorem dX10_hilbert_54 : decode cX10_hilbert 54 = .ok (.irem, 1) := by decide +kernel
theorem dX10_hilbert_55 : decode cX10_hilbert 55 = .ok (.iastore, 1) := by decide +kernel
theorem dX10_hilbert_56 : decode cX10_hilbert 56 = .ok (.iload 4, 2) := by decide +kernel
theorem dX10_hilbert_58 : decode cX10_hilbert 58 = .ok (.bipush 10, 2) := by decide +kernel
theorem dX10_hilbert_60 : decode cX10_hilbert 60 = .ok (.idiv, 1) := by decide +kernel
theorem dX10_hilbert_61 : decode cX10_hilbert 61 = .ok (.istore 4, 2) := by decide +kernel
theorem dX10_hilbert_63 : decode cX10_hilbert 63 = .ok (.iload 5, 2) := by decide +kernel
theorem dX10_hilbert_65 : decode cX10_hilbert 65 = .ok (.bipush 10, 2) := by decide +kernel
theorem dX10_hilbert_67 : decode cX10_hilbert 67 = .ok (.idiv, 1) := by decide +kernel
theorem dX10_hilbert_68 : decode cX10_hilbert 68 = .ok (.istore 5, 2) := by decide +kernel
theorem dX10_hilbert_70 : decode cX10_hilbert 70 = .ok (.iinc 6 (-1), 3) := by decide +kernel
theorem dX10_hilbert_73 : decode cX10_hilbert 73 = .ok (.goto (-64), 3) := by decide +kernel
theorem dX10_hilbert_76 : decode cX10_hilbert 76 = .ok (.return_, 1) := by decide +kernel
theorem dX10_in_0 : decode cX10_in 0 = .ok (.iload_n 0, 1) := by decide +kernel
theorem dX10_in_1 : decode cX10_in 1 = .ok (.iload_n 1, 1) := by decide +kernel
theorem dX10_in_2 : decode cX10_in 2 = .ok (.if_icmp .lt 12, 3) := by decide +kernel
theorem dX10_in_5 : decode cX10_in 5 = .ok (.iload_n 0, 1) := by decide +kernel
theorem dX10_in_6 : decode cX10_in 6 = .ok (.iload_n 2, 1) := by decide +kernel
theorem dX10_in_7 : decode cX10_in 7 = .ok (.if_icmp .gt 7, 3) := by decide +kernel
theorem dX10_in_10 : decode cX10_in 10 = .ok (.iconst 1, 1) := by decide +kernel
theorem dX10_in_11 : decode cX10_in 11 = .ok (.goto 4, 3) := by decide +kernel
theorem dX10_in_14 : decode cX10_in 14 = .ok (.iconst 0, 1) := by decide +kernel
theorem dX10_in_15 : decode cX10_in 15 = .ok (.ireturn, 1) := by decide +kernel
theorem dX10_side_0 : decode cX10_side 0 = .ok (.iconst 1, 1) := by decide +kernel
theorem dX10_side_1 : decode cX10_side 1 = .ok (.aload_n 0, 1) := by decide +kernel
theorem dX10_side_2 : decode cX10_side 2 = .ok (.getfield 7, 3) := by decide +kernel
theorem dX10_side_5 : decode cX10_side 5 = .ok (.ishl, 1) := by decide +kernel
theorem dX10_side_6 : decode cX10_side 6 = .ok (.ireturn, 1) := by decide +kernel
theorem dX10_all_0 : decode cX10_all 0 = .ok (.iconst 1, 1) := by decide +kernel
theorem dX10_all_1 : decode cX10_all 1 = .ok (.iconst 2, 1) := by decide +kernel
theorem dX10_all_2 : decode cX10_all 2 = .ok (.aload_n 0, 1) := by decide +kernel
theorem dX10_all_3 : decode cX10_all 3 = .ok (.getfield 7, 3) := by decide +kernel
theorem dX10_all_6 : decode cX10_all 6 = .ok (.imul, 1) := by decide +kernel
theorem dX10_all_7 : decode cX10_all 7 = .ok (.ishl, 1) := by decide +kernel
theorem dX10_all_8 : decode cX10_all 8 = .ok (.ireturn, 1) := by decide +kernel
theorem dX10_quarter_0 : decode cX10_quarter 0 = .ok (.aload_n 0, 1) := by decide +kernel
theorem dX10_quarter_1 : decode cX10_quarter 1 = .ok (.getfield 17, 3) := by decide +kernel
theorem dX10_quarter_4 : decode cX10_quarter 4 = .ok (.bipush 64, 2) := by decide +kernel
theorem dX10_quarter_6 : decode cX10_quarter 6 = .ok (.aload_n 0, 1) := by decide +kernel
theorem dX10_quarter_7 : decode cX10_quarter 7 = .ok (.getfield 82, 3) := by decide +kernel
theorem dX10_quarter_10 : decode cX10_quarter 10 = .ok (.imul, 1) := by decide +kernel
theorem dX10_quarter_11 : decode cX10_quarter 11 = .ok (.bipush 8, 2) := by decide +kernel
theorem dX10_quarter_13 : decode cX10_quarter 13 = .ok (.iload_n 1, 1) := by decide +kernel
theorem dX10_quarter_14 : decode cX10_quarter 14 = .ok (.imul, 1) := by decide +kernel
theorem dX10_quarter_15 : decode cX10_quarter 15 = .ok (.iadd, 1) := by decide +kernel
theorem dX10_quarter_16 : decode cX10_quarter 16 = .ok (.iload_n 2, 1) := by decide +kernel
theorem dX10_quarter_17 : decode cX10_quarter 17 = .ok (.iadd, 1) := by decide +kernel
theorem dX10_quarter_18 : decode cX10_quarter 18 = .ok (.iaload, 1) := by decide +kernel
theorem dX10_quarter_19 : decode cX10_quarter 19 = .ok (.ireturn, 1) := by decide +kernel
theorem dX10_stateFor_0 : decode cX10_stateFor 0 = .ok (.aload_n 0, 1) := by decide +kernel
theorem dX10_stateFor_1 : decode cX10_stateFor 1 = .ok (.getfield 17, 3) := by decide +kernel
theorem dX10_stateFor_4 : decode cX10_stateFor 4 = .ok (.bipush 64, 2) := by decide +kernel
theorem dX10_stateFor_6 : decode cX10_stateFor 6 = .ok (.aload_n 0, 1) := by decide +kernel
theorem dX10_stateFor_7 : decode cX10_stateFor 7 = .ok (.getfield 82, 3) := by decide +kernel
theorem dX10_stateFor_10 : decode cX10_stateFor 10 = .ok (.imul, 1) := by decide +kernel
theorem dX10_stateFor_11 : decode cX10_stateFor 11 = .ok (.bipush 8, 2) := by decide +kernel
theorem dX10_stateFor_13 : decode cX10_stateFor 13 = .ok (.iload_n 1, 1) := by decide +kernel
theorem dX10_stateFor_14 : decode cX10_stateFor 14 = .ok (.imul, 1) := by decide +kernel
theorem dX10_stateFor_15 : decode cX10_stateFor 15 = .ok (.iadd, 1) := by decide +kernel
theorem dX10_stateFor_16 : decode cX10_stateFor 16 = .ok (.iconst 4, 1) := by decide +kernel
theorem dX10_stateFor_17 : decode cX10_stateFor 17 = .ok (.iadd, 1) := by decide +kernel
theorem dX10_stateFor_18 : decode cX10_stateFor 18 = .ok (.iload_n 2, 1) := by decide +kernel
theorem dX10_stateFor_19 : decode cX10_stateFor 19 = .ok (.iadd, 1) := by decide +kernel
theorem dX10_stateFor_20 : decode cX10_stateFor 20 = .ok (.iaload, 1) := by decide +kernel
theorem dX10_stateFor_21 : decode cX10_stateFor 21 = .ok (.ireturn, 1) := by decide +kernel
set_option maxRecDepth 20000 in
theorem ggX10_numbers_X10_all : GoodIn wsX10_numbers wsX10_all := goodIn_r _ [8, 1, 38, 39, 40, 41, 42, 43, 44, 45, 46, 47, 48, 49, 50, 51, 52, 53, 54, 55, 56, 57, 58, 59, 60, 61, 62, 63, 64, 65, 66] (by decide +kernel) (by decide +kernel)
set_option maxRecDepth 20000 in
theorem gX10_numbers_X10_all : GoodIn wsX10_numbers (wsV RX10 85 RX10 yX10_all wsX10_all) := goodIn_app (goodIn_of _ (by decide +kernel)) ggX10_numbers_X10_all
set_option maxRecDepth 20000 in
theorem ggX10_numbers_X10_quarter : GoodIn wsX10_numbers wsX10_quarter := goodIn_r _ [12, 13, 14, 38, 39, 40, 41, 42, 43, 44, 45, 46, 47, 48, 49, 50, 51, 52, 53, 54, 55, 56, 57, 58, 59, 60, 61, 62, 63, 64, 65, 66] (by decide +kernel) (by decide +kernel)
set_option maxRecDepth 20000 in
theorem gX10_numbers_X10_quarter : GoodIn wsX10_numbers (wsV RX10 89 RX10 yX10_quarter wsX10_quarter) := goodIn_app (goodIn_of _ (by decide +kernel)) ggX10_numbers_X10_quarter
set_option maxRecDepth 20000 in
theorem ggX10_numbers_X10_stateFor : GoodIn wsX10_numbers wsX10_stateFor := goodIn_r _ [18, 13, 14, 38, 39, 40, 41, 42, 43, 44, 45, 46, 47, 48, 49, 50, 51, 52, 53, 54, 55, 56, 57, 58, 59, 60, 61, 62, 63, 64, 65, 66] (by decide +kernel) (by decide +kernel)
set_option maxRecDepth 20000 in
theorem gX10_numbers_X10_stateFor : GoodIn wsX10_numbers (wsV RX10 93 RX10 yX10_stateFor wsX10_stateFor) := goodIn_app (goodIn_of _ (by decide +kernel)) ggX10_numbers_X10_stateFor
set_option maxRecDepth 20000 in
theorem ggX10_numbers_X10_divides : GoodIn wsX10_numbers wsX10_divides := goodIn_r _ [22, 23, 1, 24, 25, 26, 4, 5, 6, 7, 8, 27, 28, 29, 30, 31, 3, 32, 33, 34, 35, 36, 37, 38, 39, 40, 41, 42, 43, 44, 45, 46, 47, 48, 49, 50, 51, 52, 53, 54, 55, 56, 57, 58, 59, 60, 61, 62, 63, 64, 65, 66] (by decide +kernel) (by decide +kernel)
set_option maxRecDepth 20000 in
theorem gX10_numbers_X10_divides : GoodIn wsX10_numbers (wsV RX10 96 RX10 yX10_divides wsX10_divides) := goodIn_app (goodIn_of _ (by decide +kernel)) ggX10_numbers_X10_divides
theorem dX10_numbers_0 : decode cX10_numbers 0 = .ok (.iconst 0, 1) := by decide +kernel
theorem dX10_numbers_1 : decode cX10_numbers 1 = .ok (.istore_n 1, 1) := by decide +kernel
theorem dX10_numbers_2 : decode cX10_numbers 2 = .ok (.iload_n 1, 1) := by decide +kernel
theorem dX10_numbers_3 : decode cX10_numbers 3 = .ok (.aload_n 0, 1) := by decide +kernel
theorem dX10_numbers_4 : decode cX10_numbers 4 = .ok (.invokevirtual 85, 3) := by decide +kernel
theorem dX10_numbers_7 : decode cX10_numbers 7 = .ok (.if_icmp .ge 107, 3) := by decide +kernel
theorem dX10_numbers_10 : decode cX10_numbers 10 = .ok (.iconst 0, 1) := by decide +kernel
theorem dX10_numbers_11 : decode cX10_numbers 11 = .ok (.istore_n 2, 1) := by decide +kernel
theorem dX10_numbers_12 : decode cX10_numbers 12 = .ok (.iconst 0, 1) := by decide +kernel
theorem dX10_numbers_13 : decode cX10_numbers 13 = .ok (.istore_n 3, 1) := by decide +kernel
theorem dX10_numbers_14 : decode cX10_numbers 14 = .ok (.iconst 0, 1) := by decide +kernel
theorem dX10_numbers_15 : decode cX10_numbers 15 = .ok (.istore 4, 2) := by decide +kernel
theorem dX10_numbers_17 : decode cX10_numbers 17 = .ok (.aload_n 0, 1) := by decide +kernel
theorem dX10_numbers_18 : decode cX10_numbers 18 = .ok (.getfield 7, 3) := by decide +kernel
theorem dX10_numbers_21 : decode cX10_numbers 21 = .ok (.iconst 1, 1) := by decide +kernel
theorem dX10_numbers_22 : decode cX10_numbers 22 = .ok (.isub, 1) := by decide +kernel
end
section
theorem dX10_numbers_23 : decode cX10_numbers 23 = .ok (.istore 5, 2) := by decide +kernel
theorem dX10_numbers_25 : decode cX10_numbers 25 = .ok (.iload 5, 2) := by decide +kernel
theorem dX10_numbers_27 : decode cX10_numbers 27 = .ok (.ifCond .lt 57, 3) := by decide +kernel
theorem dX10_numbers_30 : decode cX10_numbers 30 = .ok (.iload_n 1, 1) := by decide +kernel
theorem dX10_numbers_31 : decode cX10_numbers 31 = .ok (.iconst 2, 1) := by decide +kernel
theorem dX10_numbers_32 : decode cX10_numbers 32 = .ok (.iload 5, 2) := by decide +kernel
theorem dX10_numbers_34 : decode cX10_numbers 34 = .ok (.imul, 1) := by decide +kernel
theorem dX10_numbers_35 : decode cX10_numbers 35 = .ok (.ishr, 1) := by decide +kernel
theorem dX10_numbers_36 : decode cX10_numbers 36 = .ok (.iconst 3, 1) := by decide +kernel
theorem dX10_numbers_37 : decode cX10_numbers 37 = .ok (.iand, 1) := by decide +kernel
theorem dX10_numbers_38 : decode cX10_numbers 38 = .ok (.istore 6, 2) := by decide +kernel
theorem dX10_numbers_40 : decode cX10_numbers 40 = .ok (.aload_n 0, 1) := by decide +kernel
theorem dX10_numbers_41 : decode cX10_numbers 41 = .ok (.iload 4, 2) := by decide +kernel
theorem dX10_numbers_43 : decode cX10_numbers 43 = .ok (.iload 6, 2) := by decide +kernel
theorem dX10_numbers_45 : decode cX10_numbers 45 = .ok (.invokevirtual 89, 3) := by decide +kernel
theorem dX10_numbers_48 : decode cX10_numbers 48 = .ok (.istore 7, 2) := by decide +kernel
theorem dX10_numbers_50 : decode cX10_numbers 50 = .ok (.iconst 2, 1) := by decide +kernel
theorem dX10_numbers_51 : decode cX10_numbers 51 = .ok (.iload_n 2, 1) := by decide +kernel
theorem dX10_numbers_52 : decode cX10_numbers 52 = .ok (.imul, 1) := by decide +kernel
theorem dX10_numbers_53 : decode cX10_numbers 53 = .ok (.iload 7, 2) := by decide +kernel
theorem dX10_numbers_55 : decode cX10_numbers 55 = .ok (.iconst 2, 1) := by decide +kernel
theorem dX10_numbers_56 : decode cX10_numbers 56 = .ok (.irem, 1) := by decide +kernel
theorem dX10_numbers_57 : decode cX10_numbers 57 = .ok (.iadd, 1) := by decide +kernel
theorem dX10_numbers_58 : decode cX10_numbers 58 = .ok (.istore_n 2, 1) := by decide +kernel
theorem dX10_numbers_59 : decode cX10_numbers 59 = .ok (.iconst 2, 1) := by decide +kernel
theorem dX10_numbers_60 : decode cX10_numbers 60 = .ok (.iload_n 3, 1) := by decide +kernel
theorem dX10_numbers_61 : decode cX10_numbers 61 = .ok (.imul, 1) := by decide +kernel
theorem dX10_numbers_62 : decode cX10_numbers 62 = .ok (.iload 7, 2) := by decide +kernel
theorem dX10_numbers_64 : decode cX10_numbers 64 = .ok (.iconst 2, 1) := by decide +kernel
theorem dX10_numbers_65 : decode cX10_numbers 65 = .ok (.idiv, 1) := by decide +kernel
theorem dX10_numbers_66 : decode cX10_numbers 66 = .ok (.iadd, 1) := by decide +kernel
theorem dX10_numbers_67 : decode cX10_numbers 67 = .ok (.istore_n 3, 1) := by decide +kernel
theorem dX10_numbers_68 : decode cX10_numbers 68 = .ok (.aload_n 0, 1) := by decide +kernel
theorem dX10_numbers_69 : decode cX10_numbers 69 = .ok (.iload 4, 2) := by decide +kernel
theorem dX10_numbers_71 : decode cX10_numbers 71 = .ok (.iload 6, 2) := by decide +kernel
theorem dX10_numbers_73 : decode cX10_numbers 73 = .ok (.invokevirtual 93, 3) := by decide +kernel
theorem dX10_numbers_76 : decode cX10_numbers 76 = .ok (.istore 4, 2) := by decide +kernel
theorem dX10_numbers_78 : decode cX10_numbers 78 = .ok (.iinc 5 (-1), 3) := by decide +kernel
theorem dX10_numbers_81 : decode cX10_numbers 81 = .ok (.goto (-56), 3) := by decide +kernel
theorem dX10_numbers_84 : decode cX10_numbers 84 = .ok (.aload_n 0, 1) := by decide +kernel
theorem dX10_numbers_85 : decode cX10_numbers 85 = .ok (.getfield 60, 3) := by decide +kernel
theorem dX10_numbers_88 : decode cX10_numbers 88 = .ok (.iload_n 1, 1) := by decide +kernel
theorem dX10_numbers_89 : decode cX10_numbers 89 = .ok (.bipush 64, 2) := by decide +kernel
theorem dX10_numbers_91 : decode cX10_numbers 91 = .ok (.iload_n 3, 1) := by decide +kernel
theorem dX10_numbers_92 : decode cX10_numbers 92 = .ok (.imul, 1) := by decide +kernel
theorem dX10_numbers_93 : decode cX10_numbers 93 = .ok (.iload_n 2, 1) := by decide +kernel
theorem dX10_numbers_94 : decode cX10_numbers 94 = .ok (.iadd, 1) := by decide +kernel
theorem dX10_numbers_95 : decode cX10_numbers 95 = .ok (.iastore, 1) := by decide +kernel
theorem dX10_numbers_96 : decode cX10_numbers 96 = .ok (.aload_n 0, 1) := by decide +kernel
theorem dX10_numbers_97 : decode cX10_numbers 97 = .ok (.getfield 57, 3) := by decide +kernel
theorem dX10_numbers_100 : decode cX10_numbers 100 = .ok (.bipush 64, 2) := by decide +kernel
theorem dX10_numbers_102 : decode cX10_numbers 102 = .ok (.iload_n 3, 1) := by decide +kernel
theorem dX10_numbers_103 : decode cX10_numbers 103 = .ok (.imul, 1) := by decide +kernel
theorem dX10_numbers_104 : decode cX10_numbers 104 = .ok (.iload_n 2, 1) := by decide +kernel
theorem dX10_numbers_105 : decode cX10_numbers 105 = .ok (.iadd, 1) := by decide +kernel
theorem dX10_numbers_106 : decode cX10_numbers 106 = .ok (.iload_n 1, 1) := by decide +kernel
theorem dX10_numbers_107 : decode cX10_numbers 107 = .ok (.iastore, 1) := by decide +kernel
theorem dX10_numbers_108 : decode cX10_numbers 108 = .ok (.iinc 1 1, 3) := by decide +kernel
theorem dX10_numbers_111 : decode cX10_numbers 111 = .ok (.goto (-109), 3) := by decide +kernel
theorem dX10_numbers_114 : decode cX10_numbers 114 = .ok (.aload_n 0, 1) := by decide +kernel
theorem dX10_numbers_115 : decode cX10_numbers 115 = .ok (.invokevirtual 96, 3) := by decide +kernel
theorem dX10_numbers_118 : decode cX10_numbers 118 = .ok (.return_, 1) := by decide +kernel
set_option maxRecDepth 20000 in
theorem ggX10_setLevels_X10_in : GoodIn wsX10_setLevels wsX10_in := goodIn_r _ [10] (by decide +kernel) (by decide +kernel)
set_option maxRecDepth 20000 in
theorem gX10_setLevels_X10_in : GoodIn wsX10_setLevels (va_wsS RX10 99 yX10_in wsX10_in) := goodIn_app (goodIn_of _ (by decide +kernel)) ggX10_setLevels_X10_in
set_option maxRecDepth 20000 in
theorem ggX10_setLevels_X10_side : GoodIn wsX10_setLevels wsX10_side := goodIn_r _ [14, 1, 53, 54, 55, 56, 57, 58, 59, 60, 61, 62, 63, 64, 65, 66, 67, 68, 69, 70, 71, 72, 73, 74, 75, 76, 77, 78, 79, 80, 81] (by decide +kernel) (by decide +kernel)
set_option maxRecDepth 20000 in
theorem gX10_setLevels_X10_side : GoodIn wsX10_setLevels (wsV RX10 109 RX10 yX10_side wsX10_side) := goodIn_app (goodIn_of _ (by decide +kernel)) ggX10_setLevels_X10_side
set_option maxRecDepth 20000 in
theorem ggX10_setLevels_X10_numbers : GoodIn wsX10_setLevels wsX10_numbers := goodIn_r _ [18, 1, 19, 20, 21, 22, 23, 9, 24, 25, 26, 27, 28, 29, 30, 31, 32, 33, 34, 35, 36, 37, 38, 39, 40, 41, 42, 43, 44, 45, 46, 6, 47, 48, 49, 50, 51, 52, 53, 54, 55, 56, 57, 58, 59, 60, 61, 62, 63, 64, 65, 66, 67, 68, 69, 70, 71, 72, 73, 74, 75, 76, 77, 78, 79, 80, 81] (by decide +kernel) (by decide +kernel)
set_option maxRecDepth 20000 in
theorem gX10_setLevels_X10_numbers : GoodIn wsX10_setLevels (wsV RX10 79 RX10 yX10_numbers wsX10_numbers) := goodIn_app (goodIn_of _ (by decide +kernel)) ggX10_setLevels_X10_numbers
theorem dX10_setLevels_0 : decode cX10_setLevels 0 = .ok (.iload_n 1, 1) := by decide +kernel
theorem dX10_setLevels_1 : decode cX10_setLevels 1 = .ok (.iconst 1, 1) := by decide +kernel
theorem dX10_setLevels_2 : decode cX10_setLevels 2 = .ok (.bipush 6, 2) := by decide +kernel
theorem dX10_setLevels_4 : decode cX10_setLevels 4 = .ok (.invokestatic 99, 3) := by decide +kernel
theorem dX10_setLevels_7 : decode cX10_setLevels 7 = .ok (.ifCond .ne 6, 3) := by decide +kernel
theorem dX10_setLevels_10 : decode cX10_setLevels 10 = .ok (.bipush (-2), 2) := by decide +kernel
theorem dX10_setLevels_12 : decode cX10_setLevels 12 = .ok (.ireturn, 1) := by decide +kernel
theorem dX10_setLevels_13 : decode cX10_setLevels 13 = .ok (.aload_n 0, 1) := by decide +kernel
theorem dX10_setLevels_14 : decode cX10_setLevels 14 = .ok (.getfield 7, 3) := by decide +kernel
theorem dX10_setLevels_17 : decode cX10_setLevels 17 = .ok (.istore_n 2, 1) := by decide +kernel
theorem dX10_setLevels_18 : decode cX10_setLevels 18 = .ok (.aload_n 0, 1) := by decide +kernel
theorem dX10_setLevels_19 : decode cX10_setLevels 19 = .ok (.iload_n 1, 1) := by decide +kernel
theorem dX10_setLevels_20 : decode cX10_setLevels 20 = .ok (.putfield 7, 3) := by decide +kernel
theorem dX10_setLevels_23 : decode cX10_setLevels 23 = .ok (.aload_n 0, 1) := by decide +kernel
theorem dX10_setLevels_24 : decode cX10_setLevels 24 = .ok (.iconst 0, 1) := by decide +kernel
theorem dX10_setLevels_25 : decode cX10_setLevels 25 = .ok (.putfield 103, 3) := by decide +kernel
theorem dX10_setLevels_28 : decode cX10_setLevels 28 = .ok (.aload_n 0, 1) := by decide +kernel
theorem dX10_setLevels_29 : decode cX10_setLevels 29 = .ok (.iconst 0, 1) := by decide +kernel
theorem dX10_setLevels_30 : decode cX10_setLevels 30 = .ok (.putfield 106, 3) := by decide +kernel
theorem dX10_setLevels_33 : decode cX10_setLevels 33 = .ok (.aload_n 0, 1) := by decide +kernel
theorem dX10_setLevels_34 : decode cX10_setLevels 34 = .ok (.aload_n 0, 1) := by decide +kernel
theorem dX10_setLevels_35 : decode cX10_setLevels 35 = .ok (.invokevirtual 109, 3) := by decide +kernel
theorem dX10_setLevels_38 : decode cX10_setLevels 38 = .ok (.iconst 1, 1) := by decide +kernel
theorem dX10_setLevels_39 : decode cX10_setLevels 39 = .ok (.isub, 1) := by decide +kernel
theorem dX10_setLevels_40 : decode cX10_setLevels 40 = .ok (.putfield 20, 3) := by decide +kernel
theorem dX10_setLevels_43 : decode cX10_setLevels 43 = .ok (.aload_n 0, 1) := by decide +kernel
theorem dX10_setLevels_44 : decode cX10_setLevels 44 = .ok (.aload_n 0, 1) := by decide +kernel
theorem dX10_setLevels_45 : decode cX10_setLevels 45 = .ok (.invokevirtual 109, 3) := by decide +kernel
theorem dX10_setLevels_48 : decode cX10_setLevels 48 = .ok (.iconst 1, 1) := by decide +kernel
theorem dX10_setLevels_49 : decode cX10_setLevels 49 = .ok (.isub, 1) := by decide +kernel
theorem dX10_setLevels_50 : decode cX10_setLevels 50 = .ok (.putfield 23, 3) := by decide +kernel
theorem dX10_setLevels_53 : decode cX10_setLevels 53 = .ok (.aload_n 0, 1) := by decide +kernel
theorem dX10_setLevels_54 : decode cX10_setLevels 54 = .ok (.iconst 0, 1) := by decide +kernel
theorem dX10_setLevels_55 : decode cX10_setLevels 55 = .ok (.putfield 112, 3) := by decide +kernel
theorem dX10_setLevels_58 : decode cX10_setLevels 58 = .ok (.aload_n 0, 1) := by decide +kernel
theorem dX10_setLevels_59 : decode cX10_setLevels 59 = .ok (.invokevirtual 79, 3) := by decide +kernel
theorem dX10_setLevels_62 : decode cX10_setLevels 62 = .ok (.iload_n 2, 1) := by decide +kernel
theorem dX10_setLevels_63 : decode cX10_setLevels 63 = .ok (.ireturn, 1) := by decide +kernel
set_option maxRecDepth 20000 in
theorem ggX10_setCurve_X10_in : GoodIn wsX10_setCurve wsX10_in := goodIn_r _ [5] (by decide +kernel) (by decide +kernel)
set_option maxRecDepth 20000 in
theorem gX10_setCurve_X10_in : GoodIn wsX10_setCurve (va_wsS RX10 99 yX10_in wsX10_in) := goodIn_app (goodIn_of _ (by decide +kernel)) ggX10_setCurve_X10_in
set_option maxRecDepth 20000 in
theorem ggX10_setCurve_X10_numbers : GoodIn wsX10_setCurve wsX10_numbers := goodIn_r _ [9, 10, 11, 12, 13, 14, 15, 4, 16, 17, 18, 19, 20, 21, 1, 22, 23, 24, 25, 26, 27, 28, 29, 30, 31, 32, 33, 34, 35, 36, 37, 38, 39, 40, 41, 42, 43, 44, 45, 46, 47, 48, 49, 50, 51, 52, 53, 54, 55, 56, 57, 58, 59, 60, 61, 62, 63, 64, 65, 66, 67, 68, 69, 70, 71, 72, 73] (by decide +kernel) (by decide +kernel)
set_option maxRecDepth 20000 in
theorem gX10_setCurve_X10_numbers : GoodIn wsX10_setCurve (wsV RX10 79 RX10 yX10_numbers wsX10_numbers) := goodIn_app (goodIn_of _ (by decide +kernel)) ggX10_setCurve_X10_numbers
theorem dX10_setCurve_0 : decode cX10_setCurve 0 = .ok (.iload_n 1, 1) := by decide +kernel
theorem dX10_setCurve_1 : decode cX10_setCurve 1 = .ok (.iconst 0, 1) := by decide +kernel
theorem dX10_setCurve_2 : decode cX10_setCurve 2 = .ok (.iconst 2, 1) := by decide +kernel
theorem dX10_setCurve_3 : decode cX10_setCurve 3 = .ok (.invokestatic 99, 3) := by decide +kernel
theorem dX10_setCurve_6 : decode cX10_setCurve 6 = .ok (.ifCond .ne 6, 3) := by decide +kernel
theorem dX10_setCurve_9 : decode cX10_setCurve 9 = .ok (.bipush (-2), 2) := by decide +kernel
theorem dX10_setCurve_11 : decode cX10_setCurve 11 = .ok (.ireturn, 1) := by decide +kernel
theorem dX10_setCurve_12 : decode cX10_setCurve 12 = .ok (.aload_n 0, 1) := by decide +kernel
theorem dX10_setCurve_13 : decode cX10_setCurve 13 = .ok (.getfield 82, 3) := by decide +kernel
theorem dX10_setCurve_16 : decode cX10_setCurve 16 = .ok (.istore_n 2, 1) := by decide +kernel
theorem dX10_setCurve_17 : decode cX10_setCurve 17 = .ok (.aload_n 0, 1) := by decide +kernel
theorem dX10_setCurve_18 : decode cX10_setCurve 18 = .ok (.iload_n 1, 1) := by decide +kernel
theorem dX10_setCurve_19 : decode cX10_setCurve 19 = .ok (.putfield 82, 3) := by decide +kernel
theorem dX10_setCurve_22 : decode cX10_setCurve 22 = .ok (.aload_n 0, 1) := by decide +kernel
theorem dX10_setCurve_23 : decode cX10_setCurve 23 = .ok (.invokevirtual 79, 3) := by decide +kernel
theorem dX10_setCurve_26 : decode cX10_setCurve 26 = .ok (.iload_n 2, 1) := by decide +kernel
theorem dX10_setCurve_27 : decode cX10_setCurve 27 = .ok (.ireturn, 1) := by decide +kernel
theorem dX10_states_0 : decode cX10_states 0 = .ok (.aload_n 0, 1) := by decide +kernel
theorem dX10_states_1 : decode cX10_states 1 = .ok (.getfield 13, 3) := by decide +kernel
theorem dX10_states_4 : decode cX10_states 4 = .ok (.aload_n 0, 1) := by decide +kernel
theorem dX10_states_5 : decode cX10_states 5 = .ok (.getfield 82, 3) := by decide +kernel
theorem dX10_states_8 : decode cX10_states 8 = .ok (.iaload, 1) := by decide +kernel
theorem dX10_states_9 : decode cX10_states 9 = .ok (.ireturn, 1) := by decide +kernel
set_option maxRecDepth 20000 in
theorem ggX10_visit_X10_in : GoodIn wsX10_visit wsX10_in := goodIn_r _ [6] (by decide +kernel) (by decide +kernel)
set_option maxRecDepth 20000 in
theorem gX10_visit_X10_in : GoodIn wsX10_visit (va_wsS RX10 99 yX10_in wsX10_in) := goodIn_app (goodIn_of _ (by decide +kernel)) ggX10_visit_X10_in
set_option maxRecDepth 20000 in
theorem ggX10_visit_X10_quarter : GoodIn wsX10_visit wsX10_quarter := goodIn_r _ [10, 11, 2, 16, 17, 18, 19, 20, 21, 22, 23, 24, 25, 26, 27, 28, 29, 30, 31, 32, 33, 34, 35, 36, 37, 38, 39, 40, 41, 42, 43, 44] (by decide +kernel) (by decide +kernel)
set_option maxRecDepth 20000 in
theorem gX10_visit_X10_quarter : GoodIn wsX10_visit (wsV RX10 89 RX10 yX10_quarter wsX10_quarter) := goodIn_app (goodIn_of _ (by decide +kernel)) ggX10_visit_X10_quarter
set_option maxRecDepth 20000 in
theorem ggX10_visit_X10_stateFor : GoodIn wsX10_visit wsX10_stateFor := goodIn_r _ [15, 11, 2, 16, 17, 18, 19, 20, 21, 22, 23, 24, 25, 26, 27, 28, 29, 30, 31, 32, 33, 34, 35, 36, 37, 38, 39, 40, 41, 42, 43, 44] (by decide +kernel) (by decide +kernel)
set_option maxRecDepth 20000 in
theorem gX10_visit_X10_stateFor : GoodIn wsX10_visit (wsV RX10 93 RX10 yX10_stateFor wsX10_stateFor) := goodIn_app (goodIn_of _ (by decide +kernel)) ggX10_visit_X10_stateFor
theorem dX10_visit_0 : decode cX10_visit 0 = .ok (.iload_n 1, 1) := by decide +kernel
theorem dX10_visit_1 : decode cX10_visit 1 = .ok (.iconst 0, 1) := by decide +kernel
theorem dX10_visit_2 : decode cX10_visit 2 = .ok (.aload_n 0, 1) := by decide +kernel
theorem dX10_visit_3 : decode cX10_visit 3 = .ok (.getfield 13, 3) := by decide +kernel
theorem dX10_visit_6 : decode cX10_visit 6 = .ok (.aload_n 0, 1) := by decide +kernel
theorem dX10_visit_7 : decode cX10_visit 7 = .ok (.getfield 82, 3) := by decide +kernel
theorem dX10_visit_10 : decode cX10_visit 10 = .ok (.iaload, 1) := by decide +kernel
theorem dX10_visit_11 : decode cX10_visit 11 = .ok (.iconst 1, 1) := by decide +kernel
theorem dX10_visit_12 : decode cX10_visit 12 = .ok (.isub, 1) := by decide +kernel
theorem dX10_visit_13 : decode cX10_visit 13 = .ok (.invokestatic 99, 3) := by decide +kernel
theorem dX10_visit_16 : decode cX10_visit 16 = .ok (.ifCond .eq 12, 3) := by decide +kernel
theorem dX10_visit_19 : decode cX10_visit 19 = .ok (.iload_n 2, 1) := by decide +kernel
theorem dX10_visit_20 : decode cX10_visit 20 = .ok (.iconst 0, 1) := by decide +kernel
theorem dX10_visit_21 : decode cX10_visit 21 = .ok (.iconst 3, 1) := by decide +kernel
theorem dX10_visit_22 : decode cX10_visit 22 = .ok (.invokestatic 99, 3) := by decide +kernel
theorem dX10_visit_25 : decode cX10_visit 25 = .ok (.ifCond .ne 5, 3) := by decide +kernel
theorem dX10_visit_28 : decode cX10_visit 28 = .ok (.iconst (-1), 1) := by decide +kernel
theorem dX10_visit_29 : decode cX10_visit 29 = .ok (.ireturn, 1) := by decide +kernel
theorem dX10_visit_30 : decode cX10_visit 30 = .ok (.bipush 10, 2) := by decide +kernel
theorem dX10_visit_32 : decode cX10_visit 32 = .ok (.aload_n 0, 1) := by decide +kernel
theorem dX10_visit_33 : decode cX10_visit 33 = .ok (.iload_n 1, 1) := by decide +kernel
theorem dX10_visit_34 : decode cX10_visit 34 = .ok (.iload_n 2, 1) := by decide +kernel
theorem dX10_visit_35 : decode cX10_visit 35 = .ok (.invokevirtual 89, 3) := by decide +kernel
theorem dX10_visit_38 : decode cX10_visit 38 = .ok (.imul, 1) := by decide +kernel
theorem dX10_visit_39 : decode cX10_visit 39 = .ok (.aload_n 0, 1) := by decide +kernel
theorem dX10_visit_40 : decode cX10_visit 40 = .ok (.iload_n 1, 1) := by decide +kernel
theorem dX10_visit_41 : decode cX10_visit 41 = .ok (.iload_n 2, 1) := by decide +kernel
theorem dX10_visit_42 : decode cX10_visit 42 = .ok (.invokevirtual 93, 3) := by decide +kernel
theorem dX10_visit_45 : decode cX10_visit 45 = .ok (.iadd, 1) := by decide +kernel
theorem dX10_visit_46 : decode cX10_visit 46 = .ok (.ireturn, 1) := by decide +kernel
set_option maxRecDepth 20000 in
theorem ggX10_isCell_X10_side : GoodIn wsX10_isCell wsX10_side := goodIn_r _ [5, 6, 10, 11, 12, 13, 14, 15, 16, 17, 18, 19, 20, 21, 22, 23, 24, 25, 26, 27, 28, 29, 30, 31, 32, 33, 34, 35, 36, 37, 38] (by decide +kernel) (by decide +kernel)
set_option maxRecDepth 20000 in
theorem gX10_isCell_X10_side : GoodIn wsX10_isCell (wsV RX10 109 RX10 yX10_side wsX10_side) := goodIn_app (goodIn_of _ (by decide +kernel)) ggX10_isCell_X10_side
set_option maxRecDepth 20000 in
theorem ggX10_isCell_X10_in : GoodIn wsX10_isCell wsX10_in := goodIn_r _ [9] (by decide +kernel) (by decide +kernel)
set_option maxRecDepth 20000 in
theorem gX10_isCell_X10_in : GoodIn wsX10_isCell (va_wsS RX10 99 yX10_in wsX10_in) := goodIn_app (goodIn_of _ (by decide +kernel)) ggX10_isCell_X10_in
theorem dX10_isCell_0 : decode cX10_isCell 0 = .ok (.iload_n 1, 1) := by decide +kernel
theorem dX10_isCell_1 : decode cX10_isCell 1 = .ok (.iconst 0, 1) := by decide +kernel
theorem dX10_isCell_2 : decode cX10_isCell 2 = .ok (.aload_n 0, 1) := by decide +kernel
theorem dX10_isCell_3 : decode cX10_isCell 3 = .ok (.invokevirtual 109, 3) := by decide +kernel
theorem dX10_isCell_6 : decode cX10_isCell 6 = .ok (.iconst 1, 1) := by decide +kernel
theorem dX10_isCell_7 : decode cX10_isCell 7 = .ok (.isub, 1) := by decide +kernel
theorem dX10_isCell_8 : decode cX10_isCell 8 = .ok (.invokestatic 99, 3) := by decide +kernel
theorem dX10_isCell_11 : decode cX10_isCell 11 = .ok (.ifCond .eq 21, 3) := by decide +kernel
theorem dX10_isCell_14 : decode cX10_isCell 14 = .ok (.iload_n 2, 1) := by decide +kernel
theorem dX10_isCell_15 : decode cX10_isCell 15 = .ok (.iconst 0, 1) := by decide +kernel
theorem dX10_isCell_16 : decode cX10_isCell 16 = .ok (.aload_n 0, 1) := by decide +kernel
theorem dX10_isCell_17 : decode cX10_isCell 17 = .ok (.invokevirtual 109, 3) := by decide +kernel
theorem dX10_isCell_20 : decode cX10_isCell 20 = .ok (.iconst 1, 1) := by decide +kernel
theorem dX10_isCell_21 : decode cX10_isCell 21 = .ok (.isub, 1) := by decide +kernel
theorem dX10_isCell_22 : decode cX10_isCell 22 = .ok (.invokestatic 99, 3) := by decide +kernel
theorem dX10_isCell_25 : decode cX10_isCell 25 = .ok (.ifCond .eq 7, 3) := by decide +kernel
theorem dX10_isCell_28 : decode cX10_isCell 28 = .ok (.iconst 1, 1) := by decide +kernel
theorem dX10_isCell_29 : decode cX10_isCell 29 = .ok (.goto 4, 3) := by decide +kernel
theorem dX10_isCell_32 : decode cX10_isCell 32 = .ok (.iconst 0, 1) := by decide +kernel
theorem dX10_isCell_33 : decode cX10_isCell 33 = .ok (.ireturn, 1) := by decide +kernel
set_option maxRecDepth 20000 in
theorem ggX10_index_X10_isCell : GoodIn wsX10_index wsX10_isCell := goodIn_r _ [6, 7, 8, 9, 5, 10, 11, 12, 13, 14, 15, 16, 17, 18, 19, 20, 21, 22, 23, 24, 25, 26, 27, 28, 29, 30, 31, 32, 33, 34, 35, 36, 37, 38, 39, 40, 41, 42, 43] (by decide +kernel) (by decide +kernel)
set_option maxRecDepth 20000 in
theorem gX10_index_X10_isCell : GoodIn wsX10_index (wsV RX10 115 RX10 yX10_isCell wsX10_isCell) := goodIn_app (goodIn_of _ (by decide +kernel)) ggX10_index_X10_isCell
theorem dX10_index_0 : decode cX10_index 0 = .ok (.aload_n 0, 1) := by decide +kernel
theorem dX10_index_1 : decode cX10_index 1 = .ok (.iload_n 1, 1) := by decide +kernel
theorem dX10_index_2 : decode cX10_index 2 = .ok (.iload_n 2, 1) := by decide +kernel
theorem dX10_index_3 : decode cX10_index 3 = .ok (.invokevirtual 115, 3) := by decide +kernel
theorem dX10_index_6 : decode cX10_index 6 = .ok (.ifCond .eq 17, 3) := by decide +kernel
theorem dX10_index_9 : decode cX10_index 9 = .ok (.aload_n 0, 1) := by decide +kernel
theorem dX10_index_10 : decode cX10_index 10 = .ok (.getfield 57, 3) := by decide +kernel
theorem dX10_index_13 : decode cX10_index 13 = .ok (.bipush 64, 2) := by decide +kernel
theorem dX10_index_15 : decode cX10_index 15 = .ok (.iload_n 2, 1) := by decide +kernel
theorem dX10_index_16 : decode cX10_index 16 = .ok (.imul, 1) := by decide +kernel
theorem dX10_index_17 : decode cX10_index 17 = .ok (.iload_n 1, 1) := by decide +kernel
theorem dX10_index_18 : decode cX10_index 18 = .ok (.iadd, 1) := by decide +kernel
theorem dX10_index_19 : decode cX10_index 19 = .ok (.iaload, 1) := by decide +kernel
theorem dX10_index_20 : decode cX10_index 20 = .ok (.goto 4, 3) := by decide +kernel
theorem dX10_index_23 : decode cX10_index 23 = .ok (.iconst (-1), 1) := by decide +kernel
theorem dX10_index_24 : decode cX10_index 24 = .ok (.ireturn, 1) := by decide +kernel
set_option maxRecDepth 20000 in
theorem ggX10_cell_X10_all : GoodIn wsX10_cell wsX10_all := goodIn_r _ [6, 7, 11, 12, 13, 14, 15, 16, 17, 18, 19, 20, 21, 22, 23, 24, 25, 26, 27, 28, 29, 30, 31, 32, 33, 34, 35, 36, 37, 38, 39] (by decide +kernel) (by decide +kernel)
set_option maxRecDepth 20000 in
theorem gX10_cell_X10_all : GoodIn wsX10_cell (wsV RX10 85 RX10 yX10_all wsX10_all) := goodIn_app (goodIn_of _ (by decide +kernel)) ggX10_cell_X10_all
set_option maxRecDepth 20000 in
theorem ggX10_cell_X10_in : GoodIn wsX10_cell wsX10_in := goodIn_r _ [10] (by decide +kernel) (by decide +kernel)
set_option maxRecDepth 20000 in
theorem gX10_cell_X10_in : GoodIn wsX10_cell (va_wsS RX10 99 yX10_in wsX10_in) := goodIn_app (goodIn_of _ (by decide +kernel)) ggX10_cell_X10_in
theorem dX10_cell_0 : decode cX10_cell 0 = .ok (.iload_n 1, 1) := by decide +kernel
theorem dX10_cell_1 : decode cX10_cell 1 = .ok (.iconst 0, 1) := by decide +kernel
theorem dX10_cell_2 : decode cX10_cell 2 = .ok (.aload_n 0, 1) := by decide +kernel
theorem dX10_cell_3 : decode cX10_cell 3 = .ok (.invokevirtual 85, 3) := by decide +kernel
theorem dX10_cell_6 : decode cX10_cell 6 = .ok (.iconst 1, 1) := by decide +kernel
theorem dX10_cell_7 : decode cX10_cell 7 = .ok (.isub, 1) := by decide +kernel
theorem dX10_cell_8 : decode cX10_cell 8 = .ok (.invokestatic 99, 3) := by decide +kernel
theorem dX10_cell_11 : decode cX10_cell 11 = .ok (.ifCond .ne 5, 3) := by decide +kernel
theorem dX10_cell_14 : decode cX10_cell 14 = .ok (.iconst (-1), 1) := by decide +kernel
theorem dX10_cell_15 : decode cX10_cell 15 = .ok (.ireturn, 1) := by decide +kernel
theorem dX10_cell_16 : decode cX10_cell 16 = .ok (.iload_n 2, 1) := by decide +kernel
theorem dX10_cell_17 : decode cX10_cell 17 = .ok (.ifCond .eq 15, 3) := by decide +kernel
theorem dX10_cell_20 : decode cX10_cell 20 = .ok (.aload_n 0, 1) := by decide +kernel
theorem dX10_cell_21 : decode cX10_cell 21 = .ok (.getfield 60, 3) := by decide +kernel
theorem dX10_cell_24 : decode cX10_cell 24 = .ok (.iload_n 1, 1) := by decide +kernel
theorem dX10_cell_25 : decode cX10_cell 25 = .ok (.iaload, 1) := by decide +kernel
theorem dX10_cell_26 : decode cX10_cell 26 = .ok (.bipush 64, 2) := by decide +kernel
theorem dX10_cell_28 : decode cX10_cell 28 = .ok (.idiv, 1) := by decide +kernel
theorem dX10_cell_29 : decode cX10_cell 29 = .ok (.goto 12, 3) := by decide +kernel
theorem dX10_cell_32 : decode cX10_cell 32 = .ok (.aload_n 0, 1) := by decide +kernel
theorem dX10_cell_33 : decode cX10_cell 33 = .ok (.getfield 60, 3) := by decide +kernel
theorem dX10_cell_36 : decode cX10_cell 36 = .ok (.iload_n 1, 1) := by decide +kernel
theorem dX10_cell_37 : decode cX10_cell 37 = .ok (.iaload, 1) := by decide +kernel
theorem dX10_cell_38 : decode cX10_cell 38 = .ok (.bipush 64, 2) := by decide +kernel
theorem dX10_cell_40 : decode cX10_cell 40 = .ok (.irem, 1) := by decide +kernel
theorem dX10_cell_41 : decode cX10_cell 41 = .ok (.ireturn, 1) := by decide +kernel
theorem dX10_size_0 : decode cX10_size 0 = .ok (.iload_n 0, 1) := by decide +kernel
theorem dX10_size_1 : decode cX10_size 1 = .ok (.ifCond .ge 8, 3) := by decide +kernel
theorem dX10_size_4 : decode cX10_size 4 = .ok (.iload_n 0, 1) := by decide +kernel
theorem dX10_size_5 : decode cX10_size 5 = .ok (.ineg, 1) := by decide +kernel
theorem dX10_size_6 : decode cX10_size 6 = .ok (.goto 4, 3) := by decide +kernel
theorem dX10_size_9 : decode cX10_size 9 = .ok (.iload_n 0, 1) := by decide +kernel
theorem dX10_size_10 : decode cX10_size 10 = .ok (.ireturn, 1) := by decide +kernel
set_option maxRecDepth 20000 in
theorem ggX10_far_X10_size : GoodIn wsX10_far wsX10_size := goodIn_r _ [4] (by decide +kernel) (by decide +kernel)
set_option maxRecDepth 20000 in
theorem gX10_far_X10_size : GoodIn wsX10_far (va_wsS RX10 119 yX10_size wsX10_size) := goodIn_app (goodIn_of _ (by decide +kernel)) ggX10_far_X10_size
theorem dX10_far_0 : decode cX10_far 0 = .ok (.iload_n 0, 1) := by decide +kernel
theorem dX10_far_1 : decode cX10_far 1 = .ok (.bipush 64, 2) := by decide +kernel
theorem dX10_far_3 : decode cX10_far 3 = .ok (.idiv, 1) := by decide +kernel
theorem dX10_far_4 : decode cX10_far 4 = .ok (.iload_n 1, 1) := by decide +kernel
theorem dX10_far_5 : decode cX10_far 5 = .ok (.bipush 64, 2) := by decide +kernel
theorem dX10_far_7 : decode cX10_far 7 = .ok (.idiv, 1) := by decide +kernel
theorem dX10_far_8 : decode cX10_far 8 = .ok (.isub, 1) := by decide +kernel
theorem dX10_far_9 : decode cX10_far 9 = .ok (.invokestatic 119, 3) := by decide +kernel
theorem dX10_far_12 : decode cX10_far 12 = .ok (.iload_n 0, 1) := by decide +kernel
theorem dX10_far_13 : decode cX10_far 13 = .ok (.bipush 64, 2) := by decide +kernel
theorem dX10_far_15 : decode cX10_far 15 = .ok (.irem, 1) := by decide +kernel
theorem dX10_far_16 : decode cX10_far 16 = .ok (.iload_n 1, 1) := by decide +kernel
theorem dX10_far_17 : decode cX10_far 17 = .ok (.bipush 64, 2) := by decide +kernel
theorem dX10_far_19 : decode cX10_far 19 = .ok (.irem, 1) := by decide +kernel
theorem dX10_far_20 : decode cX10_far 20 = .ok (.isub, 1) := by decide +kernel
theorem dX10_far_21 : decode cX10_far 21 = .ok (.invokestatic 119, 3) := by decide +kernel
theorem dX10_far_24 : decode cX10_far 24 = .ok (.iadd, 1) := by decide +kernel
theorem dX10_far_25 : decode cX10_far 25 = .ok (.ireturn, 1) := by decide +kernel
set_option maxRecDepth 20000 in
theorem ggX10_breaksNow_X10_all : GoodIn wsX10_breaksNow wsX10_all := goodIn_r _ [6, 7, 14, 15, 16, 17, 18, 19, 20, 21, 22, 23, 24, 25, 26, 27, 28, 29, 30, 31, 32, 33, 34, 35, 36, 37, 38, 39, 40, 41, 42] (by decide +kernel) (by decide +kernel)
set_option maxRecDepth 20000 in
theorem gX10_breaksNow_X10_all : GoodIn wsX10_breaksNow (wsV RX10 85 RX10 yX10_all wsX10_all) := goodIn_app (goodIn_of _ (by decide +kernel)) ggX10_breaksNow_X10_all
set_option maxRecDepth 20000 in
theorem ggX10_breaksNow_X10_far : GoodIn wsX10_breaksNow wsX10_far := goodIn_r _ [10, 11, 12, 5, 13] (by decide +kernel) (by decide +kernel)
set_option maxRecDepth 20000 in
theorem gX10_breaksNow_X10_far : GoodIn wsX10_breaksNow (va_wsS RX10 123 yX10_far wsX10_far) := goodIn_app (goodIn_of _ (by decide +kernel)) ggX10_breaksNow_X10_far
theorem dX10_breaksNow_0 : decode cX10_breaksNow 0 = .ok (.iconst 0, 1) := by decide +kernel
theorem dX10_breaksNow_1 : decode cX10_breaksNow 1 = .ok (.istore_n 1, 1) := by decide +kernel
theorem dX10_breaksNow_2 : decode cX10_breaksNow 2 = .ok (.iconst 0, 1) := by decide +kernel
theorem dX10_breaksNow_3 : decode cX10_breaksNow 3 = .ok (.istore_n 2, 1) := by decide +kernel
theorem dX10_breaksNow_4 : decode cX10_breaksNow 4 = .ok (.iload_n 2, 1) := by decide +kernel
theorem dX10_breaksNow_5 : decode cX10_breaksNow 5 = .ok (.iconst 1, 1) := by decide +kernel
theorem dX10_breaksNow_6 : decode cX10_breaksNow 6 = .ok (.iadd, 1) := by decide +kernel
theorem dX10_breaksNow_7 : decode cX10_breaksNow 7 = .ok (.aload_n 0, 1) := by decide +kernel
theorem dX10_breaksNow_8 : decode cX10_breaksNow 8 = .ok (.invokevirtual 85, 3) := by decide +kernel
theorem dX10_breaksNow_11 : decode cX10_breaksNow 11 = .ok (.if_icmp .ge 38, 3) := by decide +kernel
theorem dX10_breaksNow_14 : decode cX10_breaksNow 14 = .ok (.iload_n 1, 1) := by decide +kernel
theorem dX10_breaksNow_15 : decode cX10_breaksNow 15 = .ok (.aload_n 0, 1) := by decide +kernel
theorem dX10_breaksNow_16 : decode cX10_breaksNow 16 = .ok (.getfield 60, 3) := by decide +kernel
theorem dX10_breaksNow_19 : decode cX10_breaksNow 19 = .ok (.iload_n 2, 1) := by decide +kernel
theorem dX10_breaksNow_20 : decode cX10_breaksNow 20 = .ok (.iaload, 1) := by decide +kernel
theorem dX10_breaksNow_21 : decode cX10_breaksNow 21 = .ok (.aload_n 0, 1) := by decide +kernel
theorem dX10_breaksNow_22 : decode cX10_breaksNow 22 = .ok (.getfield 60, 3) := by decide +kernel
theorem dX10_breaksNow_25 : decode cX10_breaksNow 25 = .ok (.iload_n 2, 1) := by decide +kernel
theorem dX10_breaksNow_26 : decode cX10_breaksNow 26 = .ok (.iconst 1, 1) := by decide +kernel
theorem dX10_breaksNow_27 : decode cX10_breaksNow 27 = .ok (.iadd, 1) := by decide +kernel
theorem dX10_breaksNow_28 : decode cX10_breaksNow 28 = .ok (.iaload, 1) := by decide +kernel
theorem dX10_breaksNow_29 : decode cX10_breaksNow 29 = .ok (.invokestatic 123, 3) := by decide +kernel
theorem dX10_breaksNow_32 : decode cX10_breaksNow 32 = .ok (.iconst 1, 1) := by decide +kernel
theorem dX10_breaksNow_33 : decode cX10_breaksNow 33 = .ok (.if_icmp .ne 7, 3) := by decide +kernel
theorem dX10_breaksNow_36 : decode cX10_breaksNow 36 = .ok (.iconst 0, 1) := by decide +kernel
theorem dX10_breaksNow_37 : decode cX10_breaksNow 37 = .ok (.goto 4, 3) := by decide +kernel
theorem dX10_breaksNow_40 : decode cX10_breaksNow 40 = .ok (.iconst 1, 1) := by decide +kernel
theorem dX10_breaksNow_41 : decode cX10_breaksNow 41 = .ok (.iadd, 1) := by decide +kernel
theorem dX10_breaksNow_42 : decode cX10_breaksNow 42 = .ok (.istore_n 1, 1) := by decide +kernel
theorem dX10_breaksNow_43 : decode cX10_breaksNow 43 = .ok (.iinc 2 1, 3) := by decide +kernel
theorem dX10_breaksNow_46 : decode cX10_breaksNow 46 = .ok (.goto (-42), 3) := by decide +kernel
theorem dX10_breaksNow_49 : decode cX10_breaksNow 49 = .ok (.iload_n 1, 1) := by decide +kernel
theorem dX10_breaksNow_50 : decode cX10_breaksNow 50 = .ok (.ireturn, 1) := by decide +kernel
set_option maxRecDepth 20000 in
theorem ggX10_breaks_X10_breaksNow : GoodIn wsX10_breaks wsX10_breaksNow := goodIn_r _ [5, 6, 7, 8, 9, 4, 10, 11, 12, 13, 14, 15, 16, 17, 18, 19, 20, 21, 22, 23, 24, 25, 26, 27, 28, 29, 30, 31, 32, 33, 34, 35, 36, 37, 38, 39, 40, 41, 42, 43, 44, 45, 46] (by decide +kernel) (by decide +kernel)
set_option maxRecDepth 20000 in
theorem gX10_breaks_X10_breaksNow : GoodIn wsX10_breaks (wsV RX10 126 RX10 yX10_breaksNow wsX10_breaksNow) := goodIn_app (goodIn_of _ (by decide +kernel)) ggX10_breaks_X10_breaksNow
theorem dX10_breaks_0 : decode cX10_breaks 0 = .ok (.aload_n 0, 1) := by decide +kernel
theorem dX10_breaks_1 : decode cX10_breaks 1 = .ok (.invokevirtual 126, 3) := by decide +kernel
theorem dX10_breaks_4 : decode cX10_breaks 4 = .ok (.ireturn, 1) := by decide +kernel
set_option maxRecDepth 20000 in
theorem ggX10_stretchNow_X10_all : GoodIn wsX10_stretchNow wsX10_all := goodIn_r _ [7, 8, 16, 17, 18, 19, 20, 21, 22, 23, 24, 25, 26, 27, 28, 29, 30, 31, 32, 33, 34, 35, 36, 37, 38, 39, 40, 41, 42, 43, 44] (by decide +kernel) (by decide +kernel)
set_option maxRecDepth 20000 in
theorem gX10_stretchNow_X10_all : GoodIn wsX10_stretchNow (wsV RX10 85 RX10 yX10_all wsX10_all) := goodIn_app (goodIn_of _ (by decide +kernel)) ggX10_stretchNow_X10_all
set_option maxRecDepth 20000 in
theorem ggX10_stretchNow_X10_side : GoodIn wsX10_stretchNow wsX10_side := goodIn_r _ [12, 8, 16, 17, 18, 19, 20, 21, 22, 23, 24, 25, 26, 27, 28, 29, 30, 31, 32, 33, 34, 35, 36, 37, 38, 39, 40, 41, 42, 43, 44] (by decide +kernel) (by decide +kernel)
set_option maxRecDepth 20000 in
theorem gX10_stretchNow_X10_side : GoodIn wsX10_stretchNow (wsV RX10 109 RX10 yX10_side wsX10_side) := goodIn_app (goodIn_of _ (by decide +kernel)) ggX10_stretchNow_X10_side
set_option maxRecDepth 20000 in
theorem ggX10_stretchNow_X10_size : GoodIn wsX10_stretchNow wsX10_size := goodIn_r _ [15] (by decide +kernel) (by decide +kernel)
set_option maxRecDepth 20000 in
theorem gX10_stretchNow_X10_size : GoodIn wsX10_stretchNow (va_wsS RX10 119 yX10_size wsX10_size) := goodIn_app (goodIn_of _ (by decide +kernel)) ggX10_stretchNow_X10_size
theorem dX10_stretchNow_0 : decode cX10_stretchNow 0 = .ok (.iconst 0, 1) := by decide +kernel
theorem dX10_stretchNow_1 : decode cX10_stretchNow 1 = .ok (.istore_n 1, 1) := by decide +kernel
theorem dX10_stretchNow_2 : decode cX10_stretchNow 2 = .ok (.iconst 0, 1) := by decide +kernel
theorem dX10_stretchNow_3 : decode cX10_stretchNow 3 = .ok (.istore_n 2, 1) := by decide +kernel
theorem dX10_stretchNow_4 : decode cX10_stretchNow 4 = .ok (.iload_n 2, 1) := by decide +kernel
theorem dX10_stretchNow_5 : decode cX10_stretchNow 5 = .ok (.aload_n 0, 1) := by decide +kernel
theorem dX10_stretchNow_6 : decode cX10_stretchNow 6 = .ok (.invokevirtual 85, 3) := by decide +kernel
theorem dX10_stretchNow_9 : decode cX10_stretchNow 9 = .ok (.if_icmp .ge 107, 3) := by decide +kernel
theorem dX10_stretchNow_12 : decode cX10_stretchNow 12 = .ok (.aload_n 0, 1) := by decide +kernel
theorem dX10_stretchNow_13 : decode cX10_stretchNow 13 = .ok (.getfield 60, 3) := by decide +kernel
theorem dX10_stretchNow_16 : decode cX10_stretchNow 16 = .ok (.iload_n 2, 1) := by decide +kernel
theorem dX10_stretchNow_17 : decode cX10_stretchNow 17 = .ok (.iaload, 1) := by decide +kernel
theorem dX10_stretchNow_18 : decode cX10_stretchNow 18 = .ok (.istore_n 3, 1) := by decide +kernel
theorem dX10_stretchNow_19 : decode cX10_stretchNow 19 = .ok (.iload_n 3, 1) := by decide +kernel
theorem dX10_stretchNow_20 : decode cX10_stretchNow 20 = .ok (.bipush 64, 2) := by decide +kernel
theorem dX10_stretchNow_22 : decode cX10_stretchNow 22 = .ok (.irem, 1) := by decide +kernel
theorem dX10_stretchNow_23 : decode cX10_stretchNow 23 = .ok (.iconst 1, 1) := by decide +kernel
theorem dX10_stretchNow_24 : decode cX10_stretchNow 24 = .ok (.iadd, 1) := by decide +kernel
theorem dX10_stretchNow_25 : decode cX10_stretchNow 25 = .ok (.aload_n 0, 1) := by decide +kernel
theorem dX10_stretchNow_26 : decode cX10_stretchNow 26 = .ok (.invokevirtual 109, 3) := by decide +kernel
theorem dX10_stretchNow_29 : decode cX10_stretchNow 29 = .ok (.if_icmp .ge 19, 3) := by decide +kernel
theorem dX10_stretchNow_32 : decode cX10_stretchNow 32 = .ok (.aload_n 0, 1) := by decide +kernel
theorem dX10_stretchNow_33 : decode cX10_stretchNow 33 = .ok (.getfield 57, 3) := by decide +kernel
theorem dX10_stretchNow_36 : decode cX10_stretchNow 36 = .ok (.iload_n 3, 1) := by decide +kernel
theorem dX10_stretchNow_37 : decode cX10_stretchNow 37 = .ok (.iconst 1, 1) := by decide +kernel
theorem dX10_stretchNow_38 : decode cX10_stretchNow 38 = .ok (.iadd, 1) := by decide +kernel
theorem dX10_stretchNow_39 : decode cX10_stretchNow 39 = .ok (.iaload, 1) := by decide +kernel
theorem dX10_stretchNow_40 : decode cX10_stretchNow 40 = .ok (.iload_n 2, 1) := by decide +kernel
theorem dX10_stretchNow_41 : decode cX10_stretchNow 41 = .ok (.isub, 1) := by decide +kernel
theorem dX10_stretchNow_42 : decode cX10_stretchNow 42 = .ok (.invokestatic 119, 3) := by decide +kernel
theorem dX10_stretchNow_45 : decode cX10_stretchNow 45 = .ok (.goto 4, 3) := by decide +kernel
theorem dX10_stretchNow_48 : decode cX10_stretchNow 48 = .ok (.iconst 0, 1) := by decide +kernel
theorem dX10_stretchNow_49 : decode cX10_stretchNow 49 = .ok (.istore 4, 2) := by decide +kernel
theorem dX10_stretchNow_51 : decode cX10_stretchNow 51 = .ok (.iload_n 3, 1) := by decide +kernel
theorem dX10_stretchNow_52 : decode cX10_stretchNow 52 = .ok (.bipush 64, 2) := by decide +kernel
theorem dX10_stretchNow_54 : decode cX10_stretchNow 54 = .ok (.idiv, 1) := by decide +kernel
theorem dX10_stretchNow_55 : decode cX10_stretchNow 55 = .ok (.iconst 1, 1) := by decide +kernel
theorem dX10_stretchNow_56 : decode cX10_stretchNow 56 = .ok (.iadd, 1) := by decide +kernel
theorem dX10_stretchNow_57 : decode cX10_stretchNow 57 = .ok (.aload_n 0, 1) := by decide +kernel
theorem dX10_stretchNow_58 : decode cX10_stretchNow 58 = .ok (.invokevirtual 109, 3) := by decide +kernel
theorem dX10_stretchNow_61 : decode cX10_stretchNow 61 = .ok (.if_icmp .ge 20, 3) := by decide +kernel
theorem dX10_stretchNow_64 : decode cX10_stretchNow 64 = .ok (.aload_n 0, 1) := by decide +kernel
theorem dX10_stretchNow_65 : decode cX10_stretchNow 65 = .ok (.getfield 57, 3) := by decide +kernel
theorem dX10_stretchNow_68 : decode cX10_stretchNow 68 = .ok (.iload_n 3, 1) := by decide +kernel
theorem dX10_stretchNow_69 : decode cX10_stretchNow 69 = .ok (.bipush 64, 2) := by decide +kernel
theorem dX10_stretchNow_71 : decode cX10_stretchNow 71 = .ok (.iadd, 1) := by decide +kernel
theorem dX10_stretchNow_72 : decode cX10_stretchNow 72 = .ok (.iaload, 1) := by decide +kernel
theorem dX10_stretchNow_73 : decode cX10_stretchNow 73 = .ok (.iload_n 2, 1) := by decide +kernel
theorem dX10_stretchNow_74 : decode cX10_stretchNow 74 = .ok (.isub, 1) := by decide +kernel
theorem dX10_stretchNow_75 : decode cX10_stretchNow 75 = .ok (.invokestatic 119, 3) := by decide +kernel
theorem dX10_stretchNow_78 : decode cX10_stretchNow 78 = .ok (.goto 4, 3) := by decide +kernel
theorem dX10_stretchNow_81 : decode cX10_stretchNow 81 = .ok (.iconst 0, 1) := by decide +kernel
theorem dX10_stretchNow_82 : decode cX10_stretchNow 82 = .ok (.istore 5, 2) := by decide +kernel
theorem dX10_stretchNow_84 : decode cX10_stretchNow 84 = .ok (.iload 4, 2) := by decide +kernel
theorem dX10_stretchNow_86 : decode cX10_stretchNow 86 = .ok (.iload_n 1, 1) := by decide +kernel
theorem dX10_stretchNow_87 : decode cX10_stretchNow 87 = .ok (.if_icmp .le 8, 3) := by decide +kernel
theorem dX10_stretchNow_90 : decode cX10_stretchNow 90 = .ok (.iload 4, 2) := by decide +kernel
theorem dX10_stretchNow_92 : decode cX10_stretchNow 92 = .ok (.goto 4, 3) := by decide +kernel
theorem dX10_stretchNow_95 : decode cX10_stretchNow 95 = .ok (.iload_n 1, 1) := by decide +kernel
theorem dX10_stretchNow_96 : decode cX10_stretchNow 96 = .ok (.istore_n 1, 1) := by decide +kernel
theorem dX10_stretchNow_97 : decode cX10_stretchNow 97 = .ok (.iload 5, 2) := by decide +kernel
theorem dX10_stretchNow_99 : decode cX10_stretchNow 99 = .ok (.iload_n 1, 1) := by decide +kernel
theorem dX10_stretchNow_100 : decode cX10_stretchNow 100 = .ok (.if_icmp .le 8, 3) := by decide +kernel
theorem dX10_stretchNow_103 : decode cX10_stretchNow 103 = .ok (.iload 5, 2) := by decide +kernel
theorem dX10_stretchNow_105 : decode cX10_stretchNow 105 = .ok (.goto 4, 3) := by decide +kernel
theorem dX10_stretchNow_108 : decode cX10_stretchNow 108 = .ok (.iload_n 1, 1) := by decide +kernel
theorem dX10_stretchNow_109 : decode cX10_stretchNow 109 = .ok (.istore_n 1, 1) := by decide +kernel
theorem dX10_stretchNow_110 : decode cX10_stretchNow 110 = .ok (.iinc 2 1, 3) := by decide +kernel
theorem dX10_stretchNow_113 : decode cX10_stretchNow 113 = .ok (.goto (-109), 3) := by decide +kernel
theorem dX10_stretchNow_116 : decode cX10_stretchNow 116 = .ok (.iload_n 1, 1) := by decide +kernel
theorem dX10_stretchNow_117 : decode cX10_stretchNow 117 = .ok (.ireturn, 1) := by decide +kernel
set_option maxRecDepth 20000 in
theorem ggX10_stretch_X10_stretchNow : GoodIn wsX10_stretch wsX10_stretchNow := goodIn_r _ [5, 6, 7, 8, 9, 10, 4, 11, 12, 13, 14, 15, 16, 17, 18, 19, 20, 21, 22, 23, 24, 25, 26, 27, 28, 29, 30, 31, 32, 33, 34, 35, 36, 37, 38, 39, 40, 41, 42, 43, 44, 45, 46, 47, 48] (by decide +kernel) (by decide +kernel)
set_option maxRecDepth 20000 in
theorem gX10_stretch_X10_stretchNow : GoodIn wsX10_stretch (wsV RX10 129 RX10 yX10_stretchNow wsX10_stretchNow) := goodIn_app (goodIn_of _ (by decide +kernel)) ggX10_stretch_X10_stretchNow
theorem dX10_stretch_0 : decode cX10_stretch 0 = .ok (.aload_n 0, 1) := by decide +kernel
theorem dX10_stretch_1 : decode cX10_stretch 1 = .ok (.invokevirtual 129, 3) := by decide +kernel
theorem dX10_stretch_4 : decode cX10_stretch 4 = .ok (.ireturn, 1) := by decide +kernel
set_option maxRecDepth 20000 in
theorem ggX10_append_X10_in : GoodIn wsX10_append wsX10_in := goodIn_r _ [6] (by decide +kernel) (by decide +kernel)
set_option maxRecDepth 20000 in
theorem gX10_append_X10_in : GoodIn wsX10_append (va_wsS RX10 99 yX10_in wsX10_in) := goodIn_app (goodIn_of _ (by decide +kernel)) ggX10_append_X10_in
theorem dX10_append_0 : decode cX10_append 0 = .ok (.iload_n 1, 1) := by decide +kernel
theorem dX10_append_1 : decode cX10_append 1 = .ok (.iconst 0, 1) := by decide +kernel
theorem dX10_append_2 : decode cX10_append 2 = .ok (.bipush 127, 2) := by decide +kernel
theorem dX10_append_4 : decode cX10_append 4 = .ok (.invokestatic 99, 3) := by decide +kernel
theorem dX10_append_7 : decode cX10_append 7 = .ok (.ifCond .ne 6, 3) := by decide +kernel
theorem dX10_append_10 : decode cX10_append 10 = .ok (.bipush (-2), 2) := by decide +kernel
theorem dX10_append_12 : decode cX10_append 12 = .ok (.ireturn, 1) := by decide +kernel
theorem dX10_append_13 : decode cX10_append 13 = .ok (.aload_n 0, 1) := by decide +kernel
theorem dX10_append_14 : decode cX10_append 14 = .ok (.getfield 132, 3) := by decide +kernel
theorem dX10_append_17 : decode cX10_append 17 = .ok (.bipush 80, 2) := by decide +kernel
theorem dX10_append_19 : decode cX10_append 19 = .ok (.if_icmp .ne 6, 3) := by decide +kernel
theorem dX10_append_22 : decode cX10_append 22 = .ok (.bipush (-4), 2) := by decide +kernel
theorem dX10_append_24 : decode cX10_append 24 = .ok (.ireturn, 1) := by decide +kernel
theorem dX10_append_25 : decode cX10_append 25 = .ok (.aload_n 0, 1) := by decide +kernel
theorem dX10_append_26 : decode cX10_append 26 = .ok (.getfield 38, 3) := by decide +kernel
theorem dX10_append_29 : decode cX10_append 29 = .ok (.aload_n 0, 1) := by decide +kernel
theorem dX10_append_30 : decode cX10_append 30 = .ok (.getfield 132, 3) := by decide +kernel
theorem dX10_append_33 : decode cX10_append 33 = .ok (.iload_n 1, 1) := by decide +kernel
theorem dX10_append_34 : decode cX10_append 34 = .ok (.iastore, 1) := by decide +kernel
theorem dX10_append_35 : decode cX10_append 35 = .ok (.aload_n 0, 1) := by decide +kernel
theorem dX10_append_36 : decode cX10_append 36 = .ok (.dup, 1) := by decide +kernel
theorem dX10_append_37 : decode cX10_append 37 = .ok (.getfield 132, 3) := by decide +kernel
theorem dX10_append_40 : decode cX10_append 40 = .ok (.iconst 1, 1) := by decide +kernel
theorem dX10_append_41 : decode cX10_append 41 = .ok (.iadd, 1) := by decide +kernel
theorem dX10_append_42 : decode cX10_append 42 = .ok (.putfield 132, 3) := by decide +kernel
theorem dX10_append_45 : decode cX10_append 45 = .ok (.aload_n 0, 1) := by decide +kernel
theorem dX10_append_46 : decode cX10_append 46 = .ok (.getfield 132, 3) := by decide +kernel
theorem dX10_append_49 : decode cX10_append 49 = .ok (.ireturn, 1) := by decide +kernel
theorem dX10_clearText_0 : decode cX10_clearText 0 = .ok (.aload_n 0, 1) := by decide +kernel
theorem dX10_clearText_1 : decode cX10_clearText 1 = .ok (.getfield 132, 3) := by decide +kernel
theorem dX10_clearText_4 : decode cX10_clearText 4 = .ok (.istore_n 1, 1) := by decide +kernel
theorem dX10_clearText_5 : decode cX10_clearText 5 = .ok (.aload_n 0, 1) := by decide +kernel
theorem dX10_clearText_6 : decode cX10_clearText 6 = .ok (.iconst 0, 1) := by decide +kernel
theorem dX10_clearText_7 : decode cX10_clearText 7 = .ok (.putfield 132, 3) := by decide +kernel
theorem dX10_clearText_10 : decode cX10_clearText 10 = .ok (.iload_n 1, 1) := by decide +kernel
theorem dX10_clearText_11 : decode cX10_clearText 11 = .ok (.ireturn, 1) := by decide +kernel
set_option maxRecDepth 20000 in
theorem ggX10_isWell_X10_in : GoodIn wsX10_isWell wsX10_in := goodIn_r _ [5] (by decide +kernel) (by decide +kernel)
set_option maxRecDepth 20000 in
theorem gX10_isWell_X10_in : GoodIn wsX10_isWell (va_wsS RX10 99 yX10_in wsX10_in) := goodIn_app (goodIn_of _ (by decide +kernel)) ggX10_isWell_X10_in
theorem dX10_isWell_0 : decode cX10_isWell 0 = .ok (.iload_n 1, 1) := by decide +kernel
theorem dX10_isWell_1 : decode cX10_isWell 1 = .ok (.bipush 9, 2) := by decide +kernel
theorem dX10_isWell_3 : decode cX10_isWell 3 = .ok (.irem, 1) := by decide +kernel
theorem dX10_isWell_4 : decode cX10_isWell 4 = .ok (.istore_n 2, 1) := by decide +kernel
theorem dX10_isWell_5 : decode cX10_isWell 5 = .ok (.iload_n 1, 1) := by decide +kernel
theorem dX10_isWell_6 : decode cX10_isWell 6 = .ok (.bipush 72, 2) := by decide +kernel
theorem dX10_isWell_8 : decode cX10_isWell 8 = .ok (.if_icmp .lt 5, 3) := by decide +kernel
theorem dX10_isWell_11 : decode cX10_isWell 11 = .ok (.iconst 0, 1) := by decide +kernel
theorem dX10_isWell_12 : decode cX10_isWell 12 = .ok (.ireturn, 1) := by decide +kernel
theorem dX10_isWell_13 : decode cX10_isWell 13 = .ok (.iload_n 2, 1) := by decide +kernel
theorem dX10_isWell_14 : decode cX10_isWell 14 = .ok (.bipush 8, 2) := by decide +kernel
theorem dX10_isWell_16 : decode cX10_isWell 16 = .ok (.if_icmp .ne 20, 3) := by decide +kernel
theorem dX10_isWell_19 : decode cX10_isWell 19 = .ok (.aload_n 0, 1) := by decide +kernel
theorem dX10_isWell_20 : decode cX10_isWell 20 = .ok (.getfield 38, 3) := by decide +kernel
theorem dX10_isWell_23 : decode cX10_isWell 23 = .ok (.iload_n 1, 1) := by decide +kernel
theorem dX10_isWell_24 : decode cX10_isWell 24 = .ok (.iaload, 1) := by decide +kernel
theorem dX10_isWell_25 : decode cX10_isWell 25 = .ok (.bipush 59, 2) := by decide +kernel
theorem dX10_isWell_27 : decode cX10_isWell 27 = .ok (.if_icmp .ne 7, 3) := by decide +kernel
theorem dX10_isWell_30 : decode cX10_isWell 30 = .ok (.iconst 1, 1) := by decide +kernel
theorem dX10_isWell_31 : decode cX10_isWell 31 = .ok (.goto 4, 3) := by decide +kernel
theorem dX10_isWell_34 : decode cX10_isWell 34 = .ok (.iconst 0, 1) := by decide +kernel
theorem dX10_isWell_35 : decode cX10_isWell 35 = .ok (.ireturn, 1) := by decide +kernel
theorem dX10_isWell_36 : decode cX10_isWell 36 = .ok (.aload_n 0, 1) := by decide +kernel
theorem dX10_isWell_37 : decode cX10_isWell 37 = .ok (.getfield 38, 3) := by decide +kernel
theorem dX10_isWell_40 : decode cX10_isWell 40 = .ok (.iload_n 1, 1) := by decide +kernel
theorem dX10_isWell_41 : decode cX10_isWell 41 = .ok (.iaload, 1) := by decide +kernel
theorem dX10_isWell_42 : decode cX10_isWell 42 = .ok (.bipush 48, 2) := by decide +kernel
theorem dX10_isWell_44 : decode cX10_isWell 44 = .ok (.iload_n 2, 1) := by decide +kernel
theorem dX10_isWell_45 : decode cX10_isWell 45 = .ok (.iconst 4, 1) := by decide +kernel
theorem dX10_isWell_46 : decode cX10_isWell 46 = .ok (.if_icmp .ge 8, 3) := by decide +kernel
theorem dX10_isWell_49 : decode cX10_isWell 49 = .ok (.bipush 51, 2) := by decide +kernel
theorem dX10_isWell_51 : decode cX10_isWell 51 = .ok (.goto 5, 3) := by decide +kernel
theorem dX10_isWell_54 : decode cX10_isWell 54 = .ok (.bipush 57, 2) := by decide +kernel
theorem dX10_isWell_56 : decode cX10_isWell 56 = .ok (.invokestatic 99, 3) := by decide +kernel
theorem dX10_isWell_59 : decode cX10_isWell 59 = .ok (.istore_n 3, 1) := by decide +kernel
theorem dX10_isWell_60 : decode cX10_isWell 60 = .ok (.iload_n 1, 1) := by decide +kernel
theorem dX10_isWell_61 : decode cX10_isWell 61 = .ok (.iload_n 2, 1) := by decide +kernel
theorem dX10_isWell_62 : decode cX10_isWell 62 = .ok (.isub, 1) := by decide +kernel
theorem dX10_isWell_63 : decode cX10_isWell 63 = .ok (.istore 4, 2) := by decide +kernel
theorem dX10_isWell_65 : decode cX10_isWell 65 = .ok (.iload 4, 2) := by decide +kernel
theorem dX10_isWell_67 : decode cX10_isWell 67 = .ok (.iload_n 1, 1) := by decide +kernel
theorem dX10_isWell_68 : decode cX10_isWell 68 = .ok (.if_icmp .ge 40, 3) := by decide +kernel
theorem dX10_isWell_71 : decode cX10_isWell 71 = .ok (.iload_n 2, 1) := by decide +kernel
theorem dX10_isWell_72 : decode cX10_isWell 72 = .ok (.iconst 4, 1) := by decide +kernel
theorem dX10_isWell_73 : decode cX10_isWell 73 = .ok (.if_icmp .ge 35, 3) := by decide +kernel
theorem dX10_isWell_76 : decode cX10_isWell 76 = .ok (.iload_n 3, 1) := by decide +kernel
theorem dX10_isWell_77 : decode cX10_isWell 77 = .ok (.ifCond .eq 23, 3) := by decide +kernel
theorem dX10_isWell_80 : decode cX10_isWell 80 = .ok (.aload_n 0, 1) := by decide +kernel
theorem dX10_isWell_81 : decode cX10_isWell 81 = .ok (.getfield 38, 3) := by decide +kernel
theorem dX10_isWell_84 : decode cX10_isWell 84 = .ok (.iload 4, 2) := by decide +kernel
theorem dX10_isWell_86 : decode cX10_isWell 86 = .ok (.iaload, 1) := by decide +kernel
theorem dX10_isWell_87 : decode cX10_isWell 87 = .ok (.aload_n 0, 1) := by decide +kernel
theorem dX10_isWell_88 : decode cX10_isWell 88 = .ok (.getfield 38, 3) := by decide +kernel
theorem dX10_isWell_91 : decode cX10_isWell 91 = .ok (.iload_n 1, 1) := by decide +kernel
theorem dX10_isWell_92 : decode cX10_isWell 92 = .ok (.iaload, 1) := by decide +kernel
theorem dX10_isWell_93 : decode cX10_isWell 93 = .ok (.if_icmp .eq 7, 3) := by decide +kernel
theorem dX10_isWell_96 : decode cX10_isWell 96 = .ok (.iconst 1, 1) := by decide +kernel
theorem dX10_isWell_97 : decode cX10_isWell 97 = .ok (.goto 4, 3) := by decide +kernel
theorem dX10_isWell_100 : decode cX10_isWell 100 = .ok (.iconst 0, 1) := by decide +kernel
theorem dX10_isWell_101 : decode cX10_isWell 101 = .ok (.istore_n 3, 1) := by decide +kernel
theorem dX10_isWell_102 : decode cX10_isWell 102 = .ok (.iinc 4 1, 3) := by decide +kernel
theorem dX10_isWell_105 : decode cX10_isWell 105 = .ok (.goto (-40), 3) := by decide +kernel
theorem dX10_isWell_108 : decode cX10_isWell 108 = .ok (.iload_n 3, 1) := by decide +kernel
theorem dX10_isWell_109 : decode cX10_isWell 109 = .ok (.ireturn, 1) := by decide +kernel
set_option maxRecDepth 20000 in
theorem ggX10_fault_X10_isWell : GoodIn wsX10_fault wsX10_isWell := goodIn_r _ [7, 2, 8, 9, 6, 10, 11, 12, 13, 14, 15, 16, 17, 18, 19, 20, 21, 22, 23, 24, 25, 26, 27, 28, 29, 30, 31, 32, 33, 34, 35, 36, 37, 38, 39] (by decide +kernel) (by decide +kernel)
set_option maxRecDepth 20000 in
theorem gX10_fault_X10_isWell : GoodIn wsX10_fault (wsV RX10 135 RX10 yX10_isWell wsX10_isWell) := goodIn_app (goodIn_of _ (by decide +kernel)) ggX10_fault_X10_isWell
set_option maxRecDepth 20000 in
theorem ggX10_fault_X10_in : GoodIn wsX10_fault wsX10_in := goodIn_r _ [10] (by decide +kernel) (by decide +kernel)
set_option maxRecDepth 20000 in
theorem gX10_fault_X10_in : GoodIn wsX10_fault (va_wsS RX10 99 yX10_in wsX10_in) := goodIn_app (goodIn_of _ (by decide +kernel)) ggX10_fault_X10_in
theorem dX10_fault_0 : decode cX10_fault 0 = .ok (.iconst 0, 1) := by decide +kernel
theorem dX10_fault_1 : decode cX10_fault 1 = .ok (.istore_n 1, 1) := by decide +kernel
theorem dX10_fault_2 : decode cX10_fault 2 = .ok (.iload_n 1, 1) := by decide +kernel
theorem dX10_fault_3 : decode cX10_fault 3 = .ok (.aload_n 0, 1) := by decide +kernel
theorem dX10_fault_4 : decode cX10_fault 4 = .ok (.getfield 132, 3) := by decide +kernel
theorem dX10_fault_7 : decode cX10_fault 7 = .ok (.if_icmp .ge 19, 3) := by decide +kernel
theorem dX10_fault_10 : decode cX10_fault 10 = .ok (.aload_n 0, 1) := by decide +kernel
theorem dX10_fault_11 : decode cX10_fault 11 = .ok (.iload_n 1, 1) := by decide +kernel
theorem dX10_fault_12 : decode cX10_fault 12 = .ok (.invokevirtual 135, 3) := by decide +kernel
theorem dX10_fault_15 : decode cX10_fault 15 = .ok (.ifCond .ne 5, 3) := by decide +kernel
theorem dX10_fault_18 : decode cX10_fault 18 = .ok (.iload_n 1, 1) := by decide +kernel
theorem dX10_fault_19 : decode cX10_fault 19 = .ok (.ireturn, 1) := by decide +kernel
theorem dX10_fault_20 : decode cX10_fault 20 = .ok (.iinc 1 1, 3) := by decide +kernel
theorem dX10_fault_23 : decode cX10_fault 23 = .ok (.goto (-21), 3) := by decide +kernel
theorem dX10_fault_26 : decode cX10_fault 26 = .ok (.aload_n 0, 1) := by decide +kernel
theorem dX10_fault_27 : decode cX10_fault 27 = .ok (.getfield 132, 3) := by decide +kernel
theorem dX10_fault_30 : decode cX10_fault 30 = .ok (.ifCond .eq 13, 3) := by decide +kernel
theorem dX10_fault_33 : decode cX10_fault 33 = .ok (.aload_n 0, 1) := by decide +kernel
theorem dX10_fault_34 : decode cX10_fault 34 = .ok (.getfield 132, 3) := by decide +kernel
theorem dX10_fault_37 : decode cX10_fault 37 = .ok (.bipush 9, 2) := by decide +kernel
theorem dX10_fault_39 : decode cX10_fault 39 = .ok (.irem, 1) := by decide +kernel
theorem dX10_fault_40 : decode cX10_fault 40 = .ok (.ifCond .eq 8, 3) := by decide +kernel
theorem dX10_fault_43 : decode cX10_fault 43 = .ok (.aload_n 0, 1) := by decide +kernel
theorem dX10_fault_44 : decode cX10_fault 44 = .ok (.getfield 132, 3) := by decide +kernel
theorem dX10_fault_47 : decode cX10_fault 47 = .ok (.ireturn, 1) := by decide +kernel
theorem dX10_fault_48 : decode cX10_fault 48 = .ok (.iconst 0, 1) := by decide +kernel
theorem dX10_fault_49 : decode cX10_fault 49 = .ok (.istore_n 1, 1) := by decide +kernel
theorem dX10_fault_50 : decode cX10_fault 50 = .ok (.iload_n 1, 1) := by decide +kernel
theorem dX10_fault_51 : decode cX10_fault 51 = .ok (.aload_n 0, 1) := by decide +kernel
theorem dX10_fault_52 : decode cX10_fault 52 = .ok (.getfield 132, 3) := by decide +kernel
theorem dX10_fault_55 : decode cX10_fault 55 = .ok (.if_icmp .ge 43, 3) := by decide +kernel
theorem dX10_fault_58 : decode cX10_fault 58 = .ok (.iload_n 1, 1) := by decide +kernel
theorem dX10_fault_59 : decode cX10_fault 59 = .ok (.bipush 9, 2) := by decide +kernel
theorem dX10_fault_61 : decode cX10_fault 61 = .ok (.irem, 1) := by decide +kernel
theorem dX10_fault_62 : decode cX10_fault 62 = .ok (.iconst 4, 1) := by decide +kernel
theorem dX10_fault_63 : decode cX10_fault 63 = .ok (.bipush 7, 2) := by decide +kernel
theorem dX10_fault_65 : decode cX10_fault 65 = .ok (.invokestatic 99, 3) := by decide +kernel
theorem dX10_fault_68 : decode cX10_fault 68 = .ok (.ifCond .eq 24, 3) := by decide +kernel
theorem dX10_fault_71 : decode cX10_fault 71 = .ok (.aload_n 0, 1) := by decide +kernel
theorem dX10_fault_72 : decode cX10_fault 72 = .ok (.getfield 38, 3) := by decide +kernel
theorem dX10_fault_75 : decode cX10_fault 75 = .ok (.iload_n 1, 1) := by decide +kernel
theorem dX10_fault_76 : decode cX10_fault 76 = .ok (.iaload, 1) := by decide +kernel
theorem dX10_fault_77 : decode cX10_fault 77 = .ok (.bipush 48, 2) := by decide +kernel
theorem dX10_fault_79 : decode cX10_fault 79 = .ok (.isub, 1) := by decide +kernel
theorem dX10_fault_80 : decode cX10_fault 80 = .ok (.aload_n 0, 1) := by decide +kernel
theorem dX10_fault_81 : decode cX10_fault 81 = .ok (.getfield 132, 3) := by decide +kernel
theorem dX10_fault_84 : decode cX10_fault 84 = .ok (.bipush 9, 2) := by decide +kernel
theorem dX10_fault_86 : decode cX10_fault 86 = .ok (.idiv, 1) := by decide +kernel
theorem dX10_fault_87 : decode cX10_fault 87 = .ok (.if_icmp .lt 5, 3) := by decide +kernel
theorem dX10_fault_90 : decode cX10_fault 90 = .ok (.iload_n 1, 1) := by decide +kernel
theorem dX10_fault_91 : decode cX10_fault 91 = .ok (.ireturn, 1) := by decide +kernel
theorem dX10_fault_92 : decode cX10_fault 92 = .ok (.iinc 1 1, 3) := by decide +kernel
theorem dX10_fault_95 : decode cX10_fault 95 = .ok (.goto (-45), 3) := by decide +kernel
theorem dX10_fault_98 : decode cX10_fault 98 = .ok (.iconst (-1), 1) := by decide +kernel
theorem dX10_fault_99 : decode cX10_fault 99 = .ok (.ireturn, 1) := by decide +kernel
set_option maxRecDepth 20000 in
theorem ggX10_faultPosition_X10_fault : GoodIn wsX10_faultPosition wsX10_fault := goodIn_r _ [5, 6, 7, 8, 9, 10, 4, 11, 12, 13, 14, 15, 16, 17, 18, 19, 20, 21, 22, 23, 24, 25, 26, 27, 28, 29, 30, 31, 32, 33, 34, 35, 36, 37, 38, 39, 40, 41, 42, 43] (by decide +kernel) (by decide +kernel)
set_option maxRecDepth 20000 in
theorem gX10_faultPosition_X10_fault : GoodIn wsX10_faultPosition (wsV RX10 139 RX10 yX10_fault wsX10_fault) := goodIn_app (goodIn_of _ (by decide +kernel)) ggX10_faultPosition_X10_fault
theorem dX10_faultPosition_0 : decode cX10_faultPosition 0 = .ok (.aload_n 0, 1) := by decide +kernel
theorem dX10_faultPosition_1 : decode cX10_faultPosition 1 = .ok (.invokevirtual 139, 3) := by decide +kernel
theorem dX10_faultPosition_4 : decode cX10_faultPosition 4 = .ok (.istore_n 1, 1) := by decide +kernel
theorem dX10_faultPosition_5 : decode cX10_faultPosition 5 = .ok (.iload_n 1, 1) := by decide +kernel
theorem dX10_faultPosition_6 : decode cX10_faultPosition 6 = .ok (.ifCond .ge 8, 3) := by decide +kernel
theorem dX10_faultPosition_9 : decode cX10_faultPosition 9 = .ok (.bipush (-5), 2) := by decide +kernel
theorem dX10_faultPosition_11 : decode cX10_faultPosition 11 = .ok (.goto 4, 3) := by decide +kernel
theorem dX10_faultPosition_14 : decode cX10_faultPosition 14 = .ok (.iload_n 1, 1) := by decide +kernel
theorem dX10_faultPosition_15 : decode cX10_faultPosition 15 = .ok (.ireturn, 1) := by decide +kernel
set_option maxRecDepth 20000 in
theorem ggX10_read_X10_fault : GoodIn wsX10_read wsX10_fault := goodIn_r _ [10, 1, 3, 11, 12, 13, 9, 14, 15, 16, 17, 56, 57, 58, 59, 60, 61, 62, 63, 64, 65, 66, 67, 68, 69, 70, 71, 72, 73, 74, 75, 76, 77, 78, 79, 80, 81, 82, 83, 84] (by decide +kernel) (by decide +kernel)
set_option maxRecDepth 20000 in
theorem gX10_read_X10_fault : GoodIn wsX10_read (wsV RX10 139 RX10 yX10_fault wsX10_fault) := goodIn_app (goodIn_of _ (by decide +kernel)) ggX10_read_X10_fault
set_option maxRecDepth 20000 in
theorem ggX10_read_X10_numbers : GoodIn wsX10_read wsX10_numbers := goodIn_r _ [21, 22, 23, 24, 25, 26, 27, 9, 28, 29, 30, 31, 32, 2, 5, 33, 34, 35, 36, 37, 38, 39, 40, 41, 42, 43, 44, 45, 46, 47, 48, 49, 50, 51, 52, 53, 54, 55, 56, 57, 58, 59, 60, 61, 62, 63, 64, 65, 66, 67, 68, 69, 70, 71, 72, 73, 74, 75, 76, 77, 78, 79, 80, 81, 82, 83, 84] (by decide +kernel) (by decide +kernel)
set_option maxRecDepth 20000 in
theorem gX10_read_X10_numbers : GoodIn wsX10_read (wsV RX10 79 RX10 yX10_numbers wsX10_numbers) := goodIn_app (goodIn_of _ (by decide +kernel)) ggX10_read_X10_numbers
theorem dX10_read_0 : decode cX10_read 0 = .ok (.aload_n 0, 1) := by decide +kernel
theorem dX10_read_1 : decode cX10_read 1 = .ok (.invokevirtual 139, 3) := by decide +kernel
theorem dX10_read_4 : decode cX10_read 4 = .ok (.ifCond .lt 6, 3) := by decide +kernel
theorem dX10_read_7 : decode cX10_read 7 = .ok (.bipush (-3), 2) := by decide +kernel
theorem dX10_read_9 : decode cX10_read 9 = .ok (.ireturn, 1) := by decide +kernel
theorem dX10_read_10 : decode cX10_read 10 = .ok (.aload_n 0, 1) := by decide +kernel
theorem dX10_read_11 : decode cX10_read 11 = .ok (.getfield 132, 3) := by decide +kernel
theorem dX10_read_14 : decode cX10_read 14 = .ok (.bipush 9, 2) := by decide +kernel
theorem dX10_read_16 : decode cX10_read 16 = .ok (.idiv, 1) := by decide +kernel
theorem dX10_read_17 : decode cX10_read 17 = .ok (.istore_n 1, 1) := by decide +kernel
theorem dX10_read_18 : decode cX10_read 18 = .ok (.iconst 0, 1) := by decide +kernel
theorem dX10_read_19 : decode cX10_read 19 = .ok (.istore_n 2, 1) := by decide +kernel
theorem dX10_read_20 : decode cX10_read 20 = .ok (.iload_n 2, 1) := by decide +kernel
theorem dX10_read_21 : decode cX10_read 21 = .ok (.aload_n 0, 1) := by decide +kernel
theorem dX10_read_22 : decode cX10_read 22 = .ok (.getfield 132, 3) := by decide +kernel
theorem dX10_read_25 : decode cX10_read 25 = .ok (.if_icmp .ge 48, 3) := by decide +kernel
theorem dX10_read_28 : decode cX10_read 28 = .ok (.iload_n 2, 1) := by decide +kernel
theorem dX10_read_29 : decode cX10_read 29 = .ok (.bipush 9, 2) := by decide +kernel
theorem dX10_read_31 : decode cX10_read 31 = .ok (.irem, 1) := by decide +kernel
theorem dX10_read_32 : decode cX10_read 32 = .ok (.bipush 8, 2) := by decide +kernel
theorem dX10_read_34 : decode cX10_read 34 = .ok (.if_icmp .ge 33, 3) := by decide +kernel
theorem dX10_read_37 : decode cX10_read 37 = .ok (.aload_n 0, 1) := by decide +kernel
theorem dX10_read_38 : decode cX10_read 38 = .ok (.getfield 17, 3) := by decide +kernel
theorem dX10_read_41 : decode cX10_read 41 = .ok (.sipush 128, 3) := by decide +kernel
theorem dX10_read_44 : decode cX10_read 44 = .ok (.bipush 8, 2) := by decide +kernel
theorem dX10_read_46 : decode cX10_read 46 = .ok (.iload_n 2, 1) := by decide +kernel
theorem dX10_read_47 : decode cX10_read 47 = .ok (.bipush 9, 2) := by decide +kernel
theorem dX10_read_49 : decode cX10_read 49 = .ok (.idiv, 1) := by decide +kernel
theorem dX10_read_50 : decode cX10_read 50 = .ok (.imul, 1) := by decide +kernel
theorem dX10_read_51 : decode cX10_read 51 = .ok (.iadd, 1) := by decide +kernel
theorem dX10_read_52 : decode cX10_read 52 = .ok (.iload_n 2, 1) := by decide +kernel
theorem dX10_read_53 : decode cX10_read 53 = .ok (.bipush 9, 2) := by decide +kernel
theorem dX10_read_55 : decode cX10_read 55 = .ok (.irem, 1) := by decide +kernel
theorem dX10_read_56 : decode cX10_read 56 = .ok (.iadd, 1) := by decide +kernel
theorem dX10_read_57 : decode cX10_read 57 = .ok (.aload_n 0, 1) := by decide +kernel
theorem dX10_read_58 : decode cX10_read 58 = .ok (.getfield 38, 3) := by decide +kernel
theorem dX10_read_61 : decode cX10_read 61 = .ok (.iload_n 2, 1) := by decide +kernel
theorem dX10_read_62 : decode cX10_read 62 = .ok (.iaload, 1) := by decide +kernel
theorem dX10_read_63 : decode cX10_read 63 = .ok (.bipush 48, 2) := by decide +kernel
theorem dX10_read_65 : decode cX10_read 65 = .ok (.isub, 1) := by decide +kernel
theorem dX10_read_66 : decode cX10_read 66 = .ok (.iastore, 1) := by decide +kernel
theorem dX10_read_67 : decode cX10_read 67 = .ok (.iinc 2 1, 3) := by decide +kernel
theorem dX10_read_70 : decode cX10_read 70 = .ok (.goto (-50), 3) := by decide +kernel
theorem dX10_read_73 : decode cX10_read 73 = .ok (.aload_n 0, 1) := by decide +kernel
theorem dX10_read_74 : decode cX10_read 74 = .ok (.getfield 13, 3) := by decide +kernel
theorem dX10_read_77 : decode cX10_read 77 = .ok (.iconst 2, 1) := by decide +kernel
theorem dX10_read_78 : decode cX10_read 78 = .ok (.iload_n 1, 1) := by decide +kernel
theorem dX10_read_79 : decode cX10_read 79 = .ok (.iastore, 1) := by decide +kernel
theorem dX10_read_80 : decode cX10_read 80 = .ok (.aload_n 0, 1) := by decide +kernel
theorem dX10_read_81 : decode cX10_read 81 = .ok (.iconst 2, 1) := by decide +kernel
theorem dX10_read_82 : decode cX10_read 82 = .ok (.putfield 82, 3) := by decide +kernel
theorem dX10_read_85 : decode cX10_read 85 = .ok (.aload_n 0, 1) := by decide +kernel
theorem dX10_read_86 : decode cX10_read 86 = .ok (.invokevirtual 79, 3) := by decide +kernel
theorem dX10_read_89 : decode cX10_read 89 = .ok (.iload_n 1, 1) := by decide +kernel
theorem dX10_read_90 : decode cX10_read 90 = .ok (.ireturn, 1) := by decide +kernel
set_option maxRecDepth 20000 in
theorem ggX10_setRange_X10_side : GoodIn wsX10_setRange wsX10_side := goodIn_r _ [9, 10, 14, 15, 16, 17, 18, 19, 20, 21, 22, 23, 24, 25, 26, 27, 28, 29, 30, 31, 32, 33, 34, 35, 36, 37, 38, 39, 40, 41, 42] (by decide +kernel) (by decide +kernel)
set_option maxRecDepth 20000 in
theorem gX10_setRange_X10_side : GoodIn wsX10_setRange (wsV RX10 109 RX10 yX10_side wsX10_side) := goodIn_app (goodIn_of _ (by decide +kernel)) ggX10_setRange_X10_side
set_option maxRecDepth 20000 in
theorem ggX10_setRange_X10_in : GoodIn wsX10_setRange wsX10_in := goodIn_r _ [13] (by decide +kernel) (by decide +kernel)
set_option maxRecDepth 20000 in
theorem gX10_setRange_X10_in : GoodIn wsX10_setRange (va_wsS RX10 99 yX10_in wsX10_in) := goodIn_app (goodIn_of _ (by decide +kernel)) ggX10_setRange_X10_in
theorem dX10_setRange_0 : decode cX10_setRange 0 = .ok (.aload_n 0, 1) := by decide +kernel
theorem dX10_setRange_1 : decode cX10_setRange 1 = .ok (.invokevirtual 109, 3) := by decide +kernel
theorem dX10_setRange_4 : decode cX10_setRange 4 = .ok (.iconst 1, 1) := by decide +kernel
theorem dX10_setRange_5 : decode cX10_setRange 5 = .ok (.isub, 1) := by decide +kernel
theorem dX10_setRange_6 : decode cX10_setRange 6 = .ok (.istore 5, 2) := by decide +kernel
theorem dX10_setRange_8 : decode cX10_setRange 8 = .ok (.iload_n 1, 1) := by decide +kernel
theorem dX10_setRange_9 : decode cX10_setRange 9 = .ok (.iconst 0, 1) := by decide +kernel
theorem dX10_setRange_10 : decode cX10_setRange 10 = .ok (.iload 5, 2) := by decide +kernel
theorem dX10_setRange_12 : decode cX10_setRange 12 = .ok (.invokestatic 99, 3) := by decide +kernel
theorem dX10_setRange_15 : decode cX10_setRange 15 = .ok (.ifCond .eq 34, 3) := by decide +kernel
theorem dX10_setRange_18 : decode cX10_setRange 18 = .ok (.iload_n 2, 1) := by decide +kernel
theorem dX10_setRange_19 : decode cX10_setRange 19 = .ok (.iconst 0, 1) := by decide +kernel
theorem dX10_setRange_20 : decode cX10_setRange 20 = .ok (.iload 5, 2) := by decide +kernel
theorem dX10_setRange_22 : decode cX10_setRange 22 = .ok (.invokestatic 99, 3) := by decide +kernel
theorem dX10_setRange_25 : decode cX10_setRange 25 = .ok (.ifCond .eq 24, 3) := by decide +kernel
theorem dX10_setRange_28 : decode cX10_setRange 28 = .ok (.iload_n 3, 1) := by decide +kernel
theorem dX10_setRange_29 : decode cX10_setRange 29 = .ok (.iload_n 1, 1) := by decide +kernel
theorem dX10_setRange_30 : decode cX10_setRange 30 = .ok (.iload 5, 2) := by decide +kernel
theorem dX10_setRange_32 : decode cX10_setRange 32 = .ok (.invokestatic 99, 3) := by decide +kernel
theorem dX10_setRange_35 : decode cX10_setRange 35 = .ok (.ifCond .eq 14, 3) := by decide +kernel
theorem dX10_setRange_38 : decode cX10_setRange 38 = .ok (.iload 4, 2) := by decide +kernel
theorem dX10_setRange_40 : decode cX10_setRange 40 = .ok (.iload_n 2, 1) := by decide +kernel
theorem dX10_setRange_41 : decode cX10_setRange 41 = .ok (.iload 5, 2) := by decide +kernel
theorem dX10_setRange_43 : decode cX10_setRange 43 = .ok (.invokestatic 99, 3) := by decide +kernel
theorem dX10_setRange_46 : decode cX10_setRange 46 = .ok (.ifCond .ne 6, 3) := by decide +kernel
theorem dX10_setRange_49 : decode cX10_setRange 49 = .ok (.bipush (-2), 2) := by decide +kernel
theorem dX10_setRange_51 : decode cX10_setRange 51 = .ok (.ireturn, 1) := by decide +kernel
theorem dX10_setRange_52 : decode cX10_setRange 52 = .ok (.aload_n 0, 1) := by decide +kernel
theorem dX10_setRange_53 : decode cX10_setRange 53 = .ok (.iload_n 1, 1) := by decide +kernel
theorem dX10_setRange_54 : decode cX10_setRange 54 = .ok (.putfield 103, 3) := by decide +kernel
theorem dX10_setRange_57 : decode cX10_setRange 57 = .ok (.aload_n 0, 1) := by decide +kernel
theorem dX10_setRange_58 : decode cX10_setRange 58 = .ok (.iload_n 2, 1) := by decide +kernel
theorem dX10_setRange_59 : decode cX10_setRange 59 = .ok (.putfield 106, 3) := by decide +kernel
theorem dX10_setRange_62 : decode cX10_setRange 62 = .ok (.aload_n 0, 1) := by decide +kernel
theorem dX10_setRange_63 : decode cX10_setRange 63 = .ok (.iload_n 3, 1) := by decide +kernel
theorem dX10_setRange_64 : decode cX10_setRange 64 = .ok (.putfield 20, 3) := by decide +kernel
theorem dX10_setRange_67 : decode cX10_setRange 67 = .ok (.aload_n 0, 1) := by decide +kernel
theorem dX10_setRange_68 : decode cX10_setRange 68 = .ok (.iload 4, 2) := by decide +kernel
theorem dX10_setRange_70 : decode cX10_setRange 70 = .ok (.putfield 23, 3) := by decide +kernel
theorem dX10_setRange_73 : decode cX10_setRange 73 = .ok (.iload_n 3, 1) := by decide +kernel
theorem dX10_setRange_74 : decode cX10_setRange 74 = .ok (.iload_n 1, 1) := by decide +kernel
theorem dX10_setRange_75 : decode cX10_setRange 75 = .ok (.isub, 1) := by decide +kernel
theorem dX10_setRange_76 : decode cX10_setRange 76 = .ok (.iconst 1, 1) := by decide +kernel
theorem dX10_setRange_77 : decode cX10_setRange 77 = .ok (.iadd, 1) := by decide +kernel
theorem dX10_setRange_78 : decode cX10_setRange 78 = .ok (.iload 4, 2) := by decide +kernel
theorem dX10_setRange_80 : decode cX10_setRange 80 = .ok (.iload_n 2, 1) := by decide +kernel
theorem dX10_setRange_81 : decode cX10_setRange 81 = .ok (.isub, 1) := by decide +kernel
theorem dX10_setRange_82 : decode cX10_setRange 82 = .ok (.iconst 1, 1) := by decide +kernel
theorem dX10_setRange_83 : decode cX10_setRange 83 = .ok (.iadd, 1) := by decide +kernel
theorem dX10_setRange_84 : decode cX10_setRange 84 = .ok (.imul, 1) := by decide +kernel
theorem dX10_setRange_85 : decode cX10_setRange 85 = .ok (.ireturn, 1) := by decide +kernel
set_option maxRecDepth 20000 in
theorem ggX10_isInRange_X10_in : GoodIn wsX10_isInRange wsX10_in := goodIn_r _ [9] (by decide +kernel) (by decide +kernel)
set_option maxRecDepth 20000 in
theorem gX10_isInRange_X10_in : GoodIn wsX10_isInRange (va_wsS RX10 99 yX10_in wsX10_in) := goodIn_app (goodIn_of _ (by decide +kernel)) ggX10_isInRange_X10_in
theorem dX10_isInRange_0 : decode cX10_isInRange 0 = .ok (.aload_n 0, 1) := by decide +kernel
theorem dX10_isInRange_1 : decode cX10_isInRange 1 = .ok (.getfield 60, 3) := by decide +kernel
theorem dX10_isInRange_4 : decode cX10_isInRange 4 = .ok (.iload_n 1, 1) := by decide +kernel
theorem dX10_isInRange_5 : decode cX10_isInRange 5 = .ok (.iaload, 1) := by decide +kernel
theorem dX10_isInRange_6 : decode cX10_isInRange 6 = .ok (.bipush 64, 2) := by decide +kernel
theorem dX10_isInRange_8 : decode cX10_isInRange 8 = .ok (.irem, 1) := by decide +kernel
theorem dX10_isInRange_9 : decode cX10_isInRange 9 = .ok (.aload_n 0, 1) := by decide +kernel
theorem dX10_isInRange_10 : decode cX10_isInRange 10 = .ok (.getfield 103, 3) := by decide +kernel
theorem dX10_isInRange_13 : decode cX10_isInRange 13 = .ok (.aload_n 0, 1) := by decide +kernel
theorem dX10_isInRange_14 : decode cX10_isInRange 14 = .ok (.getfield 20, 3) := by decide +kernel
theorem dX10_isInRange_17 : decode cX10_isInRange 17 = .ok (.invokestatic 99, 3) := by decide +kernel
theorem dX10_isInRange_20 : decode cX10_isInRange 20 = .ok (.ifCond .eq 30, 3) := by decide +kernel
theorem dX10_isInRange_23 : decode cX10_isInRange 23 = .ok (.aload_n 0, 1) := by decide +kernel
theorem dX10_isInRange_24 : decode cX10_isInRange 24 = .ok (.getfield 60, 3) := by decide +kernel
theorem dX10_isInRange_27 : decode cX10_isInRange 27 = .ok (.iload_n 1, 1) := by decide +kernel
theorem dX10_isInRange_28 : decode cX10_isInRange 28 = .ok (.iaload, 1) := by decide +kernel
theorem dX10_isInRange_29 : decode cX10_isInRange 29 = .ok (.bipush 64, 2) := by decide +kernel
theorem dX10_isInRange_31 : decode cX10_isInRange 31 = .ok (.idiv, 1) := by decide +kernel
theorem dX10_isInRange_32 : decode cX10_isInRange 32 = .ok (.aload_n 0, 1) := by decide +kernel
theorem dX10_isInRange_33 : decode cX10_isInRange 33 = .ok (.getfield 106, 3) := by decide +kernel
theorem dX10_isInRange_36 : decode cX10_isInRange 36 = .ok (.aload_n 0, 1) := by decide +kernel
theorem dX10_isInRange_37 : decode cX10_isInRange 37 = .ok (.getfield 23, 3) := by decide +kernel
theorem dX10_isInRange_40 : decode cX10_isInRange 40 = .ok (.invokestatic 99, 3) := by decide +kernel
theorem dX10_isInRange_43 : decode cX10_isInRange 43 = .ok (.ifCond .eq 7, 3) := by decide +kernel
theorem dX10_isInRange_46 : decode cX10_isInRange 46 = .ok (.iconst 1, 1) := by decide +kernel
theorem dX10_isInRange_47 : decode cX10_isInRange 47 = .ok (.goto 4, 3) := by decide +kernel
theorem dX10_isInRange_50 : decode cX10_isInRange 50 = .ok (.iconst 0, 1) := by decide +kernel
theorem dX10_isInRange_51 : decode cX10_isInRange 51 = .ok (.ireturn, 1) := by decide +kernel
set_option maxRecDepth 20000 in
theorem ggX10_findIntervals_X10_all : GoodIn wsX10_findIntervals wsX10_all := goodIn_r _ [8, 9, 22, 23, 24, 25, 26, 27, 28, 29, 30, 31, 32, 33, 34, 35, 36, 37, 38, 39, 40, 41, 42, 43, 44, 45, 46, 47, 48, 49, 50] (by decide +kernel) (by decide +kernel)
set_option maxRecDepth 20000 in
theorem gX10_findIntervals_X10_all : GoodIn wsX10_findIntervals (wsV RX10 85 RX10 yX10_all wsX10_all) := goodIn_app (goodIn_of _ (by decide +kernel)) ggX10_findIntervals_X10_all
set_option maxRecDepth 20000 in
theorem ggX10_findIntervals_X10_isInRange : GoodIn wsX10_findIntervals wsX10_isInRange := goodIn_r _ [13, 14, 15, 16, 17, 18, 19, 20, 7, 21, 22, 23, 24, 25, 26, 27, 28, 29, 30, 31, 32, 33, 34, 35, 36, 37, 38, 39, 40, 41, 42, 43, 44, 45, 46, 47, 48, 49, 50] (by decide +kernel) (by decide +kernel)
set_option maxRecDepth 20000 in
theorem gX10_findIntervals_X10_isInRange : GoodIn wsX10_findIntervals (wsV RX10 145 RX10 yX10_isInRange wsX10_isInRange) := goodIn_app (goodIn_of _ (by decide +kernel)) ggX10_findIntervals_X10_isInRange
theorem dX10_findIntervals_0 : decode cX10_findIntervals 0 = .ok (.aload_n 0, 1) := by decide +kernel
theorem dX10_findIntervals_1 : decode cX10_findIntervals 1 = .ok (.iconst 0, 1) := by decide +kernel
theorem dX10_findIntervals_2 : decode cX10_findIntervals 2 = .ok (.putfield 142, 3) := by decide +kernel
theorem dX10_findIntervals_5 : decode cX10_findIntervals 5 = .ok (.iconst 0, 1) := by decide +kernel
theorem dX10_findIntervals_6 : decode cX10_findIntervals 6 = .ok (.istore_n 1, 1) := by decide +kernel
theorem dX10_findIntervals_7 : decode cX10_findIntervals 7 = .ok (.iconst 0, 1) := by decide +kernel
theorem dX10_findIntervals_8 : decode cX10_findIntervals 8 = .ok (.istore_n 2, 1) := by decide +kernel
theorem dX10_findIntervals_9 : decode cX10_findIntervals 9 = .ok (.iload_n 2, 1) := by decide +kernel
theorem dX10_findIntervals_10 : decode cX10_findIntervals 10 = .ok (.aload_n 0, 1) := by decide +kernel
theorem dX10_findIntervals_11 : decode cX10_findIntervals 11 = .ok (.invokevirtual 85, 3) := by decide +kernel
theorem dX10_findIntervals_14 : decode cX10_findIntervals 14 = .ok (.if_icmp .ge 61, 3) := by decide +kernel
theorem dX10_findIntervals_17 : decode cX10_findIntervals 17 = .ok (.aload_n 0, 1) := by decide +kernel
theorem dX10_findIntervals_18 : decode cX10_findIntervals 18 = .ok (.iload_n 2, 1) := by decide +kernel
theorem dX10_findIntervals_19 : decode cX10_findIntervals 19 = .ok (.invokevirtual 145, 3) := by decide +kernel
theorem dX10_findIntervals_22 : decode cX10_findIntervals 22 = .ok (.istore_n 3, 1) := by decide +kernel
theorem dX10_findIntervals_23 : decode cX10_findIntervals 23 = .ok (.iload_n 3, 1) := by decide +kernel
theorem dX10_findIntervals_24 : decode cX10_findIntervals 24 = .ok (.ifCond .eq 27, 3) := by decide +kernel
theorem dX10_findIntervals_27 : decode cX10_findIntervals 27 = .ok (.iload_n 1, 1) := by decide +kernel
theorem dX10_findIntervals_28 : decode cX10_findIntervals 28 = .ok (.ifCond .ne 23, 3) := by decide +kernel
theorem dX10_findIntervals_31 : decode cX10_findIntervals 31 = .ok (.aload_n 0, 1) := by decide +kernel
theorem dX10_findIntervals_32 : decode cX10_findIntervals 32 = .ok (.getfield 63, 3) := by decide +kernel
theorem dX10_findIntervals_35 : decode cX10_findIntervals 35 = .ok (.aload_n 0, 1) := by decide +kernel
theorem dX10_findIntervals_36 : decode cX10_findIntervals 36 = .ok (.getfield 142, 3) := by decide +kernel
theorem dX10_findIntervals_39 : decode cX10_findIntervals 39 = .ok (.iload_n 2, 1) := by decide +kernel
theorem dX10_findIntervals_40 : decode cX10_findIntervals 40 = .ok (.iastore, 1) := by decide +kernel
theorem dX10_findIntervals_41 : decode cX10_findIntervals 41 = .ok (.aload_n 0, 1) := by decide +kernel
theorem dX10_findIntervals_42 : decode cX10_findIntervals 42 = .ok (.dup, 1) := by decide +kernel
theorem dX10_findIntervals_43 : decode cX10_findIntervals 43 = .ok (.getfield 142, 3) := by decide +kernel
theorem dX10_findIntervals_46 : decode cX10_findIntervals 46 = .ok (.iconst 1, 1) := by decide +kernel
theorem dX10_findIntervals_47 : decode cX10_findIntervals 47 = .ok (.iadd, 1) := by decide +kernel
theorem dX10_findIntervals_48 : decode cX10_findIntervals 48 = .ok (.putfield 142, 3) := by decide +kernel
theorem dX10_findIntervals_51 : decode cX10_findIntervals 51 = .ok (.iload_n 3, 1) := by decide +kernel
theorem dX10_findIntervals_52 : decode cX10_findIntervals 52 = .ok (.ifCond .eq 15, 3) := by decide +kernel
theorem dX10_findIntervals_55 : decode cX10_findIntervals 55 = .ok (.aload_n 0, 1) := by decide +kernel
theorem dX10_findIntervals_56 : decode cX10_findIntervals 56 = .ok (.getfield 66, 3) := by decide +kernel
theorem dX10_findIntervals_59 : decode cX10_findIntervals 59 = .ok (.aload_n 0, 1) := by decide +kernel
theorem dX10_findIntervals_60 : decode cX10_findIntervals 60 = .ok (.getfield 142, 3) := by decide +kernel
theorem dX10_findIntervals_63 : decode cX10_findIntervals 63 = .ok (.iconst 1, 1) := by decide +kernel
theorem dX10_findIntervals_64 : decode cX10_findIntervals 64 = .ok (.isub, 1) := by decide +kernel
theorem dX10_findIntervals_65 : decode cX10_findIntervals 65 = .ok (.iload_n 2, 1) := by decide +kernel
theorem dX10_findIntervals_66 : decode cX10_findIntervals 66 = .ok (.iastore, 1) := by decide +kernel
theorem dX10_findIntervals_67 : decode cX10_findIntervals 67 = .ok (.iload_n 3, 1) := by decide +kernel
theorem dX10_findIntervals_68 : decode cX10_findIntervals 68 = .ok (.istore_n 1, 1) := by decide +kernel
theorem dX10_findIntervals_69 : decode cX10_findIntervals 69 = .ok (.iinc 2 1, 3) := by decide +kernel
theorem dX10_findIntervals_72 : decode cX10_findIntervals 72 = .ok (.goto (-63), 3) := by decide +kernel
theorem dX10_findIntervals_75 : decode cX10_findIntervals 75 = .ok (.return_, 1) := by decide +kernel
set_option maxRecDepth 20000 in
theorem ggX10_intervals_X10_findIntervals : GoodIn wsX10_intervals wsX10_findIntervals := goodIn_r _ [6, 1, 7, 8, 9, 10, 11, 5, 12, 13, 14, 15, 16, 17, 18, 19, 20, 21, 22, 23, 24, 25, 26, 27, 28, 29, 30, 31, 32, 33, 34, 35, 36, 37, 38, 39, 40, 41, 42, 43, 44, 45, 46, 47, 48, 49, 50, 51, 52, 53, 54] (by decide +kernel) (by decide +kernel)
set_option maxRecDepth 20000 in
theorem gX10_intervals_X10_findIntervals : GoodIn wsX10_intervals (wsV RX10 148 RX10 yX10_findIntervals wsX10_findIntervals) := goodIn_app (goodIn_of _ (by decide +kernel)) ggX10_intervals_X10_findIntervals
theorem dX10_intervals_0 : decode cX10_intervals 0 = .ok (.aload_n 0, 1) := by decide +kernel
theorem dX10_intervals_1 : decode cX10_intervals 1 = .ok (.invokevirtual 148, 3) := by decide +kernel
theorem dX10_intervals_4 : decode cX10_intervals 4 = .ok (.aload_n 0, 1) := by decide +kernel
theorem dX10_intervals_5 : decode cX10_intervals 5 = .ok (.getfield 142, 3) := by decide +kernel
theorem dX10_intervals_8 : decode cX10_intervals 8 = .ok (.ireturn, 1) := by decide +kernel
set_option maxRecDepth 20000 in
theorem ggX10_interval_X10_findIntervals : GoodIn wsX10_interval wsX10_findIntervals := goodIn_r _ [8, 1, 3, 2, 9, 10, 11, 7, 12, 13, 14, 15, 16, 17, 18, 19, 20, 21, 22, 23, 24, 25, 26, 27, 28, 29, 30, 31, 32, 33, 34, 35, 36, 37, 38, 39, 40, 41, 42, 43, 44, 45, 46, 47, 48, 49, 50, 51, 52, 53, 54] (by decide +kernel) (by decide +kernel)
set_option maxRecDepth 20000 in
theorem gX10_interval_X10_findIntervals : GoodIn wsX10_interval (wsV RX10 148 RX10 yX10_findIntervals wsX10_findIntervals) := goodIn_app (goodIn_of _ (by decide +kernel)) ggX10_interval_X10_findIntervals
set_option maxRecDepth 20000 in
theorem ggX10_interval_X10_in : GoodIn wsX10_interval wsX10_in := goodIn_r _ [25] (by decide +kernel) (by decide +kernel)
set_option maxRecDepth 20000 in
theorem gX10_interval_X10_in : GoodIn wsX10_interval (va_wsS RX10 99 yX10_in wsX10_in) := goodIn_app (goodIn_of _ (by decide +kernel)) ggX10_interval_X10_in
theorem dX10_interval_0 : decode cX10_interval 0 = .ok (.aload_n 0, 1) := by decide +kernel
theorem dX10_interval_1 : decode cX10_interval 1 = .ok (.invokevirtual 148, 3) := by decide +kernel
theorem dX10_interval_4 : decode cX10_interval 4 = .ok (.iload_n 1, 1) := by decide +kernel
theorem dX10_interval_5 : decode cX10_interval 5 = .ok (.iconst 0, 1) := by decide +kernel
theorem dX10_interval_6 : decode cX10_interval 6 = .ok (.aload_n 0, 1) := by decide +kernel
theorem dX10_interval_7 : decode cX10_interval 7 = .ok (.getfield 142, 3) := by decide +kernel
theorem dX10_interval_10 : decode cX10_interval 10 = .ok (.iconst 1, 1) := by decide +kernel
theorem dX10_interval_11 : decode cX10_interval 11 = .ok (.isub, 1) := by decide +kernel
theorem dX10_interval_12 : decode cX10_interval 12 = .ok (.invokestatic 99, 3) := by decide +kernel
theorem dX10_interval_15 : decode cX10_interval 15 = .ok (.ifCond .ne 5, 3) := by decide +kernel
theorem dX10_interval_18 : decode cX10_interval 18 = .ok (.iconst (-1), 1) := by decide +kernel
theorem dX10_interval_19 : decode cX10_interval 19 = .ok (.ireturn, 1) := by decide +kernel
theorem dX10_interval_20 : decode cX10_interval 20 = .ok (.iload_n 2, 1) := by decide +kernel
theorem dX10_interval_21 : decode cX10_interval 21 = .ok (.ifCond .eq 12, 3) := by decide +kernel
theorem dX10_interval_24 : decode cX10_interval 24 = .ok (.aload_n 0, 1) := by decide +kernel
theorem dX10_interval_25 : decode cX10_interval 25 = .ok (.getfield 66, 3) := by decide +kernel
theorem dX10_interval_28 : decode cX10_interval 28 = .ok (.iload_n 1, 1) := by decide +kernel
theorem dX10_interval_29 : decode cX10_interval 29 = .ok (.iaload, 1) := by decide +kernel
theorem dX10_interval_30 : decode cX10_interval 30 = .ok (.goto 9, 3) := by decide +kernel
theorem dX10_interval_33 : decode cX10_interval 33 = .ok (.aload_n 0, 1) := by decide +kernel
theorem dX10_interval_34 : decode cX10_interval 34 = .ok (.getfield 63, 3) := by decide +kernel
theorem dX10_interval_37 : decode cX10_interval 37 = .ok (.iload_n 1, 1) := by decide +kernel
theorem dX10_interval_38 : decode cX10_interval 38 = .ok (.iaload, 1) := by decide +kernel
theorem dX10_interval_39 : decode cX10_interval 39 = .ok (.ireturn, 1) := by decide +kernel
set_option maxRecDepth 20000 in
theorem ggX10_joins_X10_findIntervals : GoodIn wsX10_joins wsX10_findIntervals := goodIn_r _ [8, 1, 2, 3, 9, 10, 11, 7, 12, 13, 14, 15, 16, 17, 18, 19, 20, 21, 22, 23, 24, 25, 26, 27, 28, 29, 30, 31, 32, 33, 34, 35, 36, 37, 38, 39, 40, 41, 42, 43, 44, 45, 46, 47, 48, 49, 50, 51, 52, 53, 54] (by decide +kernel) (by decide +kernel)
set_option maxRecDepth 20000 in
theorem gX10_joins_X10_findIntervals : GoodIn wsX10_joins (wsV RX10 148 RX10 yX10_findIntervals wsX10_findIntervals) := goodIn_app (goodIn_of _ (by decide +kernel)) ggX10_joins_X10_findIntervals
theorem dX10_joins_0 : decode cX10_joins 0 = .ok (.aload_n 0, 1) := by decide +kernel
theorem dX10_joins_1 : decode cX10_joins 1 = .ok (.invokevirtual 148, 3) := by decide +kernel
theorem dX10_joins_4 : decode cX10_joins 4 = .ok (.iconst 0, 1) := by decide +kernel
theorem dX10_joins_5 : decode cX10_joins 5 = .ok (.istore_n 2, 1) := by decide +kernel
theorem dX10_joins_6 : decode cX10_joins 6 = .ok (.aload_n 0, 1) := by decide +kernel
theorem dX10_joins_7 : decode cX10_joins 7 = .ok (.getfield 142, 3) := by decide +kernel
theorem dX10_joins_10 : decode cX10_joins 10 = .ok (.iload_n 1, 1) := by decide +kernel
theorem dX10_joins_11 : decode cX10_joins 11 = .ok (.if_icmp .le 168, 3) := by decide +kernel
theorem dX10_joins_14 : decode cX10_joins 14 = .ok (.iconst 0, 1) := by decide +kernel
theorem dX10_joins_15 : decode cX10_joins 15 = .ok (.istore_n 3, 1) := by decide +kernel
theorem dX10_joins_16 : decode cX10_joins 16 = .ok (.iconst 1, 1) := by decide +kernel
theorem dX10_joins_17 : decode cX10_joins 17 = .ok (.istore 4, 2) := by decide +kernel
theorem dX10_joins_19 : decode cX10_joins 19 = .ok (.iload 4, 2) := by decide +kernel
theorem dX10_joins_21 : decode cX10_joins 21 = .ok (.iconst 1, 1) := by decide +kernel
theorem dX10_joins_22 : decode cX10_joins 22 = .ok (.iadd, 1) := by decide +kernel
theorem dX10_joins_23 : decode cX10_joins 23 = .ok (.aload_n 0, 1) := by decide +kernel
theorem dX10_joins_24 : decode cX10_joins 24 = .ok (.getfield 142, 3) := by decide +kernel
theorem dX10_joins_27 : decode cX10_joins 27 = .ok (.if_icmp .ge 51, 3) := by decide +kernel
theorem dX10_joins_30 : decode cX10_joins 30 = .ok (.aload_n 0, 1) := by decide +kernel
theorem dX10_joins_31 : decode cX10_joins 31 = .ok (.getfield 63, 3) := by decide +kernel
theorem dX10_joins_34 : decode cX10_joins 34 = .ok (.iload 4, 2) := by decide +kernel
theorem dX10_joins_36 : decode cX10_joins 36 = .ok (.iconst 1, 1) := by decide +kernel
theorem dX10_joins_37 : decode cX10_joins 37 = .ok (.iadd, 1) := by decide +kernel
theorem dX10_joins_38 : decode cX10_joins 38 = .ok (.iaload, 1) := by decide +kernel
theorem dX10_joins_39 : decode cX10_joins 39 = .ok (.aload_n 0, 1) := by decide +kernel
theorem dX10_joins_40 : decode cX10_joins 40 = .ok (.getfield 66, 3) := by decide +kernel
theorem dX10_joins_43 : decode cX10_joins 43 = .ok (.iload 4, 2) := by decide +kernel
theorem dX10_joins_45 : decode cX10_joins 45 = .ok (.iaload, 1) := by decide +kernel
theorem dX10_joins_46 : decode cX10_joins 46 = .ok (.isub, 1) := by decide +kernel
theorem dX10_joins_47 : decode cX10_joins 47 = .ok (.aload_n 0, 1) := by decide +kernel
theorem dX10_joins_48 : decode cX10_joins 48 = .ok (.getfield 63, 3) := by decide +kernel
theorem dX10_joins_51 : decode cX10_joins 51 = .ok (.iload_n 3, 1) := by decide +kernel
theorem dX10_joins_52 : decode cX10_joins 52 = .ok (.iconst 1, 1) := by decide +kernel
theorem dX10_joins_53 : decode cX10_joins 53 = .ok (.iadd, 1) := by decide +kernel
theorem dX10_joins_54 : decode cX10_joins 54 = .ok (.iaload, 1) := by decide +kernel
theorem dX10_joins_55 : decode cX10_joins 55 = .ok (.aload_n 0, 1) := by decide +kernel
theorem dX10_joins_56 : decode cX10_joins 56 = .ok (.getfield 66, 3) := by decide +kernel
theorem dX10_joins_59 : decode cX10_joins 59 = .ok (.iload_n 3, 1) := by decide +kernel
theorem dX10_joins_60 : decode cX10_joins 60 = .ok (.iaload, 1) := by decide +kernel
theorem dX10_joins_61 : decode cX10_joins 61 = .ok (.isub, 1) := by decide +kernel
theorem dX10_joins_62 : decode cX10_joins 62 = .ok (.if_icmp .ge 8, 3) := by decide +kernel
theorem dX10_joins_65 : decode cX10_joins 65 = .ok (.iload 4, 2) := by decide +kernel
theorem dX10_joins_67 : decode cX10_joins 67 = .ok (.goto 4, 3) := by decide +kernel
theorem dX10_joins_70 : decode cX10_joins 70 = .ok (.iload_n 3, 1) := by decide +kernel
theorem dX10_joins_71 : decode cX10_joins 71 = .ok (.istore_n 3, 1) := by decide +kernel
theorem dX10_joins_72 : decode cX10_joins 72 = .ok (.iinc 4 1, 3) := by decide +kernel
theorem dX10_joins_75 : decode cX10_joins 75 = .ok (.goto (-56), 3) := by decide +kernel
theorem dX10_joins_78 : decode cX10_joins 78 = .ok (.iload_n 2, 1) := by decide +kernel
theorem dX10_joins_79 : decode cX10_joins 79 = .ok (.aload_n 0, 1) := by decide +kernel
theorem dX10_joins_80 : decode cX10_joins 80 = .ok (.getfield 63, 3) := by decide +kernel
theorem dX10_joins_83 : decode cX10_joins 83 = .ok (.iload_n 3, 1) := by decide +kernel
theorem dX10_joins_84 : decode cX10_joins 84 = .ok (.iconst 1, 1) := by decide +kernel
theorem dX10_joins_85 : decode cX10_joins 85 = .ok (.iadd, 1) := by decide +kernel
theorem dX10_joins_86 : decode cX10_joins 86 = .ok (.iaload, 1) := by decide +kernel
theorem dX10_joins_87 : decode cX10_joins 87 = .ok (.aload_n 0, 1) := by decide +kernel
theorem dX10_joins_88 : decode cX10_joins 88 = .ok (.getfield 66, 3) := by decide +kernel
theorem dX10_joins_91 : decode cX10_joins 91 = .ok (.iload_n 3, 1) := by decide +kernel
theorem dX10_joins_92 : decode cX10_joins 92 = .ok (.iaload, 1) := by decide +kernel
theorem dX10_joins_93 : decode cX10_joins 93 = .ok (.isub, 1) := by decide +kernel
theorem dX10_joins_94 : decode cX10_joins 94 = .ok (.iconst 1, 1) := by decide +kernel
theorem dX10_joins_95 : decode cX10_joins 95 = .ok (.isub, 1) := by decide +kernel
theorem dX10_joins_96 : decode cX10_joins 96 = .ok (.iadd, 1) := by decide +kernel
theorem dX10_joins_97 : decode cX10_joins 97 = .ok (.istore_n 2, 1) := by decide +kernel
theorem dX10_joins_98 : decode cX10_joins 98 = .ok (.aload_n 0, 1) := by decide +kernel
theorem dX10_joins_99 : decode cX10_joins 99 = .ok (.getfield 66, 3) := by decide +kernel
theorem dX10_joins_102 : decode cX10_joins 102 = .ok (.iload_n 3, 1) := by decide +kernel
theorem dX10_joins_103 : decode cX10_joins 103 = .ok (.aload_n 0, 1) := by decide +kernel
theorem dX10_joins_104 : decode cX10_joins 104 = .ok (.getfield 66, 3) := by decide +kernel
theorem dX10_joins_107 : decode cX10_joins 107 = .ok (.iload_n 3, 1) := by decide +kernel
theorem dX10_joins_108 : decode cX10_joins 108 = .ok (.iconst 1, 1) := by decide +kernel
theorem dX10_joins_109 : decode cX10_joins 109 = .ok (.iadd, 1) := by decide +kernel
theorem dX10_joins_110 : decode cX10_joins 110 = .ok (.iaload, 1) := by decide +kernel
theorem dX10_joins_111 : decode cX10_joins 111 = .ok (.iastore, 1) := by decide +kernel
theorem dX10_joins_112 : decode cX10_joins 112 = .ok (.iload_n 3, 1) := by decide +kernel
theorem dX10_joins_113 : decode cX10_joins 113 = .ok (.iconst 1, 1) := by decide +kernel
theorem dX10_joins_114 : decode cX10_joins 114 = .ok (.iadd, 1) := by decide +kernel
theorem dX10_joins_115 : decode cX10_joins 115 = .ok (.istore 4, 2) := by decide +kernel
theorem dX10_joins_117 : decode cX10_joins 117 = .ok (.iload 4, 2) := by decide +kernel
theorem dX10_joins_119 : decode cX10_joins 119 = .ok (.iconst 1, 1) := by decide +kernel
theorem dX10_joins_120 : decode cX10_joins 120 = .ok (.iadd, 1) := by decide +kernel
theorem dX10_joins_121 : decode cX10_joins 121 = .ok (.aload_n 0, 1) := by decide +kernel
theorem dX10_joins_122 : decode cX10_joins 122 = .ok (.getfield 142, 3) := by decide +kernel
theorem dX10_joins_125 : decode cX10_joins 125 = .ok (.if_icmp .ge 41, 3) := by decide +kernel
theorem dX10_joins_128 : decode cX10_joins 128 = .ok (.aload_n 0, 1) := by decide +kernel
theorem dX10_joins_129 : decode cX10_joins 129 = .ok (.getfield 63, 3) := by decide +kernel
theorem dX10_joins_132 : decode cX10_joins 132 = .ok (.iload 4, 2) := by decide +kernel
theorem dX10_joins_134 : decode cX10_joins 134 = .ok (.aload_n 0, 1) := by decide +kernel
theorem dX10_joins_135 : decode cX10_joins 135 = .ok (.getfield 63, 3) := by decide +kernel
theorem dX10_joins_138 : decode cX10_joins 138 = .ok (.iload 4, 2) := by decide +kernel
theorem dX10_joins_140 : decode cX10_joins 140 = .ok (.iconst 1, 1) := by decide +kernel
theorem dX10_joins_141 : decode cX10_joins 141 = .ok (.iadd, 1) := by decide +kernel
theorem dX10_joins_142 : decode cX10_joins 142 = .ok (.iaload, 1) := by decide +kernel
theorem dX10_joins_143 : decode cX10_joins 143 = .ok (.iastore, 1) := by decide +kernel
theorem dX10_joins_144 : decode cX10_joins 144 = .ok (.aload_n 0, 1) := by decide +kernel
theorem dX10_joins_145 : decode cX10_joins 145 = .ok (.getfield 66, 3) := by decide +kernel
theorem dX10_joins_148 : decode cX10_joins 148 = .ok (.iload 4, 2) := by decide +kernel
theorem dX10_joins_150 : decode cX10_joins 150 = .ok (.aload_n 0, 1) := by decide +kernel
theorem dX10_joins_151 : decode cX10_joins 151 = .ok (.getfield 66, 3) := by decide +kernel
theorem dX10_joins_154 : decode cX10_joins 154 = .ok (.iload 4, 2) := by decide +kernel
theorem dX10_joins_156 : decode cX10_joins 156 = .ok (.iconst 1, 1) := by decide +kernel
theorem dX10_joins_157 : decode cX10_joins 157 = .ok (.iadd, 1) := by decide +kernel
theorem dX10_joins_158 : decode cX10_joins 158 = .ok (.iaload, 1) := by decide +kernel
theorem dX10_joins_159 : decode cX10_joins 159 = .ok (.iastore, 1) := by decide +kernel
theorem dX10_joins_160 : decode cX10_joins 160 = .ok (.iinc 4 1, 3) := by decide +kernel
theorem dX10_joins_163 : decode cX10_joins 163 = .ok (.goto (-46), 3) := by decide +kernel
theorem dX10_joins_166 : decode cX10_joins 166 = .ok (.aload_n 0, 1) := by decide +kernel
theorem dX10_joins_167 : decode cX10_joins 167 = .ok (.dup, 1) := by decide +kernel
theorem dX10_joins_168 : decode cX10_joins 168 = .ok (.getfield 142, 3) := by decide +kernel
theorem dX10_joins_171 : decode cX10_joins 171 = .ok (.iconst 1, 1) := by decide +kernel
theorem dX10_joins_172 : decode cX10_joins 172 = .ok (.isub, 1) := by decide +kernel
theorem dX10_joins_173 : decode cX10_joins 173 = .ok (.putfield 142, 3) := by decide +kernel
theorem dX10_joins_176 : decode cX10_joins 176 = .ok (.goto (-170), 3) := by decide +kernel
theorem dX10_joins_179 : decode cX10_joins 179 = .ok (.iload_n 2, 1) := by decide +kernel
theorem dX10_joins_180 : decode cX10_joins 180 = .ok (.ireturn, 1) := by decide +kernel
set_option maxRecDepth 20000 in
theorem ggX10_extra_X10_joins : GoodIn wsX10_extra wsX10_joins := goodIn_r _ [5, 6, 7, 8, 9, 10, 11, 4, 12, 13, 14, 15, 16, 17, 18, 19, 20, 21, 22, 23, 24, 25, 26, 27, 28, 29, 30, 31, 32, 33, 34, 35, 36, 37, 38, 39, 40, 41, 42, 43, 44, 45, 46, 47, 48, 49, 50, 51, 52, 53, 54, 55, 56, 57, 58] (by decide +kernel) (by decide +kernel)
set_option maxRecDepth 20000 in
theorem gX10_extra_X10_joins : GoodIn wsX10_extra (wsV RX10 151 RX10 yX10_joins wsX10_joins) := goodIn_app (goodIn_of _ (by decide +kernel)) ggX10_extra_X10_joins
theorem dX10_extra_0 : decode cX10_extra 0 = .ok (.iload_n 1, 1) := by decide +kernel
theorem dX10_extra_1 : decode cX10_extra 1 = .ok (.iconst 1, 1) := by decide +kernel
theorem dX10_extra_2 : decode cX10_extra 2 = .ok (.if_icmp .ge 8, 3) := by decide +kernel
theorem dX10_extra_5 : decode cX10_extra 5 = .ok (.bipush (-2), 2) := by decide +kernel
theorem dX10_extra_7 : decode cX10_extra 7 = .ok (.goto 8, 3) := by decide +kernel
theorem dX10_extra_10 : decode cX10_extra 10 = .ok (.aload_n 0, 1) := by decide +kernel
theorem dX10_extra_11 : decode cX10_extra 11 = .ok (.iload_n 1, 1) := by decide +kernel
theorem dX10_extra_12 : decode cX10_extra 12 = .ok (.invokevirtual 151, 3) := by decide +kernel
theorem dX10_extra_15 : decode cX10_extra 15 = .ok (.ireturn, 1) := by decide +kernel
set_option maxRecDepth 20000 in
theorem ggX10_covering_X10_joins : GoodIn wsX10_covering wsX10_joins := goodIn_r _ [8, 1, 3, 2, 9, 10, 11, 7, 12, 13, 14, 15, 16, 17, 18, 19, 20, 21, 22, 23, 24, 25, 26, 27, 28, 29, 30, 31, 32, 33, 34, 35, 36, 37, 38, 39, 40, 41, 42, 43, 44, 45, 46, 47, 48, 49, 50, 51, 52, 53, 54, 55, 56, 57, 58] (by decide +kernel) (by decide +kernel)
set_option maxRecDepth 20000 in
theorem gX10_covering_X10_joins : GoodIn wsX10_covering (wsV RX10 151 RX10 yX10_joins wsX10_joins) := goodIn_app (goodIn_of _ (by decide +kernel)) ggX10_covering_X10_joins
set_option maxRecDepth 20000 in
theorem ggX10_covering_X10_in : GoodIn wsX10_covering wsX10_in := goodIn_r _ [29] (by decide +kernel) (by decide +kernel)
set_option maxRecDepth 20000 in
theorem gX10_covering_X10_in : GoodIn wsX10_covering (va_wsS RX10 99 yX10_in wsX10_in) := goodIn_app (goodIn_of _ (by decide +kernel)) ggX10_covering_X10_in
theorem dX10_covering_0 : decode cX10_covering 0 = .ok (.iload_n 1, 1) := by decide +kernel
theorem dX10_covering_1 : decode cX10_covering 1 = .ok (.iconst 1, 1) := by decide +kernel
theorem dX10_covering_2 : decode cX10_covering 2 = .ok (.if_icmp .ge 6, 3) := by decide +kernel
theorem dX10_covering_5 : decode cX10_covering 5 = .ok (.bipush (-2), 2) := by decide +kernel
theorem dX10_covering_7 : decode cX10_covering 7 = .ok (.ireturn, 1) := by decide +kernel
theorem dX10_covering_8 : decode cX10_covering 8 = .ok (.aload_n 0, 1) := by decide +kernel
theorem dX10_covering_9 : decode cX10_covering 9 = .ok (.iload_n 1, 1) := by decide +kernel
theorem dX10_covering_10 : decode cX10_covering 10 = .ok (.invokevirtual 151, 3) := by decide +kernel
theorem dX10_covering_13 : decode cX10_covering 13 = .ok (.istore 4, 2) := by decide +kernel
theorem dX10_covering_15 : decode cX10_covering 15 = .ok (.iload_n 2, 1) := by decide +kernel
theorem dX10_covering_16 : decode cX10_covering 16 = .ok (.iconst 0, 1) := by decide +kernel
theorem dX10_covering_17 : decode cX10_covering 17 = .ok (.aload_n 0, 1) := by decide +kernel
theorem dX10_covering_18 : decode cX10_covering 18 = .ok (.getfield 142, 3) := by decide +kernel
theorem dX10_covering_21 : decode cX10_covering 21 = .ok (.iconst 1, 1) := by decide +kernel
theorem dX10_covering_22 : decode cX10_covering 22 = .ok (.isub, 1) := by decide +kernel
theorem dX10_covering_23 : decode cX10_covering 23 = .ok (.invokestatic 99, 3) := by decide +kernel
theorem dX10_covering_26 : decode cX10_covering 26 = .ok (.ifCond .ne 5, 3) := by decide +kernel
theorem dX10_covering_29 : decode cX10_covering 29 = .ok (.iconst (-1), 1) := by decide +kernel
theorem dX10_covering_30 : decode cX10_covering 30 = .ok (.ireturn, 1) := by decide +kernel
theorem dX10_covering_31 : decode cX10_covering 31 = .ok (.iload_n 3, 1) := by decide +kernel
theorem dX10_covering_32 : decode cX10_covering 32 = .ok (.ifCond .eq 12, 3) := by decide +kernel
theorem dX10_covering_35 : decode cX10_covering 35 = .ok (.aload_n 0, 1) := by decide +kernel
theorem dX10_covering_36 : decode cX10_covering 36 = .ok (.getfield 66, 3) := by decide +kernel
theorem dX10_covering_39 : decode cX10_covering 39 = .ok (.iload_n 2, 1) := by decide +kernel
theorem dX10_covering_40 : decode cX10_covering 40 = .ok (.iaload, 1) := by decide +kernel
theorem dX10_covering_41 : decode cX10_covering 41 = .ok (.goto 9, 3) := by decide +kernel
theorem dX10_covering_44 : decode cX10_covering 44 = .ok (.aload_n 0, 1) := by decide +kernel
theorem dX10_covering_45 : decode cX10_covering 45 = .ok (.getfield 63, 3) := by decide +kernel
theorem dX10_covering_48 : decode cX10_covering 48 = .ok (.iload_n 2, 1) := by decide +kernel
theorem dX10_covering_49 : decode cX10_covering 49 = .ok (.iaload, 1) := by decide +kernel
theorem dX10_covering_50 : decode cX10_covering 50 = .ok (.ireturn, 1) := by decide +kernel
set_option maxRecDepth 20000 in
theorem ggX10_places_X10_side : GoodIn wsX10_places wsX10_side := goodIn_r _ [5, 6, 7, 8, 9, 10, 11, 12, 13, 14, 15, 16, 17, 18, 19, 20, 21, 22, 23, 24, 25, 26, 27, 28, 29, 30, 31, 32, 33, 34, 35] (by decide +kernel) (by decide +kernel)
set_option maxRecDepth 20000 in
theorem gX10_places_X10_side : GoodIn wsX10_places (wsV RX10 109 RX10 yX10_side wsX10_side) := goodIn_app (goodIn_of _ (by decide +kernel)) ggX10_places_X10_side
theorem dX10_places_0 : decode cX10_places 0 = .ok (.iload_n 1, 1) := by decide +kernel
theorem dX10_places_1 : decode cX10_places 1 = .ok (.iload_n 2, 1) := by decide +kernel
theorem dX10_places_2 : decode cX10_places 2 = .ok (.if_icmp .ge 7, 3) := by decide +kernel
theorem dX10_places_5 : decode cX10_places 5 = .ok (.iload_n 1, 1) := by decide +kernel
theorem dX10_places_6 : decode cX10_places 6 = .ok (.goto 4, 3) := by decide +kernel
theorem dX10_places_9 : decode cX10_places 9 = .ok (.iload_n 2, 1) := by decide +kernel
theorem dX10_places_10 : decode cX10_places 10 = .ok (.istore 4, 2) := by decide +kernel
theorem dX10_places_12 : decode cX10_places 12 = .ok (.iload_n 1, 1) := by decide +kernel
theorem dX10_places_13 : decode cX10_places 13 = .ok (.iload_n 2, 1) := by decide +kernel
theorem dX10_places_14 : decode cX10_places 14 = .ok (.if_icmp .ge 7, 3) := by decide +kernel
theorem dX10_places_17 : decode cX10_places 17 = .ok (.iload_n 2, 1) := by decide +kernel
theorem dX10_places_18 : decode cX10_places 18 = .ok (.goto 4, 3) := by decide +kernel
theorem dX10_places_21 : decode cX10_places 21 = .ok (.iload_n 1, 1) := by decide +kernel
theorem dX10_places_22 : decode cX10_places 22 = .ok (.istore 5, 2) := by decide +kernel
theorem dX10_places_24 : decode cX10_places 24 = .ok (.iload 5, 2) := by decide +kernel
theorem dX10_places_26 : decode cX10_places 26 = .ok (.iload_n 3, 1) := by decide +kernel
theorem dX10_places_27 : decode cX10_places 27 = .ok (.isub, 1) := by decide +kernel
theorem dX10_places_28 : decode cX10_places 28 = .ok (.iconst 1, 1) := by decide +kernel
theorem dX10_places_29 : decode cX10_places 29 = .ok (.iadd, 1) := by decide +kernel
theorem dX10_places_30 : decode cX10_places 30 = .ok (.ifCond .ge 7, 3) := by decide +kernel
theorem dX10_places_33 : decode cX10_places 33 = .ok (.iconst 0, 1) := by decide +kernel
theorem dX10_places_34 : decode cX10_places 34 = .ok (.goto 9, 3) := by decide +kernel
theorem dX10_places_37 : decode cX10_places 37 = .ok (.iload 5, 2) := by decide +kernel
theorem dX10_places_39 : decode cX10_places 39 = .ok (.iload_n 3, 1) := by decide +kernel
theorem dX10_places_40 : decode cX10_places 40 = .ok (.isub, 1) := by decide +kernel
theorem dX10_places_41 : decode cX10_places 41 = .ok (.iconst 1, 1) := by decide +kernel
theorem dX10_places_42 : decode cX10_places 42 = .ok (.iadd, 1) := by decide +kernel
theorem dX10_places_43 : decode cX10_places 43 = .ok (.istore 6, 2) := by decide +kernel
theorem dX10_places_45 : decode cX10_places 45 = .ok (.iload 4, 2) := by decide +kernel
theorem dX10_places_47 : decode cX10_places 47 = .ok (.aload_n 0, 1) := by decide +kernel
theorem dX10_places_48 : decode cX10_places 48 = .ok (.invokevirtual 109, 3) := by decide +kernel
theorem dX10_places_51 : decode cX10_places 51 = .ok (.iload_n 3, 1) := by decide +kernel
theorem dX10_places_52 : decode cX10_places 52 = .ok (.isub, 1) := by decide +kernel
theorem dX10_places_53 : decode cX10_places 53 = .ok (.if_icmp .ge 8, 3) := by decide +kernel
theorem dX10_places_56 : decode cX10_places 56 = .ok (.iload 4, 2) := by decide +kernel
theorem dX10_places_58 : decode cX10_places 58 = .ok (.goto 9, 3) := by decide +kernel
theorem dX10_places_61 : decode cX10_places 61 = .ok (.aload_n 0, 1) := by decide +kernel
theorem dX10_places_62 : decode cX10_places 62 = .ok (.invokevirtual 109, 3) := by decide +kernel
theorem dX10_places_65 : decode cX10_places 65 = .ok (.iload_n 3, 1) := by decide +kernel
theorem dX10_places_66 : decode cX10_places 66 = .ok (.isub, 1) := by decide +kernel
theorem dX10_places_67 : decode cX10_places 67 = .ok (.istore 7, 2) := by decide +kernel
theorem dX10_places_69 : decode cX10_places 69 = .ok (.iload 7, 2) := by decide +kernel
theorem dX10_places_71 : decode cX10_places 71 = .ok (.iload 6, 2) := by decide +kernel
theorem dX10_places_73 : decode cX10_places 73 = .ok (.if_icmp .ge 7, 3) := by decide +kernel
theorem dX10_places_76 : decode cX10_places 76 = .ok (.iconst 0, 1) := by decide +kernel
theorem dX10_places_77 : decode cX10_places 77 = .ok (.goto 10, 3) := by decide +kernel
theorem dX10_places_80 : decode cX10_places 80 = .ok (.iload 7, 2) := by decide +kernel
theorem dX10_places_82 : decode cX10_places 82 = .ok (.iload 6, 2) := by decide +kernel
theorem dX10_places_84 : decode cX10_places 84 = .ok (.isub, 1) := by decide +kernel
theorem dX10_places_85 : decode cX10_places 85 = .ok (.iconst 1, 1) := by decide +kernel
theorem dX10_places_86 : decode cX10_places 86 = .ok (.iadd, 1) := by decide +kernel
theorem dX10_places_87 : decode cX10_places 87 = .ok (.ireturn, 1) := by decide +kernel
set_option maxRecDepth 20000 in
theorem ggX10_clusters_X10_side : GoodIn wsX10_clusters wsX10_side := goodIn_r _ [6, 7, 19, 20, 21, 22, 23, 24, 25, 26, 27, 28, 29, 30, 31, 32, 33, 34, 35, 36, 37, 38, 39, 40, 41, 42, 43, 44, 45, 46, 47] (by decide +kernel) (by decide +kernel)
set_option maxRecDepth 20000 in
theorem gX10_clusters_X10_side : GoodIn wsX10_clusters (wsV RX10 109 RX10 yX10_side wsX10_side) := goodIn_app (goodIn_of _ (by decide +kernel)) ggX10_clusters_X10_side
set_option maxRecDepth 20000 in
theorem ggX10_clusters_X10_in : GoodIn wsX10_clusters wsX10_in := goodIn_r _ [10] (by decide +kernel) (by decide +kernel)
set_option maxRecDepth 20000 in
theorem gX10_clusters_X10_in : GoodIn wsX10_clusters (va_wsS RX10 99 yX10_in wsX10_in) := goodIn_app (goodIn_of _ (by decide +kernel)) ggX10_clusters_X10_in
set_option maxRecDepth 20000 in
theorem ggX10_clusters_X10_all : GoodIn wsX10_clusters wsX10_all := goodIn_r _ [14, 7, 19, 20, 21, 22, 23, 24, 25, 26, 27, 28, 29, 30, 31, 32, 33, 34, 35, 36, 37, 38, 39, 40, 41, 42, 43, 44, 45, 46, 47] (by decide +kernel) (by decide +kernel)
set_option maxRecDepth 20000 in
theorem gX10_clusters_X10_all : GoodIn wsX10_clusters (wsV RX10 85 RX10 yX10_all wsX10_all) := goodIn_app (goodIn_of _ (by decide +kernel)) ggX10_clusters_X10_all
set_option maxRecDepth 20000 in
theorem ggX10_clusters_X10_places : GoodIn wsX10_clusters wsX10_places := goodIn_r _ [18, 2, 3, 4, 5, 6, 7, 19, 20, 21, 22, 23, 24, 25, 26, 27, 28, 29, 30, 31, 32, 33, 34, 35, 36, 37, 38, 39, 40, 41, 42, 43, 44, 45, 46, 47] (by decide +kernel) (by decide +kernel)
set_option maxRecDepth 20000 in
theorem gX10_clusters_X10_places : GoodIn wsX10_clusters (wsV RX10 154 RX10 yX10_places wsX10_places) := goodIn_app (goodIn_of _ (by decide +kernel)) ggX10_clusters_X10_places
theorem dX10_clusters_0 : decode cX10_clusters 0 = .ok (.iload_n 1, 1) := by decide +kernel
theorem dX10_clusters_1 : decode cX10_clusters 1 = .ok (.iconst 1, 1) := by decide +kernel
theorem dX10_clusters_2 : decode cX10_clusters 2 = .ok (.aload_n 0, 1) := by decide +kernel
theorem dX10_clusters_3 : decode cX10_clusters 3 = .ok (.invokevirtual 109, 3) := by decide +kernel
theorem dX10_clusters_6 : decode cX10_clusters 6 = .ok (.invokestatic 99, 3) := by decide +kernel
theorem dX10_clusters_9 : decode cX10_clusters 9 = .ok (.ifCond .eq 15, 3) := by decide +kernel
theorem dX10_clusters_12 : decode cX10_clusters 12 = .ok (.iload_n 2, 1) := by decide +kernel
theorem dX10_clusters_13 : decode cX10_clusters 13 = .ok (.iconst 1, 1) := by decide +kernel
theorem dX10_clusters_14 : decode cX10_clusters 14 = .ok (.aload_n 0, 1) := by decide +kernel
theorem dX10_clusters_15 : decode cX10_clusters 15 = .ok (.invokevirtual 109, 3) := by decide +kernel
theorem dX10_clusters_18 : decode cX10_clusters 18 = .ok (.invokestatic 99, 3) := by decide +kernel
theorem dX10_clusters_21 : decode cX10_clusters 21 = .ok (.ifCond .ne 6, 3) := by decide +kernel
theorem dX10_clusters_24 : decode cX10_clusters 24 = .ok (.bipush (-2), 2) := by decide +kernel
theorem dX10_clusters_26 : decode cX10_clusters 26 = .ok (.ireturn, 1) := by decide +kernel
theorem dX10_clusters_27 : decode cX10_clusters 27 = .ok (.iconst 0, 1) := by decide +kernel
theorem dX10_clusters_28 : decode cX10_clusters 28 = .ok (.istore_n 3, 1) := by decide +kernel
theorem dX10_clusters_29 : decode cX10_clusters 29 = .ok (.iconst 0, 1) := by decide +kernel
theorem dX10_clusters_30 : decode cX10_clusters 30 = .ok (.istore 4, 2) := by decide +kernel
theorem dX10_clusters_32 : decode cX10_clusters 32 = .ok (.iload 4, 2) := by decide +kernel
theorem dX10_clusters_34 : decode cX10_clusters 34 = .ok (.aload_n 0, 1) := by decide +kernel
theorem dX10_clusters_35 : decode cX10_clusters 35 = .ok (.invokevirtual 85, 3) := by decide +kernel
theorem dX10_clusters_38 : decode cX10_clusters 38 = .ok (.if_icmp .ge 116, 3) := by decide +kernel
theorem dX10_clusters_41 : decode cX10_clusters 41 = .ok (.aload_n 0, 1) := by decide +kernel
theorem dX10_clusters_42 : decode cX10_clusters 42 = .ok (.getfield 60, 3) := by decide +kernel
theorem dX10_clusters_45 : decode cX10_clusters 45 = .ok (.iload 4, 2) := by decide +kernel
theorem dX10_clusters_47 : decode cX10_clusters 47 = .ok (.iaload, 1) := by decide +kernel
theorem dX10_clusters_48 : decode cX10_clusters 48 = .ok (.istore 5, 2) := by decide +kernel
theorem dX10_clusters_50 : decode cX10_clusters 50 = .ok (.iload 4, 2) := by decide +kernel
theorem dX10_clusters_52 : decode cX10_clusters 52 = .ok (.ifCond .ne 8, 3) := by decide +kernel
theorem dX10_clusters_55 : decode cX10_clusters 55 = .ok (.iload 5, 2) := by decide +kernel
theorem dX10_clusters_57 : decode cX10_clusters 57 = .ok (.goto 12, 3) := by decide +kernel
theorem dX10_clusters_60 : decode cX10_clusters 60 = .ok (.aload_n 0, 1) := by decide +kernel
theorem dX10_clusters_61 : decode cX10_clusters 61 = .ok (.getfield 60, 3) := by decide +kernel
theorem dX10_clusters_64 : decode cX10_clusters 64 = .ok (.iload 4, 2) := by decide +kernel
theorem dX10_clusters_66 : decode cX10_clusters 66 = .ok (.iconst 1, 1) := by decide +kernel
theorem dX10_clusters_67 : decode cX10_clusters 67 = .ok (.isub, 1) := by decide +kernel
theorem dX10_clusters_68 : decode cX10_clusters 68 = .ok (.iaload, 1) := by decide +kernel
theorem dX10_clusters_69 : decode cX10_clusters 69 = .ok (.istore 6, 2) := by decide +kernel
theorem dX10_clusters_71 : decode cX10_clusters 71 = .ok (.iload_n 3, 1) := by decide +kernel
theorem dX10_clusters_72 : decode cX10_clusters 72 = .ok (.aload_n 0, 1) := by decide +kernel
theorem dX10_clusters_73 : decode cX10_clusters 73 = .ok (.iload 5, 2) := by decide +kernel
theorem dX10_clusters_75 : decode cX10_clusters 75 = .ok (.bipush 64, 2) := by decide +kernel
theorem dX10_clusters_77 : decode cX10_clusters 77 = .ok (.irem, 1) := by decide +kernel
theorem dX10_clusters_78 : decode cX10_clusters 78 = .ok (.iload 5, 2) := by decide +kernel
theorem dX10_clusters_80 : decode cX10_clusters 80 = .ok (.bipush 64, 2) := by decide +kernel
theorem dX10_clusters_82 : decode cX10_clusters 82 = .ok (.irem, 1) := by decide +kernel
theorem dX10_clusters_83 : decode cX10_clusters 83 = .ok (.iload_n 1, 1) := by decide +kernel
theorem dX10_clusters_84 : decode cX10_clusters 84 = .ok (.invokevirtual 154, 3) := by decide +kernel
theorem dX10_clusters_87 : decode cX10_clusters 87 = .ok (.aload_n 0, 1) := by decide +kernel
theorem dX10_clusters_88 : decode cX10_clusters 88 = .ok (.iload 5, 2) := by decide +kernel
theorem dX10_clusters_90 : decode cX10_clusters 90 = .ok (.bipush 64, 2) := by decide +kernel
theorem dX10_clusters_92 : decode cX10_clusters 92 = .ok (.idiv, 1) := by decide +kernel
theorem dX10_clusters_93 : decode cX10_clusters 93 = .ok (.iload 5, 2) := by decide +kernel
theorem dX10_clusters_95 : decode cX10_clusters 95 = .ok (.bipush 64, 2) := by decide +kernel
theorem dX10_clusters_97 : decode cX10_clusters 97 = .ok (.idiv, 1) := by decide +kernel
theorem dX10_clusters_98 : decode cX10_clusters 98 = .ok (.iload_n 2, 1) := by decide +kernel
theorem dX10_clusters_99 : decode cX10_clusters 99 = .ok (.invokevirtual 154, 3) := by decide +kernel
theorem dX10_clusters_102 : decode cX10_clusters 102 = .ok (.imul, 1) := by decide +kernel
theorem dX10_clusters_103 : decode cX10_clusters 103 = .ok (.iadd, 1) := by decide +kernel
theorem dX10_clusters_104 : decode cX10_clusters 104 = .ok (.istore_n 3, 1) := by decide +kernel
theorem dX10_clusters_105 : decode cX10_clusters 105 = .ok (.iload_n 3, 1) := by decide +kernel
theorem dX10_clusters_106 : decode cX10_clusters 106 = .ok (.iload 4, 2) := by decide +kernel
theorem dX10_clusters_108 : decode cX10_clusters 108 = .ok (.ifCond .ne 7, 3) := by decide +kernel
theorem dX10_clusters_111 : decode cX10_clusters 111 = .ok (.iconst 0, 1) := by decide +kernel
theorem dX10_clusters_112 : decode cX10_clusters 112 = .ok (.goto 34, 3) := by decide +kernel
theorem dX10_clusters_115 : decode cX10_clusters 115 = .ok (.aload_n 0, 1) := by decide +kernel
theorem dX10_clusters_116 : decode cX10_clusters 116 = .ok (.iload 5, 2) := by decide +kernel
theorem dX10_clusters_118 : decode cX10_clusters 118 = .ok (.bipush 64, 2) := by decide +kernel
theorem dX10_clusters_120 : decode cX10_clusters 120 = .ok (.irem, 1) := by decide +kernel
theorem dX10_clusters_121 : decode cX10_clusters 121 = .ok (.iload 6, 2) := by decide +kernel
theorem dX10_clusters_123 : decode cX10_clusters 123 = .ok (.bipush 64, 2) := by decide +kernel
theorem dX10_clusters_125 : decode cX10_clusters 125 = .ok (.irem, 1) := by decide +kernel
theorem dX10_clusters_126 : decode cX10_clusters 126 = .ok (.iload_n 1, 1) := by decide +kernel
theorem dX10_clusters_127 : decode cX10_clusters 127 = .ok (.invokevirtual 154, 3) := by decide +kernel
theorem dX10_clusters_130 : decode cX10_clusters 130 = .ok (.aload_n 0, 1) := by decide +kernel
theorem dX10_clusters_131 : decode cX10_clusters 131 = .ok (.iload 5, 2) := by decide +kernel
theorem dX10_clusters_133 : decode cX10_clusters 133 = .ok (.bipush 64, 2) := by decide +kernel
theorem dX10_clusters_135 : decode cX10_clusters 135 = .ok (.idiv, 1) := by decide +kernel
theorem dX10_clusters_136 : decode cX10_clusters 136 = .ok (.iload 6, 2) := by decide +kernel
theorem dX10_clusters_138 : decode cX10_clusters 138 = .ok (.bipush 64, 2) := by decide +kernel
theorem dX10_clusters_140 : decode cX10_clusters 140 = .ok (.idiv, 1) := by decide +kernel
theorem dX10_clusters_141 : decode cX10_clusters 141 = .ok (.iload_n 2, 1) := by decide +kernel
theorem dX10_clusters_142 : decode cX10_clusters 142 = .ok (.invokevirtual 154, 3) := by decide +kernel
theorem dX10_clusters_145 : decode cX10_clusters 145 = .ok (.imul, 1) := by decide +kernel
theorem dX10_clusters_146 : decode cX10_clusters 146 = .ok (.isub, 1) := by decide +kernel
theorem dX10_clusters_147 : decode cX10_clusters 147 = .ok (.istore_n 3, 1) := by decide +kernel
theorem dX10_clusters_148 : decode cX10_clusters 148 = .ok (.iinc 4 1, 3) := by decide +kernel
theorem dX10_clusters_151 : decode cX10_clusters 151 = .ok (.goto (-119), 3) := by decide +kernel
theorem dX10_clusters_154 : decode cX10_clusters 154 = .ok (.iload_n 3, 1) := by decide +kernel
theorem dX10_clusters_155 : decode cX10_clusters 155 = .ok (.ireturn, 1) := by decide +kernel
theorem dX10_pointAt_0 : decode cX10_pointAt 0 = .ok (.iconst 0, 1) := by decide +kernel
theorem dX10_pointAt_1 : decode cX10_pointAt 1 = .ok (.istore_n 3, 1) := by decide +kernel
theorem dX10_pointAt_2 : decode cX10_pointAt 2 = .ok (.iload_n 3, 1) := by decide +kernel
theorem dX10_pointAt_3 : decode cX10_pointAt 3 = .ok (.aload_n 0, 1) := by decide +kernel
theorem dX10_pointAt_4 : decode cX10_pointAt 4 = .ok (.getfield 112, 3) := by decide +kernel
theorem dX10_pointAt_7 : decode cX10_pointAt 7 = .ok (.if_icmp .ge 26, 3) := by decide +kernel
theorem dX10_pointAt_10 : decode cX10_pointAt 10 = .ok (.aload_n 0, 1) := by decide +kernel
theorem dX10_pointAt_11 : decode cX10_pointAt 11 = .ok (.getfield 26, 3) := by decide +kernel
theorem dX10_pointAt_14 : decode cX10_pointAt 14 = .ok (.iload_n 3, 1) := by decide +kernel
theorem dX10_pointAt_15 : decode cX10_pointAt 15 = .ok (.iaload, 1) := by decide +kernel
theorem dX10_pointAt_16 : decode cX10_pointAt 16 = .ok (.bipush 64, 2) := by decide +kernel
theorem dX10_pointAt_18 : decode cX10_pointAt 18 = .ok (.iload_n 2, 1) := by decide +kernel
theorem dX10_pointAt_19 : decode cX10_pointAt 19 = .ok (.imul, 1) := by decide +kernel
theorem dX10_pointAt_20 : decode cX10_pointAt 20 = .ok (.iload_n 1, 1) := by decide +kernel
theorem dX10_pointAt_21 : decode cX10_pointAt 21 = .ok (.iadd, 1) := by decide +kernel
theorem dX10_pointAt_22 : decode cX10_pointAt 22 = .ok (.if_icmp .ne 5, 3) := by decide +kernel
theorem dX10_pointAt_25 : decode cX10_pointAt 25 = .ok (.iload_n 3, 1) := by decide +kernel
theorem dX10_pointAt_26 : decode cX10_pointAt 26 = .ok (.ireturn, 1) := by decide +kernel
theorem dX10_pointAt_27 : decode cX10_pointAt 27 = .ok (.iinc 3 1, 3) := by decide +kernel
theorem dX10_pointAt_30 : decode cX10_pointAt 30 = .ok (.goto (-28), 3) := by decide +kernel
theorem dX10_pointAt_33 : decode cX10_pointAt 33 = .ok (.iconst (-1), 1) := by decide +kernel
theorem dX10_pointAt_34 : decode cX10_pointAt 34 = .ok (.ireturn, 1) := by decide +kernel
set_option maxRecDepth 20000 in
theorem ggX10_addPoint_X10_isCell : GoodIn wsX10_addPoint wsX10_isCell := goodIn_r _ [7, 8, 9, 10, 6, 11, 12, 13, 14, 15, 42, 43, 44, 45, 46, 47, 48, 49, 50, 51, 52, 53, 54, 55, 56, 57, 58, 59, 60, 61, 62, 63, 64, 65, 66, 67, 68, 69, 70] (by decide +kernel) (by decide +kernel)
set_option maxRecDepth 20000 in
theorem gX10_addPoint_X10_isCell : GoodIn wsX10_addPoint (wsV RX10 115 RX10 yX10_isCell wsX10_isCell) := goodIn_app (goodIn_of _ (by decide +kernel)) ggX10_addPoint_X10_isCell
set_option maxRecDepth 20000 in
theorem ggX10_addPoint_X10_pointAt : GoodIn wsX10_addPoint wsX10_pointAt := goodIn_r _ [19, 1, 2, 42, 43, 44, 45, 46, 47, 48, 49, 50, 51, 52, 53, 54, 55, 56, 57, 58, 59, 60, 61, 62, 63, 64, 65, 66, 67, 68, 69, 70] (by decide +kernel) (by decide +kernel)
set_option maxRecDepth 20000 in
theorem gX10_addPoint_X10_pointAt : GoodIn wsX10_addPoint (wsV RX10 158 RX10 yX10_pointAt wsX10_pointAt) := goodIn_app (goodIn_of _ (by decide +kernel)) ggX10_addPoint_X10_pointAt
set_option maxRecDepth 20000 in
theorem ggX10_addPoint_X10_divides : GoodIn wsX10_addPoint wsX10_divides := goodIn_r _ [23, 24, 12, 25, 26, 27, 28, 29, 30, 6, 31, 32, 33, 34, 35, 1, 36, 2, 37, 38, 39, 40, 41, 42, 43, 44, 45, 46, 47, 48, 49, 50, 51, 52, 53, 54, 55, 56, 57, 58, 59, 60, 61, 62, 63, 64, 65, 66, 67, 68, 69, 70] (by decide +kernel) (by decide +kernel)
set_option maxRecDepth 20000 in
theorem gX10_addPoint_X10_divides : GoodIn wsX10_addPoint (wsV RX10 96 RX10 yX10_divides wsX10_divides) := goodIn_app (goodIn_of _ (by decide +kernel)) ggX10_addPoint_X10_divides
theorem dX10_addPoint_0 : decode cX10_addPoint 0 = .ok (.aload_n 0, 1) := by decide +kernel
theorem dX10_addPoint_1 : decode cX10_addPoint 1 = .ok (.iload_n 1, 1) := by decide +kernel
theorem dX10_addPoint_2 : decode cX10_addPoint 2 = .ok (.iload_n 2, 1) := by decide +kernel
theorem dX10_addPoint_3 : decode cX10_addPoint 3 = .ok (.invokevirtual 115, 3) := by decide +kernel
theorem dX10_addPoint_6 : decode cX10_addPoint 6 = .ok (.ifCond .ne 5, 3) := by decide +kernel
theorem dX10_addPoint_9 : decode cX10_addPoint 9 = .ok (.iconst (-1), 1) := by decide +kernel
theorem dX10_addPoint_10 : decode cX10_addPoint 10 = .ok (.ireturn, 1) := by decide +kernel
theorem dX10_addPoint_11 : decode cX10_addPoint 11 = .ok (.aload_n 0, 1) := by decide +kernel
theorem dX10_addPoint_12 : decode cX10_addPoint 12 = .ok (.iload_n 1, 1) := by decide +kernel
theorem dX10_addPoint_13 : decode cX10_addPoint 13 = .ok (.iload_n 2, 1) := by decide +kernel
theorem dX10_addPoint_14 : decode cX10_addPoint 14 = .ok (.invokevirtual 158, 3) := by decide +kernel
theorem dX10_addPoint_17 : decode cX10_addPoint 17 = .ok (.ifCond .lt 6, 3) := by decide +kernel
theorem dX10_addPoint_20 : decode cX10_addPoint 20 = .ok (.bipush (-3), 2) := by decide +kernel
theorem dX10_addPoint_22 : decode cX10_addPoint 22 = .ok (.ireturn, 1) := by decide +kernel
theorem dX10_addPoint_23 : decode cX10_addPoint 23 = .ok (.aload_n 0, 1) := by decide +kernel
theorem dX10_addPoint_24 : decode cX10_addPoint 24 = .ok (.getfield 112, 3) := by decide +kernel
theorem dX10_addPoint_27 : decode cX10_addPoint 27 = .ok (.bipush 40, 2) := by decide +kernel
theorem dX10_addPoint_29 : decode cX10_addPoint 29 = .ok (.if_icmp .ne 6, 3) := by decide +kernel
theorem dX10_addPoint_32 : decode cX10_addPoint 32 = .ok (.bipush (-4), 2) := by decide +kernel
theorem dX10_addPoint_34 : decode cX10_addPoint 34 = .ok (.ireturn, 1) := by decide +kernel
theorem dX10_addPoint_35 : decode cX10_addPoint 35 = .ok (.aload_n 0, 1) := by decide +kernel
theorem dX10_addPoint_36 : decode cX10_addPoint 36 = .ok (.getfield 26, 3) := by decide +kernel
theorem dX10_addPoint_39 : decode cX10_addPoint 39 = .ok (.aload_n 0, 1) := by decide +kernel
theorem dX10_addPoint_40 : decode cX10_addPoint 40 = .ok (.getfield 112, 3) := by decide +kernel
theorem dX10_addPoint_43 : decode cX10_addPoint 43 = .ok (.bipush 64, 2) := by decide +kernel
theorem dX10_addPoint_45 : decode cX10_addPoint 45 = .ok (.iload_n 2, 1) := by decide +kernel
theorem dX10_addPoint_46 : decode cX10_addPoint 46 = .ok (.imul, 1) := by decide +kernel
theorem dX10_addPoint_47 : decode cX10_addPoint 47 = .ok (.iload_n 1, 1) := by decide +kernel
theorem dX10_addPoint_48 : decode cX10_addPoint 48 = .ok (.iadd, 1) := by decide +kernel
theorem dX10_addPoint_49 : decode cX10_addPoint 49 = .ok (.iastore, 1) := by decide +kernel
theorem dX10_addPoint_50 : decode cX10_addPoint 50 = .ok (.aload_n 0, 1) := by decide +kernel
theorem dX10_addPoint_51 : decode cX10_addPoint 51 = .ok (.dup, 1) := by decide +kernel
theorem dX10_addPoint_52 : decode cX10_addPoint 52 = .ok (.getfield 112, 3) := by decide +kernel
theorem dX10_addPoint_55 : decode cX10_addPoint 55 = .ok (.iconst 1, 1) := by decide +kernel
theorem dX10_addPoint_56 : decode cX10_addPoint 56 = .ok (.iadd, 1) := by decide +kernel
theorem dX10_addPoint_57 : decode cX10_addPoint 57 = .ok (.putfield 112, 3) := by decide +kernel
theorem dX10_addPoint_60 : decode cX10_addPoint 60 = .ok (.aload_n 0, 1) := by decide +kernel
theorem dX10_addPoint_61 : decode cX10_addPoint 61 = .ok (.invokevirtual 96, 3) := by decide +kernel
theorem dX10_addPoint_64 : decode cX10_addPoint 64 = .ok (.aload_n 0, 1) := by decide +kernel
theorem dX10_addPoint_65 : decode cX10_addPoint 65 = .ok (.getfield 112, 3) := by decide +kernel
theorem dX10_addPoint_68 : decode cX10_addPoint 68 = .ok (.ireturn, 1) := by decide +kernel
set_option maxRecDepth 20000 in
theorem ggX10_removePoint_X10_isCell : GoodIn wsX10_removePoint wsX10_isCell := goodIn_r _ [7, 8, 9, 10, 6, 11, 12, 13, 14, 15, 42, 43, 44, 45, 46, 47, 48, 49, 50, 51, 52, 53, 54, 55, 56, 57, 58, 59, 60, 61, 62, 63, 64, 65, 66, 67, 68, 69, 70] (by decide +kernel) (by decide +kernel)
set_option maxRecDepth 20000 in
theorem gX10_removePoint_X10_isCell : GoodIn wsX10_removePoint (wsV RX10 115 RX10 yX10_isCell wsX10_isCell) := goodIn_app (goodIn_of _ (by decide +kernel)) ggX10_removePoint_X10_isCell
set_option maxRecDepth 20000 in
theorem ggX10_removePoint_X10_pointAt : GoodIn wsX10_removePoint wsX10_pointAt := goodIn_r _ [19, 1, 2, 42, 43, 44, 45, 46, 47, 48, 49, 50, 51, 52, 53, 54, 55, 56, 57, 58, 59, 60, 61, 62, 63, 64, 65, 66, 67, 68, 69, 70] (by decide +kernel) (by decide +kernel)
set_option maxRecDepth 20000 in
theorem gX10_removePoint_X10_pointAt : GoodIn wsX10_removePoint (wsV RX10 158 RX10 yX10_pointAt wsX10_pointAt) := goodIn_app (goodIn_of _ (by decide +kernel)) ggX10_removePoint_X10_pointAt
set_option maxRecDepth 20000 in
theorem ggX10_removePoint_X10_divides : GoodIn wsX10_removePoint wsX10_divides := goodIn_r _ [23, 24, 12, 25, 26, 27, 28, 29, 30, 6, 31, 32, 33, 34, 35, 1, 36, 2, 37, 38, 39, 40, 41, 42, 43, 44, 45, 46, 47, 48, 49, 50, 51, 52, 53, 54, 55, 56, 57, 58, 59, 60, 61, 62, 63, 64, 65, 66, 67, 68, 69, 70] (by decide +kernel) (by decide +kernel)
set_option maxRecDepth 20000 in
theorem gX10_removePoint_X10_divides : GoodIn wsX10_removePoint (wsV RX10 96 RX10 yX10_divides wsX10_divides) := goodIn_app (goodIn_of _ (by decide +kernel)) ggX10_removePoint_X10_divides
theorem dX10_removePoint_0 : decode cX10_removePoint 0 = .ok (.aload_n 0, 1) := by decide +kernel
theorem dX10_removePoint_1 : decode cX10_removePoint 1 = .ok (.iload_n 1, 1) := by decide +kernel
theorem dX10_removePoint_2 : decode cX10_removePoint 2 = .ok (.iload_n 2, 1) := by decide +kernel
theorem dX10_removePoint_3 : decode cX10_removePoint 3 = .ok (.invokevirtual 115, 3) := by decide +kernel
theorem dX10_removePoint_6 : decode cX10_removePoint 6 = .ok (.ifCond .ne 5, 3) := by decide +kernel
theorem dX10_removePoint_9 : decode cX10_removePoint 9 = .ok (.iconst (-1), 1) := by decide +kernel
theorem dX10_removePoint_10 : decode cX10_removePoint 10 = .ok (.ireturn, 1) := by decide +kernel
theorem dX10_removePoint_11 : decode cX10_removePoint 11 = .ok (.aload_n 0, 1) := by decide +kernel
theorem dX10_removePoint_12 : decode cX10_removePoint 12 = .ok (.iload_n 1, 1) := by decide +kernel
theorem dX10_removePoint_13 : decode cX10_removePoint 13 = .ok (.iload_n 2, 1) := by decide +kernel
theorem dX10_removePoint_14 : decode cX10_removePoint 14 = .ok (.invokevirtual 158, 3) := by decide +kernel
theorem dX10_removePoint_17 : decode cX10_removePoint 17 = .ok (.istore_n 3, 1) := by decide +kernel
theorem dX10_removePoint_18 : decode cX10_removePoint 18 = .ok (.iload_n 3, 1) := by decide +kernel
theorem dX10_removePoint_19 : decode cX10_removePoint 19 = .ok (.ifCond .ge 6, 3) := by decide +kernel
theorem dX10_removePoint_22 : decode cX10_removePoint 22 = .ok (.bipush (-3), 2) := by decide +kernel
theorem dX10_removePoint_24 : decode cX10_removePoint 24 = .ok (.ireturn, 1) := by decide +kernel
theorem dX10_removePoint_25 : decode cX10_removePoint 25 = .ok (.aload_n 0, 1) := by decide +kernel
theorem dX10_removePoint_26 : decode cX10_removePoint 26 = .ok (.dup, 1) := by decide +kernel
theorem dX10_removePoint_27 : decode cX10_removePoint 27 = .ok (.getfield 112, 3) := by decide +kernel
theorem dX10_removePoint_30 : decode cX10_removePoint 30 = .ok (.iconst 1, 1) := by decide +kernel
theorem dX10_removePoint_31 : decode cX10_removePoint 31 = .ok (.isub, 1) := by decide +kernel
theorem dX10_removePoint_32 : decode cX10_removePoint 32 = .ok (.putfield 112, 3) := by decide +kernel
theorem dX10_removePoint_35 : decode cX10_removePoint 35 = .ok (.aload_n 0, 1) := by decide +kernel
theorem dX10_removePoint_36 : decode cX10_removePoint 36 = .ok (.getfield 26, 3) := by decide +kernel
theorem dX10_removePoint_39 : decode cX10_removePoint 39 = .ok (.iload_n 3, 1) := by decide +kernel
theorem dX10_removePoint_40 : decode cX10_removePoint 40 = .ok (.aload_n 0, 1) := by decide +kernel
theorem dX10_removePoint_41 : decode cX10_removePoint 41 = .ok (.getfield 26, 3) := by decide +kernel
theorem dX10_removePoint_44 : decode cX10_removePoint 44 = .ok (.aload_n 0, 1) := by decide +kernel
theorem dX10_removePoint_45 : decode cX10_removePoint 45 = .ok (.getfield 112, 3) := by decide +kernel
theorem dX10_removePoint_48 : decode cX10_removePoint 48 = .ok (.iaload, 1) := by decide +kernel
theorem dX10_removePoint_49 : decode cX10_removePoint 49 = .ok (.iastore, 1) := by decide +kernel
theorem dX10_removePoint_50 : decode cX10_removePoint 50 = .ok (.aload_n 0, 1) := by decide +kernel
theorem dX10_removePoint_51 : decode cX10_removePoint 51 = .ok (.invokevirtual 96, 3) := by decide +kernel
theorem dX10_removePoint_54 : decode cX10_removePoint 54 = .ok (.aload_n 0, 1) := by decide +kernel
theorem dX10_removePoint_55 : decode cX10_removePoint 55 = .ok (.getfield 112, 3) := by decide +kernel
theorem dX10_removePoint_58 : decode cX10_removePoint 58 = .ok (.ireturn, 1) := by decide +kernel
theorem dX10_points_0 : decode cX10_points 0 = .ok (.aload_n 0, 1) := by decide +kernel
theorem dX10_points_1 : decode cX10_points 1 = .ok (.getfield 112, 3) := by decide +kernel
theorem dX10_points_4 : decode cX10_points 4 = .ok (.ireturn, 1) := by decide +kernel
set_option maxRecDepth 20000 in
theorem ggX10_nearest_X10_isCell : GoodIn wsX10_nearest wsX10_isCell := goodIn_r _ [8, 9, 10, 11, 7, 12, 13, 14, 15, 16, 20, 21, 22, 23, 24, 25, 26, 27, 28, 29, 30, 31, 32, 33, 34, 35, 36, 37, 38, 39, 40, 41, 42, 43, 44, 45, 46, 47, 48] (by decide +kernel) (by decide +kernel)
set_option maxRecDepth 20000 in
theorem gX10_nearest_X10_isCell : GoodIn wsX10_nearest (wsV RX10 115 RX10 yX10_isCell wsX10_isCell) := goodIn_app (goodIn_of _ (by decide +kernel)) ggX10_nearest_X10_isCell
set_option maxRecDepth 20000 in
theorem ggX10_nearest_X10_size : GoodIn wsX10_nearest wsX10_size := goodIn_r _ [19] (by decide +kernel) (by decide +kernel)
set_option maxRecDepth 20000 in
theorem gX10_nearest_X10_size : GoodIn wsX10_nearest (va_wsS RX10 119 yX10_size wsX10_size) := goodIn_app (goodIn_of _ (by decide +kernel)) ggX10_nearest_X10_size
theorem dX10_nearest_0 : decode cX10_nearest 0 = .ok (.aload_n 0, 1) := by decide +kernel
theorem dX10_nearest_1 : decode cX10_nearest 1 = .ok (.iload_n 1, 1) := by decide +kernel
theorem dX10_nearest_2 : decode cX10_nearest 2 = .ok (.iload_n 2, 1) := by decide +kernel
theorem dX10_nearest_3 : decode cX10_nearest 3 = .ok (.invokevirtual 115, 3) := by decide +kernel
theorem dX10_nearest_6 : decode cX10_nearest 6 = .ok (.ifCond .ne 5, 3) := by decide +kernel
theorem dX10_nearest_9 : decode cX10_nearest 9 = .ok (.iconst (-1), 1) := by decide +kernel
theorem dX10_nearest_10 : decode cX10_nearest 10 = .ok (.ireturn, 1) := by decide +kernel
theorem dX10_nearest_11 : decode cX10_nearest 11 = .ok (.aload_n 0, 1) := by decide +kernel
theorem dX10_nearest_12 : decode cX10_nearest 12 = .ok (.getfield 57, 3) := by decide +kernel
theorem dX10_nearest_15 : decode cX10_nearest 15 = .ok (.bipush 64, 2) := by decide +kernel
theorem dX10_nearest_17 : decode cX10_nearest 17 = .ok (.iload_n 2, 1) := by decide +kernel
theorem dX10_nearest_18 : decode cX10_nearest 18 = .ok (.imul, 1) := by decide +kernel
theorem dX10_nearest_19 : decode cX10_nearest 19 = .ok (.iload_n 1, 1) := by decide +kernel
theorem dX10_nearest_20 : decode cX10_nearest 20 = .ok (.iadd, 1) := by decide +kernel
theorem dX10_nearest_21 : decode cX10_nearest 21 = .ok (.iaload, 1) := by decide +kernel
theorem dX10_nearest_22 : decode cX10_nearest 22 = .ok (.istore_n 3, 1) := by decide +kernel
theorem dX10_nearest_23 : decode cX10_nearest 23 = .ok (.bipush (-5), 2) := by decide +kernel
theorem dX10_nearest_25 : decode cX10_nearest 25 = .ok (.istore 4, 2) := by decide +kernel
theorem dX10_nearest_27 : decode cX10_nearest 27 = .ok (.iconst 0, 1) := by decide +kernel
theorem dX10_nearest_28 : decode cX10_nearest 28 = .ok (.istore 5, 2) := by decide +kernel
theorem dX10_nearest_30 : decode cX10_nearest 30 = .ok (.iload 5, 2) := by decide +kernel
theorem dX10_nearest_32 : decode cX10_nearest 32 = .ok (.aload_n 0, 1) := by decide +kernel
theorem dX10_nearest_33 : decode cX10_nearest 33 = .ok (.getfield 112, 3) := by decide +kernel
theorem dX10_nearest_36 : decode cX10_nearest 36 = .ok (.if_icmp .ge 75, 3) := by decide +kernel
theorem dX10_nearest_39 : decode cX10_nearest 39 = .ok (.aload_n 0, 1) := by decide +kernel
theorem dX10_nearest_40 : decode cX10_nearest 40 = .ok (.getfield 57, 3) := by decide +kernel
theorem dX10_nearest_43 : decode cX10_nearest 43 = .ok (.aload_n 0, 1) := by decide +kernel
theorem dX10_nearest_44 : decode cX10_nearest 44 = .ok (.getfield 26, 3) := by decide +kernel
theorem dX10_nearest_47 : decode cX10_nearest 47 = .ok (.iload 5, 2) := by decide +kernel
theorem dX10_nearest_49 : decode cX10_nearest 49 = .ok (.iaload, 1) := by decide +kernel
theorem dX10_nearest_50 : decode cX10_nearest 50 = .ok (.iaload, 1) := by decide +kernel
theorem dX10_nearest_51 : decode cX10_nearest 51 = .ok (.istore 6, 2) := by decide +kernel
theorem dX10_nearest_53 : decode cX10_nearest 53 = .ok (.iload 4, 2) := by decide +kernel
theorem dX10_nearest_55 : decode cX10_nearest 55 = .ok (.ifCond .ge 7, 3) := by decide +kernel
theorem dX10_nearest_58 : decode cX10_nearest 58 = .ok (.iconst 1, 1) := by decide +kernel
theorem dX10_nearest_59 : decode cX10_nearest 59 = .ok (.goto 18, 3) := by decide +kernel
theorem dX10_nearest_62 : decode cX10_nearest 62 = .ok (.iload 4, 2) := by decide +kernel
theorem dX10_nearest_64 : decode cX10_nearest 64 = .ok (.iload_n 3, 1) := by decide +kernel
theorem dX10_nearest_65 : decode cX10_nearest 65 = .ok (.isub, 1) := by decide +kernel
theorem dX10_nearest_66 : decode cX10_nearest 66 = .ok (.invokestatic 119, 3) := by decide +kernel
theorem dX10_nearest_69 : decode cX10_nearest 69 = .ok (.iload 6, 2) := by decide +kernel
theorem dX10_nearest_71 : decode cX10_nearest 71 = .ok (.iload_n 3, 1) := by decide +kernel
theorem dX10_nearest_72 : decode cX10_nearest 72 = .ok (.isub, 1) := by decide +kernel
theorem dX10_nearest_73 : decode cX10_nearest 73 = .ok (.invokestatic 119, 3) := by decide +kernel
theorem dX10_nearest_76 : decode cX10_nearest 76 = .ok (.isub, 1) := by decide +kernel
theorem dX10_nearest_77 : decode cX10_nearest 77 = .ok (.istore 7, 2) := by decide +kernel
theorem dX10_nearest_79 : decode cX10_nearest 79 = .ok (.iload 7, 2) := by decide +kernel
theorem dX10_nearest_81 : decode cX10_nearest 81 = .ok (.ifCond .gt 15, 3) := by decide +kernel
theorem dX10_nearest_84 : decode cX10_nearest 84 = .ok (.iload 7, 2) := by decide +kernel
theorem dX10_nearest_86 : decode cX10_nearest 86 = .ok (.ifCond .ne 15, 3) := by decide +kernel
theorem dX10_nearest_89 : decode cX10_nearest 89 = .ok (.iload 6, 2) := by decide +kernel
theorem dX10_nearest_91 : decode cX10_nearest 91 = .ok (.iload 4, 2) := by decide +kernel
theorem dX10_nearest_93 : decode cX10_nearest 93 = .ok (.if_icmp .ge 8, 3) := by decide +kernel
theorem dX10_nearest_96 : decode cX10_nearest 96 = .ok (.iload 6, 2) := by decide +kernel
theorem dX10_nearest_98 : decode cX10_nearest 98 = .ok (.goto 5, 3) := by decide +kernel
theorem dX10_nearest_101 : decode cX10_nearest 101 = .ok (.iload 4, 2) := by decide +kernel
theorem dX10_nearest_103 : decode cX10_nearest 103 = .ok (.istore 4, 2) := by decide +kernel
theorem dX10_nearest_105 : decode cX10_nearest 105 = .ok (.iinc 5 1, 3) := by decide +kernel
theorem dX10_nearest_108 : decode cX10_nearest 108 = .ok (.goto (-78), 3) := by decide +kernel
theorem dX10_nearest_111 : decode cX10_nearest 111 = .ok (.iload 4, 2) := by decide +kernel
theorem dX10_nearest_113 : decode cX10_nearest 113 = .ok (.ireturn, 1) := by decide +kernel
set_option maxRecDepth 20000 in
theorem ggX10_setBucket_X10_in : GoodIn wsX10_setBucket wsX10_in := goodIn_r _ [5] (by decide +kernel) (by decide +kernel)
set_option maxRecDepth 20000 in
theorem gX10_setBucket_X10_in : GoodIn wsX10_setBucket (va_wsS RX10 99 yX10_in wsX10_in) := goodIn_app (goodIn_of _ (by decide +kernel)) ggX10_setBucket_X10_in
set_option maxRecDepth 20000 in
theorem ggX10_setBucket_X10_divides : GoodIn wsX10_setBucket wsX10_divides := goodIn_r _ [9, 10, 11, 1, 12, 13, 14, 15, 16, 4, 17, 18, 19, 20, 21, 22, 23, 24, 25, 26, 27, 28, 29, 30, 31, 32, 33, 34, 35, 36, 37, 38, 39, 40, 41, 42, 43, 44, 45, 46, 47, 48, 49, 50, 51, 52, 53, 54, 55, 56, 57, 58] (by decide +kernel) (by decide +kernel)
set_option maxRecDepth 20000 in
theorem gX10_setBucket_X10_divides : GoodIn wsX10_setBucket (wsV RX10 96 RX10 yX10_divides wsX10_divides) := goodIn_app (goodIn_of _ (by decide +kernel)) ggX10_setBucket_X10_divides
theorem dX10_setBucket_0 : decode cX10_setBucket 0 = .ok (.iload_n 1, 1) := by decide +kernel
theorem dX10_setBucket_1 : decode cX10_setBucket 1 = .ok (.iconst 1, 1) := by decide +kernel
theorem dX10_setBucket_2 : decode cX10_setBucket 2 = .ok (.bipush 8, 2) := by decide +kernel
theorem dX10_setBucket_4 : decode cX10_setBucket 4 = .ok (.invokestatic 99, 3) := by decide +kernel
theorem dX10_setBucket_7 : decode cX10_setBucket 7 = .ok (.ifCond .ne 6, 3) := by decide +kernel
theorem dX10_setBucket_10 : decode cX10_setBucket 10 = .ok (.bipush (-2), 2) := by decide +kernel
theorem dX10_setBucket_12 : decode cX10_setBucket 12 = .ok (.ireturn, 1) := by decide +kernel
theorem dX10_setBucket_13 : decode cX10_setBucket 13 = .ok (.aload_n 0, 1) := by decide +kernel
theorem dX10_setBucket_14 : decode cX10_setBucket 14 = .ok (.getfield 29, 3) := by decide +kernel
theorem dX10_setBucket_17 : decode cX10_setBucket 17 = .ok (.istore_n 2, 1) := by decide +kernel
theorem dX10_setBucket_18 : decode cX10_setBucket 18 = .ok (.aload_n 0, 1) := by decide +kernel
theorem dX10_setBucket_19 : decode cX10_setBucket 19 = .ok (.iload_n 1, 1) := by decide +kernel
theorem dX10_setBucket_20 : decode cX10_setBucket 20 = .ok (.putfield 29, 3) := by decide +kernel
theorem dX10_setBucket_23 : decode cX10_setBucket 23 = .ok (.aload_n 0, 1) := by decide +kernel
theorem dX10_setBucket_24 : decode cX10_setBucket 24 = .ok (.invokevirtual 96, 3) := by decide +kernel
theorem dX10_setBucket_27 : decode cX10_setBucket 27 = .ok (.iload_n 2, 1) := by decide +kernel
theorem dX10_setBucket_28 : decode cX10_setBucket 28 = .ok (.ireturn, 1) := by decide +kernel
theorem dX10_pointsIn_0 : decode cX10_pointsIn 0 = .ok (.iconst 0, 1) := by decide +kernel
theorem dX10_pointsIn_1 : decode cX10_pointsIn 1 = .ok (.istore_n 3, 1) := by decide +kernel
theorem dX10_pointsIn_2 : decode cX10_pointsIn 2 = .ok (.iconst 0, 1) := by decide +kernel
theorem dX10_pointsIn_3 : decode cX10_pointsIn 3 = .ok (.istore 4, 2) := by decide +kernel
theorem dX10_pointsIn_5 : decode cX10_pointsIn 5 = .ok (.iload 4, 2) := by decide +kernel
theorem dX10_pointsIn_7 : decode cX10_pointsIn 7 = .ok (.aload_n 0, 1) := by decide +kernel
theorem dX10_pointsIn_8 : decode cX10_pointsIn 8 = .ok (.getfield 112, 3) := by decide +kernel
theorem dX10_pointsIn_11 : decode cX10_pointsIn 11 = .ok (.if_icmp .ge 41, 3) := by decide +kernel
theorem dX10_pointsIn_14 : decode cX10_pointsIn 14 = .ok (.iload_n 3, 1) := by decide +kernel
theorem dX10_pointsIn_15 : decode cX10_pointsIn 15 = .ok (.aload_n 0, 1) := by decide +kernel
theorem dX10_pointsIn_16 : decode cX10_pointsIn 16 = .ok (.getfield 57, 3) := by decide +kernel
theorem dX10_pointsIn_19 : decode cX10_pointsIn 19 = .ok (.aload_n 0, 1) := by decide +kernel
theorem dX10_pointsIn_20 : decode cX10_pointsIn 20 = .ok (.getfield 26, 3) := by decide +kernel
theorem dX10_pointsIn_23 : decode cX10_pointsIn 23 = .ok (.iload 4, 2) := by decide +kernel
theorem dX10_pointsIn_25 : decode cX10_pointsIn 25 = .ok (.iaload, 1) := by decide +kernel
theorem dX10_pointsIn_26 : decode cX10_pointsIn 26 = .ok (.iaload, 1) := by decide +kernel
theorem dX10_pointsIn_27 : decode cX10_pointsIn 27 = .ok (.iconst 2, 1) := by decide +kernel
theorem dX10_pointsIn_28 : decode cX10_pointsIn 28 = .ok (.iload_n 2, 1) := by decide +kernel
theorem dX10_pointsIn_29 : decode cX10_pointsIn 29 = .ok (.imul, 1) := by decide +kernel
theorem dX10_pointsIn_30 : decode cX10_pointsIn 30 = .ok (.ishr, 1) := by decide +kernel
theorem dX10_pointsIn_31 : decode cX10_pointsIn 31 = .ok (.iload_n 1, 1) := by decide +kernel
theorem dX10_pointsIn_32 : decode cX10_pointsIn 32 = .ok (.iconst 2, 1) := by decide +kernel
theorem dX10_pointsIn_33 : decode cX10_pointsIn 33 = .ok (.iload_n 2, 1) := by decide +kernel
theorem dX10_pointsIn_34 : decode cX10_pointsIn 34 = .ok (.imul, 1) := by decide +kernel
theorem dX10_pointsIn_35 : decode cX10_pointsIn 35 = .ok (.ishr, 1) := by decide +kernel
theorem dX10_pointsIn_36 : decode cX10_pointsIn 36 = .ok (.if_icmp .ne 7, 3) := by decide +kernel
theorem dX10_pointsIn_39 : decode cX10_pointsIn 39 = .ok (.iconst 1, 1) := by decide +kernel
theorem dX10_pointsIn_40 : decode cX10_pointsIn 40 = .ok (.goto 4, 3) := by decide +kernel
theorem dX10_pointsIn_43 : decode cX10_pointsIn 43 = .ok (.iconst 0, 1) := by decide +kernel
theorem dX10_pointsIn_44 : decode cX10_pointsIn 44 = .ok (.iadd, 1) := by decide +kernel
theorem dX10_pointsIn_45 : decode cX10_pointsIn 45 = .ok (.istore_n 3, 1) := by decide +kernel
theorem dX10_pointsIn_46 : decode cX10_pointsIn 46 = .ok (.iinc 4 1, 3) := by decide +kernel
theorem dX10_pointsIn_49 : decode cX10_pointsIn 49 = .ok (.goto (-44), 3) := by decide +kernel
theorem dX10_pointsIn_52 : decode cX10_pointsIn 52 = .ok (.iload_n 3, 1) := by decide +kernel
theorem dX10_pointsIn_53 : decode cX10_pointsIn 53 = .ok (.ireturn, 1) := by decide +kernel
set_option maxRecDepth 20000 in
theorem ggX10_divides_X10_all : GoodIn wsX10_divides wsX10_all := goodIn_r _ [10, 2, 23, 24, 25, 26, 27, 28, 29, 30, 31, 32, 33, 34, 35, 36, 37, 38, 39, 40, 41, 42, 43, 44, 45, 46, 47, 48, 49, 50, 51] (by decide +kernel) (by decide +kernel)
set_option maxRecDepth 20000 in
theorem gX10_divides_X10_all : GoodIn wsX10_divides (wsV RX10 85 RX10 yX10_all wsX10_all) := goodIn_app (goodIn_of _ (by decide +kernel)) ggX10_divides_X10_all
set_option maxRecDepth 20000 in
theorem ggX10_divides_X10_pointsIn : GoodIn wsX10_divides wsX10_pointsIn := goodIn_r _ [14, 15, 16, 17, 23, 24, 25, 26, 27, 28, 29, 30, 31, 32, 33, 34, 35, 36, 37, 38, 39, 40, 41, 42, 43, 44, 45, 46, 47, 48, 49, 50, 51] (by decide +kernel) (by decide +kernel)
set_option maxRecDepth 20000 in
theorem gX10_divides_X10_pointsIn : GoodIn wsX10_divides (wsV RX10 164 RX10 yX10_pointsIn wsX10_pointsIn) := goodIn_app (goodIn_of _ (by decide +kernel)) ggX10_divides_X10_pointsIn
set_option maxRecDepth 20000 in
theorem ggX10_divides_X10_maps : GoodIn wsX10_divides wsX10_maps := goodIn_r _ [21, 1, 4, 5, 22, 23, 24, 25, 26, 27, 28, 29, 30, 31, 32, 33, 34, 35, 36, 37, 38, 39, 40, 41, 42, 43, 44, 45, 46, 47, 48, 49, 50, 51] (by decide +kernel) (by decide +kernel)
set_option maxRecDepth 20000 in
theorem gX10_divides_X10_maps : GoodIn wsX10_divides (wsV RX10 167 RX10 yX10_maps wsX10_maps) := goodIn_app (goodIn_of _ (by decide +kernel)) ggX10_divides_X10_maps
theorem dX10_divides_0 : decode cX10_divides 0 = .ok (.aload_n 0, 1) := by decide +kernel
theorem dX10_divides_1 : decode cX10_divides 1 = .ok (.iconst 0, 1) := by decide +kernel
theorem dX10_divides_2 : decode cX10_divides 2 = .ok (.putfield 161, 3) := by decide +kernel
theorem dX10_divides_5 : decode cX10_divides 5 = .ok (.iconst 0, 1) := by decide +kernel
theorem dX10_divides_6 : decode cX10_divides 6 = .ok (.istore_n 1, 1) := by decide +kernel
theorem dX10_divides_7 : decode cX10_divides 7 = .ok (.iload_n 1, 1) := by decide +kernel
theorem dX10_divides_8 : decode cX10_divides 8 = .ok (.aload_n 0, 1) := by decide +kernel
theorem dX10_divides_9 : decode cX10_divides 9 = .ok (.invokevirtual 85, 3) := by decide +kernel
theorem dX10_divides_12 : decode cX10_divides 12 = .ok (.if_icmp .ge 90, 3) := by decide +kernel
theorem dX10_divides_15 : decode cX10_divides 15 = .ok (.aload_n 0, 1) := by decide +kernel
theorem dX10_divides_16 : decode cX10_divides 16 = .ok (.getfield 7, 3) := by decide +kernel
theorem dX10_divides_19 : decode cX10_divides 19 = .ok (.istore_n 2, 1) := by decide +kernel
theorem dX10_divides_20 : decode cX10_divides 20 = .ok (.iload_n 1, 1) := by decide +kernel
theorem dX10_divides_21 : decode cX10_divides 21 = .ok (.iconst 1, 1) := by decide +kernel
theorem dX10_divides_22 : decode cX10_divides 22 = .ok (.iconst 2, 1) := by decide +kernel
theorem dX10_divides_23 : decode cX10_divides 23 = .ok (.iload_n 2, 1) := by decide +kernel
theorem dX10_divides_24 : decode cX10_divides 24 = .ok (.imul, 1) := by decide +kernel
theorem dX10_divides_25 : decode cX10_divides 25 = .ok (.ishl, 1) := by decide +kernel
theorem dX10_divides_26 : decode cX10_divides 26 = .ok (.iconst 1, 1) := by decide +kernel
theorem dX10_divides_27 : decode cX10_divides 27 = .ok (.isub, 1) := by decide +kernel
theorem dX10_divides_28 : decode cX10_divides 28 = .ok (.iand, 1) := by decide +kernel
theorem dX10_divides_29 : decode cX10_divides 29 = .ok (.ifCond .eq 9, 3) := by decide +kernel
theorem dX10_divides_32 : decode cX10_divides 32 = .ok (.iinc 2 (-1), 3) := by decide +kernel
theorem dX10_divides_35 : decode cX10_divides 35 = .ok (.goto (-15), 3) := by decide +kernel
theorem dX10_divides_38 : decode cX10_divides 38 = .ok (.iload_n 2, 1) := by decide +kernel
theorem dX10_divides_39 : decode cX10_divides 39 = .ok (.ifCond .le 22, 3) := by decide +kernel
theorem dX10_divides_42 : decode cX10_divides 42 = .ok (.aload_n 0, 1) := by decide +kernel
theorem dX10_divides_43 : decode cX10_divides 43 = .ok (.iload_n 1, 1) := by decide +kernel
theorem dX10_divides_44 : decode cX10_divides 44 = .ok (.iload_n 2, 1) := by decide +kernel
theorem dX10_divides_45 : decode cX10_divides 45 = .ok (.invokevirtual 164, 3) := by decide +kernel
theorem dX10_divides_48 : decode cX10_divides 48 = .ok (.aload_n 0, 1) := by decide +kernel
theorem dX10_divides_49 : decode cX10_divides 49 = .ok (.getfield 29, 3) := by decide +kernel
theorem dX10_divides_52 : decode cX10_divides 52 = .ok (.if_icmp .le 9, 3) := by decide +kernel
theorem dX10_divides_55 : decode cX10_divides 55 = .ok (.iinc 2 (-1), 3) := by decide +kernel
theorem dX10_divides_58 : decode cX10_divides 58 = .ok (.goto (-20), 3) := by decide +kernel
theorem dX10_divides_61 : decode cX10_divides 61 = .ok (.aload_n 0, 1) := by decide +kernel
theorem dX10_divides_62 : decode cX10_divides 62 = .ok (.getfield 32, 3) := by decide +kernel
theorem dX10_divides_65 : decode cX10_divides 65 = .ok (.aload_n 0, 1) := by decide +kernel
theorem dX10_divides_66 : decode cX10_divides 66 = .ok (.getfield 161, 3) := by decide +kernel
theorem dX10_divides_69 : decode cX10_divides 69 = .ok (.iload_n 1, 1) := by decide +kernel
theorem dX10_divides_70 : decode cX10_divides 70 = .ok (.iastore, 1) := by decide +kernel
theorem dX10_divides_71 : decode cX10_divides 71 = .ok (.aload_n 0, 1) := by decide +kernel
theorem dX10_divides_72 : decode cX10_divides 72 = .ok (.getfield 35, 3) := by decide +kernel
theorem dX10_divides_75 : decode cX10_divides 75 = .ok (.aload_n 0, 1) := by decide +kernel
theorem dX10_divides_76 : decode cX10_divides 76 = .ok (.getfield 161, 3) := by decide +kernel
theorem dX10_divides_79 : decode cX10_divides 79 = .ok (.iload_n 2, 1) := by decide +kernel
theorem dX10_divides_80 : decode cX10_divides 80 = .ok (.iastore, 1) := by decide +kernel
theorem dX10_divides_81 : decode cX10_divides 81 = .ok (.aload_n 0, 1) := by decide +kernel
theorem dX10_divides_82 : decode cX10_divides 82 = .ok (.dup, 1) := by decide +kernel
theorem dX10_divides_83 : decode cX10_divides 83 = .ok (.getfield 161, 3) := by decide +kernel
theorem dX10_divides_86 : decode cX10_divides 86 = .ok (.iconst 1, 1) := by decide +kernel
theorem dX10_divides_87 : decode cX10_divides 87 = .ok (.iadd, 1) := by decide +kernel
theorem dX10_divides_88 : decode cX10_divides 88 = .ok (.putfield 161, 3) := by decide +kernel
theorem dX10_divides_91 : decode cX10_divides 91 = .ok (.iload_n 1, 1) := by decide +kernel
theorem dX10_divides_92 : decode cX10_divides 92 = .ok (.iconst 1, 1) := by decide +kernel
theorem dX10_divides_93 : decode cX10_divides 93 = .ok (.iconst 2, 1) := by decide +kernel
theorem dX10_divides_94 : decode cX10_divides 94 = .ok (.iload_n 2, 1) := by decide +kernel
theorem dX10_divides_95 : decode cX10_divides 95 = .ok (.imul, 1) := by decide +kernel
theorem dX10_divides_96 : decode cX10_divides 96 = .ok (.ishl, 1) := by decide +kernel
theorem dX10_divides_97 : decode cX10_divides 97 = .ok (.iadd, 1) := by decide +kernel
theorem dX10_divides_98 : decode cX10_divides 98 = .ok (.istore_n 1, 1) := by decide +kernel
theorem dX10_divides_99 : decode cX10_divides 99 = .ok (.goto (-92), 3) := by decide +kernel
theorem dX10_divides_102 : decode cX10_divides 102 = .ok (.aload_n 0, 1) := by decide +kernel
theorem dX10_divides_103 : decode cX10_divides 103 = .ok (.invokevirtual 167, 3) := by decide +kernel
theorem dX10_divides_106 : decode cX10_divides 106 = .ok (.return_, 1) := by decide +kernel
theorem dX10_maps_0 : decode cX10_maps 0 = .ok (.iconst 0, 1) := by decide +kernel
theorem dX10_maps_1 : decode cX10_maps 1 = .ok (.istore_n 1, 1) := by decide +kernel
theorem dX10_maps_2 : decode cX10_maps 2 = .ok (.iload_n 1, 1) := by decide +kernel
theorem dX10_maps_3 : decode cX10_maps 3 = .ok (.aload_n 0, 1) := by decide +kernel
theorem dX10_maps_4 : decode cX10_maps 4 = .ok (.getfield 161, 3) := by decide +kernel
theorem dX10_maps_7 : decode cX10_maps 7 = .ok (.if_icmp .ge 50, 3) := by decide +kernel
theorem dX10_maps_10 : decode cX10_maps 10 = .ok (.aload_n 0, 1) := by decide +kernel
theorem dX10_maps_11 : decode cX10_maps 11 = .ok (.getfield 32, 3) := by decide +kernel
theorem dX10_maps_14 : decode cX10_maps 14 = .ok (.iload_n 1, 1) := by decide +kernel
theorem dX10_maps_15 : decode cX10_maps 15 = .ok (.iaload, 1) := by decide +kernel
theorem dX10_maps_16 : decode cX10_maps 16 = .ok (.istore_n 2, 1) := by decide +kernel
theorem dX10_maps_17 : decode cX10_maps 17 = .ok (.iload_n 2, 1) := by decide +kernel
theorem dX10_maps_18 : decode cX10_maps 18 = .ok (.aload_n 0, 1) := by decide +kernel
theorem dX10_maps_19 : decode cX10_maps 19 = .ok (.getfield 32, 3) := by decide +kernel
theorem dX10_maps_22 : decode cX10_maps 22 = .ok (.iload_n 1, 1) := by decide +kernel
theorem dX10_maps_23 : decode cX10_maps 23 = .ok (.iaload, 1) := by decide +kernel
theorem dX10_maps_24 : decode cX10_maps 24 = .ok (.iconst 1, 1) := by decide +kernel
theorem dX10_maps_25 : decode cX10_maps 25 = .ok (.iconst 2, 1) := by decide +kernel
theorem dX10_maps_26 : decode cX10_maps 26 = .ok (.aload_n 0, 1) := by decide +kernel
theorem dX10_maps_27 : decode cX10_maps 27 = .ok (.getfield 35, 3) := by decide +kernel
theorem dX10_maps_30 : decode cX10_maps 30 = .ok (.iload_n 1, 1) := by decide +kernel
theorem dX10_maps_31 : decode cX10_maps 31 = .ok (.iaload, 1) := by decide +kernel
theorem dX10_maps_32 : decode cX10_maps 32 = .ok (.imul, 1) := by decide +kernel
theorem dX10_maps_33 : decode cX10_maps 33 = .ok (.ishl, 1) := by decide +kernel
theorem dX10_maps_34 : decode cX10_maps 34 = .ok (.iadd, 1) := by decide +kernel
theorem dX10_maps_35 : decode cX10_maps 35 = .ok (.if_icmp .ge 16, 3) := by decide +kernel
theorem dX10_maps_38 : decode cX10_maps 38 = .ok (.aload_n 0, 1) := by decide +kernel
theorem dX10_maps_39 : decode cX10_maps 39 = .ok (.getfield 69, 3) := by decide +kernel
theorem dX10_maps_42 : decode cX10_maps 42 = .ok (.iload_n 2, 1) := by decide +kernel
theorem dX10_maps_43 : decode cX10_maps 43 = .ok (.iload_n 1, 1) := by decide +kernel
theorem dX10_maps_44 : decode cX10_maps 44 = .ok (.iastore, 1) := by decide +kernel
theorem dX10_maps_45 : decode cX10_maps 45 = .ok (.iinc 2 1, 3) := by decide +kernel
theorem dX10_maps_48 : decode cX10_maps 48 = .ok (.goto (-31), 3) := by decide +kernel
theorem dX10_maps_51 : decode cX10_maps 51 = .ok (.iinc 1 1, 3) := by decide +kernel
theorem dX10_maps_54 : decode cX10_maps 54 = .ok (.goto (-52), 3) := by decide +kernel
end
section
theorem dX10_maps_57 : decode cX10_maps 57 = .ok (.return_, 1) := by decide +kernel
theorem dX10_leaves_0 : decode cX10_leaves 0 = .ok (.aload_n 0, 1) := by decide +kernel
theorem dX10_leaves_1 : decode cX10_leaves 1 = .ok (.getfield 161, 3) := by decide +kernel
theorem dX10_leaves_4 : decode cX10_leaves 4 = .ok (.ireturn, 1) := by decide +kernel
set_option maxRecDepth 20000 in
theorem ggX10_isLeaf_X10_in : GoodIn wsX10_isLeaf wsX10_in := goodIn_r _ [5] (by decide +kernel) (by decide +kernel)
set_option maxRecDepth 20000 in
theorem gX10_isLeaf_X10_in : GoodIn wsX10_isLeaf (va_wsS RX10 99 yX10_in wsX10_in) := goodIn_app (goodIn_of _ (by decide +kernel)) ggX10_isLeaf_X10_in
theorem dX10_isLeaf_0 : decode cX10_isLeaf 0 = .ok (.iload_n 1, 1) := by decide +kernel
theorem dX10_isLeaf_1 : decode cX10_isLeaf 1 = .ok (.iconst 0, 1) := by decide +kernel
theorem dX10_isLeaf_2 : decode cX10_isLeaf 2 = .ok (.aload_n 0, 1) := by decide +kernel
theorem dX10_isLeaf_3 : decode cX10_isLeaf 3 = .ok (.getfield 161, 3) := by decide +kernel
theorem dX10_isLeaf_6 : decode cX10_isLeaf 6 = .ok (.iconst 1, 1) := by decide +kernel
theorem dX10_isLeaf_7 : decode cX10_isLeaf 7 = .ok (.isub, 1) := by decide +kernel
theorem dX10_isLeaf_8 : decode cX10_isLeaf 8 = .ok (.invokestatic 99, 3) := by decide +kernel
theorem dX10_isLeaf_11 : decode cX10_isLeaf 11 = .ok (.ireturn, 1) := by decide +kernel
theorem dX10_leftOf_0 : decode cX10_leftOf 0 = .ok (.aload_n 0, 1) := by decide +kernel
theorem dX10_leftOf_1 : decode cX10_leftOf 1 = .ok (.getfield 60, 3) := by decide +kernel
theorem dX10_leftOf_4 : decode cX10_leftOf 4 = .ok (.aload_n 0, 1) := by decide +kernel
theorem dX10_leftOf_5 : decode cX10_leftOf 5 = .ok (.getfield 32, 3) := by decide +kernel
theorem dX10_leftOf_8 : decode cX10_leftOf 8 = .ok (.iload_n 1, 1) := by decide +kernel
theorem dX10_leftOf_9 : decode cX10_leftOf 9 = .ok (.iaload, 1) := by decide +kernel
theorem dX10_leftOf_10 : decode cX10_leftOf 10 = .ok (.iaload, 1) := by decide +kernel
theorem dX10_leftOf_11 : decode cX10_leftOf 11 = .ok (.bipush 64, 2) := by decide +kernel
theorem dX10_leftOf_13 : decode cX10_leftOf 13 = .ok (.irem, 1) := by decide +kernel
theorem dX10_leftOf_14 : decode cX10_leftOf 14 = .ok (.aload_n 0, 1) := by decide +kernel
theorem dX10_leftOf_15 : decode cX10_leftOf 15 = .ok (.getfield 35, 3) := by decide +kernel
theorem dX10_leftOf_18 : decode cX10_leftOf 18 = .ok (.iload_n 1, 1) := by decide +kernel
theorem dX10_leftOf_19 : decode cX10_leftOf 19 = .ok (.iaload, 1) := by decide +kernel
theorem dX10_leftOf_20 : decode cX10_leftOf 20 = .ok (.ishr, 1) := by decide +kernel
theorem dX10_leftOf_21 : decode cX10_leftOf 21 = .ok (.aload_n 0, 1) := by decide +kernel
theorem dX10_leftOf_22 : decode cX10_leftOf 22 = .ok (.getfield 35, 3) := by decide +kernel
theorem dX10_leftOf_25 : decode cX10_leftOf 25 = .ok (.iload_n 1, 1) := by decide +kernel
theorem dX10_leftOf_26 : decode cX10_leftOf 26 = .ok (.iaload, 1) := by decide +kernel
theorem dX10_leftOf_27 : decode cX10_leftOf 27 = .ok (.ishl, 1) := by decide +kernel
theorem dX10_leftOf_28 : decode cX10_leftOf 28 = .ok (.ireturn, 1) := by decide +kernel
theorem dX10_belowOf_0 : decode cX10_belowOf 0 = .ok (.aload_n 0, 1) := by decide +kernel
theorem dX10_belowOf_1 : decode cX10_belowOf 1 = .ok (.getfield 60, 3) := by decide +kernel
theorem dX10_belowOf_4 : decode cX10_belowOf 4 = .ok (.aload_n 0, 1) := by decide +kernel
theorem dX10_belowOf_5 : decode cX10_belowOf 5 = .ok (.getfield 32, 3) := by decide +kernel
theorem dX10_belowOf_8 : decode cX10_belowOf 8 = .ok (.iload_n 1, 1) := by decide +kernel
theorem dX10_belowOf_9 : decode cX10_belowOf 9 = .ok (.iaload, 1) := by decide +kernel
theorem dX10_belowOf_10 : decode cX10_belowOf 10 = .ok (.iaload, 1) := by decide +kernel
theorem dX10_belowOf_11 : decode cX10_belowOf 11 = .ok (.bipush 64, 2) := by decide +kernel
theorem dX10_belowOf_13 : decode cX10_belowOf 13 = .ok (.idiv, 1) := by decide +kernel
theorem dX10_belowOf_14 : decode cX10_belowOf 14 = .ok (.aload_n 0, 1) := by decide +kernel
theorem dX10_belowOf_15 : decode cX10_belowOf 15 = .ok (.getfield 35, 3) := by decide +kernel
theorem dX10_belowOf_18 : decode cX10_belowOf 18 = .ok (.iload_n 1, 1) := by decide +kernel
theorem dX10_belowOf_19 : decode cX10_belowOf 19 = .ok (.iaload, 1) := by decide +kernel
theorem dX10_belowOf_20 : decode cX10_belowOf 20 = .ok (.ishr, 1) := by decide +kernel
theorem dX10_belowOf_21 : decode cX10_belowOf 21 = .ok (.aload_n 0, 1) := by decide +kernel
theorem dX10_belowOf_22 : decode cX10_belowOf 22 = .ok (.getfield 35, 3) := by decide +kernel
theorem dX10_belowOf_25 : decode cX10_belowOf 25 = .ok (.iload_n 1, 1) := by decide +kernel
theorem dX10_belowOf_26 : decode cX10_belowOf 26 = .ok (.iaload, 1) := by decide +kernel
theorem dX10_belowOf_27 : decode cX10_belowOf 27 = .ok (.ishl, 1) := by decide +kernel
theorem dX10_belowOf_28 : decode cX10_belowOf 28 = .ok (.ireturn, 1) := by decide +kernel
set_option maxRecDepth 20000 in
theorem ggX10_tells_X10_leftOf : GoodIn wsX10_tells wsX10_leftOf := goodIn_r _ [7, 8, 2, 1, 20, 21, 22, 23, 24, 25, 26, 27, 28, 29, 30, 31, 32, 33, 34, 35, 36, 37, 38, 39, 40, 41, 42, 43, 44, 45, 46, 47, 48] (by decide +kernel) (by decide +kernel)
set_option maxRecDepth 20000 in
theorem gX10_tells_X10_leftOf : GoodIn wsX10_tells (wsV RX10 170 RX10 yX10_leftOf wsX10_leftOf) := goodIn_app (goodIn_of _ (by decide +kernel)) ggX10_tells_X10_leftOf
set_option maxRecDepth 20000 in
theorem ggX10_tells_X10_belowOf : GoodIn wsX10_tells wsX10_belowOf := goodIn_r _ [12, 8, 2, 1, 20, 21, 22, 23, 24, 25, 26, 27, 28, 29, 30, 31, 32, 33, 34, 35, 36, 37, 38, 39, 40, 41, 42, 43, 44, 45, 46, 47, 48] (by decide +kernel) (by decide +kernel)
set_option maxRecDepth 20000 in
theorem gX10_tells_X10_belowOf : GoodIn wsX10_tells (wsV RX10 173 RX10 yX10_belowOf wsX10_belowOf) := goodIn_app (goodIn_of _ (by decide +kernel)) ggX10_tells_X10_belowOf
set_option maxRecDepth 20000 in
theorem ggX10_tells_X10_pointsIn : GoodIn wsX10_tells wsX10_pointsIn := goodIn_r _ [16, 17, 18, 19, 20, 21, 22, 23, 24, 25, 26, 27, 28, 29, 30, 31, 32, 33, 34, 35, 36, 37, 38, 39, 40, 41, 42, 43, 44, 45, 46, 47, 48] (by decide +kernel) (by decide +kernel)
set_option maxRecDepth 20000 in
theorem gX10_tells_X10_pointsIn : GoodIn wsX10_tells (wsV RX10 164 RX10 yX10_pointsIn wsX10_pointsIn) := goodIn_app (goodIn_of _ (by decide +kernel)) ggX10_tells_X10_pointsIn
theorem dX10_tells_0 : decode cX10_tells 0 = .ok (.iload_n 2, 1) := by decide +kernel
theorem dX10_tells_1 : decode cX10_tells 1 = .ok (.tableswitch 69 0 3 #[31, 37, 43, 52], 31) := by decide +kernel
theorem dX10_tells_32 : decode cX10_tells 32 = .ok (.aload_n 0, 1) := by decide +kernel
theorem dX10_tells_33 : decode cX10_tells 33 = .ok (.iload_n 1, 1) := by decide +kernel
theorem dX10_tells_34 : decode cX10_tells 34 = .ok (.invokevirtual 170, 3) := by decide +kernel
theorem dX10_tells_37 : decode cX10_tells 37 = .ok (.ireturn, 1) := by decide +kernel
theorem dX10_tells_38 : decode cX10_tells 38 = .ok (.aload_n 0, 1) := by decide +kernel
theorem dX10_tells_39 : decode cX10_tells 39 = .ok (.iload_n 1, 1) := by decide +kernel
theorem dX10_tells_40 : decode cX10_tells 40 = .ok (.invokevirtual 173, 3) := by decide +kernel
theorem dX10_tells_43 : decode cX10_tells 43 = .ok (.ireturn, 1) := by decide +kernel
theorem dX10_tells_44 : decode cX10_tells 44 = .ok (.iconst 1, 1) := by decide +kernel
theorem dX10_tells_45 : decode cX10_tells 45 = .ok (.aload_n 0, 1) := by decide +kernel
theorem dX10_tells_46 : decode cX10_tells 46 = .ok (.getfield 35, 3) := by decide +kernel
theorem dX10_tells_49 : decode cX10_tells 49 = .ok (.iload_n 1, 1) := by decide +kernel
theorem dX10_tells_50 : decode cX10_tells 50 = .ok (.iaload, 1) := by decide +kernel
theorem dX10_tells_51 : decode cX10_tells 51 = .ok (.ishl, 1) := by decide +kernel
theorem dX10_tells_52 : decode cX10_tells 52 = .ok (.ireturn, 1) := by decide +kernel
theorem dX10_tells_53 : decode cX10_tells 53 = .ok (.aload_n 0, 1) := by decide +kernel
theorem dX10_tells_54 : decode cX10_tells 54 = .ok (.aload_n 0, 1) := by decide +kernel
theorem dX10_tells_55 : decode cX10_tells 55 = .ok (.getfield 32, 3) := by decide +kernel
theorem dX10_tells_58 : decode cX10_tells 58 = .ok (.iload_n 1, 1) := by decide +kernel
theorem dX10_tells_59 : decode cX10_tells 59 = .ok (.iaload, 1) := by decide +kernel
theorem dX10_tells_60 : decode cX10_tells 60 = .ok (.aload_n 0, 1) := by decide +kernel
theorem dX10_tells_61 : decode cX10_tells 61 = .ok (.getfield 35, 3) := by decide +kernel
theorem dX10_tells_64 : decode cX10_tells 64 = .ok (.iload_n 1, 1) := by decide +kernel
theorem dX10_tells_65 : decode cX10_tells 65 = .ok (.iaload, 1) := by decide +kernel
theorem dX10_tells_66 : decode cX10_tells 66 = .ok (.invokevirtual 164, 3) := by decide +kernel
theorem dX10_tells_69 : decode cX10_tells 69 = .ok (.ireturn, 1) := by decide +kernel
theorem dX10_tells_70 : decode cX10_tells 70 = .ok (.aload_n 0, 1) := by decide +kernel
theorem dX10_tells_71 : decode cX10_tells 71 = .ok (.getfield 32, 3) := by decide +kernel
theorem dX10_tells_74 : decode cX10_tells 74 = .ok (.iload_n 1, 1) := by decide +kernel
theorem dX10_tells_75 : decode cX10_tells 75 = .ok (.iaload, 1) := by decide +kernel
theorem dX10_tells_76 : decode cX10_tells 76 = .ok (.ireturn, 1) := by decide +kernel
set_option maxRecDepth 20000 in
theorem ggX10_leaf_X10_isLeaf : GoodIn wsX10_leaf wsX10_isLeaf := goodIn_r _ [5, 6, 7, 8, 4, 9, 32, 33, 34, 35, 36, 37, 38, 39, 40, 41, 42, 43, 44, 45, 46, 47, 48, 49, 50, 51, 52, 53, 54, 55, 56, 57, 58, 59, 60] (by decide +kernel) (by decide +kernel)
set_option maxRecDepth 20000 in
theorem gX10_leaf_X10_isLeaf : GoodIn wsX10_leaf (wsV RX10 176 RX10 yX10_isLeaf wsX10_isLeaf) := goodIn_app (goodIn_of _ (by decide +kernel)) ggX10_leaf_X10_isLeaf
set_option maxRecDepth 20000 in
theorem ggX10_leaf_X10_in : GoodIn wsX10_leaf wsX10_in := goodIn_r _ [9] (by decide +kernel) (by decide +kernel)
set_option maxRecDepth 20000 in
theorem gX10_leaf_X10_in : GoodIn wsX10_leaf (va_wsS RX10 99 yX10_in wsX10_in) := goodIn_app (goodIn_of _ (by decide +kernel)) ggX10_leaf_X10_in
set_option maxRecDepth 20000 in
theorem ggX10_leaf_X10_tells : GoodIn wsX10_leaf wsX10_tells := goodIn_r _ [13, 14, 15, 16, 17, 18, 4, 19, 20, 21, 22, 23, 24, 25, 26, 27, 28, 29, 30, 31, 32, 33, 34, 35, 36, 37, 38, 39, 40, 41, 42, 43, 44, 45, 46, 47, 48, 49, 50, 51, 52, 53, 54, 55, 56, 57, 58, 59, 60] (by decide +kernel) (by decide +kernel)
set_option maxRecDepth 20000 in
theorem gX10_leaf_X10_tells : GoodIn wsX10_leaf (wsV RX10 179 RX10 yX10_tells wsX10_tells) := goodIn_app (goodIn_of _ (by decide +kernel)) ggX10_leaf_X10_tells
theorem dX10_leaf_0 : decode cX10_leaf 0 = .ok (.aload_n 0, 1) := by decide +kernel
theorem dX10_leaf_1 : decode cX10_leaf 1 = .ok (.iload_n 1, 1) := by decide +kernel
theorem dX10_leaf_2 : decode cX10_leaf 2 = .ok (.invokevirtual 176, 3) := by decide +kernel
theorem dX10_leaf_5 : decode cX10_leaf 5 = .ok (.ifCond .ne 5, 3) := by decide +kernel
theorem dX10_leaf_8 : decode cX10_leaf 8 = .ok (.iconst (-1), 1) := by decide +kernel
theorem dX10_leaf_9 : decode cX10_leaf 9 = .ok (.ireturn, 1) := by decide +kernel
theorem dX10_leaf_10 : decode cX10_leaf 10 = .ok (.iload_n 2, 1) := by decide +kernel
theorem dX10_leaf_11 : decode cX10_leaf 11 = .ok (.iconst 0, 1) := by decide +kernel
theorem dX10_leaf_12 : decode cX10_leaf 12 = .ok (.iconst 4, 1) := by decide +kernel
theorem dX10_leaf_13 : decode cX10_leaf 13 = .ok (.invokestatic 99, 3) := by decide +kernel
theorem dX10_leaf_16 : decode cX10_leaf 16 = .ok (.ifCond .eq 12, 3) := by decide +kernel
theorem dX10_leaf_19 : decode cX10_leaf 19 = .ok (.aload_n 0, 1) := by decide +kernel
theorem dX10_leaf_20 : decode cX10_leaf 20 = .ok (.iload_n 1, 1) := by decide +kernel
theorem dX10_leaf_21 : decode cX10_leaf 21 = .ok (.iload_n 2, 1) := by decide +kernel
theorem dX10_leaf_22 : decode cX10_leaf 22 = .ok (.invokevirtual 179, 3) := by decide +kernel
theorem dX10_leaf_25 : decode cX10_leaf 25 = .ok (.goto 5, 3) := by decide +kernel
theorem dX10_leaf_28 : decode cX10_leaf 28 = .ok (.bipush (-2), 2) := by decide +kernel
theorem dX10_leaf_30 : decode cX10_leaf 30 = .ok (.ireturn, 1) := by decide +kernel
set_option maxRecDepth 20000 in
theorem ggX10_leafAt_X10_isCell : GoodIn wsX10_leafAt wsX10_isCell := goodIn_r _ [7, 8, 9, 10, 6, 11, 12, 13, 14, 15, 16, 17, 18, 19, 20, 21, 22, 23, 24, 25, 26, 27, 28, 29, 30, 31, 32, 33, 34, 35, 36, 37, 38, 39, 40, 41, 42, 43, 44] (by decide +kernel) (by decide +kernel)
set_option maxRecDepth 20000 in
theorem gX10_leafAt_X10_isCell : GoodIn wsX10_leafAt (wsV RX10 115 RX10 yX10_isCell wsX10_isCell) := goodIn_app (goodIn_of _ (by decide +kernel)) ggX10_leafAt_X10_isCell
theorem dX10_leafAt_0 : decode cX10_leafAt 0 = .ok (.aload_n 0, 1) := by decide +kernel
theorem dX10_leafAt_1 : decode cX10_leafAt 1 = .ok (.iload_n 1, 1) := by decide +kernel
theorem dX10_leafAt_2 : decode cX10_leafAt 2 = .ok (.iload_n 2, 1) := by decide +kernel
theorem dX10_leafAt_3 : decode cX10_leafAt 3 = .ok (.invokevirtual 115, 3) := by decide +kernel
theorem dX10_leafAt_6 : decode cX10_leafAt 6 = .ok (.ifCond .eq 22, 3) := by decide +kernel
theorem dX10_leafAt_9 : decode cX10_leafAt 9 = .ok (.aload_n 0, 1) := by decide +kernel
theorem dX10_leafAt_10 : decode cX10_leafAt 10 = .ok (.getfield 69, 3) := by decide +kernel
theorem dX10_leafAt_13 : decode cX10_leafAt 13 = .ok (.aload_n 0, 1) := by decide +kernel
theorem dX10_leafAt_14 : decode cX10_leafAt 14 = .ok (.getfield 57, 3) := by decide +kernel
theorem dX10_leafAt_17 : decode cX10_leafAt 17 = .ok (.bipush 64, 2) := by decide +kernel
theorem dX10_leafAt_19 : decode cX10_leafAt 19 = .ok (.iload_n 2, 1) := by decide +kernel
theorem dX10_leafAt_20 : decode cX10_leafAt 20 = .ok (.imul, 1) := by decide +kernel
theorem dX10_leafAt_21 : decode cX10_leafAt 21 = .ok (.iload_n 1, 1) := by decide +kernel
theorem dX10_leafAt_22 : decode cX10_leafAt 22 = .ok (.iadd, 1) := by decide +kernel
theorem dX10_leafAt_23 : decode cX10_leafAt 23 = .ok (.iaload, 1) := by decide +kernel
theorem dX10_leafAt_24 : decode cX10_leafAt 24 = .ok (.iaload, 1) := by decide +kernel
theorem dX10_leafAt_25 : decode cX10_leafAt 25 = .ok (.goto 4, 3) := by decide +kernel
theorem dX10_leafAt_28 : decode cX10_leafAt 28 = .ok (.iconst (-1), 1) := by decide +kernel
theorem dX10_leafAt_29 : decode cX10_leafAt 29 = .ok (.ireturn, 1) := by decide +kernel
theorem dX10_comesBeside_0 : decode cX10_comesBeside 0 = .ok (.aload_n 0, 1) := by decide +kernel
theorem dX10_comesBeside_1 : decode cX10_comesBeside 1 = .ok (.getfield 182, 3) := by decide +kernel
theorem dX10_comesBeside_4 : decode cX10_comesBeside 4 = .ok (.istore_n 2, 1) := by decide +kernel
theorem dX10_comesBeside_5 : decode cX10_comesBeside 5 = .ok (.iconst 0, 1) := by decide +kernel
theorem dX10_comesBeside_6 : decode cX10_comesBeside 6 = .ok (.istore_n 3, 1) := by decide +kernel
theorem dX10_comesBeside_7 : decode cX10_comesBeside 7 = .ok (.iconst 0, 1) := by decide +kernel
theorem dX10_comesBeside_8 : decode cX10_comesBeside 8 = .ok (.istore 4, 2) := by decide +kernel
theorem dX10_comesBeside_10 : decode cX10_comesBeside 10 = .ok (.iload 4, 2) := by decide +kernel
theorem dX10_comesBeside_12 : decode cX10_comesBeside 12 = .ok (.aload_n 0, 1) := by decide +kernel
theorem dX10_comesBeside_13 : decode cX10_comesBeside 13 = .ok (.getfield 182, 3) := by decide +kernel
theorem dX10_comesBeside_16 : decode cX10_comesBeside 16 = .ok (.if_icmp .ge 30, 3) := by decide +kernel
theorem dX10_comesBeside_19 : decode cX10_comesBeside 19 = .ok (.iload_n 3, 1) := by decide +kernel
theorem dX10_comesBeside_20 : decode cX10_comesBeside 20 = .ok (.ifCond .ne 14, 3) := by decide +kernel
theorem dX10_comesBeside_23 : decode cX10_comesBeside 23 = .ok (.aload_n 0, 1) := by decide +kernel
theorem dX10_comesBeside_24 : decode cX10_comesBeside 24 = .ok (.getfield 72, 3) := by decide +kernel
theorem dX10_comesBeside_27 : decode cX10_comesBeside 27 = .ok (.iload 4, 2) := by decide +kernel
theorem dX10_comesBeside_29 : decode cX10_comesBeside 29 = .ok (.iaload, 1) := by decide +kernel
theorem dX10_comesBeside_30 : decode cX10_comesBeside 30 = .ok (.iload_n 1, 1) := by decide +kernel
theorem dX10_comesBeside_31 : decode cX10_comesBeside 31 = .ok (.if_icmp .ne 7, 3) := by decide +kernel
theorem dX10_comesBeside_34 : decode cX10_comesBeside 34 = .ok (.iconst 1, 1) := by decide +kernel
theorem dX10_comesBeside_35 : decode cX10_comesBeside 35 = .ok (.goto 4, 3) := by decide +kernel
theorem dX10_comesBeside_38 : decode cX10_comesBeside 38 = .ok (.iconst 0, 1) := by decide +kernel
theorem dX10_comesBeside_39 : decode cX10_comesBeside 39 = .ok (.istore_n 3, 1) := by decide +kernel
theorem dX10_comesBeside_40 : decode cX10_comesBeside 40 = .ok (.iinc 4 1, 3) := by decide +kernel
theorem dX10_comesBeside_43 : decode cX10_comesBeside 43 = .ok (.goto (-33), 3) := by decide +kernel
theorem dX10_comesBeside_46 : decode cX10_comesBeside 46 = .ok (.iload_n 3, 1) := by decide +kernel
theorem dX10_comesBeside_47 : decode cX10_comesBeside 47 = .ok (.ifCond .ne 39, 3) := by decide +kernel
theorem dX10_comesBeside_50 : decode cX10_comesBeside 50 = .ok (.iload_n 2, 1) := by decide +kernel
theorem dX10_comesBeside_51 : decode cX10_comesBeside 51 = .ok (.ifCond .le 35, 3) := by decide +kernel
theorem dX10_comesBeside_54 : decode cX10_comesBeside 54 = .ok (.aload_n 0, 1) := by decide +kernel
theorem dX10_comesBeside_55 : decode cX10_comesBeside 55 = .ok (.getfield 72, 3) := by decide +kernel
theorem dX10_comesBeside_58 : decode cX10_comesBeside 58 = .ok (.iload_n 2, 1) := by decide +kernel
theorem dX10_comesBeside_59 : decode cX10_comesBeside 59 = .ok (.iconst 1, 1) := by decide +kernel
theorem dX10_comesBeside_60 : decode cX10_comesBeside 60 = .ok (.isub, 1) := by decide +kernel
theorem dX10_comesBeside_61 : decode cX10_comesBeside 61 = .ok (.iaload, 1) := by decide +kernel
theorem dX10_comesBeside_62 : decode cX10_comesBeside 62 = .ok (.iload_n 1, 1) := by decide +kernel
theorem dX10_comesBeside_63 : decode cX10_comesBeside 63 = .ok (.if_icmp .le 23, 3) := by decide +kernel
theorem dX10_comesBeside_66 : decode cX10_comesBeside 66 = .ok (.aload_n 0, 1) := by decide +kernel
theorem dX10_comesBeside_67 : decode cX10_comesBeside 67 = .ok (.getfield 72, 3) := by decide +kernel
theorem dX10_comesBeside_70 : decode cX10_comesBeside 70 = .ok (.iload_n 2, 1) := by decide +kernel
theorem dX10_comesBeside_71 : decode cX10_comesBeside 71 = .ok (.aload_n 0, 1) := by decide +kernel
theorem dX10_comesBeside_72 : decode cX10_comesBeside 72 = .ok (.getfield 72, 3) := by decide +kernel
theorem dX10_comesBeside_75 : decode cX10_comesBeside 75 = .ok (.iload_n 2, 1) := by decide +kernel
theorem dX10_comesBeside_76 : decode cX10_comesBeside 76 = .ok (.iconst 1, 1) := by decide +kernel
theorem dX10_comesBeside_77 : decode cX10_comesBeside 77 = .ok (.isub, 1) := by decide +kernel
theorem dX10_comesBeside_78 : decode cX10_comesBeside 78 = .ok (.iaload, 1) := by decide +kernel
theorem dX10_comesBeside_79 : decode cX10_comesBeside 79 = .ok (.iastore, 1) := by decide +kernel
theorem dX10_comesBeside_80 : decode cX10_comesBeside 80 = .ok (.iinc 2 (-1), 3) := by decide +kernel
theorem dX10_comesBeside_83 : decode cX10_comesBeside 83 = .ok (.goto (-37), 3) := by decide +kernel
theorem dX10_comesBeside_86 : decode cX10_comesBeside 86 = .ok (.iload_n 3, 1) := by decide +kernel
theorem dX10_comesBeside_87 : decode cX10_comesBeside 87 = .ok (.ifCond .ne 20, 3) := by decide +kernel
theorem dX10_comesBeside_90 : decode cX10_comesBeside 90 = .ok (.aload_n 0, 1) := by decide +kernel
theorem dX10_comesBeside_91 : decode cX10_comesBeside 91 = .ok (.getfield 72, 3) := by decide +kernel
theorem dX10_comesBeside_94 : decode cX10_comesBeside 94 = .ok (.iload_n 2, 1) := by decide +kernel
theorem dX10_comesBeside_95 : decode cX10_comesBeside 95 = .ok (.iload_n 1, 1) := by decide +kernel
theorem dX10_comesBeside_96 : decode cX10_comesBeside 96 = .ok (.iastore, 1) := by decide +kernel
theorem dX10_comesBeside_97 : decode cX10_comesBeside 97 = .ok (.aload_n 0, 1) := by decide +kernel
theorem dX10_comesBeside_98 : decode cX10_comesBeside 98 = .ok (.dup, 1) := by decide +kernel
theorem dX10_comesBeside_99 : decode cX10_comesBeside 99 = .ok (.getfield 182, 3) := by decide +kernel
theorem dX10_comesBeside_102 : decode cX10_comesBeside 102 = .ok (.iconst 1, 1) := by decide +kernel
theorem dX10_comesBeside_103 : decode cX10_comesBeside 103 = .ok (.iadd, 1) := by decide +kernel
theorem dX10_comesBeside_104 : decode cX10_comesBeside 104 = .ok (.putfield 182, 3) := by decide +kernel
theorem dX10_comesBeside_107 : decode cX10_comesBeside 107 = .ok (.return_, 1) := by decide +kernel
set_option maxRecDepth 20000 in
theorem ggX10_findBeside_X10_leftOf : GoodIn wsX10_findBeside wsX10_leftOf := goodIn_r _ [9, 10, 11, 2, 33, 34, 35, 36, 37, 38, 39, 40, 41, 42, 43, 44, 45, 46, 47, 48, 49, 50, 51, 52, 53, 54, 55, 56, 57, 58, 59, 60, 61] (by decide +kernel) (by decide +kernel)
set_option maxRecDepth 20000 in
theorem gX10_findBeside_X10_leftOf : GoodIn wsX10_findBeside (wsV RX10 170 RX10 yX10_leftOf wsX10_leftOf) := goodIn_app (goodIn_of _ (by decide +kernel)) ggX10_findBeside_X10_leftOf
set_option maxRecDepth 20000 in
theorem ggX10_findBeside_X10_belowOf : GoodIn wsX10_findBeside wsX10_belowOf := goodIn_r _ [15, 10, 11, 2, 33, 34, 35, 36, 37, 38, 39, 40, 41, 42, 43, 44, 45, 46, 47, 48, 49, 50, 51, 52, 53, 54, 55, 56, 57, 58, 59, 60, 61] (by decide +kernel) (by decide +kernel)
set_option maxRecDepth 20000 in
theorem gX10_findBeside_X10_belowOf : GoodIn wsX10_findBeside (wsV RX10 173 RX10 yX10_belowOf wsX10_belowOf) := goodIn_app (goodIn_of _ (by decide +kernel)) ggX10_findBeside_X10_belowOf
set_option maxRecDepth 20000 in
theorem ggX10_findBeside_X10_isCell : GoodIn wsX10_findBeside wsX10_isCell := goodIn_r _ [19, 20, 21, 22, 8, 23, 24, 25, 26, 27, 33, 34, 35, 36, 37, 38, 39, 40, 41, 42, 43, 44, 45, 46, 47, 48, 49, 50, 51, 52, 53, 54, 55, 56, 57, 58, 59, 60, 61] (by decide +kernel) (by decide +kernel)
set_option maxRecDepth 20000 in
theorem gX10_findBeside_X10_isCell : GoodIn wsX10_findBeside (wsV RX10 115 RX10 yX10_isCell wsX10_isCell) := goodIn_app (goodIn_of _ (by decide +kernel)) ggX10_findBeside_X10_isCell
set_option maxRecDepth 20000 in
theorem ggX10_findBeside_X10_comesBeside : GoodIn wsX10_findBeside wsX10_comesBeside := goodIn_r _ [31, 1, 32, 33, 34, 35, 36, 37, 38, 39, 40, 41, 42, 43, 44, 45, 46, 47, 48, 49, 50, 51, 52, 53, 54, 55, 56, 57, 58, 59, 60, 61] (by decide +kernel) (by decide +kernel)
set_option maxRecDepth 20000 in
theorem gX10_findBeside_X10_comesBeside : GoodIn wsX10_findBeside (wsV RX10 185 RX10 yX10_comesBeside wsX10_comesBeside) := goodIn_app (goodIn_of _ (by decide +kernel)) ggX10_findBeside_X10_comesBeside
theorem dX10_findBeside_0 : decode cX10_findBeside 0 = .ok (.aload_n 0, 1) := by decide +kernel
theorem dX10_findBeside_1 : decode cX10_findBeside 1 = .ok (.iconst 0, 1) := by decide +kernel
theorem dX10_findBeside_2 : decode cX10_findBeside 2 = .ok (.putfield 182, 3) := by decide +kernel
theorem dX10_findBeside_5 : decode cX10_findBeside 5 = .ok (.iconst 1, 1) := by decide +kernel
theorem dX10_findBeside_6 : decode cX10_findBeside 6 = .ok (.aload_n 0, 1) := by decide +kernel
theorem dX10_findBeside_7 : decode cX10_findBeside 7 = .ok (.getfield 35, 3) := by decide +kernel
theorem dX10_findBeside_10 : decode cX10_findBeside 10 = .ok (.iload_n 1, 1) := by decide +kernel
theorem dX10_findBeside_11 : decode cX10_findBeside 11 = .ok (.iaload, 1) := by decide +kernel
theorem dX10_findBeside_12 : decode cX10_findBeside 12 = .ok (.ishl, 1) := by decide +kernel
theorem dX10_findBeside_13 : decode cX10_findBeside 13 = .ok (.istore_n 3, 1) := by decide +kernel
theorem dX10_findBeside_14 : decode cX10_findBeside 14 = .ok (.iload_n 2, 1) := by decide +kernel
theorem dX10_findBeside_15 : decode cX10_findBeside 15 = .ok (.ifCond .ne 13, 3) := by decide +kernel
theorem dX10_findBeside_18 : decode cX10_findBeside 18 = .ok (.aload_n 0, 1) := by decide +kernel
theorem dX10_findBeside_19 : decode cX10_findBeside 19 = .ok (.iload_n 1, 1) := by decide +kernel
theorem dX10_findBeside_20 : decode cX10_findBeside 20 = .ok (.invokevirtual 170, 3) := by decide +kernel
theorem dX10_findBeside_23 : decode cX10_findBeside 23 = .ok (.iconst 1, 1) := by decide +kernel
theorem dX10_findBeside_24 : decode cX10_findBeside 24 = .ok (.isub, 1) := by decide +kernel
theorem dX10_findBeside_25 : decode cX10_findBeside 25 = .ok (.goto 23, 3) := by decide +kernel
theorem dX10_findBeside_28 : decode cX10_findBeside 28 = .ok (.iload_n 2, 1) := by decide +kernel
theorem dX10_findBeside_29 : decode cX10_findBeside 29 = .ok (.iconst 1, 1) := by decide +kernel
theorem dX10_findBeside_30 : decode cX10_findBeside 30 = .ok (.if_icmp .ne 13, 3) := by decide +kernel
theorem dX10_findBeside_33 : decode cX10_findBeside 33 = .ok (.aload_n 0, 1) := by decide +kernel
theorem dX10_findBeside_34 : decode cX10_findBeside 34 = .ok (.iload_n 1, 1) := by decide +kernel
theorem dX10_findBeside_35 : decode cX10_findBeside 35 = .ok (.invokevirtual 170, 3) := by decide +kernel
theorem dX10_findBeside_38 : decode cX10_findBeside 38 = .ok (.iload_n 3, 1) := by decide +kernel
theorem dX10_findBeside_39 : decode cX10_findBeside 39 = .ok (.iadd, 1) := by decide +kernel
theorem dX10_findBeside_40 : decode cX10_findBeside 40 = .ok (.goto 8, 3) := by decide +kernel
theorem dX10_findBeside_43 : decode cX10_findBeside 43 = .ok (.aload_n 0, 1) := by decide +kernel
theorem dX10_findBeside_44 : decode cX10_findBeside 44 = .ok (.iload_n 1, 1) := by decide +kernel
theorem dX10_findBeside_45 : decode cX10_findBeside 45 = .ok (.invokevirtual 170, 3) := by decide +kernel
theorem dX10_findBeside_48 : decode cX10_findBeside 48 = .ok (.istore 4, 2) := by decide +kernel
theorem dX10_findBeside_50 : decode cX10_findBeside 50 = .ok (.iload_n 2, 1) := by decide +kernel
theorem dX10_findBeside_51 : decode cX10_findBeside 51 = .ok (.iconst 2, 1) := by decide +kernel
theorem dX10_findBeside_52 : decode cX10_findBeside 52 = .ok (.if_icmp .ne 13, 3) := by decide +kernel
theorem dX10_findBeside_55 : decode cX10_findBeside 55 = .ok (.aload_n 0, 1) := by decide +kernel
theorem dX10_findBeside_56 : decode cX10_findBeside 56 = .ok (.iload_n 1, 1) := by decide +kernel
theorem dX10_findBeside_57 : decode cX10_findBeside 57 = .ok (.invokevirtual 173, 3) := by decide +kernel
theorem dX10_findBeside_60 : decode cX10_findBeside 60 = .ok (.iconst 1, 1) := by decide +kernel
theorem dX10_findBeside_61 : decode cX10_findBeside 61 = .ok (.isub, 1) := by decide +kernel
theorem dX10_findBeside_62 : decode cX10_findBeside 62 = .ok (.goto 23, 3) := by decide +kernel
theorem dX10_findBeside_65 : decode cX10_findBeside 65 = .ok (.iload_n 2, 1) := by decide +kernel
theorem dX10_findBeside_66 : decode cX10_findBeside 66 = .ok (.iconst 3, 1) := by decide +kernel
theorem dX10_findBeside_67 : decode cX10_findBeside 67 = .ok (.if_icmp .ne 13, 3) := by decide +kernel
theorem dX10_findBeside_70 : decode cX10_findBeside 70 = .ok (.aload_n 0, 1) := by decide +kernel
theorem dX10_findBeside_71 : decode cX10_findBeside 71 = .ok (.iload_n 1, 1) := by decide +kernel
theorem dX10_findBeside_72 : decode cX10_findBeside 72 = .ok (.invokevirtual 173, 3) := by decide +kernel
theorem dX10_findBeside_75 : decode cX10_findBeside 75 = .ok (.iload_n 3, 1) := by decide +kernel
theorem dX10_findBeside_76 : decode cX10_findBeside 76 = .ok (.iadd, 1) := by decide +kernel
theorem dX10_findBeside_77 : decode cX10_findBeside 77 = .ok (.goto 8, 3) := by decide +kernel
theorem dX10_findBeside_80 : decode cX10_findBeside 80 = .ok (.aload_n 0, 1) := by decide +kernel
theorem dX10_findBeside_81 : decode cX10_findBeside 81 = .ok (.iload_n 1, 1) := by decide +kernel
theorem dX10_findBeside_82 : decode cX10_findBeside 82 = .ok (.invokevirtual 173, 3) := by decide +kernel
theorem dX10_findBeside_85 : decode cX10_findBeside 85 = .ok (.istore 5, 2) := by decide +kernel
theorem dX10_findBeside_87 : decode cX10_findBeside 87 = .ok (.iconst 0, 1) := by decide +kernel
theorem dX10_findBeside_88 : decode cX10_findBeside 88 = .ok (.istore 6, 2) := by decide +kernel
theorem dX10_findBeside_90 : decode cX10_findBeside 90 = .ok (.iload 6, 2) := by decide +kernel
theorem dX10_findBeside_92 : decode cX10_findBeside 92 = .ok (.iload_n 3, 1) := by decide +kernel
theorem dX10_findBeside_93 : decode cX10_findBeside 93 = .ok (.if_icmp .ge 76, 3) := by decide +kernel
theorem dX10_findBeside_96 : decode cX10_findBeside 96 = .ok (.iload_n 2, 1) := by decide +kernel
theorem dX10_findBeside_97 : decode cX10_findBeside 97 = .ok (.iconst 2, 1) := by decide +kernel
theorem dX10_findBeside_98 : decode cX10_findBeside 98 = .ok (.if_icmp .ge 8, 3) := by decide +kernel
theorem dX10_findBeside_101 : decode cX10_findBeside 101 = .ok (.iload 4, 2) := by decide +kernel
theorem dX10_findBeside_103 : decode cX10_findBeside 103 = .ok (.goto 8, 3) := by decide +kernel
theorem dX10_findBeside_106 : decode cX10_findBeside 106 = .ok (.iload 4, 2) := by decide +kernel
theorem dX10_findBeside_108 : decode cX10_findBeside 108 = .ok (.iload 6, 2) := by decide +kernel
theorem dX10_findBeside_110 : decode cX10_findBeside 110 = .ok (.iadd, 1) := by decide +kernel
theorem dX10_findBeside_111 : decode cX10_findBeside 111 = .ok (.istore 7, 2) := by decide +kernel
theorem dX10_findBeside_113 : decode cX10_findBeside 113 = .ok (.iload_n 2, 1) := by decide +kernel
theorem dX10_findBeside_114 : decode cX10_findBeside 114 = .ok (.iconst 2, 1) := by decide +kernel
theorem dX10_findBeside_115 : decode cX10_findBeside 115 = .ok (.if_icmp .ge 11, 3) := by decide +kernel
theorem dX10_findBeside_118 : decode cX10_findBeside 118 = .ok (.iload 5, 2) := by decide +kernel
theorem dX10_findBeside_120 : decode cX10_findBeside 120 = .ok (.iload 6, 2) := by decide +kernel
theorem dX10_findBeside_122 : decode cX10_findBeside 122 = .ok (.iadd, 1) := by decide +kernel
theorem dX10_findBeside_123 : decode cX10_findBeside 123 = .ok (.goto 5, 3) := by decide +kernel
theorem dX10_findBeside_126 : decode cX10_findBeside 126 = .ok (.iload 5, 2) := by decide +kernel
theorem dX10_findBeside_128 : decode cX10_findBeside 128 = .ok (.istore 8, 2) := by decide +kernel
theorem dX10_findBeside_130 : decode cX10_findBeside 130 = .ok (.aload_n 0, 1) := by decide +kernel
theorem dX10_findBeside_131 : decode cX10_findBeside 131 = .ok (.iload 7, 2) := by decide +kernel
theorem dX10_findBeside_133 : decode cX10_findBeside 133 = .ok (.iload 8, 2) := by decide +kernel
theorem dX10_findBeside_135 : decode cX10_findBeside 135 = .ok (.invokevirtual 115, 3) := by decide +kernel
theorem dX10_findBeside_138 : decode cX10_findBeside 138 = .ok (.ifCond .eq 25, 3) := by decide +kernel
theorem dX10_findBeside_141 : decode cX10_findBeside 141 = .ok (.aload_n 0, 1) := by decide +kernel
theorem dX10_findBeside_142 : decode cX10_findBeside 142 = .ok (.aload_n 0, 1) := by decide +kernel
theorem dX10_findBeside_143 : decode cX10_findBeside 143 = .ok (.getfield 69, 3) := by decide +kernel
theorem dX10_findBeside_146 : decode cX10_findBeside 146 = .ok (.aload_n 0, 1) := by decide +kernel
theorem dX10_findBeside_147 : decode cX10_findBeside 147 = .ok (.getfield 57, 3) := by decide +kernel
theorem dX10_findBeside_150 : decode cX10_findBeside 150 = .ok (.bipush 64, 2) := by decide +kernel
theorem dX10_findBeside_152 : decode cX10_findBeside 152 = .ok (.iload 8, 2) := by decide +kernel
theorem dX10_findBeside_154 : decode cX10_findBeside 154 = .ok (.imul, 1) := by decide +kernel
theorem dX10_findBeside_155 : decode cX10_findBeside 155 = .ok (.iload 7, 2) := by decide +kernel
theorem dX10_findBeside_157 : decode cX10_findBeside 157 = .ok (.iadd, 1) := by decide +kernel
theorem dX10_findBeside_158 : decode cX10_findBeside 158 = .ok (.iaload, 1) := by decide +kernel
theorem dX10_findBeside_159 : decode cX10_findBeside 159 = .ok (.iaload, 1) := by decide +kernel
theorem dX10_findBeside_160 : decode cX10_findBeside 160 = .ok (.invokevirtual 185, 3) := by decide +kernel
theorem dX10_findBeside_163 : decode cX10_findBeside 163 = .ok (.iinc 6 1, 3) := by decide +kernel
theorem dX10_findBeside_166 : decode cX10_findBeside 166 = .ok (.goto (-76), 3) := by decide +kernel
theorem dX10_findBeside_169 : decode cX10_findBeside 169 = .ok (.return_, 1) := by decide +kernel
set_option maxRecDepth 20000 in
theorem ggX10_neighbours_X10_isLeaf : GoodIn wsX10_neighbours wsX10_isLeaf := goodIn_r _ [6, 7, 8, 9, 5, 10, 42, 43, 44, 45, 46, 47, 48, 49, 50, 51, 52, 53, 54, 55, 56, 57, 58, 59, 60, 61, 62, 63, 64, 65, 66, 67, 68, 69, 70] (by decide +kernel) (by decide +kernel)
set_option maxRecDepth 20000 in
theorem gX10_neighbours_X10_isLeaf : GoodIn wsX10_neighbours (wsV RX10 176 RX10 yX10_isLeaf wsX10_isLeaf) := goodIn_app (goodIn_of _ (by decide +kernel)) ggX10_neighbours_X10_isLeaf
set_option maxRecDepth 20000 in
theorem ggX10_neighbours_X10_in : GoodIn wsX10_neighbours wsX10_in := goodIn_r _ [10] (by decide +kernel) (by decide +kernel)
set_option maxRecDepth 20000 in
theorem gX10_neighbours_X10_in : GoodIn wsX10_neighbours (va_wsS RX10 99 yX10_in wsX10_in) := goodIn_app (goodIn_of _ (by decide +kernel)) ggX10_neighbours_X10_in
set_option maxRecDepth 20000 in
theorem ggX10_neighbours_X10_findBeside : GoodIn wsX10_neighbours wsX10_findBeside := goodIn_r _ [14, 1, 15, 16, 17, 18, 19, 20, 5, 21, 22, 23, 24, 25, 26, 27, 28, 29, 30, 31, 32, 33, 34, 35, 36, 8, 9, 10, 37, 38, 39, 40, 41, 42, 43, 44, 45, 46, 47, 48, 49, 50, 51, 52, 53, 54, 55, 56, 57, 58, 59, 60, 61, 62, 63, 64, 65, 66, 67, 68, 69, 70] (by decide +kernel) (by decide +kernel)
set_option maxRecDepth 20000 in
theorem gX10_neighbours_X10_findBeside : GoodIn wsX10_neighbours (wsV RX10 189 RX10 yX10_findBeside wsX10_findBeside) := goodIn_app (goodIn_of _ (by decide +kernel)) ggX10_neighbours_X10_findBeside
theorem dX10_neighbours_0 : decode cX10_neighbours 0 = .ok (.aload_n 0, 1) := by decide +kernel
theorem dX10_neighbours_1 : decode cX10_neighbours 1 = .ok (.iload_n 1, 1) := by decide +kernel
theorem dX10_neighbours_2 : decode cX10_neighbours 2 = .ok (.invokevirtual 176, 3) := by decide +kernel
theorem dX10_neighbours_5 : decode cX10_neighbours 5 = .ok (.ifCond .eq 12, 3) := by decide +kernel
theorem dX10_neighbours_8 : decode cX10_neighbours 8 = .ok (.iload_n 2, 1) := by decide +kernel
theorem dX10_neighbours_9 : decode cX10_neighbours 9 = .ok (.iconst 0, 1) := by decide +kernel
theorem dX10_neighbours_10 : decode cX10_neighbours 10 = .ok (.iconst 3, 1) := by decide +kernel
theorem dX10_neighbours_11 : decode cX10_neighbours 11 = .ok (.invokestatic 99, 3) := by decide +kernel
theorem dX10_neighbours_14 : decode cX10_neighbours 14 = .ok (.ifCond .ne 5, 3) := by decide +kernel
theorem dX10_neighbours_17 : decode cX10_neighbours 17 = .ok (.iconst (-1), 1) := by decide +kernel
theorem dX10_neighbours_18 : decode cX10_neighbours 18 = .ok (.ireturn, 1) := by decide +kernel
theorem dX10_neighbours_19 : decode cX10_neighbours 19 = .ok (.aload_n 0, 1) := by decide +kernel
theorem dX10_neighbours_20 : decode cX10_neighbours 20 = .ok (.iload_n 1, 1) := by decide +kernel
theorem dX10_neighbours_21 : decode cX10_neighbours 21 = .ok (.iload_n 2, 1) := by decide +kernel
theorem dX10_neighbours_22 : decode cX10_neighbours 22 = .ok (.invokevirtual 189, 3) := by decide +kernel
theorem dX10_neighbours_25 : decode cX10_neighbours 25 = .ok (.aload_n 0, 1) := by decide +kernel
theorem dX10_neighbours_26 : decode cX10_neighbours 26 = .ok (.getfield 182, 3) := by decide +kernel
theorem dX10_neighbours_29 : decode cX10_neighbours 29 = .ok (.ireturn, 1) := by decide +kernel
set_option maxRecDepth 20000 in
theorem ggX10_neighbour_X10_isLeaf : GoodIn wsX10_neighbour wsX10_isLeaf := goodIn_r _ [7, 8, 9, 10, 6, 11, 42, 43, 44, 45, 46, 47, 48, 49, 50, 51, 52, 53, 54, 55, 56, 57, 58, 59, 60, 61, 62, 63, 64, 65, 66, 67, 68, 69, 70] (by decide +kernel) (by decide +kernel)
set_option maxRecDepth 20000 in
theorem gX10_neighbour_X10_isLeaf : GoodIn wsX10_neighbour (wsV RX10 176 RX10 yX10_isLeaf wsX10_isLeaf) := goodIn_app (goodIn_of _ (by decide +kernel)) ggX10_neighbour_X10_isLeaf
set_option maxRecDepth 20000 in
theorem ggX10_neighbour_X10_in : GoodIn wsX10_neighbour wsX10_in := goodIn_r _ [11] (by decide +kernel) (by decide +kernel)
set_option maxRecDepth 20000 in
theorem gX10_neighbour_X10_in : GoodIn wsX10_neighbour (va_wsS RX10 99 yX10_in wsX10_in) := goodIn_app (goodIn_of _ (by decide +kernel)) ggX10_neighbour_X10_in
set_option maxRecDepth 20000 in
theorem ggX10_neighbour_X10_findBeside : GoodIn wsX10_neighbour wsX10_findBeside := goodIn_r _ [15, 1, 16, 17, 18, 19, 20, 21, 6, 22, 23, 24, 25, 26, 27, 28, 29, 30, 31, 32, 33, 34, 35, 36, 37, 9, 10, 11, 38, 39, 40, 41, 2, 42, 43, 44, 45, 46, 47, 48, 49, 50, 51, 52, 53, 54, 55, 56, 57, 58, 59, 60, 61, 62, 63, 64, 65, 66, 67, 68, 69, 70] (by decide +kernel) (by decide +kernel)
set_option maxRecDepth 20000 in
theorem gX10_neighbour_X10_findBeside : GoodIn wsX10_neighbour (wsV RX10 189 RX10 yX10_findBeside wsX10_findBeside) := goodIn_app (goodIn_of _ (by decide +kernel)) ggX10_neighbour_X10_findBeside
theorem dX10_neighbour_0 : decode cX10_neighbour 0 = .ok (.aload_n 0, 1) := by decide +kernel
theorem dX10_neighbour_1 : decode cX10_neighbour 1 = .ok (.iload_n 1, 1) := by decide +kernel
theorem dX10_neighbour_2 : decode cX10_neighbour 2 = .ok (.invokevirtual 176, 3) := by decide +kernel
theorem dX10_neighbour_5 : decode cX10_neighbour 5 = .ok (.ifCond .eq 16, 3) := by decide +kernel
theorem dX10_neighbour_8 : decode cX10_neighbour 8 = .ok (.iload_n 2, 1) := by decide +kernel
theorem dX10_neighbour_9 : decode cX10_neighbour 9 = .ok (.iconst 0, 1) := by decide +kernel
theorem dX10_neighbour_10 : decode cX10_neighbour 10 = .ok (.iconst 3, 1) := by decide +kernel
theorem dX10_neighbour_11 : decode cX10_neighbour 11 = .ok (.invokestatic 99, 3) := by decide +kernel
theorem dX10_neighbour_14 : decode cX10_neighbour 14 = .ok (.ifCond .eq 7, 3) := by decide +kernel
theorem dX10_neighbour_17 : decode cX10_neighbour 17 = .ok (.iload_n 3, 1) := by decide +kernel
theorem dX10_neighbour_18 : decode cX10_neighbour 18 = .ok (.ifCond .ge 5, 3) := by decide +kernel
theorem dX10_neighbour_21 : decode cX10_neighbour 21 = .ok (.iconst (-1), 1) := by decide +kernel
theorem dX10_neighbour_22 : decode cX10_neighbour 22 = .ok (.ireturn, 1) := by decide +kernel
theorem dX10_neighbour_23 : decode cX10_neighbour 23 = .ok (.aload_n 0, 1) := by decide +kernel
theorem dX10_neighbour_24 : decode cX10_neighbour 24 = .ok (.iload_n 1, 1) := by decide +kernel
theorem dX10_neighbour_25 : decode cX10_neighbour 25 = .ok (.iload_n 2, 1) := by decide +kernel
theorem dX10_neighbour_26 : decode cX10_neighbour 26 = .ok (.invokevirtual 189, 3) := by decide +kernel
theorem dX10_neighbour_29 : decode cX10_neighbour 29 = .ok (.iload_n 3, 1) := by decide +kernel
theorem dX10_neighbour_30 : decode cX10_neighbour 30 = .ok (.aload_n 0, 1) := by decide +kernel
theorem dX10_neighbour_31 : decode cX10_neighbour 31 = .ok (.getfield 182, 3) := by decide +kernel
theorem dX10_neighbour_34 : decode cX10_neighbour 34 = .ok (.if_icmp .ge 12, 3) := by decide +kernel
theorem dX10_neighbour_37 : decode cX10_neighbour 37 = .ok (.aload_n 0, 1) := by decide +kernel
theorem dX10_neighbour_38 : decode cX10_neighbour 38 = .ok (.getfield 72, 3) := by decide +kernel
theorem dX10_neighbour_41 : decode cX10_neighbour 41 = .ok (.iload_n 3, 1) := by decide +kernel
theorem dX10_neighbour_42 : decode cX10_neighbour 42 = .ok (.iaload, 1) := by decide +kernel
theorem dX10_neighbour_43 : decode cX10_neighbour 43 = .ok (.goto 5, 3) := by decide +kernel
theorem dX10_neighbour_46 : decode cX10_neighbour 46 = .ok (.bipush (-5), 2) := by decide +kernel
theorem dX10_neighbour_48 : decode cX10_neighbour 48 = .ok (.ireturn, 1) := by decide +kernel
set_option maxRecDepth 20000 in
theorem ggX10_isUnlike_X10_findBeside : GoodIn wsX10_isUnlike wsX10_findBeside := goodIn_r _ [8, 2, 1, 9, 10, 11, 12, 13, 7, 14, 15, 16, 17, 18, 19, 20, 21, 22, 23, 24, 25, 26, 27, 28, 29, 30, 31, 32, 33, 34, 35, 36, 3, 37, 38, 39, 40, 41, 42, 43, 44, 45, 46, 47, 48, 49, 50, 51, 52, 53, 54, 55, 56, 57, 58, 59, 60, 61, 62, 63, 64, 65] (by decide +kernel) (by decide +kernel)
set_option maxRecDepth 20000 in
theorem gX10_isUnlike_X10_findBeside : GoodIn wsX10_isUnlike (wsV RX10 189 RX10 yX10_findBeside wsX10_findBeside) := goodIn_app (goodIn_of _ (by decide +kernel)) ggX10_isUnlike_X10_findBeside
theorem dX10_isUnlike_0 : decode cX10_isUnlike 0 = .ok (.iconst 0, 1) := by decide +kernel
theorem dX10_isUnlike_1 : decode cX10_isUnlike 1 = .ok (.istore_n 2, 1) := by decide +kernel
theorem dX10_isUnlike_2 : decode cX10_isUnlike 2 = .ok (.iconst 0, 1) := by decide +kernel
theorem dX10_isUnlike_3 : decode cX10_isUnlike 3 = .ok (.istore_n 3, 1) := by decide +kernel
theorem dX10_isUnlike_4 : decode cX10_isUnlike 4 = .ok (.iload_n 3, 1) := by decide +kernel
theorem dX10_isUnlike_5 : decode cX10_isUnlike 5 = .ok (.iconst 4, 1) := by decide +kernel
theorem dX10_isUnlike_6 : decode cX10_isUnlike 6 = .ok (.if_icmp .ge 76, 3) := by decide +kernel
theorem dX10_isUnlike_9 : decode cX10_isUnlike 9 = .ok (.aload_n 0, 1) := by decide +kernel
theorem dX10_isUnlike_10 : decode cX10_isUnlike 10 = .ok (.getfield 35, 3) := by decide +kernel
theorem dX10_isUnlike_13 : decode cX10_isUnlike 13 = .ok (.iload_n 1, 1) := by decide +kernel
theorem dX10_isUnlike_14 : decode cX10_isUnlike 14 = .ok (.iaload, 1) := by decide +kernel
theorem dX10_isUnlike_15 : decode cX10_isUnlike 15 = .ok (.iconst 1, 1) := by decide +kernel
theorem dX10_isUnlike_16 : decode cX10_isUnlike 16 = .ok (.if_icmp .le 66, 3) := by decide +kernel
theorem dX10_isUnlike_19 : decode cX10_isUnlike 19 = .ok (.aload_n 0, 1) := by decide +kernel
theorem dX10_isUnlike_20 : decode cX10_isUnlike 20 = .ok (.iload_n 1, 1) := by decide +kernel
theorem dX10_isUnlike_21 : decode cX10_isUnlike 21 = .ok (.iload_n 3, 1) := by decide +kernel
theorem dX10_isUnlike_22 : decode cX10_isUnlike 22 = .ok (.invokevirtual 189, 3) := by decide +kernel
theorem dX10_isUnlike_25 : decode cX10_isUnlike 25 = .ok (.iconst 0, 1) := by decide +kernel
theorem dX10_isUnlike_26 : decode cX10_isUnlike 26 = .ok (.istore 4, 2) := by decide +kernel
theorem dX10_isUnlike_28 : decode cX10_isUnlike 28 = .ok (.iload 4, 2) := by decide +kernel
theorem dX10_isUnlike_30 : decode cX10_isUnlike 30 = .ok (.aload_n 0, 1) := by decide +kernel
theorem dX10_isUnlike_31 : decode cX10_isUnlike 31 = .ok (.getfield 182, 3) := by decide +kernel
theorem dX10_isUnlike_34 : decode cX10_isUnlike 34 = .ok (.if_icmp .ge 42, 3) := by decide +kernel
theorem dX10_isUnlike_37 : decode cX10_isUnlike 37 = .ok (.iload_n 2, 1) := by decide +kernel
theorem dX10_isUnlike_38 : decode cX10_isUnlike 38 = .ok (.ifCond .ne 26, 3) := by decide +kernel
theorem dX10_isUnlike_41 : decode cX10_isUnlike 41 = .ok (.aload_n 0, 1) := by decide +kernel
theorem dX10_isUnlike_42 : decode cX10_isUnlike 42 = .ok (.getfield 35, 3) := by decide +kernel
theorem dX10_isUnlike_45 : decode cX10_isUnlike 45 = .ok (.aload_n 0, 1) := by decide +kernel
theorem dX10_isUnlike_46 : decode cX10_isUnlike 46 = .ok (.getfield 72, 3) := by decide +kernel
theorem dX10_isUnlike_49 : decode cX10_isUnlike 49 = .ok (.iload 4, 2) := by decide +kernel
theorem dX10_isUnlike_51 : decode cX10_isUnlike 51 = .ok (.iaload, 1) := by decide +kernel
theorem dX10_isUnlike_52 : decode cX10_isUnlike 52 = .ok (.iaload, 1) := by decide +kernel
theorem dX10_isUnlike_53 : decode cX10_isUnlike 53 = .ok (.aload_n 0, 1) := by decide +kernel
theorem dX10_isUnlike_54 : decode cX10_isUnlike 54 = .ok (.getfield 35, 3) := by decide +kernel
theorem dX10_isUnlike_57 : decode cX10_isUnlike 57 = .ok (.iload_n 1, 1) := by decide +kernel
theorem dX10_isUnlike_58 : decode cX10_isUnlike 58 = .ok (.iaload, 1) := by decide +kernel
theorem dX10_isUnlike_59 : decode cX10_isUnlike 59 = .ok (.iconst 1, 1) := by decide +kernel
theorem dX10_isUnlike_60 : decode cX10_isUnlike 60 = .ok (.isub, 1) := by decide +kernel
theorem dX10_isUnlike_61 : decode cX10_isUnlike 61 = .ok (.if_icmp .ge 7, 3) := by decide +kernel
theorem dX10_isUnlike_64 : decode cX10_isUnlike 64 = .ok (.iconst 1, 1) := by decide +kernel
theorem dX10_isUnlike_65 : decode cX10_isUnlike 65 = .ok (.goto 4, 3) := by decide +kernel
theorem dX10_isUnlike_68 : decode cX10_isUnlike 68 = .ok (.iconst 0, 1) := by decide +kernel
theorem dX10_isUnlike_69 : decode cX10_isUnlike 69 = .ok (.istore_n 2, 1) := by decide +kernel
theorem dX10_isUnlike_70 : decode cX10_isUnlike 70 = .ok (.iinc 4 1, 3) := by decide +kernel
theorem dX10_isUnlike_73 : decode cX10_isUnlike 73 = .ok (.goto (-45), 3) := by decide +kernel
theorem dX10_isUnlike_76 : decode cX10_isUnlike 76 = .ok (.iinc 3 1, 3) := by decide +kernel
theorem dX10_isUnlike_79 : decode cX10_isUnlike 79 = .ok (.goto (-75), 3) := by decide +kernel
theorem dX10_isUnlike_82 : decode cX10_isUnlike 82 = .ok (.iload_n 2, 1) := by decide +kernel
theorem dX10_isUnlike_83 : decode cX10_isUnlike 83 = .ok (.ireturn, 1) := by decide +kernel
set_option maxRecDepth 20000 in
theorem ggX10_quarters_X10_maps : GoodIn wsX10_quarters wsX10_maps := goodIn_r _ [8, 1, 2, 3, 9, 10, 11, 12, 13, 14, 15, 16, 17, 18, 19, 20, 21, 22, 23, 24, 25, 26, 27, 28, 29, 30, 31, 32, 33, 34, 35, 36, 37, 38] (by decide +kernel) (by decide +kernel)
set_option maxRecDepth 20000 in
theorem gX10_quarters_X10_maps : GoodIn wsX10_quarters (wsV RX10 167 RX10 yX10_maps wsX10_maps) := goodIn_app (goodIn_of _ (by decide +kernel)) ggX10_quarters_X10_maps
theorem dX10_quarters_0 : decode cX10_quarters 0 = .ok (.aload_n 0, 1) := by decide +kernel
theorem dX10_quarters_1 : decode cX10_quarters 1 = .ok (.getfield 161, 3) := by decide +kernel
theorem dX10_quarters_4 : decode cX10_quarters 4 = .ok (.iconst 1, 1) := by decide +kernel
theorem dX10_quarters_5 : decode cX10_quarters 5 = .ok (.isub, 1) := by decide +kernel
theorem dX10_quarters_6 : decode cX10_quarters 6 = .ok (.istore_n 2, 1) := by decide +kernel
theorem dX10_quarters_7 : decode cX10_quarters 7 = .ok (.iload_n 2, 1) := by decide +kernel
theorem dX10_quarters_8 : decode cX10_quarters 8 = .ok (.iload_n 1, 1) := by decide +kernel
theorem dX10_quarters_9 : decode cX10_quarters 9 = .ok (.if_icmp .le 37, 3) := by decide +kernel
theorem dX10_quarters_12 : decode cX10_quarters 12 = .ok (.aload_n 0, 1) := by decide +kernel
theorem dX10_quarters_13 : decode cX10_quarters 13 = .ok (.getfield 32, 3) := by decide +kernel
theorem dX10_quarters_16 : decode cX10_quarters 16 = .ok (.iload_n 2, 1) := by decide +kernel
theorem dX10_quarters_17 : decode cX10_quarters 17 = .ok (.iconst 3, 1) := by decide +kernel
theorem dX10_quarters_18 : decode cX10_quarters 18 = .ok (.iadd, 1) := by decide +kernel
theorem dX10_quarters_19 : decode cX10_quarters 19 = .ok (.aload_n 0, 1) := by decide +kernel
theorem dX10_quarters_20 : decode cX10_quarters 20 = .ok (.getfield 32, 3) := by decide +kernel
theorem dX10_quarters_23 : decode cX10_quarters 23 = .ok (.iload_n 2, 1) := by decide +kernel
theorem dX10_quarters_24 : decode cX10_quarters 24 = .ok (.iaload, 1) := by decide +kernel
theorem dX10_quarters_25 : decode cX10_quarters 25 = .ok (.iastore, 1) := by decide +kernel
theorem dX10_quarters_26 : decode cX10_quarters 26 = .ok (.aload_n 0, 1) := by decide +kernel
theorem dX10_quarters_27 : decode cX10_quarters 27 = .ok (.getfield 35, 3) := by decide +kernel
theorem dX10_quarters_30 : decode cX10_quarters 30 = .ok (.iload_n 2, 1) := by decide +kernel
theorem dX10_quarters_31 : decode cX10_quarters 31 = .ok (.iconst 3, 1) := by decide +kernel
theorem dX10_quarters_32 : decode cX10_quarters 32 = .ok (.iadd, 1) := by decide +kernel
theorem dX10_quarters_33 : decode cX10_quarters 33 = .ok (.aload_n 0, 1) := by decide +kernel
theorem dX10_quarters_34 : decode cX10_quarters 34 = .ok (.getfield 35, 3) := by decide +kernel
theorem dX10_quarters_37 : decode cX10_quarters 37 = .ok (.iload_n 2, 1) := by decide +kernel
theorem dX10_quarters_38 : decode cX10_quarters 38 = .ok (.iaload, 1) := by decide +kernel
theorem dX10_quarters_39 : decode cX10_quarters 39 = .ok (.iastore, 1) := by decide +kernel
theorem dX10_quarters_40 : decode cX10_quarters 40 = .ok (.iinc 2 (-1), 3) := by decide +kernel
theorem dX10_quarters_43 : decode cX10_quarters 43 = .ok (.goto (-36), 3) := by decide +kernel
theorem dX10_quarters_46 : decode cX10_quarters 46 = .ok (.aload_n 0, 1) := by decide +kernel
theorem dX10_quarters_47 : decode cX10_quarters 47 = .ok (.getfield 35, 3) := by decide +kernel
theorem dX10_quarters_50 : decode cX10_quarters 50 = .ok (.iload_n 1, 1) := by decide +kernel
theorem dX10_quarters_51 : decode cX10_quarters 51 = .ok (.iaload, 1) := by decide +kernel
theorem dX10_quarters_52 : decode cX10_quarters 52 = .ok (.iconst 1, 1) := by decide +kernel
theorem dX10_quarters_53 : decode cX10_quarters 53 = .ok (.isub, 1) := by decide +kernel
theorem dX10_quarters_54 : decode cX10_quarters 54 = .ok (.istore_n 2, 1) := by decide +kernel
theorem dX10_quarters_55 : decode cX10_quarters 55 = .ok (.iconst 3, 1) := by decide +kernel
theorem dX10_quarters_56 : decode cX10_quarters 56 = .ok (.istore_n 3, 1) := by decide +kernel
theorem dX10_quarters_57 : decode cX10_quarters 57 = .ok (.iload_n 3, 1) := by decide +kernel
theorem dX10_quarters_58 : decode cX10_quarters 58 = .ok (.ifCond .lt 38, 3) := by decide +kernel
theorem dX10_quarters_61 : decode cX10_quarters 61 = .ok (.aload_n 0, 1) := by decide +kernel
theorem dX10_quarters_62 : decode cX10_quarters 62 = .ok (.getfield 32, 3) := by decide +kernel
theorem dX10_quarters_65 : decode cX10_quarters 65 = .ok (.iload_n 1, 1) := by decide +kernel
theorem dX10_quarters_66 : decode cX10_quarters 66 = .ok (.iload_n 3, 1) := by decide +kernel
theorem dX10_quarters_67 : decode cX10_quarters 67 = .ok (.iadd, 1) := by decide +kernel
theorem dX10_quarters_68 : decode cX10_quarters 68 = .ok (.aload_n 0, 1) := by decide +kernel
theorem dX10_quarters_69 : decode cX10_quarters 69 = .ok (.getfield 32, 3) := by decide +kernel
theorem dX10_quarters_72 : decode cX10_quarters 72 = .ok (.iload_n 1, 1) := by decide +kernel
theorem dX10_quarters_73 : decode cX10_quarters 73 = .ok (.iaload, 1) := by decide +kernel
theorem dX10_quarters_74 : decode cX10_quarters 74 = .ok (.iload_n 3, 1) := by decide +kernel
theorem dX10_quarters_75 : decode cX10_quarters 75 = .ok (.iconst 2, 1) := by decide +kernel
theorem dX10_quarters_76 : decode cX10_quarters 76 = .ok (.iload_n 2, 1) := by decide +kernel
theorem dX10_quarters_77 : decode cX10_quarters 77 = .ok (.imul, 1) := by decide +kernel
theorem dX10_quarters_78 : decode cX10_quarters 78 = .ok (.ishl, 1) := by decide +kernel
theorem dX10_quarters_79 : decode cX10_quarters 79 = .ok (.iadd, 1) := by decide +kernel
theorem dX10_quarters_80 : decode cX10_quarters 80 = .ok (.iastore, 1) := by decide +kernel
theorem dX10_quarters_81 : decode cX10_quarters 81 = .ok (.aload_n 0, 1) := by decide +kernel
theorem dX10_quarters_82 : decode cX10_quarters 82 = .ok (.getfield 35, 3) := by decide +kernel
theorem dX10_quarters_85 : decode cX10_quarters 85 = .ok (.iload_n 1, 1) := by decide +kernel
theorem dX10_quarters_86 : decode cX10_quarters 86 = .ok (.iload_n 3, 1) := by decide +kernel
theorem dX10_quarters_87 : decode cX10_quarters 87 = .ok (.iadd, 1) := by decide +kernel
theorem dX10_quarters_88 : decode cX10_quarters 88 = .ok (.iload_n 2, 1) := by decide +kernel
theorem dX10_quarters_89 : decode cX10_quarters 89 = .ok (.iastore, 1) := by decide +kernel
theorem dX10_quarters_90 : decode cX10_quarters 90 = .ok (.iinc 3 (-1), 3) := by decide +kernel
theorem dX10_quarters_93 : decode cX10_quarters 93 = .ok (.goto (-36), 3) := by decide +kernel
theorem dX10_quarters_96 : decode cX10_quarters 96 = .ok (.aload_n 0, 1) := by decide +kernel
theorem dX10_quarters_97 : decode cX10_quarters 97 = .ok (.dup, 1) := by decide +kernel
theorem dX10_quarters_98 : decode cX10_quarters 98 = .ok (.getfield 161, 3) := by decide +kernel
theorem dX10_quarters_101 : decode cX10_quarters 101 = .ok (.iconst 3, 1) := by decide +kernel
theorem dX10_quarters_102 : decode cX10_quarters 102 = .ok (.iadd, 1) := by decide +kernel
theorem dX10_quarters_103 : decode cX10_quarters 103 = .ok (.putfield 161, 3) := by decide +kernel
theorem dX10_quarters_106 : decode cX10_quarters 106 = .ok (.aload_n 0, 1) := by decide +kernel
theorem dX10_quarters_107 : decode cX10_quarters 107 = .ok (.invokevirtual 167, 3) := by decide +kernel
theorem dX10_quarters_110 : decode cX10_quarters 110 = .ok (.return_, 1) := by decide +kernel
set_option maxRecDepth 20000 in
theorem ggX10_balance_X10_isUnlike : GoodIn wsX10_balance wsX10_isUnlike := goodIn_r _ [6, 7, 8, 9, 10, 11, 12, 5, 13, 14, 15, 16, 17, 18, 19, 20, 21, 22, 23, 24, 25, 26, 27, 28, 29, 30, 31, 32, 33, 34, 35, 36, 37, 38, 39, 40, 41, 50, 51, 52, 53, 54, 55, 56, 57, 58, 59, 60, 61, 62, 63, 64, 65, 66, 67, 68, 69, 70, 71, 72, 73, 74, 75, 76, 77, 78] (by decide +kernel) (by decide +kernel)
set_option maxRecDepth 20000 in
theorem gX10_balance_X10_isUnlike : GoodIn wsX10_balance (wsV RX10 193 RX10 yX10_isUnlike wsX10_isUnlike) := goodIn_app (goodIn_of _ (by decide +kernel)) ggX10_balance_X10_isUnlike
set_option maxRecDepth 20000 in
theorem ggX10_balance_X10_quarters : GoodIn wsX10_balance wsX10_quarters := goodIn_r _ [45, 1, 21, 7, 46, 47, 48, 5, 49, 14, 50, 51, 52, 53, 54, 55, 56, 57, 58, 59, 60, 61, 62, 63, 64, 65, 66, 67, 68, 69, 70, 71, 72, 73, 74, 75, 76, 77, 78] (by decide +kernel) (by decide +kernel)
set_option maxRecDepth 20000 in
theorem gX10_balance_X10_quarters : GoodIn wsX10_balance (wsV RX10 196 RX10 yX10_quarters wsX10_quarters) := goodIn_app (goodIn_of _ (by decide +kernel)) ggX10_balance_X10_quarters
theorem dX10_balance_0 : decode cX10_balance 0 = .ok (.iconst 0, 1) := by decide +kernel
theorem dX10_balance_1 : decode cX10_balance 1 = .ok (.istore_n 1, 1) := by decide +kernel
theorem dX10_balance_2 : decode cX10_balance 2 = .ok (.iconst 0, 1) := by decide +kernel
theorem dX10_balance_3 : decode cX10_balance 3 = .ok (.istore_n 2, 1) := by decide +kernel
theorem dX10_balance_4 : decode cX10_balance 4 = .ok (.iload_n 2, 1) := by decide +kernel
theorem dX10_balance_5 : decode cX10_balance 5 = .ok (.aload_n 0, 1) := by decide +kernel
theorem dX10_balance_6 : decode cX10_balance 6 = .ok (.getfield 161, 3) := by decide +kernel
theorem dX10_balance_9 : decode cX10_balance 9 = .ok (.if_icmp .ge 30, 3) := by decide +kernel
theorem dX10_balance_12 : decode cX10_balance 12 = .ok (.aload_n 0, 1) := by decide +kernel
theorem dX10_balance_13 : decode cX10_balance 13 = .ok (.iload_n 2, 1) := by decide +kernel
theorem dX10_balance_14 : decode cX10_balance 14 = .ok (.invokevirtual 193, 3) := by decide +kernel
theorem dX10_balance_17 : decode cX10_balance 17 = .ok (.ifCond .eq 16, 3) := by decide +kernel
theorem dX10_balance_20 : decode cX10_balance 20 = .ok (.aload_n 0, 1) := by decide +kernel
theorem dX10_balance_21 : decode cX10_balance 21 = .ok (.iload_n 2, 1) := by decide +kernel
theorem dX10_balance_22 : decode cX10_balance 22 = .ok (.invokevirtual 196, 3) := by decide +kernel
theorem dX10_balance_25 : decode cX10_balance 25 = .ok (.iinc 1 1, 3) := by decide +kernel
theorem dX10_balance_28 : decode cX10_balance 28 = .ok (.iconst 0, 1) := by decide +kernel
theorem dX10_balance_29 : decode cX10_balance 29 = .ok (.istore_n 2, 1) := by decide +kernel
theorem dX10_balance_30 : decode cX10_balance 30 = .ok (.goto (-26), 3) := by decide +kernel
theorem dX10_balance_33 : decode cX10_balance 33 = .ok (.iinc 2 1, 3) := by decide +kernel
theorem dX10_balance_36 : decode cX10_balance 36 = .ok (.goto (-32), 3) := by decide +kernel
theorem dX10_balance_39 : decode cX10_balance 39 = .ok (.iload_n 1, 1) := by decide +kernel
theorem dX10_balance_40 : decode cX10_balance 40 = .ok (.ireturn, 1) := by decide +kernel
set_option maxRecDepth 20000 in
theorem ggX10_walk_X10_isLeaf : GoodIn wsX10_walk wsX10_isLeaf := goodIn_r _ [7, 8, 9, 10, 6, 11, 42, 43, 44, 45, 46, 47, 48, 49, 50, 51, 52, 53, 54, 55, 56, 57, 58, 59, 60, 61, 62, 63, 64, 65, 66, 67, 68, 69, 70] (by decide +kernel) (by decide +kernel)
set_option maxRecDepth 20000 in
theorem gX10_walk_X10_isLeaf : GoodIn wsX10_walk (wsV RX10 176 RX10 yX10_isLeaf wsX10_isLeaf) := goodIn_app (goodIn_of _ (by decide +kernel)) ggX10_walk_X10_isLeaf
set_option maxRecDepth 20000 in
theorem ggX10_walk_X10_in : GoodIn wsX10_walk wsX10_in := goodIn_r _ [11] (by decide +kernel) (by decide +kernel)
set_option maxRecDepth 20000 in
theorem gX10_walk_X10_in : GoodIn wsX10_walk (va_wsS RX10 99 yX10_in wsX10_in) := goodIn_app (goodIn_of _ (by decide +kernel)) ggX10_walk_X10_in
set_option maxRecDepth 20000 in
theorem ggX10_walk_X10_findBeside : GoodIn wsX10_walk wsX10_findBeside := goodIn_r _ [15, 1, 16, 17, 18, 19, 20, 21, 6, 22, 23, 24, 25, 26, 27, 28, 29, 30, 31, 32, 33, 34, 35, 36, 37, 9, 10, 11, 38, 39, 40, 41, 2, 42, 43, 44, 45, 46, 47, 48, 49, 50, 51, 52, 53, 54, 55, 56, 57, 58, 59, 60, 61, 62, 63, 64, 65, 66, 67, 68, 69, 70] (by decide +kernel) (by decide +kernel)
set_option maxRecDepth 20000 in
theorem gX10_walk_X10_findBeside : GoodIn wsX10_walk (wsV RX10 189 RX10 yX10_findBeside wsX10_findBeside) := goodIn_app (goodIn_of _ (by decide +kernel)) ggX10_walk_X10_findBeside
theorem dX10_walk_0 : decode cX10_walk 0 = .ok (.aload_n 0, 1) := by decide +kernel
theorem dX10_walk_1 : decode cX10_walk 1 = .ok (.iload_n 1, 1) := by decide +kernel
theorem dX10_walk_2 : decode cX10_walk 2 = .ok (.invokevirtual 176, 3) := by decide +kernel
theorem dX10_walk_5 : decode cX10_walk 5 = .ok (.ifCond .eq 12, 3) := by decide +kernel
theorem dX10_walk_8 : decode cX10_walk 8 = .ok (.iload_n 2, 1) := by decide +kernel
theorem dX10_walk_9 : decode cX10_walk 9 = .ok (.iconst 0, 1) := by decide +kernel
theorem dX10_walk_10 : decode cX10_walk 10 = .ok (.iconst 3, 1) := by decide +kernel
theorem dX10_walk_11 : decode cX10_walk 11 = .ok (.invokestatic 99, 3) := by decide +kernel
theorem dX10_walk_14 : decode cX10_walk 14 = .ok (.ifCond .ne 5, 3) := by decide +kernel
theorem dX10_walk_17 : decode cX10_walk 17 = .ok (.iconst (-1), 1) := by decide +kernel
theorem dX10_walk_18 : decode cX10_walk 18 = .ok (.ireturn, 1) := by decide +kernel
theorem dX10_walk_19 : decode cX10_walk 19 = .ok (.iconst 0, 1) := by decide +kernel
theorem dX10_walk_20 : decode cX10_walk 20 = .ok (.istore_n 3, 1) := by decide +kernel
theorem dX10_walk_21 : decode cX10_walk 21 = .ok (.aload_n 0, 1) := by decide +kernel
theorem dX10_walk_22 : decode cX10_walk 22 = .ok (.iload_n 1, 1) := by decide +kernel
theorem dX10_walk_23 : decode cX10_walk 23 = .ok (.iload_n 2, 1) := by decide +kernel
theorem dX10_walk_24 : decode cX10_walk 24 = .ok (.invokevirtual 189, 3) := by decide +kernel
theorem dX10_walk_27 : decode cX10_walk 27 = .ok (.aload_n 0, 1) := by decide +kernel
theorem dX10_walk_28 : decode cX10_walk 28 = .ok (.getfield 182, 3) := by decide +kernel
theorem dX10_walk_31 : decode cX10_walk 31 = .ok (.ifCond .le 20, 3) := by decide +kernel
theorem dX10_walk_34 : decode cX10_walk 34 = .ok (.iinc 3 1, 3) := by decide +kernel
theorem dX10_walk_37 : decode cX10_walk 37 = .ok (.aload_n 0, 1) := by decide +kernel
theorem dX10_walk_38 : decode cX10_walk 38 = .ok (.aload_n 0, 1) := by decide +kernel
theorem dX10_walk_39 : decode cX10_walk 39 = .ok (.getfield 72, 3) := by decide +kernel
theorem dX10_walk_42 : decode cX10_walk 42 = .ok (.iconst 0, 1) := by decide +kernel
theorem dX10_walk_43 : decode cX10_walk 43 = .ok (.iaload, 1) := by decide +kernel
theorem dX10_walk_44 : decode cX10_walk 44 = .ok (.iload_n 2, 1) := by decide +kernel
theorem dX10_walk_45 : decode cX10_walk 45 = .ok (.invokevirtual 189, 3) := by decide +kernel
theorem dX10_walk_48 : decode cX10_walk 48 = .ok (.goto (-21), 3) := by decide +kernel
theorem dX10_walk_51 : decode cX10_walk 51 = .ok (.iload_n 3, 1) := by decide +kernel
theorem dX10_walk_52 : decode cX10_walk 52 = .ok (.ireturn, 1) := by decide +kernel
set_option maxRecDepth 20000 in
theorem ggX10_walked_X10_isLeaf : GoodIn wsX10_walked wsX10_isLeaf := goodIn_r _ [7, 8, 9, 10, 6, 11, 42, 43, 44, 45, 46, 47, 48, 49, 50, 51, 52, 53, 54, 55, 56, 57, 58, 59, 60, 61, 62, 63, 64, 65, 66, 67, 68, 69, 70] (by decide +kernel) (by decide +kernel)
set_option maxRecDepth 20000 in
theorem gX10_walked_X10_isLeaf : GoodIn wsX10_walked (wsV RX10 176 RX10 yX10_isLeaf wsX10_isLeaf) := goodIn_app (goodIn_of _ (by decide +kernel)) ggX10_walked_X10_isLeaf
set_option maxRecDepth 20000 in
theorem ggX10_walked_X10_in : GoodIn wsX10_walked wsX10_in := goodIn_r _ [11] (by decide +kernel) (by decide +kernel)
set_option maxRecDepth 20000 in
theorem gX10_walked_X10_in : GoodIn wsX10_walked (va_wsS RX10 99 yX10_in wsX10_in) := goodIn_app (goodIn_of _ (by decide +kernel)) ggX10_walked_X10_in
set_option maxRecDepth 20000 in
theorem ggX10_walked_X10_findBeside : GoodIn wsX10_walked wsX10_findBeside := goodIn_r _ [15, 1, 16, 17, 18, 19, 20, 21, 6, 22, 23, 24, 25, 26, 27, 28, 29, 30, 31, 32, 33, 34, 35, 36, 37, 9, 10, 11, 38, 39, 40, 41, 2, 42, 43, 44, 45, 46, 47, 48, 49, 50, 51, 52, 53, 54, 55, 56, 57, 58, 59, 60, 61, 62, 63, 64, 65, 66, 67, 68, 69, 70] (by decide +kernel) (by decide +kernel)
set_option maxRecDepth 20000 in
theorem gX10_walked_X10_findBeside : GoodIn wsX10_walked (wsV RX10 189 RX10 yX10_findBeside wsX10_findBeside) := goodIn_app (goodIn_of _ (by decide +kernel)) ggX10_walked_X10_findBeside
theorem dX10_walked_0 : decode cX10_walked 0 = .ok (.aload_n 0, 1) := by decide +kernel
theorem dX10_walked_1 : decode cX10_walked 1 = .ok (.iload_n 1, 1) := by decide +kernel
theorem dX10_walked_2 : decode cX10_walked 2 = .ok (.invokevirtual 176, 3) := by decide +kernel
theorem dX10_walked_5 : decode cX10_walked 5 = .ok (.ifCond .eq 16, 3) := by decide +kernel
theorem dX10_walked_8 : decode cX10_walked 8 = .ok (.iload_n 2, 1) := by decide +kernel
theorem dX10_walked_9 : decode cX10_walked 9 = .ok (.iconst 0, 1) := by decide +kernel
theorem dX10_walked_10 : decode cX10_walked 10 = .ok (.iconst 3, 1) := by decide +kernel
theorem dX10_walked_11 : decode cX10_walked 11 = .ok (.invokestatic 99, 3) := by decide +kernel
theorem dX10_walked_14 : decode cX10_walked 14 = .ok (.ifCond .eq 7, 3) := by decide +kernel
theorem dX10_walked_17 : decode cX10_walked 17 = .ok (.iload_n 3, 1) := by decide +kernel
theorem dX10_walked_18 : decode cX10_walked 18 = .ok (.ifCond .ge 5, 3) := by decide +kernel
theorem dX10_walked_21 : decode cX10_walked 21 = .ok (.iconst (-1), 1) := by decide +kernel
theorem dX10_walked_22 : decode cX10_walked 22 = .ok (.ireturn, 1) := by decide +kernel
theorem dX10_walked_23 : decode cX10_walked 23 = .ok (.iload_n 1, 1) := by decide +kernel
theorem dX10_walked_24 : decode cX10_walked 24 = .ok (.istore 4, 2) := by decide +kernel
theorem dX10_walked_26 : decode cX10_walked 26 = .ok (.iconst 0, 1) := by decide +kernel
theorem dX10_walked_27 : decode cX10_walked 27 = .ok (.istore 5, 2) := by decide +kernel
theorem dX10_walked_29 : decode cX10_walked 29 = .ok (.iload 5, 2) := by decide +kernel
theorem dX10_walked_31 : decode cX10_walked 31 = .ok (.iload_n 3, 1) := by decide +kernel
theorem dX10_walked_32 : decode cX10_walked 32 = .ok (.if_icmp .ge 34, 3) := by decide +kernel
theorem dX10_walked_35 : decode cX10_walked 35 = .ok (.aload_n 0, 1) := by decide +kernel
theorem dX10_walked_36 : decode cX10_walked 36 = .ok (.iload 4, 2) := by decide +kernel
theorem dX10_walked_38 : decode cX10_walked 38 = .ok (.iload_n 2, 1) := by decide +kernel
theorem dX10_walked_39 : decode cX10_walked 39 = .ok (.invokevirtual 189, 3) := by decide +kernel
theorem dX10_walked_42 : decode cX10_walked 42 = .ok (.aload_n 0, 1) := by decide +kernel
theorem dX10_walked_43 : decode cX10_walked 43 = .ok (.getfield 182, 3) := by decide +kernel
theorem dX10_walked_46 : decode cX10_walked 46 = .ok (.ifCond .ne 6, 3) := by decide +kernel
theorem dX10_walked_49 : decode cX10_walked 49 = .ok (.bipush (-5), 2) := by decide +kernel
theorem dX10_walked_51 : decode cX10_walked 51 = .ok (.ireturn, 1) := by decide +kernel
theorem dX10_walked_52 : decode cX10_walked 52 = .ok (.aload_n 0, 1) := by decide +kernel
theorem dX10_walked_53 : decode cX10_walked 53 = .ok (.getfield 72, 3) := by decide +kernel
theorem dX10_walked_56 : decode cX10_walked 56 = .ok (.iconst 0, 1) := by decide +kernel
theorem dX10_walked_57 : decode cX10_walked 57 = .ok (.iaload, 1) := by decide +kernel
theorem dX10_walked_58 : decode cX10_walked 58 = .ok (.istore 4, 2) := by decide +kernel
theorem dX10_walked_60 : decode cX10_walked 60 = .ok (.iinc 5 1, 3) := by decide +kernel
theorem dX10_walked_63 : decode cX10_walked 63 = .ok (.goto (-34), 3) := by decide +kernel
theorem dX10_walked_66 : decode cX10_walked 66 = .ok (.iload 4, 2) := by decide +kernel
theorem dX10_walked_68 : decode cX10_walked 68 = .ok (.ireturn, 1) := by decide +kernel
set_option maxRecDepth 20000 in
theorem ggX10_save_X10_in : GoodIn wsX10_save wsX10_in := goodIn_r _ [23] (by decide +kernel) (by decide +kernel)
set_option maxRecDepth 20000 in
theorem gX10_save_X10_in : GoodIn wsX10_save (va_wsS RX10 99 yX10_in wsX10_in) := goodIn_app (goodIn_of _ (by decide +kernel)) ggX10_save_X10_in
theorem dX10_save_0 : decode cX10_save 0 = .ok (.iload_n 1, 1) := by decide +kernel
theorem dX10_save_1 : decode cX10_save 1 = .ok (.iconst 0, 1) := by decide +kernel
theorem dX10_save_2 : decode cX10_save 2 = .ok (.iconst 1, 1) := by decide +kernel
theorem dX10_save_3 : decode cX10_save 3 = .ok (.invokestatic 99, 3) := by decide +kernel
theorem dX10_save_6 : decode cX10_save 6 = .ok (.ifCond .ne 5, 3) := by decide +kernel
theorem dX10_save_9 : decode cX10_save 9 = .ok (.iconst (-1), 1) := by decide +kernel
theorem dX10_save_10 : decode cX10_save 10 = .ok (.ireturn, 1) := by decide +kernel
theorem dX10_save_11 : decode cX10_save 11 = .ok (.bipush 100, 2) := by decide +kernel
theorem dX10_save_13 : decode cX10_save 13 = .ok (.iload_n 1, 1) := by decide +kernel
theorem dX10_save_14 : decode cX10_save 14 = .ok (.imul, 1) := by decide +kernel
theorem dX10_save_15 : decode cX10_save 15 = .ok (.istore_n 2, 1) := by decide +kernel
theorem dX10_save_16 : decode cX10_save 16 = .ok (.aload_n 0, 1) := by decide +kernel
theorem dX10_save_17 : decode cX10_save 17 = .ok (.getfield 41, 3) := by decide +kernel
theorem dX10_save_20 : decode cX10_save 20 = .ok (.iload_n 2, 1) := by decide +kernel
theorem dX10_save_21 : decode cX10_save 21 = .ok (.aload_n 0, 1) := by decide +kernel
theorem dX10_save_22 : decode cX10_save 22 = .ok (.getfield 7, 3) := by decide +kernel
theorem dX10_save_25 : decode cX10_save 25 = .ok (.iastore, 1) := by decide +kernel
theorem dX10_save_26 : decode cX10_save 26 = .ok (.aload_n 0, 1) := by decide +kernel
theorem dX10_save_27 : decode cX10_save 27 = .ok (.getfield 41, 3) := by decide +kernel
theorem dX10_save_30 : decode cX10_save 30 = .ok (.iload_n 2, 1) := by decide +kernel
theorem dX10_save_31 : decode cX10_save 31 = .ok (.iconst 1, 1) := by decide +kernel
theorem dX10_save_32 : decode cX10_save 32 = .ok (.iadd, 1) := by decide +kernel
theorem dX10_save_33 : decode cX10_save 33 = .ok (.aload_n 0, 1) := by decide +kernel
theorem dX10_save_34 : decode cX10_save 34 = .ok (.getfield 82, 3) := by decide +kernel
theorem dX10_save_37 : decode cX10_save 37 = .ok (.iastore, 1) := by decide +kernel
theorem dX10_save_38 : decode cX10_save 38 = .ok (.aload_n 0, 1) := by decide +kernel
theorem dX10_save_39 : decode cX10_save 39 = .ok (.getfield 41, 3) := by decide +kernel
theorem dX10_save_42 : decode cX10_save 42 = .ok (.iload_n 2, 1) := by decide +kernel
theorem dX10_save_43 : decode cX10_save 43 = .ok (.iconst 2, 1) := by decide +kernel
theorem dX10_save_44 : decode cX10_save 44 = .ok (.iadd, 1) := by decide +kernel
theorem dX10_save_45 : decode cX10_save 45 = .ok (.aload_n 0, 1) := by decide +kernel
theorem dX10_save_46 : decode cX10_save 46 = .ok (.getfield 13, 3) := by decide +kernel
theorem dX10_save_49 : decode cX10_save 49 = .ok (.iconst 2, 1) := by decide +kernel
theorem dX10_save_50 : decode cX10_save 50 = .ok (.iaload, 1) := by decide +kernel
theorem dX10_save_51 : decode cX10_save 51 = .ok (.iastore, 1) := by decide +kernel
theorem dX10_save_52 : decode cX10_save 52 = .ok (.aload_n 0, 1) := by decide +kernel
theorem dX10_save_53 : decode cX10_save 53 = .ok (.getfield 41, 3) := by decide +kernel
theorem dX10_save_56 : decode cX10_save 56 = .ok (.iload_n 2, 1) := by decide +kernel
theorem dX10_save_57 : decode cX10_save 57 = .ok (.iconst 3, 1) := by decide +kernel
theorem dX10_save_58 : decode cX10_save 58 = .ok (.iadd, 1) := by decide +kernel
theorem dX10_save_59 : decode cX10_save 59 = .ok (.aload_n 0, 1) := by decide +kernel
theorem dX10_save_60 : decode cX10_save 60 = .ok (.getfield 103, 3) := by decide +kernel
theorem dX10_save_63 : decode cX10_save 63 = .ok (.iastore, 1) := by decide +kernel
theorem dX10_save_64 : decode cX10_save 64 = .ok (.aload_n 0, 1) := by decide +kernel
theorem dX10_save_65 : decode cX10_save 65 = .ok (.getfield 41, 3) := by decide +kernel
theorem dX10_save_68 : decode cX10_save 68 = .ok (.iload_n 2, 1) := by decide +kernel
theorem dX10_save_69 : decode cX10_save 69 = .ok (.iconst 4, 1) := by decide +kernel
theorem dX10_save_70 : decode cX10_save 70 = .ok (.iadd, 1) := by decide +kernel
theorem dX10_save_71 : decode cX10_save 71 = .ok (.aload_n 0, 1) := by decide +kernel
theorem dX10_save_72 : decode cX10_save 72 = .ok (.getfield 106, 3) := by decide +kernel
theorem dX10_save_75 : decode cX10_save 75 = .ok (.iastore, 1) := by decide +kernel
theorem dX10_save_76 : decode cX10_save 76 = .ok (.aload_n 0, 1) := by decide +kernel
theorem dX10_save_77 : decode cX10_save 77 = .ok (.getfield 41, 3) := by decide +kernel
theorem dX10_save_80 : decode cX10_save 80 = .ok (.iload_n 2, 1) := by decide +kernel
theorem dX10_save_81 : decode cX10_save 81 = .ok (.iconst 5, 1) := by decide +kernel
theorem dX10_save_82 : decode cX10_save 82 = .ok (.iadd, 1) := by decide +kernel
theorem dX10_save_83 : decode cX10_save 83 = .ok (.aload_n 0, 1) := by decide +kernel
theorem dX10_save_84 : decode cX10_save 84 = .ok (.getfield 20, 3) := by decide +kernel
theorem dX10_save_87 : decode cX10_save 87 = .ok (.iastore, 1) := by decide +kernel
theorem dX10_save_88 : decode cX10_save 88 = .ok (.aload_n 0, 1) := by decide +kernel
theorem dX10_save_89 : decode cX10_save 89 = .ok (.getfield 41, 3) := by decide +kernel
theorem dX10_save_92 : decode cX10_save 92 = .ok (.iload_n 2, 1) := by decide +kernel
theorem dX10_save_93 : decode cX10_save 93 = .ok (.bipush 6, 2) := by decide +kernel
theorem dX10_save_95 : decode cX10_save 95 = .ok (.iadd, 1) := by decide +kernel
theorem dX10_save_96 : decode cX10_save 96 = .ok (.aload_n 0, 1) := by decide +kernel
theorem dX10_save_97 : decode cX10_save 97 = .ok (.getfield 23, 3) := by decide +kernel
theorem dX10_save_100 : decode cX10_save 100 = .ok (.iastore, 1) := by decide +kernel
theorem dX10_save_101 : decode cX10_save 101 = .ok (.aload_n 0, 1) := by decide +kernel
theorem dX10_save_102 : decode cX10_save 102 = .ok (.getfield 41, 3) := by decide +kernel
theorem dX10_save_105 : decode cX10_save 105 = .ok (.iload_n 2, 1) := by decide +kernel
theorem dX10_save_106 : decode cX10_save 106 = .ok (.bipush 7, 2) := by decide +kernel
theorem dX10_save_108 : decode cX10_save 108 = .ok (.iadd, 1) := by decide +kernel
theorem dX10_save_109 : decode cX10_save 109 = .ok (.aload_n 0, 1) := by decide +kernel
theorem dX10_save_110 : decode cX10_save 110 = .ok (.getfield 112, 3) := by decide +kernel
theorem dX10_save_113 : decode cX10_save 113 = .ok (.iastore, 1) := by decide +kernel
theorem dX10_save_114 : decode cX10_save 114 = .ok (.aload_n 0, 1) := by decide +kernel
theorem dX10_save_115 : decode cX10_save 115 = .ok (.getfield 41, 3) := by decide +kernel
theorem dX10_save_118 : decode cX10_save 118 = .ok (.iload_n 2, 1) := by decide +kernel
theorem dX10_save_119 : decode cX10_save 119 = .ok (.bipush 8, 2) := by decide +kernel
theorem dX10_save_121 : decode cX10_save 121 = .ok (.iadd, 1) := by decide +kernel
theorem dX10_save_122 : decode cX10_save 122 = .ok (.aload_n 0, 1) := by decide +kernel
theorem dX10_save_123 : decode cX10_save 123 = .ok (.getfield 29, 3) := by decide +kernel
theorem dX10_save_126 : decode cX10_save 126 = .ok (.iastore, 1) := by decide +kernel
theorem dX10_save_127 : decode cX10_save 127 = .ok (.aload_n 0, 1) := by decide +kernel
theorem dX10_save_128 : decode cX10_save 128 = .ok (.getfield 41, 3) := by decide +kernel
theorem dX10_save_131 : decode cX10_save 131 = .ok (.iload_n 2, 1) := by decide +kernel
theorem dX10_save_132 : decode cX10_save 132 = .ok (.bipush 9, 2) := by decide +kernel
theorem dX10_save_134 : decode cX10_save 134 = .ok (.iadd, 1) := by decide +kernel
theorem dX10_save_135 : decode cX10_save 135 = .ok (.aload_n 0, 1) := by decide +kernel
theorem dX10_save_136 : decode cX10_save 136 = .ok (.getfield 161, 3) := by decide +kernel
theorem dX10_save_139 : decode cX10_save 139 = .ok (.iastore, 1) := by decide +kernel
theorem dX10_save_140 : decode cX10_save 140 = .ok (.iconst 0, 1) := by decide +kernel
theorem dX10_save_141 : decode cX10_save 141 = .ok (.istore_n 3, 1) := by decide +kernel
theorem dX10_save_142 : decode cX10_save 142 = .ok (.iload_n 3, 1) := by decide +kernel
theorem dX10_save_143 : decode cX10_save 143 = .ok (.bipush 40, 2) := by decide +kernel
theorem dX10_save_145 : decode cX10_save 145 = .ok (.if_icmp .ge 26, 3) := by decide +kernel
theorem dX10_save_148 : decode cX10_save 148 = .ok (.aload_n 0, 1) := by decide +kernel
theorem dX10_save_149 : decode cX10_save 149 = .ok (.getfield 41, 3) := by decide +kernel
theorem dX10_save_152 : decode cX10_save 152 = .ok (.iload_n 2, 1) := by decide +kernel
theorem dX10_save_153 : decode cX10_save 153 = .ok (.bipush 10, 2) := by decide +kernel
theorem dX10_save_155 : decode cX10_save 155 = .ok (.iadd, 1) := by decide +kernel
theorem dX10_save_156 : decode cX10_save 156 = .ok (.iload_n 3, 1) := by decide +kernel
theorem dX10_save_157 : decode cX10_save 157 = .ok (.iadd, 1) := by decide +kernel
theorem dX10_save_158 : decode cX10_save 158 = .ok (.aload_n 0, 1) := by decide +kernel
theorem dX10_save_159 : decode cX10_save 159 = .ok (.getfield 26, 3) := by decide +kernel
theorem dX10_save_162 : decode cX10_save 162 = .ok (.iload_n 3, 1) := by decide +kernel
theorem dX10_save_163 : decode cX10_save 163 = .ok (.iaload, 1) := by decide +kernel
theorem dX10_save_164 : decode cX10_save 164 = .ok (.iastore, 1) := by decide +kernel
theorem dX10_save_165 : decode cX10_save 165 = .ok (.iinc 3 1, 3) := by decide +kernel
theorem dX10_save_168 : decode cX10_save 168 = .ok (.goto (-26), 3) := by decide +kernel
theorem dX10_save_171 : decode cX10_save 171 = .ok (.iconst 0, 1) := by decide +kernel
theorem dX10_save_172 : decode cX10_save 172 = .ok (.istore_n 3, 1) := by decide +kernel
theorem dX10_save_173 : decode cX10_save 173 = .ok (.iload_n 3, 1) := by decide +kernel
theorem dX10_save_174 : decode cX10_save 174 = .ok (.bipush 64, 2) := by decide +kernel
theorem dX10_save_176 : decode cX10_save 176 = .ok (.if_icmp .ge 30, 3) := by decide +kernel
theorem dX10_save_179 : decode cX10_save 179 = .ok (.aload_n 0, 1) := by decide +kernel
theorem dX10_save_180 : decode cX10_save 180 = .ok (.getfield 44, 3) := by decide +kernel
theorem dX10_save_183 : decode cX10_save 183 = .ok (.bipush 64, 2) := by decide +kernel
theorem dX10_save_185 : decode cX10_save 185 = .ok (.iload_n 1, 1) := by decide +kernel
theorem dX10_save_186 : decode cX10_save 186 = .ok (.imul, 1) := by decide +kernel
theorem dX10_save_187 : decode cX10_save 187 = .ok (.iload_n 3, 1) := by decide +kernel
theorem dX10_save_188 : decode cX10_save 188 = .ok (.iadd, 1) := by decide +kernel
theorem dX10_save_189 : decode cX10_save 189 = .ok (.aload_n 0, 1) := by decide +kernel
theorem dX10_save_190 : decode cX10_save 190 = .ok (.getfield 17, 3) := by decide +kernel
theorem dX10_save_193 : decode cX10_save 193 = .ok (.sipush 128, 3) := by decide +kernel
theorem dX10_save_196 : decode cX10_save 196 = .ok (.iload_n 3, 1) := by decide +kernel
theorem dX10_save_197 : decode cX10_save 197 = .ok (.iadd, 1) := by decide +kernel
theorem dX10_save_198 : decode cX10_save 198 = .ok (.iaload, 1) := by decide +kernel
theorem dX10_save_199 : decode cX10_save 199 = .ok (.iastore, 1) := by decide +kernel
theorem dX10_save_200 : decode cX10_save 200 = .ok (.iinc 3 1, 3) := by decide +kernel
theorem dX10_save_203 : decode cX10_save 203 = .ok (.goto (-30), 3) := by decide +kernel
theorem dX10_save_206 : decode cX10_save 206 = .ok (.iconst 0, 1) := by decide +kernel
theorem dX10_save_207 : decode cX10_save 207 = .ok (.istore_n 3, 1) := by decide +kernel
theorem dX10_save_208 : decode cX10_save 208 = .ok (.iload_n 3, 1) := by decide +kernel
theorem dX10_save_209 : decode cX10_save 209 = .ok (.sipush 4096, 3) := by decide +kernel
theorem dX10_save_212 : decode cX10_save 212 = .ok (.if_icmp .ge 45, 3) := by decide +kernel
theorem dX10_save_215 : decode cX10_save 215 = .ok (.aload_n 0, 1) := by decide +kernel
theorem dX10_save_216 : decode cX10_save 216 = .ok (.getfield 47, 3) := by decide +kernel
theorem dX10_save_219 : decode cX10_save 219 = .ok (.sipush 4096, 3) := by decide +kernel
theorem dX10_save_222 : decode cX10_save 222 = .ok (.iload_n 1, 1) := by decide +kernel
theorem dX10_save_223 : decode cX10_save 223 = .ok (.imul, 1) := by decide +kernel
theorem dX10_save_224 : decode cX10_save 224 = .ok (.iload_n 3, 1) := by decide +kernel
theorem dX10_save_225 : decode cX10_save 225 = .ok (.iadd, 1) := by decide +kernel
theorem dX10_save_226 : decode cX10_save 226 = .ok (.aload_n 0, 1) := by decide +kernel
theorem dX10_save_227 : decode cX10_save 227 = .ok (.getfield 32, 3) := by decide +kernel
theorem dX10_save_230 : decode cX10_save 230 = .ok (.iload_n 3, 1) := by decide +kernel
theorem dX10_save_231 : decode cX10_save 231 = .ok (.iaload, 1) := by decide +kernel
theorem dX10_save_232 : decode cX10_save 232 = .ok (.iastore, 1) := by decide +kernel
theorem dX10_save_233 : decode cX10_save 233 = .ok (.aload_n 0, 1) := by decide +kernel
theorem dX10_save_234 : decode cX10_save 234 = .ok (.getfield 50, 3) := by decide +kernel
theorem dX10_save_237 : decode cX10_save 237 = .ok (.sipush 4096, 3) := by decide +kernel
theorem dX10_save_240 : decode cX10_save 240 = .ok (.iload_n 1, 1) := by decide +kernel
theorem dX10_save_241 : decode cX10_save 241 = .ok (.imul, 1) := by decide +kernel
theorem dX10_save_242 : decode cX10_save 242 = .ok (.iload_n 3, 1) := by decide +kernel
theorem dX10_save_243 : decode cX10_save 243 = .ok (.iadd, 1) := by decide +kernel
theorem dX10_save_244 : decode cX10_save 244 = .ok (.aload_n 0, 1) := by decide +kernel
theorem dX10_save_245 : decode cX10_save 245 = .ok (.getfield 35, 3) := by decide +kernel
theorem dX10_save_248 : decode cX10_save 248 = .ok (.iload_n 3, 1) := by decide +kernel
theorem dX10_save_249 : decode cX10_save 249 = .ok (.iaload, 1) := by decide +kernel
theorem dX10_save_250 : decode cX10_save 250 = .ok (.iastore, 1) := by decide +kernel
theorem dX10_save_251 : decode cX10_save 251 = .ok (.iinc 3 1, 3) := by decide +kernel
theorem dX10_save_254 : decode cX10_save 254 = .ok (.goto (-46), 3) := by decide +kernel
theorem dX10_save_257 : decode cX10_save 257 = .ok (.aload_n 0, 1) := by decide +kernel
theorem dX10_save_258 : decode cX10_save 258 = .ok (.getfield 53, 3) := by decide +kernel
theorem dX10_save_261 : decode cX10_save 261 = .ok (.iload_n 1, 1) := by decide +kernel
theorem dX10_save_262 : decode cX10_save 262 = .ok (.iconst 1, 1) := by decide +kernel
theorem dX10_save_263 : decode cX10_save 263 = .ok (.bastore, 1) := by decide +kernel
theorem dX10_save_264 : decode cX10_save 264 = .ok (.aload_n 0, 1) := by decide +kernel
theorem dX10_save_265 : decode cX10_save 265 = .ok (.getfield 161, 3) := by decide +kernel
theorem dX10_save_268 : decode cX10_save 268 = .ok (.ireturn, 1) := by decide +kernel
set_option maxRecDepth 20000 in
theorem ggX10_restore_X10_in : GoodIn wsX10_restore wsX10_in := goodIn_r _ [23] (by decide +kernel) (by decide +kernel)
set_option maxRecDepth 20000 in
theorem gX10_restore_X10_in : GoodIn wsX10_restore (va_wsS RX10 99 yX10_in wsX10_in) := goodIn_app (goodIn_of _ (by decide +kernel)) ggX10_restore_X10_in
set_option maxRecDepth 20000 in
theorem ggX10_restore_X10_numbers : GoodIn wsX10_restore wsX10_numbers := goodIn_r _ [27, 3, 28, 29, 30, 31, 32, 22, 33, 34, 35, 36, 37, 13, 4, 38, 39, 40, 41, 42, 43, 44, 45, 15, 11, 16, 18, 46, 47, 48, 49, 10, 12, 50, 51, 52, 53, 54, 55, 56, 57, 58, 59, 60, 61, 62, 63, 64, 65, 66, 67, 68, 69, 70, 71, 72, 73, 74, 75, 76, 77, 78, 79, 80, 81, 82, 83] (by decide +kernel) (by decide +kernel)
set_option maxRecDepth 20000 in
theorem gX10_restore_X10_numbers : GoodIn wsX10_restore (wsV RX10 79 RX10 yX10_numbers wsX10_numbers) := goodIn_app (goodIn_of _ (by decide +kernel)) ggX10_restore_X10_numbers
set_option maxRecDepth 20000 in
theorem ggX10_restore_X10_maps : GoodIn wsX10_restore wsX10_maps := goodIn_r _ [53, 15, 16, 18, 54, 55, 56, 57, 58, 59, 60, 61, 62, 63, 64, 65, 66, 67, 68, 69, 70, 71, 72, 73, 74, 75, 76, 77, 78, 79, 80, 81, 82, 83] (by decide +kernel) (by decide +kernel)
set_option maxRecDepth 20000 in
theorem gX10_restore_X10_maps : GoodIn wsX10_restore (wsV RX10 167 RX10 yX10_maps wsX10_maps) := goodIn_app (goodIn_of _ (by decide +kernel)) ggX10_restore_X10_maps
theorem dX10_restore_0 : decode cX10_restore 0 = .ok (.iload_n 1, 1) := by decide +kernel
theorem dX10_restore_1 : decode cX10_restore 1 = .ok (.iconst 0, 1) := by decide +kernel
theorem dX10_restore_2 : decode cX10_restore 2 = .ok (.iconst 1, 1) := by decide +kernel
theorem dX10_restore_3 : decode cX10_restore 3 = .ok (.invokestatic 99, 3) := by decide +kernel
theorem dX10_restore_6 : decode cX10_restore 6 = .ok (.ifCond .ne 5, 3) := by decide +kernel
theorem dX10_restore_9 : decode cX10_restore 9 = .ok (.iconst (-1), 1) := by decide +kernel
theorem dX10_restore_10 : decode cX10_restore 10 = .ok (.ireturn, 1) := by decide +kernel
theorem dX10_restore_11 : decode cX10_restore 11 = .ok (.aload_n 0, 1) := by decide +kernel
theorem dX10_restore_12 : decode cX10_restore 12 = .ok (.getfield 53, 3) := by decide +kernel
theorem dX10_restore_15 : decode cX10_restore 15 = .ok (.iload_n 1, 1) := by decide +kernel
theorem dX10_restore_16 : decode cX10_restore 16 = .ok (.baload, 1) := by decide +kernel
theorem dX10_restore_17 : decode cX10_restore 17 = .ok (.ifCond .ne 6, 3) := by decide +kernel
theorem dX10_restore_20 : decode cX10_restore 20 = .ok (.bipush (-3), 2) := by decide +kernel
theorem dX10_restore_22 : decode cX10_restore 22 = .ok (.ireturn, 1) := by decide +kernel
theorem dX10_restore_23 : decode cX10_restore 23 = .ok (.bipush 100, 2) := by decide +kernel
theorem dX10_restore_25 : decode cX10_restore 25 = .ok (.iload_n 1, 1) := by decide +kernel
theorem dX10_restore_26 : decode cX10_restore 26 = .ok (.imul, 1) := by decide +kernel
theorem dX10_restore_27 : decode cX10_restore 27 = .ok (.istore_n 2, 1) := by decide +kernel
theorem dX10_restore_28 : decode cX10_restore 28 = .ok (.aload_n 0, 1) := by decide +kernel
theorem dX10_restore_29 : decode cX10_restore 29 = .ok (.aload_n 0, 1) := by decide +kernel
theorem dX10_restore_30 : decode cX10_restore 30 = .ok (.getfield 41, 3) := by decide +kernel
theorem dX10_restore_33 : decode cX10_restore 33 = .ok (.iload_n 2, 1) := by decide +kernel
theorem dX10_restore_34 : decode cX10_restore 34 = .ok (.iaload, 1) := by decide +kernel
theorem dX10_restore_35 : decode cX10_restore 35 = .ok (.putfield 7, 3) := by decide +kernel
theorem dX10_restore_38 : decode cX10_restore 38 = .ok (.aload_n 0, 1) := by decide +kernel
theorem dX10_restore_39 : decode cX10_restore 39 = .ok (.aload_n 0, 1) := by decide +kernel
theorem dX10_restore_40 : decode cX10_restore 40 = .ok (.getfield 41, 3) := by decide +kernel
theorem dX10_restore_43 : decode cX10_restore 43 = .ok (.iload_n 2, 1) := by decide +kernel
theorem dX10_restore_44 : decode cX10_restore 44 = .ok (.iconst 1, 1) := by decide +kernel
theorem dX10_restore_45 : decode cX10_restore 45 = .ok (.iadd, 1) := by decide +kernel
theorem dX10_restore_46 : decode cX10_restore 46 = .ok (.iaload, 1) := by decide +kernel
theorem dX10_restore_47 : decode cX10_restore 47 = .ok (.putfield 82, 3) := by decide +kernel
theorem dX10_restore_50 : decode cX10_restore 50 = .ok (.aload_n 0, 1) := by decide +kernel
theorem dX10_restore_51 : decode cX10_restore 51 = .ok (.getfield 13, 3) := by decide +kernel
theorem dX10_restore_54 : decode cX10_restore 54 = .ok (.iconst 2, 1) := by decide +kernel
theorem dX10_restore_55 : decode cX10_restore 55 = .ok (.aload_n 0, 1) := by decide +kernel
theorem dX10_restore_56 : decode cX10_restore 56 = .ok (.getfield 41, 3) := by decide +kernel
theorem dX10_restore_59 : decode cX10_restore 59 = .ok (.iload_n 2, 1) := by decide +kernel
theorem dX10_restore_60 : decode cX10_restore 60 = .ok (.iconst 2, 1) := by decide +kernel
theorem dX10_restore_61 : decode cX10_restore 61 = .ok (.iadd, 1) := by decide +kernel
theorem dX10_restore_62 : decode cX10_restore 62 = .ok (.iaload, 1) := by decide +kernel
theorem dX10_restore_63 : decode cX10_restore 63 = .ok (.iastore, 1) := by decide +kernel
theorem dX10_restore_64 : decode cX10_restore 64 = .ok (.aload_n 0, 1) := by decide +kernel
theorem dX10_restore_65 : decode cX10_restore 65 = .ok (.aload_n 0, 1) := by decide +kernel
theorem dX10_restore_66 : decode cX10_restore 66 = .ok (.getfield 41, 3) := by decide +kernel
theorem dX10_restore_69 : decode cX10_restore 69 = .ok (.iload_n 2, 1) := by decide +kernel
theorem dX10_restore_70 : decode cX10_restore 70 = .ok (.iconst 3, 1) := by decide +kernel
theorem dX10_restore_71 : decode cX10_restore 71 = .ok (.iadd, 1) := by decide +kernel
theorem dX10_restore_72 : decode cX10_restore 72 = .ok (.iaload, 1) := by decide +kernel
theorem dX10_restore_73 : decode cX10_restore 73 = .ok (.putfield 103, 3) := by decide +kernel
theorem dX10_restore_76 : decode cX10_restore 76 = .ok (.aload_n 0, 1) := by decide +kernel
theorem dX10_restore_77 : decode cX10_restore 77 = .ok (.aload_n 0, 1) := by decide +kernel
theorem dX10_restore_78 : decode cX10_restore 78 = .ok (.getfield 41, 3) := by decide +kernel
theorem dX10_restore_81 : decode cX10_restore 81 = .ok (.iload_n 2, 1) := by decide +kernel
theorem dX10_restore_82 : decode cX10_restore 82 = .ok (.iconst 4, 1) := by decide +kernel
theorem dX10_restore_83 : decode cX10_restore 83 = .ok (.iadd, 1) := by decide +kernel
theorem dX10_restore_84 : decode cX10_restore 84 = .ok (.iaload, 1) := by decide +kernel
theorem dX10_restore_85 : decode cX10_restore 85 = .ok (.putfield 106, 3) := by decide +kernel
theorem dX10_restore_88 : decode cX10_restore 88 = .ok (.aload_n 0, 1) := by decide +kernel
theorem dX10_restore_89 : decode cX10_restore 89 = .ok (.aload_n 0, 1) := by decide +kernel
theorem dX10_restore_90 : decode cX10_restore 90 = .ok (.getfield 41, 3) := by decide +kernel
theorem dX10_restore_93 : decode cX10_restore 93 = .ok (.iload_n 2, 1) := by decide +kernel
theorem dX10_restore_94 : decode cX10_restore 94 = .ok (.iconst 5, 1) := by decide +kernel
theorem dX10_restore_95 : decode cX10_restore 95 = .ok (.iadd, 1) := by decide +kernel
theorem dX10_restore_96 : decode cX10_restore 96 = .ok (.iaload, 1) := by decide +kernel
theorem dX10_restore_97 : decode cX10_restore 97 = .ok (.putfield 20, 3) := by decide +kernel
theorem dX10_restore_100 : decode cX10_restore 100 = .ok (.aload_n 0, 1) := by decide +kernel
theorem dX10_restore_101 : decode cX10_restore 101 = .ok (.aload_n 0, 1) := by decide +kernel
theorem dX10_restore_102 : decode cX10_restore 102 = .ok (.getfield 41, 3) := by decide +kernel
theorem dX10_restore_105 : decode cX10_restore 105 = .ok (.iload_n 2, 1) := by decide +kernel
theorem dX10_restore_106 : decode cX10_restore 106 = .ok (.bipush 6, 2) := by decide +kernel
theorem dX10_restore_108 : decode cX10_restore 108 = .ok (.iadd, 1) := by decide +kernel
theorem dX10_restore_109 : decode cX10_restore 109 = .ok (.iaload, 1) := by decide +kernel
theorem dX10_restore_110 : decode cX10_restore 110 = .ok (.putfield 23, 3) := by decide +kernel
theorem dX10_restore_113 : decode cX10_restore 113 = .ok (.aload_n 0, 1) := by decide +kernel
theorem dX10_restore_114 : decode cX10_restore 114 = .ok (.aload_n 0, 1) := by decide +kernel
theorem dX10_restore_115 : decode cX10_restore 115 = .ok (.getfield 41, 3) := by decide +kernel
theorem dX10_restore_118 : decode cX10_restore 118 = .ok (.iload_n 2, 1) := by decide +kernel
theorem dX10_restore_119 : decode cX10_restore 119 = .ok (.bipush 7, 2) := by decide +kernel
theorem dX10_restore_121 : decode cX10_restore 121 = .ok (.iadd, 1) := by decide +kernel
theorem dX10_restore_122 : decode cX10_restore 122 = .ok (.iaload, 1) := by decide +kernel
theorem dX10_restore_123 : decode cX10_restore 123 = .ok (.putfield 112, 3) := by decide +kernel
theorem dX10_restore_126 : decode cX10_restore 126 = .ok (.aload_n 0, 1) := by decide +kernel
theorem dX10_restore_127 : decode cX10_restore 127 = .ok (.aload_n 0, 1) := by decide +kernel
theorem dX10_restore_128 : decode cX10_restore 128 = .ok (.getfield 41, 3) := by decide +kernel
theorem dX10_restore_131 : decode cX10_restore 131 = .ok (.iload_n 2, 1) := by decide +kernel
theorem dX10_restore_132 : decode cX10_restore 132 = .ok (.bipush 8, 2) := by decide +kernel
theorem dX10_restore_134 : decode cX10_restore 134 = .ok (.iadd, 1) := by decide +kernel
theorem dX10_restore_135 : decode cX10_restore 135 = .ok (.iaload, 1) := by decide +kernel
theorem dX10_restore_136 : decode cX10_restore 136 = .ok (.putfield 29, 3) := by decide +kernel
theorem dX10_restore_139 : decode cX10_restore 139 = .ok (.iconst 0, 1) := by decide +kernel
theorem dX10_restore_140 : decode cX10_restore 140 = .ok (.istore_n 3, 1) := by decide +kernel
theorem dX10_restore_141 : decode cX10_restore 141 = .ok (.iload_n 3, 1) := by decide +kernel
theorem dX10_restore_142 : decode cX10_restore 142 = .ok (.bipush 40, 2) := by decide +kernel
theorem dX10_restore_144 : decode cX10_restore 144 = .ok (.if_icmp .ge 26, 3) := by decide +kernel
theorem dX10_restore_147 : decode cX10_restore 147 = .ok (.aload_n 0, 1) := by decide +kernel
theorem dX10_restore_148 : decode cX10_restore 148 = .ok (.getfield 26, 3) := by decide +kernel
theorem dX10_restore_151 : decode cX10_restore 151 = .ok (.iload_n 3, 1) := by decide +kernel
theorem dX10_restore_152 : decode cX10_restore 152 = .ok (.aload_n 0, 1) := by decide +kernel
theorem dX10_restore_153 : decode cX10_restore 153 = .ok (.getfield 41, 3) := by decide +kernel
theorem dX10_restore_156 : decode cX10_restore 156 = .ok (.iload_n 2, 1) := by decide +kernel
theorem dX10_restore_157 : decode cX10_restore 157 = .ok (.bipush 10, 2) := by decide +kernel
theorem dX10_restore_159 : decode cX10_restore 159 = .ok (.iadd, 1) := by decide +kernel
theorem dX10_restore_160 : decode cX10_restore 160 = .ok (.iload_n 3, 1) := by decide +kernel
theorem dX10_restore_161 : decode cX10_restore 161 = .ok (.iadd, 1) := by decide +kernel
theorem dX10_restore_162 : decode cX10_restore 162 = .ok (.iaload, 1) := by decide +kernel
theorem dX10_restore_163 : decode cX10_restore 163 = .ok (.iastore, 1) := by decide +kernel
theorem dX10_restore_164 : decode cX10_restore 164 = .ok (.iinc 3 1, 3) := by decide +kernel
theorem dX10_restore_167 : decode cX10_restore 167 = .ok (.goto (-26), 3) := by decide +kernel
theorem dX10_restore_170 : decode cX10_restore 170 = .ok (.iconst 0, 1) := by decide +kernel
theorem dX10_restore_171 : decode cX10_restore 171 = .ok (.istore_n 3, 1) := by decide +kernel
theorem dX10_restore_172 : decode cX10_restore 172 = .ok (.iload_n 3, 1) := by decide +kernel
theorem dX10_restore_173 : decode cX10_restore 173 = .ok (.bipush 64, 2) := by decide +kernel
theorem dX10_restore_175 : decode cX10_restore 175 = .ok (.if_icmp .ge 30, 3) := by decide +kernel
theorem dX10_restore_178 : decode cX10_restore 178 = .ok (.aload_n 0, 1) := by decide +kernel
theorem dX10_restore_179 : decode cX10_restore 179 = .ok (.getfield 17, 3) := by decide +kernel
theorem dX10_restore_182 : decode cX10_restore 182 = .ok (.sipush 128, 3) := by decide +kernel
theorem dX10_restore_185 : decode cX10_restore 185 = .ok (.iload_n 3, 1) := by decide +kernel
theorem dX10_restore_186 : decode cX10_restore 186 = .ok (.iadd, 1) := by decide +kernel
theorem dX10_restore_187 : decode cX10_restore 187 = .ok (.aload_n 0, 1) := by decide +kernel
theorem dX10_restore_188 : decode cX10_restore 188 = .ok (.getfield 44, 3) := by decide +kernel
theorem dX10_restore_191 : decode cX10_restore 191 = .ok (.bipush 64, 2) := by decide +kernel
theorem dX10_restore_193 : decode cX10_restore 193 = .ok (.iload_n 1, 1) := by decide +kernel
theorem dX10_restore_194 : decode cX10_restore 194 = .ok (.imul, 1) := by decide +kernel
theorem dX10_restore_195 : decode cX10_restore 195 = .ok (.iload_n 3, 1) := by decide +kernel
theorem dX10_restore_196 : decode cX10_restore 196 = .ok (.iadd, 1) := by decide +kernel
theorem dX10_restore_197 : decode cX10_restore 197 = .ok (.iaload, 1) := by decide +kernel
theorem dX10_restore_198 : decode cX10_restore 198 = .ok (.iastore, 1) := by decide +kernel
theorem dX10_restore_199 : decode cX10_restore 199 = .ok (.iinc 3 1, 3) := by decide +kernel
theorem dX10_restore_202 : decode cX10_restore 202 = .ok (.goto (-30), 3) := by decide +kernel
theorem dX10_restore_205 : decode cX10_restore 205 = .ok (.aload_n 0, 1) := by decide +kernel
theorem dX10_restore_206 : decode cX10_restore 206 = .ok (.invokevirtual 79, 3) := by decide +kernel
theorem dX10_restore_209 : decode cX10_restore 209 = .ok (.aload_n 0, 1) := by decide +kernel
theorem dX10_restore_210 : decode cX10_restore 210 = .ok (.aload_n 0, 1) := by decide +kernel
theorem dX10_restore_211 : decode cX10_restore 211 = .ok (.getfield 41, 3) := by decide +kernel
theorem dX10_restore_214 : decode cX10_restore 214 = .ok (.iload_n 2, 1) := by decide +kernel
theorem dX10_restore_215 : decode cX10_restore 215 = .ok (.bipush 9, 2) := by decide +kernel
theorem dX10_restore_217 : decode cX10_restore 217 = .ok (.iadd, 1) := by decide +kernel
theorem dX10_restore_218 : decode cX10_restore 218 = .ok (.iaload, 1) := by decide +kernel
theorem dX10_restore_219 : decode cX10_restore 219 = .ok (.putfield 161, 3) := by decide +kernel
theorem dX10_restore_222 : decode cX10_restore 222 = .ok (.iconst 0, 1) := by decide +kernel
theorem dX10_restore_223 : decode cX10_restore 223 = .ok (.istore_n 3, 1) := by decide +kernel
theorem dX10_restore_224 : decode cX10_restore 224 = .ok (.iload_n 3, 1) := by decide +kernel
theorem dX10_restore_225 : decode cX10_restore 225 = .ok (.sipush 4096, 3) := by decide +kernel
theorem dX10_restore_228 : decode cX10_restore 228 = .ok (.if_icmp .ge 45, 3) := by decide +kernel
theorem dX10_restore_231 : decode cX10_restore 231 = .ok (.aload_n 0, 1) := by decide +kernel
theorem dX10_restore_232 : decode cX10_restore 232 = .ok (.getfield 32, 3) := by decide +kernel
theorem dX10_restore_235 : decode cX10_restore 235 = .ok (.iload_n 3, 1) := by decide +kernel
theorem dX10_restore_236 : decode cX10_restore 236 = .ok (.aload_n 0, 1) := by decide +kernel
theorem dX10_restore_237 : decode cX10_restore 237 = .ok (.getfield 47, 3) := by decide +kernel
theorem dX10_restore_240 : decode cX10_restore 240 = .ok (.sipush 4096, 3) := by decide +kernel
theorem dX10_restore_243 : decode cX10_restore 243 = .ok (.iload_n 1, 1) := by decide +kernel
theorem dX10_restore_244 : decode cX10_restore 244 = .ok (.imul, 1) := by decide +kernel
theorem dX10_restore_245 : decode cX10_restore 245 = .ok (.iload_n 3, 1) := by decide +kernel
theorem dX10_restore_246 : decode cX10_restore 246 = .ok (.iadd, 1) := by decide +kernel
theorem dX10_restore_247 : decode cX10_restore 247 = .ok (.iaload, 1) := by decide +kernel
theorem dX10_restore_248 : decode cX10_restore 248 = .ok (.iastore, 1) := by decide +kernel
theorem dX10_restore_249 : decode cX10_restore 249 = .ok (.aload_n 0, 1) := by decide +kernel
theorem dX10_restore_250 : decode cX10_restore 250 = .ok (.getfield 35, 3) := by decide +kernel
theorem dX10_restore_253 : decode cX10_restore 253 = .ok (.iload_n 3, 1) := by decide +kernel
theorem dX10_restore_254 : decode cX10_restore 254 = .ok (.aload_n 0, 1) := by decide +kernel
theorem dX10_restore_255 : decode cX10_restore 255 = .ok (.getfield 50, 3) := by decide +kernel
theorem dX10_restore_258 : decode cX10_restore 258 = .ok (.sipush 4096, 3) := by decide +kernel
theorem dX10_restore_261 : decode cX10_restore 261 = .ok (.iload_n 1, 1) := by decide +kernel
theorem dX10_restore_262 : decode cX10_restore 262 = .ok (.imul, 1) := by decide +kernel
theorem dX10_restore_263 : decode cX10_restore 263 = .ok (.iload_n 3, 1) := by decide +kernel
theorem dX10_restore_264 : decode cX10_restore 264 = .ok (.iadd, 1) := by decide +kernel
theorem dX10_restore_265 : decode cX10_restore 265 = .ok (.iaload, 1) := by decide +kernel
theorem dX10_restore_266 : decode cX10_restore 266 = .ok (.iastore, 1) := by decide +kernel
theorem dX10_restore_267 : decode cX10_restore 267 = .ok (.iinc 3 1, 3) := by decide +kernel
theorem dX10_restore_270 : decode cX10_restore 270 = .ok (.goto (-46), 3) := by decide +kernel
theorem dX10_restore_273 : decode cX10_restore 273 = .ok (.aload_n 0, 1) := by decide +kernel
theorem dX10_restore_274 : decode cX10_restore 274 = .ok (.invokevirtual 167, 3) := by decide +kernel
theorem dX10_restore_277 : decode cX10_restore 277 = .ok (.aload_n 0, 1) := by decide +kernel
theorem dX10_restore_278 : decode cX10_restore 278 = .ok (.getfield 161, 3) := by decide +kernel
theorem dX10_restore_281 : decode cX10_restore 281 = .ok (.ireturn, 1) := by decide +kernel
theorem dX10_more_0 : decode cX10_more 0 = .ok (.ldc2_w 199, 3) := by decide +kernel
theorem dX10_more_3 : decode cX10_more 3 = .ok (.lload_n 0, 1) := by decide +kernel
theorem dX10_more_4 : decode cX10_more 4 = .ok (.lmul, 1) := by decide +kernel
theorem dX10_more_5 : decode cX10_more 5 = .ok (.iload_n 2, 1) := by decide +kernel
theorem dX10_more_6 : decode cX10_more 6 = .ok (.i2l, 1) := by decide +kernel
theorem dX10_more_7 : decode cX10_more 7 = .ok (.ladd, 1) := by decide +kernel
theorem dX10_more_8 : decode cX10_more 8 = .ok (.lreturn, 1) := by decide +kernel
set_option maxRecDepth 20000 in
theorem ggX10_checksum_X10_more : GoodIn wsX10_checksum wsX10_more := goodIn_r _ [14, 15] (by decide +kernel) (by decide +kernel)
set_option maxRecDepth 20000 in
theorem gX10_checksum_X10_more : GoodIn wsX10_checksum (va_wsS RX10 203 yX10_more wsX10_more) := goodIn_app (goodIn_of _ (by decide +kernel)) ggX10_checksum_X10_more
set_option maxRecDepth 20000 in
theorem ggX10_checksum_X10_quarter : GoodIn wsX10_checksum wsX10_quarter := goodIn_r _ [19, 20, 4, 83, 84, 85, 86, 87, 88, 89, 90, 91, 92, 93, 94, 95, 96, 97, 98, 99, 100, 101, 102, 103, 104, 105, 106, 107, 108, 109, 110, 111] (by decide +kernel) (by decide +kernel)
set_option maxRecDepth 20000 in
theorem gX10_checksum_X10_quarter : GoodIn wsX10_checksum (wsV RX10 89 RX10 yX10_quarter wsX10_quarter) := goodIn_app (goodIn_of _ (by decide +kernel)) ggX10_checksum_X10_quarter
set_option maxRecDepth 20000 in
theorem ggX10_checksum_X10_stateFor : GoodIn wsX10_checksum wsX10_stateFor := goodIn_r _ [24, 20, 4, 83, 84, 85, 86, 87, 88, 89, 90, 91, 92, 93, 94, 95, 96, 97, 98, 99, 100, 101, 102, 103, 104, 105, 106, 107, 108, 109, 110, 111] (by decide +kernel) (by decide +kernel)
set_option maxRecDepth 20000 in
theorem gX10_checksum_X10_stateFor : GoodIn wsX10_checksum (wsV RX10 93 RX10 yX10_stateFor wsX10_stateFor) := goodIn_app (goodIn_of _ (by decide +kernel)) ggX10_checksum_X10_stateFor
set_option maxRecDepth 20000 in
theorem ggX10_checksum_X10_breaksNow : GoodIn wsX10_checksum wsX10_breaksNow := goodIn_r _ [28, 29, 30, 31, 32, 13, 33, 2, 34, 35, 36, 37, 38, 39, 83, 84, 85, 86, 87, 88, 89, 90, 91, 92, 93, 94, 95, 96, 97, 98, 99, 100, 101, 102, 103, 104, 105, 106, 107, 108, 109, 110, 111] (by decide +kernel) (by decide +kernel)
set_option maxRecDepth 20000 in
theorem gX10_checksum_X10_breaksNow : GoodIn wsX10_checksum (wsV RX10 126 RX10 yX10_breaksNow wsX10_breaksNow) := goodIn_app (goodIn_of _ (by decide +kernel)) ggX10_checksum_X10_breaksNow
set_option maxRecDepth 20000 in
theorem ggX10_checksum_X10_stretchNow : GoodIn wsX10_checksum wsX10_stretchNow := goodIn_r _ [43, 29, 44, 30, 31, 32, 13, 33, 2, 45, 46, 47, 48, 37, 38, 39, 83, 84, 85, 86, 87, 88, 89, 90, 91, 92, 93, 94, 95, 96, 97, 98, 99, 100, 101, 102, 103, 104, 105, 106, 107, 108, 109, 110, 111] (by decide +kernel) (by decide +kernel)
set_option maxRecDepth 20000 in
theorem gX10_checksum_X10_stretchNow : GoodIn wsX10_checksum (wsV RX10 129 RX10 yX10_stretchNow wsX10_stretchNow) := goodIn_app (goodIn_of _ (by decide +kernel)) ggX10_checksum_X10_stretchNow
set_option maxRecDepth 20000 in
theorem ggX10_checksum_X10_findIntervals : GoodIn wsX10_checksum wsX10_findIntervals := goodIn_r _ [52, 5, 6, 7, 30, 31, 32, 13, 33, 2, 53, 54, 55, 56, 29, 57, 58, 59, 60, 61, 62, 63, 83, 84, 85, 86, 87, 88, 89, 90, 91, 92, 93, 94, 95, 96, 97, 98, 99, 100, 101, 102, 103, 104, 105, 106, 107, 108, 109, 110, 111] (by decide +kernel) (by decide +kernel)
set_option maxRecDepth 20000 in
theorem gX10_checksum_X10_findIntervals : GoodIn wsX10_checksum (wsV RX10 148 RX10 yX10_findIntervals wsX10_findIntervals) := goodIn_app (goodIn_of _ (by decide +kernel)) ggX10_checksum_X10_findIntervals
set_option maxRecDepth 20000 in
theorem ggX10_checksum_X10_tells : GoodIn wsX10_checksum wsX10_tells := goodIn_r _ [67, 68, 69, 70, 71, 72, 13, 73, 29, 74, 75, 76, 77, 78, 79, 80, 81, 8, 44, 82, 83, 84, 85, 86, 87, 88, 89, 90, 91, 92, 93, 94, 95, 96, 97, 98, 99, 100, 101, 102, 103, 104, 105, 106, 107, 108, 109, 110, 111] (by decide +kernel) (by decide +kernel)
set_option maxRecDepth 20000 in
theorem gX10_checksum_X10_tells : GoodIn wsX10_checksum (wsV RX10 179 RX10 yX10_tells wsX10_tells) := goodIn_app (goodIn_of _ (by decide +kernel)) ggX10_checksum_X10_tells
theorem dX10_checksum_0 : decode cX10_checksum 0 = .ok (.ldc2_w 201, 3) := by decide +kernel
theorem dX10_checksum_3 : decode cX10_checksum 3 = .ok (.aload_n 0, 1) := by decide +kernel
theorem dX10_checksum_4 : decode cX10_checksum 4 = .ok (.getfield 7, 3) := by decide +kernel
theorem dX10_checksum_7 : decode cX10_checksum 7 = .ok (.invokestatic 203, 3) := by decide +kernel
theorem dX10_checksum_10 : decode cX10_checksum 10 = .ok (.aload_n 0, 1) := by decide +kernel
theorem dX10_checksum_11 : decode cX10_checksum 11 = .ok (.getfield 13, 3) := by decide +kernel
theorem dX10_checksum_14 : decode cX10_checksum 14 = .ok (.aload_n 0, 1) := by decide +kernel
theorem dX10_checksum_15 : decode cX10_checksum 15 = .ok (.getfield 82, 3) := by decide +kernel
theorem dX10_checksum_18 : decode cX10_checksum 18 = .ok (.iaload, 1) := by decide +kernel
theorem dX10_checksum_19 : decode cX10_checksum 19 = .ok (.invokestatic 203, 3) := by decide +kernel
theorem dX10_checksum_22 : decode cX10_checksum 22 = .ok (.lstore_n 1, 1) := by decide +kernel
theorem dX10_checksum_23 : decode cX10_checksum 23 = .ok (.iconst 0, 1) := by decide +kernel
theorem dX10_checksum_24 : decode cX10_checksum 24 = .ok (.istore_n 3, 1) := by decide +kernel
theorem dX10_checksum_25 : decode cX10_checksum 25 = .ok (.iload_n 3, 1) := by decide +kernel
theorem dX10_checksum_26 : decode cX10_checksum 26 = .ok (.iconst 4, 1) := by decide +kernel
theorem dX10_checksum_27 : decode cX10_checksum 27 = .ok (.aload_n 0, 1) := by decide +kernel
theorem dX10_checksum_28 : decode cX10_checksum 28 = .ok (.getfield 13, 3) := by decide +kernel
theorem dX10_checksum_31 : decode cX10_checksum 31 = .ok (.aload_n 0, 1) := by decide +kernel
theorem dX10_checksum_32 : decode cX10_checksum 32 = .ok (.getfield 82, 3) := by decide +kernel
theorem dX10_checksum_35 : decode cX10_checksum 35 = .ok (.iaload, 1) := by decide +kernel
theorem dX10_checksum_36 : decode cX10_checksum 36 = .ok (.imul, 1) := by decide +kernel
theorem dX10_checksum_37 : decode cX10_checksum 37 = .ok (.if_icmp .ge 38, 3) := by decide +kernel
theorem dX10_checksum_40 : decode cX10_checksum 40 = .ok (.lload_n 1, 1) := by decide +kernel
theorem dX10_checksum_41 : decode cX10_checksum 41 = .ok (.bipush 10, 2) := by decide +kernel
theorem dX10_checksum_43 : decode cX10_checksum 43 = .ok (.aload_n 0, 1) := by decide +kernel
theorem dX10_checksum_44 : decode cX10_checksum 44 = .ok (.iload_n 3, 1) := by decide +kernel
theorem dX10_checksum_45 : decode cX10_checksum 45 = .ok (.iconst 4, 1) := by decide +kernel
theorem dX10_checksum_46 : decode cX10_checksum 46 = .ok (.idiv, 1) := by decide +kernel
theorem dX10_checksum_47 : decode cX10_checksum 47 = .ok (.iload_n 3, 1) := by decide +kernel
theorem dX10_checksum_48 : decode cX10_checksum 48 = .ok (.iconst 4, 1) := by decide +kernel
theorem dX10_checksum_49 : decode cX10_checksum 49 = .ok (.irem, 1) := by decide +kernel
theorem dX10_checksum_50 : decode cX10_checksum 50 = .ok (.invokevirtual 89, 3) := by decide +kernel
theorem dX10_checksum_53 : decode cX10_checksum 53 = .ok (.imul, 1) := by decide +kernel
theorem dX10_checksum_54 : decode cX10_checksum 54 = .ok (.aload_n 0, 1) := by decide +kernel
theorem dX10_checksum_55 : decode cX10_checksum 55 = .ok (.iload_n 3, 1) := by decide +kernel
theorem dX10_checksum_56 : decode cX10_checksum 56 = .ok (.iconst 4, 1) := by decide +kernel
theorem dX10_checksum_57 : decode cX10_checksum 57 = .ok (.idiv, 1) := by decide +kernel
theorem dX10_checksum_58 : decode cX10_checksum 58 = .ok (.iload_n 3, 1) := by decide +kernel
theorem dX10_checksum_59 : decode cX10_checksum 59 = .ok (.iconst 4, 1) := by decide +kernel
theorem dX10_checksum_60 : decode cX10_checksum 60 = .ok (.irem, 1) := by decide +kernel
theorem dX10_checksum_61 : decode cX10_checksum 61 = .ok (.invokevirtual 93, 3) := by decide +kernel
theorem dX10_checksum_64 : decode cX10_checksum 64 = .ok (.iadd, 1) := by decide +kernel
theorem dX10_checksum_65 : decode cX10_checksum 65 = .ok (.invokestatic 203, 3) := by decide +kernel
theorem dX10_checksum_68 : decode cX10_checksum 68 = .ok (.lstore_n 1, 1) := by decide +kernel
theorem dX10_checksum_69 : decode cX10_checksum 69 = .ok (.iinc 3 1, 3) := by decide +kernel
theorem dX10_checksum_72 : decode cX10_checksum 72 = .ok (.goto (-47), 3) := by decide +kernel
theorem dX10_checksum_75 : decode cX10_checksum 75 = .ok (.lload_n 1, 1) := by decide +kernel
theorem dX10_checksum_76 : decode cX10_checksum 76 = .ok (.aload_n 0, 1) := by decide +kernel
theorem dX10_checksum_77 : decode cX10_checksum 77 = .ok (.invokevirtual 126, 3) := by decide +kernel
theorem dX10_checksum_80 : decode cX10_checksum 80 = .ok (.invokestatic 203, 3) := by decide +kernel
theorem dX10_checksum_83 : decode cX10_checksum 83 = .ok (.aload_n 0, 1) := by decide +kernel
theorem dX10_checksum_84 : decode cX10_checksum 84 = .ok (.invokevirtual 129, 3) := by decide +kernel
theorem dX10_checksum_87 : decode cX10_checksum 87 = .ok (.invokestatic 203, 3) := by decide +kernel
theorem dX10_checksum_90 : decode cX10_checksum 90 = .ok (.lstore_n 1, 1) := by decide +kernel
theorem dX10_checksum_91 : decode cX10_checksum 91 = .ok (.aload_n 0, 1) := by decide +kernel
theorem dX10_checksum_92 : decode cX10_checksum 92 = .ok (.invokevirtual 148, 3) := by decide +kernel
theorem dX10_checksum_95 : decode cX10_checksum 95 = .ok (.lload_n 1, 1) := by decide +kernel
theorem dX10_checksum_96 : decode cX10_checksum 96 = .ok (.aload_n 0, 1) := by decide +kernel
theorem dX10_checksum_97 : decode cX10_checksum 97 = .ok (.getfield 142, 3) := by decide +kernel
theorem dX10_checksum_100 : decode cX10_checksum 100 = .ok (.invokestatic 203, 3) := by decide +kernel
theorem dX10_checksum_103 : decode cX10_checksum 103 = .ok (.lstore_n 1, 1) := by decide +kernel
theorem dX10_checksum_104 : decode cX10_checksum 104 = .ok (.iconst 0, 1) := by decide +kernel
theorem dX10_checksum_105 : decode cX10_checksum 105 = .ok (.istore_n 3, 1) := by decide +kernel
theorem dX10_checksum_106 : decode cX10_checksum 106 = .ok (.iload_n 3, 1) := by decide +kernel
theorem dX10_checksum_107 : decode cX10_checksum 107 = .ok (.aload_n 0, 1) := by decide +kernel
theorem dX10_checksum_108 : decode cX10_checksum 108 = .ok (.getfield 142, 3) := by decide +kernel
theorem dX10_checksum_111 : decode cX10_checksum 111 = .ok (.if_icmp .ge 29, 3) := by decide +kernel
theorem dX10_checksum_114 : decode cX10_checksum 114 = .ok (.lload_n 1, 1) := by decide +kernel
theorem dX10_checksum_115 : decode cX10_checksum 115 = .ok (.aload_n 0, 1) := by decide +kernel
theorem dX10_checksum_116 : decode cX10_checksum 116 = .ok (.getfield 63, 3) := by decide +kernel
theorem dX10_checksum_119 : decode cX10_checksum 119 = .ok (.iload_n 3, 1) := by decide +kernel
theorem dX10_checksum_120 : decode cX10_checksum 120 = .ok (.iaload, 1) := by decide +kernel
theorem dX10_checksum_121 : decode cX10_checksum 121 = .ok (.invokestatic 203, 3) := by decide +kernel
theorem dX10_checksum_124 : decode cX10_checksum 124 = .ok (.aload_n 0, 1) := by decide +kernel
theorem dX10_checksum_125 : decode cX10_checksum 125 = .ok (.getfield 66, 3) := by decide +kernel
theorem dX10_checksum_128 : decode cX10_checksum 128 = .ok (.iload_n 3, 1) := by decide +kernel
theorem dX10_checksum_129 : decode cX10_checksum 129 = .ok (.iaload, 1) := by decide +kernel
theorem dX10_checksum_130 : decode cX10_checksum 130 = .ok (.invokestatic 203, 3) := by decide +kernel
theorem dX10_checksum_133 : decode cX10_checksum 133 = .ok (.lstore_n 1, 1) := by decide +kernel
theorem dX10_checksum_134 : decode cX10_checksum 134 = .ok (.iinc 3 1, 3) := by decide +kernel
theorem dX10_checksum_137 : decode cX10_checksum 137 = .ok (.goto (-31), 3) := by decide +kernel
theorem dX10_checksum_140 : decode cX10_checksum 140 = .ok (.lload_n 1, 1) := by decide +kernel
theorem dX10_checksum_141 : decode cX10_checksum 141 = .ok (.aload_n 0, 1) := by decide +kernel
theorem dX10_checksum_142 : decode cX10_checksum 142 = .ok (.getfield 112, 3) := by decide +kernel
theorem dX10_checksum_145 : decode cX10_checksum 145 = .ok (.invokestatic 203, 3) := by decide +kernel
theorem dX10_checksum_148 : decode cX10_checksum 148 = .ok (.aload_n 0, 1) := by decide +kernel
theorem dX10_checksum_149 : decode cX10_checksum 149 = .ok (.getfield 29, 3) := by decide +kernel
theorem dX10_checksum_152 : decode cX10_checksum 152 = .ok (.invokestatic 203, 3) := by decide +kernel
theorem dX10_checksum_155 : decode cX10_checksum 155 = .ok (.aload_n 0, 1) := by decide +kernel
theorem dX10_checksum_156 : decode cX10_checksum 156 = .ok (.getfield 161, 3) := by decide +kernel
theorem dX10_checksum_159 : decode cX10_checksum 159 = .ok (.invokestatic 203, 3) := by decide +kernel
theorem dX10_checksum_162 : decode cX10_checksum 162 = .ok (.lstore_n 1, 1) := by decide +kernel
theorem dX10_checksum_163 : decode cX10_checksum 163 = .ok (.iconst 0, 1) := by decide +kernel
theorem dX10_checksum_164 : decode cX10_checksum 164 = .ok (.istore_n 3, 1) := by decide +kernel
theorem dX10_checksum_165 : decode cX10_checksum 165 = .ok (.iload_n 3, 1) := by decide +kernel
theorem dX10_checksum_166 : decode cX10_checksum 166 = .ok (.aload_n 0, 1) := by decide +kernel
theorem dX10_checksum_167 : decode cX10_checksum 167 = .ok (.getfield 161, 3) := by decide +kernel
theorem dX10_checksum_170 : decode cX10_checksum 170 = .ok (.if_icmp .ge 36, 3) := by decide +kernel
theorem dX10_checksum_173 : decode cX10_checksum 173 = .ok (.iconst 0, 1) := by decide +kernel
theorem dX10_checksum_174 : decode cX10_checksum 174 = .ok (.istore 4, 2) := by decide +kernel
theorem dX10_checksum_176 : decode cX10_checksum 176 = .ok (.iload 4, 2) := by decide +kernel
theorem dX10_checksum_178 : decode cX10_checksum 178 = .ok (.iconst 5, 1) := by decide +kernel
theorem dX10_checksum_179 : decode cX10_checksum 179 = .ok (.if_icmp .ge 21, 3) := by decide +kernel
theorem dX10_checksum_182 : decode cX10_checksum 182 = .ok (.lload_n 1, 1) := by decide +kernel
theorem dX10_checksum_183 : decode cX10_checksum 183 = .ok (.aload_n 0, 1) := by decide +kernel
theorem dX10_checksum_184 : decode cX10_checksum 184 = .ok (.iload_n 3, 1) := by decide +kernel
theorem dX10_checksum_185 : decode cX10_checksum 185 = .ok (.iload 4, 2) := by decide +kernel
theorem dX10_checksum_187 : decode cX10_checksum 187 = .ok (.invokevirtual 179, 3) := by decide +kernel
theorem dX10_checksum_190 : decode cX10_checksum 190 = .ok (.invokestatic 203, 3) := by decide +kernel
theorem dX10_checksum_193 : decode cX10_checksum 193 = .ok (.lstore_n 1, 1) := by decide +kernel
theorem dX10_checksum_194 : decode cX10_checksum 194 = .ok (.iinc 4 1, 3) := by decide +kernel
theorem dX10_checksum_197 : decode cX10_checksum 197 = .ok (.goto (-21), 3) := by decide +kernel
theorem dX10_checksum_200 : decode cX10_checksum 200 = .ok (.iinc 3 1, 3) := by decide +kernel
theorem dX10_checksum_203 : decode cX10_checksum 203 = .ok (.goto (-38), 3) := by decide +kernel
theorem dX10_checksum_206 : decode cX10_checksum 206 = .ok (.lload_n 1, 1) := by decide +kernel
theorem dX10_checksum_207 : decode cX10_checksum 207 = .ok (.lreturn, 1) := by decide +kernel
theorem dJ9_abs_0f7a4_0 : decode cJ9_abs_0f7a4 0 = .ok (.iload_n 0, 1) := by decide +kernel
theorem dJ9_abs_0f7a4_1 : decode cJ9_abs_0f7a4 1 = .ok (.ifCond .ge 8, 3) := by decide +kernel
theorem dJ9_abs_0f7a4_4 : decode cJ9_abs_0f7a4 4 = .ok (.iload_n 0, 1) := by decide +kernel
theorem dJ9_abs_0f7a4_5 : decode cJ9_abs_0f7a4 5 = .ok (.ineg, 1) := by decide +kernel
theorem dJ9_abs_0f7a4_6 : decode cJ9_abs_0f7a4 6 = .ok (.goto 4, 3) := by decide +kernel
theorem dJ9_abs_0f7a4_9 : decode cJ9_abs_0f7a4 9 = .ok (.iload_n 0, 1) := by decide +kernel
theorem dJ9_abs_0f7a4_10 : decode cJ9_abs_0f7a4 10 = .ok (.ireturn, 1) := by decide +kernel
theorem dJ9_max_7cf53_0 : decode cJ9_max_7cf53 0 = .ok (.iload_n 0, 1) := by decide +kernel
theorem dJ9_max_7cf53_1 : decode cJ9_max_7cf53 1 = .ok (.iload_n 1, 1) := by decide +kernel
theorem dJ9_max_7cf53_2 : decode cJ9_max_7cf53 2 = .ok (.if_icmp .lt 7, 3) := by decide +kernel
theorem dJ9_max_7cf53_5 : decode cJ9_max_7cf53 5 = .ok (.iload_n 0, 1) := by decide +kernel
theorem dJ9_max_7cf53_6 : decode cJ9_max_7cf53 6 = .ok (.goto 4, 3) := by decide +kernel
theorem dJ9_max_7cf53_9 : decode cJ9_max_7cf53 9 = .ok (.iload_n 1, 1) := by decide +kernel
theorem dJ9_max_7cf53_10 : decode cJ9_max_7cf53 10 = .ok (.ireturn, 1) := by decide +kernel
theorem dJ9_min_7cf53_0 : decode cJ9_min_7cf53 0 = .ok (.iload_n 0, 1) := by decide +kernel
theorem dJ9_min_7cf53_1 : decode cJ9_min_7cf53 1 = .ok (.iload_n 1, 1) := by decide +kernel
theorem dJ9_min_7cf53_2 : decode cJ9_min_7cf53 2 = .ok (.if_icmp .gt 7, 3) := by decide +kernel
theorem dJ9_min_7cf53_5 : decode cJ9_min_7cf53 5 = .ok (.iload_n 0, 1) := by decide +kernel
theorem dJ9_min_7cf53_6 : decode cJ9_min_7cf53 6 = .ok (.goto 4, 3) := by decide +kernel
theorem dJ9_min_7cf53_9 : decode cJ9_min_7cf53 9 = .ok (.iload_n 1, 1) := by decide +kernel
theorem dJ9_min_7cf53_10 : decode cJ9_min_7cf53 10 = .ok (.ireturn, 1) := by decide +kernel
abbrev vwCl : List vw_C := [(RX0, TX0, 3), (RX1, TX1, 2), (RX2, TX2, 4), (RX3, TX3, 2), (RX4, TX4, 4), (RX5, TX5, 7), (RX6, TX6, 2), (RX7, TX7, 4), (RX8, TX8, 2), (RX9, TX9, 7), (RX10, TX10, 29)]
end
section
-- numbers: nI of naturals, zI of integers, arrays of naturals
def zI (z : Int) : Int32 := Int32.ofInt z
def nA (g : Nat → Nat) : Nat → Int32 := fun j => nI (g j)
def upN (g : Nat → Nat) (k x : Nat) : Nat → Nat := fun j => if j = k then x else g j
theorem nA_upd (g : Nat → Nat) (k x : Nat) : upd (nA g) k (nI x) = nA (upN g k x) := by
  funext j
  unfold upd nA upN
  by_cases h : j = k
  · rw [if_pos h, if_pos h]
  · rw [if_neg h, if_neg h]
theorem upN_s (g : Nat → Nat) (k x : Nat) : upN g k x k = x := if_pos rfl
theorem upN_n {g : Nat → Nat} {k x j : Nat} (h : j ≠ k) : upN g k x j = g j := if_neg h
theorem upN_lt {g : Nat → Nat} {k x B : Nat} (h : ∀ j, g j < B) (hx : x < B) : ∀ j, upN g k x j < B := by
  intro j
  unfold upN
  by_cases q : j = k
  · rw [if_pos q]; exact hx
  · rw [if_neg q]; exact h j
theorem nA_0 : (fun _ => (0 : Int32)) = nA (fun _ => 0) := rfl
theorem zI_nat (n : Nat) : zI (n : Int) = nI n := by
  unfold zI nI
  exact Int32.ofInt_eq_ofNat
theorem zI_add (a b : Int) : zI a + zI b = zI (a + b) := (Int32.ofInt_add a b).symm
theorem zI_sub (a b : Int) : zI a - zI b = zI (a - b) := (Int32.ofInt_sub a b).symm
theorem zI_mul (a b : Int) : zI a * zI b = zI (a * b) := (Int32.ofInt_mul a b).symm
theorem zI_neg (a : Int) : - zI a = zI (-a) := (Int32.ofInt_neg a).symm
theorem zI_toInt {z : Int} (h1 : -2147483648 ≤ z) (h2 : z < 2147483648) : (zI z).toInt = z := by
  unfold zI
  rw [Int32.toInt_ofInt, show Int32.size = 4294967296 from rfl, Int.bmod_def]
  split <;> omega
theorem ni_toInt {n : Nat} (h : n < 2147483648) : (nI n).toInt = (n : Int) := nI_toInt h
theorem ni_lt {x y : Int32} : x < y ↔ x.toInt < y.toInt := Int32.lt_iff_toInt_lt
theorem ni_le {x y : Int32} : x ≤ y ↔ x.toInt ≤ y.toInt := Int32.le_iff_toInt_le
theorem ni_eq {x y : Int32} : x = y ↔ x.toInt = y.toInt := ⟨fun h => by rw [h], fun h => Int32.toInt_inj.mp h⟩
theorem ni_0 : (0 : Int32).toInt = 0 := rfl
theorem ni_rng (x : Int32) : -2147483648 ≤ x.toInt ∧ x.toInt < 2147483648 := ⟨Int32.le_toInt x, Int32.toInt_lt x⟩
/-- an int that isn't negative is a natural's -/
theorem ni_of {x : Int32} (h : 0 ≤ x.toInt) : ∃ j : Nat, j < 2147483648 ∧ x = nI j ∧ x.toInt = (j : Int) := by
  have hr := ni_rng x
  refine ⟨x.toInt.toNat, by omega, ?_, by omega⟩
  rw [ni_eq, ni_toInt (by omega)]
  omega
theorem ni_z {x : Int32} {z : Int} (h : x.toInt = z) : x = zI z := by
  have hr := ni_rng x
  rw [ni_eq, zI_toInt (by omega) (by omega)]
  exact h
theorem ni_idiv {a d : Nat} (ha : a < 2147483648) (h0 : 0 < d) (hd : d < 2147483648) : nI a / nI d = nI (a / d) := pk_div ha h0 hd
theorem ni_irem {a d : Nat} (ha : a < 2147483648) (h0 : 0 < d) (hd : d < 2147483648) : nI a - nI a / nI d * nI d = nI (a % d) := pk_rem ha h0 hd
theorem ni_sm : ∀ n, n < 32 → ((nI n &&& 31).toBitVec.smod 32).toNat = n := by decide +kernel
theorem ni_shl {a k : Nat} (hk : k < 32) (h : a * 2 ^ k < 4294967296) : nI a <<< (nI k &&& 31) = nI (a * 2 ^ k) := pk_shlN _ k (ni_sm k hk) h
theorem ni_shr {a k : Nat} (ha : a < 2147483648) (hk : k < 32) : nI a >>> (nI k &&& 31) = nI (a / 2 ^ k) := pk_shrN ha _ k (ni_sm k hk)
theorem ni_dne {d : Nat} (h0 : 0 < d) (hd : d < 2147483648) : ¬ nI d = 0 := nI_ne0 h0 hd
theorem ni_inc (a : Nat) : nI a + Int32.ofInt 1 = nI (a + 1) := nI_1 a
theorem ni_inc5 (a : Nat) : nI a + Int32.ofInt 5 = nI (a + 5) := nI_add a 5
theorem ni_dec {a : Nat} (h : 1 ≤ a) : nI a + Int32.ofInt (-1) = nI (a - 1) := by
  obtain ⟨b, rfl⟩ : ∃ b, a = b + 1 := ⟨a - 1, by omega⟩
  have := pk_m1 b
  rw [Nat.add_sub_cancel]
  exact this
theorem ni_incz (z : Int) : zI z + Int32.ofInt 1 = zI (z + 1) := zI_add z 1
theorem ni_decz (z : Int) : zI z + Int32.ofInt (-1) = zI (z - 1) := by
  have h := zI_add z (-1)
  rw [← Int.sub_eq_add_neg] at h
  exact h
theorem ni_nz (n : Nat) : nI n = zI (n : Int) := (zI_nat n).symm
theorem ni_in {i n : Nat} (h : i < n) (hn : n < 2147483648) : vp_in (nI i) n := vp_in_nI h hn
theorem ni_cl {i : Nat} (h : i < 2147483648) : (nI i).toNatClampNeg = i := nI_clamp h
/-- the answer of a boolean method -/
abbrev BP (r : Int32) (P : Prop) : Prop := (r = nI 1 ∧ P) ∨ (r = nI 0 ∧ ¬ P)
section NV
variable {p : Program} {l : Launch} {e : Env} {R : Room} {s : State} {m : MethodId} {args : Array Value} {below : List Frame} {meth : Method} {c : Code} {H : Heap} {locs : List Loc} {cells slots : Nat} {Q : State → Prop} {cc : ByteArray} {pc : Nat} {ls : Array Slot} {rest : List Value}
theorem nv_top {x y : Int32} (h : x = y) (k : W p l e R s m args below meth c H locs cells slots Q (F0 m pc ls (.int y :: rest))) : W p l e R s m args below meth c H locs cells slots Q (F0 m pc ls (.int x :: rest)) := by rw [h]; exact k
theorem nv_iadd (hx : p.tables.exec = Jvm.exec) (hb : c.code = cc) {a b : Nat} (hd : decode cc pc = .ok (.iadd, 1)) (k : W p l e R s m args below meth c H locs cells slots Q (F0 m (pc + 1) ls (.int (nI (a + b)) :: rest))) : W p l e R s m args below meth c H locs cells slots Q (F0 m pc ls (.int (nI b) :: .int (nI a) :: rest)) := lv_iadd hx hb hd (nv_top (nI_add a b) k)
theorem nv_imul (hx : p.tables.exec = Jvm.exec) (hb : c.code = cc) {a b : Nat} (hd : decode cc pc = .ok (.imul, 1)) (k : W p l e R s m args below meth c H locs cells slots Q (F0 m (pc + 1) ls (.int (nI (a * b)) :: rest))) : W p l e R s m args below meth c H locs cells slots Q (F0 m pc ls (.int (nI b) :: .int (nI a) :: rest)) := lv_imul hx hb hd (nv_top (pk_mul a b) k)
theorem nv_isub (hx : p.tables.exec = Jvm.exec) (hb : c.code = cc) {a b : Nat} (hd : decode cc pc = .ok (.isub, 1)) (h : b ≤ a) (k : W p l e R s m args below meth c H locs cells slots Q (F0 m (pc + 1) ls (.int (nI (a - b)) :: rest))) : W p l e R s m args below meth c H locs cells slots Q (F0 m pc ls (.int (nI b) :: .int (nI a) :: rest)) := lv_isub hx hb hd (nv_top (pk_sub h) k)
theorem nz_iadd (hx : p.tables.exec = Jvm.exec) (hb : c.code = cc) {x y : Int32} {a b : Int} (hd : decode cc pc = .ok (.iadd, 1)) (ha : x = zI a) (hb' : y = zI b) (k : W p l e R s m args below meth c H locs cells slots Q (F0 m (pc + 1) ls (.int (zI (a + b)) :: rest))) : W p l e R s m args below meth c H locs cells slots Q (F0 m pc ls (.int y :: .int x :: rest)) := by
  subst ha; subst hb'
  exact lv_iadd hx hb hd (nv_top (zI_add a b) k)
theorem nz_isub (hx : p.tables.exec = Jvm.exec) (hb : c.code = cc) {x y : Int32} {a b : Int} (hd : decode cc pc = .ok (.isub, 1)) (ha : x = zI a) (hb' : y = zI b) (k : W p l e R s m args below meth c H locs cells slots Q (F0 m (pc + 1) ls (.int (zI (a - b)) :: rest))) : W p l e R s m args below meth c H locs cells slots Q (F0 m pc ls (.int y :: .int x :: rest)) := by
  subst ha; subst hb'
  exact lv_isub hx hb hd (nv_top (zI_sub a b) k)
theorem nz_imul (hx : p.tables.exec = Jvm.exec) (hb : c.code = cc) {x y : Int32} {a b : Int} (hd : decode cc pc = .ok (.imul, 1)) (ha : x = zI a) (hb' : y = zI b) (k : W p l e R s m args below meth c H locs cells slots Q (F0 m (pc + 1) ls (.int (zI (a * b)) :: rest))) : W p l e R s m args below meth c H locs cells slots Q (F0 m pc ls (.int y :: .int x :: rest)) := by
  subst ha; subst hb'
  exact lv_imul hx hb hd (nv_top (zI_mul a b) k)
theorem nv_idiv (hx : p.tables.exec = Jvm.exec) (hb : c.code = cc) {a d : Nat} (hd : decode cc pc = .ok (.idiv, 1)) (ha : a < 2147483648) (h0 : 0 < d) (hd2 : d < 2147483648) (k : W p l e R s m args below meth c H locs cells slots Q (F0 m (pc + 1) ls (.int (nI (a / d)) :: rest))) : W p l e R s m args below meth c H locs cells slots Q (F0 m pc ls (.int (nI d) :: .int (nI a) :: rest)) := lv_idiv hx hb hd (ni_dne h0 hd2) (nv_top (ni_idiv ha h0 hd2) k)
theorem nv_irem (hx : p.tables.exec = Jvm.exec) (hb : c.code = cc) {a d : Nat} (hd : decode cc pc = .ok (.irem, 1)) (ha : a < 2147483648) (h0 : 0 < d) (hd2 : d < 2147483648) (k : W p l e R s m args below meth c H locs cells slots Q (F0 m (pc + 1) ls (.int (nI (a % d)) :: rest))) : W p l e R s m args below meth c H locs cells slots Q (F0 m pc ls (.int (nI d) :: .int (nI a) :: rest)) := lv_irem hx hb hd (ni_dne h0 hd2) (nv_top (ni_irem ha h0 hd2) k)
theorem nv_ishl (hx : p.tables.exec = Jvm.exec) (hb : c.code = cc) {a k0 : Nat} (hd : decode cc pc = .ok (.ishl, 1)) (hk : k0 < 32) (h : a * 2 ^ k0 < 4294967296) (k : W p l e R s m args below meth c H locs cells slots Q (F0 m (pc + 1) ls (.int (nI (a * 2 ^ k0)) :: rest))) : W p l e R s m args below meth c H locs cells slots Q (F0 m pc ls (.int (nI k0) :: .int (nI a) :: rest)) := lv_ishl hx hb hd (nv_top (ni_shl hk h) k)
theorem nv_ishr (hx : p.tables.exec = Jvm.exec) (hb : c.code = cc) {a k0 : Nat} (hd : decode cc pc = .ok (.ishr, 1)) (ha : a < 2147483648) (hk : k0 < 32) (k : W p l e R s m args below meth c H locs cells slots Q (F0 m (pc + 1) ls (.int (nI (a / 2 ^ k0)) :: rest))) : W p l e R s m args below meth c H locs cells slots Q (F0 m pc ls (.int (nI k0) :: .int (nI a) :: rest)) := lv_ishr hx hb hd (nv_top (ni_shr ha hk) k)
-- comparisons of two ints by their integers
theorem ni_icmp_lt (hx : p.tables.exec = Jvm.exec) (hb : c.code = cc) {x y : Int32} {a b : Int} {off : Int} {tgt : Nat} (hd : decode cc pc = .ok (.if_icmp .lt off, 3)) (ht : (pc : Int) + off = (tgt : Int)) (ha : x.toInt = a) (hb' : y.toInt = b) (kt : a < b → W p l e R s m args below meth c H locs cells slots Q (F0 m tgt ls rest)) (kf : b ≤ a → W p l e R s m args below meth c H locs cells slots Q (F0 m (pc + 3) ls rest)) : W p l e R s m args below meth c H locs cells slots Q (F0 m pc ls (.int y :: .int x :: rest)) := by
  subst ha; subst hb'
  exact lv_icmp_lt hx hb hd ht (fun h => kt (ni_lt.mp h)) (fun h => kf (Int.not_lt.mp fun q => h (ni_lt.mpr q)))
theorem ni_icmp_ge (hx : p.tables.exec = Jvm.exec) (hb : c.code = cc) {x y : Int32} {a b : Int} {off : Int} {tgt : Nat} (hd : decode cc pc = .ok (.if_icmp .ge off, 3)) (ht : (pc : Int) + off = (tgt : Int)) (ha : x.toInt = a) (hb' : y.toInt = b) (kt : b ≤ a → W p l e R s m args below meth c H locs cells slots Q (F0 m tgt ls rest)) (kf : a < b → W p l e R s m args below meth c H locs cells slots Q (F0 m (pc + 3) ls rest)) : W p l e R s m args below meth c H locs cells slots Q (F0 m pc ls (.int y :: .int x :: rest)) := by
  subst ha; subst hb'
  exact lv_icmp_ge hx hb hd ht (fun h => kt (ni_le.mp h)) (fun h => kf (Int.not_le.mp fun q => h (ni_le.mpr q)))
theorem ni_icmp_gt (hx : p.tables.exec = Jvm.exec) (hb : c.code = cc) {x y : Int32} {a b : Int} {off : Int} {tgt : Nat} (hd : decode cc pc = .ok (.if_icmp .gt off, 3)) (ht : (pc : Int) + off = (tgt : Int)) (ha : x.toInt = a) (hb' : y.toInt = b) (kt : b < a → W p l e R s m args below meth c H locs cells slots Q (F0 m tgt ls rest)) (kf : a ≤ b → W p l e R s m args below meth c H locs cells slots Q (F0 m (pc + 3) ls rest)) : W p l e R s m args below meth c H locs cells slots Q (F0 m pc ls (.int y :: .int x :: rest)) := by
  subst ha; subst hb'
  exact lv_icmp_gt hx hb hd ht (fun h => kt (ni_lt.mp h)) (fun h => kf (Int.not_lt.mp fun q => h (ni_lt.mpr q)))
theorem ni_icmp_le (hx : p.tables.exec = Jvm.exec) (hb : c.code = cc) {x y : Int32} {a b : Int} {off : Int} {tgt : Nat} (hd : decode cc pc = .ok (.if_icmp .le off, 3)) (ht : (pc : Int) + off = (tgt : Int)) (ha : x.toInt = a) (hb' : y.toInt = b) (kt : a ≤ b → W p l e R s m args below meth c H locs cells slots Q (F0 m tgt ls rest)) (kf : b < a → W p l e R s m args below meth c H locs cells slots Q (F0 m (pc + 3) ls rest)) : W p l e R s m args below meth c H locs cells slots Q (F0 m pc ls (.int y :: .int x :: rest)) := by
  subst ha; subst hb'
  exact lv_icmp_le hx hb hd ht (fun h => kt (ni_le.mp h)) (fun h => kf (Int.not_le.mp fun q => h (ni_le.mpr q)))
theorem ni_icmp_eq (hx : p.tables.exec = Jvm.exec) (hb : c.code = cc) {x y : Int32} {a b : Int} {off : Int} {tgt : Nat} (hd : decode cc pc = .ok (.if_icmp .eq off, 3)) (ht : (pc : Int) + off = (tgt : Int)) (ha : x.toInt = a) (hb' : y.toInt = b) (kt : a = b → W p l e R s m args below meth c H locs cells slots Q (F0 m tgt ls rest)) (kf : a ≠ b → W p l e R s m args below meth c H locs cells slots Q (F0 m (pc + 3) ls rest)) : W p l e R s m args below meth c H locs cells slots Q (F0 m pc ls (.int y :: .int x :: rest)) := by
  subst ha; subst hb'
  exact lv_icmp_eq hx hb hd ht (fun h => kt (ni_eq.mp h)) (fun h => kf (fun q => h (ni_eq.mpr q)))
theorem ni_icmp_ne (hx : p.tables.exec = Jvm.exec) (hb : c.code = cc) {x y : Int32} {a b : Int} {off : Int} {tgt : Nat} (hd : decode cc pc = .ok (.if_icmp .ne off, 3)) (ht : (pc : Int) + off = (tgt : Int)) (ha : x.toInt = a) (hb' : y.toInt = b) (kt : a ≠ b → W p l e R s m args below meth c H locs cells slots Q (F0 m tgt ls rest)) (kf : a = b → W p l e R s m args below meth c H locs cells slots Q (F0 m (pc + 3) ls rest)) : W p l e R s m args below meth c H locs cells slots Q (F0 m pc ls (.int y :: .int x :: rest)) := by
  subst ha; subst hb'
  exact lv_icmp_ne hx hb hd ht (fun h => kt (fun q => h (ni_eq.mpr q))) (fun h => kf (by rw [h]))
-- comparisons of an int with 0
theorem ni_if_lt (hx : p.tables.exec = Jvm.exec) (hb : c.code = cc) {x : Int32} {a : Int} {off : Int} {tgt : Nat} (hd : decode cc pc = .ok (.ifCond .lt off, 3)) (ht : (pc : Int) + off = (tgt : Int)) (ha : x.toInt = a) (kt : a < 0 → W p l e R s m args below meth c H locs cells slots Q (F0 m tgt ls rest)) (kf : 0 ≤ a → W p l e R s m args below meth c H locs cells slots Q (F0 m (pc + 3) ls rest)) : W p l e R s m args below meth c H locs cells slots Q (F0 m pc ls (.int x :: rest)) := by
  subst ha
  exact lv_if_lt hx hb hd ht (fun h => kt (ni_lt.mp h)) (fun h => kf (Int.not_lt.mp fun q => h (ni_lt.mpr q)))
theorem ni_if_ge (hx : p.tables.exec = Jvm.exec) (hb : c.code = cc) {x : Int32} {a : Int} {off : Int} {tgt : Nat} (hd : decode cc pc = .ok (.ifCond .ge off, 3)) (ht : (pc : Int) + off = (tgt : Int)) (ha : x.toInt = a) (kt : 0 ≤ a → W p l e R s m args below meth c H locs cells slots Q (F0 m tgt ls rest)) (kf : a < 0 → W p l e R s m args below meth c H locs cells slots Q (F0 m (pc + 3) ls rest)) : W p l e R s m args below meth c H locs cells slots Q (F0 m pc ls (.int x :: rest)) := by
  subst ha
  exact lv_if_ge hx hb hd ht (fun h => kt (ni_le.mp h)) (fun h => kf (Int.not_le.mp fun q => h (ni_le.mpr q)))
theorem ni_if_gt (hx : p.tables.exec = Jvm.exec) (hb : c.code = cc) {x : Int32} {a : Int} {off : Int} {tgt : Nat} (hd : decode cc pc = .ok (.ifCond .gt off, 3)) (ht : (pc : Int) + off = (tgt : Int)) (ha : x.toInt = a) (kt : 0 < a → W p l e R s m args below meth c H locs cells slots Q (F0 m tgt ls rest)) (kf : a ≤ 0 → W p l e R s m args below meth c H locs cells slots Q (F0 m (pc + 3) ls rest)) : W p l e R s m args below meth c H locs cells slots Q (F0 m pc ls (.int x :: rest)) := by
  subst ha
  exact lv_if_gt hx hb hd ht (fun h => kt (ni_lt.mp h)) (fun h => kf (Int.not_lt.mp fun q => h (ni_lt.mpr q)))
theorem ni_if_le (hx : p.tables.exec = Jvm.exec) (hb : c.code = cc) {x : Int32} {a : Int} {off : Int} {tgt : Nat} (hd : decode cc pc = .ok (.ifCond .le off, 3)) (ht : (pc : Int) + off = (tgt : Int)) (ha : x.toInt = a) (kt : a ≤ 0 → W p l e R s m args below meth c H locs cells slots Q (F0 m tgt ls rest)) (kf : 0 < a → W p l e R s m args below meth c H locs cells slots Q (F0 m (pc + 3) ls rest)) : W p l e R s m args below meth c H locs cells slots Q (F0 m pc ls (.int x :: rest)) := by
  subst ha
  exact lv_if_le hx hb hd ht (fun h => kt (ni_le.mp h)) (fun h => kf (Int.not_le.mp fun q => h (ni_le.mpr q)))
theorem ni_if_eq (hx : p.tables.exec = Jvm.exec) (hb : c.code = cc) {x : Int32} {a : Int} {off : Int} {tgt : Nat} (hd : decode cc pc = .ok (.ifCond .eq off, 3)) (ht : (pc : Int) + off = (tgt : Int)) (ha : x.toInt = a) (kt : a = 0 → W p l e R s m args below meth c H locs cells slots Q (F0 m tgt ls rest)) (kf : a ≠ 0 → W p l e R s m args below meth c H locs cells slots Q (F0 m (pc + 3) ls rest)) : W p l e R s m args below meth c H locs cells slots Q (F0 m pc ls (.int x :: rest)) := by
  subst ha
  exact lv_if_eq hx hb hd ht (fun h => kt (ni_eq.mp h)) (fun h => kf (fun q => h (ni_eq.mpr q)))
theorem ni_if_ne (hx : p.tables.exec = Jvm.exec) (hb : c.code = cc) {x : Int32} {a : Int} {off : Int} {tgt : Nat} (hd : decode cc pc = .ok (.ifCond .ne off, 3)) (ht : (pc : Int) + off = (tgt : Int)) (ha : x.toInt = a) (kt : a ≠ 0 → W p l e R s m args below meth c H locs cells slots Q (F0 m tgt ls rest)) (kf : a = 0 → W p l e R s m args below meth c H locs cells slots Q (F0 m (pc + 3) ls rest)) : W p l e R s m args below meth c H locs cells slots Q (F0 m pc ls (.int x :: rest)) := by
  subst ha
  exact lv_if_ne hx hb hd ht (fun h => kt (fun q => h (ni_eq.mpr q))) (fun h => kf (by rw [h]; rfl))
theorem nv_icmp_lt (hx : p.tables.exec = Jvm.exec) (hb : c.code = cc) {a b : Nat} {off : Int} {tgt : Nat} (hd : decode cc pc = .ok (.if_icmp .lt off, 3)) (ht : (pc : Int) + off = (tgt : Int)) (ha : a < 2147483648) (hb' : b < 2147483648) (kt : a < b → W p l e R s m args below meth c H locs cells slots Q (F0 m tgt ls rest)) (kf : b ≤ a → W p l e R s m args below meth c H locs cells slots Q (F0 m (pc + 3) ls rest)) : W p l e R s m args below meth c H locs cells slots Q (F0 m pc ls (.int (nI b) :: .int (nI a) :: rest)) := ni_icmp_lt hx hb hd ht (ni_toInt ha) (ni_toInt hb') (fun h => kt (by omega)) (fun h => kf (by omega))
theorem nv_icmp_ge (hx : p.tables.exec = Jvm.exec) (hb : c.code = cc) {a b : Nat} {off : Int} {tgt : Nat} (hd : decode cc pc = .ok (.if_icmp .ge off, 3)) (ht : (pc : Int) + off = (tgt : Int)) (ha : a < 2147483648) (hb' : b < 2147483648) (kt : b ≤ a → W p l e R s m args below meth c H locs cells slots Q (F0 m tgt ls rest)) (kf : a < b → W p l e R s m args below meth c H locs cells slots Q (F0 m (pc + 3) ls rest)) : W p l e R s m args below meth c H locs cells slots Q (F0 m pc ls (.int (nI b) :: .int (nI a) :: rest)) := ni_icmp_ge hx hb hd ht (ni_toInt ha) (ni_toInt hb') (fun h => kt (by omega)) (fun h => kf (by omega))
theorem nv_icmp_gt (hx : p.tables.exec = Jvm.exec) (hb : c.code = cc) {a b : Nat} {off : Int} {tgt : Nat} (hd : decode cc pc = .ok (.if_icmp .gt off, 3)) (ht : (pc : Int) + off = (tgt : Int)) (ha : a < 2147483648) (hb' : b < 2147483648) (kt : b < a → W p l e R s m args below meth c H locs cells slots Q (F0 m tgt ls rest)) (kf : a ≤ b → W p l e R s m args below meth c H locs cells slots Q (F0 m (pc + 3) ls rest)) : W p l e R s m args below meth c H locs cells slots Q (F0 m pc ls (.int (nI b) :: .int (nI a) :: rest)) := ni_icmp_gt hx hb hd ht (ni_toInt ha) (ni_toInt hb') (fun h => kt (by omega)) (fun h => kf (by omega))
theorem nv_icmp_le (hx : p.tables.exec = Jvm.exec) (hb : c.code = cc) {a b : Nat} {off : Int} {tgt : Nat} (hd : decode cc pc = .ok (.if_icmp .le off, 3)) (ht : (pc : Int) + off = (tgt : Int)) (ha : a < 2147483648) (hb' : b < 2147483648) (kt : a ≤ b → W p l e R s m args below meth c H locs cells slots Q (F0 m tgt ls rest)) (kf : b < a → W p l e R s m args below meth c H locs cells slots Q (F0 m (pc + 3) ls rest)) : W p l e R s m args below meth c H locs cells slots Q (F0 m pc ls (.int (nI b) :: .int (nI a) :: rest)) := ni_icmp_le hx hb hd ht (ni_toInt ha) (ni_toInt hb') (fun h => kt (by omega)) (fun h => kf (by omega))
theorem nv_icmp_eq (hx : p.tables.exec = Jvm.exec) (hb : c.code = cc) {a b : Nat} {off : Int} {tgt : Nat} (hd : decode cc pc = .ok (.if_icmp .eq off, 3)) (ht : (pc : Int) + off = (tgt : Int)) (ha : a < 2147483648) (hb' : b < 2147483648) (kt : a = b → W p l e R s m args below meth c H locs cells slots Q (F0 m tgt ls rest)) (kf : a ≠ b → W p l e R s m args below meth c H locs cells slots Q (F0 m (pc + 3) ls rest)) : W p l e R s m args below meth c H locs cells slots Q (F0 m pc ls (.int (nI b) :: .int (nI a) :: rest)) := ni_icmp_eq hx hb hd ht (ni_toInt ha) (ni_toInt hb') (fun h => kt (by omega)) (fun h => kf (by omega))
theorem nv_icmp_ne (hx : p.tables.exec = Jvm.exec) (hb : c.code = cc) {a b : Nat} {off : Int} {tgt : Nat} (hd : decode cc pc = .ok (.if_icmp .ne off, 3)) (ht : (pc : Int) + off = (tgt : Int)) (ha : a < 2147483648) (hb' : b < 2147483648) (kt : a ≠ b → W p l e R s m args below meth c H locs cells slots Q (F0 m tgt ls rest)) (kf : a = b → W p l e R s m args below meth c H locs cells slots Q (F0 m (pc + 3) ls rest)) : W p l e R s m args below meth c H locs cells slots Q (F0 m pc ls (.int (nI b) :: .int (nI a) :: rest)) := ni_icmp_ne hx hb hd ht (ni_toInt ha) (ni_toInt hb') (fun h => kt (by omega)) (fun h => kf (by omega))
theorem nv_if_gt (hx : p.tables.exec = Jvm.exec) (hb : c.code = cc) {a : Nat} {off : Int} {tgt : Nat} (hd : decode cc pc = .ok (.ifCond .gt off, 3)) (ht : (pc : Int) + off = (tgt : Int)) (ha : a < 2147483648) (kt : 0 < a → W p l e R s m args below meth c H locs cells slots Q (F0 m tgt ls rest)) (kf : a = 0 → W p l e R s m args below meth c H locs cells slots Q (F0 m (pc + 3) ls rest)) : W p l e R s m args below meth c H locs cells slots Q (F0 m pc ls (.int (nI a) :: rest)) := ni_if_gt hx hb hd ht (ni_toInt ha) (fun h => kt (by omega)) (fun h => kf (by omega))
theorem nv_if_le (hx : p.tables.exec = Jvm.exec) (hb : c.code = cc) {a : Nat} {off : Int} {tgt : Nat} (hd : decode cc pc = .ok (.ifCond .le off, 3)) (ht : (pc : Int) + off = (tgt : Int)) (ha : a < 2147483648) (kt : a = 0 → W p l e R s m args below meth c H locs cells slots Q (F0 m tgt ls rest)) (kf : 0 < a → W p l e R s m args below meth c H locs cells slots Q (F0 m (pc + 3) ls rest)) : W p l e R s m args below meth c H locs cells slots Q (F0 m pc ls (.int (nI a) :: rest)) := ni_if_le hx hb hd ht (ni_toInt ha) (fun h => kt (by omega)) (fun h => kf (by omega))
theorem nv_if_eq (hx : p.tables.exec = Jvm.exec) (hb : c.code = cc) {a : Nat} {off : Int} {tgt : Nat} (hd : decode cc pc = .ok (.ifCond .eq off, 3)) (ht : (pc : Int) + off = (tgt : Int)) (ha : a < 2147483648) (kt : a = 0 → W p l e R s m args below meth c H locs cells slots Q (F0 m tgt ls rest)) (kf : a ≠ 0 → W p l e R s m args below meth c H locs cells slots Q (F0 m (pc + 3) ls rest)) : W p l e R s m args below meth c H locs cells slots Q (F0 m pc ls (.int (nI a) :: rest)) := ni_if_eq hx hb hd ht (ni_toInt ha) (fun h => kt (by omega)) (fun h => kf (by omega))
theorem nv_if_ne (hx : p.tables.exec = Jvm.exec) (hb : c.code = cc) {a : Nat} {off : Int} {tgt : Nat} (hd : decode cc pc = .ok (.ifCond .ne off, 3)) (ht : (pc : Int) + off = (tgt : Int)) (ha : a < 2147483648) (kt : a ≠ 0 → W p l e R s m args below meth c H locs cells slots Q (F0 m tgt ls rest)) (kf : a = 0 → W p l e R s m args below meth c H locs cells slots Q (F0 m (pc + 3) ls rest)) : W p l e R s m args below meth c H locs cells slots Q (F0 m pc ls (.int (nI a) :: rest)) := ni_if_ne hx hb hd ht (ni_toInt ha) (fun h => kt (by omega)) (fun h => kf (by omega))
theorem nv_if_lt (hx : p.tables.exec = Jvm.exec) (hb : c.code = cc) {a : Nat} {off : Int} {tgt : Nat} (hd : decode cc pc = .ok (.ifCond .lt off, 3)) (ht : (pc : Int) + off = (tgt : Int)) (ha : a < 2147483648) (kf : W p l e R s m args below meth c H locs cells slots Q (F0 m (pc + 3) ls rest)) : W p l e R s m args below meth c H locs cells slots Q (F0 m pc ls (.int (nI a) :: rest)) := ni_if_lt hx hb hd ht (ni_toInt ha) (fun h => absurd h (by omega)) (fun h => kf)
theorem nv_if_ge (hx : p.tables.exec = Jvm.exec) (hb : c.code = cc) {a : Nat} {off : Int} {tgt : Nat} (hd : decode cc pc = .ok (.ifCond .ge off, 3)) (ht : (pc : Int) + off = (tgt : Int)) (ha : a < 2147483648) (kt : W p l e R s m args below meth c H locs cells slots Q (F0 m tgt ls rest)) : W p l e R s m args below meth c H locs cells slots Q (F0 m pc ls (.int (nI a) :: rest)) := ni_if_ge hx hb hd ht (ni_toInt ha) (fun h => kt) (fun h => absurd h (by omega))
-- reads and writes of arrays of naturals
variable {D : va_G} {cl : List vw_C} {tys : List (ClassId × FieldType)} {ws : va_W} {A : Nat → Prop} {H0 : Heap} {a : Nat}
theorem nv_iald (hx : p.tables.exec = Jvm.exec) (hb : c.code = cc) (hK : va_K D cl tys s) (hP : va_P D cl ws H) (q0 t0 : Nat) {cA : ClassId} {n : Nat} {g : Nat → Nat} (ha : ws[q0]? = some (a, .inl (cA, n, .inl (nA g)))) (ht : tys[t0]? = some (cA, .int)) {i : Nat} (hi : i < n) (hn : n < 2147483648) (hd : decode cc pc = .ok (.iaload, 1)) (k : W p l e R s m args below meth c H locs cells slots Q (F0 m (pc + 1) ls (.int (nI (g i)) :: rest))) : W p l e R s m args below meth c H locs cells slots Q (F0 m pc ls (.int (nI i) :: .ref a :: rest)) := by
  refine va_iald hx hb hK hP q0 t0 ha ht (ni_in hi hn) hd ?_
  rw [ni_cl (by omega)]
  exact k
theorem nv_iast (hx : p.tables.exec = Jvm.exec) (hb : c.code = cc) (hK : va_K D cl tys s) (hP : va_P D cl ws H) (hD : va_D A ws) (hS : va_S A H0 H locs) (q0 t0 : Nat) {cA : ClassId} {n : Nat} {g : Nat → Nat} (ha : ws[q0]? = some (a, .inl (cA, n, .inl (nA g)))) (ht : tys[t0]? = some (cA, .int)) {i x : Nat} (hi : i < n) (hn : n < 2147483648) (hd : decode cc pc = .ok (.iastore, 1))
    (kk : ∀ (H1 : Heap) (locs1 : List Loc), va_P D cl (ws.set q0 (a, .inl (cA, n, .inl (nA (upN g i x))))) H1 → va_D A (ws.set q0 (a, .inl (cA, n, .inl (nA (upN g i x))))) → va_S A H0 H1 locs1 → W p l e R s m args below meth c H1 locs1 cells slots Q (F0 m (pc + 1) ls rest)) : W p l e R s m args below meth c H locs cells slots Q (F0 m pc ls (.int (nI x) :: .int (nI i) :: .ref a :: rest)) := by
  refine va_iast hx hb hK hP hD hS q0 t0 ha ht (ni_in hi hn) hd ?_
  rw [ni_cl (by omega), nA_upd]
  exact kk
theorem nv_get {own C : String} {T : u_T} {N ci index nL : Nat} {Ts : List Cond} (F : CallFix p m c cc nL s args Ts own) (hin : ∀ w ∈ u_ws C T N, w ∈ Ts) (hK : va_K D cl tys s) (hP : va_P D cl ws H) (q0 : Nat) {fs : List Value} (he : ws[q0]? = some (a, .inr (ci, fs))) (hc : cl[ci]? = some (C, T, N)) (k : Nat) (hk : k < N) (hl : Cond.fieldLink own index (T k).1 (T k).2.1 (T k).2.2.1 ∈ Ts) {v : Value} (hv : fs[k]? = some v) (hd : decode cc pc = .ok (.getfield index, 3)) (kk : W p l e R s m args below meth c H locs cells slots Q (F0 m (pc + 3) ls (v :: rest))) : W p l e R s m args below meth c H locs cells slots Q (F0 m pc ls (.ref a :: rest)) :=
  va_get F.1 F.2.1 F.2.2.2.2 hin F.2.2.2.1 hK hP q0 he hc k hk (F.2.2.2.2 _ hl) (fun _ h => h) hv hd kk
theorem nv_put {own C : String} {T : u_T} {N ci index nL : Nat} {Ts : List Cond} (F : CallFix p m c cc nL s args Ts own) (hin : ∀ w ∈ u_ws C T N, w ∈ Ts) (ty0 : Nat → FieldType) (hty : ∀ k, k < N → parseFieldDescriptor (T k).2.2.1 = some (ty0 k)) (hnm : ∀ a, a < N → ∀ b, b < N → a ≠ b → (T a).2.1 ≠ (T b).2.1) (hK : va_K D cl tys s) (hP : va_P D cl ws H) (hD : va_D A ws) (hS : va_S A H0 H locs) (q0 : Nat) {fs : List Value} (he : ws[q0]? = some (a, .inr (ci, fs))) (hc : cl[ci]? = some (C, T, N)) (k : Nat) (hk : k < N) (hl : Cond.fieldLink own index (T k).1 (T k).2.1 (T k).2.2.1 ∈ Ts) (hfin : (T k).2.2.2 = false) {x : Int32} (hd0 : parseFieldDescriptor (T k).2.2.1 = some .int) (hlen : k < fs.length) (hd : decode cc pc = .ok (.putfield index, 3)) (kk : ∀ (H1 : Heap) (locs1 : List Loc), va_P D cl (ws.set q0 (a, .inr (ci, fs.set k (.int x)))) H1 → va_D A (ws.set q0 (a, .inr (ci, fs.set k (.int x)))) → va_S A H0 H1 locs1 → W p l e R s m args below meth c H1 locs1 cells slots Q (F0 m (pc + 3) ls rest)) : W p l e R s m args below meth c H locs cells slots Q (F0 m pc ls (.int x :: .ref a :: rest)) :=
  va_put F.1 F.2.1 F.2.2.2.2 hin ty0 hty hnm F.2.2.2.1 hK hP hD hS q0 he hc k hk (F.2.2.2.2 _ hl) (fun _ h => h) hfin hd0 rfl rfl hlen hd kk
-- Math.max, min, abs
theorem nI_max {a b : Nat} (ha : a < 2147483648) (hb : b < 2147483648) : (if nI a < nI b then nI b else nI a) = nI (max a b) := by
  by_cases h : a < b
  · rw [if_pos (nI_lt h hb), Nat.max_eq_right (by omega)]
  · rw [if_neg (nI_nlt (by omega) ha), Nat.max_eq_left (by omega)]
theorem nI_min {a b : Nat} (ha : a < 2147483648) (hb : b < 2147483648) : (if nI b < nI a then nI b else nI a) = nI (min a b) := by
  by_cases h : b < a
  · rw [if_pos (nI_lt h ha), Nat.min_eq_right (by omega)]
  · rw [if_neg (nI_nlt (by omega) hb), Nat.min_eq_left (by omega)]
theorem zI_max {x y : Int32} {a b : Int} (ha : x.toInt = a) (hb : y.toInt = b) : (if x < y then y else x) = zI (max a b) := by
  by_cases h : x < y
  · rw [if_pos h, ← ni_z (x := y)]
    have := ni_lt.mp h
    omega
  · rw [if_neg h, ← ni_z (x := x)]
    have : ¬ x.toInt < y.toInt := fun q => h (ni_lt.mpr q)
    omega
theorem zI_min {x y : Int32} {a b : Int} (ha : x.toInt = a) (hb : y.toInt = b) : (if y < x then y else x) = zI (min a b) := by
  by_cases h : y < x
  · rw [if_pos h, ← ni_z (x := y)]
    have := ni_lt.mp h
    omega
  · rw [if_neg h, ← ni_z (x := x)]
    have : ¬ y.toInt < x.toInt := fun q => h (ni_lt.mpr q)
    omega
theorem zI_abs {x : Int32} {a : Int} (ha : x.toInt = a) (h1 : -2147483648 < a) : (if 0 ≤ x then x else 0 - x) = nI a.natAbs := by
  have hr := ni_rng x
  by_cases h : 0 ≤ x
  · have h2 : 0 ≤ x.toInt := ni_le.mp h
    rw [if_pos h, ni_eq, ni_toInt (by omega)]
    omega
  · have h2 : ¬ 0 ≤ x.toInt := fun q => h (ni_le.mpr q)
    rw [if_neg h, ni_z ha, show (0 : Int32) = zI 0 from rfl, zI_sub, ni_eq, zI_toInt (by omega) (by omega), ni_toInt (by omega)]
    omega
end NV
-- contracts: RO reads alone, MU changes the cells of its world; TR: static arrays that it reads
abbrev rmO (fr lo : Nat) : Room := { frames := fr, cells := 0, slots := 0, locals := lo }
abbrev tyK (cI cZ cS : ClassId) : List (ClassId × FieldType) := [(cI, .int), (cZ, .boolean), (cS, .object "CurveOrders$Setup")]
def QRO (post : Option Value → Prop) : Array Value → State → Outcome → State → Prop := fun _ st o t => ∃ v, o = .returned v ∧ post v ∧ t.heap = st.heap
def TR (tr : List (Nat × Nat × (Nat → Nat))) (A : Nat → Prop) (U : State) (H : Heap) : Prop := ∀ q ∈ tr, va_T .int q.1 q.2.1 (fun j => .int (nA q.2.2 j)) A U H
def QMU (D : va_G) {S : Type} (post : Option Value → S → Prop) (w' : S → va_W) (A : Nat → Prop) : Array Value → State → Outcome → State → Prop := fun _ st o t => (∃ v u, o = .returned v ∧ post v u ∧ va_P D vwCl (w' u) t.heap ∧ va_D A (w' u)) ∧ va_F A st t
def RO (l : Launch) (y : MethodName) (wsM : List Cond) (fr lo : Nat) (D : va_G) (tys : List (ClassId × FieldType)) (wc : va_W) (av : List Value) (post : Option Value → Prop) : Prop := Met l y wsM (rmO fr lo) (va_Pc av (fun U => va_P D vwCl wc U.heap ∧ va_K D vwCl tys U)) (QRO post) 0 0 (fun _ => False)
def MU (l : Launch) (y : MethodName) (wsM : List Cond) (fr lo : Nat) (D : va_G) (tys : List (ClassId × FieldType)) (wc : va_W) (tr : List (Nat × Nat × (Nat → Nat))) (av : List Value) {S : Type} (post : Option Value → S → Prop) (w' : S → va_W) : Prop := ∀ sz, Met l y wsM (rmO fr lo) (va_Pc av (fun U => U.heap.size = sz ∧ va_P D vwCl wc U.heap ∧ va_K D vwCl tys U ∧ va_D (fun _ => True) wc ∧ TR tr (va_A wc sz) U U.heap)) (QMU D post w' (va_A wc sz)) 0 0 (va_A wc sz)
abbrev rI (P : Int32 → Prop) : Option Value → Prop := fun v => ∃ r, v = some (.int r) ∧ P r
abbrev rL (P : Int64 → Prop) : Option Value → Prop := fun v => ∃ r, v = some (.long r) ∧ P r
abbrev rA (P : Nat → Prop) : Option Value → Prop := fun v => ∃ r, v = some (.ref r) ∧ P r
abbrev rV (P : Prop) : Option Value → Prop := fun v => v = none ∧ P
def RetOk (cc : ByteArray) (pc : Nat) (ret : Option FieldType) (v : Option Value) (st : List Value) : Prop :=
  (ret = some .int ∧ ∃ r, v = some (.int r) ∧ st = [.int r] ∧ decode cc pc = .ok (.ireturn, 1)) ∨
  (ret = some .boolean ∧ ∃ r, (r = nI 1 ∨ r = nI 0) ∧ v = some (.int r) ∧ st = [.int r] ∧ decode cc pc = .ok (.ireturn, 1)) ∨
  (ret = none ∧ v = none ∧ st = [] ∧ decode cc pc = .ok (.return_, 1)) ∨
  (ret = some .long ∧ ∃ r, v = some (.long r) ∧ st = [.long r] ∧ decode cc pc = .ok (.lreturn, 1)) ∨
  (ret = some (.array .int) ∧ ∃ r, v = some (.ref r) ∧ st = [.ref r] ∧ decode cc pc = .ok (.areturn, 1))
theorem ro_blind {D : va_G} {cl : List vw_C} {wc : va_W} {tys : List (ClassId × FieldType)} {av : List Value} : FrameBlind (va_Pc av (fun U => va_P D cl wc U.heap ∧ va_K D cl tys U)) := fun a U g mk q => ⟨q.1, q.2.1, va_K.moved (u := U) (U := U.calling g mk a) (Vm.Alike.refl U.vm) q.2.2⟩
theorem TR.moved {tr : List (Nat × Nat × (Nat → Nat))} {A : Nat → Prop} {u U : State} {H : Heap} (hvm : u.vm.Alike U.vm) (h : TR tr A u H) : TR tr A U H := fun q hq => (h q hq).moved hvm
theorem TR.nil {A : Nat → Prop} {U : State} {H : Heap} : TR [] A U H := fun q hq => absurd hq List.not_mem_nil
theorem mu_blind {D : va_G} {cl : List vw_C} {wc : va_W} {tys : List (ClassId × FieldType)} {av : List Value} {sz : Nat} {tr : List (Nat × Nat × (Nat → Nat))} {A B : Nat → Prop} : FrameBlind (va_Pc av (fun U => U.heap.size = sz ∧ va_P D cl wc U.heap ∧ va_K D cl tys U ∧ va_D B wc ∧ TR tr A U U.heap)) := fun a U g mk q => ⟨q.1, q.2.1, q.2.2.1, va_K.moved (u := U) (U := U.calling g mk a) (Vm.Alike.refl U.vm) q.2.2.2.1, q.2.2.2.2.1, TR.moved (u := U) (U := U.calling g mk a) (Vm.Alike.refl U.vm) q.2.2.2.2.2⟩
section OFW
variable {p : Program} {l : Launch} {e : Env} {R : Room} {s : State} {m : MethodId} {args : Array Value} {below : List Frame} {meth : Method} {c : Code} {H : Heap} {locs : List Loc} {cells slots : Nat} {cc : ByteArray} {pc : Nat} {ls : Array Slot}
theorem ret_ok {Qc : Array Value → State → Outcome → State → Prop} {free : Addr → Prop} {ret : Option FieldType} {v : Option Value} {st : List Value} (hx : p.tables.exec = Jvm.exec) (hb : c.code = cc) (hr : meth.sig.returnType = ret) (hlocks : meth.locks = false) (h : RetOk cc pc ret v st) (hq : ∀ t : State, t.heap = H → s.WarmedH t.vm → Qc args s (.returned v) t) (hf : ∀ q ∈ locs, free q.base) : W p l e R s m args below meth c H locs cells slots (MQ below Qc args s cells slots free) (F0 m pc ls st) := by
  rcases h with ⟨rfl, r, rfl, rfl, hd⟩ | ⟨rfl, r, hz, rfl, rfl, hd⟩ | ⟨rfl, rfl, rfl, hd⟩ | ⟨rfl, r, rfl, rfl, hd⟩ | ⟨rfl, r, rfl, rfl, hd⟩
  · exact W.iret hx hb hr hq hf hd hlocks
  · refine W.zret hx hb hr ?_ hq hf hd hlocks
    rcases hz with rfl | rfl
    · rfl
    · rfl
  · exact W.vret hx hb hr hq hf hd hlocks
  · exact W.lret hx hb hr hq hf hd hlocks
  · exact W.aret hx hb hr (Or.inr ⟨_, rfl⟩) (Or.inr ⟨_, rfl⟩) hq hf hd hlocks
end OFW
theorem ro_of {l : Launch} {y : MethodName} {wsM ws' : List Cond} {fr lo : Nat} {D : va_G} {tys : List (ClassId × FieldType)} {wc : va_W} {av : List Value} {post : Option Value → Prop} {cc : ByteArray} {maxL : Nat} {ret : Option FieldType}
    (hy : plainName y.cls = true) (hw : wsM = Cond.code y cc maxL ret :: ws') (hlen : (lg_sl av).length ≤ maxL)
    (body : ∀ (p : Program) (e : Env) (s : State) (m : MethodId) (below : List Frame) (meth : Method) (c : Code) (Q : State → Prop), CallFix p m c cc maxL s av.toArray wsM y.cls → va_P D vwCl wc s.heap → va_K D vwCl tys s →
      (∀ (v : Option Value) (pc : Nat) (ls : Array Slot) (st : List Value), RetOk cc pc ret v st → post v → W p l e (rmO fr lo) s m av.toArray below meth c s.heap [] 0 0 Q (F0 m pc ls st)) →
      ∀ ls : Array Slot, lv_has ls maxL (lv_args 0 av) → W p l e (rmO fr lo) s m av.toArray below meth c s.heap [] 0 0 Q (F0 m 0 ls [])) : RO l y wsM fr lo D tys wc av post := by
  refine Met.ofW (cc := cc) (maxL := maxL) (ret := ret) hy hw ?_
  intro p e s m args below meth c s₁ B hml hv
  obtain ⟨rfl, hP, hK⟩ := hv
  have hx := B.exec
  have hb := B.bytes
  have hr := B.returns
  have hts := atoms_spec (ws := wsM) B.pre
  have hown : s.vm.findClass y.cls = some m.cls := findClass_of_methodNamed B.named
  have hlocks := B.notSynchronized
  have hl := lv_entry av (n := maxL) hlen
  rw [lg_entry_eq]
  exact body p e s m below meth c _ ⟨hx, hb, hml, hown, hts⟩ hP hK (fun v pc ls st h hp => ret_ok hx hb hr hlocks h (fun t ht hW => ⟨v, rfl, hp, ht⟩) (fun q h => absurd h List.not_mem_nil)) _ hl
theorem mu_of {l : Launch} {y : MethodName} {wsM ws' : List Cond} {fr lo : Nat} {D : va_G} {tys : List (ClassId × FieldType)} {wc : va_W} {tr : List (Nat × Nat × (Nat → Nat))} {av : List Value} {S : Type} {post : Option Value → S → Prop} {w' : S → va_W} {cc : ByteArray} {maxL : Nat} {ret : Option FieldType}
    (hy : plainName y.cls = true) (hw : wsM = Cond.code y cc maxL ret :: ws') (hlen : (lg_sl av).length ≤ maxL)
    (body : ∀ (p : Program) (e : Env) (s : State) (m : MethodId) (below : List Frame) (meth : Method) (c : Code) (Q : State → Prop) (A : Nat → Prop), CallFix p m c cc maxL s av.toArray wsM y.cls → va_P D vwCl wc s.heap → va_K D vwCl tys s → va_D A wc → va_S A s.heap s.heap [] → (∀ q : Nat, s.heap.size ≤ q → A q) → TR tr A s s.heap →
      (∀ (v : Option Value) (u : S) (pc : Nat) (ls : Array Slot) (st : List Value) (H : Heap) (locs : List Loc), RetOk cc pc ret v st → post v u → va_P D vwCl (w' u) H → va_D A (w' u) → va_S A s.heap H locs → W p l e (rmO fr lo) s m av.toArray below meth c H locs 0 0 Q (F0 m pc ls st)) →
      ∀ ls : Array Slot, lv_has ls maxL (lv_args 0 av) → W p l e (rmO fr lo) s m av.toArray below meth c s.heap [] 0 0 Q (F0 m 0 ls [])) : MU l y wsM fr lo D tys wc tr av post w' := by
  intro sz
  refine Met.ofW (cc := cc) (maxL := maxL) (ret := ret) hy hw ?_
  intro p e s m args below meth c s₁ B hml hv
  obtain ⟨rfl, hsz, hP, hK, hD0, hT⟩ := hv
  have hx := B.exec
  have hb := B.bytes
  have hr := B.returns
  have hts := atoms_spec (ws := wsM) B.pre
  have hown : s.vm.findClass y.cls = some m.cls := findClass_of_methodNamed B.named
  have hlocks := B.notSynchronized
  subst hsz
  have hl := lv_entry av (n := maxL) hlen
  rw [lg_entry_eq]
  exact body p e s m below meth c _ (va_A wc s.heap.size) ⟨hx, hb, hml, hown, hts⟩ hP hK (hD0.self (sz := s.heap.size)) va_S.rf (fun q h => Or.inr h) hT (fun v u pc ls st H locs h hp hP1 hD1 hS1 => ret_ok hx hb hr hlocks h (fun t ht hW => ⟨⟨v, u, rfl, hp, by rw [ht]; exact hP1, hD1⟩, hS1.F ht⟩) hS1.2.2) _ hl
section CALLS
variable {p : Program} {l : Launch} {e : Env} {R : Room} {s : State} {m : MethodId} {args : Array Value} {below : List Frame} {meth : Method} {c : Code} {H : Heap} {locs : List Loc} {cells slots : Nat} {Q : State → Prop} {cc : ByteArray} {pc nL : Nat} {ls : Array Slot} {rest st0 : List Value} {a : Array Value}
  {D : va_G} {tys : List (ClassId × FieldType)} {ws wc wr : va_W} {A0 A1 : Nat → Prop} {H0 : Heap} {free : Addr → Prop} {y : MethodName} {wsM ws' Ts : List Cond} {fr lo maxL index ci N b : Nat} {ret : Option FieldType} {bytes : ByteArray} {own C : String} {T : u_T} {fs As : List Value} {tr : List (Nat × Nat × (Nat → Nat))}
theorem ro_call {post : Option Value → Prop} (hr : CallRun p l e R s m args below meth c H locs cells slots 0 0 (F0 m pc ls st0) rest (QRO post a) (fun _ => False))
    (kk : ∀ v, post v → W p l e R s m args below meth c H locs cells slots Q (F0 m (pc + 3) ls (v.toList ++ rest))) : W p l e R s m args below meth c H locs cells slots Q (F0 m pc ls st0) := by
  intro T hT X
  obtain ⟨v, st₀, t, T', L, h0, X', hL, e1, ⟨v', hv, hp, hh⟩, st⟩ := hr T hT X
  cases hv
  obtain ⟨t2, a1, b1⟩ := kk v hp T' (by rw [e1, hh, h0]) (Stand.forget X' (fun q h => (hL q h).elim))
  exact ⟨t2, st t2 a1, b1⟩
theorem mu_call {S : Type} {post : Option Value → S → Prop} {w' : S → va_W} (hr : va_Run p l e R s m args below meth c H locs cells slots 0 0 (F0 m pc ls st0) rest (QMU D post w' A1 a) free) (hS : va_S A0 H0 H locs) (hA : ∀ q, q < H.size → A1 q → A0 q) (hf : ∀ q, free q → A0 q)
    (kk : ∀ (v : Option Value) (u : S) (H1 : Heap) (locs1 : List Loc), post v u → va_P D vwCl (w' u) H1 → va_D A1 (w' u) → (∀ q : Nat, q < H.size → ¬ A1 q → H1[q]? = H[q]?) → va_S A0 H0 H1 locs1 → W p l e R s m args below meth c H1 locs1 cells slots Q (F0 m (pc + 3) ls (v.toList ++ rest))) : W p l e R s m args below meth c H locs cells slots Q (F0 m pc ls st0) := by
  intro T hT X
  obtain ⟨v, st₀, t, T', L, h0, X', hL, e1, e2, ⟨⟨v', u, hv, hp, hb, hd⟩, hz, hk⟩, st⟩ := hr T hT X
  cases hv
  rw [h0] at hz hk
  obtain ⟨t2, a1, b1⟩ := kk v u T'.heap (locs ++ L) hp (by rw [e1]; exact hb) hd (fun q h1 h2 => by rw [e1]; exact hk q h1 h2)
    ⟨Nat.le_trans hS.1 (by rw [e1]; exact hz), fun q h1 h2 => by rw [e1, hk q (Nat.lt_of_lt_of_le h1 hS.1) (fun z => h2 (hA q (Nat.lt_of_lt_of_le h1 hS.1) z))]; exact hS.2.1 q h1 h2, fun q hq => by
      rcases List.mem_append.mp hq with h | h
      · exact hS.2.2 q h
      · exact hf _ (hL q h)⟩ T' rfl X'
  exact ⟨t2, st t2 a1, b1⟩
abbrev ndV (y : MethodName) (C : String) (n : Nat) : Prop := y.cls = C ∧ y.cls ≠ "java/lang/invoke/MethodHandle" ∧ y.cls ≠ "java/lang/invoke/VarHandle" ∧ (parseMethodDescriptor y.desc).map (fun d => d.parameters.length) = some n
theorem ro_V {post : Option Value → Prop} (F : CallFix p m c cc nL s args Ts own) (hM : RO l y wsM fr lo D tys wc (.ref b :: As) post) (n : Nat) (hG : GoodIn Ts (wsV own index C y wsM)) (hw : wsM = Cond.code y bytes maxL ret :: ws') (hd : ndV y C n) (hR : fr + 1 ≤ R.frames ∧ 8 + (maxL + 11) + lo ≤ R.locals)
    (hK : va_K D vwCl tys s) (hP : va_P D vwCl ws H) (is : List Nat) (hs : is.filterMap (fun i => ws[i]?) = wc) (hc : vwCl[ci]? = some (C, T, N)) (he : wc[0]? = some (b, .inr (ci, fs))) (hn : As.length = n) (hsz : ls.size = nL) (hst : st0 = As.reverse ++ .ref b :: rest) (hcat : (rest.map fun v => v.category).sum ≤ 8) (hdg : decode cc pc = .ok (.invokevirtual index, 3)) (hcs : cells ≤ R.cells ∧ slots ≤ R.slots)
    (kk : ∀ v, post v → W p l e R s m args below meth c H locs cells slots Q (F0 m (pc + 3) ls (v.toList ++ rest))) : W p l e R s m args below meth c H locs cells slots Q (F0 m pc ls st0) := by
  have hPc := hP.sub (ws' := wc) is hs
  exact ro_call (W.runV (As := As) (rest := rest) F hM (cwV n F.2.2.2.2 hG hw rfl rfl hd hR) ⟨ro_blind, va_recv hK hPc hc he, fun U hU hW => ⟨rfl, by rw [hU]; exact hPc, va_K.moved hW.alike hK⟩⟩ rfl hn hsz hst (lv_room hcat) hdg hcs) kk
theorem ro_S {post : Option Value → Prop} (F : CallFix p m c cc nL s args Ts own) (hM : RO l y wsM fr lo D tys wc As post) (n : Nat) (hG : GoodIn Ts (va_wsS own index y wsM)) (hw : wsM = Cond.code y bytes maxL ret :: ws') (hd : ndV y C n) (hR : fr + 1 ≤ R.frames ∧ 8 + (maxL + 11) + lo ≤ R.locals)
    (hK : va_K D vwCl tys s) (hP : va_P D vwCl ws H) (is : List Nat) (hs : is.filterMap (fun i => ws[i]?) = wc) (hn : As.length = n) (hsz : ls.size = nL) (hst : st0 = As.reverse ++ rest) (hcat : (rest.map fun v => v.category).sum ≤ 8) (hdg : decode cc pc = .ok (.invokestatic index, 3)) (hcs : cells ≤ R.cells ∧ slots ≤ R.slots)
    (kk : ∀ v, post v → W p l e R s m args below meth c H locs cells slots Q (F0 m (pc + 3) ls (v.toList ++ rest))) : W p l e R s m args below meth c H locs cells slots Q (F0 m pc ls st0) := by
  have hPc := hP.sub (ws' := wc) is hs
  exact ro_call (W.runS (As := As) (rest := rest) F hM (va_cwS n F.2.2.2.2 hG hw rfl rfl hd.2 hR) ⟨ro_blind, fun U hU hW => ⟨rfl, by rw [hU]; exact hPc, va_K.moved hW.alike hK⟩⟩ rfl hn hsz hst (lv_room hcat) hdg hcs) kk
theorem mu_V {S : Type} {post : Option Value → S → Prop} {w' : S → va_W} (F : CallFix p m c cc nL s args Ts own) (hM : MU l y wsM fr lo D tys wc tr (.ref b :: As) post w') (n : Nat) (hG : GoodIn Ts (wsV own index C y wsM)) (hw : wsM = Cond.code y bytes maxL ret :: ws') (hd : ndV y C n) (hR : fr + 1 ≤ R.frames ∧ 8 + (maxL + 11) + lo ≤ R.locals)
    (hK : va_K D vwCl tys s) (hP : va_P D vwCl ws H) (hD : va_D A0 ws) (hS : va_S A0 H0 H locs) (hA : ∀ q : Nat, H0.size ≤ q → A0 q) (isC isR : List Nat) (hC : isC.map (fun i => ws[i]?) = wc.map some) (hRr : isR.map (fun i => ws[i]?) = wr.map some) (hnC : va_nd isC = true) (hnR : va_nd isR = true) (hdis : ∀ i ∈ isR, i ∉ isC) (htr : TR tr (va_A wc H.size) s H)
    (hc : vwCl[ci]? = some (C, T, N)) (he : wc[0]? = some (b, .inr (ci, fs))) (hn : As.length = n) (hsz : ls.size = nL) (hst : st0 = As.reverse ++ .ref b :: rest) (hcat : (rest.map fun v => v.category).sum ≤ 8) (hdg : decode cc pc = .ok (.invokevirtual index, 3)) (hcs : cells ≤ R.cells ∧ slots ≤ R.slots)
    (kk : ∀ (v : Option Value) (u : S) (H1 : Heap) (locs1 : List Loc), post v u → va_P D vwCl (wr ++ w' u) H1 → va_D A0 (wr ++ w' u) → va_S A0 H0 H1 locs1 → W p l e R s m args below meth c H1 locs1 cells slots Q (F0 m (pc + 3) ls (v.toList ++ rest))) : W p l e R s m args below meth c H locs cells slots Q (F0 m pc ls st0) := by
  have hDc := hD.sub (ws' := wc) isC hnC hC
  have hPc : va_P D vwCl wc H := fun k q hk => by
    have h1 : (isC.map (fun i => ws[i]?))[k]? = some (some q) := by rw [hC, List.getElem?_map, hk]; rfl
    rw [List.getElem?_map] at h1
    cases hi : isC[k]? with
    | none => rw [hi] at h1; cases h1
    | some i => rw [hi] at h1; exact hP i q (Option.some.inj h1)
  have hFc := va_free (wc := wc) hD hS hA isC hC
  refine mu_call (va_runV (As := As) (rest := rest) F (hM H.size) (cwV n F.2.2.2.2 hG hw rfl rfl hd hR) ⟨mu_blind, va_recv hK hPc hc he, fun U hU hW => ⟨rfl, by rw [hU], by rw [hU]; exact hPc, va_K.moved hW.alike hK, hDc.weaken (fun _ _ _ _ => trivial), by rw [hU]; exact htr.moved hW.alike⟩⟩ rfl hn hsz hst (lv_room hcat) hdg hcs) hS (fun q _ h => hFc q h) hFc ?_
  intro v u H1 locs1 hp hP1 hD1 hk1 hS1
  obtain ⟨hP2, hD2⟩ := va_join (wr := wr) (w1 := w' u) hP hD isC isR hC hRr hnR hdis hk1 hFc hP1 hD1
  exact kk v u H1 locs1 hp hP2 hD2 hS1
theorem ro_Vi {post : Int32 → Prop} (F : CallFix p m c cc nL s args Ts own) (hM : RO l y wsM fr lo D tys wc (.ref b :: As) (rI post)) (n : Nat) (hG : GoodIn Ts (wsV own index C y wsM)) (hw : wsM = Cond.code y bytes maxL ret :: ws') (hd : ndV y C n) (hR : fr + 1 ≤ R.frames ∧ 8 + (maxL + 11) + lo ≤ R.locals)
    (hK : va_K D vwCl tys s) (hP : va_P D vwCl ws H) (is : List Nat) (hs : is.filterMap (fun i => ws[i]?) = wc) (hc : vwCl[ci]? = some (C, T, N)) (he : wc[0]? = some (b, .inr (ci, fs))) (hn : As.length = n) (hsz : ls.size = nL) (hst : st0 = As.reverse ++ .ref b :: rest) (hcat : (rest.map fun v => v.category).sum ≤ 8) (hdg : decode cc pc = .ok (.invokevirtual index, 3)) (hcs : cells ≤ R.cells ∧ slots ≤ R.slots)
    (kk : ∀ r : Int32, post r → W p l e R s m args below meth c H locs cells slots Q (F0 m (pc + 3) ls (.int r :: rest))) : W p l e R s m args below meth c H locs cells slots Q (F0 m pc ls st0) := ro_V F hM n hG hw hd hR hK hP is hs hc he hn hsz hst hcat hdg hcs (fun v hv => by obtain ⟨r, rfl, h⟩ := hv; exact kk r h)
theorem ro_Vl {post : Int64 → Prop} (F : CallFix p m c cc nL s args Ts own) (hM : RO l y wsM fr lo D tys wc (.ref b :: As) (rL post)) (n : Nat) (hG : GoodIn Ts (wsV own index C y wsM)) (hw : wsM = Cond.code y bytes maxL ret :: ws') (hd : ndV y C n) (hR : fr + 1 ≤ R.frames ∧ 8 + (maxL + 11) + lo ≤ R.locals)
    (hK : va_K D vwCl tys s) (hP : va_P D vwCl ws H) (is : List Nat) (hs : is.filterMap (fun i => ws[i]?) = wc) (hc : vwCl[ci]? = some (C, T, N)) (he : wc[0]? = some (b, .inr (ci, fs))) (hn : As.length = n) (hsz : ls.size = nL) (hst : st0 = As.reverse ++ .ref b :: rest) (hcat : (rest.map fun v => v.category).sum ≤ 8) (hdg : decode cc pc = .ok (.invokevirtual index, 3)) (hcs : cells ≤ R.cells ∧ slots ≤ R.slots)
    (kk : ∀ r : Int64, post r → W p l e R s m args below meth c H locs cells slots Q (F0 m (pc + 3) ls (.long r :: rest))) : W p l e R s m args below meth c H locs cells slots Q (F0 m pc ls st0) := ro_V F hM n hG hw hd hR hK hP is hs hc he hn hsz hst hcat hdg hcs (fun v hv => by obtain ⟨r, rfl, h⟩ := hv; exact kk r h)
theorem ro_Va {post : Nat → Prop} (F : CallFix p m c cc nL s args Ts own) (hM : RO l y wsM fr lo D tys wc (.ref b :: As) (rA post)) (n : Nat) (hG : GoodIn Ts (wsV own index C y wsM)) (hw : wsM = Cond.code y bytes maxL ret :: ws') (hd : ndV y C n) (hR : fr + 1 ≤ R.frames ∧ 8 + (maxL + 11) + lo ≤ R.locals)
    (hK : va_K D vwCl tys s) (hP : va_P D vwCl ws H) (is : List Nat) (hs : is.filterMap (fun i => ws[i]?) = wc) (hc : vwCl[ci]? = some (C, T, N)) (he : wc[0]? = some (b, .inr (ci, fs))) (hn : As.length = n) (hsz : ls.size = nL) (hst : st0 = As.reverse ++ .ref b :: rest) (hcat : (rest.map fun v => v.category).sum ≤ 8) (hdg : decode cc pc = .ok (.invokevirtual index, 3)) (hcs : cells ≤ R.cells ∧ slots ≤ R.slots)
    (kk : ∀ r : Nat, post r → W p l e R s m args below meth c H locs cells slots Q (F0 m (pc + 3) ls (.ref r :: rest))) : W p l e R s m args below meth c H locs cells slots Q (F0 m pc ls st0) := ro_V F hM n hG hw hd hR hK hP is hs hc he hn hsz hst hcat hdg hcs (fun v hv => by obtain ⟨r, rfl, h⟩ := hv; exact kk r h)
theorem ro_Si {post : Int32 → Prop} (F : CallFix p m c cc nL s args Ts own) (hM : RO l y wsM fr lo D tys wc As (rI post)) (n : Nat) (hG : GoodIn Ts (va_wsS own index y wsM)) (hw : wsM = Cond.code y bytes maxL ret :: ws') (hd : ndV y C n) (hR : fr + 1 ≤ R.frames ∧ 8 + (maxL + 11) + lo ≤ R.locals)
    (hK : va_K D vwCl tys s) (hP : va_P D vwCl ws H) (is : List Nat) (hs : is.filterMap (fun i => ws[i]?) = wc) (hn : As.length = n) (hsz : ls.size = nL) (hst : st0 = As.reverse ++ rest) (hcat : (rest.map fun v => v.category).sum ≤ 8) (hdg : decode cc pc = .ok (.invokestatic index, 3)) (hcs : cells ≤ R.cells ∧ slots ≤ R.slots)
    (kk : ∀ r : Int32, post r → W p l e R s m args below meth c H locs cells slots Q (F0 m (pc + 3) ls (.int r :: rest))) : W p l e R s m args below meth c H locs cells slots Q (F0 m pc ls st0) := ro_S F hM n hG hw hd hR hK hP is hs hn hsz hst hcat hdg hcs (fun v hv => by obtain ⟨r, rfl, h⟩ := hv; exact kk r h)
theorem ro_Sl {post : Int64 → Prop} (F : CallFix p m c cc nL s args Ts own) (hM : RO l y wsM fr lo D tys wc As (rL post)) (n : Nat) (hG : GoodIn Ts (va_wsS own index y wsM)) (hw : wsM = Cond.code y bytes maxL ret :: ws') (hd : ndV y C n) (hR : fr + 1 ≤ R.frames ∧ 8 + (maxL + 11) + lo ≤ R.locals)
    (hK : va_K D vwCl tys s) (hP : va_P D vwCl ws H) (is : List Nat) (hs : is.filterMap (fun i => ws[i]?) = wc) (hn : As.length = n) (hsz : ls.size = nL) (hst : st0 = As.reverse ++ rest) (hcat : (rest.map fun v => v.category).sum ≤ 8) (hdg : decode cc pc = .ok (.invokestatic index, 3)) (hcs : cells ≤ R.cells ∧ slots ≤ R.slots)
    (kk : ∀ r : Int64, post r → W p l e R s m args below meth c H locs cells slots Q (F0 m (pc + 3) ls (.long r :: rest))) : W p l e R s m args below meth c H locs cells slots Q (F0 m pc ls st0) := ro_S F hM n hG hw hd hR hK hP is hs hn hsz hst hcat hdg hcs (fun v hv => by obtain ⟨r, rfl, h⟩ := hv; exact kk r h)
theorem ro_Sa {post : Nat → Prop} (F : CallFix p m c cc nL s args Ts own) (hM : RO l y wsM fr lo D tys wc As (rA post)) (n : Nat) (hG : GoodIn Ts (va_wsS own index y wsM)) (hw : wsM = Cond.code y bytes maxL ret :: ws') (hd : ndV y C n) (hR : fr + 1 ≤ R.frames ∧ 8 + (maxL + 11) + lo ≤ R.locals)
    (hK : va_K D vwCl tys s) (hP : va_P D vwCl ws H) (is : List Nat) (hs : is.filterMap (fun i => ws[i]?) = wc) (hn : As.length = n) (hsz : ls.size = nL) (hst : st0 = As.reverse ++ rest) (hcat : (rest.map fun v => v.category).sum ≤ 8) (hdg : decode cc pc = .ok (.invokestatic index, 3)) (hcs : cells ≤ R.cells ∧ slots ≤ R.slots)
    (kk : ∀ r : Nat, post r → W p l e R s m args below meth c H locs cells slots Q (F0 m (pc + 3) ls (.ref r :: rest))) : W p l e R s m args below meth c H locs cells slots Q (F0 m pc ls st0) := ro_S F hM n hG hw hd hR hK hP is hs hn hsz hst hcat hdg hcs (fun v hv => by obtain ⟨r, rfl, h⟩ := hv; exact kk r h)
theorem mu_Vi {S : Type} {post : Int32 → S → Prop} {w' : S → va_W} (F : CallFix p m c cc nL s args Ts own) (hM : MU l y wsM fr lo D tys wc tr (.ref b :: As) (fun v u => rI (fun r => post r u) v) w') (n : Nat) (hG : GoodIn Ts (wsV own index C y wsM)) (hw : wsM = Cond.code y bytes maxL ret :: ws') (hd : ndV y C n) (hR : fr + 1 ≤ R.frames ∧ 8 + (maxL + 11) + lo ≤ R.locals)
    (hK : va_K D vwCl tys s) (hP : va_P D vwCl ws H) (hD : va_D A0 ws) (hS : va_S A0 H0 H locs) (hA : ∀ q : Nat, H0.size ≤ q → A0 q) (isC isR : List Nat) (hC : isC.map (fun i => ws[i]?) = wc.map some) (hRr : isR.map (fun i => ws[i]?) = wr.map some) (hnC : va_nd isC = true) (hnR : va_nd isR = true) (hdis : ∀ i ∈ isR, i ∉ isC) (htr : TR tr (va_A wc H.size) s H)
    (hc : vwCl[ci]? = some (C, T, N)) (he : wc[0]? = some (b, .inr (ci, fs))) (hn : As.length = n) (hsz : ls.size = nL) (hst : st0 = As.reverse ++ .ref b :: rest) (hcat : (rest.map fun v => v.category).sum ≤ 8) (hdg : decode cc pc = .ok (.invokevirtual index, 3)) (hcs : cells ≤ R.cells ∧ slots ≤ R.slots)
    (kk : ∀ (r : Int32) (u : S) (H1 : Heap) (locs1 : List Loc), post r u → va_P D vwCl (wr ++ w' u) H1 → va_D A0 (wr ++ w' u) → va_S A0 H0 H1 locs1 → W p l e R s m args below meth c H1 locs1 cells slots Q (F0 m (pc + 3) ls (.int r :: rest))) : W p l e R s m args below meth c H locs cells slots Q (F0 m pc ls st0) := mu_V F hM n hG hw hd hR hK hP hD hS hA isC isR hC hRr hnC hnR hdis htr hc he hn hsz hst hcat hdg hcs (fun v u H1 locs1 hv h1 h2 h3 => by obtain ⟨r, rfl, h⟩ := hv; exact kk r u H1 locs1 h h1 h2 h3)
theorem mu_Vl {S : Type} {post : Int64 → S → Prop} {w' : S → va_W} (F : CallFix p m c cc nL s args Ts own) (hM : MU l y wsM fr lo D tys wc tr (.ref b :: As) (fun v u => rL (fun r => post r u) v) w') (n : Nat) (hG : GoodIn Ts (wsV own index C y wsM)) (hw : wsM = Cond.code y bytes maxL ret :: ws') (hd : ndV y C n) (hR : fr + 1 ≤ R.frames ∧ 8 + (maxL + 11) + lo ≤ R.locals)
    (hK : va_K D vwCl tys s) (hP : va_P D vwCl ws H) (hD : va_D A0 ws) (hS : va_S A0 H0 H locs) (hA : ∀ q : Nat, H0.size ≤ q → A0 q) (isC isR : List Nat) (hC : isC.map (fun i => ws[i]?) = wc.map some) (hRr : isR.map (fun i => ws[i]?) = wr.map some) (hnC : va_nd isC = true) (hnR : va_nd isR = true) (hdis : ∀ i ∈ isR, i ∉ isC) (htr : TR tr (va_A wc H.size) s H)
    (hc : vwCl[ci]? = some (C, T, N)) (he : wc[0]? = some (b, .inr (ci, fs))) (hn : As.length = n) (hsz : ls.size = nL) (hst : st0 = As.reverse ++ .ref b :: rest) (hcat : (rest.map fun v => v.category).sum ≤ 8) (hdg : decode cc pc = .ok (.invokevirtual index, 3)) (hcs : cells ≤ R.cells ∧ slots ≤ R.slots)
    (kk : ∀ (r : Int64) (u : S) (H1 : Heap) (locs1 : List Loc), post r u → va_P D vwCl (wr ++ w' u) H1 → va_D A0 (wr ++ w' u) → va_S A0 H0 H1 locs1 → W p l e R s m args below meth c H1 locs1 cells slots Q (F0 m (pc + 3) ls (.long r :: rest))) : W p l e R s m args below meth c H locs cells slots Q (F0 m pc ls st0) := mu_V F hM n hG hw hd hR hK hP hD hS hA isC isR hC hRr hnC hnR hdis htr hc he hn hsz hst hcat hdg hcs (fun v u H1 locs1 hv h1 h2 h3 => by obtain ⟨r, rfl, h⟩ := hv; exact kk r u H1 locs1 h h1 h2 h3)
theorem mu_Va {S : Type} {post : Nat → S → Prop} {w' : S → va_W} (F : CallFix p m c cc nL s args Ts own) (hM : MU l y wsM fr lo D tys wc tr (.ref b :: As) (fun v u => rA (fun r => post r u) v) w') (n : Nat) (hG : GoodIn Ts (wsV own index C y wsM)) (hw : wsM = Cond.code y bytes maxL ret :: ws') (hd : ndV y C n) (hR : fr + 1 ≤ R.frames ∧ 8 + (maxL + 11) + lo ≤ R.locals)
    (hK : va_K D vwCl tys s) (hP : va_P D vwCl ws H) (hD : va_D A0 ws) (hS : va_S A0 H0 H locs) (hA : ∀ q : Nat, H0.size ≤ q → A0 q) (isC isR : List Nat) (hC : isC.map (fun i => ws[i]?) = wc.map some) (hRr : isR.map (fun i => ws[i]?) = wr.map some) (hnC : va_nd isC = true) (hnR : va_nd isR = true) (hdis : ∀ i ∈ isR, i ∉ isC) (htr : TR tr (va_A wc H.size) s H)
    (hc : vwCl[ci]? = some (C, T, N)) (he : wc[0]? = some (b, .inr (ci, fs))) (hn : As.length = n) (hsz : ls.size = nL) (hst : st0 = As.reverse ++ .ref b :: rest) (hcat : (rest.map fun v => v.category).sum ≤ 8) (hdg : decode cc pc = .ok (.invokevirtual index, 3)) (hcs : cells ≤ R.cells ∧ slots ≤ R.slots)
    (kk : ∀ (r : Nat) (u : S) (H1 : Heap) (locs1 : List Loc), post r u → va_P D vwCl (wr ++ w' u) H1 → va_D A0 (wr ++ w' u) → va_S A0 H0 H1 locs1 → W p l e R s m args below meth c H1 locs1 cells slots Q (F0 m (pc + 3) ls (.ref r :: rest))) : W p l e R s m args below meth c H locs cells slots Q (F0 m pc ls st0) := mu_V F hM n hG hw hd hR hK hP hD hS hA isC isR hC hRr hnC hnR hdis htr hc he hn hsz hst hcat hdg hcs (fun v u H1 locs1 hv h1 h2 h3 => by obtain ⟨r, rfl, h⟩ := hv; exact kk r u H1 locs1 h h1 h2 h3)
theorem mu_Vv {S : Type} {post : S → Prop} {w' : S → va_W} (F : CallFix p m c cc nL s args Ts own) (hM : MU l y wsM fr lo D tys wc tr (.ref b :: As) (fun v u => rV (post u) v) w') (n : Nat) (hG : GoodIn Ts (wsV own index C y wsM)) (hw : wsM = Cond.code y bytes maxL ret :: ws') (hd : ndV y C n) (hR : fr + 1 ≤ R.frames ∧ 8 + (maxL + 11) + lo ≤ R.locals)
    (hK : va_K D vwCl tys s) (hP : va_P D vwCl ws H) (hD : va_D A0 ws) (hS : va_S A0 H0 H locs) (hA : ∀ q : Nat, H0.size ≤ q → A0 q) (isC isR : List Nat) (hC : isC.map (fun i => ws[i]?) = wc.map some) (hRr : isR.map (fun i => ws[i]?) = wr.map some) (hnC : va_nd isC = true) (hnR : va_nd isR = true) (hdis : ∀ i ∈ isR, i ∉ isC) (htr : TR tr (va_A wc H.size) s H)
    (hc : vwCl[ci]? = some (C, T, N)) (he : wc[0]? = some (b, .inr (ci, fs))) (hn : As.length = n) (hsz : ls.size = nL) (hst : st0 = As.reverse ++ .ref b :: rest) (hcat : (rest.map fun v => v.category).sum ≤ 8) (hdg : decode cc pc = .ok (.invokevirtual index, 3)) (hcs : cells ≤ R.cells ∧ slots ≤ R.slots)
    (kk : ∀ (u : S) (H1 : Heap) (locs1 : List Loc), post u → va_P D vwCl (wr ++ w' u) H1 → va_D A0 (wr ++ w' u) → va_S A0 H0 H1 locs1 → W p l e R s m args below meth c H1 locs1 cells slots Q (F0 m (pc + 3) ls (rest))) : W p l e R s m args below meth c H locs cells slots Q (F0 m pc ls st0) := mu_V F hM n hG hw hd hR hK hP hD hS hA isC isR hC hRr hnC hnR hdis htr hc he hn hsz hst hcat hdg hcs (fun v u H1 locs1 hv h1 h2 h3 => by obtain ⟨rfl, h⟩ := hv; exact kk u H1 locs1 h h1 h2 h3)
end CALLS
-- an array of the world that a callee doesn't write, as a table that it reads
theorem tr_world {D : va_G} {tys : List (ClassId × FieldType)} {ws wc : va_W} {A0 : Nat → Prop} {s : State} {H : Heap} (hK : va_K D vwCl tys s) (hP : va_P D vwCl ws H) (hD : va_D A0 ws) (isC : List Nat) (hC : isC.map (fun i => ws[i]?) = wc.map some) (q0 t0 : Nat) (hq : q0 ∉ isC) {cA : ClassId} {t n : Nat} {g : Nat → Nat} (ha : ws[q0]? = some (t, .inl (cA, n, .inl (nA g)))) (ht : tys[t0]? = some (cA, .int)) : va_T .int t n (fun j => .int (nA g j)) (va_A wc H.size) s H := by
  have h1 : H[t]? = some (vp_cell cA (n, .inl (nA g))) := hP q0 _ ha
  refine ⟨_, h1, (hK.2 t0 _ ht).1 n (fun j => .int (nA g j)), (fun q => by cases q), ?_, ?_, ?_, ?_⟩
  · show n ≤ (arrV _ _ _).slots.size
    rw [arrV_size]; exact Nat.le_refl n
  · show (arrV _ _ _).slots.size.toInt32 = _
    rw [arrV_size]
  · intro j hj
    exact arrV_read _ _ hj
  · rintro (⟨k, e, h⟩ | h)
    · have h2 : (isC.map (fun i => ws[i]?))[k]? = some (some (t, e)) := by rw [hC, List.getElem?_map, h]; rfl
      rw [List.getElem?_map] at h2
      cases hi : isC[k]? with
      | none => rw [hi] at h2; cases h2
      | some i =>
        rw [hi] at h2
        have h3 := hD.1 i q0 (t, e) _ (Option.some.inj h2) ha rfl
        subst h3
        exact hq (List.mem_of_getElem? hi)
    · have := (Array.getElem?_eq_some_iff.mp h1).1
      omega
end
section
-- the curve: a table T of visits, 10 * quarter + state at place 4 * state + place
def dsv (T : Nat → Nat) (half v p : Nat) : Nat := 4096 * (T (4 * (v / 4096) + p) % 10) + (v % 4096 + half * (T (4 * (v / 4096) + p) / 10 % 2 + T (4 * (v / 4096) + p) / 10 / 2 * 64))
def cvs (T : Nat → Nat) : Nat → Nat → Nat
  | 0, _ => 0
  | k + 1, i => T (4 * cvs T k (i / 4) + i % 4) % 10
def cvx (T : Nat → Nat) : Nat → Nat → Nat
  | 0, _ => 0
  | k + 1, i => 2 * cvx T k (i / 4) + T (4 * cvs T k (i / 4) + i % 4) / 10 % 2
def cvy (T : Nat → Nat) : Nat → Nat → Nat
  | 0, _ => 0
  | k + 1, i => 2 * cvy T k (i / 4) + T (4 * cvs T k (i / 4) + i % 4) / 10 / 2
/-- a table of n states -/
def VT (T : Nat → Nat) (n : Nat) : Prop := 0 < n ∧ n ≤ 8 ∧ (∀ s, s < n → ∀ p, p < 4 → T (4 * s + p) / 10 < 4 ∧ T (4 * s + p) % 10 < n) ∧ ∀ s, s < n → ∀ p, p < 4 → ∀ p', p' < 4 → T (4 * s + p) / 10 = T (4 * s + p') / 10 → p = p'
def cvc (T : Nat → Nat) (k i : Nat) : Nat := 64 * cvy T k i + cvx T k i
def sqv (T : Nat → Nat) (m k i : Nat) : Nat := 4096 * cvs T k i + 2 ^ (m - k) * cvc T k i
theorem p2_le {a b : Nat} (h : a ≤ b) : 2 ^ a ≤ 2 ^ b := Nat.pow_le_pow_right (by decide) h
theorem p4_le {a b : Nat} (h : a ≤ b) : 4 ^ a ≤ 4 ^ b := Nat.pow_le_pow_right (by decide) h
theorem p2_6 {m : Nat} (h : m ≤ 6) : 2 ^ m ≤ 64 := p2_le (b := 6) h
theorem p4_6 {m : Nat} (h : m ≤ 6) : 4 ^ m ≤ 4096 := p4_le (b := 6) h
theorem p2_pos (m : Nat) : 0 < 2 ^ m := Nat.pow_pos (by decide)
theorem p4_pos (m : Nat) : 0 < 4 ^ m := Nat.pow_pos (by decide)
theorem p4_s (m : Nat) : 4 ^ (m + 1) = 4 * 4 ^ m := by rw [Nat.pow_succ, Nat.mul_comm]
theorem p2_s (m : Nat) : 2 ^ (m + 1) = 2 * 2 ^ m := by rw [Nat.pow_succ, Nat.mul_comm]
theorem p24 (m : Nat) : 2 ^ (2 * m) = 4 ^ m := by rw [Nat.pow_mul]
theorem p22 (m : Nat) : 2 ^ m * 2 ^ m = 4 ^ m := by rw [← Nat.pow_add, ← p24]; congr 1; omega
theorem cvs_lt {T : Nat → Nat} {n : Nat} (h : VT T n) : ∀ k i, cvs T k i < n
  | 0, _ => h.1
  | k + 1, i => by
    unfold cvs
    exact (h.2.2.1 _ (cvs_lt h k (i / 4)) (i % 4) (Nat.mod_lt _ (by decide))).2
theorem cvx_lt (T : Nat → Nat) : ∀ k i, cvx T k i < 2 ^ k
  | 0, _ => by unfold cvx; exact p2_pos 0
  | k + 1, i => by
    unfold cvx
    have h1 := cvx_lt T k (i / 4)
    rw [p2_s]
    omega
theorem cvy_lt {T : Nat → Nat} {n : Nat} (h : VT T n) : ∀ k i, cvy T k i < 2 ^ k
  | 0, _ => by unfold cvy; exact p2_pos 0
  | k + 1, i => by
    unfold cvy
    have h1 := cvy_lt h k (i / 4)
    have h2 := (h.2.2.1 _ (cvs_lt h k (i / 4)) (i % 4) (Nat.mod_lt _ (by decide))).1
    rw [p2_s]
    omega
theorem cvx_up (T : Nat → Nat) (k i : Nat) : cvx T (k + 1) i / 2 = cvx T k (i / 4) := by
  rw [cvx]; omega
theorem cvy_up {T : Nat → Nat} {n : Nat} (h : VT T n) (k i : Nat) : cvy T (k + 1) i / 2 = cvy T k (i / 4) := by
  have h2 := (h.2.2.1 _ (cvs_lt h k (i / 4)) (i % 4) (Nat.mod_lt _ (by decide))).1
  rw [cvy]; omega
theorem cv_q {T : Nat → Nat} {n : Nat} (h : VT T n) (k i : Nat) : T (4 * cvs T k (i / 4) + i % 4) / 10 = 2 * (cvy T (k + 1) i % 2) + cvx T (k + 1) i % 2 := by
  have h2 := (h.2.2.1 _ (cvs_lt h k (i / 4)) (i % 4) (Nat.mod_lt _ (by decide))).1
  rw [cvy, cvx]; omega
/-- two indices with the same cell are one -/
theorem cv_inj {T : Nat → Nat} {n : Nat} (h : VT T n) : ∀ k i j, i < 4 ^ k → j < 4 ^ k → cvx T k i = cvx T k j → cvy T k i = cvy T k j → i = j
  | 0, i, j, hi, hj, _, _ => by
    have : (4 : Nat) ^ 0 = 1 := rfl
    omega
  | k + 1, i, j, hi, hj, hx, hy => by
    rw [p4_s] at hi hj
    have e := cv_inj h k (i / 4) (j / 4) (by omega) (by omega) (by rw [← cvx_up, ← cvx_up, hx]) (by rw [← cvy_up h, ← cvy_up h, hy])
    have q1 := cv_q h k i
    have q2 := cv_q h k j
    rw [hx, hy, ← q2, e] at q1
    have := h.2.2.2 _ (cvs_lt h k (j / 4)) _ (Nat.mod_lt i (by decide)) _ (Nat.mod_lt j (by decide)) q1
    omega
/-- every cell has an index -/
theorem cv_sur {T : Nat → Nat} {n : Nat} (h : VT T n) : ∀ k x y, x < 2 ^ k → y < 2 ^ k → ∃ i, i < 4 ^ k ∧ cvx T k i = x ∧ cvy T k i = y
  | 0, x, y, hx, hy => ⟨0, p4_pos 0, by
    have : (2 : Nat) ^ 0 = 1 := rfl
    unfold cvx; omega, by
    have : (2 : Nat) ^ 0 = 1 := rfl
    unfold cvy; omega⟩
  | k + 1, x, y, hx, hy => by
    rw [p2_s] at hx hy
    obtain ⟨i, hi, h1, h2⟩ := cv_sur h k (x / 2) (y / 2) (by omega) (by omega)
    have hs := cvs_lt h k i
    have f := h.2.2.1 _ hs
    have g := h.2.2.2 _ hs
    have e : ∃ p, p < 4 ∧ T (4 * cvs T k i + p) / 10 = 2 * (y % 2) + x % 2 := by
      have f0 := (f 0 (by decide)).1
      have f1 := (f 1 (by decide)).1
      have f2 := (f 2 (by decide)).1
      have f3 := (f 3 (by decide)).1
      have g01 := g 0 (by decide) 1 (by decide)
      have g02 := g 0 (by decide) 2 (by decide)
      have g03 := g 0 (by decide) 3 (by decide)
      have g12 := g 1 (by decide) 2 (by decide)
      have g13 := g 1 (by decide) 3 (by decide)
      have g23 := g 2 (by decide) 3 (by decide)
      have : T (4 * cvs T k i + 0) / 10 = 2 * (y % 2) + x % 2 ∨ T (4 * cvs T k i + 1) / 10 = 2 * (y % 2) + x % 2 ∨ T (4 * cvs T k i + 2) / 10 = 2 * (y % 2) + x % 2 ∨ T (4 * cvs T k i + 3) / 10 = 2 * (y % 2) + x % 2 := by omega
      rcases this with q | q | q | q
      · exact ⟨0, by decide, q⟩
      · exact ⟨1, by decide, q⟩
      · exact ⟨2, by decide, q⟩
      · exact ⟨3, by decide, q⟩
    obtain ⟨p, hp, hq⟩ := e
    have d1 : (4 * i + p) / 4 = i := by omega
    have d2 : (4 * i + p) % 4 = p := by omega
    refine ⟨4 * i + p, by rw [p4_s]; omega, ?_, ?_⟩
    · rw [cvx, d1, d2, hq, h1]; omega
    · rw [cvy, d1, d2, hq, h2]; omega
theorem cvc_mod {T : Nat → Nat} {k : Nat} (i : Nat) (hk : k ≤ 6) : cvc T k i % 64 = cvx T k i ∧ cvc T k i / 64 = cvy T k i := by
  have h1 := cvx_lt T k i
  have h2 := p2_6 hk
  unfold cvc
  omega
theorem cvc_lt {T : Nat → Nat} {n k : Nat} (h : VT T n) (i : Nat) (hk : k ≤ 6) : cvc T k i < 4096 := by
  have h1 := cvx_lt T k i
  have h3 := cvy_lt h k i
  have h2 := p2_6 hk
  unfold cvc
  omega
theorem cvc_inj {T : Nat → Nat} {n k : Nat} (h : VT T n) (hk : k ≤ 6) {i j : Nat} (hi : i < 4 ^ k) (hj : j < 4 ^ k) (e : cvc T k i = cvc T k j) : i = j := by
  have a := cvc_mod (T := T) (k := k) i hk
  have b := cvc_mod (T := T) (k := k) j hk
  exact cv_inj h k i j hi hj (by rw [← a.1, ← b.1, e]) (by rw [← a.2, ← b.2, e])
/-- the squares' corners stay in the grid -/
theorem sq_lt {T : Nat → Nat} {n m k : Nat} (h : VT T n) (hm : m ≤ 6) (hk : k ≤ m) (i : Nat) : 2 ^ (m - k) * cvc T k i < 4096 := by
  have h1 : 2 ^ (m - k) * (cvx T k i + 1) ≤ 2 ^ (m - k) * 2 ^ k := Nat.mul_le_mul_left _ (cvx_lt T k i)
  have h3 : 2 ^ (m - k) * (cvy T k i + 1) ≤ 2 ^ (m - k) * 2 ^ k := Nat.mul_le_mul_left _ (cvy_lt h k i)
  have h2 := p2_6 hm
  have h0 := p2_pos (m - k)
  have e : 2 ^ (m - k) * 2 ^ k = 2 ^ m := by rw [← Nat.pow_add]; congr 1; omega
  rw [e, Nat.mul_add, Nat.mul_one] at h1 h3
  unfold cvc
  rw [Nat.mul_add, Nat.mul_left_comm]
  omega
theorem dsv_sq {T : Nat → Nat} {n m k : Nat} (h : VT T n) (hm : m ≤ 6) (hk : k < m) (i p : Nat) (hp : p < 4) : dsv T (2 ^ (m - (k + 1))) (sqv T m k i) p = sqv T m (k + 1) (4 * i + p) := by
  have hl := sq_lt h hm (Nat.le_of_lt hk) i
  have d1 : (4 * i + p) / 4 = i := by omega
  have d2 : (4 * i + p) % 4 = p := by omega
  have e1 : sqv T m k i / 4096 = cvs T k i := by unfold sqv; omega
  have e2 : sqv T m k i % 4096 = 2 ^ (m - k) * cvc T k i := by unfold sqv; omega
  unfold dsv
  rw [e1, e2]
  have e3 : 2 ^ (m - k) = 2 * 2 ^ (m - (k + 1)) := by rw [← p2_s]; congr 1; omega
  unfold sqv cvc
  rw [cvs, cvx, cvy, d1, d2, e3]
  generalize 2 ^ (m - (k + 1)) = w
  generalize T (4 * cvs T k i + p) = v
  grind
/-- the numbering's rows, of a grid of m levels -/
def NumOK (T : Nat → Nat) (m : Nat) (g ix : Nat → Nat) : Prop := (∀ i, i < 4 ^ m → g i = cvc T m i) ∧ ∀ i, i < 4 ^ m → ix (cvc T m i) = i
theorem sqv_last (T : Nat → Nat) (m i : Nat) : sqv T m m i = 4096 * cvs T m i + cvc T m i := by
  unfold sqv
  rw [Nat.sub_self, Nat.pow_zero, Nat.one_mul]
theorem ds_new {T : Nat → Nat} {n m k : Nat} (h : VT T n) (hm : m ≤ 6) (hk : k < m) (i p : Nat) (hp : p < 4) : sqv T m k i % 4096 + 2 ^ (m - (k + 1)) * (T (4 * (sqv T m k i / 4096) + p) / 10 % 2 + T (4 * (sqv T m k i / 4096) + p) / 10 / 2 * 64) < 4096 := by
  have h1 := dsv_sq h hm hk i p hp
  have h2 := sq_lt h hm (show k + 1 ≤ m by omega) (4 * i + p)
  have hl := sq_lt h hm (Nat.le_of_lt hk) i
  have d1 : (4 * i + p) / 4 = i := by omega
  have d2 : (4 * i + p) % 4 = p := by omega
  have e1 : sqv T m k i / 4096 = cvs T k i := by unfold sqv; omega
  have e5 : cvs T (k + 1) (4 * i + p) = T (4 * cvs T k i + p) % 10 := by rw [cvs, d1, d2]
  unfold dsv at h1
  rw [sqv, sqv] at h1
  rw [show 4096 * cvs T k i + 2 ^ (m - k) * cvc T k i = sqv T m k i from rfl, e1, e5] at h1
  rw [e1]
  omega
theorem sq_st {T : Nat → Nat} {n m k : Nat} (h : VT T n) (hm : m ≤ 6) (hk : k ≤ m) (i : Nat) : sqv T m k i / 4096 < n := by
  have h1 := cvs_lt h k i
  have h2 := sq_lt h hm hk i
  unfold sqv
  omega
end
section
section NUM1
variable {l : Launch} {dC : Nat → ClassId} {dI : Nat → Nat → Nat} {cI cZ cS : ClassId}
theorem nd_X2_holds : ndV yX2_holds RX2 2 := by decide +kernel
theorem in_X2_holds_X2 : ∀ w ∈ wsX20, w ∈ wsX2_holds := fun _ h => List.mem_cons_of_mem _ (List.mem_append_right _ (h))
set_option maxHeartbeats 4000000 in
set_option maxRecDepth 100000 in
theorem c_X2_holds {h : Nat} {fs : List Value} {sd : Nat} {x : Int32} {y : Int32} (fsd : fs[0]? = some (.int (nI sd))) (hsd : sd ≤ 64) : RO l yX2_holds wsX2_holds 0 0 (dC, dI) (tyK cI cZ cS) [(h, .inr (2, fs))] [.ref h, .int x, .int y] (rI (fun r => (r = nI 1 ∧ (0 ≤ x.toInt ∧ x.toInt < sd ∧ 0 ≤ y.toInt ∧ y.toInt < sd)) ∨ (r = nI 0 ∧ (¬ (0 ≤ x.toInt ∧ x.toInt < sd ∧ 0 ≤ y.toInt ∧ y.toInt < sd))))) := by
  refine ro_of (by decide) rfl (Nat.le_of_ble_eq_true rfl) ?_
  intro pp ee ss mm bb mt cd Q F hP hK hret ls hl
  obtain ⟨hx, hb, hml, hown, hts⟩ := id F
  have hl : lv_has ls 3 [(0, .ref h), (1, .int x), (2, .int y)] := hl
  refine lv_iload_n hx hb dX2_holds_0 rfl (lv_at hl 1 rfl) ?_
  refine ni_if_lt (tgt := 28) (a := x.toInt) hx hb dX2_holds_1 (by decide) rfl (fun c_1 => ?_) (fun c_1 => ?_)
  · refine lv_iconst (v := nI 0) hx hb dX2_holds_28 rfl ?_
    exact hret _ _ _ _ (Or.inr (Or.inl ⟨rfl, _, (Or.inr rfl), rfl, rfl, dX2_holds_29⟩)) ⟨_, rfl, Or.inr ⟨rfl, (by omega)⟩⟩
  · refine lv_iload_n hx hb dX2_holds_4 rfl (lv_at hl 1 rfl) ?_
    refine lv_aload_n hx hb dX2_holds_5 rfl (lv_at hl 0 rfl) ?_
    refine nv_get (v := .int (nI sd)) F in_X2_holds_X2 hK hP 0 rfl rfl 0 (by decide) (List.mem_of_getElem? (i := 1) rfl) fsd dX2_holds_6 ?_
    refine ni_icmp_ge (tgt := 28) (a := x.toInt) (b := (sd : Int)) hx hb dX2_holds_9 (by decide) rfl (ni_toInt (by omega)) (fun c_2 => ?_) (fun c_2 => ?_)
    · refine lv_iconst (v := nI 0) hx hb dX2_holds_28 rfl ?_
      exact hret _ _ _ _ (Or.inr (Or.inl ⟨rfl, _, (Or.inr rfl), rfl, rfl, dX2_holds_29⟩)) ⟨_, rfl, Or.inr ⟨rfl, (by omega)⟩⟩
    · refine lv_iload_n hx hb dX2_holds_12 rfl (lv_at hl 2 rfl) ?_
      refine ni_if_lt (tgt := 28) (a := y.toInt) hx hb dX2_holds_13 (by decide) rfl (fun c_3 => ?_) (fun c_3 => ?_)
      · refine lv_iconst (v := nI 0) hx hb dX2_holds_28 rfl ?_
        exact hret _ _ _ _ (Or.inr (Or.inl ⟨rfl, _, (Or.inr rfl), rfl, rfl, dX2_holds_29⟩)) ⟨_, rfl, Or.inr ⟨rfl, (by omega)⟩⟩
      · refine lv_iload_n hx hb dX2_holds_16 rfl (lv_at hl 2 rfl) ?_
        refine lv_aload_n hx hb dX2_holds_17 rfl (lv_at hl 0 rfl) ?_
        refine nv_get (v := .int (nI sd)) F in_X2_holds_X2 hK hP 0 rfl rfl 0 (by decide) (List.mem_of_getElem? (i := 1) rfl) fsd dX2_holds_18 ?_
        refine ni_icmp_ge (tgt := 28) (a := y.toInt) (b := (sd : Int)) hx hb dX2_holds_21 (by decide) rfl (ni_toInt (by omega)) (fun c_4 => ?_) (fun c_4 => ?_)
        · refine lv_iconst (v := nI 0) hx hb dX2_holds_28 rfl ?_
          exact hret _ _ _ _ (Or.inr (Or.inl ⟨rfl, _, (Or.inr rfl), rfl, rfl, dX2_holds_29⟩)) ⟨_, rfl, Or.inr ⟨rfl, (by omega)⟩⟩
        · refine lv_iconst (v := nI 1) hx hb dX2_holds_24 rfl ?_
          refine lv_goto (tgt := 29) hx hb dX2_holds_25 (by decide) ?_
          exact hret _ _ _ _ (Or.inr (Or.inl ⟨rfl, _, (Or.inl rfl), rfl, rfl, dX2_holds_29⟩)) ⟨_, rfl, Or.inl ⟨rfl, (by omega)⟩⟩
theorem nd_X2_indexOf : ndV yX2_indexOf RX2 2 := by decide +kernel
theorem in_X2_indexOf_X2 : ∀ w ∈ wsX20, w ∈ wsX2_indexOf := fun _ h => List.mem_cons_of_mem _ (List.mem_append_right _ (h))
set_option maxHeartbeats 4000000 in
set_option maxRecDepth 100000 in
theorem c_X2_indexOf {h : Nat} {aI : Nat} {fs : List Value} {ix : Nat → Nat} {x : Nat} {y : Nat} (faI : fs[3]? = some (.ref aI)) (hix : ∀ j, ix j < 4096) (hx0 : x < 64) (hy0 : y < 64) : RO l yX2_indexOf wsX2_indexOf 0 0 (dC, dI) (tyK cI cZ cS) [(h, .inr (2, fs)), (aI, .inl (cI, 4096, .inl (nA ix)))] [.ref h, .int (nI x), .int (nI y)] (rI (fun r => r = nI (ix (y * 64 + x)))) := by
  refine ro_of (by decide) rfl (Nat.le_of_ble_eq_true rfl) ?_
  intro pp ee ss mm bb mt cd Q F hP hK hret ls hl
  obtain ⟨hx, hb, hml, hown, hts⟩ := id F
  have hl : lv_has ls 3 [(0, .ref h), (1, .int (nI x)), (2, .int (nI y))] := hl
  refine lv_aload_n hx hb dX2_indexOf_0 rfl (lv_at hl 0 rfl) ?_
  refine nv_get (v := .ref aI) F in_X2_indexOf_X2 hK hP 0 rfl rfl 3 (by decide) (List.mem_of_getElem? (i := 1) rfl) faI dX2_indexOf_1 ?_
  refine lv_iload_n hx hb dX2_indexOf_4 rfl (lv_at hl 2 rfl) ?_
  refine lv_bipush (v := nI 64) hx hb dX2_indexOf_5 rfl ?_
  refine nv_imul hx hb dX2_indexOf_7 ?_
  refine lv_iload_n hx hb dX2_indexOf_8 rfl (lv_at hl 1 rfl) ?_
  refine nv_iadd hx hb dX2_indexOf_9 ?_
  refine nv_iald hx hb hK hP 1 0 rfl rfl (by omega) (by omega) dX2_indexOf_10 ?_
  have hb_1 := hix (y * 64 + x)
  exact hret _ _ _ _ (Or.inl ⟨rfl, _, rfl, rfl, dX2_indexOf_11⟩) ⟨_, rfl, rfl⟩
theorem nd_X2_xAt : ndV yX2_xAt RX2 1 := by decide +kernel
theorem in_X2_xAt_X2 : ∀ w ∈ wsX20, w ∈ wsX2_xAt := fun _ h => List.mem_cons_of_mem _ (List.mem_append_right _ (h))
set_option maxHeartbeats 4000000 in
set_option maxRecDepth 100000 in
theorem c_X2_xAt {h : Nat} {aC : Nat} {fs : List Value} {g : Nat → Nat} {i : Nat} (faC : fs[2]? = some (.ref aC)) (hg : ∀ j, g j < 4096) (hi0 : i < 4096) : RO l yX2_xAt wsX2_xAt 0 0 (dC, dI) (tyK cI cZ cS) [(h, .inr (2, fs)), (aC, .inl (cI, 4096, .inl (nA g)))] [.ref h, .int (nI i)] (rI (fun r => r = nI (g i % 64))) := by
  refine ro_of (by decide) rfl (Nat.le_of_ble_eq_true rfl) ?_
  intro pp ee ss mm bb mt cd Q F hP hK hret ls hl
  obtain ⟨hx, hb, hml, hown, hts⟩ := id F
  have hl : lv_has ls 2 [(0, .ref h), (1, .int (nI i))] := hl
  refine lv_aload_n hx hb dX2_xAt_0 rfl (lv_at hl 0 rfl) ?_
  refine nv_get (v := .ref aC) F in_X2_xAt_X2 hK hP 0 rfl rfl 2 (by decide) (List.mem_of_getElem? (i := 1) rfl) faC dX2_xAt_1 ?_
  refine lv_iload_n hx hb dX2_xAt_4 rfl (lv_at hl 1 rfl) ?_
  refine nv_iald hx hb hK hP 1 0 rfl rfl (by omega) (by omega) dX2_xAt_5 ?_
  have hb_1 := hg i
  refine lv_bipush (v := nI 64) hx hb dX2_xAt_6 rfl ?_
  refine nv_irem hx hb dX2_xAt_8 (by omega) (by omega) (by omega) ?_
  exact hret _ _ _ _ (Or.inl ⟨rfl, _, rfl, rfl, dX2_xAt_9⟩) ⟨_, rfl, rfl⟩
theorem nd_X2_yAt : ndV yX2_yAt RX2 1 := by decide +kernel
theorem in_X2_yAt_X2 : ∀ w ∈ wsX20, w ∈ wsX2_yAt := fun _ h => List.mem_cons_of_mem _ (List.mem_append_right _ (h))
set_option maxHeartbeats 4000000 in
set_option maxRecDepth 100000 in
theorem c_X2_yAt {h : Nat} {aC : Nat} {fs : List Value} {g : Nat → Nat} {i : Nat} (faC : fs[2]? = some (.ref aC)) (hg : ∀ j, g j < 4096) (hi0 : i < 4096) : RO l yX2_yAt wsX2_yAt 0 0 (dC, dI) (tyK cI cZ cS) [(h, .inr (2, fs)), (aC, .inl (cI, 4096, .inl (nA g)))] [.ref h, .int (nI i)] (rI (fun r => r = nI (g i / 64))) := by
  refine ro_of (by decide) rfl (Nat.le_of_ble_eq_true rfl) ?_
  intro pp ee ss mm bb mt cd Q F hP hK hret ls hl
  obtain ⟨hx, hb, hml, hown, hts⟩ := id F
  have hl : lv_has ls 2 [(0, .ref h), (1, .int (nI i))] := hl
  refine lv_aload_n hx hb dX2_yAt_0 rfl (lv_at hl 0 rfl) ?_
  refine nv_get (v := .ref aC) F in_X2_yAt_X2 hK hP 0 rfl rfl 2 (by decide) (List.mem_of_getElem? (i := 1) rfl) faC dX2_yAt_1 ?_
  refine lv_iload_n hx hb dX2_yAt_4 rfl (lv_at hl 1 rfl) ?_
  refine nv_iald hx hb hK hP 1 0 rfl rfl (by omega) (by omega) dX2_yAt_5 ?_
  have hb_1 := hg i
  refine lv_bipush (v := nI 64) hx hb dX2_yAt_6 rfl ?_
  refine nv_idiv hx hb dX2_yAt_8 (by omega) (by omega) (by omega) ?_
  exact hret _ _ _ _ (Or.inl ⟨rfl, _, rfl, rfl, dX2_yAt_9⟩) ⟨_, rfl, rfl⟩
end NUM1
end
section
section NUM2
variable {l : Launch} {dC : Nat → ClassId} {dI : Nat → Nat → Nat} {cI cZ cS : ClassId}
theorem nd_X2_divideSquares : ndV yX2_divideSquares RX2 3 := by decide +kernel
theorem in_X2_divideSquares_X2 : ∀ w ∈ wsX20, w ∈ wsX2_divideSquares := fun _ h => List.mem_cons_of_mem _ (List.mem_append_right _ (h))
set_option maxHeartbeats 4000000 in
set_option maxRecDepth 100000 in
theorem c_X2_divideSquares {h : Nat} {aC : Nat} {v0 : Value} {v1 : Value} {aI : Nat} {g0 : Nat → Nat} {sq : Nat} {half : Nat} {tA : Nat} {nt : Nat} {T : Nat → Nat} {ns : Nat} (hg0 : ∀ j, g0 j < 40960) (hsq : 1 ≤ sq ∧ 4 * sq ≤ 4096) (hnt : 4 * ns ≤ nt ∧ nt ≤ 32) (hT : ∀ j, T j < 100) (hst : ∀ i, i < sq → g0 i / 4096 < ns) (hhalf : half ≤ 64) (hnew : ∀ i, i < sq → ∀ p, p < 4 → g0 i % 4096 + half * (T (4 * (g0 i / 4096) + p) / 10 % 2 + T (4 * (g0 i / 4096) + p) / 10 / 2 * 64) < 4096) : MU l yX2_divideSquares wsX2_divideSquares 0 0 (dC, dI) (tyK cI cZ cS) [(h, .inr (2, [v0, v1, .ref aC, .ref aI])), (aC, .inl (cI, 4096, .inl (nA g0)))] [(tA, nt, T)] [.ref h, .int (nI sq), .int (nI half), .ref tA] (fun v (u : (Nat → Nat)) => rV ((∀ j, u j < 40960) ∧ (∀ i, i < sq → ∀ p, p < 4 → u (4 * i + p) = dsv T half (g0 i) p) ∧ (∀ j, 4 * sq ≤ j → u j = g0 j)) v) (fun (u : (Nat → Nat)) => [(h, .inr (2, [v0, v1, .ref aC, .ref aI])), (aC, .inl (cI, 4096, .inl (nA u)))]) := by
  refine mu_of (by decide) rfl (Nat.le_of_ble_eq_true rfl) ?_
  intro pp ee ss mm bb mt cd Q A F hP hK hD hS hA hTr hret ls hl
  obtain ⟨hx, hb, hml, hown, hts⟩ := id F
  have hl : lv_has ls 11 [(0, .ref h), (1, .int (nI sq)), (2, .int (nI half)), (3, .ref tA)] := hl
  have hT0_ : va_T .int tA nt (fun j => .int (nA T j)) A ss ss.heap := hTr _ (List.mem_of_getElem? (i := 0) rfl)
  have hTb := hT
  refine lv_iload_n hx hb dX2_divideSquares_0 rfl (lv_at hl 1 rfl) ?_
  refine lv_iconst (v := nI 1) hx hb dX2_divideSquares_1 rfl ?_
  refine nz_isub (a := (sq : Int)) (b := (1 : Int)) hx hb dX2_divideSquares_2 (ni_nz _) (ni_nz _) ?_
  refine lv_istore (lv' := [(4, .int (zI ((sq : Int) - (1 : Int)))), (0, .ref h), (1, .int (nI sq)), (2, .int (nI half)), (3, .ref tA)]) hx hb dX2_divideSquares_3 hl (by decide) rfl (fun ls hl => ?_)
  have loop5 : ∀ (nn : Nat) (z : Int) (k : Nat) (gg : Nat → Nat), k < nn → (z = (k : Int) - 1) → (k ≤ sq) → (∀ j, gg j < 40960) → (∀ j, j < k → gg j = g0 j) → (∀ j, k ≤ j → j < sq → ∀ p, p < 4 → gg (4 * j + p) = dsv T half (g0 j) p) → (∀ j, 4 * sq ≤ j → gg j = g0 j) → ∀ (H : Heap) (locs : List Loc), va_P (dC, dI) vwCl [(h, .inr (2, [v0, v1, .ref aC, .ref aI])), (aC, .inl (cI, 4096, .inl (nA gg)))] H → va_D A [(h, .inr (2, [v0, v1, .ref aC, .ref aI])), (aC, .inl (cI, 4096, .inl (nA gg)))] → va_S A ss.heap H locs → ∀ ls : Array Slot, lv_has ls 11 [(4, .int (zI z)), (0, .ref h), (1, .int (nI sq)), (2, .int (nI half)), (3, .ref tA)] → W pp l ee (rmO 0 0) ss mm ([.ref h, .int (nI sq), .int (nI half), .ref tA] : List Value).toArray bb mt cd H locs 0 0 Q (F0 mm 5 ls []) := by
    intro nn
    induction nn with
    | zero => intro z k gg hm5; exact absurd hm5 (Nat.not_lt_zero _)
    | succ nn ih5 =>
      intro z k gg hm5 hz hk hgg hlow hdone hhi H locs hP hD hS ls hl
      refine lv_iload hx hb dX2_divideSquares_5 (lv_at hl 0 rfl) ?_
      refine ni_if_lt (tgt := 118) (a := z) hx hb dX2_divideSquares_7 (by decide) (zI_toInt (by omega) (by omega)) (fun c_1 => ?_) (fun c_1 => ?_)
      · exact hret _ gg _ _ _ _ _ (Or.inr (Or.inr (Or.inl ⟨rfl, rfl, rfl, dX2_divideSquares_118⟩))) ⟨rfl, ⟨hgg, (fun i hi p hp => hdone i (by omega) hi p hp), hhi⟩⟩ hP hD hS
      · obtain ⟨i, rfl⟩ : ∃ i : Nat, z = (i : Int) := ⟨z.toNat, by omega⟩
        rw [zI_nat] at hl
        have hgi : gg i = g0 i := hlow i (by omega)
        have hsi := hst i (by omega)
        refine lv_aload_n hx hb dX2_divideSquares_10 rfl (lv_at hl 1 rfl) ?_
        refine nv_get (v := .ref aC) F in_X2_divideSquares_X2 hK hP 0 rfl rfl 2 (by decide) (List.mem_of_getElem? (i := 1) rfl) rfl dX2_divideSquares_11 ?_
        refine lv_iload hx hb dX2_divideSquares_14 (lv_at hl 0 rfl) ?_
        refine nv_iald hx hb hK hP 1 0 rfl rfl (by omega) (by omega) dX2_divideSquares_16 ?_
        have hb_2 := hgg i
        refine lv_sipush (v := nI 4096) hx hb dX2_divideSquares_17 rfl ?_
        refine nv_idiv hx hb dX2_divideSquares_20 (by omega) (by omega) (by omega) ?_
        refine lv_istore (lv' := [(5, .int (nI (gg i / 4096))), (4, .int (nI i)), (0, .ref h), (1, .int (nI sq)), (2, .int (nI half)), (3, .ref tA)]) hx hb dX2_divideSquares_21 hl (by decide) rfl (fun ls hl => ?_)
        refine lv_aload_n hx hb dX2_divideSquares_23 rfl (lv_at hl 2 rfl) ?_
        refine nv_get (v := .ref aC) F in_X2_divideSquares_X2 hK hP 0 rfl rfl 2 (by decide) (List.mem_of_getElem? (i := 1) rfl) rfl dX2_divideSquares_24 ?_
        refine lv_iload hx hb dX2_divideSquares_27 (lv_at hl 1 rfl) ?_
        refine nv_iald hx hb hK hP 1 0 rfl rfl (by omega) (by omega) dX2_divideSquares_29 ?_
        have hb_3 := hgg i
        refine lv_sipush (v := nI 4096) hx hb dX2_divideSquares_30 rfl ?_
        refine nv_irem hx hb dX2_divideSquares_33 (by omega) (by omega) (by omega) ?_
        refine lv_istore (lv' := [(6, .int (nI (gg i % 4096))), (5, .int (nI (gg i / 4096))), (4, .int (nI i)), (0, .ref h), (1, .int (nI sq)), (2, .int (nI half)), (3, .ref tA)]) hx hb dX2_divideSquares_34 hl (by decide) rfl (fun ls hl => ?_)
        refine lv_iconst (v := nI 0) hx hb dX2_divideSquares_36 rfl ?_
        refine lv_istore (lv' := [(7, .int (nI 0)), (6, .int (nI (gg i % 4096))), (5, .int (nI (gg i / 4096))), (4, .int (nI i)), (0, .ref h), (1, .int (nI sq)), (2, .int (nI half)), (3, .ref tA)]) hx hb dX2_divideSquares_37 hl (by decide) rfl (fun ls hl => ?_)
        have loop39 : ∀ (nn : Nat) (p : Nat) (gp : Nat → Nat), (4 - p) < nn → (p ≤ 4) → (∀ j, gp j < 40960) → (∀ j, j < i → gp j = g0 j) → (∀ i2, i < i2 → i2 < sq → ∀ p, p < 4 → gp (4 * i2 + p) = dsv T half (g0 i2) p) → (∀ i2, i2 = i → ∀ p2, p2 < p → gp (4 * i2 + p2) = dsv T half (g0 i) p2) → (∀ j, 4 * sq ≤ j → gp j = g0 j) → ∀ (H : Heap) (locs : List Loc), va_P (dC, dI) vwCl [(h, .inr (2, [v0, v1, .ref aC, .ref aI])), (aC, .inl (cI, 4096, .inl (nA gp)))] H → va_D A [(h, .inr (2, [v0, v1, .ref aC, .ref aI])), (aC, .inl (cI, 4096, .inl (nA gp)))] → va_S A ss.heap H locs → ∀ ls : Array Slot, lv_has ls 11 [(7, .int (nI p)), (6, .int (nI (gg i % 4096))), (5, .int (nI (gg i / 4096))), (4, .int (nI i)), (0, .ref h), (1, .int (nI sq)), (2, .int (nI half)), (3, .ref tA)] → W pp l ee (rmO 0 0) ss mm ([.ref h, .int (nI sq), .int (nI half), .ref tA] : List Value).toArray bb mt cd H locs 0 0 Q (F0 mm 39 ls []) := by
          intro nn
          induction nn with
          | zero => intro p gp hm39; exact absurd hm39 (Nat.not_lt_zero _)
          | succ nn ih39 =>
            intro p gp hm39 hp4 hgp hlow2 hdone2 hp hhi2 H locs hP hD hS ls hl
            refine lv_iload hx hb dX2_divideSquares_39 (lv_at hl 0 rfl) ?_
            refine lv_iconst (v := nI 4) hx hb dX2_divideSquares_41 rfl ?_
            refine nv_icmp_ge (tgt := 112) hx hb dX2_divideSquares_42 (by decide) (by omega) (by omega) (fun c_4 => ?_) (fun c_4 => ?_)
            · refine lv_iinc (v := zI ((i : Int) - 1)) (lv' := [(4, .int (zI ((i : Int) - 1))), (7, .int (nI p)), (6, .int (nI (gg i % 4096))), (5, .int (nI (gg i / 4096))), (0, .ref h), (1, .int (nI sq)), (2, .int (nI half)), (3, .ref tA)]) hx hb dX2_divideSquares_112 hl (k := 3) rfl (by rw [ni_nz]; exact ni_decz _) (by decide) rfl (fun ls hl => ?_)
              refine lv_goto (tgt := 5) hx hb dX2_divideSquares_115 (by decide) ?_
              have pf_5 : ∀ j, i ≤ j → j < sq → ∀ p, p < 4 → gp (4 * j + p) = dsv T half (g0 j) p := by
                intro i2 h1 h2 p2 hp2
                rcases Nat.lt_or_ge i i2 with q | q
                · exact hdone2 i2 (by omega) h2 p2 hp2
                · have e : i2 = i := by omega
                  rw [e]; exact hp i rfl p2 (by omega)
              exact ih5 ((i : Int) - 1) i gp (by omega) (by omega) (by omega) hgp hlow2 pf_5 hhi2 _ _ hP hD hS _ (lv_sub hl [0, 4, 5, 6, 7] rfl)
            · refine lv_aload_n hx hb dX2_divideSquares_45 rfl (lv_at hl 7 rfl) ?_
              refine lv_iconst (v := nI 4) hx hb dX2_divideSquares_46 rfl ?_
              refine lv_iload hx hb dX2_divideSquares_47 (lv_at hl 2 rfl) ?_
              refine nv_imul hx hb dX2_divideSquares_49 ?_
              refine lv_iload hx hb dX2_divideSquares_50 (lv_at hl 0 rfl) ?_
              refine nv_iadd hx hb dX2_divideSquares_52 ?_
              refine va_ti (v := .int (nI (T (4 * (gg i / 4096) + p)))) hx hb hT0_ hS (ni_in (by omega) (by omega)) (by rw [ni_cl (by omega)]; rfl) dX2_divideSquares_53 ?_
              have hb_6 := hTb (4 * (gg i / 4096) + p)
              refine lv_istore (lv' := [(8, .int (nI (T (4 * (gg i / 4096) + p)))), (7, .int (nI p)), (6, .int (nI (gg i % 4096))), (5, .int (nI (gg i / 4096))), (4, .int (nI i)), (0, .ref h), (1, .int (nI sq)), (2, .int (nI half)), (3, .ref tA)]) hx hb dX2_divideSquares_54 hl (by decide) rfl (fun ls hl => ?_)
              refine lv_iload hx hb dX2_divideSquares_56 (lv_at hl 0 rfl) ?_
              refine lv_bipush (v := nI 10) hx hb dX2_divideSquares_58 rfl ?_
              refine nv_idiv hx hb dX2_divideSquares_60 (by omega) (by omega) (by omega) ?_
              refine lv_istore (lv' := [(9, .int (nI (T (4 * (gg i / 4096) + p) / 10))), (8, .int (nI (T (4 * (gg i / 4096) + p)))), (7, .int (nI p)), (6, .int (nI (gg i % 4096))), (5, .int (nI (gg i / 4096))), (4, .int (nI i)), (0, .ref h), (1, .int (nI sq)), (2, .int (nI half)), (3, .ref tA)]) hx hb dX2_divideSquares_61 hl (by decide) rfl (fun ls hl => ?_)
              refine lv_iload hx hb dX2_divideSquares_63 (lv_at hl 3 rfl) ?_
              refine lv_iload_n hx hb dX2_divideSquares_65 rfl (lv_at hl 8 rfl) ?_
              refine lv_iload hx hb dX2_divideSquares_66 (lv_at hl 0 rfl) ?_
              refine lv_iconst (v := nI 2) hx hb dX2_divideSquares_68 rfl ?_
              refine nv_irem hx hb dX2_divideSquares_69 (by omega) (by omega) (by omega) ?_
              refine lv_iload hx hb dX2_divideSquares_70 (lv_at hl 0 rfl) ?_
              refine lv_iconst (v := nI 2) hx hb dX2_divideSquares_72 rfl ?_
              refine nv_idiv hx hb dX2_divideSquares_73 (by omega) (by omega) (by omega) ?_
              refine lv_bipush (v := nI 64) hx hb dX2_divideSquares_74 rfl ?_
              refine nv_imul hx hb dX2_divideSquares_76 ?_
              refine nv_iadd hx hb dX2_divideSquares_77 ?_
              refine nv_imul hx hb dX2_divideSquares_78 ?_
              refine nv_iadd hx hb dX2_divideSquares_79 ?_
              refine lv_istore (lv' := [(10, .int (nI (gg i % 4096 + half * ((T (4 * (gg i / 4096) + p) / 10) % 2 + (T (4 * (gg i / 4096) + p) / 10) / 2 * 64)))), (9, .int (nI (T (4 * (gg i / 4096) + p) / 10))), (8, .int (nI (T (4 * (gg i / 4096) + p)))), (7, .int (nI p)), (6, .int (nI (gg i % 4096))), (5, .int (nI (gg i / 4096))), (4, .int (nI i)), (0, .ref h), (1, .int (nI sq)), (2, .int (nI half)), (3, .ref tA)]) hx hb dX2_divideSquares_80 hl (by decide) rfl (fun ls hl => ?_)
              refine lv_aload_n hx hb dX2_divideSquares_82 rfl (lv_at hl 7 rfl) ?_
              refine nv_get (v := .ref aC) F in_X2_divideSquares_X2 hK hP 0 rfl rfl 2 (by decide) (List.mem_of_getElem? (i := 1) rfl) rfl dX2_divideSquares_83 ?_
              refine lv_iconst (v := nI 4) hx hb dX2_divideSquares_86 rfl ?_
              refine lv_iload hx hb dX2_divideSquares_87 (lv_at hl 6 rfl) ?_
              refine nv_imul hx hb dX2_divideSquares_89 ?_
              refine lv_iload hx hb dX2_divideSquares_90 (lv_at hl 3 rfl) ?_
              refine nv_iadd hx hb dX2_divideSquares_92 ?_
              refine lv_sipush (v := nI 4096) hx hb dX2_divideSquares_93 rfl ?_
              refine lv_iload hx hb dX2_divideSquares_96 (lv_at hl 2 rfl) ?_
              refine lv_bipush (v := nI 10) hx hb dX2_divideSquares_98 rfl ?_
              refine nv_irem hx hb dX2_divideSquares_100 (by omega) (by omega) (by omega) ?_
              refine nv_imul hx hb dX2_divideSquares_101 ?_
              refine lv_iload hx hb dX2_divideSquares_102 (lv_at hl 0 rfl) ?_
              refine nv_iadd hx hb dX2_divideSquares_104 ?_
              have hnw := hnew i (by omega) p (by omega)
              rw [← hgi] at hnw
              refine nv_iast hx hb hK hP hD hS 1 0 rfl rfl (by omega) (by omega) dX2_divideSquares_105 (fun H locs hP hD hS => ?_)
              have hP : va_P (dC, dI) vwCl [(h, .inr (2, [v0, v1, .ref aC, .ref aI])), (aC, .inl (cI, 4096, .inl (nA (upN gp (4 * i + p) (4096 * (T (4 * (gg i / 4096) + p) % 10) + (gg i % 4096 + half * ((T (4 * (gg i / 4096) + p) / 10) % 2 + (T (4 * (gg i / 4096) + p) / 10) / 2 * 64)))))))] H := hP
              have hD : va_D A [(h, .inr (2, [v0, v1, .ref aC, .ref aI])), (aC, .inl (cI, 4096, .inl (nA (upN gp (4 * i + p) (4096 * (T (4 * (gg i / 4096) + p) % 10) + (gg i % 4096 + half * ((T (4 * (gg i / 4096) + p) / 10) % 2 + (T (4 * (gg i / 4096) + p) / 10) / 2 * 64)))))))] := hD
              have hB_7 := upN_lt (k := 4 * i + p) (x := 4096 * (T (4 * (gg i / 4096) + p) % 10) + (gg i % 4096 + half * ((T (4 * (gg i / 4096) + p) / 10) % 2 + (T (4 * (gg i / 4096) + p) / 10) / 2 * 64))) hgp (by omega)
              refine lv_iinc (v := nI (p + 1)) (lv' := [(7, .int (nI (p + 1))), (10, .int (nI (gg i % 4096 + half * ((T (4 * (gg i / 4096) + p) / 10) % 2 + (T (4 * (gg i / 4096) + p) / 10) / 2 * 64)))), (9, .int (nI (T (4 * (gg i / 4096) + p) / 10))), (8, .int (nI (T (4 * (gg i / 4096) + p)))), (6, .int (nI (gg i % 4096))), (5, .int (nI (gg i / 4096))), (4, .int (nI i)), (0, .ref h), (1, .int (nI sq)), (2, .int (nI half)), (3, .ref tA)]) hx hb dX2_divideSquares_106 hl (k := 3) rfl (ni_inc _) (by decide) rfl (fun ls hl => ?_)
              refine lv_goto (tgt := 39) hx hb dX2_divideSquares_109 (by decide) ?_
              have pf_8 : ∀ i2, i2 = i → ∀ p2, p2 < (p + 1) → (upN gp (4 * i + p) (4096 * (T (4 * (gg i / 4096) + p) % 10) + (gg i % 4096 + half * ((T (4 * (gg i / 4096) + p) / 10) % 2 + (T (4 * (gg i / 4096) + p) / 10) / 2 * 64)))) (4 * i2 + p2) = dsv T half (g0 i) p2 := by
                intro i2 e p2 h
                subst e
                rcases Nat.lt_or_ge p2 p with q | q
                · rw [upN_n (by omega)]; exact hp i2 rfl p2 q
                · have e : p2 = p := by omega
                  rw [e, upN_s, hgi]; rfl
              exact ih39 (p + 1) (upN gp (4 * i + p) (4096 * (T (4 * (gg i / 4096) + p) % 10) + (gg i % 4096 + half * ((T (4 * (gg i / 4096) + p) / 10) % 2 + (T (4 * (gg i / 4096) + p) / 10) / 2 * 64)))) (by omega) (by omega) hB_7 (fun j hj => by rw [upN_n (by omega)]; exact hlow2 j hj) (fun i2 h1 h2 p2 hp2 => by rw [upN_n (by omega)]; exact hdone2 i2 h1 h2 p2 hp2) pf_8 (fun j hj => by rw [upN_n (by omega)]; exact hhi2 j hj) _ _ hP hD hS _ (lv_sub hl [0, 4, 5, 6, 7, 8, 9, 10] rfl)
        exact loop39 _ 0 gg (Nat.lt_succ_self _) (by omega) hgg (fun j hj => hlow j (by omega)) (fun i2 h1 h2 => hdone i2 (by omega) h2) (fun _ _ p2 h => absurd h (by omega)) hhi _ _ hP hD hS _ (lv_sub hl [0, 1, 2, 3, 4, 5, 6, 7] rfl)
  exact loop5 _ ((sq : Int) - (1 : Int)) sq g0 (Nat.lt_succ_self _) (by omega) (by omega) hg0 (fun _ _ => rfl) (fun i h1 h2 => absurd h2 (by omega)) (fun _ _ => rfl) _ _ hP hD hS _ (lv_sub hl [0, 1, 2, 3, 4] rfl)
theorem TR.lower {tr : List (Nat × Nat × (Nat → Nat))} {A B : Nat → Prop} {s : State} {H0 H : Heap} {locs : List Loc} (h : TR tr A s H0) (hS : va_S A H0 H locs) (hAB : ∀ q, B q → A q) : TR tr B s H := fun q hq => ((h q hq).kept hS.2.1).narrow hAB
theorem nd_X2_fill : ndV yX2_fill RX2 2 := by decide +kernel
theorem in_X2_fill_X2 : ∀ w ∈ wsX20, w ∈ wsX2_fill := fun _ h => List.mem_cons_of_mem _ (List.mem_append_right _ (h))
set_option maxHeartbeats 4000000 in
set_option maxRecDepth 100000 in
theorem c_X2_fill {h : Nat} {aC : Nat} {aI : Nat} {v0 : Value} {v1 : Value} {g0 : Nat → Nat} {ix0 : Nat → Nat} {m : Nat} {tA : Nat} {nt : Nat} {T : Nat → Nat} {ns : Nat} (hg0 : ∀ j, g0 j < 4096) (hix0 : ∀ j, ix0 j < 4096) (hnt : 4 * ns ≤ nt ∧ nt ≤ 32) (hT : ∀ j, T j < 100) (hV : VT T ns) (hm1 : 1 ≤ m) (hm6 : m ≤ 6) : MU l yX2_fill wsX2_fill 1 30 (dC, dI) (tyK cI cZ cS) [(h, .inr (2, [v0, v1, .ref aC, .ref aI])), (aC, .inl (cI, 4096, .inl (nA g0))), (aI, .inl (cI, 4096, .inl (nA ix0)))] [(tA, nt, T)] [.ref h, .int (nI m), .ref tA] (fun v (u : (Nat → Nat) × (Nat → Nat)) => rV (NumOK T m u.1 u.2 ∧ (∀ j, u.1 j < 4096) ∧ (∀ j, u.2 j < 4096)) v) (fun (u : (Nat → Nat) × (Nat → Nat)) => [(h, .inr (2, [.int (nI (2 ^ m)), .int (nI (4 ^ m)), .ref aC, .ref aI])), (aC, .inl (cI, 4096, .inl (nA u.1))), (aI, .inl (cI, 4096, .inl (nA u.2)))]) := by
  refine mu_of (by decide) rfl (Nat.le_of_ble_eq_true rfl) ?_
  intro pp ee ss mm bb mt cd Q A F hP hK hD hS hA hTr hret ls hl
  obtain ⟨hx, hb, hml, hown, hts⟩ := id F
  have hl : lv_has ls 4 [(0, .ref h), (1, .int (nI m)), (2, .ref tA)] := hl
  have hT0_ : va_T .int tA nt (fun j => .int (nA T j)) A ss ss.heap := hTr _ (List.mem_of_getElem? (i := 0) rfl)
  have hp2 := p2_6 hm6
  have hp4 := p4_6 hm6
  have hp4p := p4_pos m
  refine lv_aload_n hx hb dX2_fill_0 rfl (lv_at hl 0 rfl) ?_
  refine lv_iconst (v := nI 1) hx hb dX2_fill_1 rfl ?_
  refine lv_iload_n hx hb dX2_fill_2 rfl (lv_at hl 1 rfl) ?_
  refine nv_ishl hx hb dX2_fill_3 (by omega) (by omega) ?_
  refine nv_top (y := nI (2 ^ m)) (congrArg nI (Nat.one_mul _)) ?_
  refine nv_put F in_X2_fill_X2 tyX2 tyX2_ok nmX2 hK hP hD hS 0 rfl rfl 0 (by decide) (List.mem_of_getElem? (i := 1) rfl) rfl (by decide +kernel) (Nat.le_of_ble_eq_true rfl) dX2_fill_4 (fun H locs hP hD hS => ?_)
  have hP : va_P (dC, dI) vwCl [(h, .inr (2, [.int (nI (2 ^ m)), v1, .ref aC, .ref aI])), (aC, .inl (cI, 4096, .inl (nA g0))), (aI, .inl (cI, 4096, .inl (nA ix0)))] H := hP
  have hD : va_D A [(h, .inr (2, [.int (nI (2 ^ m)), v1, .ref aC, .ref aI])), (aC, .inl (cI, 4096, .inl (nA g0))), (aI, .inl (cI, 4096, .inl (nA ix0)))] := hD
  refine lv_aload_n hx hb dX2_fill_7 rfl (lv_at hl 0 rfl) ?_
  refine lv_aload_n hx hb dX2_fill_8 rfl (lv_at hl 0 rfl) ?_
  refine nv_get (v := .int (nI (2 ^ m))) F in_X2_fill_X2 hK hP 0 rfl rfl 0 (by decide) (List.mem_of_getElem? (i := 1) rfl) rfl dX2_fill_9 ?_
  refine lv_aload_n hx hb dX2_fill_12 rfl (lv_at hl 0 rfl) ?_
  refine nv_get (v := .int (nI (2 ^ m))) F in_X2_fill_X2 hK hP 0 rfl rfl 0 (by decide) (List.mem_of_getElem? (i := 1) rfl) rfl dX2_fill_13 ?_
  refine nv_imul hx hb dX2_fill_16 ?_
  refine nv_top (y := nI (4 ^ m)) (congrArg nI (p22 m)) ?_
  refine nv_put F in_X2_fill_X2 tyX2 tyX2_ok nmX2 hK hP hD hS 0 rfl rfl 1 (by decide) (List.mem_of_getElem? (i := 2) rfl) rfl (by decide +kernel) (Nat.le_of_ble_eq_true rfl) dX2_fill_17 (fun H locs hP hD hS => ?_)
  have hP : va_P (dC, dI) vwCl [(h, .inr (2, [.int (nI (2 ^ m)), .int (nI (4 ^ m)), .ref aC, .ref aI])), (aC, .inl (cI, 4096, .inl (nA g0))), (aI, .inl (cI, 4096, .inl (nA ix0)))] H := hP
  have hD : va_D A [(h, .inr (2, [.int (nI (2 ^ m)), .int (nI (4 ^ m)), .ref aC, .ref aI])), (aC, .inl (cI, 4096, .inl (nA g0))), (aI, .inl (cI, 4096, .inl (nA ix0)))] := hD
  refine lv_aload_n hx hb dX2_fill_20 rfl (lv_at hl 0 rfl) ?_
  refine nv_get (v := .ref aC) F in_X2_fill_X2 hK hP 0 rfl rfl 2 (by decide) (List.mem_of_getElem? (i := 3) rfl) rfl dX2_fill_21 ?_
  refine lv_iconst (v := nI 0) hx hb dX2_fill_24 rfl ?_
  refine lv_iconst (v := nI 0) hx hb dX2_fill_25 rfl ?_
  refine nv_iast hx hb hK hP hD hS 1 0 rfl rfl (by omega) (by omega) dX2_fill_26 (fun H locs hP hD hS => ?_)
  have hP : va_P (dC, dI) vwCl [(h, .inr (2, [.int (nI (2 ^ m)), .int (nI (4 ^ m)), .ref aC, .ref aI])), (aC, .inl (cI, 4096, .inl (nA (upN g0 0 0)))), (aI, .inl (cI, 4096, .inl (nA ix0)))] H := hP
  have hD : va_D A [(h, .inr (2, [.int (nI (2 ^ m)), .int (nI (4 ^ m)), .ref aC, .ref aI])), (aC, .inl (cI, 4096, .inl (nA (upN g0 0 0)))), (aI, .inl (cI, 4096, .inl (nA ix0)))] := hD
  have hB_1 := upN_lt (k := 0) (x := 0) hg0 (by omega)
  refine lv_iconst (v := nI 0) hx hb dX2_fill_27 rfl ?_
  refine lv_istore_n (lv' := [(3, .int (nI 0)), (0, .ref h), (1, .int (nI m)), (2, .ref tA)]) hx hb dX2_fill_28 rfl hl (by decide) rfl (fun ls hl => ?_)
  have loop29 : ∀ (nn : Nat) (L : Nat) (gg : Nat → Nat), (m - L) < nn → (L ≤ m) → (∀ j, gg j < 40960) → (∀ j, j < 4 ^ L → gg j = sqv T m L j) → (∀ j, 4 ^ m ≤ j → gg j < 4096) → ∀ (H : Heap) (locs : List Loc), va_P (dC, dI) vwCl [(h, .inr (2, [.int (nI (2 ^ m)), .int (nI (4 ^ m)), .ref aC, .ref aI])), (aC, .inl (cI, 4096, .inl (nA gg))), (aI, .inl (cI, 4096, .inl (nA ix0)))] H → va_D A [(h, .inr (2, [.int (nI (2 ^ m)), .int (nI (4 ^ m)), .ref aC, .ref aI])), (aC, .inl (cI, 4096, .inl (nA gg))), (aI, .inl (cI, 4096, .inl (nA ix0)))] → va_S A ss.heap H locs → ∀ ls : Array Slot, lv_has ls 4 [(3, .int (nI L)), (0, .ref h), (1, .int (nI m)), (2, .ref tA)] → W pp l ee (rmO 1 30) ss mm ([.ref h, .int (nI m), .ref tA] : List Value).toArray bb mt cd H locs 0 0 Q (F0 mm 29 ls []) := by
    intro nn
    induction nn with
    | zero => intro L gg hm29; exact absurd hm29 (Nat.not_lt_zero _)
    | succ nn ih29 =>
      intro L gg hm29 hL hgg hsqL hhi H locs hP hD hS ls hl
      refine lv_iload_n hx hb dX2_fill_29 rfl (lv_at hl 0 rfl) ?_
      refine lv_iload_n hx hb dX2_fill_30 rfl (lv_at hl 2 rfl) ?_
      refine nv_icmp_ge (tgt := 58) hx hb dX2_fill_31 (by decide) (by omega) (by omega) (fun c_2 => ?_) (fun c_2 => ?_)
      · refine lv_iconst (v := nI 0) hx hb dX2_fill_58 rfl ?_
        refine lv_istore_n (lv' := [(3, .int (nI 0)), (0, .ref h), (1, .int (nI m)), (2, .ref tA)]) hx hb dX2_fill_59 rfl hl (by decide) rfl (fun ls hl => ?_)
        have loop60 : ∀ (nn : Nat) (i : Nat) (gi : Nat → Nat) (jx : Nat → Nat), (4 ^ m - i) < nn → (i ≤ 4 ^ m) → (∀ j, gi j < 40960) → (∀ j, j < i → gi j = cvc T m j) → (∀ j, i ≤ j → j < 4 ^ m → gi j = sqv T m m j) → (∀ j, 4 ^ m ≤ j → gi j < 4096) → (∀ j, jx j < 4096) → (∀ j, j < i → jx (cvc T m j) = j) → ∀ (H : Heap) (locs : List Loc), va_P (dC, dI) vwCl [(h, .inr (2, [.int (nI (2 ^ m)), .int (nI (4 ^ m)), .ref aC, .ref aI])), (aC, .inl (cI, 4096, .inl (nA gi))), (aI, .inl (cI, 4096, .inl (nA jx)))] H → va_D A [(h, .inr (2, [.int (nI (2 ^ m)), .int (nI (4 ^ m)), .ref aC, .ref aI])), (aC, .inl (cI, 4096, .inl (nA gi))), (aI, .inl (cI, 4096, .inl (nA jx)))] → va_S A ss.heap H locs → ∀ ls : Array Slot, lv_has ls 4 [(3, .int (nI i)), (0, .ref h), (1, .int (nI m)), (2, .ref tA)] → W pp l ee (rmO 1 30) ss mm ([.ref h, .int (nI m), .ref tA] : List Value).toArray bb mt cd H locs 0 0 Q (F0 mm 60 ls []) := by
          intro nn
          induction nn with
          | zero => intro i gi jx hm60; exact absurd hm60 (Nat.not_lt_zero _)
          | succ nn ih60 =>
            intro i gi jx hm60 hi hgi hdone hrest hhi2 hjx hjd H locs hP hD hS ls hl
            refine lv_iload_n hx hb dX2_fill_60 rfl (lv_at hl 0 rfl) ?_
            refine lv_aload_n hx hb dX2_fill_61 rfl (lv_at hl 1 rfl) ?_
            refine nv_get (v := .int (nI (4 ^ m))) F in_X2_fill_X2 hK hP 0 rfl rfl 1 (by decide) (List.mem_of_getElem? (i := 2) rfl) rfl dX2_fill_62 ?_
            refine nv_icmp_ge (tgt := 98) hx hb dX2_fill_65 (by decide) (by omega) (by omega) (fun c_3 => ?_) (fun c_3 => ?_)
            · have pf_4 : ∀ j, gi j < 4096 := by
                intro j
                rcases Nat.lt_or_ge j (4 ^ m) with q | q
                · rw [hdone j (by omega)]; exact cvc_lt hV j hm6
                · exact hhi2 j q
              exact hret _ (gi, jx) _ _ _ _ _ (Or.inr (Or.inr (Or.inl ⟨rfl, rfl, rfl, dX2_fill_98⟩))) ⟨rfl, ⟨⟨fun j hj => hdone j (by omega), fun j hj => hjd j (by omega)⟩, pf_4, hjx⟩⟩ hP hD hS
            · refine lv_aload_n hx hb dX2_fill_68 rfl (lv_at hl 1 rfl) ?_
              refine nv_get (v := .ref aC) F in_X2_fill_X2 hK hP 0 rfl rfl 2 (by decide) (List.mem_of_getElem? (i := 3) rfl) rfl dX2_fill_69 ?_
              refine lv_iload_n hx hb dX2_fill_72 rfl (lv_at hl 0 rfl) ?_
              refine lv_dup2_11 hx hb dX2_fill_73 rfl rfl ?_
              refine nv_iald hx hb hK hP 1 0 rfl rfl (by omega) (by omega) dX2_fill_74 ?_
              have hb_5 := hgi i
              refine lv_sipush (v := nI 4096) hx hb dX2_fill_75 rfl ?_
              refine nv_irem hx hb dX2_fill_78 (by omega) (by omega) (by omega) ?_
              refine nv_iast hx hb hK hP hD hS 1 0 rfl rfl (by omega) (by omega) dX2_fill_79 (fun H locs hP hD hS => ?_)
              have hP : va_P (dC, dI) vwCl [(h, .inr (2, [.int (nI (2 ^ m)), .int (nI (4 ^ m)), .ref aC, .ref aI])), (aC, .inl (cI, 4096, .inl (nA (upN gi i (gi i % 4096))))), (aI, .inl (cI, 4096, .inl (nA jx)))] H := hP
              have hD : va_D A [(h, .inr (2, [.int (nI (2 ^ m)), .int (nI (4 ^ m)), .ref aC, .ref aI])), (aC, .inl (cI, 4096, .inl (nA (upN gi i (gi i % 4096))))), (aI, .inl (cI, 4096, .inl (nA jx)))] := hD
              have hB_6 := upN_lt (k := i) (x := gi i % 4096) hgi (by omega)
              refine lv_aload_n hx hb dX2_fill_80 rfl (lv_at hl 1 rfl) ?_
              refine nv_get (v := .ref aI) F in_X2_fill_X2 hK hP 0 rfl rfl 3 (by decide) (List.mem_of_getElem? (i := 4) rfl) rfl dX2_fill_81 ?_
              refine lv_aload_n hx hb dX2_fill_84 rfl (lv_at hl 1 rfl) ?_
              refine nv_get (v := .ref aC) F in_X2_fill_X2 hK hP 0 rfl rfl 2 (by decide) (List.mem_of_getElem? (i := 3) rfl) rfl dX2_fill_85 ?_
              refine lv_iload_n hx hb dX2_fill_88 rfl (lv_at hl 0 rfl) ?_
              refine nv_iald hx hb hK hP 1 0 rfl rfl (by omega) (by omega) dX2_fill_89 ?_
              have hb_7 := hB_6 i
              have hcl := cvc_lt hV i hm6
              refine nv_top (y := nI (cvc T m i)) (congrArg nI (by rw [upN_s, hrest i (Nat.le_refl _) (by omega), sqv_last]; omega)) ?_
              refine lv_iload_n hx hb dX2_fill_90 rfl (lv_at hl 0 rfl) ?_
              refine nv_iast hx hb hK hP hD hS 2 0 rfl rfl (by omega) (by omega) dX2_fill_91 (fun H locs hP hD hS => ?_)
              have hP : va_P (dC, dI) vwCl [(h, .inr (2, [.int (nI (2 ^ m)), .int (nI (4 ^ m)), .ref aC, .ref aI])), (aC, .inl (cI, 4096, .inl (nA (upN gi i (gi i % 4096))))), (aI, .inl (cI, 4096, .inl (nA (upN jx (cvc T m i) i))))] H := hP
              have hD : va_D A [(h, .inr (2, [.int (nI (2 ^ m)), .int (nI (4 ^ m)), .ref aC, .ref aI])), (aC, .inl (cI, 4096, .inl (nA (upN gi i (gi i % 4096))))), (aI, .inl (cI, 4096, .inl (nA (upN jx (cvc T m i) i))))] := hD
              have hB_8 := upN_lt (k := cvc T m i) (x := i) hjx (by omega)
              refine lv_iinc (v := nI (i + 1)) (lv' := [(3, .int (nI (i + 1))), (0, .ref h), (1, .int (nI m)), (2, .ref tA)]) hx hb dX2_fill_92 hl (k := 0) rfl (ni_inc _) (by decide) rfl (fun ls hl => ?_)
              refine lv_goto (tgt := 60) hx hb dX2_fill_95 (by decide) ?_
              have pf_9 : ∀ j, j < (i + 1) → (upN gi i (gi i % 4096)) j = cvc T m j := by
                intro j hj
                rcases Nat.lt_or_ge j i with q | q
                · rw [upN_n (by omega)]; exact hdone j q
                · have e : j = i := by omega
                  rw [e, upN_s, hrest i (Nat.le_refl _) (by omega), sqv_last]; omega
              have pf_10 : ∀ j, j < (i + 1) → (upN jx (cvc T m i) i) (cvc T m j) = j := by
                intro j hj
                rcases Nat.lt_or_ge j i with q | q
                · rw [upN_n (fun e => by have := cvc_inj hV hm6 (show j < 4 ^ m by omega) (show i < 4 ^ m by omega) e; omega)]; exact hjd j q
                · have e : j = i := by omega
                  rw [e, upN_s]
              exact ih60 (i + 1) (upN gi i (gi i % 4096)) (upN jx (cvc T m i) i) (by omega) (by omega) hB_6 pf_9 (fun j h1 h2 => by rw [upN_n (by omega)]; exact hrest j (by omega) h2) (fun j hj => by rw [upN_n (by omega)]; exact hhi2 j hj) hB_8 pf_10 _ _ hP hD hS _ (lv_sub hl [0, 1, 2, 3] rfl)
        have pf_11 : ∀ j, 0 ≤ j → j < 4 ^ m → gg j = sqv T m m j := by
          intro j _ hj
          have e : L = m := by omega
          rw [e] at hsqL; exact hsqL j hj
        exact loop60 _ 0 gg ix0 (Nat.lt_succ_self _) (by omega) hgg (fun j hj => absurd hj (by omega)) pf_11 hhi hix0 (fun j hj => absurd hj (by omega)) _ _ hP hD hS _ (lv_sub hl [0, 1, 2, 3] rfl)
      · have hpl : 2 ^ (2 * L) ≤ 4096 := by rw [p24]; exact p4_6 (by omega)
        refine lv_aload_n hx hb dX2_fill_34 rfl (lv_at hl 1 rfl) ?_
        refine lv_iconst (v := nI 1) hx hb dX2_fill_35 rfl ?_
        refine lv_iconst (v := nI 2) hx hb dX2_fill_36 rfl ?_
        refine lv_iload_n hx hb dX2_fill_37 rfl (lv_at hl 0 rfl) ?_
        refine nv_imul hx hb dX2_fill_38 ?_
        refine nv_ishl hx hb dX2_fill_39 (by omega) (by omega) ?_
        refine nv_top (y := nI (2 ^ (2 * L))) (congrArg nI (Nat.one_mul _)) ?_
        refine nv_top (y := nI (4 ^ L)) (congrArg nI (p24 L)) ?_
        refine lv_aload_n hx hb dX2_fill_40 rfl (lv_at hl 1 rfl) ?_
        refine nv_get (v := .int (nI (2 ^ m))) F in_X2_fill_X2 hK hP 0 rfl rfl 0 (by decide) (List.mem_of_getElem? (i := 1) rfl) rfl dX2_fill_41 ?_
        refine lv_iload_n hx hb dX2_fill_44 rfl (lv_at hl 0 rfl) ?_
        refine lv_iconst (v := nI 1) hx hb dX2_fill_45 rfl ?_
        refine nv_iadd hx hb dX2_fill_46 ?_
        refine nv_ishr hx hb dX2_fill_47 (by omega) (by omega) ?_
        refine nv_top (y := nI (2 ^ (m - (L + 1)))) (congrArg nI (Nat.pow_div (by omega) (by decide))) ?_
        refine lv_aload_n hx hb dX2_fill_48 rfl (lv_at hl 3 rfl) ?_
        have trf : TR [(tA, nt, T)] (va_A [(h, .inr (2, [.int (nI (2 ^ m)), .int (nI (4 ^ m)), .ref aC, .ref aI])), (aC, .inl (cI, 4096, .inl (nA gg)))] H.size) ss H := TR.lower hTr hS (va_free hD hS hA [0, 1] rfl)
        refine mu_Vv (As := [.int (nI (4 ^ L)), .int (nI (2 ^ (m - (L + 1)))), .ref tA]) (rest := []) (wr := [(aI, .inl (cI, 4096, .inl (nA ix0)))]) F (c_X2_divideSquares (h := h) (aC := aC) (v0 := .int (nI (2 ^ m))) (v1 := .int (nI (4 ^ m))) (aI := aI) (g0 := gg) (sq := 4 ^ L) (half := 2 ^ (m - (L + 1))) (tA := tA) (nt := nt) (T := T) (ns := ns) hgg (by have := p4_le (show L + 1 ≤ 6 by omega); have := p4_pos L; rw [p4_s] at *; omega) hnt hT (fun i hi => by rw [hsqL i hi]; exact sq_st hV hm6 (by omega) i) (by have := p2_6 (show m - (L + 1) ≤ 6 by omega); omega) (fun i hi p hp => by rw [hsqL i hi]; exact ds_new hV hm6 (by omega) i p hp)) 3 gX2_fill_X2_divideSquares rfl nd_X2_divideSquares ⟨Nat.le_of_ble_eq_true rfl, Nat.le_of_ble_eq_true rfl⟩ hK hP hD hS hA [0, 1] [2] rfl rfl (by decide) (by decide) (by decide) trf rfl rfl rfl hl.1 rfl (Nat.le_of_ble_eq_true rfl) dX2_fill_49 ⟨Nat.le_refl _, Nat.le_refl _⟩ (fun u H locs hr_12 hP hD hS => ?_)
        obtain ⟨gd, rfl⟩ : ∃ z, z = u := ⟨_, rfl⟩
        have hP : va_P (dC, dI) vwCl [(aI, .inl (cI, 4096, .inl (nA ix0))), (h, .inr (2, [.int (nI (2 ^ m)), .int (nI (4 ^ m)), .ref aC, .ref aI])), (aC, .inl (cI, 4096, .inl (nA gd)))] H := hP
        have hD : va_D A [(aI, .inl (cI, 4096, .inl (nA ix0))), (h, .inr (2, [.int (nI (2 ^ m)), .int (nI (4 ^ m)), .ref aC, .ref aI])), (aC, .inl (cI, 4096, .inl (nA gd)))] := hD
        obtain ⟨hd1, hd2, hd3⟩ := hr_12
        refine lv_iinc (v := nI (L + 1)) (lv' := [(3, .int (nI (L + 1))), (0, .ref h), (1, .int (nI m)), (2, .ref tA)]) hx hb dX2_fill_52 hl (k := 0) rfl (ni_inc _) (by decide) rfl (fun ls hl => ?_)
        refine lv_goto (tgt := 29) hx hb dX2_fill_55 (by decide) ?_
        have pf_14 : ∀ j, j < 4 ^ (L + 1) → gd j = sqv T m (L + 1) j := by
          intro i hi
          have q : i = 4 * (i / 4) + i % 4 := by omega
          have hi4 : i / 4 < 4 ^ L := by rw [p4_s] at hi; omega
          rw [q, hd2 (i / 4) hi4 (i % 4) (Nat.mod_lt _ (by decide)), hsqL _ hi4]
          exact dsv_sq hV hm6 (by omega) _ _ (Nat.mod_lt _ (by decide))
        exact ih29 (L + 1) gd (by omega) (by omega) hd1 pf_14 (fun j hj => by rw [hd3 j (by have := p4_le (show L + 1 ≤ m by omega); rw [p4_s] at this; omega)]; exact hhi j hj) _ _ (hP.sub [1, 2, 0] rfl) (hD.sub [1, 2, 0] (by decide) rfl) hS _ (lv_sub hl [0, 1, 2, 3] rfl)
  have pf_15 : ∀ j, j < 4 ^ 0 → (upN g0 0 0) j = sqv T m 0 j := by
    intro j hj
    have e4 : (4 : Nat) ^ 0 = 1 := rfl
    have e : j = 0 := by omega
    rw [e, upN_s]; unfold sqv cvs cvc cvy cvx; rfl
  exact loop29 _ 0 (upN g0 0 0) (Nat.lt_succ_self _) (by omega) (fun j => by have := hg0 j; unfold upN; split <;> omega) pf_15 (fun j hj => by rw [upN_n (by omega)]; exact hg0 j) _ _ hP hD hS _ (lv_sub hl [0, 1, 2, 3] rfl)
end NUM2
end
