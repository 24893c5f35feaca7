-- ===== PART A: goes FIRST, ahead of the names: the tables' words, and 'selects' of the private methods out of them =====
/-- a private method of a class that the tables say can be made, by its rows of tables_1 -/
def lw_okq (q : MethodName × Nat) : Prop := (q.1.cls ≠ "java/lang/invoke/MethodHandle" ∧ q.1.cls ≠ "java/lang/invoke/VarHandle") ∧ Cond.instantiable q.1.cls q.2 ∈ tables_1 ∧ Cond.privateMethod q.1 ∈ tables_1 ∧ Cond.instanceMethod q.1 ∈ tables_1
theorem lw_p0 : lw_okq (⟨"CaptiveCar", "bandBehind", "(I)I"⟩, 10) := ⟨⟨by decide +kernel, by decide +kernel⟩, List.mem_of_getElem? (i := 11) (by decide +kernel), List.mem_of_getElem? (i := 346) (by decide +kernel), List.mem_of_getElem? (i := 347) (by decide +kernel)⟩
theorem lw_p1 : lw_okq (⟨"CaptiveCar", "paceOf", "(I)I"⟩, 10) := ⟨⟨by decide +kernel, by decide +kernel⟩, List.mem_of_getElem? (i := 11) (by decide +kernel), List.mem_of_getElem? (i := 354) (by decide +kernel), List.mem_of_getElem? (i := 355) (by decide +kernel)⟩
theorem lw_p2 : lw_okq (⟨"CaptiveCar", "youngest", "()I"⟩, 10) := ⟨⟨by decide +kernel, by decide +kernel⟩, List.mem_of_getElem? (i := 11) (by decide +kernel), List.mem_of_getElem? (i := 379) (by decide +kernel), List.mem_of_getElem? (i := 380) (by decide +kernel)⟩
theorem lw_p3 : lw_okq (⟨"CaptiveCar", "oldest", "()I"⟩, 10) := ⟨⟨by decide +kernel, by decide +kernel⟩, List.mem_of_getElem? (i := 11) (by decide +kernel), List.mem_of_getElem? (i := 383) (by decide +kernel), List.mem_of_getElem? (i := 384) (by decide +kernel)⟩
theorem lw_p4 : lw_okq (⟨"CaptiveCar", "refusalOfHours", "(II)I"⟩, 10) := ⟨⟨by decide +kernel, by decide +kernel⟩, List.mem_of_getElem? (i := 11) (by decide +kernel), List.mem_of_getElem? (i := 484) (by decide +kernel), List.mem_of_getElem? (i := 485) (by decide +kernel)⟩
theorem lw_p5 : lw_okq (⟨"CaptiveCar", "doByDraw", "()V"⟩, 10) := ⟨⟨by decide +kernel, by decide +kernel⟩, List.mem_of_getElem? (i := 11) (by decide +kernel), List.mem_of_getElem? (i := 501) (by decide +kernel), List.mem_of_getElem? (i := 502) (by decide +kernel)⟩
theorem lw_p6 : lw_okq (⟨"CaptiveCar", "draw", "(I)I"⟩, 10) := ⟨⟨by decide +kernel, by decide +kernel⟩, List.mem_of_getElem? (i := 11) (by decide +kernel), List.mem_of_getElem? (i := 505) (by decide +kernel), List.mem_of_getElem? (i := 506) (by decide +kernel)⟩
theorem lw_p7 : lw_okq (⟨"CaptiveCar", "joinByDraw", "()V"⟩, 10) := ⟨⟨by decide +kernel, by decide +kernel⟩, List.mem_of_getElem? (i := 11) (by decide +kernel), List.mem_of_getElem? (i := 512) (by decide +kernel), List.mem_of_getElem? (i := 513) (by decide +kernel)⟩
theorem lw_p8 : lw_okq (⟨"CaptiveCarModel", "here", "()I"⟩, 42) := ⟨⟨by decide +kernel, by decide +kernel⟩, List.mem_of_getElem? (i := 665) (by decide +kernel), List.mem_of_getElem? (i := 812) (by decide +kernel), List.mem_of_getElem? (i := 813) (by decide +kernel)⟩
theorem lw_p9 : lw_okq (⟨"CaptiveCarModel", "takeClause", "()I"⟩, 42) := ⟨⟨by decide +kernel, by decide +kernel⟩, List.mem_of_getElem? (i := 665) (by decide +kernel), List.mem_of_getElem? (i := 816) (by decide +kernel), List.mem_of_getElem? (i := 817) (by decide +kernel)⟩
theorem lw_p10 : lw_okq (⟨"CaptiveCarModel", "fails", "(II)I"⟩, 42) := ⟨⟨by decide +kernel, by decide +kernel⟩, List.mem_of_getElem? (i := 665) (by decide +kernel), List.mem_of_getElem? (i := 820) (by decide +kernel), List.mem_of_getElem? (i := 821) (by decide +kernel)⟩
theorem lw_p11 : lw_okq (⟨"CaptiveCarModel", "isFull", "(I)Z"⟩, 42) := ⟨⟨by decide +kernel, by decide +kernel⟩, List.mem_of_getElem? (i := 665) (by decide +kernel), List.mem_of_getElem? (i := 824) (by decide +kernel), List.mem_of_getElem? (i := 825) (by decide +kernel)⟩
theorem lw_p12 : lw_okq (⟨"CaptiveCarModel", "takeFair", "()I"⟩, 42) := ⟨⟨by decide +kernel, by decide +kernel⟩, List.mem_of_getElem? (i := 665) (by decide +kernel), List.mem_of_getElem? (i := 828) (by decide +kernel), List.mem_of_getElem? (i := 829) (by decide +kernel)⟩
theorem lw_p13 : lw_okq (⟨"CaptiveCarModel", "takeNumber", "(II)I"⟩, 42) := ⟨⟨by decide +kernel, by decide +kernel⟩, List.mem_of_getElem? (i := 665) (by decide +kernel), List.mem_of_getElem? (i := 832) (by decide +kernel), List.mem_of_getElem? (i := 833) (by decide +kernel)⟩
theorem lw_p14 : lw_okq (⟨"CaptiveCarModel", "takeLayer", "()I"⟩, 42) := ⟨⟨by decide +kernel, by decide +kernel⟩, List.mem_of_getElem? (i := 665) (by decide +kernel), List.mem_of_getElem? (i := 838) (by decide +kernel), List.mem_of_getElem? (i := 839) (by decide +kernel)⟩
theorem lw_p15 : lw_okq (⟨"CaptiveCarModel", "into", "([IIII)I"⟩, 42) := ⟨⟨by decide +kernel, by decide +kernel⟩, List.mem_of_getElem? (i := 665) (by decide +kernel), List.mem_of_getElem? (i := 842) (by decide +kernel), List.mem_of_getElem? (i := 843) (by decide +kernel)⟩
def lw_privs_1 : List (MethodName × Nat) := [(⟨"CaptiveCar", "bandBehind", "(I)I"⟩, 10), (⟨"CaptiveCar", "paceOf", "(I)I"⟩, 10), (⟨"CaptiveCar", "youngest", "()I"⟩, 10), (⟨"CaptiveCar", "oldest", "()I"⟩, 10), (⟨"CaptiveCar", "refusalOfHours", "(II)I"⟩, 10), (⟨"CaptiveCar", "doByDraw", "()V"⟩, 10), (⟨"CaptiveCar", "draw", "(I)I"⟩, 10), (⟨"CaptiveCar", "joinByDraw", "()V"⟩, 10), (⟨"CaptiveCarModel", "here", "()I"⟩, 42), (⟨"CaptiveCarModel", "takeClause", "()I"⟩, 42), (⟨"CaptiveCarModel", "fails", "(II)I"⟩, 42), (⟨"CaptiveCarModel", "isFull", "(I)Z"⟩, 42), (⟨"CaptiveCarModel", "takeFair", "()I"⟩, 42), (⟨"CaptiveCarModel", "takeNumber", "(II)I"⟩, 42), (⟨"CaptiveCarModel", "takeLayer", "()I"⟩, 42), (⟨"CaptiveCarModel", "into", "([IIII)I"⟩, 42)]
theorem lw_r1 : ∀ q ∈ lw_privs_1, lw_okq q := List.forall_mem_cons.mpr ⟨lw_p0, List.forall_mem_cons.mpr ⟨lw_p1, List.forall_mem_cons.mpr ⟨lw_p2, List.forall_mem_cons.mpr ⟨lw_p3, List.forall_mem_cons.mpr ⟨lw_p4, List.forall_mem_cons.mpr ⟨lw_p5, List.forall_mem_cons.mpr ⟨lw_p6, List.forall_mem_cons.mpr ⟨lw_p7, List.forall_mem_cons.mpr ⟨lw_p8, List.forall_mem_cons.mpr ⟨lw_p9, List.forall_mem_cons.mpr ⟨lw_p10, List.forall_mem_cons.mpr ⟨lw_p11, List.forall_mem_cons.mpr ⟨lw_p12, List.forall_mem_cons.mpr ⟨lw_p13, List.forall_mem_cons.mpr ⟨lw_p14, List.forall_mem_cons.mpr ⟨lw_p15, fun _ h => absurd h List.not_mem_nil⟩⟩⟩⟩⟩⟩⟩⟩⟩⟩⟩⟩⟩⟩⟩⟩
theorem lw_p16 : lw_okq (⟨"CaptiveCarModel", "takeGoer", "()I"⟩, 42) := ⟨⟨by decide +kernel, by decide +kernel⟩, List.mem_of_getElem? (i := 665) (by decide +kernel), List.mem_of_getElem? (i := 846) (by decide +kernel), List.mem_of_getElem? (i := 847) (by decide +kernel)⟩
theorem lw_p17 : lw_okq (⟨"CaptiveCarModel", "takePrice", "()I"⟩, 42) := ⟨⟨by decide +kernel, by decide +kernel⟩, List.mem_of_getElem? (i := 665) (by decide +kernel), List.mem_of_getElem? (i := 850) (by decide +kernel), List.mem_of_getElem? (i := 851) (by decide +kernel)⟩
theorem lw_p18 : lw_okq (⟨"CaptiveCarModel", "takeRead", "()V"⟩, 42) := ⟨⟨by decide +kernel, by decide +kernel⟩, List.mem_of_getElem? (i := 665) (by decide +kernel), List.mem_of_getElem? (i := 854) (by decide +kernel), List.mem_of_getElem? (i := 855) (by decide +kernel)⟩
theorem lw_p19 : lw_okq (⟨"CaptiveCarModel", "allAt", "(I)I"⟩, 42) := ⟨⟨by decide +kernel, by decide +kernel⟩, List.mem_of_getElem? (i := 665) (by decide +kernel), List.mem_of_getElem? (i := 869) (by decide +kernel), List.mem_of_getElem? (i := 870) (by decide +kernel)⟩
theorem lw_p20 : lw_okq (⟨"CaptiveCarModel", "bandBehind", "(I)I"⟩, 42) := ⟨⟨by decide +kernel, by decide +kernel⟩, List.mem_of_getElem? (i := 665) (by decide +kernel), List.mem_of_getElem? (i := 873) (by decide +kernel), List.mem_of_getElem? (i := 874) (by decide +kernel)⟩
theorem lw_p21 : lw_okq (⟨"CaptiveCarModel", "isUp", "(I)Z"⟩, 42) := ⟨⟨by decide +kernel, by decide +kernel⟩, List.mem_of_getElem? (i := 665) (by decide +kernel), List.mem_of_getElem? (i := 877) (by decide +kernel), List.mem_of_getElem? (i := 878) (by decide +kernel)⟩
theorem lw_p22 : lw_okq (⟨"CaptiveCarModel", "paceOf", "(I)I"⟩, 42) := ⟨⟨by decide +kernel, by decide +kernel⟩, List.mem_of_getElem? (i := 665) (by decide +kernel), List.mem_of_getElem? (i := 881) (by decide +kernel), List.mem_of_getElem? (i := 882) (by decide +kernel)⟩
theorem lw_p23 : lw_okq (⟨"CaptiveCarModel", "heightOf", "(I)I"⟩, 42) := ⟨⟨by decide +kernel, by decide +kernel⟩, List.mem_of_getElem? (i := 665) (by decide +kernel), List.mem_of_getElem? (i := 885) (by decide +kernel), List.mem_of_getElem? (i := 886) (by decide +kernel)⟩
theorem lw_p24 : lw_okq (⟨"CaptiveCarModel", "speedAt", "(I)I"⟩, 42) := ⟨⟨by decide +kernel, by decide +kernel⟩, List.mem_of_getElem? (i := 665) (by decide +kernel), List.mem_of_getElem? (i := 889) (by decide +kernel), List.mem_of_getElem? (i := 890) (by decide +kernel)⟩
theorem lw_p25 : lw_okq (⟨"CaptiveCarModel", "olderBy", "(II)I"⟩, 42) := ⟨⟨by decide +kernel, by decide +kernel⟩, List.mem_of_getElem? (i := 665) (by decide +kernel), List.mem_of_getElem? (i := 893) (by decide +kernel), List.mem_of_getElem? (i := 894) (by decide +kernel)⟩
theorem lw_p26 : lw_okq (⟨"CaptiveCarModel", "skillBy", "(III)I"⟩, 42) := ⟨⟨by decide +kernel, by decide +kernel⟩, List.mem_of_getElem? (i := 665) (by decide +kernel), List.mem_of_getElem? (i := 898) (by decide +kernel), List.mem_of_getElem? (i := 899) (by decide +kernel)⟩
theorem lw_p27 : lw_okq (⟨"CaptiveCarModel", "byAge", "(Z)I"⟩, 42) := ⟨⟨by decide +kernel, by decide +kernel⟩, List.mem_of_getElem? (i := 665) (by decide +kernel), List.mem_of_getElem? (i := 902) (by decide +kernel), List.mem_of_getElem? (i := 903) (by decide +kernel)⟩
theorem lw_p28 : lw_okq (⟨"CaptiveCarModel", "isGoer", "(I)Z"⟩, 42) := ⟨⟨by decide +kernel, by decide +kernel⟩, List.mem_of_getElem? (i := 665) (by decide +kernel), List.mem_of_getElem? (i := 916) (by decide +kernel), List.mem_of_getElem? (i := 917) (by decide +kernel)⟩
theorem lw_p29 : lw_okq (⟨"CaptiveCarModel", "skillOf", "(I)I"⟩, 42) := ⟨⟨by decide +kernel, by decide +kernel⟩, List.mem_of_getElem? (i := 665) (by decide +kernel), List.mem_of_getElem? (i := 921) (by decide +kernel), List.mem_of_getElem? (i := 922) (by decide +kernel)⟩
theorem lw_p30 : lw_okq (⟨"CaptiveCarModel", "remember", "()V"⟩, 42) := ⟨⟨by decide +kernel, by decide +kernel⟩, List.mem_of_getElem? (i := 665) (by decide +kernel), List.mem_of_getElem? (i := 933) (by decide +kernel), List.mem_of_getElem? (i := 934) (by decide +kernel)⟩
theorem lw_p31 : lw_okq (⟨"CaptiveCarModel", "joinNow", "(I)V"⟩, 42) := ⟨⟨by decide +kernel, by decide +kernel⟩, List.mem_of_getElem? (i := 665) (by decide +kernel), List.mem_of_getElem? (i := 937) (by decide +kernel), List.mem_of_getElem? (i := 938) (by decide +kernel)⟩
def lw_privs_2 : List (MethodName × Nat) := [(⟨"CaptiveCarModel", "takeGoer", "()I"⟩, 42), (⟨"CaptiveCarModel", "takePrice", "()I"⟩, 42), (⟨"CaptiveCarModel", "takeRead", "()V"⟩, 42), (⟨"CaptiveCarModel", "allAt", "(I)I"⟩, 42), (⟨"CaptiveCarModel", "bandBehind", "(I)I"⟩, 42), (⟨"CaptiveCarModel", "isUp", "(I)Z"⟩, 42), (⟨"CaptiveCarModel", "paceOf", "(I)I"⟩, 42), (⟨"CaptiveCarModel", "heightOf", "(I)I"⟩, 42), (⟨"CaptiveCarModel", "speedAt", "(I)I"⟩, 42), (⟨"CaptiveCarModel", "olderBy", "(II)I"⟩, 42), (⟨"CaptiveCarModel", "skillBy", "(III)I"⟩, 42), (⟨"CaptiveCarModel", "byAge", "(Z)I"⟩, 42), (⟨"CaptiveCarModel", "isGoer", "(I)Z"⟩, 42), (⟨"CaptiveCarModel", "skillOf", "(I)I"⟩, 42), (⟨"CaptiveCarModel", "remember", "()V"⟩, 42), (⟨"CaptiveCarModel", "joinNow", "(I)V"⟩, 42)]
theorem lw_r2 : ∀ q ∈ lw_privs_2, lw_okq q := List.forall_mem_cons.mpr ⟨lw_p16, List.forall_mem_cons.mpr ⟨lw_p17, List.forall_mem_cons.mpr ⟨lw_p18, List.forall_mem_cons.mpr ⟨lw_p19, List.forall_mem_cons.mpr ⟨lw_p20, List.forall_mem_cons.mpr ⟨lw_p21, List.forall_mem_cons.mpr ⟨lw_p22, List.forall_mem_cons.mpr ⟨lw_p23, List.forall_mem_cons.mpr ⟨lw_p24, List.forall_mem_cons.mpr ⟨lw_p25, List.forall_mem_cons.mpr ⟨lw_p26, List.forall_mem_cons.mpr ⟨lw_p27, List.forall_mem_cons.mpr ⟨lw_p28, List.forall_mem_cons.mpr ⟨lw_p29, List.forall_mem_cons.mpr ⟨lw_p30, List.forall_mem_cons.mpr ⟨lw_p31, fun _ h => absurd h List.not_mem_nil⟩⟩⟩⟩⟩⟩⟩⟩⟩⟩⟩⟩⟩⟩⟩⟩
theorem lw_p32 : lw_okq (⟨"CaptiveCarModel", "placeOf", "(I)I"⟩, 42) := ⟨⟨by decide +kernel, by decide +kernel⟩, List.mem_of_getElem? (i := 665) (by decide +kernel), List.mem_of_getElem? (i := 945) (by decide +kernel), List.mem_of_getElem? (i := 946) (by decide +kernel)⟩
theorem lw_p33 : lw_okq (⟨"CaptiveCarModel", "takeFromLine", "(I)V"⟩, 42) := ⟨⟨by decide +kernel, by decide +kernel⟩, List.mem_of_getElem? (i := 665) (by decide +kernel), List.mem_of_getElem? (i := 949) (by decide +kernel), List.mem_of_getElem? (i := 950) (by decide +kernel)⟩
theorem lw_p34 : lw_okq (⟨"CaptiveCarModel", "boardNow", "()I"⟩, 42) := ⟨⟨by decide +kernel, by decide +kernel⟩, List.mem_of_getElem? (i := 665) (by decide +kernel), List.mem_of_getElem? (i := 957) (by decide +kernel), List.mem_of_getElem? (i := 958) (by decide +kernel)⟩
theorem lw_p35 : lw_okq (⟨"CaptiveCarModel", "manyAt", "(I)I"⟩, 42) := ⟨⟨by decide +kernel, by decide +kernel⟩, List.mem_of_getElem? (i := 665) (by decide +kernel), List.mem_of_getElem? (i := 961) (by decide +kernel), List.mem_of_getElem? (i := 962) (by decide +kernel)⟩
theorem lw_p36 : lw_okq (⟨"CaptiveCarModel", "alightNow", "()I"⟩, 42) := ⟨⟨by decide +kernel, by decide +kernel⟩, List.mem_of_getElem? (i := 665) (by decide +kernel), List.mem_of_getElem? (i := 974) (by decide +kernel), List.mem_of_getElem? (i := 975) (by decide +kernel)⟩
theorem lw_p37 : lw_okq (⟨"CaptiveCarModel", "pass", "(I)V"⟩, 42) := ⟨⟨by decide +kernel, by decide +kernel⟩, List.mem_of_getElem? (i := 665) (by decide +kernel), List.mem_of_getElem? (i := 992) (by decide +kernel), List.mem_of_getElem? (i := 993) (by decide +kernel)⟩
theorem lw_p38 : lw_okq (⟨"CaptiveCarModel", "chance", "()V"⟩, 42) := ⟨⟨by decide +kernel, by decide +kernel⟩, List.mem_of_getElem? (i := 665) (by decide +kernel), List.mem_of_getElem? (i := 1001) (by decide +kernel), List.mem_of_getElem? (i := 1002) (by decide +kernel)⟩
theorem lw_p39 : lw_okq (⟨"CaptiveCarModel", "draw", "(I)I"⟩, 42) := ⟨⟨by decide +kernel, by decide +kernel⟩, List.mem_of_getElem? (i := 665) (by decide +kernel), List.mem_of_getElem? (i := 1005) (by decide +kernel), List.mem_of_getElem? (i := 1006) (by decide +kernel)⟩
theorem lw_p40 : lw_okq (⟨"CaptiveCarModel", "findLaws", "()V"⟩, 42) := ⟨⟨by decide +kernel, by decide +kernel⟩, List.mem_of_getElem? (i := 665) (by decide +kernel), List.mem_of_getElem? (i := 1066) (by decide +kernel), List.mem_of_getElem? (i := 1067) (by decide +kernel)⟩
theorem lw_p41 : lw_okq (⟨"CaptiveCarModel", "couldBe", "(II)Z"⟩, 42) := ⟨⟨by decide +kernel, by decide +kernel⟩, List.mem_of_getElem? (i := 665) (by decide +kernel), List.mem_of_getElem? (i := 1070) (by decide +kernel), List.mem_of_getElem? (i := 1071) (by decide +kernel)⟩
theorem lw_p42 : lw_okq (⟨"CaptiveCarModel", "firstLaw", "()I"⟩, 42) := ⟨⟨by decide +kernel, by decide +kernel⟩, List.mem_of_getElem? (i := 665) (by decide +kernel), List.mem_of_getElem? (i := 1074) (by decide +kernel), List.mem_of_getElem? (i := 1075) (by decide +kernel)⟩
theorem lw_p43 : lw_okq (⟨"CaptiveCarModel", "allLaws", "()I"⟩, 42) := ⟨⟨by decide +kernel, by decide +kernel⟩, List.mem_of_getElem? (i := 665) (by decide +kernel), List.mem_of_getElem? (i := 1078) (by decide +kernel), List.mem_of_getElem? (i := 1079) (by decide +kernel)⟩
theorem lw_p44 : lw_okq (⟨"CaptiveCarModel", "couldEnd", "(I)Z"⟩, 42) := ⟨⟨by decide +kernel, by decide +kernel⟩, List.mem_of_getElem? (i := 665) (by decide +kernel), List.mem_of_getElem? (i := 1095) (by decide +kernel), List.mem_of_getElem? (i := 1096) (by decide +kernel)⟩
theorem lw_p45 : lw_okq (⟨"CaptiveCarModel", "endBehind", "(I)I"⟩, 42) := ⟨⟨by decide +kernel, by decide +kernel⟩, List.mem_of_getElem? (i := 665) (by decide +kernel), List.mem_of_getElem? (i := 1099) (by decide +kernel), List.mem_of_getElem? (i := 1100) (by decide +kernel)⟩
def lw_privs_3 : List (MethodName × Nat) := [(⟨"CaptiveCarModel", "placeOf", "(I)I"⟩, 42), (⟨"CaptiveCarModel", "takeFromLine", "(I)V"⟩, 42), (⟨"CaptiveCarModel", "boardNow", "()I"⟩, 42), (⟨"CaptiveCarModel", "manyAt", "(I)I"⟩, 42), (⟨"CaptiveCarModel", "alightNow", "()I"⟩, 42), (⟨"CaptiveCarModel", "pass", "(I)V"⟩, 42), (⟨"CaptiveCarModel", "chance", "()V"⟩, 42), (⟨"CaptiveCarModel", "draw", "(I)I"⟩, 42), (⟨"CaptiveCarModel", "findLaws", "()V"⟩, 42), (⟨"CaptiveCarModel", "couldBe", "(II)Z"⟩, 42), (⟨"CaptiveCarModel", "firstLaw", "()I"⟩, 42), (⟨"CaptiveCarModel", "allLaws", "()I"⟩, 42), (⟨"CaptiveCarModel", "couldEnd", "(I)Z"⟩, 42), (⟨"CaptiveCarModel", "endBehind", "(I)I"⟩, 42)]
theorem lw_r3 : ∀ q ∈ lw_privs_3, lw_okq q := List.forall_mem_cons.mpr ⟨lw_p32, List.forall_mem_cons.mpr ⟨lw_p33, List.forall_mem_cons.mpr ⟨lw_p34, List.forall_mem_cons.mpr ⟨lw_p35, List.forall_mem_cons.mpr ⟨lw_p36, List.forall_mem_cons.mpr ⟨lw_p37, List.forall_mem_cons.mpr ⟨lw_p38, List.forall_mem_cons.mpr ⟨lw_p39, List.forall_mem_cons.mpr ⟨lw_p40, List.forall_mem_cons.mpr ⟨lw_p41, List.forall_mem_cons.mpr ⟨lw_p42, List.forall_mem_cons.mpr ⟨lw_p43, List.forall_mem_cons.mpr ⟨lw_p44, List.forall_mem_cons.mpr ⟨lw_p45, fun _ h => absurd h List.not_mem_nil⟩⟩⟩⟩⟩⟩⟩⟩⟩⟩⟩⟩⟩⟩
def lw_privs : List (MethodName × Nat) := lw_privs_1 ++ (lw_privs_2 ++ (lw_privs_3))
def lw_tbl : List Cond := k2_sels lw_privs ++ tables_1
theorem lw_privs_ok : ∀ q ∈ lw_privs, lw_okq q := by
  show ∀ q ∈ lw_privs_1 ++ (lw_privs_2 ++ (lw_privs_3)), lw_okq q
  exact List.forall_mem_append.mpr ⟨lw_r1, List.forall_mem_append.mpr ⟨lw_r2, lw_r3⟩⟩
-- ===== end of PART A; then your names; then what follows =====
def RX0 : String := "CaptiveCar$Findings"
def TX0 : u_T := fun k => match k with
  | 0 => ("CaptiveCar$Findings", "seen", "I", false)
  | 1 => ("CaptiveCar$Findings", "felt", "I", false)
  | 2 => ("CaptiveCar$Findings", "entries", "I", false)
  | 3 => ("CaptiveCar$Findings", "seenYards", "[I", true)
  | 4 => ("CaptiveCar$Findings", "seenPaces", "[I", true)
  | 5 => ("CaptiveCar$Findings", "seenMore", "[Z", true)
  | 6 => ("CaptiveCar$Findings", "feltYards", "[I", true)
  | 7 => ("CaptiveCar$Findings", "feltHow", "[I", true)
  | 8 => ("CaptiveCar$Findings", "entryGoers", "[I", true)
  | _ => ("CaptiveCar$Findings", "entryYears", "[I", true)
def tyX0 : Nat → FieldType := fun k => match k with
  | 0 => .int
  | 1 => .int
  | 2 => .int
  | 3 => .array .int
  | 4 => .array .int
  | 5 => .array .boolean
  | 6 => .array .int
  | 7 => .array .int
  | 8 => .array .int
  | _ => .array .int
abbrev wsX00 : List Cond := u_ws RX0 TX0 10
theorem nmX0 : ∀ a, a < 10 → ∀ b, b < 10 → a ≠ b → (TX0 a).2.1 ≠ (TX0 b).2.1 := by decide +kernel
theorem tyX0_ok : ∀ k, k < 10 → parseFieldDescriptor (TX0 k).2.2.1 = some (tyX0 k) := by decide +kernel
abbrev cX0_init : ByteArray := prog_2_method_1_code
def yX0_init : MethodName := ⟨RX0, "<init>", "()V"⟩
abbrev cX0_clear : ByteArray := prog_2_method_2_code
def yX0_clear : MethodName := ⟨RX0, "clear", "()V"⟩
abbrev cX0_addSeen : ByteArray := prog_2_method_3_code
def yX0_addSeen : MethodName := ⟨RX0, "addSeen", "(IIZ)I"⟩
abbrev cX0_addFelt : ByteArray := prog_2_method_4_code
def yX0_addFelt : MethodName := ⟨RX0, "addFelt", "(II)I"⟩
abbrev cX0_addEntry : ByteArray := prog_2_method_5_code
def yX0_addEntry : MethodName := ⟨RX0, "addEntry", "(II)I"⟩
abbrev cX0_firstWrong : ByteArray := prog_2_method_6_code
def yX0_firstWrong : MethodName := ⟨RX0, "firstWrong", "(LCaptiveCar$Scene;)I"⟩
abbrev cX0_leastPace : ByteArray := prog_2_method_7_code
def yX0_leastPace : MethodName := ⟨RX0, "leastPace", "(I)I"⟩
abbrev cX0_greatestPace : ByteArray := prog_2_method_8_code
def yX0_greatestPace : MethodName := ⟨RX0, "greatestPace", "(I)I"⟩
abbrev cX0_fitsBelow : ByteArray := prog_2_method_9_code
def yX0_fitsBelow : MethodName := ⟨RX0, "fitsBelow", "(I)Z"⟩
abbrev cX0_lawsFrom : ByteArray := prog_2_method_10_code
def yX0_lawsFrom : MethodName := ⟨RX0, "lawsFrom", "(I)I"⟩
abbrev cX0_countLaws : ByteArray := prog_2_method_11_code
def yX0_countLaws : MethodName := ⟨RX0, "countLaws", "()I"⟩
abbrev cX0_leastLayer : ByteArray := prog_2_method_12_code
def yX0_leastLayer : MethodName := ⟨RX0, "leastLayer", "()I"⟩
abbrev cX0_bestYard : ByteArray := prog_2_method_13_code
def yX0_bestYard : MethodName := ⟨RX0, "bestYard", "()I"⟩
abbrev cX0_leastEnd : ByteArray := prog_2_method_14_code
def yX0_leastEnd : MethodName := ⟨RX0, "leastEnd", "()I"⟩
abbrev cX0_greatestEnd : ByteArray := prog_2_method_15_code
def yX0_greatestEnd : MethodName := ⟨RX0, "greatestEnd", "()I"⟩
def RX1 : String := "CaptiveCar$Past"
def TX1 : u_T := fun k => match k with
  | 0 => ("CaptiveCar$Past", "scenes", "[LCaptiveCar$Scene;", true)
  | 1 => ("CaptiveCar$Past", "count", "I", false)
  | _ => ("CaptiveCar$Past", "next", "I", false)
def tyX1 : Nat → FieldType := fun k => match k with
  | 0 => .array (.object "CaptiveCar$Scene")
  | 1 => .int
  | _ => .int
abbrev wsX10 : List Cond := u_ws RX1 TX1 3
theorem nmX1 : ∀ a, a < 3 → ∀ b, b < 3 → a ≠ b → (TX1 a).2.1 ≠ (TX1 b).2.1 := by decide +kernel
theorem tyX1_ok : ∀ k, k < 3 → parseFieldDescriptor (TX1 k).2.2.1 = some (tyX1 k) := by decide +kernel
abbrev cX1_init : ByteArray := prog_3_method_1_code
def yX1_init : MethodName := ⟨RX1, "<init>", "()V"⟩
abbrev cX1_push : ByteArray := prog_3_method_2_code
def yX1_push : MethodName := ⟨RX1, "push", "(LCaptiveCar$Scene;)V"⟩
abbrev cX1_pop : ByteArray := prog_3_method_3_code
def yX1_pop : MethodName := ⟨RX1, "pop", "(LCaptiveCar$Scene;)V"⟩
def RX2 : String := "CaptiveCar$Plan"
def TX2 : u_T := fun k => match k with
  | 0 => ("CaptiveCar$Plan", "stands", "Z", false)
  | 1 => ("CaptiveCar$Plan", "priceTold", "Z", false)
  | 2 => ("CaptiveCar$Plan", "end", "I", false)
  | 3 => ("CaptiveCar$Plan", "room", "I", false)
  | 4 => ("CaptiveCar$Plan", "price", "I", false)
  | 5 => ("CaptiveCar$Plan", "layers", "I", false)
  | 6 => ("CaptiveCar$Plan", "goers", "I", false)
  | 7 => ("CaptiveCar$Plan", "layerFrom", "[I", true)
  | 8 => ("CaptiveCar$Plan", "layerPaces", "[I", true)
  | 9 => ("CaptiveCar$Plan", "years", "[I", true)
  | _ => ("CaptiveCar$Plan", "trades", "[I", true)
def tyX2 : Nat → FieldType := fun k => match k with
  | 0 => .boolean
  | 1 => .boolean
  | 2 => .int
  | 3 => .int
  | 4 => .int
  | 5 => .int
  | 6 => .int
  | 7 => .array .int
  | 8 => .array .int
  | 9 => .array .int
  | _ => .array .int
abbrev wsX20 : List Cond := u_ws RX2 TX2 11
theorem nmX2 : ∀ a, a < 11 → ∀ b, b < 11 → a ≠ b → (TX2 a).2.1 ≠ (TX2 b).2.1 := by decide +kernel
theorem tyX2_ok : ∀ k, k < 11 → parseFieldDescriptor (TX2 k).2.2.1 = some (tyX2 k) := by decide +kernel
abbrev cX2_init : ByteArray := prog_4_method_1_code
def yX2_init : MethodName := ⟨RX2, "<init>", "()V"⟩
abbrev cX2_clear : ByteArray := prog_4_method_2_code
def yX2_clear : MethodName := ⟨RX2, "clear", "()V"⟩
abbrev cX2_hasGoer : ByteArray := prog_4_method_3_code
def yX2_hasGoer : MethodName := ⟨RX2, "hasGoer", "(I)Z"⟩
abbrev cX2_setEnd : ByteArray := prog_4_method_4_code
def yX2_setEnd : MethodName := ⟨RX2, "setEnd", "(II)V"⟩
abbrev cX2_setPrice : ByteArray := prog_4_method_5_code
def yX2_setPrice : MethodName := ⟨RX2, "setPrice", "(I)V"⟩
abbrev cX2_addLayer : ByteArray := prog_4_method_6_code
def yX2_addLayer : MethodName := ⟨RX2, "addLayer", "(II)V"⟩
abbrev cX2_addGoer : ByteArray := prog_4_method_7_code
def yX2_addGoer : MethodName := ⟨RX2, "addGoer", "(II)V"⟩
abbrev cX2_isAboveLayers : ByteArray := prog_4_method_8_code
def yX2_isAboveLayers : MethodName := ⟨RX2, "isAboveLayers", "(I)Z"⟩
abbrev cX2_paceAt : ByteArray := prog_4_method_9_code
def yX2_paceAt : MethodName := ⟨RX2, "paceAt", "(I)I"⟩
def RX3 : String := "CaptiveCar$Scene"
def TX3 : u_T := fun k => match k with
  | 0 => ("CaptiveCar$Scene", "carHeight", "I", false)
  | 1 => ("CaptiveCar$Scene", "hours", "I", false)
  | 2 => ("CaptiveCar$Scene", "got", "I", false)
  | 3 => ("CaptiveCar$Scene", "queued", "I", false)
  | 4 => ("CaptiveCar$Scene", "queue", "[I", true)
  | 5 => ("CaptiveCar$Scene", "ages", "[I", true)
  | 6 => ("CaptiveCar$Scene", "works", "[I", true)
  | 7 => ("CaptiveCar$Scene", "places", "[I", true)
  | _ => ("CaptiveCar$Scene", "heights", "[I", true)
def tyX3 : Nat → FieldType := fun k => match k with
  | 0 => .int
  | 1 => .int
  | 2 => .int
  | 3 => .int
  | 4 => .array .int
  | 5 => .array .int
  | 6 => .array .int
  | 7 => .array .int
  | _ => .array .int
abbrev wsX30 : List Cond := u_ws RX3 TX3 9
theorem nmX3 : ∀ a, a < 9 → ∀ b, b < 9 → a ≠ b → (TX3 a).2.1 ≠ (TX3 b).2.1 := by decide +kernel
theorem tyX3_ok : ∀ k, k < 9 → parseFieldDescriptor (TX3 k).2.2.1 = some (tyX3 k) := by decide +kernel
abbrev cX3_init : ByteArray := prog_5_method_1_code
def yX3_init : MethodName := ⟨RX3, "<init>", "()V"⟩
abbrev cX3_begin : ByteArray := prog_5_method_2_code
def yX3_begin : MethodName := ⟨RX3, "begin", "(LCaptiveCar$Plan;)V"⟩
abbrev cX3_copyFrom : ByteArray := prog_5_method_3_code
def yX3_copyFrom : MethodName := ⟨RX3, "copyFrom", "(LCaptiveCar$Scene;)V"⟩
abbrev cX3_setOf : ByteArray := prog_5_method_4_code
def yX3_setOf : MethodName := ⟨RX3, "setOf", "(I)I"⟩
abbrev cX3_inCar : ByteArray := prog_5_method_5_code
def yX3_inCar : MethodName := ⟨RX3, "inCar", "()I"⟩
abbrev cX3_isUp : ByteArray := prog_5_method_6_code
def yX3_isUp : MethodName := ⟨RX3, "isUp", "(I)Z"⟩
abbrev cX3_heightOf : ByteArray := prog_5_method_7_code
def yX3_heightOf : MethodName := ⟨RX3, "heightOf", "(I)I"⟩
abbrev cX3_turnOf : ByteArray := prog_5_method_8_code
def yX3_turnOf : MethodName := ⟨RX3, "turnOf", "(I)I"⟩
abbrev cX3_enqueue : ByteArray := prog_5_method_9_code
def yX3_enqueue : MethodName := ⟨RX3, "enqueue", "(I)V"⟩
abbrev cX3_dequeue : ByteArray := prog_5_method_10_code
def yX3_dequeue : MethodName := ⟨RX3, "dequeue", "(II)V"⟩
abbrev cX3_fillCar : ByteArray := prog_5_method_11_code
def yX3_fillCar : MethodName := ⟨RX3, "fillCar", "(LCaptiveCar$Plan;)I"⟩
abbrev cX3_emptyCar : ByteArray := prog_5_method_12_code
def yX3_emptyCar : MethodName := ⟨RX3, "emptyCar", "()I"⟩
abbrev cX3_pass : ByteArray := prog_5_method_13_code
def yX3_pass : MethodName := ⟨RX3, "pass", "(ILCaptiveCar$Plan;)V"⟩
def RX4 : String := "CaptiveCar$Text"
def TX4 : u_T := fun k => match k with
  | 0 => ("CaptiveCar$Text", "letters", "[I", true)
  | 1 => ("CaptiveCar$Text", "length", "I", false)
  | 2 => ("CaptiveCar$Text", "at", "I", false)
  | 3 => ("CaptiveCar$Text", "numberAt", "I", false)
  | 4 => ("CaptiveCar$Text", "fault", "I", false)
  | _ => ("CaptiveCar$Text", "faultAt", "I", false)
def tyX4 : Nat → FieldType := fun k => match k with
  | 0 => .array .int
  | 1 => .int
  | 2 => .int
  | 3 => .int
  | 4 => .int
  | _ => .int
abbrev wsX40 : List Cond := u_ws RX4 TX4 6
theorem nmX4 : ∀ a, a < 6 → ∀ b, b < 6 → a ≠ b → (TX4 a).2.1 ≠ (TX4 b).2.1 := by decide +kernel
theorem tyX4_ok : ∀ k, k < 6 → parseFieldDescriptor (TX4 k).2.2.1 = some (tyX4 k) := by decide +kernel
abbrev cX4_init : ByteArray := prog_6_method_1_code
def yX4_init : MethodName := ⟨RX4, "<init>", "()V"⟩
abbrev cX4_append : ByteArray := prog_6_method_2_code
def yX4_append : MethodName := ⟨RX4, "append", "(I)I"⟩
abbrev cX4_readInto : ByteArray := prog_6_method_3_code
def yX4_readInto : MethodName := ⟨RX4, "readInto", "(LCaptiveCar$Plan;)I"⟩
abbrev cX4_readClause : ByteArray := prog_6_method_4_code
def yX4_readClause : MethodName := ⟨RX4, "readClause", "(LCaptiveCar$Plan;)V"⟩
abbrev cX4_faultOfWord : ByteArray := prog_6_method_5_code
def yX4_faultOfWord : MethodName := ⟨RX4, "faultOfWord", "(ILCaptiveCar$Plan;)I"⟩
abbrev cX4_readEnd : ByteArray := prog_6_method_6_code
def yX4_readEnd : MethodName := ⟨RX4, "readEnd", "(LCaptiveCar$Plan;)V"⟩
abbrev cX4_readLayer : ByteArray := prog_6_method_7_code
def yX4_readLayer : MethodName := ⟨RX4, "readLayer", "(LCaptiveCar$Plan;)V"⟩
abbrev cX4_readGoer : ByteArray := prog_6_method_8_code
def yX4_readGoer : MethodName := ⟨RX4, "readGoer", "(LCaptiveCar$Plan;)V"⟩
abbrev cX4_readPrice : ByteArray := prog_6_method_9_code
def yX4_readPrice : MethodName := ⟨RX4, "readPrice", "(LCaptiveCar$Plan;)V"⟩
abbrev cX4_readNumber : ByteArray := prog_6_method_10_code
def yX4_readNumber : MethodName := ⟨RX4, "readNumber", "(II)I"⟩
abbrev cX4_readClose : ByteArray := prog_6_method_11_code
def yX4_readClose : MethodName := ⟨RX4, "readClose", "()V"⟩
abbrev cX4_skipBlanks : ByteArray := prog_6_method_12_code
def yX4_skipBlanks : MethodName := ⟨RX4, "skipBlanks", "()V"⟩
abbrev cX4_isFigure : ByteArray := prog_6_method_13_code
def yX4_isFigure : MethodName := ⟨RX4, "isFigure", "(I)Z"⟩
abbrev cX4_blame : ByteArray := prog_6_method_14_code
def yX4_blame : MethodName := ⟨RX4, "blame", "(II)V"⟩
def RX5 : String := "CaptiveCar"
def TX5 : u_T := fun k => match k with
  | 0 => ("CaptiveCar", "text", "LCaptiveCar$Text;", true)
  | 1 => ("CaptiveCar", "plan", "LCaptiveCar$Plan;", false)
  | 2 => ("CaptiveCar", "draft", "LCaptiveCar$Plan;", false)
  | 3 => ("CaptiveCar", "now", "LCaptiveCar$Scene;", true)
  | 4 => ("CaptiveCar", "past", "LCaptiveCar$Past;", true)
  | 5 => ("CaptiveCar", "images", "[LCaptiveCar$Scene;", true)
  | 6 => ("CaptiveCar", "imageSeeds", "[I", true)
  | 7 => ("CaptiveCar", "imageKept", "[Z", true)
  | 8 => ("CaptiveCar", "findings", "LCaptiveCar$Findings;", true)
  | _ => ("CaptiveCar", "drawn", "I", false)
def tyX5 : Nat → FieldType := fun k => match k with
  | 0 => .object "CaptiveCar$Text"
  | 1 => .object "CaptiveCar$Plan"
  | 2 => .object "CaptiveCar$Plan"
  | 3 => .object "CaptiveCar$Scene"
  | 4 => .object "CaptiveCar$Past"
  | 5 => .array (.object "CaptiveCar$Scene")
  | 6 => .array .int
  | 7 => .array .boolean
  | 8 => .object "CaptiveCar$Findings"
  | _ => .int
abbrev wsX50 : List Cond := u_ws RX5 TX5 10
theorem nmX5 : ∀ a, a < 10 → ∀ b, b < 10 → a ≠ b → (TX5 a).2.1 ≠ (TX5 b).2.1 := by decide +kernel
theorem tyX5_ok : ∀ k, k < 10 → parseFieldDescriptor (TX5 k).2.2.1 = some (tyX5 k) := by decide +kernel
abbrev cX5_init : ByteArray := prog_1_method_1_code
def yX5_init : MethodName := ⟨RX5, "<init>", "()V"⟩
abbrev cX5_feed : ByteArray := prog_1_method_2_code
def yX5_feed : MethodName := ⟨RX5, "feed", "(I)I"⟩
abbrev cX5_fair : ByteArray := prog_1_method_3_code
def yX5_fair : MethodName := ⟨RX5, "fair", "()I"⟩
abbrev cX5_fault : ByteArray := prog_1_method_4_code
def yX5_fault : MethodName := ⟨RX5, "fault", "()I"⟩
abbrev cX5_told : ByteArray := prog_1_method_5_code
def yX5_told : MethodName := ⟨RX5, "told", "(I)I"⟩
abbrev cX5_speed : ByteArray := prog_1_method_6_code
def yX5_speed : MethodName := ⟨RX5, "speed", "(I)I"⟩
abbrev cX5_goer : ByteArray := prog_1_method_7_code
def yX5_goer : MethodName := ⟨RX5, "goer", "(II)I"⟩
abbrev cX5_front : ByteArray := prog_1_method_8_code
def yX5_front : MethodName := ⟨RX5, "front", "(I)I"⟩
abbrev cX5_join : ByteArray := prog_1_method_9_code
def yX5_join : MethodName := ⟨RX5, "join", "(I)I"⟩
abbrev cX5_leave : ByteArray := prog_1_method_10_code
def yX5_leave : MethodName := ⟨RX5, "leave", "(I)I"⟩
abbrev cX5_board : ByteArray := prog_1_method_11_code
def yX5_board : MethodName := ⟨RX5, "board", "()I"⟩
abbrev cX5_car : ByteArray := prog_1_method_12_code
def yX5_car : MethodName := ⟨RX5, "car", "(I)I"⟩
abbrev cX5_alight : ByteArray := prog_1_method_13_code
def yX5_alight : MethodName := ⟨RX5, "alight", "()I"⟩
abbrev cX5_off : ByteArray := prog_1_method_14_code
def yX5_off : MethodName := ⟨RX5, "off", "(I)I"⟩
abbrev cX5_fetch : ByteArray := prog_1_method_15_code
def yX5_fetch : MethodName := ⟨RX5, "fetch", "(I)I"⟩
abbrev cX5_hour : ByteArray := prog_1_method_16_code
def yX5_hour : MethodName := ⟨RX5, "hour", "(I)I"⟩
abbrev cX5_drift : ByteArray := prog_1_method_17_code
def yX5_drift : MethodName := ⟨RX5, "drift", "(I)I"⟩
abbrev cX5_undo : ByteArray := prog_1_method_18_code
def yX5_undo : MethodName := ⟨RX5, "undo", "()I"⟩
abbrev cX5_age : ByteArray := prog_1_method_19_code
def yX5_age : MethodName := ⟨RX5, "age", "(II)I"⟩
abbrev cX5_let : ByteArray := prog_1_method_20_code
def yX5_let : MethodName := ⟨RX5, "let", "(IIII)I"⟩
abbrev cX5_same : ByteArray := prog_1_method_21_code
def yX5_same : MethodName := ⟨RX5, "same", "(III)I"⟩
abbrev cX5_waits : ByteArray := prog_1_method_22_code
def yX5_waits : MethodName := ⟨RX5, "waits", "(I)I"⟩
abbrev cX5_best : ByteArray := prog_1_method_23_code
def yX5_best : MethodName := ⟨RX5, "best", "(I)I"⟩
abbrev cX5_was : ByteArray := prog_1_method_24_code
def yX5_was : MethodName := ⟨RX5, "was", "(IIII)I"⟩
abbrev cX5_meet : ByteArray := prog_1_method_25_code
def yX5_meet : MethodName := ⟨RX5, "meet", "(IIII)I"⟩
abbrev cX5_bestPrice : ByteArray := prog_1_method_26_code
def yX5_bestPrice : MethodName := ⟨RX5, "bestPrice", "(II)I"⟩
abbrev cX5_wind : ByteArray := prog_1_method_27_code
def yX5_wind : MethodName := ⟨RX5, "wind", "(II)I"⟩
abbrev cX5_see : ByteArray := prog_1_method_28_code
def yX5_see : MethodName := ⟨RX5, "see", "(IIZ)I"⟩
abbrev cX5_laws : ByteArray := prog_1_method_29_code
def yX5_laws : MethodName := ⟨RX5, "laws", "(I)I"⟩
abbrev cX5_yard : ByteArray := prog_1_method_30_code
def yX5_yard : MethodName := ⟨RX5, "yard", "()I"⟩
abbrev cX5_feel : ByteArray := prog_1_method_31_code
def yX5_feel : MethodName := ⟨RX5, "feel", "(II)I"⟩
abbrev cX5_ends : ByteArray := prog_1_method_32_code
def yX5_ends : MethodName := ⟨RX5, "ends", "(I)I"⟩
abbrev cX5_write : ByteArray := prog_1_method_33_code
def yX5_write : MethodName := ⟨RX5, "write", "(II)I"⟩
abbrev cX5_tear : ByteArray := prog_1_method_34_code
def yX5_tear : MethodName := ⟨RX5, "tear", "()I"⟩
abbrev cX5_judge : ByteArray := prog_1_method_35_code
def yX5_judge : MethodName := ⟨RX5, "judge", "()I"⟩
abbrev cX5_seed : ByteArray := prog_1_method_36_code
def yX5_seed : MethodName := ⟨RX5, "seed", "(I)I"⟩
abbrev cX5_keep : ByteArray := prog_1_method_37_code
def yX5_keep : MethodName := ⟨RX5, "keep", "(I)I"⟩
abbrev cX5_goBack : ByteArray := prog_1_method_38_code
def yX5_goBack : MethodName := ⟨RX5, "goBack", "(I)I"⟩
abbrev cX5_isOutside : ByteArray := prog_1_method_39_code
def yX5_isOutside : MethodName := ⟨RX5, "isOutside", "(III)Z"⟩
abbrev cX5_older : ByteArray := prog_1_method_40_code
def yX5_older : MethodName := ⟨RX5, "older", "(II)I"⟩
abbrev cX5_skill : ByteArray := prog_1_method_41_code
def yX5_skill : MethodName := ⟨RX5, "skill", "(III)I"⟩
abbrev cX5_halvedAbove : ByteArray := prog_1_method_42_code
def yX5_halvedAbove : MethodName := ⟨RX5, "halvedAbove", "(II)I"⟩
abbrev cX5_refusalOfHours : ByteArray := prog_1_method_43_code
def yX5_refusalOfHours : MethodName := ⟨RX5, "refusalOfHours", "(II)I"⟩
abbrev cX5_paceOf : ByteArray := prog_1_method_44_code
def yX5_paceOf : MethodName := ⟨RX5, "paceOf", "(I)I"⟩
abbrev cX5_bandBehind : ByteArray := prog_1_method_45_code
def yX5_bandBehind : MethodName := ⟨RX5, "bandBehind", "(I)I"⟩
abbrev cX5_youngest : ByteArray := prog_1_method_46_code
def yX5_youngest : MethodName := ⟨RX5, "youngest", "()I"⟩
abbrev cX5_oldest : ByteArray := prog_1_method_47_code
def yX5_oldest : MethodName := ⟨RX5, "oldest", "()I"⟩
abbrev cX5_draw : ByteArray := prog_1_method_48_code
def yX5_draw : MethodName := ⟨RX5, "draw", "(I)I"⟩
abbrev cX5_doByDraw : ByteArray := prog_1_method_49_code
def yX5_doByDraw : MethodName := ⟨RX5, "doByDraw", "()V"⟩
abbrev cX5_joinByDraw : ByteArray := prog_1_method_50_code
def yX5_joinByDraw : MethodName := ⟨RX5, "joinByDraw", "()V"⟩
def RX6 : String := "CaptiveCarModel"
def TX6 : u_T := fun k => match k with
  | 0 => ("CaptiveCarModel", "end", "I", false)
  | 1 => ("CaptiveCarModel", "room", "I", false)
  | 2 => ("CaptiveCarModel", "layers", "I", false)
  | 3 => ("CaptiveCarModel", "from", "[I", true)
  | 4 => ("CaptiveCarModel", "times", "[I", true)
  | 5 => ("CaptiveCarModel", "goers", "I", false)
  | 6 => ("CaptiveCarModel", "ageTold", "[I", true)
  | 7 => ("CaptiveCarModel", "trade", "[I", true)
  | 8 => ("CaptiveCarModel", "price", "I", false)
  | 9 => ("CaptiveCarModel", "now", "[I", true)
  | 10 => ("CaptiveCarModel", "seed", "I", false)
  | 11 => ("CaptiveCarModel", "text", "[I", true)
  | 12 => ("CaptiveCarModel", "texted", "I", false)
  | 13 => ("CaptiveCarModel", "faultPlace", "I", false)
  | 14 => ("CaptiveCarModel", "at0", "I", false)
  | 15 => ("CaptiveCarModel", "number", "I", false)
  | 16 => ("CaptiveCarModel", "numberAt", "I", false)
  | 17 => ("CaptiveCarModel", "readEnd", "I", false)
  | 18 => ("CaptiveCarModel", "readRoom", "I", false)
  | 19 => ("CaptiveCarModel", "readLayers", "I", false)
  | 20 => ("CaptiveCarModel", "readFrom", "[I", true)
  | 21 => ("CaptiveCarModel", "readTimes", "[I", true)
  | 22 => ("CaptiveCarModel", "readGoers", "I", false)
  | 23 => ("CaptiveCarModel", "readAge", "[I", true)
  | 24 => ("CaptiveCarModel", "readTrade", "[I", true)
  | 25 => ("CaptiveCarModel", "readPrice", "I", false)
  | 26 => ("CaptiveCarModel", "hasPrice", "Z", false)
  | 27 => ("CaptiveCarModel", "undos", "I", false)
  | 28 => ("CaptiveCarModel", "past", "[I", true)
  | 29 => ("CaptiveCarModel", "seen", "I", false)
  | 30 => ("CaptiveCarModel", "seenAt", "[I", true)
  | 31 => ("CaptiveCarModel", "seenBy", "[I", true)
  | 32 => ("CaptiveCarModel", "seenMore", "[Z", true)
  | 33 => ("CaptiveCarModel", "lawsOf", "[I", true)
  | 34 => ("CaptiveCarModel", "felt", "I", false)
  | 35 => ("CaptiveCarModel", "feltAt", "[I", true)
  | 36 => ("CaptiveCarModel", "feltHow", "[I", true)
  | 37 => ("CaptiveCarModel", "booked", "I", false)
  | 38 => ("CaptiveCarModel", "bookOf", "[I", true)
  | 39 => ("CaptiveCarModel", "bookIs", "[I", true)
  | 40 => ("CaptiveCarModel", "images", "[I", true)
  | _ => ("CaptiveCarModel", "isKept", "[Z", true)
def tyX6 : Nat → FieldType := fun k => match k with
  | 0 => .int
  | 1 => .int
  | 2 => .int
  | 3 => .array .int
  | 4 => .array .int
  | 5 => .int
  | 6 => .array .int
  | 7 => .array .int
  | 8 => .int
  | 9 => .array .int
  | 10 => .int
  | 11 => .array .int
  | 12 => .int
  | 13 => .int
  | 14 => .int
  | 15 => .int
  | 16 => .int
  | 17 => .int
  | 18 => .int
  | 19 => .int
  | 20 => .array .int
  | 21 => .array .int
  | 22 => .int
  | 23 => .array .int
  | 24 => .array .int
  | 25 => .int
  | 26 => .boolean
  | 27 => .int
  | 28 => .array .int
  | 29 => .int
  | 30 => .array .int
  | 31 => .array .int
  | 32 => .array .boolean
  | 33 => .array .int
  | 34 => .int
  | 35 => .array .int
  | 36 => .array .int
  | 37 => .int
  | 38 => .array .int
  | 39 => .array .int
  | 40 => .array .int
  | _ => .array .boolean
abbrev wsX60 : List Cond := u_ws RX6 TX6 42
theorem nmX6 : ∀ a, a < 42 → ∀ b, b < 42 → a ≠ b → (TX6 a).2.1 ≠ (TX6 b).2.1 := by decide +kernel
theorem tyX6_ok : ∀ k, k < 42 → parseFieldDescriptor (TX6 k).2.2.1 = some (tyX6 k) := by decide +kernel
abbrev cX6_init : ByteArray := prog_8_method_1_code
def yX6_init : MethodName := ⟨RX6, "<init>", "()V"⟩
abbrev cX6_in : ByteArray := prog_8_method_3_code
def yX6_in : MethodName := ⟨RX6, "in", "(JJJ)Z"⟩
abbrev cX6_isGoer : ByteArray := prog_8_method_4_code
def yX6_isGoer : MethodName := ⟨RX6, "isGoer", "(I)Z"⟩
abbrev cX6_feed : ByteArray := prog_8_method_5_code
def yX6_feed : MethodName := ⟨RX6, "feed", "(I)I"⟩
abbrev cX6_here : ByteArray := prog_8_method_6_code
def yX6_here : MethodName := ⟨RX6, "here", "()I"⟩
abbrev cX6_fails : ByteArray := prog_8_method_7_code
def yX6_fails : MethodName := ⟨RX6, "fails", "(II)I"⟩
abbrev cX6_takeNumber : ByteArray := prog_8_method_8_code
def yX6_takeNumber : MethodName := ⟨RX6, "takeNumber", "(II)I"⟩
abbrev cX6_into : ByteArray := prog_8_method_9_code
def yX6_into : MethodName := ⟨RX6, "into", "([IIII)I"⟩
abbrev cX6_takeFair : ByteArray := prog_8_method_10_code
def yX6_takeFair : MethodName := ⟨RX6, "takeFair", "()I"⟩
abbrev cX6_takeLayer : ByteArray := prog_8_method_11_code
def yX6_takeLayer : MethodName := ⟨RX6, "takeLayer", "()I"⟩
abbrev cX6_takeGoer : ByteArray := prog_8_method_12_code
def yX6_takeGoer : MethodName := ⟨RX6, "takeGoer", "()I"⟩
abbrev cX6_takePrice : ByteArray := prog_8_method_13_code
def yX6_takePrice : MethodName := ⟨RX6, "takePrice", "()I"⟩
abbrev cX6_isFull : ByteArray := prog_8_method_14_code
def yX6_isFull : MethodName := ⟨RX6, "isFull", "(I)Z"⟩
abbrev cX6_takeClause : ByteArray := prog_8_method_15_code
def yX6_takeClause : MethodName := ⟨RX6, "takeClause", "()I"⟩
abbrev cX6_copyRow : ByteArray := prog_8_method_16_code
def yX6_copyRow : MethodName := ⟨RX6, "copyRow", "([I[II)V"⟩
abbrev cX6_takeRead : ByteArray := prog_8_method_17_code
def yX6_takeRead : MethodName := ⟨RX6, "takeRead", "()V"⟩
abbrev cX6_fair : ByteArray := prog_8_method_18_code
def yX6_fair : MethodName := ⟨RX6, "fair", "()I"⟩
abbrev cX6_fault : ByteArray := prog_8_method_19_code
def yX6_fault : MethodName := ⟨RX6, "fault", "()I"⟩
abbrev cX6_speedAt : ByteArray := prog_8_method_20_code
def yX6_speedAt : MethodName := ⟨RX6, "speedAt", "(I)I"⟩
abbrev cX6_heightOf : ByteArray := prog_8_method_21_code
def yX6_heightOf : MethodName := ⟨RX6, "heightOf", "(I)I"⟩
abbrev cX6_isUp : ByteArray := prog_8_method_22_code
def yX6_isUp : MethodName := ⟨RX6, "isUp", "(I)Z"⟩
abbrev cX6_paceOf : ByteArray := prog_8_method_23_code
def yX6_paceOf : MethodName := ⟨RX6, "paceOf", "(I)I"⟩
abbrev cX6_olderBy : ByteArray := prog_8_method_24_code
def yX6_olderBy : MethodName := ⟨RX6, "olderBy", "(II)I"⟩
abbrev cX6_skillBy : ByteArray := prog_8_method_25_code
def yX6_skillBy : MethodName := ⟨RX6, "skillBy", "(III)I"⟩
abbrev cX6_skillOf : ByteArray := prog_8_method_26_code
def yX6_skillOf : MethodName := ⟨RX6, "skillOf", "(I)I"⟩
abbrev cX6_bandBehind : ByteArray := prog_8_method_27_code
def yX6_bandBehind : MethodName := ⟨RX6, "bandBehind", "(I)I"⟩
abbrev cX6_allAt : ByteArray := prog_8_method_28_code
def yX6_allAt : MethodName := ⟨RX6, "allAt", "(I)I"⟩
abbrev cX6_manyAt : ByteArray := prog_8_method_29_code
def yX6_manyAt : MethodName := ⟨RX6, "manyAt", "(I)I"⟩
abbrev cX6_byAge : ByteArray := prog_8_method_30_code
def yX6_byAge : MethodName := ⟨RX6, "byAge", "(Z)I"⟩
abbrev cX6_told : ByteArray := prog_8_method_31_code
def yX6_told : MethodName := ⟨RX6, "told", "(I)I"⟩
abbrev cX6_speed : ByteArray := prog_8_method_32_code
def yX6_speed : MethodName := ⟨RX6, "speed", "(I)I"⟩
abbrev cX6_goer : ByteArray := prog_8_method_33_code
def yX6_goer : MethodName := ⟨RX6, "goer", "(II)I"⟩
abbrev cX6_front : ByteArray := prog_8_method_34_code
def yX6_front : MethodName := ⟨RX6, "front", "(I)I"⟩
abbrev cX6_remember : ByteArray := prog_8_method_35_code
def yX6_remember : MethodName := ⟨RX6, "remember", "()V"⟩
abbrev cX6_placeOf : ByteArray := prog_8_method_36_code
def yX6_placeOf : MethodName := ⟨RX6, "placeOf", "(I)I"⟩
abbrev cX6_joinNow : ByteArray := prog_8_method_37_code
def yX6_joinNow : MethodName := ⟨RX6, "joinNow", "(I)V"⟩
abbrev cX6_takeFromLine : ByteArray := prog_8_method_38_code
def yX6_takeFromLine : MethodName := ⟨RX6, "takeFromLine", "(I)V"⟩
abbrev cX6_join : ByteArray := prog_8_method_39_code
def yX6_join : MethodName := ⟨RX6, "join", "(I)I"⟩
abbrev cX6_leave : ByteArray := prog_8_method_40_code
def yX6_leave : MethodName := ⟨RX6, "leave", "(I)I"⟩
abbrev cX6_boardNow : ByteArray := prog_8_method_41_code
def yX6_boardNow : MethodName := ⟨RX6, "boardNow", "()I"⟩
abbrev cX6_board : ByteArray := prog_8_method_42_code
def yX6_board : MethodName := ⟨RX6, "board", "()I"⟩
abbrev cX6_car : ByteArray := prog_8_method_43_code
def yX6_car : MethodName := ⟨RX6, "car", "(I)I"⟩
abbrev cX6_alightNow : ByteArray := prog_8_method_44_code
def yX6_alightNow : MethodName := ⟨RX6, "alightNow", "()I"⟩
abbrev cX6_alight : ByteArray := prog_8_method_45_code
def yX6_alight : MethodName := ⟨RX6, "alight", "()I"⟩
abbrev cX6_off : ByteArray := prog_8_method_46_code
def yX6_off : MethodName := ⟨RX6, "off", "(I)I"⟩
abbrev cX6_fetch : ByteArray := prog_8_method_47_code
def yX6_fetch : MethodName := ⟨RX6, "fetch", "(I)I"⟩
abbrev cX6_pass : ByteArray := prog_8_method_48_code
def yX6_pass : MethodName := ⟨RX6, "pass", "(I)V"⟩
abbrev cX6_hour : ByteArray := prog_8_method_49_code
def yX6_hour : MethodName := ⟨RX6, "hour", "(I)I"⟩
abbrev cX6_draw : ByteArray := prog_8_method_50_code
def yX6_draw : MethodName := ⟨RX6, "draw", "(I)I"⟩
abbrev cX6_chance : ByteArray := prog_8_method_51_code
def yX6_chance : MethodName := ⟨RX6, "chance", "()V"⟩
abbrev cX6_drift : ByteArray := prog_8_method_52_code
def yX6_drift : MethodName := ⟨RX6, "drift", "(I)I"⟩
abbrev cX6_undo : ByteArray := prog_8_method_53_code
def yX6_undo : MethodName := ⟨RX6, "undo", "()I"⟩
abbrev cX6_age : ByteArray := prog_8_method_54_code
def yX6_age : MethodName := ⟨RX6, "age", "(II)I"⟩
abbrev cX6_let : ByteArray := prog_8_method_55_code
def yX6_let : MethodName := ⟨RX6, "let", "(IIII)I"⟩
abbrev cX6_same : ByteArray := prog_8_method_56_code
def yX6_same : MethodName := ⟨RX6, "same", "(III)I"⟩
abbrev cX6_waits : ByteArray := prog_8_method_57_code
def yX6_waits : MethodName := ⟨RX6, "waits", "(I)I"⟩
abbrev cX6_best : ByteArray := prog_8_method_58_code
def yX6_best : MethodName := ⟨RX6, "best", "(I)I"⟩
abbrev cX6_was : ByteArray := prog_8_method_59_code
def yX6_was : MethodName := ⟨RX6, "was", "(IIII)I"⟩
abbrev cX6_meet : ByteArray := prog_8_method_60_code
def yX6_meet : MethodName := ⟨RX6, "meet", "(IIII)I"⟩
abbrev cX6_bestPrice : ByteArray := prog_8_method_61_code
def yX6_bestPrice : MethodName := ⟨RX6, "bestPrice", "(II)I"⟩
abbrev cX6_wind : ByteArray := prog_8_method_62_code
def yX6_wind : MethodName := ⟨RX6, "wind", "(II)I"⟩
abbrev cX6_see : ByteArray := prog_8_method_63_code
def yX6_see : MethodName := ⟨RX6, "see", "(IIZ)I"⟩
abbrev cX6_couldBe : ByteArray := prog_8_method_64_code
def yX6_couldBe : MethodName := ⟨RX6, "couldBe", "(II)Z"⟩
abbrev cX6_findLaws : ByteArray := prog_8_method_65_code
def yX6_findLaws : MethodName := ⟨RX6, "findLaws", "()V"⟩
abbrev cX6_allLaws : ByteArray := prog_8_method_66_code
def yX6_allLaws : MethodName := ⟨RX6, "allLaws", "()I"⟩
abbrev cX6_firstLaw : ByteArray := prog_8_method_67_code
def yX6_firstLaw : MethodName := ⟨RX6, "firstLaw", "()I"⟩
abbrev cX6_laws : ByteArray := prog_8_method_68_code
def yX6_laws : MethodName := ⟨RX6, "laws", "(I)I"⟩
abbrev cX6_yard : ByteArray := prog_8_method_69_code
def yX6_yard : MethodName := ⟨RX6, "yard", "()I"⟩
abbrev cX6_feel : ByteArray := prog_8_method_70_code
def yX6_feel : MethodName := ⟨RX6, "feel", "(II)I"⟩
abbrev cX6_couldEnd : ByteArray := prog_8_method_71_code
def yX6_couldEnd : MethodName := ⟨RX6, "couldEnd", "(I)Z"⟩
abbrev cX6_endBehind : ByteArray := prog_8_method_72_code
def yX6_endBehind : MethodName := ⟨RX6, "endBehind", "(I)I"⟩
abbrev cX6_ends : ByteArray := prog_8_method_73_code
def yX6_ends : MethodName := ⟨RX6, "ends", "(I)I"⟩
abbrev cX6_write : ByteArray := prog_8_method_74_code
def yX6_write : MethodName := ⟨RX6, "write", "(II)I"⟩
abbrev cX6_tear : ByteArray := prog_8_method_75_code
def yX6_tear : MethodName := ⟨RX6, "tear", "()I"⟩
abbrev cX6_judge : ByteArray := prog_8_method_76_code
def yX6_judge : MethodName := ⟨RX6, "judge", "()I"⟩
abbrev cX6_seed : ByteArray := prog_8_method_77_code
def yX6_seed : MethodName := ⟨RX6, "seed", "(I)I"⟩
abbrev cX6_keep : ByteArray := prog_8_method_78_code
def yX6_keep : MethodName := ⟨RX6, "keep", "(I)I"⟩
abbrev cX6_goBack : ByteArray := prog_8_method_79_code
def yX6_goBack : MethodName := ⟨RX6, "goBack", "(I)I"⟩
def RJ6 : String := "java/lang/Integer"
def TJ6 : u_T := fun k => match k with
  | _ => ("", "", "", false)
def tyJ6 : Nat → FieldType := fun k => match k with
  | _ => .int
abbrev wsJ60 : List Cond := u_ws RJ6 TJ6 0
theorem nmJ6 : ∀ a, a < 0 → ∀ b, b < 0 → a ≠ b → (TJ6 a).2.1 ≠ (TJ6 b).2.1 := by decide +kernel
theorem tyJ6_ok : ∀ k, k < 0 → parseFieldDescriptor (TJ6 k).2.2.1 = some (tyJ6 k) := by decide +kernel
abbrev cJ6_bitCount_0f7a4 : ByteArray := prog_9_method_49_code
def yJ6_bitCount_0f7a4 : MethodName := ⟨RJ6, "bitCount", "(I)I"⟩
def RJ9 : String := "java/lang/Math"
def TJ9 : u_T := fun k => match k with
  | _ => ("", "", "", false)
def tyJ9 : Nat → FieldType := fun k => match k with
  | _ => .int
abbrev wsJ90 : List Cond := u_ws RJ9 TJ9 0
theorem nmJ9 : ∀ a, a < 0 → ∀ b, b < 0 → a ≠ b → (TJ9 a).2.1 ≠ (TJ9 b).2.1 := by decide +kernel
theorem tyJ9_ok : ∀ k, k < 0 → parseFieldDescriptor (TJ9 k).2.2.1 = some (tyJ9 k) := by decide +kernel
abbrev cJ9_max_7cf53 : ByteArray := prog_10_method_65_code
def yJ9_max_7cf53 : MethodName := ⟨RJ9, "max", "(II)I"⟩
abbrev cJ9_min_7cf53 : ByteArray := prog_10_method_69_code
def yJ9_min_7cf53 : MethodName := ⟨RJ9, "min", "(II)I"⟩
def RL : String := "CaptiveCarLaw"
abbrev cL_law : ByteArray := code
def yL_law : MethodName := ⟨RL, "law", "([I)Z"⟩
abbrev vwCl : List vw_C := [(RX0, TX0, 10), (RX1, TX1, 3), (RX2, TX2, 11), (RX3, TX3, 9), (RX4, TX4, 6), (RX5, TX5, 10), (RX6, TX6, 42)]
