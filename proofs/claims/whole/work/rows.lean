section
-- ===== PART A: goes FIRST, ahead of the names: the tables' words, and 'selects' of the private methods out of them =====
/-- a private method of a class that the tables say can be made, by its rows of tables_1 -/
def lw_okq (q : MethodName × Nat) : Prop := (q.1.cls ≠ "java/lang/invoke/MethodHandle" ∧ q.1.cls ≠ "java/lang/invoke/VarHandle") ∧ Cond.instantiable q.1.cls q.2 ∈ tables_1 ∧ Cond.privateMethod q.1 ∈ tables_1 ∧ Cond.instanceMethod q.1 ∈ tables_1
theorem lw_p0 : lw_okq (⟨"DarkVats$History", "stateAt", "(I)LDarkVats$House;"⟩, 2) := ⟨⟨by decide +kernel, by decide +kernel⟩, List.mem_of_getElem? (i := 184) (by decide +kernel), List.mem_of_getElem? (i := 294) (by decide +kernel), List.mem_of_getElem? (i := 295) (by decide +kernel)⟩
theorem lw_p1 : lw_okq (⟨"DarkVats$House", "copyVats", "([LDarkVats$Vat;)V"⟩, 10) := ⟨⟨by decide +kernel, by decide +kernel⟩, List.mem_of_getElem? (i := 22) (by decide +kernel), List.mem_of_getElem? (i := 310) (by decide +kernel), List.mem_of_getElem? (i := 311) (by decide +kernel)⟩
theorem lw_p2 : lw_okq (⟨"DarkVats$House", "copyLots", "([LDarkVats$Lot;)V"⟩, 10) := ⟨⟨by decide +kernel, by decide +kernel⟩, List.mem_of_getElem? (i := 22) (by decide +kernel), List.mem_of_getElem? (i := 318) (by decide +kernel), List.mem_of_getElem? (i := 319) (by decide +kernel)⟩
theorem lw_p3 : lw_okq (⟨"DarkVats$House", "copyOrders", "([LDarkVats$Order;)V"⟩, 10) := ⟨⟨by decide +kernel, by decide +kernel⟩, List.mem_of_getElem? (i := 22) (by decide +kernel), List.mem_of_getElem? (i := 327) (by decide +kernel), List.mem_of_getElem? (i := 328) (by decide +kernel)⟩
theorem lw_p4 : lw_okq (⟨"DarkVats$History", "dropOldest", "()V"⟩, 2) := ⟨⟨by decide +kernel, by decide +kernel⟩, List.mem_of_getElem? (i := 184) (by decide +kernel), List.mem_of_getElem? (i := 351) (by decide +kernel), List.mem_of_getElem? (i := 352) (by decide +kernel)⟩
theorem lw_p5 : lw_okq (⟨"DarkVats$Planner", "lotBehind", "(I)LDarkVats$Lot;"⟩, 2) := ⟨⟨by decide +kernel, by decide +kernel⟩, List.mem_of_getElem? (i := 252) (by decide +kernel), List.mem_of_getElem? (i := 614) (by decide +kernel), List.mem_of_getElem? (i := 615) (by decide +kernel)⟩
theorem lw_p6 : lw_okq (⟨"DarkVats$Script", "readWork", "(LDarkVats$Text;)Z"⟩, 8) := ⟨⟨by decide +kernel, by decide +kernel⟩, List.mem_of_getElem? (i := 217) (by decide +kernel), List.mem_of_getElem? (i := 718) (by decide +kernel), List.mem_of_getElem? (i := 719) (by decide +kernel)⟩
theorem lw_p7 : lw_okq (⟨"DarkVats$Script", "readNumber", "(LDarkVats$Text;)I"⟩, 8) := ⟨⟨by decide +kernel, by decide +kernel⟩, List.mem_of_getElem? (i := 217) (by decide +kernel), List.mem_of_getElem? (i := 726) (by decide +kernel), List.mem_of_getElem? (i := 727) (by decide +kernel)⟩
theorem lw_p8 : lw_okq (⟨"DarkVats$Script", "passes", "(LDarkVats$Text;C)Z"⟩, 8) := ⟨⟨by decide +kernel, by decide +kernel⟩, List.mem_of_getElem? (i := 217) (by decide +kernel), List.mem_of_getElem? (i := 733) (by decide +kernel), List.mem_of_getElem? (i := 734) (by decide +kernel)⟩
theorem lw_p9 : lw_okq (⟨"DarkVats$Script", "noteFault", "(III)V"⟩, 8) := ⟨⟨by decide +kernel, by decide +kernel⟩, List.mem_of_getElem? (i := 217) (by decide +kernel), List.mem_of_getElem? (i := 737) (by decide +kernel), List.mem_of_getElem? (i := 738) (by decide +kernel)⟩
theorem lw_p10 : lw_okq (⟨"DarkVatsModel", "notes", "()V"⟩, 12) := ⟨⟨by decide +kernel, by decide +kernel⟩, List.mem_of_getElem? (i := 759) (by decide +kernel), List.mem_of_getElem? (i := 816) (by decide +kernel), List.mem_of_getElem? (i := 817) (by decide +kernel)⟩
theorem lw_p11 : lw_okq (⟨"DarkVatsModel", "isVat", "(I)Z"⟩, 12) := ⟨⟨by decide +kernel, by decide +kernel⟩, List.mem_of_getElem? (i := 759) (by decide +kernel), List.mem_of_getElem? (i := 824) (by decide +kernel), List.mem_of_getElem? (i := 825) (by decide +kernel)⟩
theorem lw_p12 : lw_okq (⟨"DarkVatsModel", "vatNumber", "(II)I"⟩, 12) := ⟨⟨by decide +kernel, by decide +kernel⟩, List.mem_of_getElem? (i := 759) (by decide +kernel), List.mem_of_getElem? (i := 829) (by decide +kernel), List.mem_of_getElem? (i := 830) (by decide +kernel)⟩
theorem lw_p13 : lw_okq (⟨"DarkVatsModel", "asides", "()V"⟩, 12) := ⟨⟨by decide +kernel, by decide +kernel⟩, List.mem_of_getElem? (i := 759) (by decide +kernel), List.mem_of_getElem? (i := 838) (by decide +kernel), List.mem_of_getElem? (i := 839) (by decide +kernel)⟩
theorem lw_p14 : lw_okq (⟨"DarkVatsModel", "drains", "(I)I"⟩, 12) := ⟨⟨by decide +kernel, by decide +kernel⟩, List.mem_of_getElem? (i := 759) (by decide +kernel), List.mem_of_getElem? (i := 842) (by decide +kernel), List.mem_of_getElem? (i := 843) (by decide +kernel)⟩
theorem lw_p15 : lw_okq (⟨"DarkVatsModel", "done", "(I)I"⟩, 12) := ⟨⟨by decide +kernel, by decide +kernel⟩, List.mem_of_getElem? (i := 759) (by decide +kernel), List.mem_of_getElem? (i := 846) (by decide +kernel), List.mem_of_getElem? (i := 847) (by decide +kernel)⟩
def lw_privs_1 : List (MethodName × Nat) := [(⟨"DarkVats$History", "stateAt", "(I)LDarkVats$House;"⟩, 2), (⟨"DarkVats$House", "copyVats", "([LDarkVats$Vat;)V"⟩, 10), (⟨"DarkVats$House", "copyLots", "([LDarkVats$Lot;)V"⟩, 10), (⟨"DarkVats$House", "copyOrders", "([LDarkVats$Order;)V"⟩, 10), (⟨"DarkVats$History", "dropOldest", "()V"⟩, 2), (⟨"DarkVats$Planner", "lotBehind", "(I)LDarkVats$Lot;"⟩, 2), (⟨"DarkVats$Script", "readWork", "(LDarkVats$Text;)Z"⟩, 8), (⟨"DarkVats$Script", "readNumber", "(LDarkVats$Text;)I"⟩, 8), (⟨"DarkVats$Script", "passes", "(LDarkVats$Text;C)Z"⟩, 8), (⟨"DarkVats$Script", "noteFault", "(III)V"⟩, 8), (⟨"DarkVatsModel", "notes", "()V"⟩, 12), (⟨"DarkVatsModel", "isVat", "(I)Z"⟩, 12), (⟨"DarkVatsModel", "vatNumber", "(II)I"⟩, 12), (⟨"DarkVatsModel", "asides", "()V"⟩, 12), (⟨"DarkVatsModel", "drains", "(I)I"⟩, 12), (⟨"DarkVatsModel", "done", "(I)I"⟩, 12)]
theorem lw_r1 : ∀ q ∈ lw_privs_1, lw_okq q := List.forall_mem_cons.mpr ⟨lw_p0, List.forall_mem_cons.mpr ⟨lw_p1, List.forall_mem_cons.mpr ⟨lw_p2, List.forall_mem_cons.mpr ⟨lw_p3, List.forall_mem_cons.mpr ⟨lw_p4, List.forall_mem_cons.mpr ⟨lw_p5, List.forall_mem_cons.mpr ⟨lw_p6, List.forall_mem_cons.mpr ⟨lw_p7, List.forall_mem_cons.mpr ⟨lw_p8, List.forall_mem_cons.mpr ⟨lw_p9, List.forall_mem_cons.mpr ⟨lw_p10, List.forall_mem_cons.mpr ⟨lw_p11, List.forall_mem_cons.mpr ⟨lw_p12, List.forall_mem_cons.mpr ⟨lw_p13, List.forall_mem_cons.mpr ⟨lw_p14, List.forall_mem_cons.mpr ⟨lw_p15, fun _ h => absurd h List.not_mem_nil⟩⟩⟩⟩⟩⟩⟩⟩⟩⟩⟩⟩⟩⟩⟩⟩
theorem lw_p16 : lw_okq (⟨"DarkVatsModel", "backs", "()V"⟩, 12) := ⟨⟨by decide +kernel, by decide +kernel⟩, List.mem_of_getElem? (i := 759) (by decide +kernel), List.mem_of_getElem? (i := 850) (by decide +kernel), List.mem_of_getElem? (i := 851) (by decide +kernel)⟩
theorem lw_p17 : lw_okq (⟨"DarkVatsModel", "isStronger", "(II)Z"⟩, 12) := ⟨⟨by decide +kernel, by decide +kernel⟩, List.mem_of_getElem? (i := 759) (by decide +kernel), List.mem_of_getElem? (i := 862) (by decide +kernel), List.mem_of_getElem? (i := 863) (by decide +kernel)⟩
theorem lw_p18 : lw_okq (⟨"DarkVatsModel", "puts", "(III)V"⟩, 12) := ⟨⟨by decide +kernel, by decide +kernel⟩, List.mem_of_getElem? (i := 759) (by decide +kernel), List.mem_of_getElem? (i := 870) (by decide +kernel), List.mem_of_getElem? (i := 871) (by decide +kernel)⟩
theorem lw_p19 : lw_okq (⟨"DarkVatsModel", "dips", "(II)I"⟩, 12) := ⟨⟨by decide +kernel, by decide +kernel⟩, List.mem_of_getElem? (i := 759) (by decide +kernel), List.mem_of_getElem? (i := 878) (by decide +kernel), List.mem_of_getElem? (i := 879) (by decide +kernel)⟩
theorem lw_p20 : lw_okq (⟨"DarkVatsModel", "isLot", "(I)Z"⟩, 12) := ⟨⟨by decide +kernel, by decide +kernel⟩, List.mem_of_getElem? (i := 759) (by decide +kernel), List.mem_of_getElem? (i := 882) (by decide +kernel), List.mem_of_getElem? (i := 883) (by decide +kernel)⟩
theorem lw_p21 : lw_okq (⟨"DarkVatsModel", "isSold", "(I)Z"⟩, 12) := ⟨⟨by decide +kernel, by decide +kernel⟩, List.mem_of_getElem? (i := 759) (by decide +kernel), List.mem_of_getElem? (i := 886) (by decide +kernel), List.mem_of_getElem? (i := 887) (by decide +kernel)⟩
theorem lw_p22 : lw_okq (⟨"DarkVatsModel", "lotNumber", "(II)I"⟩, 12) := ⟨⟨by decide +kernel, by decide +kernel⟩, List.mem_of_getElem? (i := 759) (by decide +kernel), List.mem_of_getElem? (i := 890) (by decide +kernel), List.mem_of_getElem? (i := 891) (by decide +kernel)⟩
theorem lw_p23 : lw_okq (⟨"DarkVatsModel", "hangs", "(I)Z"⟩, 12) := ⟨⟨by decide +kernel, by decide +kernel⟩, List.mem_of_getElem? (i := 759) (by decide +kernel), List.mem_of_getElem? (i := 894) (by decide +kernel), List.mem_of_getElem? (i := 895) (by decide +kernel)⟩
theorem lw_p24 : lw_okq (⟨"DarkVatsModel", "dyes", "(II)I"⟩, 12) := ⟨⟨by decide +kernel, by decide +kernel⟩, List.mem_of_getElem? (i := 759) (by decide +kernel), List.mem_of_getElem? (i := 898) (by decide +kernel), List.mem_of_getElem? (i := 899) (by decide +kernel)⟩
theorem lw_p25 : lw_okq (⟨"DarkVatsModel", "taken", "(III)I"⟩, 12) := ⟨⟨by decide +kernel, by decide +kernel⟩, List.mem_of_getElem? (i := 759) (by decide +kernel), List.mem_of_getElem? (i := 902) (by decide +kernel), List.mem_of_getElem? (i := 903) (by decide +kernel)⟩
theorem lw_p26 : lw_okq (⟨"DarkVatsModel", "depth", "(I)I"⟩, 12) := ⟨⟨by decide +kernel, by decide +kernel⟩, List.mem_of_getElem? (i := 759) (by decide +kernel), List.mem_of_getElem? (i := 906) (by decide +kernel), List.mem_of_getElem? (i := 907) (by decide +kernel)⟩
theorem lw_p27 : lw_okq (⟨"DarkVatsModel", "grains", "(II)I"⟩, 12) := ⟨⟨by decide +kernel, by decide +kernel⟩, List.mem_of_getElem? (i := 759) (by decide +kernel), List.mem_of_getElem? (i := 910) (by decide +kernel), List.mem_of_getElem? (i := 911) (by decide +kernel)⟩
theorem lw_p28 : lw_okq (⟨"DarkVatsModel", "shadeOf", "(II)I"⟩, 12) := ⟨⟨by decide +kernel, by decide +kernel⟩, List.mem_of_getElem? (i := 759) (by decide +kernel), List.mem_of_getElem? (i := 915) (by decide +kernel), List.mem_of_getElem? (i := 916) (by decide +kernel)⟩
theorem lw_p29 : lw_okq (⟨"DarkVatsModel", "rinses", "(I)I"⟩, 12) := ⟨⟨by decide +kernel, by decide +kernel⟩, List.mem_of_getElem? (i := 759) (by decide +kernel), List.mem_of_getElem? (i := 923) (by decide +kernel), List.mem_of_getElem? (i := 924) (by decide +kernel)⟩
theorem lw_p30 : lw_okq (⟨"DarkVatsModel", "hangsOn", "(II)I"⟩, 12) := ⟨⟨by decide +kernel, by decide +kernel⟩, List.mem_of_getElem? (i := 759) (by decide +kernel), List.mem_of_getElem? (i := 931) (by decide +kernel), List.mem_of_getElem? (i := 932) (by decide +kernel)⟩
theorem lw_p31 : lw_okq (⟨"DarkVatsModel", "hanging", "(I)I"⟩, 12) := ⟨⟨by decide +kernel, by decide +kernel⟩, List.mem_of_getElem? (i := 759) (by decide +kernel), List.mem_of_getElem? (i := 935) (by decide +kernel), List.mem_of_getElem? (i := 936) (by decide +kernel)⟩
def lw_privs_2 : List (MethodName × Nat) := [(⟨"DarkVatsModel", "backs", "()V"⟩, 12), (⟨"DarkVatsModel", "isStronger", "(II)Z"⟩, 12), (⟨"DarkVatsModel", "puts", "(III)V"⟩, 12), (⟨"DarkVatsModel", "dips", "(II)I"⟩, 12), (⟨"DarkVatsModel", "isLot", "(I)Z"⟩, 12), (⟨"DarkVatsModel", "isSold", "(I)Z"⟩, 12), (⟨"DarkVatsModel", "lotNumber", "(II)I"⟩, 12), (⟨"DarkVatsModel", "hangs", "(I)Z"⟩, 12), (⟨"DarkVatsModel", "dyes", "(II)I"⟩, 12), (⟨"DarkVatsModel", "taken", "(III)I"⟩, 12), (⟨"DarkVatsModel", "depth", "(I)I"⟩, 12), (⟨"DarkVatsModel", "grains", "(II)I"⟩, 12), (⟨"DarkVatsModel", "shadeOf", "(II)I"⟩, 12), (⟨"DarkVatsModel", "rinses", "(I)I"⟩, 12), (⟨"DarkVatsModel", "hangsOn", "(II)I"⟩, 12), (⟨"DarkVatsModel", "hanging", "(I)I"⟩, 12)]
theorem lw_r2 : ∀ q ∈ lw_privs_2, lw_okq q := List.forall_mem_cons.mpr ⟨lw_p16, List.forall_mem_cons.mpr ⟨lw_p17, List.forall_mem_cons.mpr ⟨lw_p18, List.forall_mem_cons.mpr ⟨lw_p19, List.forall_mem_cons.mpr ⟨lw_p20, List.forall_mem_cons.mpr ⟨lw_p21, List.forall_mem_cons.mpr ⟨lw_p22, List.forall_mem_cons.mpr ⟨lw_p23, List.forall_mem_cons.mpr ⟨lw_p24, List.forall_mem_cons.mpr ⟨lw_p25, List.forall_mem_cons.mpr ⟨lw_p26, List.forall_mem_cons.mpr ⟨lw_p27, List.forall_mem_cons.mpr ⟨lw_p28, List.forall_mem_cons.mpr ⟨lw_p29, List.forall_mem_cons.mpr ⟨lw_p30, List.forall_mem_cons.mpr ⟨lw_p31, fun _ h => absurd h List.not_mem_nil⟩⟩⟩⟩⟩⟩⟩⟩⟩⟩⟩⟩⟩⟩⟩⟩
theorem lw_p32 : lw_okq (⟨"DarkVatsModel", "takesDown", "(I)I"⟩, 12) := ⟨⟨by decide +kernel, by decide +kernel⟩, List.mem_of_getElem? (i := 759) (by decide +kernel), List.mem_of_getElem? (i := 943) (by decide +kernel), List.mem_of_getElem? (i := 944) (by decide +kernel)⟩
theorem lw_p33 : lw_okq (⟨"DarkVatsModel", "sum", "(II)I"⟩, 12) := ⟨⟨by decide +kernel, by decide +kernel⟩, List.mem_of_getElem? (i := 759) (by decide +kernel), List.mem_of_getElem? (i := 951) (by decide +kernel), List.mem_of_getElem? (i := 952) (by decide +kernel)⟩
theorem lw_p34 : lw_okq (⟨"DarkVatsModel", "exact", "(II)F"⟩, 12) := ⟨⟨by decide +kernel, by decide +kernel⟩, List.mem_of_getElem? (i := 759) (by decide +kernel), List.mem_of_getElem? (i := 963) (by decide +kernel), List.mem_of_getElem? (i := 964) (by decide +kernel)⟩
theorem lw_p35 : lw_okq (⟨"DarkVatsModel", "unserved", "()I"⟩, 12) := ⟨⟨by decide +kernel, by decide +kernel⟩, List.mem_of_getElem? (i := 759) (by decide +kernel), List.mem_of_getElem? (i := 988) (by decide +kernel), List.mem_of_getElem? (i := 989) (by decide +kernel)⟩
theorem lw_p36 : lw_okq (⟨"DarkVatsModel", "orderNumber", "(II)I"⟩, 12) := ⟨⟨by decide +kernel, by decide +kernel⟩, List.mem_of_getElem? (i := 759) (by decide +kernel), List.mem_of_getElem? (i := 992) (by decide +kernel), List.mem_of_getElem? (i := 993) (by decide +kernel)⟩
theorem lw_p37 : lw_okq (⟨"DarkVatsModel", "sells", "(II)I"⟩, 12) := ⟨⟨by decide +kernel, by decide +kernel⟩, List.mem_of_getElem? (i := 759) (by decide +kernel), List.mem_of_getElem? (i := 1000) (by decide +kernel), List.mem_of_getElem? (i := 1001) (by decide +kernel)⟩
theorem lw_p38 : lw_okq (⟨"DarkVatsModel", "isOrder", "(I)Z"⟩, 12) := ⟨⟨by decide +kernel, by decide +kernel⟩, List.mem_of_getElem? (i := 759) (by decide +kernel), List.mem_of_getElem? (i := 1004) (by decide +kernel), List.mem_of_getElem? (i := 1005) (by decide +kernel)⟩
theorem lw_p39 : lw_okq (⟨"DarkVatsModel", "fits", "(II)Z"⟩, 12) := ⟨⟨by decide +kernel, by decide +kernel⟩, List.mem_of_getElem? (i := 759) (by decide +kernel), List.mem_of_getElem? (i := 1008) (by decide +kernel), List.mem_of_getElem? (i := 1009) (by decide +kernel)⟩
theorem lw_p40 : lw_okq (⟨"DarkVatsModel", "fitting", "(I)I"⟩, 12) := ⟨⟨by decide +kernel, by decide +kernel⟩, List.mem_of_getElem? (i := 759) (by decide +kernel), List.mem_of_getElem? (i := 1019) (by decide +kernel), List.mem_of_getElem? (i := 1020) (by decide +kernel)⟩
theorem lw_p41 : lw_okq (⟨"DarkVatsModel", "nearest", "(I)I"⟩, 12) := ⟨⟨by decide +kernel, by decide +kernel⟩, List.mem_of_getElem? (i := 759) (by decide +kernel), List.mem_of_getElem? (i := 1023) (by decide +kernel), List.mem_of_getElem? (i := 1024) (by decide +kernel)⟩
theorem lw_p42 : lw_okq (⟨"DarkVatsModel", "plans", "(II)I"⟩, 12) := ⟨⟨by decide +kernel, by decide +kernel⟩, List.mem_of_getElem? (i := 759) (by decide +kernel), List.mem_of_getElem? (i := 1039) (by decide +kernel), List.mem_of_getElem? (i := 1040) (by decide +kernel)⟩
theorem lw_p43 : lw_okq (⟨"DarkVatsModel", "makesFit", "(IIII)Z"⟩, 12) := ⟨⟨by decide +kernel, by decide +kernel⟩, List.mem_of_getElem? (i := 759) (by decide +kernel), List.mem_of_getElem? (i := 1043) (by decide +kernel), List.mem_of_getElem? (i := 1044) (by decide +kernel)⟩
theorem lw_p44 : lw_okq (⟨"DarkVatsModel", "inVats", "(I)I"⟩, 12) := ⟨⟨by decide +kernel, by decide +kernel⟩, List.mem_of_getElem? (i := 759) (by decide +kernel), List.mem_of_getElem? (i := 1055) (by decide +kernel), List.mem_of_getElem? (i := 1056) (by decide +kernel)⟩
theorem lw_p45 : lw_okq (⟨"DarkVatsModel", "inLots", "(IZ)I"⟩, 12) := ⟨⟨by decide +kernel, by decide +kernel⟩, List.mem_of_getElem? (i := 759) (by decide +kernel), List.mem_of_getElem? (i := 1059) (by decide +kernel), List.mem_of_getElem? (i := 1060) (by decide +kernel)⟩
theorem lw_p46 : lw_okq (⟨"DarkVatsModel", "inHouse", "()I"⟩, 12) := ⟨⟨by decide +kernel, by decide +kernel⟩, List.mem_of_getElem? (i := 759) (by decide +kernel), List.mem_of_getElem? (i := 1067) (by decide +kernel), List.mem_of_getElem? (i := 1068) (by decide +kernel)⟩
theorem lw_p47 : lw_okq (⟨"DarkVatsModel", "plays", "()I"⟩, 12) := ⟨⟨by decide +kernel, by decide +kernel⟩, List.mem_of_getElem? (i := 759) (by decide +kernel), List.mem_of_getElem? (i := 1090) (by decide +kernel), List.mem_of_getElem? (i := 1091) (by decide +kernel)⟩
def lw_privs_3 : List (MethodName × Nat) := [(⟨"DarkVatsModel", "takesDown", "(I)I"⟩, 12), (⟨"DarkVatsModel", "sum", "(II)I"⟩, 12), (⟨"DarkVatsModel", "exact", "(II)F"⟩, 12), (⟨"DarkVatsModel", "unserved", "()I"⟩, 12), (⟨"DarkVatsModel", "orderNumber", "(II)I"⟩, 12), (⟨"DarkVatsModel", "sells", "(II)I"⟩, 12), (⟨"DarkVatsModel", "isOrder", "(I)Z"⟩, 12), (⟨"DarkVatsModel", "fits", "(II)Z"⟩, 12), (⟨"DarkVatsModel", "fitting", "(I)I"⟩, 12), (⟨"DarkVatsModel", "nearest", "(I)I"⟩, 12), (⟨"DarkVatsModel", "plans", "(II)I"⟩, 12), (⟨"DarkVatsModel", "makesFit", "(IIII)Z"⟩, 12), (⟨"DarkVatsModel", "inVats", "(I)I"⟩, 12), (⟨"DarkVatsModel", "inLots", "(IZ)I"⟩, 12), (⟨"DarkVatsModel", "inHouse", "()I"⟩, 12), (⟨"DarkVatsModel", "plays", "()I"⟩, 12)]
theorem lw_r3 : ∀ q ∈ lw_privs_3, lw_okq q := List.forall_mem_cons.mpr ⟨lw_p32, List.forall_mem_cons.mpr ⟨lw_p33, List.forall_mem_cons.mpr ⟨lw_p34, List.forall_mem_cons.mpr ⟨lw_p35, List.forall_mem_cons.mpr ⟨lw_p36, List.forall_mem_cons.mpr ⟨lw_p37, List.forall_mem_cons.mpr ⟨lw_p38, List.forall_mem_cons.mpr ⟨lw_p39, List.forall_mem_cons.mpr ⟨lw_p40, List.forall_mem_cons.mpr ⟨lw_p41, List.forall_mem_cons.mpr ⟨lw_p42, List.forall_mem_cons.mpr ⟨lw_p43, List.forall_mem_cons.mpr ⟨lw_p44, List.forall_mem_cons.mpr ⟨lw_p45, List.forall_mem_cons.mpr ⟨lw_p46, List.forall_mem_cons.mpr ⟨lw_p47, fun _ h => absurd h List.not_mem_nil⟩⟩⟩⟩⟩⟩⟩⟩⟩⟩⟩⟩⟩⟩⟩⟩
theorem lw_p48 : lw_okq (⟨"DarkVatsModel", "reads", "()V"⟩, 12) := ⟨⟨by decide +kernel, by decide +kernel⟩, List.mem_of_getElem? (i := 759) (by decide +kernel), List.mem_of_getElem? (i := 1094) (by decide +kernel), List.mem_of_getElem? (i := 1095) (by decide +kernel)⟩
theorem lw_p49 : lw_okq (⟨"DarkVatsModel", "here", "()I"⟩, 12) := ⟨⟨by decide +kernel, by decide +kernel⟩, List.mem_of_getElem? (i := 759) (by decide +kernel), List.mem_of_getElem? (i := 1098) (by decide +kernel), List.mem_of_getElem? (i := 1099) (by decide +kernel)⟩
theorem lw_p50 : lw_okq (⟨"DarkVatsModel", "number", "()I"⟩, 12) := ⟨⟨by decide +kernel, by decide +kernel⟩, List.mem_of_getElem? (i := 759) (by decide +kernel), List.mem_of_getElem? (i := 1105) (by decide +kernel), List.mem_of_getElem? (i := 1106) (by decide +kernel)⟩
theorem lw_p51 : lw_okq (⟨"DarkVatsModel", "sign", "(I)V"⟩, 12) := ⟨⟨by decide +kernel, by decide +kernel⟩, List.mem_of_getElem? (i := 759) (by decide +kernel), List.mem_of_getElem? (i := 1109) (by decide +kernel), List.mem_of_getElem? (i := 1110) (by decide +kernel)⟩
theorem lw_p52 : lw_okq (⟨"DarkVatsModel", "does", "()I"⟩, 12) := ⟨⟨by decide +kernel, by decide +kernel⟩, List.mem_of_getElem? (i := 759) (by decide +kernel), List.mem_of_getElem? (i := 1113) (by decide +kernel), List.mem_of_getElem? (i := 1114) (by decide +kernel)⟩
def lw_privs_4 : List (MethodName × Nat) := [(⟨"DarkVatsModel", "reads", "()V"⟩, 12), (⟨"DarkVatsModel", "here", "()I"⟩, 12), (⟨"DarkVatsModel", "number", "()I"⟩, 12), (⟨"DarkVatsModel", "sign", "(I)V"⟩, 12), (⟨"DarkVatsModel", "does", "()I"⟩, 12)]
theorem lw_r4 : ∀ q ∈ lw_privs_4, lw_okq q := List.forall_mem_cons.mpr ⟨lw_p48, List.forall_mem_cons.mpr ⟨lw_p49, List.forall_mem_cons.mpr ⟨lw_p50, List.forall_mem_cons.mpr ⟨lw_p51, List.forall_mem_cons.mpr ⟨lw_p52, fun _ h => absurd h List.not_mem_nil⟩⟩⟩⟩⟩
def lw_privs : List (MethodName × Nat) := lw_privs_1 ++ (lw_privs_2 ++ (lw_privs_3 ++ (lw_privs_4)))
def lw_tbl : List Cond := k2_sels lw_privs ++ tables_1
theorem lw_privs_ok : ∀ q ∈ lw_privs, lw_okq q := by
  show ∀ q ∈ lw_privs_1 ++ (lw_privs_2 ++ (lw_privs_3 ++ (lw_privs_4))), lw_okq q
  exact List.forall_mem_append.mpr ⟨lw_r1, List.forall_mem_append.mpr ⟨lw_r2, List.forall_mem_append.mpr ⟨lw_r3, lw_r4⟩⟩⟩
/-- the streams that the claim lets the run draw from -/
abbrev lw_cs : List Choice := [Jvm.Choice.named "NaN.bits"]
theorem lw_bits : nanBits ∈ lw_cs := by first | decide | exact List.mem_cons_self | simp [lw_cs, nanBits]

def RX0 : String := "DarkVats$History"
def TX0 : u_T := fun k => match k with
  | 0 => ("DarkVats$History", "states", "[LDarkVats$House;", true)
  | _ => ("DarkVats$History", "size", "I", false)
def tyX0 : Nat → FieldType := fun k => match k with
  | 0 => .array (.object "DarkVats$House")
  | _ => .int
theorem nmX0 : ∀ a, a < 2 → ∀ b, b < 2 → a ≠ b → (TX0 a).2.1 ≠ (TX0 b).2.1 := by decide +kernel
theorem tyX0_ok : ∀ k, k < 2 → parseFieldDescriptor (TX0 k).2.2.1 = some (tyX0 k) := by decide +kernel
abbrev cX0_init : ByteArray := prog_2_method_1_code
def yX0_init : MethodName := ⟨RX0, "<init>", "()V"⟩
abbrev cX0_stateAt : ByteArray := prog_2_method_2_code
def yX0_stateAt : MethodName := ⟨RX0, "stateAt", "(I)LDarkVats$House;"⟩
abbrev cX0_noteState : ByteArray := prog_2_method_3_code
def yX0_noteState : MethodName := ⟨RX0, "noteState", "(LDarkVats$House;)V"⟩
abbrev cX0_keepNoted : ByteArray := prog_2_method_4_code
def yX0_keepNoted : MethodName := ⟨RX0, "keepNoted", "(I)I"⟩
abbrev cX0_dropOldest : ByteArray := prog_2_method_5_code
def yX0_dropOldest : MethodName := ⟨RX0, "dropOldest", "()V"⟩
abbrev cX0_stepBack : ByteArray := prog_2_method_6_code
def yX0_stepBack : MethodName := ⟨RX0, "stepBack", "(LDarkVats$House;)I"⟩
def RX1 : String := "DarkVats$House"
def TX1 : u_T := fun k => match k with
  | 0 => ("DarkVats$House", "vats", "[LDarkVats$Vat;", true)
  | 1 => ("DarkVats$House", "lots", "[LDarkVats$Lot;", true)
  | 2 => ("DarkVats$House", "orders", "[LDarkVats$Order;", true)
  | 3 => ("DarkVats$House", "vatCount", "I", false)
  | 4 => ("DarkVats$House", "lotCount", "I", false)
  | 5 => ("DarkVats$House", "orderCount", "I", false)
  | 6 => ("DarkVats$House", "dips", "I", false)
  | 7 => ("DarkVats$House", "weighed", "[I", true)
  | 8 => ("DarkVats$House", "waste", "[I", true)
  | _ => ("DarkVats$House", "settings", "LDarkVats$Settings;", true)
def tyX1 : Nat → FieldType := fun k => match k with
  | 0 => .array (.object "DarkVats$Vat")
  | 1 => .array (.object "DarkVats$Lot")
  | 2 => .array (.object "DarkVats$Order")
  | 3 => .int
  | 4 => .int
  | 5 => .int
  | 6 => .int
  | 7 => .array .int
  | 8 => .array .int
  | _ => .object "DarkVats$Settings"
theorem nmX1 : ∀ a, a < 10 → ∀ b, b < 10 → a ≠ b → (TX1 a).2.1 ≠ (TX1 b).2.1 := by decide +kernel
theorem tyX1_ok : ∀ k, k < 10 → parseFieldDescriptor (TX1 k).2.2.1 = some (tyX1 k) := by decide +kernel
abbrev cX1_init : ByteArray := prog_3_method_1_code
def yX1_init : MethodName := ⟨RX1, "<init>", "()V"⟩
abbrev cX1_copyFrom : ByteArray := prog_3_method_2_code
def yX1_copyFrom : MethodName := ⟨RX1, "copyFrom", "(LDarkVats$House;)V"⟩
abbrev cX1_copyVats : ByteArray := prog_3_method_3_code
def yX1_copyVats : MethodName := ⟨RX1, "copyVats", "([LDarkVats$Vat;)V"⟩
abbrev cX1_copyLots : ByteArray := prog_3_method_4_code
def yX1_copyLots : MethodName := ⟨RX1, "copyLots", "([LDarkVats$Lot;)V"⟩
abbrev cX1_copyOrders : ByteArray := prog_3_method_5_code
def yX1_copyOrders : MethodName := ⟨RX1, "copyOrders", "([LDarkVats$Order;)V"⟩
abbrev cX1_findVat : ByteArray := prog_3_method_6_code
def yX1_findVat : MethodName := ⟨RX1, "findVat", "(I)LDarkVats$Vat;"⟩
abbrev cX1_findLot : ByteArray := prog_3_method_7_code
def yX1_findLot : MethodName := ⟨RX1, "findLot", "(I)LDarkVats$Lot;"⟩
abbrev cX1_findOrder : ByteArray := prog_3_method_8_code
def yX1_findOrder : MethodName := ⟨RX1, "findOrder", "(I)LDarkVats$Order;"⟩
abbrev cX1_addVat : ByteArray := prog_3_method_9_code
def yX1_addVat : MethodName := ⟨RX1, "addVat", "(II)I"⟩
abbrev cX1_weighInto : ByteArray := prog_3_method_10_code
def yX1_weighInto : MethodName := ⟨RX1, "weighInto", "(II)I"⟩
abbrev cX1_drainVat : ByteArray := prog_3_method_11_code
def yX1_drainVat : MethodName := ⟨RX1, "drainVat", "(I)I"⟩
abbrev cX1_addLot : ByteArray := prog_3_method_12_code
def yX1_addLot : MethodName := ⟨RX1, "addLot", "(II)I"⟩
abbrev cX1_dipLot : ByteArray := prog_3_method_13_code
def yX1_dipLot : MethodName := ⟨RX1, "dipLot", "(II)I"⟩
abbrev cX1_rinseLot : ByteArray := prog_3_method_14_code
def yX1_rinseLot : MethodName := ⟨RX1, "rinseLot", "(I)I"⟩
abbrev cX1_hangLot : ByteArray := prog_3_method_15_code
def yX1_hangLot : MethodName := ⟨RX1, "hangLot", "(II)I"⟩
abbrev cX1_takeDown : ByteArray := prog_3_method_16_code
def yX1_takeDown : MethodName := ⟨RX1, "takeDown", "(I)I"⟩
abbrev cX1_addOrder : ByteArray := prog_3_method_17_code
def yX1_addOrder : MethodName := ⟨RX1, "addOrder", "(IIII)I"⟩
abbrev cX1_isAskable : ByteArray := prog_3_method_18_code
def yX1_isAskable : MethodName := ⟨RX1, "isAskable", "(I)Z"⟩
abbrev cX1_sellLot : ByteArray := prog_3_method_19_code
def yX1_sellLot : MethodName := ⟨RX1, "sellLot", "(II)I"⟩
abbrev cX1_doWork : ByteArray := prog_3_method_20_code
def yX1_doWork : MethodName := ⟨RX1, "doWork", "(CII)I"⟩
abbrev cX1_vatsAheadOf : ByteArray := prog_3_method_21_code
def yX1_vatsAheadOf : MethodName := ⟨RX1, "vatsAheadOf", "(I)I"⟩
abbrev cX1_lotsOnRack : ByteArray := prog_3_method_22_code
def yX1_lotsOnRack : MethodName := ⟨RX1, "lotsOnRack", "(I)I"⟩
abbrev cX1_openOrders : ByteArray := prog_3_method_23_code
def yX1_openOrders : MethodName := ⟨RX1, "openOrders", "()I"⟩
abbrev cX1_lotsThatFit : ByteArray := prog_3_method_24_code
def yX1_lotsThatFit : MethodName := ⟨RX1, "lotsThatFit", "(LDarkVats$Order;)I"⟩
abbrev cX1_nearestLot : ByteArray := prog_3_method_25_code
def yX1_nearestLot : MethodName := ⟨RX1, "nearestLot", "(LDarkVats$Order;)I"⟩
abbrev cX1_lotsNotFarAbove : ByteArray := prog_3_method_26_code
def yX1_lotsNotFarAbove : MethodName := ⟨RX1, "lotsNotFarAbove", "(II)I"⟩
abbrev cX1_lotsCounted : ByteArray := prog_3_method_27_code
def yX1_lotsCounted : MethodName := ⟨RX1, "lotsCounted", "(I)I"⟩
abbrev cX1_isCounted : ByteArray := prog_3_method_28_code
def yX1_isCounted : MethodName := ⟨RX1, "isCounted", "(LDarkVats$Lot;I)Z"⟩
abbrev cX1_grainsInVats : ByteArray := prog_3_method_29_code
def yX1_grainsInVats : MethodName := ⟨RX1, "grainsInVats", "(I)I"⟩
abbrev cX1_fixedInHouse : ByteArray := prog_3_method_30_code
def yX1_fixedInHouse : MethodName := ⟨RX1, "fixedInHouse", "(I)I"⟩
abbrev cX1_looseInHouse : ByteArray := prog_3_method_31_code
def yX1_looseInHouse : MethodName := ⟨RX1, "looseInHouse", "(I)I"⟩
abbrev cX1_grainsSold : ByteArray := prog_3_method_32_code
def yX1_grainsSold : MethodName := ⟨RX1, "grainsSold", "(I)I"⟩
def RX2 : String := "DarkVats$Lot"
def TX2 : u_T := fun k => match k with
  | 0 => ("DarkVats$Lot", "cloth", "I", false)
  | 1 => ("DarkVats$Lot", "weight", "I", false)
  | 2 => ("DarkVats$Lot", "hangs", "Z", false)
  | 3 => ("DarkVats$Lot", "spoiled", "Z", false)
  | 4 => ("DarkVats$Lot", "dark", "Z", false)
  | 5 => ("DarkVats$Lot", "soldFor", "I", false)
  | 6 => ("DarkVats$Lot", "dips", "I", false)
  | 7 => ("DarkVats$Lot", "fixed", "[I", true)
  | _ => ("DarkVats$Lot", "loose", "[I", true)
def tyX2 : Nat → FieldType := fun k => match k with
  | 0 => .int
  | 1 => .int
  | 2 => .boolean
  | 3 => .boolean
  | 4 => .boolean
  | 5 => .int
  | 6 => .int
  | 7 => .array .int
  | _ => .array .int
theorem nmX2 : ∀ a, a < 9 → ∀ b, b < 9 → a ≠ b → (TX2 a).2.1 ≠ (TX2 b).2.1 := by decide +kernel
theorem tyX2_ok : ∀ k, k < 9 → parseFieldDescriptor (TX2 k).2.2.1 = some (tyX2 k) := by decide +kernel
abbrev cX2_init : ByteArray := prog_4_method_1_code
def yX2_init : MethodName := ⟨RX2, "<init>", "()V"⟩
abbrev cX2_copyFrom : ByteArray := prog_4_method_2_code
def yX2_copyFrom : MethodName := ⟨RX2, "copyFrom", "(LDarkVats$Lot;)V"⟩
abbrev cX2_isSold : ByteArray := prog_4_method_3_code
def yX2_isSold : MethodName := ⟨RX2, "isSold", "()Z"⟩
abbrev cX2_grainsOf : ByteArray := prog_4_method_4_code
def yX2_grainsOf : MethodName := ⟨RX2, "grainsOf", "(I)I"⟩
abbrev cX2_shadeOf : ByteArray := prog_4_method_5_code
def yX2_shadeOf : MethodName := ⟨RX2, "shadeOf", "(I)I"⟩
abbrev cX2_depth : ByteArray := prog_4_method_6_code
def yX2_depth : MethodName := ⟨RX2, "depth", "()I"⟩
abbrev cX2_floatShade : ByteArray := prog_4_method_7_code
def yX2_floatShade : MethodName := ⟨RX2, "floatShade", "(I)F"⟩
abbrev cX2_grainsTaken : ByteArray := prog_4_method_8_code
def yX2_grainsTaken : MethodName := ⟨RX2, "grainsTaken", "(IILDarkVats$Settings;)I"⟩
abbrev cX2_soakIn : ByteArray := prog_4_method_9_code
def yX2_soakIn : MethodName := ⟨RX2, "soakIn", "(LDarkVats$Vat;LDarkVats$Settings;)I"⟩
def RX3 : String := "DarkVats$Order"
def TX3 : u_T := fun k => match k with
  | 0 => ("DarkVats$Order", "shades", "[I", true)
  | _ => ("DarkVats$Order", "served", "Z", false)
def tyX3 : Nat → FieldType := fun k => match k with
  | 0 => .array .int
  | _ => .boolean
theorem nmX3 : ∀ a, a < 2 → ∀ b, b < 2 → a ≠ b → (TX3 a).2.1 ≠ (TX3 b).2.1 := by decide +kernel
theorem tyX3_ok : ∀ k, k < 2 → parseFieldDescriptor (TX3 k).2.2.1 = some (tyX3 k) := by decide +kernel
abbrev cX3_init : ByteArray := prog_5_method_1_code
def yX3_init : MethodName := ⟨RX3, "<init>", "()V"⟩
abbrev cX3_copyFrom : ByteArray := prog_5_method_2_code
def yX3_copyFrom : MethodName := ⟨RX3, "copyFrom", "(LDarkVats$Order;)V"⟩
abbrev cX3_ask : ByteArray := prog_5_method_3_code
def yX3_ask : MethodName := ⟨RX3, "ask", "(IIII)V"⟩
abbrev cX3_shadeFor : ByteArray := prog_5_method_4_code
def yX3_shadeFor : MethodName := ⟨RX3, "shadeFor", "(I)I"⟩
abbrev cX3_isFittedBy : ByteArray := prog_5_method_5_code
def yX3_isFittedBy : MethodName := ⟨RX3, "isFittedBy", "(LDarkVats$Lot;LDarkVats$Settings;)Z"⟩
abbrev cX3_distanceTo : ByteArray := prog_5_method_6_code
def yX3_distanceTo : MethodName := ⟨RX3, "distanceTo", "(LDarkVats$Lot;)I"⟩
def RX4 : String := "DarkVats$Planner"
def TX4 : u_T := fun k => match k with
  | 0 => ("DarkVats$Planner", "dipped", "[LDarkVats$Lot;", true)
  | _ => ("DarkVats$Planner", "path", "[I", true)
def tyX4 : Nat → FieldType := fun k => match k with
  | 0 => .array (.object "DarkVats$Lot")
  | _ => .array .int
theorem nmX4 : ∀ a, a < 2 → ∀ b, b < 2 → a ≠ b → (TX4 a).2.1 ≠ (TX4 b).2.1 := by decide +kernel
theorem tyX4_ok : ∀ k, k < 2 → parseFieldDescriptor (TX4 k).2.2.1 = some (tyX4 k) := by decide +kernel
abbrev cX4_init : ByteArray := prog_6_method_1_code
def yX4_init : MethodName := ⟨RX4, "<init>", "()V"⟩
abbrev cX4_vatOfDip : ByteArray := prog_6_method_2_code
def yX4_vatOfDip : MethodName := ⟨RX4, "vatOfDip", "(I)I"⟩
abbrev cX4_lotBehind : ByteArray := prog_6_method_3_code
def yX4_lotBehind : MethodName := ⟨RX4, "lotBehind", "(I)LDarkVats$Lot;"⟩
abbrev cX4_findPlan : ByteArray := prog_6_method_4_code
def yX4_findPlan : MethodName := ⟨RX4, "findPlan", "(LDarkVats$House;LDarkVats$Lot;LDarkVats$Order;)I"⟩
abbrev cX4_isReached : ByteArray := prog_6_method_5_code
def yX4_isReached : MethodName := ⟨RX4, "isReached", "(LDarkVats$Planner;LDarkVats$House;LDarkVats$Order;II)Z"⟩
def RX5 : String := "DarkVats$Script"
def TX5 : u_T := fun k => match k with
  | 0 => ("DarkVats$Script", "worksDone", "I", false)
  | 1 => ("DarkVats$Script", "faultPlace", "I", false)
  | 2 => ("DarkVats$Script", "faultReason", "I", false)
  | 3 => ("DarkVats$Script", "faultCause", "I", false)
  | 4 => ("DarkVats$Script", "place", "I", false)
  | 5 => ("DarkVats$Script", "kind", "C", false)
  | 6 => ("DarkVats$Script", "first", "I", false)
  | _ => ("DarkVats$Script", "second", "I", false)
def tyX5 : Nat → FieldType := fun k => match k with
  | 0 => .int
  | 1 => .int
  | 2 => .int
  | 3 => .int
  | 4 => .int
  | 5 => .char
  | 6 => .int
  | _ => .int
theorem nmX5 : ∀ a, a < 8 → ∀ b, b < 8 → a ≠ b → (TX5 a).2.1 ≠ (TX5 b).2.1 := by decide +kernel
theorem tyX5_ok : ∀ k, k < 8 → parseFieldDescriptor (TX5 k).2.2.1 = some (tyX5 k) := by decide +kernel
abbrev cX5_init : ByteArray := prog_7_method_1_code
def yX5_init : MethodName := ⟨RX5, "<init>", "()V"⟩
abbrev cX5_hasFault : ByteArray := prog_7_method_2_code
def yX5_hasFault : MethodName := ⟨RX5, "hasFault", "()Z"⟩
abbrev cX5_doAll : ByteArray := prog_7_method_3_code
def yX5_doAll : MethodName := ⟨RX5, "doAll", "(LDarkVats$Text;LDarkVats$House;)V"⟩
abbrev cX5_noteFault : ByteArray := prog_7_method_4_code
def yX5_noteFault : MethodName := ⟨RX5, "noteFault", "(III)V"⟩
abbrev cX5_readWork : ByteArray := prog_7_method_5_code
def yX5_readWork : MethodName := ⟨RX5, "readWork", "(LDarkVats$Text;)Z"⟩
abbrev cX5_readNumber : ByteArray := prog_7_method_6_code
def yX5_readNumber : MethodName := ⟨RX5, "readNumber", "(LDarkVats$Text;)I"⟩
abbrev cX5_digitOf : ByteArray := prog_7_method_7_code
def yX5_digitOf : MethodName := ⟨RX5, "digitOf", "(C)I"⟩
abbrev cX5_passes : ByteArray := prog_7_method_8_code
def yX5_passes : MethodName := ⟨RX5, "passes", "(LDarkVats$Text;C)Z"⟩
def RX6 : String := "DarkVats$Settings"
def TX6 : u_T := fun k => match k with
  | _ => ("DarkVats$Settings", "values", "[I", true)
def tyX6 : Nat → FieldType := fun k => match k with
  | _ => .array .int
theorem nmX6 : ∀ a, a < 1 → ∀ b, b < 1 → a ≠ b → (TX6 a).2.1 ≠ (TX6 b).2.1 := by decide +kernel
theorem tyX6_ok : ∀ k, k < 1 → parseFieldDescriptor (TX6 k).2.2.1 = some (tyX6 k) := by decide +kernel
abbrev cX6_init : ByteArray := prog_8_method_1_code
def yX6_init : MethodName := ⟨RX6, "<init>", "()V"⟩
abbrev cX6_exists : ByteArray := prog_8_method_2_code
def yX6_exists : MethodName := ⟨RX6, "exists", "(I)Z"⟩
abbrev cX6_valueOf : ByteArray := prog_8_method_3_code
def yX6_valueOf : MethodName := ⟨RX6, "valueOf", "(I)I"⟩
abbrev cX6_copyFrom : ByteArray := prog_8_method_4_code
def yX6_copyFrom : MethodName := ⟨RX6, "copyFrom", "(LDarkVats$Settings;)V"⟩
abbrev cX6_change : ByteArray := prog_8_method_5_code
def yX6_change : MethodName := ⟨RX6, "change", "(II)I"⟩
def RX7 : String := "DarkVats$Text"
def TX7 : u_T := fun k => match k with
  | 0 => ("DarkVats$Text", "signs", "[C", true)
  | _ => ("DarkVats$Text", "length", "I", false)
def tyX7 : Nat → FieldType := fun k => match k with
  | 0 => .array .char
  | _ => .int
theorem nmX7 : ∀ a, a < 2 → ∀ b, b < 2 → a ≠ b → (TX7 a).2.1 ≠ (TX7 b).2.1 := by decide +kernel
theorem tyX7_ok : ∀ k, k < 2 → parseFieldDescriptor (TX7 k).2.2.1 = some (tyX7 k) := by decide +kernel
abbrev cX7_init : ByteArray := prog_9_method_1_code
def yX7_init : MethodName := ⟨RX7, "<init>", "()V"⟩
abbrev cX7_append : ByteArray := prog_9_method_2_code
def yX7_append : MethodName := ⟨RX7, "append", "(I)I"⟩
abbrev cX7_makeEmpty : ByteArray := prog_9_method_3_code
def yX7_makeEmpty : MethodName := ⟨RX7, "makeEmpty", "()I"⟩
abbrev cX7_signAt : ByteArray := prog_9_method_4_code
def yX7_signAt : MethodName := ⟨RX7, "signAt", "(I)C"⟩
def RX8 : String := "DarkVats$Vat"
def TX8 : u_T := fun k => match k with
  | 0 => ("DarkVats$Vat", "dye", "I", false)
  | 1 => ("DarkVats$Vat", "litres", "I", false)
  | 2 => ("DarkVats$Vat", "grains", "I", false)
  | _ => ("DarkVats$Vat", "dirt", "I", false)
def tyX8 : Nat → FieldType := fun k => match k with
  | 0 => .int
  | 1 => .int
  | 2 => .int
  | _ => .int
theorem nmX8 : ∀ a, a < 4 → ∀ b, b < 4 → a ≠ b → (TX8 a).2.1 ≠ (TX8 b).2.1 := by decide +kernel
theorem tyX8_ok : ∀ k, k < 4 → parseFieldDescriptor (TX8 k).2.2.1 = some (tyX8 k) := by decide +kernel
abbrev cX8_init : ByteArray := prog_10_method_1_code
def yX8_init : MethodName := ⟨RX8, "<init>", "()V"⟩
abbrev cX8_copyFrom : ByteArray := prog_10_method_2_code
def yX8_copyFrom : MethodName := ⟨RX8, "copyFrom", "(LDarkVats$Vat;)V"⟩
abbrev cX8_strength : ByteArray := prog_10_method_3_code
def yX8_strength : MethodName := ⟨RX8, "strength", "()I"⟩
abbrev cX8_spoils : ByteArray := prog_10_method_4_code
def yX8_spoils : MethodName := ⟨RX8, "spoils", "(LDarkVats$Settings;)Z"⟩
abbrev cX8_isAheadOfLater : ByteArray := prog_10_method_5_code
def yX8_isAheadOfLater : MethodName := ⟨RX8, "isAheadOfLater", "(LDarkVats$Vat;)Z"⟩
def RX9 : String := "DarkVats"
def TX9 : u_T := fun k => match k with
  | 0 => ("DarkVats", "house", "LDarkVats$House;", true)
  | 1 => ("DarkVats", "trial", "LDarkVats$House;", true)
  | 2 => ("DarkVats", "history", "LDarkVats$History;", true)
  | 3 => ("DarkVats", "text", "LDarkVats$Text;", true)
  | 4 => ("DarkVats", "script", "LDarkVats$Script;", true)
  | _ => ("DarkVats", "planner", "LDarkVats$Planner;", true)
def tyX9 : Nat → FieldType := fun k => match k with
  | 0 => .object "DarkVats$House"
  | 1 => .object "DarkVats$House"
  | 2 => .object "DarkVats$History"
  | 3 => .object "DarkVats$Text"
  | 4 => .object "DarkVats$Script"
  | _ => .object "DarkVats$Planner"
theorem nmX9 : ∀ a, a < 6 → ∀ b, b < 6 → a ≠ b → (TX9 a).2.1 ≠ (TX9 b).2.1 := by decide +kernel
theorem tyX9_ok : ∀ k, k < 6 → parseFieldDescriptor (TX9 k).2.2.1 = some (tyX9 k) := by decide +kernel
abbrev cX9_init : ByteArray := prog_1_method_1_code
def yX9_init : MethodName := ⟨RX9, "<init>", "()V"⟩
abbrev cX9_vat : ByteArray := prog_1_method_2_code
def yX9_vat : MethodName := ⟨RX9, "vat", "(II)I"⟩
abbrev cX9_weigh : ByteArray := prog_1_method_3_code
def yX9_weigh : MethodName := ⟨RX9, "weigh", "(II)I"⟩
abbrev cX9_drain : ByteArray := prog_1_method_4_code
def yX9_drain : MethodName := ⟨RX9, "drain", "(I)I"⟩
abbrev cX9_vatOf : ByteArray := prog_1_method_5_code
def yX9_vatOf : MethodName := ⟨RX9, "vatOf", "(II)I"⟩
abbrev cX9_vatAt : ByteArray := prog_1_method_6_code
def yX9_vatAt : MethodName := ⟨RX9, "vatAt", "(I)I"⟩
abbrev cX9_lot : ByteArray := prog_1_method_7_code
def yX9_lot : MethodName := ⟨RX9, "lot", "(II)I"⟩
abbrev cX9_dip : ByteArray := prog_1_method_8_code
def yX9_dip : MethodName := ⟨RX9, "dip", "(II)I"⟩
abbrev cX9_rinse : ByteArray := prog_1_method_9_code
def yX9_rinse : MethodName := ⟨RX9, "rinse", "(I)I"⟩
abbrev cX9_hang : ByteArray := prog_1_method_10_code
def yX9_hang : MethodName := ⟨RX9, "hang", "(II)I"⟩
abbrev cX9_take : ByteArray := prog_1_method_11_code
def yX9_take : MethodName := ⟨RX9, "take", "(I)I"⟩
abbrev cX9_lotOf : ByteArray := prog_1_method_12_code
def yX9_lotOf : MethodName := ⟨RX9, "lotOf", "(II)I"⟩
abbrev cX9_shade : ByteArray := prog_1_method_13_code
def yX9_shade : MethodName := ⟨RX9, "shade", "(II)I"⟩
abbrev cX9_shadeBits : ByteArray := prog_1_method_14_code
def yX9_shadeBits : MethodName := ⟨RX9, "shadeBits", "(II)I"⟩
abbrev cX9_meanBits : ByteArray := prog_1_method_15_code
def yX9_meanBits : MethodName := ⟨RX9, "meanBits", "(I)I"⟩
abbrev cX9_order : ByteArray := prog_1_method_16_code
def yX9_order : MethodName := ⟨RX9, "order", "(IIII)I"⟩
abbrev cX9_sell : ByteArray := prog_1_method_17_code
def yX9_sell : MethodName := ⟨RX9, "sell", "(II)I"⟩
abbrev cX9_orderOf : ByteArray := prog_1_method_18_code
def yX9_orderOf : MethodName := ⟨RX9, "orderOf", "(II)I"⟩
abbrev cX9_match : ByteArray := prog_1_method_19_code
def yX9_match : MethodName := ⟨RX9, "match", "(II)I"⟩
abbrev cX9_alike : ByteArray := prog_1_method_20_code
def yX9_alike : MethodName := ⟨RX9, "alike", "(I)I"⟩
abbrev cX9_plan : ByteArray := prog_1_method_21_code
def yX9_plan : MethodName := ⟨RX9, "plan", "(III)I"⟩
abbrev cX9_takes : ByteArray := prog_1_method_22_code
def yX9_takes : MethodName := ⟨RX9, "takes", "(III)I"⟩
abbrev cX9_account : ByteArray := prog_1_method_23_code
def yX9_account : MethodName := ⟨RX9, "account", "(II)I"⟩
abbrev cX9_count : ByteArray := prog_1_method_24_code
def yX9_count : MethodName := ⟨RX9, "count", "(I)I"⟩
abbrev cX9_set : ByteArray := prog_1_method_25_code
def yX9_set : MethodName := ⟨RX9, "set", "(II)I"⟩
abbrev cX9_undo : ByteArray := prog_1_method_26_code
def yX9_undo : MethodName := ⟨RX9, "undo", "()I"⟩
abbrev cX9_type : ByteArray := prog_1_method_27_code
def yX9_type : MethodName := ⟨RX9, "type", "(I)I"⟩
abbrev cX9_clearText : ByteArray := prog_1_method_28_code
def yX9_clearText : MethodName := ⟨RX9, "clearText", "()I"⟩
abbrev cX9_fault : ByteArray := prog_1_method_29_code
def yX9_fault : MethodName := ⟨RX9, "fault", "(I)I"⟩
abbrev cX9_play : ByteArray := prog_1_method_30_code
def yX9_play : MethodName := ⟨RX9, "play", "()I"⟩
abbrev cX9_isDye : ByteArray := prog_1_method_31_code
def yX9_isDye : MethodName := ⟨RX9, "isDye", "(I)Z"⟩
abbrev cX9_oneIf : ByteArray := prog_1_method_32_code
def yX9_oneIf : MethodName := ⟨RX9, "oneIf", "(Z)I"⟩
abbrev cX9_distance : ByteArray := prog_1_method_33_code
def yX9_distance : MethodName := ⟨RX9, "distance", "(II)I"⟩
abbrev cX9_cellAt : ByteArray := prog_1_method_34_code
def yX9_cellAt : MethodName := ⟨RX9, "cellAt", "([II)I"⟩
abbrev cX9_putAt : ByteArray := prog_1_method_35_code
def yX9_putAt : MethodName := ⟨RX9, "putAt", "([III)V"⟩
abbrev cX9_addTo : ByteArray := prog_1_method_36_code
def yX9_addTo : MethodName := ⟨RX9, "addTo", "([III)V"⟩
abbrev cX9_sumOf : ByteArray := prog_1_method_37_code
def yX9_sumOf : MethodName := ⟨RX9, "sumOf", "([I)I"⟩
abbrev cX9_copyRow : ByteArray := prog_1_method_38_code
def yX9_copyRow : MethodName := ⟨RX9, "copyRow", "([I[I)V"⟩
abbrev cX9_bitsOf : ByteArray := prog_1_method_39_code
def yX9_bitsOf : MethodName := ⟨RX9, "bitsOf", "(F)I"⟩
def RX10 : String := "DarkVatsModel"
def TX10 : u_T := fun k => match k with
  | 0 => ("DarkVatsModel", "now", "[I", true)
  | 1 => ("DarkVatsModel", "kept", "[I", true)
  | 2 => ("DarkVatsModel", "states", "I", false)
  | 3 => ("DarkVatsModel", "aside", "[I", true)
  | 4 => ("DarkVatsModel", "text", "[I", true)
  | 5 => ("DarkVatsModel", "length", "I", false)
  | 6 => ("DarkVatsModel", "way", "[I", true)
  | 7 => ("DarkVatsModel", "at", "I", false)
  | 8 => ("DarkVatsModel", "letter", "I", false)
  | 9 => ("DarkVatsModel", "told", "[I", true)
  | 10 => ("DarkVatsModel", "isForm", "Z", false)
  | _ => ("DarkVatsModel", "met", "[I", true)
def tyX10 : Nat → FieldType := fun k => match k with
  | 0 => .array .int
  | 1 => .array .int
  | 2 => .int
  | 3 => .array .int
  | 4 => .array .int
  | 5 => .int
  | 6 => .array .int
  | 7 => .int
  | 8 => .int
  | 9 => .array .int
  | 10 => .boolean
  | _ => .array .int
theorem nmX10 : ∀ a, a < 12 → ∀ b, b < 12 → a ≠ b → (TX10 a).2.1 ≠ (TX10 b).2.1 := by decide +kernel
theorem tyX10_ok : ∀ k, k < 12 → parseFieldDescriptor (TX10 k).2.2.1 = some (tyX10 k) := by decide +kernel
abbrev cX10_init : ByteArray := prog_12_method_1_code
def yX10_init : MethodName := ⟨RX10, "<init>", "()V"⟩
abbrev cX10_in : ByteArray := prog_12_method_2_code
def yX10_in : MethodName := ⟨RX10, "in", "(III)Z"⟩
abbrev cX10_isVat : ByteArray := prog_12_method_3_code
def yX10_isVat : MethodName := ⟨RX10, "isVat", "(I)Z"⟩
abbrev cX10_isLot : ByteArray := prog_12_method_4_code
def yX10_isLot : MethodName := ⟨RX10, "isLot", "(I)Z"⟩
abbrev cX10_isOrder : ByteArray := prog_12_method_5_code
def yX10_isOrder : MethodName := ⟨RX10, "isOrder", "(I)Z"⟩
abbrev cX10_isDye : ByteArray := prog_12_method_6_code
def yX10_isDye : MethodName := ⟨RX10, "isDye", "(I)Z"⟩
abbrev cX10_vatNumber : ByteArray := prog_12_method_7_code
def yX10_vatNumber : MethodName := ⟨RX10, "vatNumber", "(II)I"⟩
abbrev cX10_lotNumber : ByteArray := prog_12_method_8_code
def yX10_lotNumber : MethodName := ⟨RX10, "lotNumber", "(II)I"⟩
abbrev cX10_puts : ByteArray := prog_12_method_9_code
def yX10_puts : MethodName := ⟨RX10, "puts", "(III)V"⟩
abbrev cX10_orderNumber : ByteArray := prog_12_method_10_code
def yX10_orderNumber : MethodName := ⟨RX10, "orderNumber", "(II)I"⟩
abbrev cX10_isSold : ByteArray := prog_12_method_11_code
def yX10_isSold : MethodName := ⟨RX10, "isSold", "(I)Z"⟩
abbrev cX10_hangs : ByteArray := prog_12_method_12_code
def yX10_hangs : MethodName := ⟨RX10, "hangs", "(I)Z"⟩
abbrev cX10_notes : ByteArray := prog_12_method_13_code
def yX10_notes : MethodName := ⟨RX10, "notes", "()V"⟩
abbrev cX10_asides : ByteArray := prog_12_method_14_code
def yX10_asides : MethodName := ⟨RX10, "asides", "()V"⟩
abbrev cX10_backs : ByteArray := prog_12_method_15_code
def yX10_backs : MethodName := ⟨RX10, "backs", "()V"⟩
abbrev cX10_done : ByteArray := prog_12_method_16_code
def yX10_done : MethodName := ⟨RX10, "done", "(I)I"⟩
abbrev cX10_undo : ByteArray := prog_12_method_17_code
def yX10_undo : MethodName := ⟨RX10, "undo", "()I"⟩
abbrev cX10_vat : ByteArray := prog_12_method_18_code
def yX10_vat : MethodName := ⟨RX10, "vat", "(II)I"⟩
abbrev cX10_weigh : ByteArray := prog_12_method_19_code
def yX10_weigh : MethodName := ⟨RX10, "weigh", "(II)I"⟩
abbrev cX10_drains : ByteArray := prog_12_method_20_code
def yX10_drains : MethodName := ⟨RX10, "drains", "(I)I"⟩
abbrev cX10_drain : ByteArray := prog_12_method_21_code
def yX10_drain : MethodName := ⟨RX10, "drain", "(I)I"⟩
abbrev cX10_vatOf : ByteArray := prog_12_method_22_code
def yX10_vatOf : MethodName := ⟨RX10, "vatOf", "(II)I"⟩
abbrev cX10_isStronger : ByteArray := prog_12_method_23_code
def yX10_isStronger : MethodName := ⟨RX10, "isStronger", "(II)Z"⟩
abbrev cX10_vatAt : ByteArray := prog_12_method_24_code
def yX10_vatAt : MethodName := ⟨RX10, "vatAt", "(I)I"⟩
abbrev cX10_grains : ByteArray := prog_12_method_25_code
def yX10_grains : MethodName := ⟨RX10, "grains", "(II)I"⟩
abbrev cX10_shadeOf : ByteArray := prog_12_method_26_code
def yX10_shadeOf : MethodName := ⟨RX10, "shadeOf", "(II)I"⟩
abbrev cX10_depth : ByteArray := prog_12_method_27_code
def yX10_depth : MethodName := ⟨RX10, "depth", "(I)I"⟩
abbrev cX10_lot : ByteArray := prog_12_method_28_code
def yX10_lot : MethodName := ⟨RX10, "lot", "(II)I"⟩
abbrev cX10_taken : ByteArray := prog_12_method_29_code
def yX10_taken : MethodName := ⟨RX10, "taken", "(III)I"⟩
abbrev cX10_dyes : ByteArray := prog_12_method_30_code
def yX10_dyes : MethodName := ⟨RX10, "dyes", "(II)I"⟩
abbrev cX10_dips : ByteArray := prog_12_method_31_code
def yX10_dips : MethodName := ⟨RX10, "dips", "(II)I"⟩
abbrev cX10_dip : ByteArray := prog_12_method_32_code
def yX10_dip : MethodName := ⟨RX10, "dip", "(II)I"⟩
abbrev cX10_rinses : ByteArray := prog_12_method_33_code
def yX10_rinses : MethodName := ⟨RX10, "rinses", "(I)I"⟩
abbrev cX10_rinse : ByteArray := prog_12_method_34_code
def yX10_rinse : MethodName := ⟨RX10, "rinse", "(I)I"⟩
abbrev cX10_hanging : ByteArray := prog_12_method_35_code
def yX10_hanging : MethodName := ⟨RX10, "hanging", "(I)I"⟩
abbrev cX10_hangsOn : ByteArray := prog_12_method_36_code
def yX10_hangsOn : MethodName := ⟨RX10, "hangsOn", "(II)I"⟩
abbrev cX10_hang : ByteArray := prog_12_method_37_code
def yX10_hang : MethodName := ⟨RX10, "hang", "(II)I"⟩
abbrev cX10_takesDown : ByteArray := prog_12_method_38_code
def yX10_takesDown : MethodName := ⟨RX10, "takesDown", "(I)I"⟩
abbrev cX10_take : ByteArray := prog_12_method_39_code
def yX10_take : MethodName := ⟨RX10, "take", "(I)I"⟩
abbrev cX10_sum : ByteArray := prog_12_method_40_code
def yX10_sum : MethodName := ⟨RX10, "sum", "(II)I"⟩
abbrev cX10_lotOf : ByteArray := prog_12_method_41_code
def yX10_lotOf : MethodName := ⟨RX10, "lotOf", "(II)I"⟩
abbrev cX10_shade : ByteArray := prog_12_method_42_code
def yX10_shade : MethodName := ⟨RX10, "shade", "(II)I"⟩
abbrev cX10_exact : ByteArray := prog_12_method_43_code
def yX10_exact : MethodName := ⟨RX10, "exact", "(II)F"⟩
abbrev cX10_shadeBits : ByteArray := prog_12_method_44_code
def yX10_shadeBits : MethodName := ⟨RX10, "shadeBits", "(II)I"⟩
abbrev cX10_meanBits : ByteArray := prog_12_method_45_code
def yX10_meanBits : MethodName := ⟨RX10, "meanBits", "(I)I"⟩
abbrev cX10_unserved : ByteArray := prog_12_method_46_code
def yX10_unserved : MethodName := ⟨RX10, "unserved", "()I"⟩
abbrev cX10_isShade : ByteArray := prog_12_method_47_code
def yX10_isShade : MethodName := ⟨RX10, "isShade", "(I)Z"⟩
abbrev cX10_order : ByteArray := prog_12_method_48_code
def yX10_order : MethodName := ⟨RX10, "order", "(IIII)I"⟩
abbrev cX10_apart : ByteArray := prog_12_method_49_code
def yX10_apart : MethodName := ⟨RX10, "apart", "(II)I"⟩
abbrev cX10_fits : ByteArray := prog_12_method_50_code
def yX10_fits : MethodName := ⟨RX10, "fits", "(II)Z"⟩
abbrev cX10_sells : ByteArray := prog_12_method_51_code
def yX10_sells : MethodName := ⟨RX10, "sells", "(II)I"⟩
abbrev cX10_sell : ByteArray := prog_12_method_52_code
def yX10_sell : MethodName := ⟨RX10, "sell", "(II)I"⟩
abbrev cX10_fitting : ByteArray := prog_12_method_53_code
def yX10_fitting : MethodName := ⟨RX10, "fitting", "(I)I"⟩
abbrev cX10_nearest : ByteArray := prog_12_method_54_code
def yX10_nearest : MethodName := ⟨RX10, "nearest", "(I)I"⟩
abbrev cX10_orderOf : ByteArray := prog_12_method_55_code
def yX10_orderOf : MethodName := ⟨RX10, "orderOf", "(II)I"⟩
abbrev cX10_match : ByteArray := prog_12_method_56_code
def yX10_match : MethodName := ⟨RX10, "match", "(II)I"⟩
abbrev cX10_alike : ByteArray := prog_12_method_57_code
def yX10_alike : MethodName := ⟨RX10, "alike", "(I)I"⟩
abbrev cX10_makesFit : ByteArray := prog_12_method_58_code
def yX10_makesFit : MethodName := ⟨RX10, "makesFit", "(IIII)Z"⟩
abbrev cX10_plans : ByteArray := prog_12_method_59_code
def yX10_plans : MethodName := ⟨RX10, "plans", "(II)I"⟩
abbrev cX10_plan : ByteArray := prog_12_method_60_code
def yX10_plan : MethodName := ⟨RX10, "plan", "(III)I"⟩
abbrev cX10_takes : ByteArray := prog_12_method_61_code
def yX10_takes : MethodName := ⟨RX10, "takes", "(III)I"⟩
abbrev cX10_inVats : ByteArray := prog_12_method_62_code
def yX10_inVats : MethodName := ⟨RX10, "inVats", "(I)I"⟩
abbrev cX10_inLots : ByteArray := prog_12_method_63_code
def yX10_inLots : MethodName := ⟨RX10, "inLots", "(IZ)I"⟩
abbrev cX10_account : ByteArray := prog_12_method_64_code
def yX10_account : MethodName := ⟨RX10, "account", "(II)I"⟩
abbrev cX10_inHouse : ByteArray := prog_12_method_65_code
def yX10_inHouse : MethodName := ⟨RX10, "inHouse", "()I"⟩
abbrev cX10_count : ByteArray := prog_12_method_66_code
def yX10_count : MethodName := ⟨RX10, "count", "(I)I"⟩
abbrev cX10_isSetting : ByteArray := prog_12_method_67_code
def yX10_isSetting : MethodName := ⟨RX10, "isSetting", "(II)Z"⟩
abbrev cX10_set : ByteArray := prog_12_method_68_code
def yX10_set : MethodName := ⟨RX10, "set", "(II)I"⟩
abbrev cX10_type : ByteArray := prog_12_method_69_code
def yX10_type : MethodName := ⟨RX10, "type", "(I)I"⟩
abbrev cX10_clearText : ByteArray := prog_12_method_70_code
def yX10_clearText : MethodName := ⟨RX10, "clearText", "()I"⟩
abbrev cX10_here : ByteArray := prog_12_method_71_code
def yX10_here : MethodName := ⟨RX10, "here", "()I"⟩
abbrev cX10_sign : ByteArray := prog_12_method_72_code
def yX10_sign : MethodName := ⟨RX10, "sign", "(I)V"⟩
abbrev cX10_number : ByteArray := prog_12_method_73_code
def yX10_number : MethodName := ⟨RX10, "number", "()I"⟩
abbrev cX10_numbers : ByteArray := prog_12_method_74_code
def yX10_numbers : MethodName := ⟨RX10, "numbers", "(I)I"⟩
abbrev cX10_reads : ByteArray := prog_12_method_75_code
def yX10_reads : MethodName := ⟨RX10, "reads", "()V"⟩
abbrev cX10_does : ByteArray := prog_12_method_76_code
def yX10_does : MethodName := ⟨RX10, "does", "()I"⟩
abbrev cX10_plays : ByteArray := prog_12_method_77_code
def yX10_plays : MethodName := ⟨RX10, "plays", "()I"⟩
abbrev cX10_fault : ByteArray := prog_12_method_78_code
def yX10_fault : MethodName := ⟨RX10, "fault", "(I)I"⟩
abbrev cX10_play : ByteArray := prog_12_method_79_code
def yX10_play : MethodName := ⟨RX10, "play", "()I"⟩
def RJxf58ca : String := "java/lang/Float"
def TJxf58ca : u_T := fun k => match k with
  | _ => ("", "", "", false)
def tyJxf58ca : Nat → FieldType := fun k => match k with
  | _ => .int
abbrev wsJxf58ca0 : List Cond := u_ws RJxf58ca TJxf58ca 0
theorem nmJxf58ca : ∀ a, a < 0 → ∀ b, b < 0 → a ≠ b → (TJxf58ca a).2.1 ≠ (TJxf58ca b).2.1 := by decide +kernel
theorem tyJxf58ca_ok : ∀ k, k < 0 → parseFieldDescriptor (TJxf58ca k).2.2.1 = some (tyJxf58ca k) := by decide +kernel
abbrev cJxf58ca_isNaN_12338 : ByteArray := prog_13_method_6_code
def yJxf58ca_isNaN_12338 : MethodName := ⟨RJxf58ca, "isNaN", "(F)Z"⟩
abbrev cJxf58ca_floatToIntBits_5c35a : ByteArray := prog_13_method_24_code
def yJxf58ca_floatToIntBits_5c35a : MethodName := ⟨RJxf58ca, "floatToIntBits", "(F)I"⟩
def RL : String := "DarkVatsLaw"
abbrev cL_law : ByteArray := code
def yL_law : MethodName := ⟨RL, "law", "([I)Z"⟩
abbrev vwCl : List vw_C := [(RX0, TX0, 2), (RX1, TX1, 10), (RX2, TX2, 9), (RX3, TX3, 2), (RX4, TX4, 2), (RX5, TX5, 8), (RX6, TX6, 1), (RX7, TX7, 2), (RX8, TX8, 4), (RX9, TX9, 6), (RX10, TX10, 12)]
abbrev Mt : Type := MethodName × ByteArray × Nat × Option FieldType
/-- a field link of class own at entry idx: field k of class ci, its descriptor, final or not -/
def FLk (own : String) (idx ci k : Nat) (ds : String) (fin : Bool) : Prop := ∃ q : vw_C, vwCl[ci]? = some q ∧ k < q.2.2 ∧ q.2.1 k = (q.1, (q.2.1 k).2.1, ds, fin) ∧ Cond.fieldLink own idx q.1 (q.2.1 k).2.1 (q.2.1 k).2.2.1 ∈ lw_tbl
abbrev mX0_init : Mt := (yX0_init, cX0_init, 2, none)
theorem kX0_init_c : Cond.code yX0_init cX0_init 2 none ∈ lw_tbl := List.mem_of_getElem? (i := 240) (by decide +kernel)
theorem kX0_init_i : Cond.instanceMethod yX0_init ∈ lw_tbl := List.mem_of_getElem? (i := 239) (by decide +kernel)
abbrev mX0_stateAt : Mt := (yX0_stateAt, cX0_stateAt, 2, (some (.object "DarkVats$House")))
theorem kX0_stateAt_c : Cond.code yX0_stateAt cX0_stateAt 2 (some (.object "DarkVats$House")) ∈ lw_tbl := List.mem_of_getElem? (i := 349) (by decide +kernel)
theorem kX0_stateAt_i : Cond.instanceMethod yX0_stateAt ∈ lw_tbl := List.mem_of_getElem? (i := 348) (by decide +kernel)
theorem kX0_stateAt_s : Cond.selects RX0 yX0_stateAt yX0_stateAt ∈ lw_tbl := List.mem_of_getElem? (i := 0) (by decide +kernel)
abbrev mX0_noteState : Mt := (yX0_noteState, cX0_noteState, 3, none)
theorem kX0_noteState_c : Cond.code yX0_noteState cX0_noteState 3 none ∈ lw_tbl := List.mem_of_getElem? (i := 345) (by decide +kernel)
theorem kX0_noteState_i : Cond.instanceMethod yX0_noteState ∈ lw_tbl := List.mem_of_getElem? (i := 343) (by decide +kernel)
theorem kX0_noteState_s : Cond.selects RX0 yX0_noteState yX0_noteState ∈ lw_tbl := List.mem_of_getElem? (i := 344) (by decide +kernel)
abbrev mX0_keepNoted : Mt := (yX0_keepNoted, cX0_keepNoted, 2, (some .int))
theorem kX0_keepNoted_c : Cond.code yX0_keepNoted cX0_keepNoted 2 (some .int) ∈ lw_tbl := List.mem_of_getElem? (i := 402) (by decide +kernel)
theorem kX0_keepNoted_i : Cond.instanceMethod yX0_keepNoted ∈ lw_tbl := List.mem_of_getElem? (i := 400) (by decide +kernel)
theorem kX0_keepNoted_s : Cond.selects RX0 yX0_keepNoted yX0_keepNoted ∈ lw_tbl := List.mem_of_getElem? (i := 401) (by decide +kernel)
abbrev mX0_dropOldest : Mt := (yX0_dropOldest, cX0_dropOldest, 3, none)
theorem kX0_dropOldest_c : Cond.code yX0_dropOldest cX0_dropOldest 3 none ∈ lw_tbl := List.mem_of_getElem? (i := 406) (by decide +kernel)
theorem kX0_dropOldest_i : Cond.instanceMethod yX0_dropOldest ∈ lw_tbl := List.mem_of_getElem? (i := 405) (by decide +kernel)
theorem kX0_dropOldest_s : Cond.selects RX0 yX0_dropOldest yX0_dropOldest ∈ lw_tbl := List.mem_of_getElem? (i := 4) (by decide +kernel)
abbrev mX0_stepBack : Mt := (yX0_stepBack, cX0_stepBack, 3, (some .int))
theorem kX0_stepBack_c : Cond.code yX0_stepBack cX0_stepBack 3 (some .int) ∈ lw_tbl := List.mem_of_getElem? (i := 745) (by decide +kernel)
theorem kX0_stepBack_i : Cond.instanceMethod yX0_stepBack ∈ lw_tbl := List.mem_of_getElem? (i := 743) (by decide +kernel)
theorem kX0_stepBack_s : Cond.selects RX0 yX0_stepBack yX0_stepBack ∈ lw_tbl := List.mem_of_getElem? (i := 744) (by decide +kernel)
abbrev mX1_init : Mt := (yX1_init, cX1_init, 2, none)
theorem kX1_init_c : Cond.code yX1_init cX1_init 2 none ∈ lw_tbl := List.mem_of_getElem? (i := 78) (by decide +kernel)
theorem kX1_init_i : Cond.instanceMethod yX1_init ∈ lw_tbl := List.mem_of_getElem? (i := 77) (by decide +kernel)
abbrev mX1_copyFrom : Mt := (yX1_copyFrom, cX1_copyFrom, 2, none)
theorem kX1_copyFrom_c : Cond.code yX1_copyFrom cX1_copyFrom 2 none ∈ lw_tbl := List.mem_of_getElem? (i := 353) (by decide +kernel)
theorem kX1_copyFrom_i : Cond.instanceMethod yX1_copyFrom ∈ lw_tbl := List.mem_of_getElem? (i := 351) (by decide +kernel)
theorem kX1_copyFrom_s : Cond.selects RX1 yX1_copyFrom yX1_copyFrom ∈ lw_tbl := List.mem_of_getElem? (i := 352) (by decide +kernel)
abbrev mX1_copyVats : Mt := (yX1_copyVats, cX1_copyVats, 5, none)
theorem kX1_copyVats_c : Cond.code yX1_copyVats cX1_copyVats 5 none ∈ lw_tbl := List.mem_of_getElem? (i := 365) (by decide +kernel)
theorem kX1_copyVats_i : Cond.instanceMethod yX1_copyVats ∈ lw_tbl := List.mem_of_getElem? (i := 364) (by decide +kernel)
theorem kX1_copyVats_s : Cond.selects RX1 yX1_copyVats yX1_copyVats ∈ lw_tbl := List.mem_of_getElem? (i := 1) (by decide +kernel)
abbrev mX1_copyLots : Mt := (yX1_copyLots, cX1_copyLots, 5, none)
theorem kX1_copyLots_c : Cond.code yX1_copyLots cX1_copyLots 5 none ∈ lw_tbl := List.mem_of_getElem? (i := 373) (by decide +kernel)
theorem kX1_copyLots_i : Cond.instanceMethod yX1_copyLots ∈ lw_tbl := List.mem_of_getElem? (i := 372) (by decide +kernel)
theorem kX1_copyLots_s : Cond.selects RX1 yX1_copyLots yX1_copyLots ∈ lw_tbl := List.mem_of_getElem? (i := 2) (by decide +kernel)
abbrev mX1_copyOrders : Mt := (yX1_copyOrders, cX1_copyOrders, 5, none)
theorem kX1_copyOrders_c : Cond.code yX1_copyOrders cX1_copyOrders 5 none ∈ lw_tbl := List.mem_of_getElem? (i := 382) (by decide +kernel)
theorem kX1_copyOrders_i : Cond.instanceMethod yX1_copyOrders ∈ lw_tbl := List.mem_of_getElem? (i := 381) (by decide +kernel)
theorem kX1_copyOrders_s : Cond.selects RX1 yX1_copyOrders yX1_copyOrders ∈ lw_tbl := List.mem_of_getElem? (i := 3) (by decide +kernel)
abbrev mX1_findVat : Mt := (yX1_findVat, cX1_findVat, 3, (some (.object "DarkVats$Vat")))
theorem kX1_findVat_c : Cond.code yX1_findVat cX1_findVat 3 (some (.object "DarkVats$Vat")) ∈ lw_tbl := List.mem_of_getElem? (i := 398) (by decide +kernel)
theorem kX1_findVat_i : Cond.instanceMethod yX1_findVat ∈ lw_tbl := List.mem_of_getElem? (i := 396) (by decide +kernel)
theorem kX1_findVat_s : Cond.selects RX1 yX1_findVat yX1_findVat ∈ lw_tbl := List.mem_of_getElem? (i := 397) (by decide +kernel)
abbrev mX1_findLot : Mt := (yX1_findLot, cX1_findLot, 3, (some (.object "DarkVats$Lot")))
theorem kX1_findLot_c : Cond.code yX1_findLot cX1_findLot 3 (some (.object "DarkVats$Lot")) ∈ lw_tbl := List.mem_of_getElem? (i := 474) (by decide +kernel)
theorem kX1_findLot_i : Cond.instanceMethod yX1_findLot ∈ lw_tbl := List.mem_of_getElem? (i := 472) (by decide +kernel)
theorem kX1_findLot_s : Cond.selects RX1 yX1_findLot yX1_findLot ∈ lw_tbl := List.mem_of_getElem? (i := 473) (by decide +kernel)
abbrev mX1_findOrder : Mt := (yX1_findOrder, cX1_findOrder, 3, (some (.object "DarkVats$Order")))
theorem kX1_findOrder_c : Cond.code yX1_findOrder cX1_findOrder 3 (some (.object "DarkVats$Order")) ∈ lw_tbl := List.mem_of_getElem? (i := 595) (by decide +kernel)
theorem kX1_findOrder_i : Cond.instanceMethod yX1_findOrder ∈ lw_tbl := List.mem_of_getElem? (i := 593) (by decide +kernel)
theorem kX1_findOrder_s : Cond.selects RX1 yX1_findOrder yX1_findOrder ∈ lw_tbl := List.mem_of_getElem? (i := 594) (by decide +kernel)
abbrev mX1_addVat : Mt := (yX1_addVat, cX1_addVat, 4, (some .int))
theorem kX1_addVat_c : Cond.code yX1_addVat cX1_addVat 4 (some .int) ∈ lw_tbl := List.mem_of_getElem? (i := 391) (by decide +kernel)
theorem kX1_addVat_i : Cond.instanceMethod yX1_addVat ∈ lw_tbl := List.mem_of_getElem? (i := 389) (by decide +kernel)
theorem kX1_addVat_s : Cond.selects RX1 yX1_addVat yX1_addVat ∈ lw_tbl := List.mem_of_getElem? (i := 390) (by decide +kernel)
abbrev mX1_weighInto : Mt := (yX1_weighInto, cX1_weighInto, 4, (some .int))
theorem kX1_weighInto_c : Cond.code yX1_weighInto cX1_weighInto 4 (some .int) ∈ lw_tbl := List.mem_of_getElem? (i := 414) (by decide +kernel)
theorem kX1_weighInto_i : Cond.instanceMethod yX1_weighInto ∈ lw_tbl := List.mem_of_getElem? (i := 412) (by decide +kernel)
theorem kX1_weighInto_s : Cond.selects RX1 yX1_weighInto yX1_weighInto ∈ lw_tbl := List.mem_of_getElem? (i := 413) (by decide +kernel)
abbrev mX1_drainVat : Mt := (yX1_drainVat, cX1_drainVat, 4, (some .int))
theorem kX1_drainVat_c : Cond.code yX1_drainVat cX1_drainVat 4 (some .int) ∈ lw_tbl := List.mem_of_getElem? (i := 430) (by decide +kernel)
theorem kX1_drainVat_i : Cond.instanceMethod yX1_drainVat ∈ lw_tbl := List.mem_of_getElem? (i := 428) (by decide +kernel)
theorem kX1_drainVat_s : Cond.selects RX1 yX1_drainVat yX1_drainVat ∈ lw_tbl := List.mem_of_getElem? (i := 429) (by decide +kernel)
abbrev mX1_addLot : Mt := (yX1_addLot, cX1_addLot, 4, (some .int))
theorem kX1_addLot_c : Cond.code yX1_addLot cX1_addLot 4 (some .int) ∈ lw_tbl := List.mem_of_getElem? (i := 470) (by decide +kernel)
theorem kX1_addLot_i : Cond.instanceMethod yX1_addLot ∈ lw_tbl := List.mem_of_getElem? (i := 468) (by decide +kernel)
theorem kX1_addLot_s : Cond.selects RX1 yX1_addLot yX1_addLot ∈ lw_tbl := List.mem_of_getElem? (i := 469) (by decide +kernel)
abbrev mX1_dipLot : Mt := (yX1_dipLot, cX1_dipLot, 5, (some .int))
theorem kX1_dipLot_c : Cond.code yX1_dipLot cX1_dipLot 5 (some .int) ∈ lw_tbl := List.mem_of_getElem? (i := 482) (by decide +kernel)
theorem kX1_dipLot_i : Cond.instanceMethod yX1_dipLot ∈ lw_tbl := List.mem_of_getElem? (i := 480) (by decide +kernel)
theorem kX1_dipLot_s : Cond.selects RX1 yX1_dipLot yX1_dipLot ∈ lw_tbl := List.mem_of_getElem? (i := 481) (by decide +kernel)
abbrev mX1_rinseLot : Mt := (yX1_rinseLot, cX1_rinseLot, 5, (some .int))
theorem kX1_rinseLot_c : Cond.code yX1_rinseLot cX1_rinseLot 5 (some .int) ∈ lw_tbl := List.mem_of_getElem? (i := 522) (by decide +kernel)
theorem kX1_rinseLot_i : Cond.instanceMethod yX1_rinseLot ∈ lw_tbl := List.mem_of_getElem? (i := 520) (by decide +kernel)
theorem kX1_rinseLot_s : Cond.selects RX1 yX1_rinseLot yX1_rinseLot ∈ lw_tbl := List.mem_of_getElem? (i := 521) (by decide +kernel)
abbrev mX1_hangLot : Mt := (yX1_hangLot, cX1_hangLot, 4, (some .int))
theorem kX1_hangLot_c : Cond.code yX1_hangLot cX1_hangLot 4 (some .int) ∈ lw_tbl := List.mem_of_getElem? (i := 534) (by decide +kernel)
theorem kX1_hangLot_i : Cond.instanceMethod yX1_hangLot ∈ lw_tbl := List.mem_of_getElem? (i := 532) (by decide +kernel)
theorem kX1_hangLot_s : Cond.selects RX1 yX1_hangLot yX1_hangLot ∈ lw_tbl := List.mem_of_getElem? (i := 533) (by decide +kernel)
abbrev mX1_takeDown : Mt := (yX1_takeDown, cX1_takeDown, 3, (some .int))
theorem kX1_takeDown_c : Cond.code yX1_takeDown cX1_takeDown 3 (some .int) ∈ lw_tbl := List.mem_of_getElem? (i := 546) (by decide +kernel)
theorem kX1_takeDown_i : Cond.instanceMethod yX1_takeDown ∈ lw_tbl := List.mem_of_getElem? (i := 544) (by decide +kernel)
theorem kX1_takeDown_s : Cond.selects RX1 yX1_takeDown yX1_takeDown ∈ lw_tbl := List.mem_of_getElem? (i := 545) (by decide +kernel)
abbrev mX1_addOrder : Mt := (yX1_addOrder, cX1_addOrder, 6, (some .int))
theorem kX1_addOrder_c : Cond.code yX1_addOrder cX1_addOrder 6 (some .int) ∈ lw_tbl := List.mem_of_getElem? (i := 584) (by decide +kernel)
theorem kX1_addOrder_i : Cond.instanceMethod yX1_addOrder ∈ lw_tbl := List.mem_of_getElem? (i := 582) (by decide +kernel)
theorem kX1_addOrder_s : Cond.selects RX1 yX1_addOrder yX1_addOrder ∈ lw_tbl := List.mem_of_getElem? (i := 583) (by decide +kernel)
abbrev mX1_isAskable : Mt := (yX1_isAskable, cX1_isAskable, 1, (some .boolean))
theorem kX1_isAskable_c : Cond.code yX1_isAskable cX1_isAskable 1 (some .boolean) ∈ lw_tbl := List.mem_of_getElem? (i := 587) (by decide +kernel)
theorem kX1_isAskable_t : Cond.static yX1_isAskable ∈ lw_tbl := List.mem_of_getElem? (i := 586) (by decide +kernel)
abbrev mX1_sellLot : Mt := (yX1_sellLot, cX1_sellLot, 5, (some .int))
theorem kX1_sellLot_c : Cond.code yX1_sellLot cX1_sellLot 5 (some .int) ∈ lw_tbl := List.mem_of_getElem? (i := 608) (by decide +kernel)
theorem kX1_sellLot_i : Cond.instanceMethod yX1_sellLot ∈ lw_tbl := List.mem_of_getElem? (i := 606) (by decide +kernel)
theorem kX1_sellLot_s : Cond.selects RX1 yX1_sellLot yX1_sellLot ∈ lw_tbl := List.mem_of_getElem? (i := 607) (by decide +kernel)
abbrev mX1_doWork : Mt := (yX1_doWork, cX1_doWork, 4, (some .int))
theorem kX1_doWork_c : Cond.code yX1_doWork cX1_doWork 4 (some .int) ∈ lw_tbl := List.mem_of_getElem? (i := 796) (by decide +kernel)
theorem kX1_doWork_i : Cond.instanceMethod yX1_doWork ∈ lw_tbl := List.mem_of_getElem? (i := 794) (by decide +kernel)
theorem kX1_doWork_s : Cond.selects RX1 yX1_doWork yX1_doWork ∈ lw_tbl := List.mem_of_getElem? (i := 795) (by decide +kernel)
abbrev mX1_vatsAheadOf : Mt := (yX1_vatsAheadOf, cX1_vatsAheadOf, 6, (some .int))
theorem kX1_vatsAheadOf_c : Cond.code yX1_vatsAheadOf cX1_vatsAheadOf 6 (some .int) ∈ lw_tbl := List.mem_of_getElem? (i := 454) (by decide +kernel)
theorem kX1_vatsAheadOf_i : Cond.instanceMethod yX1_vatsAheadOf ∈ lw_tbl := List.mem_of_getElem? (i := 452) (by decide +kernel)
theorem kX1_vatsAheadOf_s : Cond.selects RX1 yX1_vatsAheadOf yX1_vatsAheadOf ∈ lw_tbl := List.mem_of_getElem? (i := 453) (by decide +kernel)
abbrev mX1_lotsOnRack : Mt := (yX1_lotsOnRack, cX1_lotsOnRack, 5, (some .int))
theorem kX1_lotsOnRack_c : Cond.code yX1_lotsOnRack cX1_lotsOnRack 5 (some .int) ∈ lw_tbl := List.mem_of_getElem? (i := 538) (by decide +kernel)
theorem kX1_lotsOnRack_i : Cond.instanceMethod yX1_lotsOnRack ∈ lw_tbl := List.mem_of_getElem? (i := 536) (by decide +kernel)
theorem kX1_lotsOnRack_s : Cond.selects RX1 yX1_lotsOnRack yX1_lotsOnRack ∈ lw_tbl := List.mem_of_getElem? (i := 537) (by decide +kernel)
abbrev mX1_openOrders : Mt := (yX1_openOrders, cX1_openOrders, 4, (some .int))
theorem kX1_openOrders_c : Cond.code yX1_openOrders cX1_openOrders 4 (some .int) ∈ lw_tbl := List.mem_of_getElem? (i := 591) (by decide +kernel)
theorem kX1_openOrders_i : Cond.instanceMethod yX1_openOrders ∈ lw_tbl := List.mem_of_getElem? (i := 589) (by decide +kernel)
theorem kX1_openOrders_s : Cond.selects RX1 yX1_openOrders yX1_openOrders ∈ lw_tbl := List.mem_of_getElem? (i := 590) (by decide +kernel)
abbrev mX1_lotsThatFit : Mt := (yX1_lotsThatFit, cX1_lotsThatFit, 5, (some .int))
theorem kX1_lotsThatFit_c : Cond.code yX1_lotsThatFit cX1_lotsThatFit 5 (some .int) ∈ lw_tbl := List.mem_of_getElem? (i := 632) (by decide +kernel)
theorem kX1_lotsThatFit_i : Cond.instanceMethod yX1_lotsThatFit ∈ lw_tbl := List.mem_of_getElem? (i := 630) (by decide +kernel)
theorem kX1_lotsThatFit_s : Cond.selects RX1 yX1_lotsThatFit yX1_lotsThatFit ∈ lw_tbl := List.mem_of_getElem? (i := 631) (by decide +kernel)
abbrev mX1_nearestLot : Mt := (yX1_nearestLot, cX1_nearestLot, 7, (some .int))
theorem kX1_nearestLot_c : Cond.code yX1_nearestLot cX1_nearestLot 7 (some .int) ∈ lw_tbl := List.mem_of_getElem? (i := 636) (by decide +kernel)
theorem kX1_nearestLot_i : Cond.instanceMethod yX1_nearestLot ∈ lw_tbl := List.mem_of_getElem? (i := 634) (by decide +kernel)
theorem kX1_nearestLot_s : Cond.selects RX1 yX1_nearestLot yX1_nearestLot ∈ lw_tbl := List.mem_of_getElem? (i := 635) (by decide +kernel)
abbrev mX1_lotsNotFarAbove : Mt := (yX1_lotsNotFarAbove, cX1_lotsNotFarAbove, 8, (some .int))
theorem kX1_lotsNotFarAbove_c : Cond.code yX1_lotsNotFarAbove cX1_lotsNotFarAbove 8 (some .int) ∈ lw_tbl := List.mem_of_getElem? (i := 654) (by decide +kernel)
theorem kX1_lotsNotFarAbove_i : Cond.instanceMethod yX1_lotsNotFarAbove ∈ lw_tbl := List.mem_of_getElem? (i := 652) (by decide +kernel)
theorem kX1_lotsNotFarAbove_s : Cond.selects RX1 yX1_lotsNotFarAbove yX1_lotsNotFarAbove ∈ lw_tbl := List.mem_of_getElem? (i := 653) (by decide +kernel)
abbrev mX1_lotsCounted : Mt := (yX1_lotsCounted, cX1_lotsCounted, 5, (some .int))
theorem kX1_lotsCounted_c : Cond.code yX1_lotsCounted cX1_lotsCounted 5 (some .int) ∈ lw_tbl := List.mem_of_getElem? (i := 720) (by decide +kernel)
theorem kX1_lotsCounted_i : Cond.instanceMethod yX1_lotsCounted ∈ lw_tbl := List.mem_of_getElem? (i := 718) (by decide +kernel)
theorem kX1_lotsCounted_s : Cond.selects RX1 yX1_lotsCounted yX1_lotsCounted ∈ lw_tbl := List.mem_of_getElem? (i := 719) (by decide +kernel)
abbrev mX1_isCounted : Mt := (yX1_isCounted, cX1_isCounted, 2, (some .boolean))
theorem kX1_isCounted_c : Cond.code yX1_isCounted cX1_isCounted 2 (some .boolean) ∈ lw_tbl := List.mem_of_getElem? (i := 723) (by decide +kernel)
theorem kX1_isCounted_t : Cond.static yX1_isCounted ∈ lw_tbl := List.mem_of_getElem? (i := 722) (by decide +kernel)
abbrev mX1_grainsInVats : Mt := (yX1_grainsInVats, cX1_grainsInVats, 5, (some .int))
theorem kX1_grainsInVats_c : Cond.code yX1_grainsInVats cX1_grainsInVats 5 (some .int) ∈ lw_tbl := List.mem_of_getElem? (i := 696) (by decide +kernel)
theorem kX1_grainsInVats_i : Cond.instanceMethod yX1_grainsInVats ∈ lw_tbl := List.mem_of_getElem? (i := 694) (by decide +kernel)
theorem kX1_grainsInVats_s : Cond.selects RX1 yX1_grainsInVats yX1_grainsInVats ∈ lw_tbl := List.mem_of_getElem? (i := 695) (by decide +kernel)
abbrev mX1_fixedInHouse : Mt := (yX1_fixedInHouse, cX1_fixedInHouse, 5, (some .int))
theorem kX1_fixedInHouse_c : Cond.code yX1_fixedInHouse cX1_fixedInHouse 5 (some .int) ∈ lw_tbl := List.mem_of_getElem? (i := 700) (by decide +kernel)
theorem kX1_fixedInHouse_i : Cond.instanceMethod yX1_fixedInHouse ∈ lw_tbl := List.mem_of_getElem? (i := 698) (by decide +kernel)
theorem kX1_fixedInHouse_s : Cond.selects RX1 yX1_fixedInHouse yX1_fixedInHouse ∈ lw_tbl := List.mem_of_getElem? (i := 699) (by decide +kernel)
abbrev mX1_looseInHouse : Mt := (yX1_looseInHouse, cX1_looseInHouse, 5, (some .int))
theorem kX1_looseInHouse_c : Cond.code yX1_looseInHouse cX1_looseInHouse 5 (some .int) ∈ lw_tbl := List.mem_of_getElem? (i := 704) (by decide +kernel)
theorem kX1_looseInHouse_i : Cond.instanceMethod yX1_looseInHouse ∈ lw_tbl := List.mem_of_getElem? (i := 702) (by decide +kernel)
theorem kX1_looseInHouse_s : Cond.selects RX1 yX1_looseInHouse yX1_looseInHouse ∈ lw_tbl := List.mem_of_getElem? (i := 703) (by decide +kernel)
abbrev mX1_grainsSold : Mt := (yX1_grainsSold, cX1_grainsSold, 5, (some .int))
theorem kX1_grainsSold_c : Cond.code yX1_grainsSold cX1_grainsSold 5 (some .int) ∈ lw_tbl := List.mem_of_getElem? (i := 708) (by decide +kernel)
theorem kX1_grainsSold_i : Cond.instanceMethod yX1_grainsSold ∈ lw_tbl := List.mem_of_getElem? (i := 706) (by decide +kernel)
theorem kX1_grainsSold_s : Cond.selects RX1 yX1_grainsSold yX1_grainsSold ∈ lw_tbl := List.mem_of_getElem? (i := 707) (by decide +kernel)
abbrev mX2_init : Mt := (yX2_init, cX2_init, 1, none)
theorem kX2_init_c : Cond.code yX2_init cX2_init 1 none ∈ lw_tbl := List.mem_of_getElem? (i := 134) (by decide +kernel)
theorem kX2_init_i : Cond.instanceMethod yX2_init ∈ lw_tbl := List.mem_of_getElem? (i := 133) (by decide +kernel)
abbrev mX2_copyFrom : Mt := (yX2_copyFrom, cX2_copyFrom, 2, none)
theorem kX2_copyFrom_c : Cond.code yX2_copyFrom cX2_copyFrom 2 none ∈ lw_tbl := List.mem_of_getElem? (i := 377) (by decide +kernel)
theorem kX2_copyFrom_i : Cond.instanceMethod yX2_copyFrom ∈ lw_tbl := List.mem_of_getElem? (i := 375) (by decide +kernel)
theorem kX2_copyFrom_s : Cond.selects RX2 yX2_copyFrom yX2_copyFrom ∈ lw_tbl := List.mem_of_getElem? (i := 376) (by decide +kernel)
abbrev mX2_isSold : Mt := (yX2_isSold, cX2_isSold, 1, (some .boolean))
theorem kX2_isSold_c : Cond.code yX2_isSold cX2_isSold 1 (some .boolean) ∈ lw_tbl := List.mem_of_getElem? (i := 486) (by decide +kernel)
theorem kX2_isSold_i : Cond.instanceMethod yX2_isSold ∈ lw_tbl := List.mem_of_getElem? (i := 484) (by decide +kernel)
theorem kX2_isSold_s : Cond.selects RX2 yX2_isSold yX2_isSold ∈ lw_tbl := List.mem_of_getElem? (i := 485) (by decide +kernel)
abbrev mX2_grainsOf : Mt := (yX2_grainsOf, cX2_grainsOf, 2, (some .int))
theorem kX2_grainsOf_c : Cond.code yX2_grainsOf cX2_grainsOf 2 (some .int) ∈ lw_tbl := List.mem_of_getElem? (i := 514) (by decide +kernel)
theorem kX2_grainsOf_i : Cond.instanceMethod yX2_grainsOf ∈ lw_tbl := List.mem_of_getElem? (i := 512) (by decide +kernel)
theorem kX2_grainsOf_s : Cond.selects RX2 yX2_grainsOf yX2_grainsOf ∈ lw_tbl := List.mem_of_getElem? (i := 513) (by decide +kernel)
abbrev mX2_shadeOf : Mt := (yX2_shadeOf, cX2_shadeOf, 2, (some .int))
theorem kX2_shadeOf_c : Cond.code yX2_shadeOf cX2_shadeOf 2 (some .int) ∈ lw_tbl := List.mem_of_getElem? (i := 510) (by decide +kernel)
theorem kX2_shadeOf_i : Cond.instanceMethod yX2_shadeOf ∈ lw_tbl := List.mem_of_getElem? (i := 508) (by decide +kernel)
theorem kX2_shadeOf_s : Cond.selects RX2 yX2_shadeOf yX2_shadeOf ∈ lw_tbl := List.mem_of_getElem? (i := 509) (by decide +kernel)
abbrev mX2_depth : Mt := (yX2_depth, cX2_depth, 1, (some .int))
theorem kX2_depth_c : Cond.code yX2_depth cX2_depth 1 (some .int) ∈ lw_tbl := List.mem_of_getElem? (i := 502) (by decide +kernel)
theorem kX2_depth_i : Cond.instanceMethod yX2_depth ∈ lw_tbl := List.mem_of_getElem? (i := 500) (by decide +kernel)
theorem kX2_depth_s : Cond.selects RX2 yX2_depth yX2_depth ∈ lw_tbl := List.mem_of_getElem? (i := 501) (by decide +kernel)
abbrev mX2_floatShade : Mt := (yX2_floatShade, cX2_floatShade, 2, (some .float))
theorem kX2_floatShade_c : Cond.code yX2_floatShade cX2_floatShade 2 (some .float) ∈ lw_tbl := List.mem_of_getElem? (i := 568) (by decide +kernel)
theorem kX2_floatShade_i : Cond.instanceMethod yX2_floatShade ∈ lw_tbl := List.mem_of_getElem? (i := 566) (by decide +kernel)
theorem kX2_floatShade_s : Cond.selects RX2 yX2_floatShade yX2_floatShade ∈ lw_tbl := List.mem_of_getElem? (i := 567) (by decide +kernel)
abbrev mX2_grainsTaken : Mt := (yX2_grainsTaken, cX2_grainsTaken, 8, (some .int))
theorem kX2_grainsTaken_c : Cond.code yX2_grainsTaken cX2_grainsTaken 8 (some .int) ∈ lw_tbl := List.mem_of_getElem? (i := 494) (by decide +kernel)
theorem kX2_grainsTaken_i : Cond.instanceMethod yX2_grainsTaken ∈ lw_tbl := List.mem_of_getElem? (i := 492) (by decide +kernel)
theorem kX2_grainsTaken_s : Cond.selects RX2 yX2_grainsTaken yX2_grainsTaken ∈ lw_tbl := List.mem_of_getElem? (i := 493) (by decide +kernel)
abbrev mX2_soakIn : Mt := (yX2_soakIn, cX2_soakIn, 6, (some .int))
theorem kX2_soakIn_c : Cond.code yX2_soakIn cX2_soakIn 6 (some .int) ∈ lw_tbl := List.mem_of_getElem? (i := 490) (by decide +kernel)
theorem kX2_soakIn_i : Cond.instanceMethod yX2_soakIn ∈ lw_tbl := List.mem_of_getElem? (i := 488) (by decide +kernel)
theorem kX2_soakIn_s : Cond.selects RX2 yX2_soakIn yX2_soakIn ∈ lw_tbl := List.mem_of_getElem? (i := 489) (by decide +kernel)
abbrev mX3_init : Mt := (yX3_init, cX3_init, 1, none)
theorem kX3_init_c : Cond.code yX3_init cX3_init 1 none ∈ lw_tbl := List.mem_of_getElem? (i := 185) (by decide +kernel)
theorem kX3_init_i : Cond.instanceMethod yX3_init ∈ lw_tbl := List.mem_of_getElem? (i := 184) (by decide +kernel)
abbrev mX3_copyFrom : Mt := (yX3_copyFrom, cX3_copyFrom, 2, none)
theorem kX3_copyFrom_c : Cond.code yX3_copyFrom cX3_copyFrom 2 none ∈ lw_tbl := List.mem_of_getElem? (i := 386) (by decide +kernel)
theorem kX3_copyFrom_i : Cond.instanceMethod yX3_copyFrom ∈ lw_tbl := List.mem_of_getElem? (i := 384) (by decide +kernel)
theorem kX3_copyFrom_s : Cond.selects RX3 yX3_copyFrom yX3_copyFrom ∈ lw_tbl := List.mem_of_getElem? (i := 385) (by decide +kernel)
abbrev mX3_ask : Mt := (yX3_ask, cX3_ask, 5, none)
theorem kX3_ask_c : Cond.code yX3_ask cX3_ask 5 none ∈ lw_tbl := List.mem_of_getElem? (i := 599) (by decide +kernel)
theorem kX3_ask_i : Cond.instanceMethod yX3_ask ∈ lw_tbl := List.mem_of_getElem? (i := 597) (by decide +kernel)
theorem kX3_ask_s : Cond.selects RX3 yX3_ask yX3_ask ∈ lw_tbl := List.mem_of_getElem? (i := 598) (by decide +kernel)
abbrev mX3_shadeFor : Mt := (yX3_shadeFor, cX3_shadeFor, 2, (some .int))
theorem kX3_shadeFor_c : Cond.code yX3_shadeFor cX3_shadeFor 2 (some .int) ∈ lw_tbl := List.mem_of_getElem? (i := 618) (by decide +kernel)
theorem kX3_shadeFor_i : Cond.instanceMethod yX3_shadeFor ∈ lw_tbl := List.mem_of_getElem? (i := 616) (by decide +kernel)
theorem kX3_shadeFor_s : Cond.selects RX3 yX3_shadeFor yX3_shadeFor ∈ lw_tbl := List.mem_of_getElem? (i := 617) (by decide +kernel)
abbrev mX3_isFittedBy : Mt := (yX3_isFittedBy, cX3_isFittedBy, 5, (some .boolean))
theorem kX3_isFittedBy_c : Cond.code yX3_isFittedBy cX3_isFittedBy 5 (some .boolean) ∈ lw_tbl := List.mem_of_getElem? (i := 612) (by decide +kernel)
theorem kX3_isFittedBy_i : Cond.instanceMethod yX3_isFittedBy ∈ lw_tbl := List.mem_of_getElem? (i := 610) (by decide +kernel)
theorem kX3_isFittedBy_s : Cond.selects RX3 yX3_isFittedBy yX3_isFittedBy ∈ lw_tbl := List.mem_of_getElem? (i := 611) (by decide +kernel)
abbrev mX3_distanceTo : Mt := (yX3_distanceTo, cX3_distanceTo, 4, (some .int))
theorem kX3_distanceTo_c : Cond.code yX3_distanceTo cX3_distanceTo 4 (some .int) ∈ lw_tbl := List.mem_of_getElem? (i := 640) (by decide +kernel)
theorem kX3_distanceTo_i : Cond.instanceMethod yX3_distanceTo ∈ lw_tbl := List.mem_of_getElem? (i := 638) (by decide +kernel)
theorem kX3_distanceTo_s : Cond.selects RX3 yX3_distanceTo yX3_distanceTo ∈ lw_tbl := List.mem_of_getElem? (i := 639) (by decide +kernel)
abbrev mX4_init : Mt := (yX4_init, cX4_init, 2, none)
theorem kX4_init_c : Cond.code yX4_init cX4_init 2 none ∈ lw_tbl := List.mem_of_getElem? (i := 308) (by decide +kernel)
theorem kX4_init_i : Cond.instanceMethod yX4_init ∈ lw_tbl := List.mem_of_getElem? (i := 307) (by decide +kernel)
abbrev mX4_vatOfDip : Mt := (yX4_vatOfDip, cX4_vatOfDip, 2, (some .int))
theorem kX4_vatOfDip_c : Cond.code yX4_vatOfDip cX4_vatOfDip 2 (some .int) ∈ lw_tbl := List.mem_of_getElem? (i := 681) (by decide +kernel)
theorem kX4_vatOfDip_i : Cond.instanceMethod yX4_vatOfDip ∈ lw_tbl := List.mem_of_getElem? (i := 679) (by decide +kernel)
theorem kX4_vatOfDip_s : Cond.selects RX4 yX4_vatOfDip yX4_vatOfDip ∈ lw_tbl := List.mem_of_getElem? (i := 680) (by decide +kernel)
abbrev mX4_lotBehind : Mt := (yX4_lotBehind, cX4_lotBehind, 2, (some (.object "DarkVats$Lot")))
theorem kX4_lotBehind_c : Cond.code yX4_lotBehind cX4_lotBehind 2 (some (.object "DarkVats$Lot")) ∈ lw_tbl := List.mem_of_getElem? (i := 669) (by decide +kernel)
theorem kX4_lotBehind_i : Cond.instanceMethod yX4_lotBehind ∈ lw_tbl := List.mem_of_getElem? (i := 668) (by decide +kernel)
theorem kX4_lotBehind_s : Cond.selects RX4 yX4_lotBehind yX4_lotBehind ∈ lw_tbl := List.mem_of_getElem? (i := 5) (by decide +kernel)
abbrev mX4_findPlan : Mt := (yX4_findPlan, cX4_findPlan, 6, (some .int))
theorem kX4_findPlan_c : Cond.code yX4_findPlan cX4_findPlan 6 (some .int) ∈ lw_tbl := List.mem_of_getElem? (i := 665) (by decide +kernel)
theorem kX4_findPlan_i : Cond.instanceMethod yX4_findPlan ∈ lw_tbl := List.mem_of_getElem? (i := 663) (by decide +kernel)
theorem kX4_findPlan_s : Cond.selects RX4 yX4_findPlan yX4_findPlan ∈ lw_tbl := List.mem_of_getElem? (i := 664) (by decide +kernel)
abbrev mX4_isReached : Mt := (yX4_isReached, cX4_isReached, 12, (some .boolean))
theorem kX4_isReached_c : Cond.code yX4_isReached cX4_isReached 12 (some .boolean) ∈ lw_tbl := List.mem_of_getElem? (i := 673) (by decide +kernel)
theorem kX4_isReached_t : Cond.static yX4_isReached ∈ lw_tbl := List.mem_of_getElem? (i := 672) (by decide +kernel)
abbrev mX5_init : Mt := (yX5_init, cX5_init, 1, none)
theorem kX5_init_c : Cond.code yX5_init cX5_init 1 none ∈ lw_tbl := List.mem_of_getElem? (i := 273) (by decide +kernel)
theorem kX5_init_i : Cond.instanceMethod yX5_init ∈ lw_tbl := List.mem_of_getElem? (i := 272) (by decide +kernel)
abbrev mX5_hasFault : Mt := (yX5_hasFault, cX5_hasFault, 1, (some .boolean))
theorem kX5_hasFault_c : Cond.code yX5_hasFault cX5_hasFault 1 (some .boolean) ∈ lw_tbl := List.mem_of_getElem? (i := 806) (by decide +kernel)
theorem kX5_hasFault_i : Cond.instanceMethod yX5_hasFault ∈ lw_tbl := List.mem_of_getElem? (i := 804) (by decide +kernel)
theorem kX5_hasFault_s : Cond.selects RX5 yX5_hasFault yX5_hasFault ∈ lw_tbl := List.mem_of_getElem? (i := 805) (by decide +kernel)
abbrev mX5_doAll : Mt := (yX5_doAll, cX5_doAll, 6, none)
theorem kX5_doAll_c : Cond.code yX5_doAll cX5_doAll 6 none ∈ lw_tbl := List.mem_of_getElem? (i := 769) (by decide +kernel)
theorem kX5_doAll_i : Cond.instanceMethod yX5_doAll ∈ lw_tbl := List.mem_of_getElem? (i := 767) (by decide +kernel)
theorem kX5_doAll_s : Cond.selects RX5 yX5_doAll yX5_doAll ∈ lw_tbl := List.mem_of_getElem? (i := 768) (by decide +kernel)
abbrev mX5_noteFault : Mt := (yX5_noteFault, cX5_noteFault, 4, none)
theorem kX5_noteFault_c : Cond.code yX5_noteFault cX5_noteFault 4 none ∈ lw_tbl := List.mem_of_getElem? (i := 792) (by decide +kernel)
theorem kX5_noteFault_i : Cond.instanceMethod yX5_noteFault ∈ lw_tbl := List.mem_of_getElem? (i := 791) (by decide +kernel)
theorem kX5_noteFault_s : Cond.selects RX5 yX5_noteFault yX5_noteFault ∈ lw_tbl := List.mem_of_getElem? (i := 9) (by decide +kernel)
abbrev mX5_readWork : Mt := (yX5_readWork, cX5_readWork, 3, (some .boolean))
theorem kX5_readWork_c : Cond.code yX5_readWork cX5_readWork 3 (some .boolean) ∈ lw_tbl := List.mem_of_getElem? (i := 773) (by decide +kernel)
theorem kX5_readWork_i : Cond.instanceMethod yX5_readWork ∈ lw_tbl := List.mem_of_getElem? (i := 772) (by decide +kernel)
theorem kX5_readWork_s : Cond.selects RX5 yX5_readWork yX5_readWork ∈ lw_tbl := List.mem_of_getElem? (i := 6) (by decide +kernel)
abbrev mX5_readNumber : Mt := (yX5_readNumber, cX5_readNumber, 4, (some .int))
theorem kX5_readNumber_c : Cond.code yX5_readNumber cX5_readNumber 4 (some .int) ∈ lw_tbl := List.mem_of_getElem? (i := 781) (by decide +kernel)
theorem kX5_readNumber_i : Cond.instanceMethod yX5_readNumber ∈ lw_tbl := List.mem_of_getElem? (i := 780) (by decide +kernel)
theorem kX5_readNumber_s : Cond.selects RX5 yX5_readNumber yX5_readNumber ∈ lw_tbl := List.mem_of_getElem? (i := 7) (by decide +kernel)
abbrev mX5_digitOf : Mt := (yX5_digitOf, cX5_digitOf, 1, (some .int))
theorem kX5_digitOf_c : Cond.code yX5_digitOf cX5_digitOf 1 (some .int) ∈ lw_tbl := List.mem_of_getElem? (i := 784) (by decide +kernel)
theorem kX5_digitOf_t : Cond.static yX5_digitOf ∈ lw_tbl := List.mem_of_getElem? (i := 783) (by decide +kernel)
abbrev mX5_passes : Mt := (yX5_passes, cX5_passes, 3, (some .boolean))
theorem kX5_passes_c : Cond.code yX5_passes cX5_passes 3 (some .boolean) ∈ lw_tbl := List.mem_of_getElem? (i := 788) (by decide +kernel)
theorem kX5_passes_i : Cond.instanceMethod yX5_passes ∈ lw_tbl := List.mem_of_getElem? (i := 787) (by decide +kernel)
theorem kX5_passes_s : Cond.selects RX5 yX5_passes yX5_passes ∈ lw_tbl := List.mem_of_getElem? (i := 8) (by decide +kernel)
abbrev mX6_init : Mt := (yX6_init, cX6_init, 2, none)
theorem kX6_init_c : Cond.code yX6_init cX6_init 2 none ∈ lw_tbl := List.mem_of_getElem? (i := 90) (by decide +kernel)
theorem kX6_init_i : Cond.instanceMethod yX6_init ∈ lw_tbl := List.mem_of_getElem? (i := 89) (by decide +kernel)
abbrev mX6_exists : Mt := (yX6_exists, cX6_exists, 1, (some .boolean))
theorem kX6_exists_c : Cond.code yX6_exists cX6_exists 1 (some .boolean) ∈ lw_tbl := List.mem_of_getElem? (i := 716) (by decide +kernel)
theorem kX6_exists_t : Cond.static yX6_exists ∈ lw_tbl := List.mem_of_getElem? (i := 715) (by decide +kernel)
abbrev mX6_valueOf : Mt := (yX6_valueOf, cX6_valueOf, 2, (some .int))
theorem kX6_valueOf_c : Cond.code yX6_valueOf cX6_valueOf 2 (some .int) ∈ lw_tbl := List.mem_of_getElem? (i := 443) (by decide +kernel)
theorem kX6_valueOf_i : Cond.instanceMethod yX6_valueOf ∈ lw_tbl := List.mem_of_getElem? (i := 441) (by decide +kernel)
theorem kX6_valueOf_s : Cond.selects RX6 yX6_valueOf yX6_valueOf ∈ lw_tbl := List.mem_of_getElem? (i := 442) (by decide +kernel)
abbrev mX6_copyFrom : Mt := (yX6_copyFrom, cX6_copyFrom, 2, none)
theorem kX6_copyFrom_c : Cond.code yX6_copyFrom cX6_copyFrom 2 none ∈ lw_tbl := List.mem_of_getElem? (i := 360) (by decide +kernel)
theorem kX6_copyFrom_i : Cond.instanceMethod yX6_copyFrom ∈ lw_tbl := List.mem_of_getElem? (i := 358) (by decide +kernel)
theorem kX6_copyFrom_s : Cond.selects RX6 yX6_copyFrom yX6_copyFrom ∈ lw_tbl := List.mem_of_getElem? (i := 359) (by decide +kernel)
abbrev mX6_change : Mt := (yX6_change, cX6_change, 4, (some .int))
theorem kX6_change_c : Cond.code yX6_change cX6_change 4 (some .int) ∈ lw_tbl := List.mem_of_getElem? (i := 732) (by decide +kernel)
theorem kX6_change_i : Cond.instanceMethod yX6_change ∈ lw_tbl := List.mem_of_getElem? (i := 730) (by decide +kernel)
theorem kX6_change_s : Cond.selects RX6 yX6_change yX6_change ∈ lw_tbl := List.mem_of_getElem? (i := 731) (by decide +kernel)
abbrev mX7_init : Mt := (yX7_init, cX7_init, 1, none)
theorem kX7_init_c : Cond.code yX7_init cX7_init 1 none ∈ lw_tbl := List.mem_of_getElem? (i := 257) (by decide +kernel)
theorem kX7_init_i : Cond.instanceMethod yX7_init ∈ lw_tbl := List.mem_of_getElem? (i := 256) (by decide +kernel)
abbrev mX7_append : Mt := (yX7_append, cX7_append, 2, (some .int))
theorem kX7_append_c : Cond.code yX7_append cX7_append 2 (some .int) ∈ lw_tbl := List.mem_of_getElem? (i := 753) (by decide +kernel)
theorem kX7_append_i : Cond.instanceMethod yX7_append ∈ lw_tbl := List.mem_of_getElem? (i := 751) (by decide +kernel)
theorem kX7_append_s : Cond.selects RX7 yX7_append yX7_append ∈ lw_tbl := List.mem_of_getElem? (i := 752) (by decide +kernel)
abbrev mX7_makeEmpty : Mt := (yX7_makeEmpty, cX7_makeEmpty, 2, (some .int))
theorem kX7_makeEmpty_c : Cond.code yX7_makeEmpty cX7_makeEmpty 2 (some .int) ∈ lw_tbl := List.mem_of_getElem? (i := 761) (by decide +kernel)
theorem kX7_makeEmpty_i : Cond.instanceMethod yX7_makeEmpty ∈ lw_tbl := List.mem_of_getElem? (i := 759) (by decide +kernel)
theorem kX7_makeEmpty_s : Cond.selects RX7 yX7_makeEmpty yX7_makeEmpty ∈ lw_tbl := List.mem_of_getElem? (i := 760) (by decide +kernel)
abbrev mX7_signAt : Mt := (yX7_signAt, cX7_signAt, 3, (some .char))
theorem kX7_signAt_c : Cond.code yX7_signAt cX7_signAt 3 (some .char) ∈ lw_tbl := List.mem_of_getElem? (i := 777) (by decide +kernel)
theorem kX7_signAt_i : Cond.instanceMethod yX7_signAt ∈ lw_tbl := List.mem_of_getElem? (i := 775) (by decide +kernel)
theorem kX7_signAt_s : Cond.selects RX7 yX7_signAt yX7_signAt ∈ lw_tbl := List.mem_of_getElem? (i := 776) (by decide +kernel)
abbrev mX8_init : Mt := (yX8_init, cX8_init, 1, none)
theorem kX8_init_c : Cond.code yX8_init cX8_init 1 none ∈ lw_tbl := List.mem_of_getElem? (i := 102) (by decide +kernel)
theorem kX8_init_i : Cond.instanceMethod yX8_init ∈ lw_tbl := List.mem_of_getElem? (i := 101) (by decide +kernel)
abbrev mX8_copyFrom : Mt := (yX8_copyFrom, cX8_copyFrom, 2, none)
theorem kX8_copyFrom_c : Cond.code yX8_copyFrom cX8_copyFrom 2 none ∈ lw_tbl := List.mem_of_getElem? (i := 369) (by decide +kernel)
theorem kX8_copyFrom_i : Cond.instanceMethod yX8_copyFrom ∈ lw_tbl := List.mem_of_getElem? (i := 367) (by decide +kernel)
theorem kX8_copyFrom_s : Cond.selects RX8 yX8_copyFrom yX8_copyFrom ∈ lw_tbl := List.mem_of_getElem? (i := 368) (by decide +kernel)
abbrev mX8_strength : Mt := (yX8_strength, cX8_strength, 1, (some .int))
theorem kX8_strength_c : Cond.code yX8_strength cX8_strength 1 (some .int) ∈ lw_tbl := List.mem_of_getElem? (i := 462) (by decide +kernel)
theorem kX8_strength_i : Cond.instanceMethod yX8_strength ∈ lw_tbl := List.mem_of_getElem? (i := 460) (by decide +kernel)
theorem kX8_strength_s : Cond.selects RX8 yX8_strength yX8_strength ∈ lw_tbl := List.mem_of_getElem? (i := 461) (by decide +kernel)
abbrev mX8_spoils : Mt := (yX8_spoils, cX8_spoils, 2, (some .boolean))
theorem kX8_spoils_c : Cond.code yX8_spoils cX8_spoils 2 (some .boolean) ∈ lw_tbl := List.mem_of_getElem? (i := 439) (by decide +kernel)
theorem kX8_spoils_i : Cond.instanceMethod yX8_spoils ∈ lw_tbl := List.mem_of_getElem? (i := 437) (by decide +kernel)
theorem kX8_spoils_s : Cond.selects RX8 yX8_spoils yX8_spoils ∈ lw_tbl := List.mem_of_getElem? (i := 438) (by decide +kernel)
abbrev mX8_isAheadOfLater : Mt := (yX8_isAheadOfLater, cX8_isAheadOfLater, 2, (some .boolean))
theorem kX8_isAheadOfLater_c : Cond.code yX8_isAheadOfLater cX8_isAheadOfLater 2 (some .boolean) ∈ lw_tbl := List.mem_of_getElem? (i := 458) (by decide +kernel)
theorem kX8_isAheadOfLater_i : Cond.instanceMethod yX8_isAheadOfLater ∈ lw_tbl := List.mem_of_getElem? (i := 456) (by decide +kernel)
theorem kX8_isAheadOfLater_s : Cond.selects RX8 yX8_isAheadOfLater yX8_isAheadOfLater ∈ lw_tbl := List.mem_of_getElem? (i := 457) (by decide +kernel)
abbrev mX9_init : Mt := (yX9_init, cX9_init, 1, none)
theorem kX9_init_c : Cond.code yX9_init cX9_init 1 none ∈ lw_tbl := List.mem_of_getElem? (i := 70) (by decide +kernel)
theorem kX9_init_i : Cond.instanceMethod yX9_init ∈ lw_tbl := List.mem_of_getElem? (i := 69) (by decide +kernel)
abbrev mX9_vat : Mt := (yX9_vat, cX9_vat, 3, (some .int))
theorem kX9_vat_c : Cond.code yX9_vat cX9_vat 3 (some .int) ∈ lw_tbl := List.mem_of_getElem? (i := 341) (by decide +kernel)
theorem kX9_vat_i : Cond.instanceMethod yX9_vat ∈ lw_tbl := List.mem_of_getElem? (i := 339) (by decide +kernel)
theorem kX9_vat_s : Cond.selects RX9 yX9_vat yX9_vat ∈ lw_tbl := List.mem_of_getElem? (i := 340) (by decide +kernel)
abbrev mX9_weigh : Mt := (yX9_weigh, cX9_weigh, 3, (some .int))
theorem kX9_weigh_c : Cond.code yX9_weigh cX9_weigh 3 (some .int) ∈ lw_tbl := List.mem_of_getElem? (i := 410) (by decide +kernel)
theorem kX9_weigh_i : Cond.instanceMethod yX9_weigh ∈ lw_tbl := List.mem_of_getElem? (i := 408) (by decide +kernel)
theorem kX9_weigh_s : Cond.selects RX9 yX9_weigh yX9_weigh ∈ lw_tbl := List.mem_of_getElem? (i := 409) (by decide +kernel)
abbrev mX9_drain : Mt := (yX9_drain, cX9_drain, 2, (some .int))
theorem kX9_drain_c : Cond.code yX9_drain cX9_drain 2 (some .int) ∈ lw_tbl := List.mem_of_getElem? (i := 426) (by decide +kernel)
theorem kX9_drain_i : Cond.instanceMethod yX9_drain ∈ lw_tbl := List.mem_of_getElem? (i := 424) (by decide +kernel)
theorem kX9_drain_s : Cond.selects RX9 yX9_drain yX9_drain ∈ lw_tbl := List.mem_of_getElem? (i := 425) (by decide +kernel)
abbrev mX9_vatOf : Mt := (yX9_vatOf, cX9_vatOf, 4, (some .int))
theorem kX9_vatOf_c : Cond.code yX9_vatOf cX9_vatOf 4 (some .int) ∈ lw_tbl := List.mem_of_getElem? (i := 434) (by decide +kernel)
theorem kX9_vatOf_i : Cond.instanceMethod yX9_vatOf ∈ lw_tbl := List.mem_of_getElem? (i := 432) (by decide +kernel)
theorem kX9_vatOf_s : Cond.selects RX9 yX9_vatOf yX9_vatOf ∈ lw_tbl := List.mem_of_getElem? (i := 433) (by decide +kernel)
abbrev mX9_vatAt : Mt := (yX9_vatAt, cX9_vatAt, 3, (some .int))
theorem kX9_vatAt_c : Cond.code yX9_vatAt cX9_vatAt 3 (some .int) ∈ lw_tbl := List.mem_of_getElem? (i := 450) (by decide +kernel)
theorem kX9_vatAt_i : Cond.instanceMethod yX9_vatAt ∈ lw_tbl := List.mem_of_getElem? (i := 448) (by decide +kernel)
theorem kX9_vatAt_s : Cond.selects RX9 yX9_vatAt yX9_vatAt ∈ lw_tbl := List.mem_of_getElem? (i := 449) (by decide +kernel)
abbrev mX9_lot : Mt := (yX9_lot, cX9_lot, 3, (some .int))
theorem kX9_lot_c : Cond.code yX9_lot cX9_lot 3 (some .int) ∈ lw_tbl := List.mem_of_getElem? (i := 466) (by decide +kernel)
theorem kX9_lot_i : Cond.instanceMethod yX9_lot ∈ lw_tbl := List.mem_of_getElem? (i := 464) (by decide +kernel)
theorem kX9_lot_s : Cond.selects RX9 yX9_lot yX9_lot ∈ lw_tbl := List.mem_of_getElem? (i := 465) (by decide +kernel)
abbrev mX9_dip : Mt := (yX9_dip, cX9_dip, 3, (some .int))
theorem kX9_dip_c : Cond.code yX9_dip cX9_dip 3 (some .int) ∈ lw_tbl := List.mem_of_getElem? (i := 478) (by decide +kernel)
theorem kX9_dip_i : Cond.instanceMethod yX9_dip ∈ lw_tbl := List.mem_of_getElem? (i := 476) (by decide +kernel)
theorem kX9_dip_s : Cond.selects RX9 yX9_dip yX9_dip ∈ lw_tbl := List.mem_of_getElem? (i := 477) (by decide +kernel)
abbrev mX9_rinse : Mt := (yX9_rinse, cX9_rinse, 2, (some .int))
theorem kX9_rinse_c : Cond.code yX9_rinse cX9_rinse 2 (some .int) ∈ lw_tbl := List.mem_of_getElem? (i := 518) (by decide +kernel)
theorem kX9_rinse_i : Cond.instanceMethod yX9_rinse ∈ lw_tbl := List.mem_of_getElem? (i := 516) (by decide +kernel)
theorem kX9_rinse_s : Cond.selects RX9 yX9_rinse yX9_rinse ∈ lw_tbl := List.mem_of_getElem? (i := 517) (by decide +kernel)
abbrev mX9_hang : Mt := (yX9_hang, cX9_hang, 3, (some .int))
theorem kX9_hang_c : Cond.code yX9_hang cX9_hang 3 (some .int) ∈ lw_tbl := List.mem_of_getElem? (i := 530) (by decide +kernel)
theorem kX9_hang_i : Cond.instanceMethod yX9_hang ∈ lw_tbl := List.mem_of_getElem? (i := 528) (by decide +kernel)
theorem kX9_hang_s : Cond.selects RX9 yX9_hang yX9_hang ∈ lw_tbl := List.mem_of_getElem? (i := 529) (by decide +kernel)
abbrev mX9_take : Mt := (yX9_take, cX9_take, 2, (some .int))
theorem kX9_take_c : Cond.code yX9_take cX9_take 2 (some .int) ∈ lw_tbl := List.mem_of_getElem? (i := 542) (by decide +kernel)
theorem kX9_take_i : Cond.instanceMethod yX9_take ∈ lw_tbl := List.mem_of_getElem? (i := 540) (by decide +kernel)
theorem kX9_take_s : Cond.selects RX9 yX9_take yX9_take ∈ lw_tbl := List.mem_of_getElem? (i := 541) (by decide +kernel)
abbrev mX9_lotOf : Mt := (yX9_lotOf, cX9_lotOf, 4, (some .int))
theorem kX9_lotOf_c : Cond.code yX9_lotOf cX9_lotOf 4 (some .int) ∈ lw_tbl := List.mem_of_getElem? (i := 550) (by decide +kernel)
theorem kX9_lotOf_i : Cond.instanceMethod yX9_lotOf ∈ lw_tbl := List.mem_of_getElem? (i := 548) (by decide +kernel)
theorem kX9_lotOf_s : Cond.selects RX9 yX9_lotOf yX9_lotOf ∈ lw_tbl := List.mem_of_getElem? (i := 549) (by decide +kernel)
abbrev mX9_shade : Mt := (yX9_shade, cX9_shade, 4, (some .int))
theorem kX9_shade_c : Cond.code yX9_shade cX9_shade 4 (some .int) ∈ lw_tbl := List.mem_of_getElem? (i := 558) (by decide +kernel)
theorem kX9_shade_i : Cond.instanceMethod yX9_shade ∈ lw_tbl := List.mem_of_getElem? (i := 556) (by decide +kernel)
theorem kX9_shade_s : Cond.selects RX9 yX9_shade yX9_shade ∈ lw_tbl := List.mem_of_getElem? (i := 557) (by decide +kernel)
abbrev mX9_shadeBits : Mt := (yX9_shadeBits, cX9_shadeBits, 4, (some .int))
theorem kX9_shadeBits_c : Cond.code yX9_shadeBits cX9_shadeBits 4 (some .int) ∈ lw_tbl := List.mem_of_getElem? (i := 564) (by decide +kernel)
theorem kX9_shadeBits_i : Cond.instanceMethod yX9_shadeBits ∈ lw_tbl := List.mem_of_getElem? (i := 562) (by decide +kernel)
theorem kX9_shadeBits_s : Cond.selects RX9 yX9_shadeBits yX9_shadeBits ∈ lw_tbl := List.mem_of_getElem? (i := 563) (by decide +kernel)
abbrev mX9_meanBits : Mt := (yX9_meanBits, cX9_meanBits, 7, (some .int))
theorem kX9_meanBits_c : Cond.code yX9_meanBits cX9_meanBits 7 (some .int) ∈ lw_tbl := List.mem_of_getElem? (i := 576) (by decide +kernel)
theorem kX9_meanBits_i : Cond.instanceMethod yX9_meanBits ∈ lw_tbl := List.mem_of_getElem? (i := 574) (by decide +kernel)
theorem kX9_meanBits_s : Cond.selects RX9 yX9_meanBits yX9_meanBits ∈ lw_tbl := List.mem_of_getElem? (i := 575) (by decide +kernel)
abbrev mX9_order : Mt := (yX9_order, cX9_order, 5, (some .int))
theorem kX9_order_c : Cond.code yX9_order cX9_order 5 (some .int) ∈ lw_tbl := List.mem_of_getElem? (i := 580) (by decide +kernel)
theorem kX9_order_i : Cond.instanceMethod yX9_order ∈ lw_tbl := List.mem_of_getElem? (i := 578) (by decide +kernel)
theorem kX9_order_s : Cond.selects RX9 yX9_order yX9_order ∈ lw_tbl := List.mem_of_getElem? (i := 579) (by decide +kernel)
abbrev mX9_sell : Mt := (yX9_sell, cX9_sell, 3, (some .int))
theorem kX9_sell_c : Cond.code yX9_sell cX9_sell 3 (some .int) ∈ lw_tbl := List.mem_of_getElem? (i := 604) (by decide +kernel)
theorem kX9_sell_i : Cond.instanceMethod yX9_sell ∈ lw_tbl := List.mem_of_getElem? (i := 602) (by decide +kernel)
theorem kX9_sell_s : Cond.selects RX9 yX9_sell yX9_sell ∈ lw_tbl := List.mem_of_getElem? (i := 603) (by decide +kernel)
abbrev mX9_orderOf : Mt := (yX9_orderOf, cX9_orderOf, 4, (some .int))
theorem kX9_orderOf_c : Cond.code yX9_orderOf cX9_orderOf 4 (some .int) ∈ lw_tbl := List.mem_of_getElem? (i := 626) (by decide +kernel)
theorem kX9_orderOf_i : Cond.instanceMethod yX9_orderOf ∈ lw_tbl := List.mem_of_getElem? (i := 624) (by decide +kernel)
theorem kX9_orderOf_s : Cond.selects RX9 yX9_orderOf yX9_orderOf ∈ lw_tbl := List.mem_of_getElem? (i := 625) (by decide +kernel)
abbrev mX9_match : Mt := (yX9_match, cX9_match, 7, (some .int))
theorem kX9_match_c : Cond.code yX9_match cX9_match 7 (some .int) ∈ lw_tbl := List.mem_of_getElem? (i := 644) (by decide +kernel)
theorem kX9_match_i : Cond.instanceMethod yX9_match ∈ lw_tbl := List.mem_of_getElem? (i := 642) (by decide +kernel)
theorem kX9_match_s : Cond.selects RX9 yX9_match yX9_match ∈ lw_tbl := List.mem_of_getElem? (i := 643) (by decide +kernel)
abbrev mX9_alike : Mt := (yX9_alike, cX9_alike, 6, (some .int))
theorem kX9_alike_c : Cond.code yX9_alike cX9_alike 6 (some .int) ∈ lw_tbl := List.mem_of_getElem? (i := 650) (by decide +kernel)
theorem kX9_alike_i : Cond.instanceMethod yX9_alike ∈ lw_tbl := List.mem_of_getElem? (i := 648) (by decide +kernel)
theorem kX9_alike_s : Cond.selects RX9 yX9_alike yX9_alike ∈ lw_tbl := List.mem_of_getElem? (i := 649) (by decide +kernel)
abbrev mX9_plan : Mt := (yX9_plan, cX9_plan, 7, (some .int))
theorem kX9_plan_c : Cond.code yX9_plan cX9_plan 7 (some .int) ∈ lw_tbl := List.mem_of_getElem? (i := 660) (by decide +kernel)
theorem kX9_plan_i : Cond.instanceMethod yX9_plan ∈ lw_tbl := List.mem_of_getElem? (i := 658) (by decide +kernel)
theorem kX9_plan_s : Cond.selects RX9 yX9_plan yX9_plan ∈ lw_tbl := List.mem_of_getElem? (i := 659) (by decide +kernel)
abbrev mX9_takes : Mt := (yX9_takes, cX9_takes, 8, (some .int))
theorem kX9_takes_c : Cond.code yX9_takes cX9_takes 8 (some .int) ∈ lw_tbl := List.mem_of_getElem? (i := 686) (by decide +kernel)
theorem kX9_takes_i : Cond.instanceMethod yX9_takes ∈ lw_tbl := List.mem_of_getElem? (i := 684) (by decide +kernel)
theorem kX9_takes_s : Cond.selects RX9 yX9_takes yX9_takes ∈ lw_tbl := List.mem_of_getElem? (i := 685) (by decide +kernel)
abbrev mX9_account : Mt := (yX9_account, cX9_account, 3, (some .int))
theorem kX9_account_c : Cond.code yX9_account cX9_account 3 (some .int) ∈ lw_tbl := List.mem_of_getElem? (i := 691) (by decide +kernel)
theorem kX9_account_i : Cond.instanceMethod yX9_account ∈ lw_tbl := List.mem_of_getElem? (i := 689) (by decide +kernel)
theorem kX9_account_s : Cond.selects RX9 yX9_account yX9_account ∈ lw_tbl := List.mem_of_getElem? (i := 690) (by decide +kernel)
abbrev mX9_count : Mt := (yX9_count, cX9_count, 2, (some .int))
theorem kX9_count_c : Cond.code yX9_count cX9_count 2 (some .int) ∈ lw_tbl := List.mem_of_getElem? (i := 713) (by decide +kernel)
theorem kX9_count_i : Cond.instanceMethod yX9_count ∈ lw_tbl := List.mem_of_getElem? (i := 711) (by decide +kernel)
theorem kX9_count_s : Cond.selects RX9 yX9_count yX9_count ∈ lw_tbl := List.mem_of_getElem? (i := 712) (by decide +kernel)
abbrev mX9_set : Mt := (yX9_set, cX9_set, 3, (some .int))
theorem kX9_set_c : Cond.code yX9_set cX9_set 3 (some .int) ∈ lw_tbl := List.mem_of_getElem? (i := 728) (by decide +kernel)
theorem kX9_set_i : Cond.instanceMethod yX9_set ∈ lw_tbl := List.mem_of_getElem? (i := 726) (by decide +kernel)
theorem kX9_set_s : Cond.selects RX9 yX9_set yX9_set ∈ lw_tbl := List.mem_of_getElem? (i := 727) (by decide +kernel)
abbrev mX9_undo : Mt := (yX9_undo, cX9_undo, 1, (some .int))
theorem kX9_undo_c : Cond.code yX9_undo cX9_undo 1 (some .int) ∈ lw_tbl := List.mem_of_getElem? (i := 741) (by decide +kernel)
theorem kX9_undo_i : Cond.instanceMethod yX9_undo ∈ lw_tbl := List.mem_of_getElem? (i := 739) (by decide +kernel)
theorem kX9_undo_s : Cond.selects RX9 yX9_undo yX9_undo ∈ lw_tbl := List.mem_of_getElem? (i := 740) (by decide +kernel)
abbrev mX9_type : Mt := (yX9_type, cX9_type, 2, (some .int))
theorem kX9_type_c : Cond.code yX9_type cX9_type 2 (some .int) ∈ lw_tbl := List.mem_of_getElem? (i := 749) (by decide +kernel)
theorem kX9_type_i : Cond.instanceMethod yX9_type ∈ lw_tbl := List.mem_of_getElem? (i := 747) (by decide +kernel)
theorem kX9_type_s : Cond.selects RX9 yX9_type yX9_type ∈ lw_tbl := List.mem_of_getElem? (i := 748) (by decide +kernel)
abbrev mX9_clearText : Mt := (yX9_clearText, cX9_clearText, 1, (some .int))
theorem kX9_clearText_c : Cond.code yX9_clearText cX9_clearText 1 (some .int) ∈ lw_tbl := List.mem_of_getElem? (i := 757) (by decide +kernel)
theorem kX9_clearText_i : Cond.instanceMethod yX9_clearText ∈ lw_tbl := List.mem_of_getElem? (i := 755) (by decide +kernel)
theorem kX9_clearText_s : Cond.selects RX9 yX9_clearText yX9_clearText ∈ lw_tbl := List.mem_of_getElem? (i := 756) (by decide +kernel)
abbrev mX9_fault : Mt := (yX9_fault, cX9_fault, 2, (some .int))
theorem kX9_fault_c : Cond.code yX9_fault cX9_fault 2 (some .int) ∈ lw_tbl := List.mem_of_getElem? (i := 765) (by decide +kernel)
theorem kX9_fault_i : Cond.instanceMethod yX9_fault ∈ lw_tbl := List.mem_of_getElem? (i := 763) (by decide +kernel)
theorem kX9_fault_s : Cond.selects RX9 yX9_fault yX9_fault ∈ lw_tbl := List.mem_of_getElem? (i := 764) (by decide +kernel)
abbrev mX9_play : Mt := (yX9_play, cX9_play, 1, (some .int))
theorem kX9_play_c : Cond.code yX9_play cX9_play 1 (some .int) ∈ lw_tbl := List.mem_of_getElem? (i := 810) (by decide +kernel)
theorem kX9_play_i : Cond.instanceMethod yX9_play ∈ lw_tbl := List.mem_of_getElem? (i := 808) (by decide +kernel)
theorem kX9_play_s : Cond.selects RX9 yX9_play yX9_play ∈ lw_tbl := List.mem_of_getElem? (i := 809) (by decide +kernel)
abbrev mX9_isDye : Mt := (yX9_isDye, cX9_isDye, 1, (some .boolean))
theorem kX9_isDye_c : Cond.code yX9_isDye cX9_isDye 1 (some .boolean) ∈ lw_tbl := List.mem_of_getElem? (i := 394) (by decide +kernel)
theorem kX9_isDye_t : Cond.static yX9_isDye ∈ lw_tbl := List.mem_of_getElem? (i := 393) (by decide +kernel)
abbrev mX9_oneIf : Mt := (yX9_oneIf, cX9_oneIf, 1, (some .int))
theorem kX9_oneIf_c : Cond.code yX9_oneIf cX9_oneIf 1 (some .int) ∈ lw_tbl := List.mem_of_getElem? (i := 446) (by decide +kernel)
theorem kX9_oneIf_t : Cond.static yX9_oneIf ∈ lw_tbl := List.mem_of_getElem? (i := 445) (by decide +kernel)
abbrev mX9_distance : Mt := (yX9_distance, cX9_distance, 2, (some .int))
theorem kX9_distance_c : Cond.code yX9_distance cX9_distance 2 (some .int) ∈ lw_tbl := List.mem_of_getElem? (i := 622) (by decide +kernel)
theorem kX9_distance_t : Cond.static yX9_distance ∈ lw_tbl := List.mem_of_getElem? (i := 621) (by decide +kernel)
abbrev mX9_cellAt : Mt := (yX9_cellAt, cX9_cellAt, 2, (some .int))
theorem kX9_cellAt_c : Cond.code yX9_cellAt cX9_cellAt 2 (some .int) ∈ lw_tbl := List.mem_of_getElem? (i := 418) (by decide +kernel)
theorem kX9_cellAt_t : Cond.static yX9_cellAt ∈ lw_tbl := List.mem_of_getElem? (i := 417) (by decide +kernel)
abbrev mX9_putAt : Mt := (yX9_putAt, cX9_putAt, 3, none)
theorem kX9_putAt_c : Cond.code yX9_putAt cX9_putAt 3 none ∈ lw_tbl := List.mem_of_getElem? (i := 526) (by decide +kernel)
theorem kX9_putAt_t : Cond.static yX9_putAt ∈ lw_tbl := List.mem_of_getElem? (i := 525) (by decide +kernel)
abbrev mX9_addTo : Mt := (yX9_addTo, cX9_addTo, 3, none)
theorem kX9_addTo_c : Cond.code yX9_addTo cX9_addTo 3 none ∈ lw_tbl := List.mem_of_getElem? (i := 422) (by decide +kernel)
theorem kX9_addTo_t : Cond.static yX9_addTo ∈ lw_tbl := List.mem_of_getElem? (i := 421) (by decide +kernel)
abbrev mX9_sumOf : Mt := (yX9_sumOf, cX9_sumOf, 3, (some .int))
theorem kX9_sumOf_c : Cond.code yX9_sumOf cX9_sumOf 3 (some .int) ∈ lw_tbl := List.mem_of_getElem? (i := 506) (by decide +kernel)
theorem kX9_sumOf_t : Cond.static yX9_sumOf ∈ lw_tbl := List.mem_of_getElem? (i := 505) (by decide +kernel)
abbrev mX9_copyRow : Mt := (yX9_copyRow, cX9_copyRow, 3, none)
theorem kX9_copyRow_c : Cond.code yX9_copyRow cX9_copyRow 3 none ∈ lw_tbl := List.mem_of_getElem? (i := 356) (by decide +kernel)
theorem kX9_copyRow_t : Cond.static yX9_copyRow ∈ lw_tbl := List.mem_of_getElem? (i := 355) (by decide +kernel)
abbrev mX9_bitsOf : Mt := (yX9_bitsOf, cX9_bitsOf, 4, (some .int))
theorem kX9_bitsOf_c : Cond.code yX9_bitsOf cX9_bitsOf 4 (some .int) ∈ lw_tbl := List.mem_of_getElem? (i := 571) (by decide +kernel)
theorem kX9_bitsOf_t : Cond.static yX9_bitsOf ∈ lw_tbl := List.mem_of_getElem? (i := 570) (by decide +kernel)
abbrev mX10_init : Mt := (yX10_init, cX10_init, 1, none)
theorem kX10_init_c : Cond.code yX10_init cX10_init 1 none ∈ lw_tbl := List.mem_of_getElem? (i := 815) (by decide +kernel)
theorem kX10_init_i : Cond.instanceMethod yX10_init ∈ lw_tbl := List.mem_of_getElem? (i := 814) (by decide +kernel)
abbrev mX10_in : Mt := (yX10_in, cX10_in, 3, (some .boolean))
theorem kX10_in_c : Cond.code yX10_in cX10_in 3 (some .boolean) ∈ lw_tbl := List.mem_of_getElem? (i := 867) (by decide +kernel)
theorem kX10_in_t : Cond.static yX10_in ∈ lw_tbl := List.mem_of_getElem? (i := 866) (by decide +kernel)
abbrev mX10_isVat : Mt := (yX10_isVat, cX10_isVat, 2, (some .boolean))
theorem kX10_isVat_c : Cond.code yX10_isVat cX10_isVat 2 (some .boolean) ∈ lw_tbl := List.mem_of_getElem? (i := 879) (by decide +kernel)
theorem kX10_isVat_i : Cond.instanceMethod yX10_isVat ∈ lw_tbl := List.mem_of_getElem? (i := 878) (by decide +kernel)
theorem kX10_isVat_s : Cond.selects RX10 yX10_isVat yX10_isVat ∈ lw_tbl := List.mem_of_getElem? (i := 11) (by decide +kernel)
abbrev mX10_isLot : Mt := (yX10_isLot, cX10_isLot, 2, (some .boolean))
theorem kX10_isLot_c : Cond.code yX10_isLot cX10_isLot 2 (some .boolean) ∈ lw_tbl := List.mem_of_getElem? (i := 937) (by decide +kernel)
theorem kX10_isLot_i : Cond.instanceMethod yX10_isLot ∈ lw_tbl := List.mem_of_getElem? (i := 936) (by decide +kernel)
theorem kX10_isLot_s : Cond.selects RX10 yX10_isLot yX10_isLot ∈ lw_tbl := List.mem_of_getElem? (i := 20) (by decide +kernel)
abbrev mX10_isOrder : Mt := (yX10_isOrder, cX10_isOrder, 2, (some .boolean))
theorem kX10_isOrder_c : Cond.code yX10_isOrder cX10_isOrder 2 (some .boolean) ∈ lw_tbl := List.mem_of_getElem? (i := 1059) (by decide +kernel)
theorem kX10_isOrder_i : Cond.instanceMethod yX10_isOrder ∈ lw_tbl := List.mem_of_getElem? (i := 1058) (by decide +kernel)
theorem kX10_isOrder_s : Cond.selects RX10 yX10_isOrder yX10_isOrder ∈ lw_tbl := List.mem_of_getElem? (i := 38) (by decide +kernel)
abbrev mX10_isDye : Mt := (yX10_isDye, cX10_isDye, 1, (some .boolean))
theorem kX10_isDye_c : Cond.code yX10_isDye cX10_isDye 1 (some .boolean) ∈ lw_tbl := List.mem_of_getElem? (i := 864) (by decide +kernel)
theorem kX10_isDye_t : Cond.static yX10_isDye ∈ lw_tbl := List.mem_of_getElem? (i := 863) (by decide +kernel)
abbrev mX10_vatNumber : Mt := (yX10_vatNumber, cX10_vatNumber, 3, (some .int))
theorem kX10_vatNumber_c : Cond.code yX10_vatNumber cX10_vatNumber 3 (some .int) ∈ lw_tbl := List.mem_of_getElem? (i := 884) (by decide +kernel)
theorem kX10_vatNumber_i : Cond.instanceMethod yX10_vatNumber ∈ lw_tbl := List.mem_of_getElem? (i := 883) (by decide +kernel)
theorem kX10_vatNumber_s : Cond.selects RX10 yX10_vatNumber yX10_vatNumber ∈ lw_tbl := List.mem_of_getElem? (i := 12) (by decide +kernel)
abbrev mX10_lotNumber : Mt := (yX10_lotNumber, cX10_lotNumber, 3, (some .int))
theorem kX10_lotNumber_c : Cond.code yX10_lotNumber cX10_lotNumber 3 (some .int) ∈ lw_tbl := List.mem_of_getElem? (i := 945) (by decide +kernel)
theorem kX10_lotNumber_i : Cond.instanceMethod yX10_lotNumber ∈ lw_tbl := List.mem_of_getElem? (i := 944) (by decide +kernel)
theorem kX10_lotNumber_s : Cond.selects RX10 yX10_lotNumber yX10_lotNumber ∈ lw_tbl := List.mem_of_getElem? (i := 22) (by decide +kernel)
abbrev mX10_puts : Mt := (yX10_puts, cX10_puts, 4, none)
theorem kX10_puts_c : Cond.code yX10_puts cX10_puts 4 none ∈ lw_tbl := List.mem_of_getElem? (i := 925) (by decide +kernel)
theorem kX10_puts_i : Cond.instanceMethod yX10_puts ∈ lw_tbl := List.mem_of_getElem? (i := 924) (by decide +kernel)
theorem kX10_puts_s : Cond.selects RX10 yX10_puts yX10_puts ∈ lw_tbl := List.mem_of_getElem? (i := 18) (by decide +kernel)
abbrev mX10_orderNumber : Mt := (yX10_orderNumber, cX10_orderNumber, 3, (some .int))
theorem kX10_orderNumber_c : Cond.code yX10_orderNumber cX10_orderNumber 3 (some .int) ∈ lw_tbl := List.mem_of_getElem? (i := 1047) (by decide +kernel)
theorem kX10_orderNumber_i : Cond.instanceMethod yX10_orderNumber ∈ lw_tbl := List.mem_of_getElem? (i := 1046) (by decide +kernel)
theorem kX10_orderNumber_s : Cond.selects RX10 yX10_orderNumber yX10_orderNumber ∈ lw_tbl := List.mem_of_getElem? (i := 36) (by decide +kernel)
abbrev mX10_isSold : Mt := (yX10_isSold, cX10_isSold, 2, (some .boolean))
theorem kX10_isSold_c : Cond.code yX10_isSold cX10_isSold 2 (some .boolean) ∈ lw_tbl := List.mem_of_getElem? (i := 941) (by decide +kernel)
theorem kX10_isSold_i : Cond.instanceMethod yX10_isSold ∈ lw_tbl := List.mem_of_getElem? (i := 940) (by decide +kernel)
theorem kX10_isSold_s : Cond.selects RX10 yX10_isSold yX10_isSold ∈ lw_tbl := List.mem_of_getElem? (i := 21) (by decide +kernel)
abbrev mX10_hangs : Mt := (yX10_hangs, cX10_hangs, 2, (some .boolean))
theorem kX10_hangs_c : Cond.code yX10_hangs cX10_hangs 2 (some .boolean) ∈ lw_tbl := List.mem_of_getElem? (i := 949) (by decide +kernel)
theorem kX10_hangs_i : Cond.instanceMethod yX10_hangs ∈ lw_tbl := List.mem_of_getElem? (i := 948) (by decide +kernel)
theorem kX10_hangs_s : Cond.selects RX10 yX10_hangs yX10_hangs ∈ lw_tbl := List.mem_of_getElem? (i := 23) (by decide +kernel)
abbrev mX10_notes : Mt := (yX10_notes, cX10_notes, 2, none)
theorem kX10_notes_c : Cond.code yX10_notes cX10_notes 2 none ∈ lw_tbl := List.mem_of_getElem? (i := 871) (by decide +kernel)
theorem kX10_notes_i : Cond.instanceMethod yX10_notes ∈ lw_tbl := List.mem_of_getElem? (i := 870) (by decide +kernel)
theorem kX10_notes_s : Cond.selects RX10 yX10_notes yX10_notes ∈ lw_tbl := List.mem_of_getElem? (i := 10) (by decide +kernel)
abbrev mX10_asides : Mt := (yX10_asides, cX10_asides, 2, none)
theorem kX10_asides_c : Cond.code yX10_asides cX10_asides 2 none ∈ lw_tbl := List.mem_of_getElem? (i := 893) (by decide +kernel)
theorem kX10_asides_i : Cond.instanceMethod yX10_asides ∈ lw_tbl := List.mem_of_getElem? (i := 892) (by decide +kernel)
theorem kX10_asides_s : Cond.selects RX10 yX10_asides yX10_asides ∈ lw_tbl := List.mem_of_getElem? (i := 13) (by decide +kernel)
abbrev mX10_backs : Mt := (yX10_backs, cX10_backs, 2, none)
theorem kX10_backs_c : Cond.code yX10_backs cX10_backs 2 none ∈ lw_tbl := List.mem_of_getElem? (i := 905) (by decide +kernel)
theorem kX10_backs_i : Cond.instanceMethod yX10_backs ∈ lw_tbl := List.mem_of_getElem? (i := 904) (by decide +kernel)
theorem kX10_backs_s : Cond.selects RX10 yX10_backs yX10_backs ∈ lw_tbl := List.mem_of_getElem? (i := 16) (by decide +kernel)
abbrev mX10_done : Mt := (yX10_done, cX10_done, 4, (some .int))
theorem kX10_done_c : Cond.code yX10_done cX10_done 4 (some .int) ∈ lw_tbl := List.mem_of_getElem? (i := 901) (by decide +kernel)
theorem kX10_done_i : Cond.instanceMethod yX10_done ∈ lw_tbl := List.mem_of_getElem? (i := 900) (by decide +kernel)
theorem kX10_done_s : Cond.selects RX10 yX10_done yX10_done ∈ lw_tbl := List.mem_of_getElem? (i := 15) (by decide +kernel)
abbrev mX10_undo : Mt := (yX10_undo, cX10_undo, 2, (some .int))
theorem kX10_undo_c : Cond.code yX10_undo cX10_undo 2 (some .int) ∈ lw_tbl := List.mem_of_getElem? (i := 857) (by decide +kernel)
theorem kX10_undo_i : Cond.instanceMethod yX10_undo ∈ lw_tbl := List.mem_of_getElem? (i := 855) (by decide +kernel)
theorem kX10_undo_s : Cond.selects RX10 yX10_undo yX10_undo ∈ lw_tbl := List.mem_of_getElem? (i := 856) (by decide +kernel)
abbrev mX10_vat : Mt := (yX10_vat, cX10_vat, 4, (some .int))
theorem kX10_vat_c : Cond.code yX10_vat cX10_vat 4 (some .int) ∈ lw_tbl := List.mem_of_getElem? (i := 861) (by decide +kernel)
theorem kX10_vat_i : Cond.instanceMethod yX10_vat ∈ lw_tbl := List.mem_of_getElem? (i := 859) (by decide +kernel)
theorem kX10_vat_s : Cond.selects RX10 yX10_vat yX10_vat ∈ lw_tbl := List.mem_of_getElem? (i := 860) (by decide +kernel)
abbrev mX10_weigh : Mt := (yX10_weigh, cX10_weigh, 4, (some .int))
theorem kX10_weigh_c : Cond.code yX10_weigh cX10_weigh 4 (some .int) ∈ lw_tbl := List.mem_of_getElem? (i := 875) (by decide +kernel)
theorem kX10_weigh_i : Cond.instanceMethod yX10_weigh ∈ lw_tbl := List.mem_of_getElem? (i := 873) (by decide +kernel)
theorem kX10_weigh_s : Cond.selects RX10 yX10_weigh yX10_weigh ∈ lw_tbl := List.mem_of_getElem? (i := 874) (by decide +kernel)
abbrev mX10_drains : Mt := (yX10_drains, cX10_drains, 3, (some .int))
theorem kX10_drains_c : Cond.code yX10_drains cX10_drains 3 (some .int) ∈ lw_tbl := List.mem_of_getElem? (i := 897) (by decide +kernel)
theorem kX10_drains_i : Cond.instanceMethod yX10_drains ∈ lw_tbl := List.mem_of_getElem? (i := 896) (by decide +kernel)
theorem kX10_drains_s : Cond.selects RX10 yX10_drains yX10_drains ∈ lw_tbl := List.mem_of_getElem? (i := 14) (by decide +kernel)
abbrev mX10_drain : Mt := (yX10_drain, cX10_drain, 2, (some .int))
theorem kX10_drain_c : Cond.code yX10_drain cX10_drain 2 (some .int) ∈ lw_tbl := List.mem_of_getElem? (i := 889) (by decide +kernel)
theorem kX10_drain_i : Cond.instanceMethod yX10_drain ∈ lw_tbl := List.mem_of_getElem? (i := 887) (by decide +kernel)
theorem kX10_drain_s : Cond.selects RX10 yX10_drain yX10_drain ∈ lw_tbl := List.mem_of_getElem? (i := 888) (by decide +kernel)
abbrev mX10_vatOf : Mt := (yX10_vatOf, cX10_vatOf, 3, (some .int))
theorem kX10_vatOf_c : Cond.code yX10_vatOf cX10_vatOf 3 (some .int) ∈ lw_tbl := List.mem_of_getElem? (i := 909) (by decide +kernel)
theorem kX10_vatOf_i : Cond.instanceMethod yX10_vatOf ∈ lw_tbl := List.mem_of_getElem? (i := 907) (by decide +kernel)
theorem kX10_vatOf_s : Cond.selects RX10 yX10_vatOf yX10_vatOf ∈ lw_tbl := List.mem_of_getElem? (i := 908) (by decide +kernel)
abbrev mX10_isStronger : Mt := (yX10_isStronger, cX10_isStronger, 5, (some .boolean))
theorem kX10_isStronger_c : Cond.code yX10_isStronger cX10_isStronger 5 (some .boolean) ∈ lw_tbl := List.mem_of_getElem? (i := 917) (by decide +kernel)
theorem kX10_isStronger_i : Cond.instanceMethod yX10_isStronger ∈ lw_tbl := List.mem_of_getElem? (i := 916) (by decide +kernel)
theorem kX10_isStronger_s : Cond.selects RX10 yX10_isStronger yX10_isStronger ∈ lw_tbl := List.mem_of_getElem? (i := 17) (by decide +kernel)
abbrev mX10_vatAt : Mt := (yX10_vatAt, cX10_vatAt, 5, (some .int))
theorem kX10_vatAt_c : Cond.code yX10_vatAt cX10_vatAt 5 (some .int) ∈ lw_tbl := List.mem_of_getElem? (i := 913) (by decide +kernel)
theorem kX10_vatAt_i : Cond.instanceMethod yX10_vatAt ∈ lw_tbl := List.mem_of_getElem? (i := 911) (by decide +kernel)
theorem kX10_vatAt_s : Cond.selects RX10 yX10_vatAt yX10_vatAt ∈ lw_tbl := List.mem_of_getElem? (i := 912) (by decide +kernel)
abbrev mX10_grains : Mt := (yX10_grains, cX10_grains, 3, (some .int))
theorem kX10_grains_c : Cond.code yX10_grains cX10_grains 3 (some .int) ∈ lw_tbl := List.mem_of_getElem? (i := 965) (by decide +kernel)
theorem kX10_grains_i : Cond.instanceMethod yX10_grains ∈ lw_tbl := List.mem_of_getElem? (i := 964) (by decide +kernel)
theorem kX10_grains_s : Cond.selects RX10 yX10_grains yX10_grains ∈ lw_tbl := List.mem_of_getElem? (i := 27) (by decide +kernel)
abbrev mX10_shadeOf : Mt := (yX10_shadeOf, cX10_shadeOf, 3, (some .int))
theorem kX10_shadeOf_c : Cond.code yX10_shadeOf cX10_shadeOf 3 (some .int) ∈ lw_tbl := List.mem_of_getElem? (i := 970) (by decide +kernel)
theorem kX10_shadeOf_i : Cond.instanceMethod yX10_shadeOf ∈ lw_tbl := List.mem_of_getElem? (i := 969) (by decide +kernel)
theorem kX10_shadeOf_s : Cond.selects RX10 yX10_shadeOf yX10_shadeOf ∈ lw_tbl := List.mem_of_getElem? (i := 28) (by decide +kernel)
abbrev mX10_depth : Mt := (yX10_depth, cX10_depth, 5, (some .int))
theorem kX10_depth_c : Cond.code yX10_depth cX10_depth 5 (some .int) ∈ lw_tbl := List.mem_of_getElem? (i := 961) (by decide +kernel)
theorem kX10_depth_i : Cond.instanceMethod yX10_depth ∈ lw_tbl := List.mem_of_getElem? (i := 960) (by decide +kernel)
theorem kX10_depth_s : Cond.selects RX10 yX10_depth yX10_depth ∈ lw_tbl := List.mem_of_getElem? (i := 26) (by decide +kernel)
abbrev mX10_lot : Mt := (yX10_lot, cX10_lot, 5, (some .int))
theorem kX10_lot_c : Cond.code yX10_lot cX10_lot 5 (some .int) ∈ lw_tbl := List.mem_of_getElem? (i := 921) (by decide +kernel)
theorem kX10_lot_i : Cond.instanceMethod yX10_lot ∈ lw_tbl := List.mem_of_getElem? (i := 919) (by decide +kernel)
theorem kX10_lot_s : Cond.selects RX10 yX10_lot yX10_lot ∈ lw_tbl := List.mem_of_getElem? (i := 920) (by decide +kernel)
abbrev mX10_taken : Mt := (yX10_taken, cX10_taken, 6, (some .int))
theorem kX10_taken_c : Cond.code yX10_taken cX10_taken 6 (some .int) ∈ lw_tbl := List.mem_of_getElem? (i := 957) (by decide +kernel)
theorem kX10_taken_i : Cond.instanceMethod yX10_taken ∈ lw_tbl := List.mem_of_getElem? (i := 956) (by decide +kernel)
theorem kX10_taken_s : Cond.selects RX10 yX10_taken yX10_taken ∈ lw_tbl := List.mem_of_getElem? (i := 25) (by decide +kernel)
abbrev mX10_dyes : Mt := (yX10_dyes, cX10_dyes, 8, (some .int))
theorem kX10_dyes_c : Cond.code yX10_dyes cX10_dyes 8 (some .int) ∈ lw_tbl := List.mem_of_getElem? (i := 953) (by decide +kernel)
theorem kX10_dyes_i : Cond.instanceMethod yX10_dyes ∈ lw_tbl := List.mem_of_getElem? (i := 952) (by decide +kernel)
theorem kX10_dyes_s : Cond.selects RX10 yX10_dyes yX10_dyes ∈ lw_tbl := List.mem_of_getElem? (i := 24) (by decide +kernel)
abbrev mX10_dips : Mt := (yX10_dips, cX10_dips, 3, (some .int))
theorem kX10_dips_c : Cond.code yX10_dips cX10_dips 3 (some .int) ∈ lw_tbl := List.mem_of_getElem? (i := 933) (by decide +kernel)
theorem kX10_dips_i : Cond.instanceMethod yX10_dips ∈ lw_tbl := List.mem_of_getElem? (i := 932) (by decide +kernel)
theorem kX10_dips_s : Cond.selects RX10 yX10_dips yX10_dips ∈ lw_tbl := List.mem_of_getElem? (i := 19) (by decide +kernel)
abbrev mX10_dip : Mt := (yX10_dip, cX10_dip, 3, (some .int))
theorem kX10_dip_c : Cond.code yX10_dip cX10_dip 3 (some .int) ∈ lw_tbl := List.mem_of_getElem? (i := 929) (by decide +kernel)
theorem kX10_dip_i : Cond.instanceMethod yX10_dip ∈ lw_tbl := List.mem_of_getElem? (i := 927) (by decide +kernel)
theorem kX10_dip_s : Cond.selects RX10 yX10_dip yX10_dip ∈ lw_tbl := List.mem_of_getElem? (i := 928) (by decide +kernel)
abbrev mX10_rinses : Mt := (yX10_rinses, cX10_rinses, 5, (some .int))
theorem kX10_rinses_c : Cond.code yX10_rinses cX10_rinses 5 (some .int) ∈ lw_tbl := List.mem_of_getElem? (i := 978) (by decide +kernel)
theorem kX10_rinses_i : Cond.instanceMethod yX10_rinses ∈ lw_tbl := List.mem_of_getElem? (i := 977) (by decide +kernel)
theorem kX10_rinses_s : Cond.selects RX10 yX10_rinses yX10_rinses ∈ lw_tbl := List.mem_of_getElem? (i := 29) (by decide +kernel)
abbrev mX10_rinse : Mt := (yX10_rinse, cX10_rinse, 2, (some .int))
theorem kX10_rinse_c : Cond.code yX10_rinse cX10_rinse 2 (some .int) ∈ lw_tbl := List.mem_of_getElem? (i := 974) (by decide +kernel)
theorem kX10_rinse_i : Cond.instanceMethod yX10_rinse ∈ lw_tbl := List.mem_of_getElem? (i := 972) (by decide +kernel)
theorem kX10_rinse_s : Cond.selects RX10 yX10_rinse yX10_rinse ∈ lw_tbl := List.mem_of_getElem? (i := 973) (by decide +kernel)
abbrev mX10_hanging : Mt := (yX10_hanging, cX10_hanging, 4, (some .int))
theorem kX10_hanging_c : Cond.code yX10_hanging cX10_hanging 4 (some .int) ∈ lw_tbl := List.mem_of_getElem? (i := 990) (by decide +kernel)
theorem kX10_hanging_i : Cond.instanceMethod yX10_hanging ∈ lw_tbl := List.mem_of_getElem? (i := 989) (by decide +kernel)
theorem kX10_hanging_s : Cond.selects RX10 yX10_hanging yX10_hanging ∈ lw_tbl := List.mem_of_getElem? (i := 31) (by decide +kernel)
abbrev mX10_hangsOn : Mt := (yX10_hangsOn, cX10_hangsOn, 3, (some .int))
theorem kX10_hangsOn_c : Cond.code yX10_hangsOn cX10_hangsOn 3 (some .int) ∈ lw_tbl := List.mem_of_getElem? (i := 986) (by decide +kernel)
theorem kX10_hangsOn_i : Cond.instanceMethod yX10_hangsOn ∈ lw_tbl := List.mem_of_getElem? (i := 985) (by decide +kernel)
theorem kX10_hangsOn_s : Cond.selects RX10 yX10_hangsOn yX10_hangsOn ∈ lw_tbl := List.mem_of_getElem? (i := 30) (by decide +kernel)
abbrev mX10_hang : Mt := (yX10_hang, cX10_hang, 3, (some .int))
theorem kX10_hang_c : Cond.code yX10_hang cX10_hang 3 (some .int) ∈ lw_tbl := List.mem_of_getElem? (i := 982) (by decide +kernel)
theorem kX10_hang_i : Cond.instanceMethod yX10_hang ∈ lw_tbl := List.mem_of_getElem? (i := 980) (by decide +kernel)
theorem kX10_hang_s : Cond.selects RX10 yX10_hang yX10_hang ∈ lw_tbl := List.mem_of_getElem? (i := 981) (by decide +kernel)
abbrev mX10_takesDown : Mt := (yX10_takesDown, cX10_takesDown, 2, (some .int))
theorem kX10_takesDown_c : Cond.code yX10_takesDown cX10_takesDown 2 (some .int) ∈ lw_tbl := List.mem_of_getElem? (i := 998) (by decide +kernel)
theorem kX10_takesDown_i : Cond.instanceMethod yX10_takesDown ∈ lw_tbl := List.mem_of_getElem? (i := 997) (by decide +kernel)
theorem kX10_takesDown_s : Cond.selects RX10 yX10_takesDown yX10_takesDown ∈ lw_tbl := List.mem_of_getElem? (i := 32) (by decide +kernel)
abbrev mX10_take : Mt := (yX10_take, cX10_take, 2, (some .int))
theorem kX10_take_c : Cond.code yX10_take cX10_take 2 (some .int) ∈ lw_tbl := List.mem_of_getElem? (i := 994) (by decide +kernel)
theorem kX10_take_i : Cond.instanceMethod yX10_take ∈ lw_tbl := List.mem_of_getElem? (i := 992) (by decide +kernel)
theorem kX10_take_s : Cond.selects RX10 yX10_take yX10_take ∈ lw_tbl := List.mem_of_getElem? (i := 993) (by decide +kernel)
abbrev mX10_sum : Mt := (yX10_sum, cX10_sum, 3, (some .int))
theorem kX10_sum_c : Cond.code yX10_sum cX10_sum 3 (some .int) ∈ lw_tbl := List.mem_of_getElem? (i := 1006) (by decide +kernel)
theorem kX10_sum_i : Cond.instanceMethod yX10_sum ∈ lw_tbl := List.mem_of_getElem? (i := 1005) (by decide +kernel)
theorem kX10_sum_s : Cond.selects RX10 yX10_sum yX10_sum ∈ lw_tbl := List.mem_of_getElem? (i := 33) (by decide +kernel)
abbrev mX10_lotOf : Mt := (yX10_lotOf, cX10_lotOf, 3, (some .int))
theorem kX10_lotOf_c : Cond.code yX10_lotOf cX10_lotOf 3 (some .int) ∈ lw_tbl := List.mem_of_getElem? (i := 1002) (by decide +kernel)
theorem kX10_lotOf_i : Cond.instanceMethod yX10_lotOf ∈ lw_tbl := List.mem_of_getElem? (i := 1000) (by decide +kernel)
theorem kX10_lotOf_s : Cond.selects RX10 yX10_lotOf yX10_lotOf ∈ lw_tbl := List.mem_of_getElem? (i := 1001) (by decide +kernel)
abbrev mX10_shade : Mt := (yX10_shade, cX10_shade, 3, (some .int))
theorem kX10_shade_c : Cond.code yX10_shade cX10_shade 3 (some .int) ∈ lw_tbl := List.mem_of_getElem? (i := 1010) (by decide +kernel)
theorem kX10_shade_i : Cond.instanceMethod yX10_shade ∈ lw_tbl := List.mem_of_getElem? (i := 1008) (by decide +kernel)
theorem kX10_shade_s : Cond.selects RX10 yX10_shade yX10_shade ∈ lw_tbl := List.mem_of_getElem? (i := 1009) (by decide +kernel)
abbrev mX10_exact : Mt := (yX10_exact, cX10_exact, 3, (some .float))
theorem kX10_exact_c : Cond.code yX10_exact cX10_exact 3 (some .float) ∈ lw_tbl := List.mem_of_getElem? (i := 1018) (by decide +kernel)
theorem kX10_exact_i : Cond.instanceMethod yX10_exact ∈ lw_tbl := List.mem_of_getElem? (i := 1017) (by decide +kernel)
theorem kX10_exact_s : Cond.selects RX10 yX10_exact yX10_exact ∈ lw_tbl := List.mem_of_getElem? (i := 34) (by decide +kernel)
abbrev mX10_shadeBits : Mt := (yX10_shadeBits, cX10_shadeBits, 3, (some .int))
theorem kX10_shadeBits_c : Cond.code yX10_shadeBits cX10_shadeBits 3 (some .int) ∈ lw_tbl := List.mem_of_getElem? (i := 1014) (by decide +kernel)
theorem kX10_shadeBits_i : Cond.instanceMethod yX10_shadeBits ∈ lw_tbl := List.mem_of_getElem? (i := 1012) (by decide +kernel)
theorem kX10_shadeBits_s : Cond.selects RX10 yX10_shadeBits yX10_shadeBits ∈ lw_tbl := List.mem_of_getElem? (i := 1013) (by decide +kernel)
abbrev mX10_meanBits : Mt := (yX10_meanBits, cX10_meanBits, 6, (some .int))
theorem kX10_meanBits_c : Cond.code yX10_meanBits cX10_meanBits 6 (some .int) ∈ lw_tbl := List.mem_of_getElem? (i := 1032) (by decide +kernel)
theorem kX10_meanBits_i : Cond.instanceMethod yX10_meanBits ∈ lw_tbl := List.mem_of_getElem? (i := 1030) (by decide +kernel)
theorem kX10_meanBits_s : Cond.selects RX10 yX10_meanBits yX10_meanBits ∈ lw_tbl := List.mem_of_getElem? (i := 1031) (by decide +kernel)
abbrev mX10_unserved : Mt := (yX10_unserved, cX10_unserved, 3, (some .int))
theorem kX10_unserved_c : Cond.code yX10_unserved cX10_unserved 3 (some .int) ∈ lw_tbl := List.mem_of_getElem? (i := 1043) (by decide +kernel)
theorem kX10_unserved_i : Cond.instanceMethod yX10_unserved ∈ lw_tbl := List.mem_of_getElem? (i := 1042) (by decide +kernel)
theorem kX10_unserved_s : Cond.selects RX10 yX10_unserved yX10_unserved ∈ lw_tbl := List.mem_of_getElem? (i := 35) (by decide +kernel)
abbrev mX10_isShade : Mt := (yX10_isShade, cX10_isShade, 1, (some .boolean))
theorem kX10_isShade_c : Cond.code yX10_isShade cX10_isShade 1 (some .boolean) ∈ lw_tbl := List.mem_of_getElem? (i := 1039) (by decide +kernel)
theorem kX10_isShade_t : Cond.static yX10_isShade ∈ lw_tbl := List.mem_of_getElem? (i := 1038) (by decide +kernel)
abbrev mX10_order : Mt := (yX10_order, cX10_order, 6, (some .int))
theorem kX10_order_c : Cond.code yX10_order cX10_order 6 (some .int) ∈ lw_tbl := List.mem_of_getElem? (i := 1036) (by decide +kernel)
theorem kX10_order_i : Cond.instanceMethod yX10_order ∈ lw_tbl := List.mem_of_getElem? (i := 1034) (by decide +kernel)
theorem kX10_order_s : Cond.selects RX10 yX10_order yX10_order ∈ lw_tbl := List.mem_of_getElem? (i := 1035) (by decide +kernel)
abbrev mX10_apart : Mt := (yX10_apart, cX10_apart, 2, (some .int))
theorem kX10_apart_c : Cond.code yX10_apart cX10_apart 2 (some .int) ∈ lw_tbl := List.mem_of_getElem? (i := 1066) (by decide +kernel)
theorem kX10_apart_t : Cond.static yX10_apart ∈ lw_tbl := List.mem_of_getElem? (i := 1065) (by decide +kernel)
abbrev mX10_fits : Mt := (yX10_fits, cX10_fits, 5, (some .boolean))
theorem kX10_fits_c : Cond.code yX10_fits cX10_fits 5 (some .boolean) ∈ lw_tbl := List.mem_of_getElem? (i := 1063) (by decide +kernel)
theorem kX10_fits_i : Cond.instanceMethod yX10_fits ∈ lw_tbl := List.mem_of_getElem? (i := 1062) (by decide +kernel)
theorem kX10_fits_s : Cond.selects RX10 yX10_fits yX10_fits ∈ lw_tbl := List.mem_of_getElem? (i := 39) (by decide +kernel)
abbrev mX10_sells : Mt := (yX10_sells, cX10_sells, 3, (some .int))
theorem kX10_sells_c : Cond.code yX10_sells cX10_sells 3 (some .int) ∈ lw_tbl := List.mem_of_getElem? (i := 1055) (by decide +kernel)
theorem kX10_sells_i : Cond.instanceMethod yX10_sells ∈ lw_tbl := List.mem_of_getElem? (i := 1054) (by decide +kernel)
theorem kX10_sells_s : Cond.selects RX10 yX10_sells yX10_sells ∈ lw_tbl := List.mem_of_getElem? (i := 37) (by decide +kernel)
abbrev mX10_sell : Mt := (yX10_sell, cX10_sell, 3, (some .int))
theorem kX10_sell_c : Cond.code yX10_sell cX10_sell 3 (some .int) ∈ lw_tbl := List.mem_of_getElem? (i := 1051) (by decide +kernel)
theorem kX10_sell_i : Cond.instanceMethod yX10_sell ∈ lw_tbl := List.mem_of_getElem? (i := 1049) (by decide +kernel)
theorem kX10_sell_s : Cond.selects RX10 yX10_sell yX10_sell ∈ lw_tbl := List.mem_of_getElem? (i := 1050) (by decide +kernel)
abbrev mX10_fitting : Mt := (yX10_fitting, cX10_fitting, 4, (some .int))
theorem kX10_fitting_c : Cond.code yX10_fitting cX10_fitting 4 (some .int) ∈ lw_tbl := List.mem_of_getElem? (i := 1074) (by decide +kernel)
theorem kX10_fitting_i : Cond.instanceMethod yX10_fitting ∈ lw_tbl := List.mem_of_getElem? (i := 1073) (by decide +kernel)
theorem kX10_fitting_s : Cond.selects RX10 yX10_fitting yX10_fitting ∈ lw_tbl := List.mem_of_getElem? (i := 40) (by decide +kernel)
abbrev mX10_nearest : Mt := (yX10_nearest, cX10_nearest, 7, (some .int))
theorem kX10_nearest_c : Cond.code yX10_nearest cX10_nearest 7 (some .int) ∈ lw_tbl := List.mem_of_getElem? (i := 1078) (by decide +kernel)
theorem kX10_nearest_i : Cond.instanceMethod yX10_nearest ∈ lw_tbl := List.mem_of_getElem? (i := 1077) (by decide +kernel)
theorem kX10_nearest_s : Cond.selects RX10 yX10_nearest yX10_nearest ∈ lw_tbl := List.mem_of_getElem? (i := 41) (by decide +kernel)
abbrev mX10_orderOf : Mt := (yX10_orderOf, cX10_orderOf, 3, (some .int))
theorem kX10_orderOf_c : Cond.code yX10_orderOf cX10_orderOf 3 (some .int) ∈ lw_tbl := List.mem_of_getElem? (i := 1070) (by decide +kernel)
theorem kX10_orderOf_i : Cond.instanceMethod yX10_orderOf ∈ lw_tbl := List.mem_of_getElem? (i := 1068) (by decide +kernel)
theorem kX10_orderOf_s : Cond.selects RX10 yX10_orderOf yX10_orderOf ∈ lw_tbl := List.mem_of_getElem? (i := 1069) (by decide +kernel)
abbrev mX10_match : Mt := (yX10_match, cX10_match, 5, (some .int))
theorem kX10_match_c : Cond.code yX10_match cX10_match 5 (some .int) ∈ lw_tbl := List.mem_of_getElem? (i := 1082) (by decide +kernel)
theorem kX10_match_i : Cond.instanceMethod yX10_match ∈ lw_tbl := List.mem_of_getElem? (i := 1080) (by decide +kernel)
theorem kX10_match_s : Cond.selects RX10 yX10_match yX10_match ∈ lw_tbl := List.mem_of_getElem? (i := 1081) (by decide +kernel)
abbrev mX10_alike : Mt := (yX10_alike, cX10_alike, 6, (some .int))
theorem kX10_alike_c : Cond.code yX10_alike cX10_alike 6 (some .int) ∈ lw_tbl := List.mem_of_getElem? (i := 1086) (by decide +kernel)
theorem kX10_alike_i : Cond.instanceMethod yX10_alike ∈ lw_tbl := List.mem_of_getElem? (i := 1084) (by decide +kernel)
theorem kX10_alike_s : Cond.selects RX10 yX10_alike yX10_alike ∈ lw_tbl := List.mem_of_getElem? (i := 1085) (by decide +kernel)
abbrev mX10_makesFit : Mt := (yX10_makesFit, cX10_makesFit, 8, (some .boolean))
theorem kX10_makesFit_c : Cond.code yX10_makesFit cX10_makesFit 8 (some .boolean) ∈ lw_tbl := List.mem_of_getElem? (i := 1098) (by decide +kernel)
theorem kX10_makesFit_i : Cond.instanceMethod yX10_makesFit ∈ lw_tbl := List.mem_of_getElem? (i := 1097) (by decide +kernel)
theorem kX10_makesFit_s : Cond.selects RX10 yX10_makesFit yX10_makesFit ∈ lw_tbl := List.mem_of_getElem? (i := 43) (by decide +kernel)
abbrev mX10_plans : Mt := (yX10_plans, cX10_plans, 6, (some .int))
theorem kX10_plans_c : Cond.code yX10_plans cX10_plans 6 (some .int) ∈ lw_tbl := List.mem_of_getElem? (i := 1094) (by decide +kernel)
theorem kX10_plans_i : Cond.instanceMethod yX10_plans ∈ lw_tbl := List.mem_of_getElem? (i := 1093) (by decide +kernel)
theorem kX10_plans_s : Cond.selects RX10 yX10_plans yX10_plans ∈ lw_tbl := List.mem_of_getElem? (i := 42) (by decide +kernel)
abbrev mX10_plan : Mt := (yX10_plan, cX10_plan, 5, (some .int))
theorem kX10_plan_c : Cond.code yX10_plan cX10_plan 5 (some .int) ∈ lw_tbl := List.mem_of_getElem? (i := 1090) (by decide +kernel)
theorem kX10_plan_i : Cond.instanceMethod yX10_plan ∈ lw_tbl := List.mem_of_getElem? (i := 1088) (by decide +kernel)
theorem kX10_plan_s : Cond.selects RX10 yX10_plan yX10_plan ∈ lw_tbl := List.mem_of_getElem? (i := 1089) (by decide +kernel)
abbrev mX10_takes : Mt := (yX10_takes, cX10_takes, 6, (some .int))
theorem kX10_takes_c : Cond.code yX10_takes cX10_takes 6 (some .int) ∈ lw_tbl := List.mem_of_getElem? (i := 1102) (by decide +kernel)
theorem kX10_takes_i : Cond.instanceMethod yX10_takes ∈ lw_tbl := List.mem_of_getElem? (i := 1100) (by decide +kernel)
theorem kX10_takes_s : Cond.selects RX10 yX10_takes yX10_takes ∈ lw_tbl := List.mem_of_getElem? (i := 1101) (by decide +kernel)
abbrev mX10_inVats : Mt := (yX10_inVats, cX10_inVats, 4, (some .int))
theorem kX10_inVats_c : Cond.code yX10_inVats cX10_inVats 4 (some .int) ∈ lw_tbl := List.mem_of_getElem? (i := 1110) (by decide +kernel)
theorem kX10_inVats_i : Cond.instanceMethod yX10_inVats ∈ lw_tbl := List.mem_of_getElem? (i := 1109) (by decide +kernel)
theorem kX10_inVats_s : Cond.selects RX10 yX10_inVats yX10_inVats ∈ lw_tbl := List.mem_of_getElem? (i := 44) (by decide +kernel)
abbrev mX10_inLots : Mt := (yX10_inLots, cX10_inLots, 5, (some .int))
theorem kX10_inLots_c : Cond.code yX10_inLots cX10_inLots 5 (some .int) ∈ lw_tbl := List.mem_of_getElem? (i := 1114) (by decide +kernel)
theorem kX10_inLots_i : Cond.instanceMethod yX10_inLots ∈ lw_tbl := List.mem_of_getElem? (i := 1113) (by decide +kernel)
theorem kX10_inLots_s : Cond.selects RX10 yX10_inLots yX10_inLots ∈ lw_tbl := List.mem_of_getElem? (i := 45) (by decide +kernel)
abbrev mX10_account : Mt := (yX10_account, cX10_account, 3, (some .int))
theorem kX10_account_c : Cond.code yX10_account cX10_account 3 (some .int) ∈ lw_tbl := List.mem_of_getElem? (i := 1106) (by decide +kernel)
theorem kX10_account_i : Cond.instanceMethod yX10_account ∈ lw_tbl := List.mem_of_getElem? (i := 1104) (by decide +kernel)
theorem kX10_account_s : Cond.selects RX10 yX10_account yX10_account ∈ lw_tbl := List.mem_of_getElem? (i := 1105) (by decide +kernel)
abbrev mX10_inHouse : Mt := (yX10_inHouse, cX10_inHouse, 3, (some .int))
theorem kX10_inHouse_c : Cond.code yX10_inHouse cX10_inHouse 3 (some .int) ∈ lw_tbl := List.mem_of_getElem? (i := 1122) (by decide +kernel)
theorem kX10_inHouse_i : Cond.instanceMethod yX10_inHouse ∈ lw_tbl := List.mem_of_getElem? (i := 1121) (by decide +kernel)
theorem kX10_inHouse_s : Cond.selects RX10 yX10_inHouse yX10_inHouse ∈ lw_tbl := List.mem_of_getElem? (i := 46) (by decide +kernel)
abbrev mX10_count : Mt := (yX10_count, cX10_count, 2, (some .int))
theorem kX10_count_c : Cond.code yX10_count cX10_count 2 (some .int) ∈ lw_tbl := List.mem_of_getElem? (i := 1118) (by decide +kernel)
theorem kX10_count_i : Cond.instanceMethod yX10_count ∈ lw_tbl := List.mem_of_getElem? (i := 1116) (by decide +kernel)
theorem kX10_count_s : Cond.selects RX10 yX10_count yX10_count ∈ lw_tbl := List.mem_of_getElem? (i := 1117) (by decide +kernel)
abbrev mX10_isSetting : Mt := (yX10_isSetting, cX10_isSetting, 2, (some .boolean))
theorem kX10_isSetting_c : Cond.code yX10_isSetting cX10_isSetting 2 (some .boolean) ∈ lw_tbl := List.mem_of_getElem? (i := 1129) (by decide +kernel)
theorem kX10_isSetting_t : Cond.static yX10_isSetting ∈ lw_tbl := List.mem_of_getElem? (i := 1128) (by decide +kernel)
abbrev mX10_set : Mt := (yX10_set, cX10_set, 4, (some .int))
theorem kX10_set_c : Cond.code yX10_set cX10_set 4 (some .int) ∈ lw_tbl := List.mem_of_getElem? (i := 1126) (by decide +kernel)
theorem kX10_set_i : Cond.instanceMethod yX10_set ∈ lw_tbl := List.mem_of_getElem? (i := 1124) (by decide +kernel)
theorem kX10_set_s : Cond.selects RX10 yX10_set yX10_set ∈ lw_tbl := List.mem_of_getElem? (i := 1125) (by decide +kernel)
abbrev mX10_type : Mt := (yX10_type, cX10_type, 2, (some .int))
theorem kX10_type_c : Cond.code yX10_type cX10_type 2 (some .int) ∈ lw_tbl := List.mem_of_getElem? (i := 1133) (by decide +kernel)
theorem kX10_type_i : Cond.instanceMethod yX10_type ∈ lw_tbl := List.mem_of_getElem? (i := 1131) (by decide +kernel)
theorem kX10_type_s : Cond.selects RX10 yX10_type yX10_type ∈ lw_tbl := List.mem_of_getElem? (i := 1132) (by decide +kernel)
abbrev mX10_clearText : Mt := (yX10_clearText, cX10_clearText, 2, (some .int))
theorem kX10_clearText_c : Cond.code yX10_clearText cX10_clearText 2 (some .int) ∈ lw_tbl := List.mem_of_getElem? (i := 1137) (by decide +kernel)
theorem kX10_clearText_i : Cond.instanceMethod yX10_clearText ∈ lw_tbl := List.mem_of_getElem? (i := 1135) (by decide +kernel)
theorem kX10_clearText_s : Cond.selects RX10 yX10_clearText yX10_clearText ∈ lw_tbl := List.mem_of_getElem? (i := 1136) (by decide +kernel)
abbrev mX10_here : Mt := (yX10_here, cX10_here, 1, (some .int))
theorem kX10_here_c : Cond.code yX10_here cX10_here 1 (some .int) ∈ lw_tbl := List.mem_of_getElem? (i := 1153) (by decide +kernel)
theorem kX10_here_i : Cond.instanceMethod yX10_here ∈ lw_tbl := List.mem_of_getElem? (i := 1152) (by decide +kernel)
theorem kX10_here_s : Cond.selects RX10 yX10_here yX10_here ∈ lw_tbl := List.mem_of_getElem? (i := 49) (by decide +kernel)
abbrev mX10_sign : Mt := (yX10_sign, cX10_sign, 2, none)
theorem kX10_sign_c : Cond.code yX10_sign cX10_sign 2 none ∈ lw_tbl := List.mem_of_getElem? (i := 1164) (by decide +kernel)
theorem kX10_sign_i : Cond.instanceMethod yX10_sign ∈ lw_tbl := List.mem_of_getElem? (i := 1163) (by decide +kernel)
theorem kX10_sign_s : Cond.selects RX10 yX10_sign yX10_sign ∈ lw_tbl := List.mem_of_getElem? (i := 51) (by decide +kernel)
abbrev mX10_number : Mt := (yX10_number, cX10_number, 3, (some .int))
theorem kX10_number_c : Cond.code yX10_number cX10_number 3 (some .int) ∈ lw_tbl := List.mem_of_getElem? (i := 1160) (by decide +kernel)
theorem kX10_number_i : Cond.instanceMethod yX10_number ∈ lw_tbl := List.mem_of_getElem? (i := 1159) (by decide +kernel)
theorem kX10_number_s : Cond.selects RX10 yX10_number yX10_number ∈ lw_tbl := List.mem_of_getElem? (i := 50) (by decide +kernel)
abbrev mX10_numbers : Mt := (yX10_numbers, cX10_numbers, 1, (some .int))
theorem kX10_numbers_c : Cond.code yX10_numbers cX10_numbers 1 (some .int) ∈ lw_tbl := List.mem_of_getElem? (i := 1156) (by decide +kernel)
theorem kX10_numbers_t : Cond.static yX10_numbers ∈ lw_tbl := List.mem_of_getElem? (i := 1155) (by decide +kernel)
abbrev mX10_reads : Mt := (yX10_reads, cX10_reads, 2, none)
theorem kX10_reads_c : Cond.code yX10_reads cX10_reads 2 none ∈ lw_tbl := List.mem_of_getElem? (i := 1149) (by decide +kernel)
theorem kX10_reads_i : Cond.instanceMethod yX10_reads ∈ lw_tbl := List.mem_of_getElem? (i := 1148) (by decide +kernel)
theorem kX10_reads_s : Cond.selects RX10 yX10_reads yX10_reads ∈ lw_tbl := List.mem_of_getElem? (i := 48) (by decide +kernel)
abbrev mX10_does : Mt := (yX10_does, cX10_does, 1, (some .int))
theorem kX10_does_c : Cond.code yX10_does cX10_does 1 (some .int) ∈ lw_tbl := List.mem_of_getElem? (i := 1168) (by decide +kernel)
theorem kX10_does_i : Cond.instanceMethod yX10_does ∈ lw_tbl := List.mem_of_getElem? (i := 1167) (by decide +kernel)
theorem kX10_does_s : Cond.selects RX10 yX10_does yX10_does ∈ lw_tbl := List.mem_of_getElem? (i := 52) (by decide +kernel)
abbrev mX10_plays : Mt := (yX10_plays, cX10_plays, 4, (some .int))
theorem kX10_plays_c : Cond.code yX10_plays cX10_plays 4 (some .int) ∈ lw_tbl := List.mem_of_getElem? (i := 1145) (by decide +kernel)
theorem kX10_plays_i : Cond.instanceMethod yX10_plays ∈ lw_tbl := List.mem_of_getElem? (i := 1144) (by decide +kernel)
theorem kX10_plays_s : Cond.selects RX10 yX10_plays yX10_plays ∈ lw_tbl := List.mem_of_getElem? (i := 47) (by decide +kernel)
abbrev mX10_fault : Mt := (yX10_fault, cX10_fault, 3, (some .int))
theorem kX10_fault_c : Cond.code yX10_fault cX10_fault 3 (some .int) ∈ lw_tbl := List.mem_of_getElem? (i := 1141) (by decide +kernel)
theorem kX10_fault_i : Cond.instanceMethod yX10_fault ∈ lw_tbl := List.mem_of_getElem? (i := 1139) (by decide +kernel)
theorem kX10_fault_s : Cond.selects RX10 yX10_fault yX10_fault ∈ lw_tbl := List.mem_of_getElem? (i := 1140) (by decide +kernel)
abbrev mX10_play : Mt := (yX10_play, cX10_play, 2, (some .int))
theorem kX10_play_c : Cond.code yX10_play cX10_play 2 (some .int) ∈ lw_tbl := List.mem_of_getElem? (i := 1172) (by decide +kernel)
theorem kX10_play_i : Cond.instanceMethod yX10_play ∈ lw_tbl := List.mem_of_getElem? (i := 1170) (by decide +kernel)
theorem kX10_play_s : Cond.selects RX10 yX10_play yX10_play ∈ lw_tbl := List.mem_of_getElem? (i := 1171) (by decide +kernel)
theorem kX0_n : Cond.initialized RX0 ∈ lw_tbl := List.mem_of_getElem? (i := 60) (by decide +kernel)
theorem kX1_n : Cond.initialized RX1 ∈ lw_tbl := List.mem_of_getElem? (i := 55) (by decide +kernel)
theorem kX2_n : Cond.initialized RX2 ∈ lw_tbl := List.mem_of_getElem? (i := 58) (by decide +kernel)
theorem kX3_n : Cond.initialized RX3 ∈ lw_tbl := List.mem_of_getElem? (i := 59) (by decide +kernel)
theorem kX4_n : Cond.initialized RX4 ∈ lw_tbl := List.mem_of_getElem? (i := 63) (by decide +kernel)
theorem kX5_n : Cond.initialized RX5 ∈ lw_tbl := List.mem_of_getElem? (i := 62) (by decide +kernel)
theorem kX6_n : Cond.initialized RX6 ∈ lw_tbl := List.mem_of_getElem? (i := 56) (by decide +kernel)
theorem kX7_n : Cond.initialized RX7 ∈ lw_tbl := List.mem_of_getElem? (i := 61) (by decide +kernel)
theorem kX8_n : Cond.initialized RX8 ∈ lw_tbl := List.mem_of_getElem? (i := 57) (by decide +kernel)
theorem kX9_n : Cond.initialized RX9 ∈ lw_tbl := List.mem_of_getElem? (i := 54) (by decide +kernel)
theorem kX10_n : Cond.initialized RX10 ∈ lw_tbl := List.mem_of_getElem? (i := 64) (by decide +kernel)
end
section
theorem fX6_15 : Cond.fieldLink RX6 15 "DarkVats$Settings" "FIRST" "[I" ∈ lw_tbl := List.mem_of_getElem? (i := 92) (by decide +kernel)
theorem fX6_9 : FLk RX6 9 6 0 "[I" true := ⟨_, rfl, by decide, rfl, List.mem_of_getElem? (i := 94) (by decide +kernel)⟩
theorem fX8_7 : FLk RX8 7 8 0 "I" false := ⟨_, rfl, by decide, rfl, List.mem_of_getElem? (i := 104) (by decide +kernel)⟩
theorem fX9_69 : FLk RX9 69 8 0 "I" false := ⟨_, rfl, by decide, rfl, List.mem_of_getElem? (i := 105) (by decide +kernel)⟩
theorem fX2_78 : FLk RX2 78 8 0 "I" false := ⟨_, rfl, by decide, rfl, List.mem_of_getElem? (i := 106) (by decide +kernel)⟩
theorem fX1_96 : FLk RX1 96 8 0 "I" false := ⟨_, rfl, by decide, rfl, List.mem_of_getElem? (i := 107) (by decide +kernel)⟩
theorem fX8_13 : FLk RX8 13 8 1 "I" false := ⟨_, rfl, by decide, rfl, List.mem_of_getElem? (i := 108) (by decide +kernel)⟩
theorem fX9_75 : FLk RX9 75 8 1 "I" false := ⟨_, rfl, by decide, rfl, List.mem_of_getElem? (i := 109) (by decide +kernel)⟩
theorem fX2_67 : FLk RX2 67 8 1 "I" false := ⟨_, rfl, by decide, rfl, List.mem_of_getElem? (i := 110) (by decide +kernel)⟩
theorem fX1_99 : FLk RX1 99 8 1 "I" false := ⟨_, rfl, by decide, rfl, List.mem_of_getElem? (i := 111) (by decide +kernel)⟩
theorem fX8_16 : FLk RX8 16 8 2 "I" false := ⟨_, rfl, by decide, rfl, List.mem_of_getElem? (i := 112) (by decide +kernel)⟩
theorem fX9_78 : FLk RX9 78 8 2 "I" false := ⟨_, rfl, by decide, rfl, List.mem_of_getElem? (i := 113) (by decide +kernel)⟩
theorem fX4_58 : FLk RX4 58 8 2 "I" false := ⟨_, rfl, by decide, rfl, List.mem_of_getElem? (i := 114) (by decide +kernel)⟩
theorem fX2_62 : FLk RX2 62 8 2 "I" false := ⟨_, rfl, by decide, rfl, List.mem_of_getElem? (i := 115) (by decide +kernel)⟩
theorem fX1_112 : FLk RX1 112 8 2 "I" false := ⟨_, rfl, by decide, rfl, List.mem_of_getElem? (i := 116) (by decide +kernel)⟩
theorem fX8_19 : FLk RX8 19 8 3 "I" false := ⟨_, rfl, by decide, rfl, List.mem_of_getElem? (i := 117) (by decide +kernel)⟩
theorem fX9_81 : FLk RX9 81 8 3 "I" false := ⟨_, rfl, by decide, rfl, List.mem_of_getElem? (i := 118) (by decide +kernel)⟩
theorem fX4_63 : FLk RX4 63 8 3 "I" false := ⟨_, rfl, by decide, rfl, List.mem_of_getElem? (i := 119) (by decide +kernel)⟩
theorem fX2_85 : FLk RX2 85 8 3 "I" false := ⟨_, rfl, by decide, rfl, List.mem_of_getElem? (i := 120) (by decide +kernel)⟩
theorem fX1_115 : FLk RX1 115 8 3 "I" false := ⟨_, rfl, by decide, rfl, List.mem_of_getElem? (i := 121) (by decide +kernel)⟩
theorem fX2_22 : FLk RX2 22 2 0 "I" false := ⟨_, rfl, by decide, rfl, List.mem_of_getElem? (i := 136) (by decide +kernel)⟩
theorem fX1_122 : FLk RX1 122 2 0 "I" false := ⟨_, rfl, by decide, rfl, List.mem_of_getElem? (i := 137) (by decide +kernel)⟩
theorem fX9_121 : FLk RX9 121 2 0 "I" false := ⟨_, rfl, by decide, rfl, List.mem_of_getElem? (i := 138) (by decide +kernel)⟩
theorem fX2_25 : FLk RX2 25 2 1 "I" false := ⟨_, rfl, by decide, rfl, List.mem_of_getElem? (i := 139) (by decide +kernel)⟩
theorem fX1_125 : FLk RX1 125 2 1 "I" false := ⟨_, rfl, by decide, rfl, List.mem_of_getElem? (i := 140) (by decide +kernel)⟩
theorem fX9_126 : FLk RX9 126 2 1 "I" false := ⟨_, rfl, by decide, rfl, List.mem_of_getElem? (i := 141) (by decide +kernel)⟩
theorem fX2_28 : FLk RX2 28 2 2 "Z" false := ⟨_, rfl, by decide, rfl, List.mem_of_getElem? (i := 142) (by decide +kernel)⟩
theorem fX9_144 : FLk RX9 144 2 2 "Z" false := ⟨_, rfl, by decide, rfl, List.mem_of_getElem? (i := 143) (by decide +kernel)⟩
theorem fX1_132 : FLk RX1 132 2 2 "Z" false := ⟨_, rfl, by decide, rfl, List.mem_of_getElem? (i := 144) (by decide +kernel)⟩
theorem fX2_32 : FLk RX2 32 2 3 "Z" false := ⟨_, rfl, by decide, rfl, List.mem_of_getElem? (i := 145) (by decide +kernel)⟩
theorem fX3_31 : FLk RX3 31 2 3 "Z" false := ⟨_, rfl, by decide, rfl, List.mem_of_getElem? (i := 146) (by decide +kernel)⟩
theorem fX9_148 : FLk RX9 148 2 3 "Z" false := ⟨_, rfl, by decide, rfl, List.mem_of_getElem? (i := 147) (by decide +kernel)⟩
theorem fX1_216 : FLk RX1 216 2 3 "Z" false := ⟨_, rfl, by decide, rfl, List.mem_of_getElem? (i := 148) (by decide +kernel)⟩
theorem fX2_35 : FLk RX2 35 2 4 "Z" false := ⟨_, rfl, by decide, rfl, List.mem_of_getElem? (i := 149) (by decide +kernel)⟩
theorem fX9_151 : FLk RX9 151 2 4 "Z" false := ⟨_, rfl, by decide, rfl, List.mem_of_getElem? (i := 150) (by decide +kernel)⟩
theorem fX1_219 : FLk RX1 219 2 4 "Z" false := ⟨_, rfl, by decide, rfl, List.mem_of_getElem? (i := 151) (by decide +kernel)⟩
theorem fX2_11 : FLk RX2 11 2 5 "I" false := ⟨_, rfl, by decide, rfl, List.mem_of_getElem? (i := 152) (by decide +kernel)⟩
theorem fX9_158 : FLk RX9 158 2 5 "I" false := ⟨_, rfl, by decide, rfl, List.mem_of_getElem? (i := 153) (by decide +kernel)⟩
theorem fX1_176 : FLk RX1 176 2 5 "I" false := ⟨_, rfl, by decide, rfl, List.mem_of_getElem? (i := 154) (by decide +kernel)⟩
theorem fX2_38 : FLk RX2 38 2 6 "I" false := ⟨_, rfl, by decide, rfl, List.mem_of_getElem? (i := 155) (by decide +kernel)⟩
theorem fX9_161 : FLk RX9 161 2 6 "I" false := ⟨_, rfl, by decide, rfl, List.mem_of_getElem? (i := 156) (by decide +kernel)⟩
theorem fX2_15 : FLk RX2 15 2 7 "[I" true := ⟨_, rfl, by decide, rfl, List.mem_of_getElem? (i := 157) (by decide +kernel)⟩
theorem fX9_133 : FLk RX9 133 2 7 "[I" true := ⟨_, rfl, by decide, rfl, List.mem_of_getElem? (i := 158) (by decide +kernel)⟩
theorem fX1_222 : FLk RX1 222 2 7 "[I" true := ⟨_, rfl, by decide, rfl, List.mem_of_getElem? (i := 159) (by decide +kernel)⟩
theorem fX2_19 : FLk RX2 19 2 8 "[I" true := ⟨_, rfl, by decide, rfl, List.mem_of_getElem? (i := 160) (by decide +kernel)⟩
theorem fX9_141 : FLk RX9 141 2 8 "[I" true := ⟨_, rfl, by decide, rfl, List.mem_of_getElem? (i := 161) (by decide +kernel)⟩
theorem fX1_140 : FLk RX1 140 2 8 "[I" true := ⟨_, rfl, by decide, rfl, List.mem_of_getElem? (i := 162) (by decide +kernel)⟩
theorem fX3_9 : FLk RX3 9 3 0 "[I" true := ⟨_, rfl, by decide, rfl, List.mem_of_getElem? (i := 187) (by decide +kernel)⟩
theorem fX3_19 : FLk RX3 19 3 1 "Z" false := ⟨_, rfl, by decide, rfl, List.mem_of_getElem? (i := 188) (by decide +kernel)⟩
theorem fX9_198 : FLk RX9 198 3 1 "Z" false := ⟨_, rfl, by decide, rfl, List.mem_of_getElem? (i := 189) (by decide +kernel)⟩
theorem fX1_169 : FLk RX1 169 3 1 "Z" false := ⟨_, rfl, by decide, rfl, List.mem_of_getElem? (i := 190) (by decide +kernel)⟩
theorem fX1_11 : FLk RX1 11 1 0 "[LDarkVats$Vat;" true := ⟨_, rfl, by decide, rfl, List.mem_of_getElem? (i := 196) (by decide +kernel)⟩
theorem fX1_19 : FLk RX1 19 1 1 "[LDarkVats$Lot;" true := ⟨_, rfl, by decide, rfl, List.mem_of_getElem? (i := 197) (by decide +kernel)⟩
theorem fX1_25 : FLk RX1 25 1 2 "[LDarkVats$Order;" true := ⟨_, rfl, by decide, rfl, List.mem_of_getElem? (i := 198) (by decide +kernel)⟩
theorem fX1_46 : FLk RX1 46 1 3 "I" false := ⟨_, rfl, by decide, rfl, List.mem_of_getElem? (i := 199) (by decide +kernel)⟩
theorem fX4_50 : FLk RX4 50 1 3 "I" false := ⟨_, rfl, by decide, rfl, List.mem_of_getElem? (i := 200) (by decide +kernel)⟩
theorem fX9_96 : FLk RX9 96 1 3 "I" false := ⟨_, rfl, by decide, rfl, List.mem_of_getElem? (i := 201) (by decide +kernel)⟩
theorem fX1_50 : FLk RX1 50 1 4 "I" false := ⟨_, rfl, by decide, rfl, List.mem_of_getElem? (i := 202) (by decide +kernel)⟩
theorem fX9_179 : FLk RX9 179 1 4 "I" false := ⟨_, rfl, by decide, rfl, List.mem_of_getElem? (i := 203) (by decide +kernel)⟩
theorem fX1_53 : FLk RX1 53 1 5 "I" false := ⟨_, rfl, by decide, rfl, List.mem_of_getElem? (i := 204) (by decide +kernel)⟩
theorem fX9_261 : FLk RX9 261 1 5 "I" false := ⟨_, rfl, by decide, rfl, List.mem_of_getElem? (i := 205) (by decide +kernel)⟩
theorem fX1_56 : FLk RX1 56 1 6 "I" false := ⟨_, rfl, by decide, rfl, List.mem_of_getElem? (i := 206) (by decide +kernel)⟩
theorem fX9_267 : FLk RX9 267 1 6 "I" false := ⟨_, rfl, by decide, rfl, List.mem_of_getElem? (i := 207) (by decide +kernel)⟩
theorem fX1_29 : FLk RX1 29 1 7 "[I" true := ⟨_, rfl, by decide, rfl, List.mem_of_getElem? (i := 208) (by decide +kernel)⟩
theorem fX9_233 : FLk RX9 233 1 7 "[I" true := ⟨_, rfl, by decide, rfl, List.mem_of_getElem? (i := 209) (by decide +kernel)⟩
theorem fX1_33 : FLk RX1 33 1 8 "[I" true := ⟨_, rfl, by decide, rfl, List.mem_of_getElem? (i := 210) (by decide +kernel)⟩
theorem fX9_252 : FLk RX9 252 1 8 "[I" true := ⟨_, rfl, by decide, rfl, List.mem_of_getElem? (i := 211) (by decide +kernel)⟩
theorem fX1_39 : FLk RX1 39 1 9 "LDarkVats$Settings;" true := ⟨_, rfl, by decide, rfl, List.mem_of_getElem? (i := 212) (by decide +kernel)⟩
theorem fX4_38 : FLk RX4 38 1 9 "LDarkVats$Settings;" true := ⟨_, rfl, by decide, rfl, List.mem_of_getElem? (i := 213) (by decide +kernel)⟩
theorem fX9_84 : FLk RX9 84 1 9 "LDarkVats$Settings;" true := ⟨_, rfl, by decide, rfl, List.mem_of_getElem? (i := 214) (by decide +kernel)⟩
theorem fX0_13 : FLk RX0 13 0 0 "[LDarkVats$House;" true := ⟨_, rfl, by decide, rfl, List.mem_of_getElem? (i := 245) (by decide +kernel)⟩
theorem fX0_18 : FLk RX0 18 0 1 "I" false := ⟨_, rfl, by decide, rfl, List.mem_of_getElem? (i := 246) (by decide +kernel)⟩
theorem fX9_268 : FLk RX9 268 0 1 "I" false := ⟨_, rfl, by decide, rfl, List.mem_of_getElem? (i := 247) (by decide +kernel)⟩
theorem fX7_11 : FLk RX7 11 7 0 "[C" true := ⟨_, rfl, by decide, rfl, List.mem_of_getElem? (i := 259) (by decide +kernel)⟩
theorem fX7_15 : FLk RX7 15 7 1 "I" false := ⟨_, rfl, by decide, rfl, List.mem_of_getElem? (i := 260) (by decide +kernel)⟩
theorem fX5_21 : FLk RX5 21 7 1 "I" false := ⟨_, rfl, by decide, rfl, List.mem_of_getElem? (i := 261) (by decide +kernel)⟩
theorem fX9_271 : FLk RX9 271 7 1 "I" false := ⟨_, rfl, by decide, rfl, List.mem_of_getElem? (i := 262) (by decide +kernel)⟩
theorem fX5_13 : FLk RX5 13 5 0 "I" false := ⟨_, rfl, by decide, rfl, List.mem_of_getElem? (i := 275) (by decide +kernel)⟩
theorem fX9_303 : FLk RX9 303 5 0 "I" false := ⟨_, rfl, by decide, rfl, List.mem_of_getElem? (i := 276) (by decide +kernel)⟩
theorem fX5_48 : FLk RX5 48 5 1 "I" false := ⟨_, rfl, by decide, rfl, List.mem_of_getElem? (i := 277) (by decide +kernel)⟩
theorem fX9_294 : FLk RX9 294 5 1 "I" false := ⟨_, rfl, by decide, rfl, List.mem_of_getElem? (i := 278) (by decide +kernel)⟩
theorem fX5_7 : FLk RX5 7 5 2 "I" false := ⟨_, rfl, by decide, rfl, List.mem_of_getElem? (i := 279) (by decide +kernel)⟩
theorem fX9_297 : FLk RX9 297 5 2 "I" false := ⟨_, rfl, by decide, rfl, List.mem_of_getElem? (i := 280) (by decide +kernel)⟩
theorem fX5_51 : FLk RX5 51 5 3 "I" false := ⟨_, rfl, by decide, rfl, List.mem_of_getElem? (i := 281) (by decide +kernel)⟩
theorem fX9_300 : FLk RX9 300 5 3 "I" false := ⟨_, rfl, by decide, rfl, List.mem_of_getElem? (i := 282) (by decide +kernel)⟩
theorem fX5_16 : FLk RX5 16 5 4 "I" false := ⟨_, rfl, by decide, rfl, List.mem_of_getElem? (i := 283) (by decide +kernel)⟩
theorem fX5_32 : FLk RX5 32 5 5 "C" false := ⟨_, rfl, by decide, rfl, List.mem_of_getElem? (i := 284) (by decide +kernel)⟩
theorem fX5_36 : FLk RX5 36 5 6 "I" false := ⟨_, rfl, by decide, rfl, List.mem_of_getElem? (i := 285) (by decide +kernel)⟩
theorem fX5_39 : FLk RX5 39 5 7 "I" false := ⟨_, rfl, by decide, rfl, List.mem_of_getElem? (i := 286) (by decide +kernel)⟩
theorem fX4_11 : FLk RX4 11 4 0 "[LDarkVats$Lot;" true := ⟨_, rfl, by decide, rfl, List.mem_of_getElem? (i := 312) (by decide +kernel)⟩
theorem fX4_15 : FLk RX4 15 4 1 "[I" true := ⟨_, rfl, by decide, rfl, List.mem_of_getElem? (i := 313) (by decide +kernel)⟩
theorem fX9_10 : FLk RX9 10 9 0 "LDarkVats$House;" true := ⟨_, rfl, by decide, rfl, List.mem_of_getElem? (i := 319) (by decide +kernel)⟩
theorem fX9_16 : FLk RX9 16 9 1 "LDarkVats$House;" true := ⟨_, rfl, by decide, rfl, List.mem_of_getElem? (i := 320) (by decide +kernel)⟩
theorem fX9_22 : FLk RX9 22 9 2 "LDarkVats$History;" true := ⟨_, rfl, by decide, rfl, List.mem_of_getElem? (i := 321) (by decide +kernel)⟩
theorem fX9_29 : FLk RX9 29 9 3 "LDarkVats$Text;" true := ⟨_, rfl, by decide, rfl, List.mem_of_getElem? (i := 322) (by decide +kernel)⟩
theorem fX9_36 : FLk RX9 36 9 4 "LDarkVats$Script;" true := ⟨_, rfl, by decide, rfl, List.mem_of_getElem? (i := 323) (by decide +kernel)⟩
theorem fX9_43 : FLk RX9 43 9 5 "LDarkVats$Planner;" true := ⟨_, rfl, by decide, rfl, List.mem_of_getElem? (i := 324) (by decide +kernel)⟩
theorem fX6_22 : Cond.fieldLink RX6 22 "DarkVats$Settings" "LEAST" "[I" ∈ lw_tbl := List.mem_of_getElem? (i := 733) (by decide +kernel)
theorem fX6_29 : Cond.fieldLink RX6 29 "DarkVats$Settings" "MOST" "[I" ∈ lw_tbl := List.mem_of_getElem? (i := 736) (by decide +kernel)
theorem fX10_7 : FLk RX10 7 10 0 "[I" true := ⟨_, rfl, by decide, rfl, List.mem_of_getElem? (i := 817) (by decide +kernel)⟩
theorem fX10_13 : FLk RX10 13 10 1 "[I" true := ⟨_, rfl, by decide, rfl, List.mem_of_getElem? (i := 818) (by decide +kernel)⟩
theorem fX10_39 : FLk RX10 39 10 2 "I" false := ⟨_, rfl, by decide, rfl, List.mem_of_getElem? (i := 819) (by decide +kernel)⟩
theorem fX10_16 : FLk RX10 16 10 3 "[I" true := ⟨_, rfl, by decide, rfl, List.mem_of_getElem? (i := 820) (by decide +kernel)⟩
theorem fX10_19 : FLk RX10 19 10 4 "[I" true := ⟨_, rfl, by decide, rfl, List.mem_of_getElem? (i := 821) (by decide +kernel)⟩
theorem fX10_179 : FLk RX10 179 10 5 "I" false := ⟨_, rfl, by decide, rfl, List.mem_of_getElem? (i := 822) (by decide +kernel)⟩
theorem fX10_22 : FLk RX10 22 10 6 "[I" true := ⟨_, rfl, by decide, rfl, List.mem_of_getElem? (i := 823) (by decide +kernel)⟩
theorem fX10_185 : FLk RX10 185 10 7 "I" false := ⟨_, rfl, by decide, rfl, List.mem_of_getElem? (i := 824) (by decide +kernel)⟩
theorem fX10_195 : FLk RX10 195 10 8 "I" false := ⟨_, rfl, by decide, rfl, List.mem_of_getElem? (i := 825) (by decide +kernel)⟩
theorem fX10_25 : FLk RX10 25 10 9 "[I" true := ⟨_, rfl, by decide, rfl, List.mem_of_getElem? (i := 826) (by decide +kernel)⟩
theorem fX10_188 : FLk RX10 188 10 10 "Z" false := ⟨_, rfl, by decide, rfl, List.mem_of_getElem? (i := 827) (by decide +kernel)⟩
theorem fX10_28 : FLk RX10 28 10 11 "[I" true := ⟨_, rfl, by decide, rfl, List.mem_of_getElem? (i := 828) (by decide +kernel)⟩
theorem lL_9 : Cond.methodLink "DarkVatsLaw" 9 yX9_init ∈ lw_tbl := List.mem_of_getElem? (i := 68) (by decide +kernel)
theorem lX9_1 : Cond.methodLink RX9 1 objectInit ∈ lw_tbl := List.mem_of_getElem? (i := 71) (by decide +kernel)
theorem lX9_9 : Cond.methodLink RX9 9 yX1_init ∈ lw_tbl := List.mem_of_getElem? (i := 76) (by decide +kernel)
theorem lX1_3 : Cond.methodLink RX1 3 objectInit ∈ lw_tbl := List.mem_of_getElem? (i := 79) (by decide +kernel)
theorem lX1_38 : Cond.methodLink RX1 38 yX6_init ∈ lw_tbl := List.mem_of_getElem? (i := 88) (by decide +kernel)
theorem lX6_3 : Cond.methodLink RX6 3 objectInit ∈ lw_tbl := List.mem_of_getElem? (i := 91) (by decide +kernel)
theorem lX8_1 : Cond.methodLink RX8 1 objectInit ∈ lw_tbl := List.mem_of_getElem? (i := 103) (by decide +kernel)
theorem lX2_3 : Cond.methodLink RX2 3 objectInit ∈ lw_tbl := List.mem_of_getElem? (i := 135) (by decide +kernel)
theorem lX3_3 : Cond.methodLink RX3 3 objectInit ∈ lw_tbl := List.mem_of_getElem? (i := 186) (by decide +kernel)
theorem lX9_21 : Cond.methodLink RX9 21 yX0_init ∈ lw_tbl := List.mem_of_getElem? (i := 238) (by decide +kernel)
theorem lX0_3 : Cond.methodLink RX0 3 objectInit ∈ lw_tbl := List.mem_of_getElem? (i := 241) (by decide +kernel)
theorem lX0_17 : Cond.methodLink RX0 17 yX1_init ∈ lw_tbl := List.mem_of_getElem? (i := 244) (by decide +kernel)
theorem lX7_3 : Cond.methodLink RX7 3 objectInit ∈ lw_tbl := List.mem_of_getElem? (i := 258) (by decide +kernel)
theorem lX5_1 : Cond.methodLink RX5 1 objectInit ∈ lw_tbl := List.mem_of_getElem? (i := 274) (by decide +kernel)
theorem lX9_42 : Cond.methodLink RX9 42 yX4_init ∈ lw_tbl := List.mem_of_getElem? (i := 306) (by decide +kernel)
theorem lX4_1 : Cond.methodLink RX4 1 objectInit ∈ lw_tbl := List.mem_of_getElem? (i := 309) (by decide +kernel)
theorem lL_13 : Cond.methodLink "DarkVatsLaw" 13 yX9_vat ∈ lw_tbl := List.mem_of_getElem? (i := 338) (by decide +kernel)
theorem lX9_47 : Cond.methodLink RX9 47 yX0_noteState ∈ lw_tbl := List.mem_of_getElem? (i := 342) (by decide +kernel)
theorem lX0_22 : Cond.methodLink RX0 22 yX0_stateAt ∈ lw_tbl := List.mem_of_getElem? (i := 346) (by decide +kernel)
theorem lX0_26 : Cond.methodLink RX0 26 yX1_copyFrom ∈ lw_tbl := List.mem_of_getElem? (i := 350) (by decide +kernel)
theorem lX1_63 : Cond.methodLink RX1 63 yX6_copyFrom ∈ lw_tbl := List.mem_of_getElem? (i := 357) (by decide +kernel)
theorem lX1_67 : Cond.methodLink RX1 67 yX1_copyVats ∈ lw_tbl := List.mem_of_getElem? (i := 362) (by decide +kernel)
theorem lX1_79 : Cond.methodLink RX1 79 yX8_copyFrom ∈ lw_tbl := List.mem_of_getElem? (i := 366) (by decide +kernel)
theorem lX1_71 : Cond.methodLink RX1 71 yX1_copyLots ∈ lw_tbl := List.mem_of_getElem? (i := 370) (by decide +kernel)
theorem lX1_82 : Cond.methodLink RX1 82 yX2_copyFrom ∈ lw_tbl := List.mem_of_getElem? (i := 374) (by decide +kernel)
theorem lX1_75 : Cond.methodLink RX1 75 yX1_copyOrders ∈ lw_tbl := List.mem_of_getElem? (i := 379) (by decide +kernel)
theorem lX1_85 : Cond.methodLink RX1 85 yX3_copyFrom ∈ lw_tbl := List.mem_of_getElem? (i := 383) (by decide +kernel)
theorem lX9_51 : Cond.methodLink RX9 51 yX1_addVat ∈ lw_tbl := List.mem_of_getElem? (i := 388) (by decide +kernel)
theorem lX1_92 : Cond.methodLink RX1 92 yX1_findVat ∈ lw_tbl := List.mem_of_getElem? (i := 395) (by decide +kernel)
theorem lX9_55 : Cond.methodLink RX9 55 yX0_keepNoted ∈ lw_tbl := List.mem_of_getElem? (i := 399) (by decide +kernel)
theorem lX0_30 : Cond.methodLink RX0 30 yX0_dropOldest ∈ lw_tbl := List.mem_of_getElem? (i := 403) (by decide +kernel)
theorem lL_18 : Cond.methodLink "DarkVatsLaw" 18 yX9_weigh ∈ lw_tbl := List.mem_of_getElem? (i := 407) (by decide +kernel)
theorem lX9_59 : Cond.methodLink RX9 59 yX1_weighInto ∈ lw_tbl := List.mem_of_getElem? (i := 411) (by decide +kernel)
theorem lL_22 : Cond.methodLink "DarkVatsLaw" 22 yX9_drain ∈ lw_tbl := List.mem_of_getElem? (i := 423) (by decide +kernel)
theorem lX9_62 : Cond.methodLink RX9 62 yX1_drainVat ∈ lw_tbl := List.mem_of_getElem? (i := 427) (by decide +kernel)
theorem lL_27 : Cond.methodLink "DarkVatsLaw" 27 yX9_vatOf ∈ lw_tbl := List.mem_of_getElem? (i := 431) (by decide +kernel)
theorem lX9_65 : Cond.methodLink RX9 65 yX1_findVat ∈ lw_tbl := List.mem_of_getElem? (i := 435) (by decide +kernel)
theorem lX9_88 : Cond.methodLink RX9 88 yX8_spoils ∈ lw_tbl := List.mem_of_getElem? (i := 436) (by decide +kernel)
theorem lX8_24 : Cond.methodLink RX8 24 yX6_valueOf ∈ lw_tbl := List.mem_of_getElem? (i := 440) (by decide +kernel)
theorem lX9_92 : Cond.methodLink RX9 92 yX9_oneIf ∈ lw_tbl := List.mem_of_getElem? (i := 444) (by decide +kernel)
theorem lL_31 : Cond.methodLink "DarkVatsLaw" 31 yX9_vatAt ∈ lw_tbl := List.mem_of_getElem? (i := 447) (by decide +kernel)
theorem lX9_99 : Cond.methodLink RX9 99 yX1_vatsAheadOf ∈ lw_tbl := List.mem_of_getElem? (i := 451) (by decide +kernel)
theorem lX1_198 : Cond.methodLink RX1 198 yX8_isAheadOfLater ∈ lw_tbl := List.mem_of_getElem? (i := 455) (by decide +kernel)
theorem lX8_28 : Cond.methodLink RX8 28 yX8_strength ∈ lw_tbl := List.mem_of_getElem? (i := 459) (by decide +kernel)
theorem lL_35 : Cond.methodLink "DarkVatsLaw" 35 yX9_lot ∈ lw_tbl := List.mem_of_getElem? (i := 463) (by decide +kernel)
theorem lX9_102 : Cond.methodLink RX9 102 yX1_addLot ∈ lw_tbl := List.mem_of_getElem? (i := 467) (by decide +kernel)
theorem lX1_118 : Cond.methodLink RX1 118 yX1_findLot ∈ lw_tbl := List.mem_of_getElem? (i := 471) (by decide +kernel)
theorem lL_39 : Cond.methodLink "DarkVatsLaw" 39 yX9_dip ∈ lw_tbl := List.mem_of_getElem? (i := 475) (by decide +kernel)
theorem lX9_105 : Cond.methodLink RX9 105 yX1_dipLot ∈ lw_tbl := List.mem_of_getElem? (i := 479) (by decide +kernel)
theorem lX1_128 : Cond.methodLink RX1 128 yX2_isSold ∈ lw_tbl := List.mem_of_getElem? (i := 483) (by decide +kernel)
theorem lX1_136 : Cond.methodLink RX1 136 yX2_soakIn ∈ lw_tbl := List.mem_of_getElem? (i := 487) (by decide +kernel)
theorem lX2_70 : Cond.methodLink RX2 70 yX2_grainsTaken ∈ lw_tbl := List.mem_of_getElem? (i := 491) (by decide +kernel)
theorem lX2_59 : Cond.methodLink RX2 59 yX6_valueOf ∈ lw_tbl := List.mem_of_getElem? (i := 496) (by decide +kernel)
theorem lX2_74 : Cond.methodLink RX2 74 yX8_spoils ∈ lw_tbl := List.mem_of_getElem? (i := 497) (by decide +kernel)
theorem lX2_88 : Cond.methodLink RX2 88 yX2_depth ∈ lw_tbl := List.mem_of_getElem? (i := 499) (by decide +kernel)
theorem lX2_92 : Cond.methodLink RX2 92 yX2_shadeOf ∈ lw_tbl := List.mem_of_getElem? (i := 507) (by decide +kernel)
theorem lX2_47 : Cond.methodLink RX2 47 yX2_grainsOf ∈ lw_tbl := List.mem_of_getElem? (i := 511) (by decide +kernel)
theorem lL_43 : Cond.methodLink "DarkVatsLaw" 43 yX9_rinse ∈ lw_tbl := List.mem_of_getElem? (i := 515) (by decide +kernel)
theorem lX9_108 : Cond.methodLink RX9 108 yX1_rinseLot ∈ lw_tbl := List.mem_of_getElem? (i := 519) (by decide +kernel)
theorem lL_47 : Cond.methodLink "DarkVatsLaw" 47 yX9_hang ∈ lw_tbl := List.mem_of_getElem? (i := 527) (by decide +kernel)
theorem lX9_111 : Cond.methodLink RX9 111 yX1_hangLot ∈ lw_tbl := List.mem_of_getElem? (i := 531) (by decide +kernel)
theorem lX1_150 : Cond.methodLink RX1 150 yX1_lotsOnRack ∈ lw_tbl := List.mem_of_getElem? (i := 535) (by decide +kernel)
theorem lL_51 : Cond.methodLink "DarkVatsLaw" 51 yX9_take ∈ lw_tbl := List.mem_of_getElem? (i := 539) (by decide +kernel)
theorem lX9_114 : Cond.methodLink RX9 114 yX1_takeDown ∈ lw_tbl := List.mem_of_getElem? (i := 543) (by decide +kernel)
theorem lL_55 : Cond.methodLink "DarkVatsLaw" 55 yX9_lotOf ∈ lw_tbl := List.mem_of_getElem? (i := 547) (by decide +kernel)
theorem lX9_117 : Cond.methodLink RX9 117 yX1_findLot ∈ lw_tbl := List.mem_of_getElem? (i := 551) (by decide +kernel)
theorem lX9_129 : Cond.methodLink RX9 129 yX2_depth ∈ lw_tbl := List.mem_of_getElem? (i := 552) (by decide +kernel)
theorem lX9_137 : Cond.methodLink RX9 137 yX9_sumOf ∈ lw_tbl := List.mem_of_getElem? (i := 553) (by decide +kernel)
theorem lX9_154 : Cond.methodLink RX9 154 yX2_isSold ∈ lw_tbl := List.mem_of_getElem? (i := 554) (by decide +kernel)
theorem lL_59 : Cond.methodLink "DarkVatsLaw" 59 yX9_shade ∈ lw_tbl := List.mem_of_getElem? (i := 555) (by decide +kernel)
theorem lX9_164 : Cond.methodLink RX9 164 yX9_isDye ∈ lw_tbl := List.mem_of_getElem? (i := 559) (by decide +kernel)
theorem lX9_168 : Cond.methodLink RX9 168 yX2_shadeOf ∈ lw_tbl := List.mem_of_getElem? (i := 560) (by decide +kernel)
theorem lL_63 : Cond.methodLink "DarkVatsLaw" 63 yX9_shadeBits ∈ lw_tbl := List.mem_of_getElem? (i := 561) (by decide +kernel)
theorem lX9_171 : Cond.methodLink RX9 171 yX2_floatShade ∈ lw_tbl := List.mem_of_getElem? (i := 565) (by decide +kernel)
theorem lX9_175 : Cond.methodLink RX9 175 yX9_bitsOf ∈ lw_tbl := List.mem_of_getElem? (i := 569) (by decide +kernel)
theorem lL_67 : Cond.methodLink "DarkVatsLaw" 67 yX9_meanBits ∈ lw_tbl := List.mem_of_getElem? (i := 573) (by decide +kernel)
theorem lL_71 : Cond.methodLink "DarkVatsLaw" 71 yX9_order ∈ lw_tbl := List.mem_of_getElem? (i := 577) (by decide +kernel)
theorem lX9_182 : Cond.methodLink RX9 182 yX1_addOrder ∈ lw_tbl := List.mem_of_getElem? (i := 581) (by decide +kernel)
theorem lX1_154 : Cond.methodLink RX1 154 yX1_isAskable ∈ lw_tbl := List.mem_of_getElem? (i := 585) (by decide +kernel)
theorem lX1_157 : Cond.methodLink RX1 157 yX1_openOrders ∈ lw_tbl := List.mem_of_getElem? (i := 588) (by decide +kernel)
theorem lX1_161 : Cond.methodLink RX1 161 yX1_findOrder ∈ lw_tbl := List.mem_of_getElem? (i := 592) (by decide +kernel)
theorem lX1_165 : Cond.methodLink RX1 165 yX3_ask ∈ lw_tbl := List.mem_of_getElem? (i := 596) (by decide +kernel)
theorem lL_76 : Cond.methodLink "DarkVatsLaw" 76 yX9_sell ∈ lw_tbl := List.mem_of_getElem? (i := 601) (by decide +kernel)
theorem lX9_186 : Cond.methodLink RX9 186 yX1_sellLot ∈ lw_tbl := List.mem_of_getElem? (i := 605) (by decide +kernel)
theorem lX1_172 : Cond.methodLink RX1 172 yX3_isFittedBy ∈ lw_tbl := List.mem_of_getElem? (i := 609) (by decide +kernel)
theorem lX3_38 : Cond.methodLink RX3 38 yX6_valueOf ∈ lw_tbl := List.mem_of_getElem? (i := 613) (by decide +kernel)
theorem lX3_42 : Cond.methodLink RX3 42 yX2_shadeOf ∈ lw_tbl := List.mem_of_getElem? (i := 614) (by decide +kernel)
theorem lX3_45 : Cond.methodLink RX3 45 yX3_shadeFor ∈ lw_tbl := List.mem_of_getElem? (i := 615) (by decide +kernel)
theorem lL_80 : Cond.methodLink "DarkVatsLaw" 80 yX9_orderOf ∈ lw_tbl := List.mem_of_getElem? (i := 623) (by decide +kernel)
theorem lX9_189 : Cond.methodLink RX9 189 yX1_findOrder ∈ lw_tbl := List.mem_of_getElem? (i := 627) (by decide +kernel)
theorem lX9_193 : Cond.methodLink RX9 193 yX3_shadeFor ∈ lw_tbl := List.mem_of_getElem? (i := 628) (by decide +kernel)
theorem lX9_201 : Cond.methodLink RX9 201 yX1_lotsThatFit ∈ lw_tbl := List.mem_of_getElem? (i := 629) (by decide +kernel)
theorem lX9_205 : Cond.methodLink RX9 205 yX1_nearestLot ∈ lw_tbl := List.mem_of_getElem? (i := 633) (by decide +kernel)
theorem lX1_202 : Cond.methodLink RX1 202 yX3_distanceTo ∈ lw_tbl := List.mem_of_getElem? (i := 637) (by decide +kernel)
theorem lL_84 : Cond.methodLink "DarkVatsLaw" 84 yX9_match ∈ lw_tbl := List.mem_of_getElem? (i := 641) (by decide +kernel)
theorem lX9_210 : Cond.methodLink RX9 210 yX6_valueOf ∈ lw_tbl := List.mem_of_getElem? (i := 645) (by decide +kernel)
theorem lX9_213 : Cond.methodLink RX9 213 yX9_distance ∈ lw_tbl := List.mem_of_getElem? (i := 646) (by decide +kernel)
theorem lL_88 : Cond.methodLink "DarkVatsLaw" 88 yX9_alike ∈ lw_tbl := List.mem_of_getElem? (i := 647) (by decide +kernel)
theorem lX9_216 : Cond.methodLink RX9 216 yX1_lotsNotFarAbove ∈ lw_tbl := List.mem_of_getElem? (i := 651) (by decide +kernel)
theorem lX1_206 : Cond.methodLink RX1 206 yX6_valueOf ∈ lw_tbl := List.mem_of_getElem? (i := 655) (by decide +kernel)
theorem lX1_209 : Cond.methodLink RX1 209 yX2_shadeOf ∈ lw_tbl := List.mem_of_getElem? (i := 656) (by decide +kernel)
theorem lL_92 : Cond.methodLink "DarkVatsLaw" 92 yX9_plan ∈ lw_tbl := List.mem_of_getElem? (i := 657) (by decide +kernel)
theorem lX9_219 : Cond.methodLink RX9 219 yX1_copyFrom ∈ lw_tbl := List.mem_of_getElem? (i := 661) (by decide +kernel)
theorem lX9_222 : Cond.methodLink RX9 222 yX4_findPlan ∈ lw_tbl := List.mem_of_getElem? (i := 662) (by decide +kernel)
theorem lX4_26 : Cond.methodLink RX4 26 yX4_lotBehind ∈ lw_tbl := List.mem_of_getElem? (i := 666) (by decide +kernel)
theorem lX4_30 : Cond.methodLink RX4 30 yX2_copyFrom ∈ lw_tbl := List.mem_of_getElem? (i := 670) (by decide +kernel)
theorem lX4_34 : Cond.methodLink RX4 34 yX4_isReached ∈ lw_tbl := List.mem_of_getElem? (i := 671) (by decide +kernel)
theorem lX4_44 : Cond.methodLink RX4 44 yX3_isFittedBy ∈ lw_tbl := List.mem_of_getElem? (i := 674) (by decide +kernel)
theorem lX4_54 : Cond.methodLink RX4 54 yX1_findVat ∈ lw_tbl := List.mem_of_getElem? (i := 675) (by decide +kernel)
theorem lX4_66 : Cond.methodLink RX4 66 yX2_soakIn ∈ lw_tbl := List.mem_of_getElem? (i := 676) (by decide +kernel)
theorem lX9_226 : Cond.methodLink RX9 226 yX4_vatOfDip ∈ lw_tbl := List.mem_of_getElem? (i := 678) (by decide +kernel)
theorem lL_97 : Cond.methodLink "DarkVatsLaw" 97 yX9_takes ∈ lw_tbl := List.mem_of_getElem? (i := 683) (by decide +kernel)
theorem lX9_229 : Cond.methodLink RX9 229 yX2_grainsTaken ∈ lw_tbl := List.mem_of_getElem? (i := 687) (by decide +kernel)
theorem lL_101 : Cond.methodLink "DarkVatsLaw" 101 yX9_account ∈ lw_tbl := List.mem_of_getElem? (i := 688) (by decide +kernel)
theorem lX9_236 : Cond.methodLink RX9 236 yX9_cellAt ∈ lw_tbl := List.mem_of_getElem? (i := 692) (by decide +kernel)
theorem lX9_240 : Cond.methodLink RX9 240 yX1_grainsInVats ∈ lw_tbl := List.mem_of_getElem? (i := 693) (by decide +kernel)
theorem lX9_243 : Cond.methodLink RX9 243 yX1_fixedInHouse ∈ lw_tbl := List.mem_of_getElem? (i := 697) (by decide +kernel)
theorem lX9_246 : Cond.methodLink RX9 246 yX1_looseInHouse ∈ lw_tbl := List.mem_of_getElem? (i := 701) (by decide +kernel)
theorem lX9_249 : Cond.methodLink RX9 249 yX1_grainsSold ∈ lw_tbl := List.mem_of_getElem? (i := 705) (by decide +kernel)
theorem lX1_225 : Cond.methodLink RX1 225 yX2_grainsOf ∈ lw_tbl := List.mem_of_getElem? (i := 709) (by decide +kernel)
theorem lL_105 : Cond.methodLink "DarkVatsLaw" 105 yX9_count ∈ lw_tbl := List.mem_of_getElem? (i := 710) (by decide +kernel)
theorem lX9_255 : Cond.methodLink RX9 255 yX6_exists ∈ lw_tbl := List.mem_of_getElem? (i := 714) (by decide +kernel)
theorem lX9_258 : Cond.methodLink RX9 258 yX1_lotsCounted ∈ lw_tbl := List.mem_of_getElem? (i := 717) (by decide +kernel)
theorem lX1_212 : Cond.methodLink RX1 212 yX1_isCounted ∈ lw_tbl := List.mem_of_getElem? (i := 721) (by decide +kernel)
theorem lX9_264 : Cond.methodLink RX9 264 yX1_openOrders ∈ lw_tbl := List.mem_of_getElem? (i := 724) (by decide +kernel)
theorem lL_109 : Cond.methodLink "DarkVatsLaw" 109 yX9_set ∈ lw_tbl := List.mem_of_getElem? (i := 725) (by decide +kernel)
theorem lX9_274 : Cond.methodLink RX9 274 yX6_change ∈ lw_tbl := List.mem_of_getElem? (i := 729) (by decide +kernel)
theorem lL_113 : Cond.methodLink "DarkVatsLaw" 113 yX9_undo ∈ lw_tbl := List.mem_of_getElem? (i := 738) (by decide +kernel)
theorem lX9_277 : Cond.methodLink RX9 277 yX0_stepBack ∈ lw_tbl := List.mem_of_getElem? (i := 742) (by decide +kernel)
theorem lL_118 : Cond.methodLink "DarkVatsLaw" 118 yX9_type ∈ lw_tbl := List.mem_of_getElem? (i := 746) (by decide +kernel)
theorem lX9_281 : Cond.methodLink RX9 281 yX7_append ∈ lw_tbl := List.mem_of_getElem? (i := 750) (by decide +kernel)
theorem lL_122 : Cond.methodLink "DarkVatsLaw" 122 yX9_clearText ∈ lw_tbl := List.mem_of_getElem? (i := 754) (by decide +kernel)
theorem lX9_284 : Cond.methodLink RX9 284 yX7_makeEmpty ∈ lw_tbl := List.mem_of_getElem? (i := 758) (by decide +kernel)
theorem lL_126 : Cond.methodLink "DarkVatsLaw" 126 yX9_fault ∈ lw_tbl := List.mem_of_getElem? (i := 762) (by decide +kernel)
theorem lX9_287 : Cond.methodLink RX9 287 yX5_doAll ∈ lw_tbl := List.mem_of_getElem? (i := 766) (by decide +kernel)
theorem lX5_24 : Cond.methodLink RX5 24 yX5_readWork ∈ lw_tbl := List.mem_of_getElem? (i := 770) (by decide +kernel)
theorem lX5_54 : Cond.methodLink RX5 54 yX7_signAt ∈ lw_tbl := List.mem_of_getElem? (i := 774) (by decide +kernel)
theorem lX5_58 : Cond.methodLink RX5 58 yX5_readNumber ∈ lw_tbl := List.mem_of_getElem? (i := 778) (by decide +kernel)
theorem lX5_66 : Cond.methodLink RX5 66 yX5_digitOf ∈ lw_tbl := List.mem_of_getElem? (i := 782) (by decide +kernel)
theorem lX5_62 : Cond.methodLink RX5 62 yX5_passes ∈ lw_tbl := List.mem_of_getElem? (i := 785) (by decide +kernel)
theorem lX5_28 : Cond.methodLink RX5 28 yX5_noteFault ∈ lw_tbl := List.mem_of_getElem? (i := 789) (by decide +kernel)
theorem lX5_42 : Cond.methodLink RX5 42 yX1_doWork ∈ lw_tbl := List.mem_of_getElem? (i := 793) (by decide +kernel)
theorem lX1_179 : Cond.methodLink RX1 179 yX1_dipLot ∈ lw_tbl := List.mem_of_getElem? (i := 797) (by decide +kernel)
theorem lX1_183 : Cond.methodLink RX1 183 yX1_rinseLot ∈ lw_tbl := List.mem_of_getElem? (i := 798) (by decide +kernel)
theorem lX1_186 : Cond.methodLink RX1 186 yX1_hangLot ∈ lw_tbl := List.mem_of_getElem? (i := 799) (by decide +kernel)
theorem lX1_189 : Cond.methodLink RX1 189 yX1_takeDown ∈ lw_tbl := List.mem_of_getElem? (i := 800) (by decide +kernel)
theorem lX1_192 : Cond.methodLink RX1 192 yX1_drainVat ∈ lw_tbl := List.mem_of_getElem? (i := 801) (by decide +kernel)
theorem lX1_195 : Cond.methodLink RX1 195 yX1_sellLot ∈ lw_tbl := List.mem_of_getElem? (i := 802) (by decide +kernel)
theorem lX9_291 : Cond.methodLink RX9 291 yX5_hasFault ∈ lw_tbl := List.mem_of_getElem? (i := 803) (by decide +kernel)
theorem lL_130 : Cond.methodLink "DarkVatsLaw" 130 yX9_play ∈ lw_tbl := List.mem_of_getElem? (i := 807) (by decide +kernel)
theorem lL_12 : Cond.methodLink "DarkVatsLaw" 12 yX10_init ∈ lw_tbl := List.mem_of_getElem? (i := 813) (by decide +kernel)
theorem lX10_1 : Cond.methodLink RX10 1 objectInit ∈ lw_tbl := List.mem_of_getElem? (i := 816) (by decide +kernel)
theorem lL_117 : Cond.methodLink "DarkVatsLaw" 117 yX10_undo ∈ lw_tbl := List.mem_of_getElem? (i := 854) (by decide +kernel)
theorem lL_17 : Cond.methodLink "DarkVatsLaw" 17 yX10_vat ∈ lw_tbl := List.mem_of_getElem? (i := 858) (by decide +kernel)
theorem lX10_49 : Cond.methodLink RX10 49 yX10_isDye ∈ lw_tbl := List.mem_of_getElem? (i := 862) (by decide +kernel)
theorem lX10_31 : Cond.methodLink RX10 31 yX10_in ∈ lw_tbl := List.mem_of_getElem? (i := 865) (by decide +kernel)
theorem lX10_43 : Cond.methodLink RX10 43 yX10_notes ∈ lw_tbl := List.mem_of_getElem? (i := 868) (by decide +kernel)
theorem lL_21 : Cond.methodLink "DarkVatsLaw" 21 yX10_weigh ∈ lw_tbl := List.mem_of_getElem? (i := 872) (by decide +kernel)
theorem lX10_53 : Cond.methodLink RX10 53 yX10_isVat ∈ lw_tbl := List.mem_of_getElem? (i := 876) (by decide +kernel)
theorem lX10_57 : Cond.methodLink RX10 57 yX10_vatNumber ∈ lw_tbl := List.mem_of_getElem? (i := 881) (by decide +kernel)
theorem lL_26 : Cond.methodLink "DarkVatsLaw" 26 yX10_drain ∈ lw_tbl := List.mem_of_getElem? (i := 886) (by decide +kernel)
theorem lX10_61 : Cond.methodLink RX10 61 yX10_asides ∈ lw_tbl := List.mem_of_getElem? (i := 890) (by decide +kernel)
theorem lX10_64 : Cond.methodLink RX10 64 yX10_drains ∈ lw_tbl := List.mem_of_getElem? (i := 894) (by decide +kernel)
theorem lX10_68 : Cond.methodLink RX10 68 yX10_done ∈ lw_tbl := List.mem_of_getElem? (i := 898) (by decide +kernel)
theorem lX10_46 : Cond.methodLink RX10 46 yX10_backs ∈ lw_tbl := List.mem_of_getElem? (i := 902) (by decide +kernel)
theorem lL_30 : Cond.methodLink "DarkVatsLaw" 30 yX10_vatOf ∈ lw_tbl := List.mem_of_getElem? (i := 906) (by decide +kernel)
theorem lL_34 : Cond.methodLink "DarkVatsLaw" 34 yX10_vatAt ∈ lw_tbl := List.mem_of_getElem? (i := 910) (by decide +kernel)
theorem lX10_71 : Cond.methodLink RX10 71 yX10_isStronger ∈ lw_tbl := List.mem_of_getElem? (i := 914) (by decide +kernel)
theorem lL_38 : Cond.methodLink "DarkVatsLaw" 38 yX10_lot ∈ lw_tbl := List.mem_of_getElem? (i := 918) (by decide +kernel)
theorem lX10_80 : Cond.methodLink RX10 80 yX10_puts ∈ lw_tbl := List.mem_of_getElem? (i := 922) (by decide +kernel)
theorem lL_42 : Cond.methodLink "DarkVatsLaw" 42 yX10_dip ∈ lw_tbl := List.mem_of_getElem? (i := 926) (by decide +kernel)
theorem lX10_106 : Cond.methodLink RX10 106 yX10_dips ∈ lw_tbl := List.mem_of_getElem? (i := 930) (by decide +kernel)
theorem lX10_94 : Cond.methodLink RX10 94 yX10_isLot ∈ lw_tbl := List.mem_of_getElem? (i := 934) (by decide +kernel)
theorem lX10_97 : Cond.methodLink RX10 97 yX10_isSold ∈ lw_tbl := List.mem_of_getElem? (i := 938) (by decide +kernel)
theorem lX10_35 : Cond.methodLink RX10 35 yX10_lotNumber ∈ lw_tbl := List.mem_of_getElem? (i := 942) (by decide +kernel)
theorem lX10_100 : Cond.methodLink RX10 100 yX10_hangs ∈ lw_tbl := List.mem_of_getElem? (i := 946) (by decide +kernel)
theorem lX10_103 : Cond.methodLink RX10 103 yX10_dyes ∈ lw_tbl := List.mem_of_getElem? (i := 950) (by decide +kernel)
theorem lX10_84 : Cond.methodLink RX10 84 yX10_taken ∈ lw_tbl := List.mem_of_getElem? (i := 954) (by decide +kernel)
theorem lX10_88 : Cond.methodLink RX10 88 yX10_depth ∈ lw_tbl := List.mem_of_getElem? (i := 958) (by decide +kernel)
theorem lX10_77 : Cond.methodLink RX10 77 yX10_grains ∈ lw_tbl := List.mem_of_getElem? (i := 962) (by decide +kernel)
theorem lX10_91 : Cond.methodLink RX10 91 yX10_shadeOf ∈ lw_tbl := List.mem_of_getElem? (i := 967) (by decide +kernel)
theorem lL_46 : Cond.methodLink "DarkVatsLaw" 46 yX10_rinse ∈ lw_tbl := List.mem_of_getElem? (i := 971) (by decide +kernel)
theorem lX10_109 : Cond.methodLink RX10 109 yX10_rinses ∈ lw_tbl := List.mem_of_getElem? (i := 975) (by decide +kernel)
theorem lL_50 : Cond.methodLink "DarkVatsLaw" 50 yX10_hang ∈ lw_tbl := List.mem_of_getElem? (i := 979) (by decide +kernel)
theorem lX10_115 : Cond.methodLink RX10 115 yX10_hangsOn ∈ lw_tbl := List.mem_of_getElem? (i := 983) (by decide +kernel)
theorem lX10_112 : Cond.methodLink RX10 112 yX10_hanging ∈ lw_tbl := List.mem_of_getElem? (i := 987) (by decide +kernel)
theorem lL_54 : Cond.methodLink "DarkVatsLaw" 54 yX10_take ∈ lw_tbl := List.mem_of_getElem? (i := 991) (by decide +kernel)
theorem lX10_118 : Cond.methodLink RX10 118 yX10_takesDown ∈ lw_tbl := List.mem_of_getElem? (i := 995) (by decide +kernel)
theorem lL_58 : Cond.methodLink "DarkVatsLaw" 58 yX10_lotOf ∈ lw_tbl := List.mem_of_getElem? (i := 999) (by decide +kernel)
theorem lX10_121 : Cond.methodLink RX10 121 yX10_sum ∈ lw_tbl := List.mem_of_getElem? (i := 1003) (by decide +kernel)
theorem lL_62 : Cond.methodLink "DarkVatsLaw" 62 yX10_shade ∈ lw_tbl := List.mem_of_getElem? (i := 1007) (by decide +kernel)
theorem lL_66 : Cond.methodLink "DarkVatsLaw" 66 yX10_shadeBits ∈ lw_tbl := List.mem_of_getElem? (i := 1011) (by decide +kernel)
theorem lX10_124 : Cond.methodLink RX10 124 yX10_exact ∈ lw_tbl := List.mem_of_getElem? (i := 1015) (by decide +kernel)
theorem lX10_128 : Cond.methodLink RX10 128 ⟨"java/lang/Float", "floatToIntBits", "(F)I"⟩ ∈ lw_tbl := List.mem_of_getElem? (i := 1019) (by decide +kernel)
theorem lJ_59 : Cond.methodLink "java/lang/Float" 59 ⟨"java/lang/Float", "isNaN", "(F)Z"⟩ ∈ lw_tbl := List.mem_of_getElem? (i := 1022) (by decide +kernel)
theorem lJ_74 : Cond.methodLink "java/lang/Float" 74 ⟨"java/lang/Float", "floatToRawIntBits", "(F)I"⟩ ∈ lw_tbl := List.mem_of_getElem? (i := 1025) (by decide +kernel)
theorem lL_70 : Cond.methodLink "DarkVatsLaw" 70 yX10_meanBits ∈ lw_tbl := List.mem_of_getElem? (i := 1029) (by decide +kernel)
theorem lL_75 : Cond.methodLink "DarkVatsLaw" 75 yX10_order ∈ lw_tbl := List.mem_of_getElem? (i := 1033) (by decide +kernel)
theorem lX10_137 : Cond.methodLink RX10 137 yX10_isShade ∈ lw_tbl := List.mem_of_getElem? (i := 1037) (by decide +kernel)
theorem lX10_140 : Cond.methodLink RX10 140 yX10_unserved ∈ lw_tbl := List.mem_of_getElem? (i := 1040) (by decide +kernel)
theorem lX10_134 : Cond.methodLink RX10 134 yX10_orderNumber ∈ lw_tbl := List.mem_of_getElem? (i := 1044) (by decide +kernel)
theorem lL_79 : Cond.methodLink "DarkVatsLaw" 79 yX10_sell ∈ lw_tbl := List.mem_of_getElem? (i := 1048) (by decide +kernel)
theorem lX10_153 : Cond.methodLink RX10 153 yX10_sells ∈ lw_tbl := List.mem_of_getElem? (i := 1052) (by decide +kernel)
theorem lX10_147 : Cond.methodLink RX10 147 yX10_isOrder ∈ lw_tbl := List.mem_of_getElem? (i := 1056) (by decide +kernel)
theorem lX10_150 : Cond.methodLink RX10 150 yX10_fits ∈ lw_tbl := List.mem_of_getElem? (i := 1060) (by decide +kernel)
theorem lX10_144 : Cond.methodLink RX10 144 yX10_apart ∈ lw_tbl := List.mem_of_getElem? (i := 1064) (by decide +kernel)
theorem lL_83 : Cond.methodLink "DarkVatsLaw" 83 yX10_orderOf ∈ lw_tbl := List.mem_of_getElem? (i := 1067) (by decide +kernel)
theorem lX10_156 : Cond.methodLink RX10 156 yX10_fitting ∈ lw_tbl := List.mem_of_getElem? (i := 1071) (by decide +kernel)
theorem lX10_159 : Cond.methodLink RX10 159 yX10_nearest ∈ lw_tbl := List.mem_of_getElem? (i := 1075) (by decide +kernel)
theorem lL_87 : Cond.methodLink "DarkVatsLaw" 87 yX10_match ∈ lw_tbl := List.mem_of_getElem? (i := 1079) (by decide +kernel)
theorem lL_91 : Cond.methodLink "DarkVatsLaw" 91 yX10_alike ∈ lw_tbl := List.mem_of_getElem? (i := 1083) (by decide +kernel)
theorem lL_96 : Cond.methodLink "DarkVatsLaw" 96 yX10_plan ∈ lw_tbl := List.mem_of_getElem? (i := 1087) (by decide +kernel)
theorem lX10_166 : Cond.methodLink RX10 166 yX10_plans ∈ lw_tbl := List.mem_of_getElem? (i := 1091) (by decide +kernel)
theorem lX10_162 : Cond.methodLink RX10 162 yX10_makesFit ∈ lw_tbl := List.mem_of_getElem? (i := 1095) (by decide +kernel)
theorem lL_100 : Cond.methodLink "DarkVatsLaw" 100 yX10_takes ∈ lw_tbl := List.mem_of_getElem? (i := 1099) (by decide +kernel)
theorem lL_104 : Cond.methodLink "DarkVatsLaw" 104 yX10_account ∈ lw_tbl := List.mem_of_getElem? (i := 1103) (by decide +kernel)
theorem lX10_169 : Cond.methodLink RX10 169 yX10_inVats ∈ lw_tbl := List.mem_of_getElem? (i := 1107) (by decide +kernel)
theorem lX10_172 : Cond.methodLink RX10 172 yX10_inLots ∈ lw_tbl := List.mem_of_getElem? (i := 1111) (by decide +kernel)
theorem lL_108 : Cond.methodLink "DarkVatsLaw" 108 yX10_count ∈ lw_tbl := List.mem_of_getElem? (i := 1115) (by decide +kernel)
theorem lX10_176 : Cond.methodLink RX10 176 yX10_inHouse ∈ lw_tbl := List.mem_of_getElem? (i := 1119) (by decide +kernel)
theorem lL_112 : Cond.methodLink "DarkVatsLaw" 112 yX10_set ∈ lw_tbl := List.mem_of_getElem? (i := 1123) (by decide +kernel)
theorem lX10_182 : Cond.methodLink RX10 182 yX10_isSetting ∈ lw_tbl := List.mem_of_getElem? (i := 1127) (by decide +kernel)
theorem lL_121 : Cond.methodLink "DarkVatsLaw" 121 yX10_type ∈ lw_tbl := List.mem_of_getElem? (i := 1130) (by decide +kernel)
theorem lL_125 : Cond.methodLink "DarkVatsLaw" 125 yX10_clearText ∈ lw_tbl := List.mem_of_getElem? (i := 1134) (by decide +kernel)
theorem lL_129 : Cond.methodLink "DarkVatsLaw" 129 yX10_fault ∈ lw_tbl := List.mem_of_getElem? (i := 1138) (by decide +kernel)
theorem lX10_214 : Cond.methodLink RX10 214 yX10_plays ∈ lw_tbl := List.mem_of_getElem? (i := 1142) (by decide +kernel)
theorem lX10_208 : Cond.methodLink RX10 208 yX10_reads ∈ lw_tbl := List.mem_of_getElem? (i := 1146) (by decide +kernel)
theorem lX10_192 : Cond.methodLink RX10 192 yX10_here ∈ lw_tbl := List.mem_of_getElem? (i := 1150) (by decide +kernel)
theorem lX10_198 : Cond.methodLink RX10 198 yX10_numbers ∈ lw_tbl := List.mem_of_getElem? (i := 1154) (by decide +kernel)
theorem lX10_201 : Cond.methodLink RX10 201 yX10_number ∈ lw_tbl := List.mem_of_getElem? (i := 1157) (by decide +kernel)
theorem lX10_204 : Cond.methodLink RX10 204 yX10_sign ∈ lw_tbl := List.mem_of_getElem? (i := 1161) (by decide +kernel)
theorem lX10_211 : Cond.methodLink RX10 211 yX10_does ∈ lw_tbl := List.mem_of_getElem? (i := 1165) (by decide +kernel)
theorem lL_133 : Cond.methodLink "DarkVatsLaw" 133 yX10_play ∈ lw_tbl := List.mem_of_getElem? (i := 1169) (by decide +kernel)
theorem lX1_43 : Cond.methodLinkNest RX1 43 yX8_init "DarkVats" ∈ lw_tbl := List.mem_of_getElem? (i := 100) (by decide +kernel)
theorem lX1_44 : Cond.methodLinkNest RX1 44 yX2_init "DarkVats" ∈ lw_tbl := List.mem_of_getElem? (i := 132) (by decide +kernel)
theorem lX1_45 : Cond.methodLinkNest RX1 45 yX3_init "DarkVats" ∈ lw_tbl := List.mem_of_getElem? (i := 183) (by decide +kernel)
theorem lX9_28 : Cond.methodLinkNest RX9 28 yX7_init "DarkVats" ∈ lw_tbl := List.mem_of_getElem? (i := 255) (by decide +kernel)
theorem lX9_35 : Cond.methodLinkNest RX9 35 yX5_init "DarkVats" ∈ lw_tbl := List.mem_of_getElem? (i := 271) (by decide +kernel)
theorem lX4_19 : Cond.methodLinkNest RX4 19 yX2_init "DarkVats" ∈ lw_tbl := List.mem_of_getElem? (i := 311) (by decide +kernel)
theorem lX1_59 : Cond.methodLinkNest RX1 59 yX9_copyRow "DarkVats" ∈ lw_tbl := List.mem_of_getElem? (i := 354) (by decide +kernel)
theorem lX6_18 : Cond.methodLinkNest RX6 18 yX9_copyRow "DarkVats" ∈ lw_tbl := List.mem_of_getElem? (i := 361) (by decide +kernel)
theorem lX2_41 : Cond.methodLinkNest RX2 41 yX9_copyRow "DarkVats" ∈ lw_tbl := List.mem_of_getElem? (i := 378) (by decide +kernel)
theorem lX3_15 : Cond.methodLinkNest RX3 15 yX9_copyRow "DarkVats" ∈ lw_tbl := List.mem_of_getElem? (i := 387) (by decide +kernel)
theorem lX1_88 : Cond.methodLinkNest RX1 88 yX9_isDye "DarkVats" ∈ lw_tbl := List.mem_of_getElem? (i := 392) (by decide +kernel)
theorem lX1_103 : Cond.methodLinkNest RX1 103 yX9_cellAt "DarkVats" ∈ lw_tbl := List.mem_of_getElem? (i := 416) (by decide +kernel)
theorem lX1_108 : Cond.methodLinkNest RX1 108 yX9_addTo "DarkVats" ∈ lw_tbl := List.mem_of_getElem? (i := 420) (by decide +kernel)
theorem lX2_81 : Cond.methodLinkNest RX2 81 yX9_addTo "DarkVats" ∈ lw_tbl := List.mem_of_getElem? (i := 498) (by decide +kernel)
theorem lX2_51 : Cond.methodLinkNest RX2 51 yX9_sumOf "DarkVats" ∈ lw_tbl := List.mem_of_getElem? (i := 504) (by decide +kernel)
theorem lX1_143 : Cond.methodLinkNest RX1 143 yX9_sumOf "DarkVats" ∈ lw_tbl := List.mem_of_getElem? (i := 523) (by decide +kernel)
theorem lX1_147 : Cond.methodLinkNest RX1 147 yX9_putAt "DarkVats" ∈ lw_tbl := List.mem_of_getElem? (i := 524) (by decide +kernel)
theorem lX3_23 : Cond.methodLinkNest RX3 23 yX9_putAt "DarkVats" ∈ lw_tbl := List.mem_of_getElem? (i := 600) (by decide +kernel)
theorem lX3_27 : Cond.methodLinkNest RX3 27 yX9_cellAt "DarkVats" ∈ lw_tbl := List.mem_of_getElem? (i := 619) (by decide +kernel)
theorem lX3_48 : Cond.methodLinkNest RX3 48 yX9_distance "DarkVats" ∈ lw_tbl := List.mem_of_getElem? (i := 620) (by decide +kernel)
theorem lX4_70 : Cond.methodLinkNest RX4 70 yX9_putAt "DarkVats" ∈ lw_tbl := List.mem_of_getElem? (i := 677) (by decide +kernel)
theorem lX4_20 : Cond.methodLinkNest RX4 20 yX9_cellAt "DarkVats" ∈ lw_tbl := List.mem_of_getElem? (i := 682) (by decide +kernel)
theorem lX6_25 : Cond.methodLinkNest RX6 25 yX9_cellAt "DarkVats" ∈ lw_tbl := List.mem_of_getElem? (i := 735) (by decide +kernel)
theorem qL_7 : Cond.classLink "DarkVatsLaw" 7 RX9 ∈ lw_tbl := List.mem_of_getElem? (i := 66) (by decide +kernel)
theorem qX9_7 : Cond.classLink RX9 7 RX1 ∈ lw_tbl := List.mem_of_getElem? (i := 74) (by decide +kernel)
theorem qX1_9 : Cond.classLink RX1 9 RX8 ∈ lw_tbl := List.mem_of_getElem? (i := 80) (by decide +kernel)
theorem qX1_17 : Cond.classLink RX1 17 RX2 ∈ lw_tbl := List.mem_of_getElem? (i := 82) (by decide +kernel)
theorem qX1_23 : Cond.classLink RX1 23 RX3 ∈ lw_tbl := List.mem_of_getElem? (i := 84) (by decide +kernel)
theorem qX1_36 : Cond.classLink RX1 36 RX6 ∈ lw_tbl := List.mem_of_getElem? (i := 86) (by decide +kernel)
theorem qX9_19 : Cond.classLink RX9 19 RX0 ∈ lw_tbl := List.mem_of_getElem? (i := 236) (by decide +kernel)
theorem qX0_11 : Cond.classLink RX0 11 RX1 ∈ lw_tbl := List.mem_of_getElem? (i := 242) (by decide +kernel)
theorem qX9_26 : Cond.classLink RX9 26 RX7 ∈ lw_tbl := List.mem_of_getElem? (i := 253) (by decide +kernel)
theorem qX9_33 : Cond.classLink RX9 33 RX5 ∈ lw_tbl := List.mem_of_getElem? (i := 269) (by decide +kernel)
theorem qX9_40 : Cond.classLink RX9 40 RX4 ∈ lw_tbl := List.mem_of_getElem? (i := 304) (by decide +kernel)
theorem qX4_9 : Cond.classLink RX4 9 RX2 ∈ lw_tbl := List.mem_of_getElem? (i := 310) (by decide +kernel)
theorem qL_10 : Cond.classLink "DarkVatsLaw" 10 RX10 ∈ lw_tbl := List.mem_of_getElem? (i := 811) (by decide +kernel)
theorem kX9_w : Cond.instantiable RX9 6 ∈ lw_tbl := List.mem_of_getElem? (i := 67) (by decide +kernel)
theorem kX1_w : Cond.instantiable RX1 10 ∈ lw_tbl := List.mem_of_getElem? (i := 75) (by decide +kernel)
theorem kX6_w : Cond.instantiable RX6 1 ∈ lw_tbl := List.mem_of_getElem? (i := 87) (by decide +kernel)
theorem kX8_w : Cond.instantiable RX8 4 ∈ lw_tbl := List.mem_of_getElem? (i := 99) (by decide +kernel)
theorem kX2_w : Cond.instantiable RX2 9 ∈ lw_tbl := List.mem_of_getElem? (i := 131) (by decide +kernel)
theorem kX3_w : Cond.instantiable RX3 2 ∈ lw_tbl := List.mem_of_getElem? (i := 182) (by decide +kernel)
theorem kX0_w : Cond.instantiable RX0 2 ∈ lw_tbl := List.mem_of_getElem? (i := 237) (by decide +kernel)
theorem kX7_w : Cond.instantiable RX7 2 ∈ lw_tbl := List.mem_of_getElem? (i := 254) (by decide +kernel)
theorem kX5_w : Cond.instantiable RX5 8 ∈ lw_tbl := List.mem_of_getElem? (i := 270) (by decide +kernel)
theorem kX4_w : Cond.instantiable RX4 2 ∈ lw_tbl := List.mem_of_getElem? (i := 305) (by decide +kernel)
theorem kX10_w : Cond.instantiable RX10 12 ∈ lw_tbl := List.mem_of_getElem? (i := 812) (by decide +kernel)
-- arrayClass Jvm.ClassFile.FieldType.int
theorem kA_98 : Cond.arrayClass FieldType.int ∈ lw_tbl := List.mem_of_getElem? (i := 98) (by decide +kernel)
-- arrayClass Jvm.ClassFile.FieldType.char
theorem kA_268 : Cond.arrayClass FieldType.char ∈ lw_tbl := List.mem_of_getElem? (i := 268) (by decide +kernel)
theorem kO_81 : Cond.arrayOver (FieldType.object "DarkVats$Vat") ∈ lw_tbl := List.mem_of_getElem? (i := 81) (by decide +kernel)
theorem kO_83 : Cond.arrayOver (FieldType.object "DarkVats$Lot") ∈ lw_tbl := List.mem_of_getElem? (i := 83) (by decide +kernel)
theorem kO_85 : Cond.arrayOver (FieldType.object "DarkVats$Order") ∈ lw_tbl := List.mem_of_getElem? (i := 85) (by decide +kernel)
theorem kO_243 : Cond.arrayOver (FieldType.object "DarkVats$House") ∈ lw_tbl := List.mem_of_getElem? (i := 243) (by decide +kernel)
theorem cX1_102 : Cond.constant RX1 102 (100000 : Int32) ∈ lw_tbl := List.mem_of_getElem? (i := 415) (by decide +kernel)
theorem cX1_107 : Cond.constant RX1 107 (1000000 : Int32) ∈ lw_tbl := List.mem_of_getElem? (i := 419) (by decide +kernel)
theorem cX10_56 : Cond.constant RX10 56 (100000 : Int32) ∈ lw_tbl := List.mem_of_getElem? (i := 880) (by decide +kernel)
theorem cX10_60 : Cond.constant RX10 60 (1000000 : Int32) ∈ lw_tbl := List.mem_of_getElem? (i := 885) (by decide +kernel)
theorem cJ_77 : Cond.constant "java/lang/Float" 77 (2143289344 : Int32) ∈ lw_tbl := List.mem_of_getElem? (i := 1028) (by decide +kernel)
theorem cX2_55 : Cond.constantLong RX2 55 (2 : Int64) ∈ lw_tbl := List.mem_of_getElem? (i := 495) (by decide +kernel)
theorem cX2_45 : Cond.constantLong RX2 45 (1000 : Int64) ∈ lw_tbl := List.mem_of_getElem? (i := 503) (by decide +kernel)
theorem cX10_75 : Cond.constantLong RX10 75 (1000 : Int64) ∈ lw_tbl := List.mem_of_getElem? (i := 966) (by decide +kernel)
theorem cX9_306 : Cond.constantFloat RX9 306 (1258291200 : UInt32) ∈ lw_tbl := List.mem_of_getElem? (i := 572) (by decide +kernel)
theorem kOI_c : Cond.code objectInit ⟨#[0xb1]⟩ 1 none ∈ lw_tbl := List.mem_of_getElem? (i := 73) (by decide +kernel)
theorem kOI_i : Cond.instanceMethod objectInit ∈ lw_tbl := List.mem_of_getElem? (i := 72) (by decide +kernel)
end
section
theorem dX0_init_0 : decode cX0_init 0 = .ok (.aload_n 0, 1) := by decide +kernel
theorem dX0_init_1 : decode cX0_init 1 = .ok (.invokespecial 3, 3) := by decide +kernel
theorem dX0_init_4 : decode cX0_init 4 = .ok (.aload_n 0, 1) := by decide +kernel
theorem dX0_init_5 : decode cX0_init 5 = .ok (.iconst 5, 1) := by decide +kernel
theorem dX0_init_6 : decode cX0_init 6 = .ok (.anewarray 11, 3) := by decide +kernel
theorem dX0_init_9 : decode cX0_init 9 = .ok (.putfield 13, 3) := by decide +kernel
theorem dX0_init_12 : decode cX0_init 12 = .ok (.iconst 0, 1) := by decide +kernel
theorem dX0_init_13 : decode cX0_init 13 = .ok (.istore_n 1, 1) := by decide +kernel
theorem dX0_init_14 : decode cX0_init 14 = .ok (.iload_n 1, 1) := by decide +kernel
theorem dX0_init_15 : decode cX0_init 15 = .ok (.aload_n 0, 1) := by decide +kernel
theorem dX0_init_16 : decode cX0_init 16 = .ok (.getfield 13, 3) := by decide +kernel
theorem dX0_init_19 : decode cX0_init 19 = .ok (.arraylength, 1) := by decide +kernel
theorem dX0_init_20 : decode cX0_init 20 = .ok (.if_icmp .ge 22, 3) := by decide +kernel
theorem dX0_init_23 : decode cX0_init 23 = .ok (.aload_n 0, 1) := by decide +kernel
theorem dX0_init_24 : decode cX0_init 24 = .ok (.getfield 13, 3) := by decide +kernel
theorem dX0_init_27 : decode cX0_init 27 = .ok (.iload_n 1, 1) := by decide +kernel
theorem dX0_init_28 : decode cX0_init 28 = .ok (.new 11, 3) := by decide +kernel
theorem dX0_init_31 : decode cX0_init 31 = .ok (.dup, 1) := by decide +kernel
theorem dX0_init_32 : decode cX0_init 32 = .ok (.invokespecial 17, 3) := by decide +kernel
theorem dX0_init_35 : decode cX0_init 35 = .ok (.aastore, 1) := by decide +kernel
theorem dX0_init_36 : decode cX0_init 36 = .ok (.iinc 1 1, 3) := by decide +kernel
theorem dX0_init_39 : decode cX0_init 39 = .ok (.goto (-25), 3) := by decide +kernel
theorem dX0_init_42 : decode cX0_init 42 = .ok (.return_, 1) := by decide +kernel
theorem dX0_stateAt_0 : decode cX0_stateAt 0 = .ok (.iload_n 1, 1) := by decide +kernel
theorem dX0_stateAt_1 : decode cX0_stateAt 1 = .ok (.ifCond .lt 21, 3) := by decide +kernel
theorem dX0_stateAt_4 : decode cX0_stateAt 4 = .ok (.iload_n 1, 1) := by decide +kernel
theorem dX0_stateAt_5 : decode cX0_stateAt 5 = .ok (.aload_n 0, 1) := by decide +kernel
theorem dX0_stateAt_6 : decode cX0_stateAt 6 = .ok (.getfield 13, 3) := by decide +kernel
theorem dX0_stateAt_9 : decode cX0_stateAt 9 = .ok (.arraylength, 1) := by decide +kernel
theorem dX0_stateAt_10 : decode cX0_stateAt 10 = .ok (.if_icmp .ge 12, 3) := by decide +kernel
theorem dX0_stateAt_13 : decode cX0_stateAt 13 = .ok (.aload_n 0, 1) := by decide +kernel
theorem dX0_stateAt_14 : decode cX0_stateAt 14 = .ok (.getfield 13, 3) := by decide +kernel
theorem dX0_stateAt_17 : decode cX0_stateAt 17 = .ok (.iload_n 1, 1) := by decide +kernel
theorem dX0_stateAt_18 : decode cX0_stateAt 18 = .ok (.aaload, 1) := by decide +kernel
theorem dX0_stateAt_19 : decode cX0_stateAt 19 = .ok (.goto 4, 3) := by decide +kernel
theorem dX0_stateAt_22 : decode cX0_stateAt 22 = .ok (.aconst_null, 1) := by decide +kernel
theorem dX0_stateAt_23 : decode cX0_stateAt 23 = .ok (.areturn, 1) := by decide +kernel
theorem dX0_noteState_0 : decode cX0_noteState 0 = .ok (.aload_n 0, 1) := by decide +kernel
theorem dX0_noteState_1 : decode cX0_noteState 1 = .ok (.aload_n 0, 1) := by decide +kernel
theorem dX0_noteState_2 : decode cX0_noteState 2 = .ok (.getfield 18, 3) := by decide +kernel
theorem dX0_noteState_5 : decode cX0_noteState 5 = .ok (.invokevirtual 22, 3) := by decide +kernel
theorem dX0_noteState_8 : decode cX0_noteState 8 = .ok (.astore_n 2, 1) := by decide +kernel
theorem dX0_noteState_9 : decode cX0_noteState 9 = .ok (.aload_n 2, 1) := by decide +kernel
theorem dX0_noteState_10 : decode cX0_noteState 10 = .ok (.ifnull 8, 3) := by decide +kernel
theorem dX0_noteState_13 : decode cX0_noteState 13 = .ok (.aload_n 2, 1) := by decide +kernel
theorem dX0_noteState_14 : decode cX0_noteState 14 = .ok (.aload_n 1, 1) := by decide +kernel
theorem dX0_noteState_15 : decode cX0_noteState 15 = .ok (.invokevirtual 26, 3) := by decide +kernel
theorem dX0_noteState_18 : decode cX0_noteState 18 = .ok (.return_, 1) := by decide +kernel
theorem dX0_keepNoted_0 : decode cX0_keepNoted 0 = .ok (.iload_n 1, 1) := by decide +kernel
theorem dX0_keepNoted_1 : decode cX0_keepNoted 1 = .ok (.ifCond .lt 25, 3) := by decide +kernel
theorem dX0_keepNoted_4 : decode cX0_keepNoted 4 = .ok (.aload_n 0, 1) := by decide +kernel
theorem dX0_keepNoted_5 : decode cX0_keepNoted 5 = .ok (.dup, 1) := by decide +kernel
theorem dX0_keepNoted_6 : decode cX0_keepNoted 6 = .ok (.getfield 18, 3) := by decide +kernel
theorem dX0_keepNoted_9 : decode cX0_keepNoted 9 = .ok (.iconst 1, 1) := by decide +kernel
theorem dX0_keepNoted_10 : decode cX0_keepNoted 10 = .ok (.iadd, 1) := by decide +kernel
theorem dX0_keepNoted_11 : decode cX0_keepNoted 11 = .ok (.putfield 18, 3) := by decide +kernel
theorem dX0_keepNoted_14 : decode cX0_keepNoted 14 = .ok (.aload_n 0, 1) := by decide +kernel
theorem dX0_keepNoted_15 : decode cX0_keepNoted 15 = .ok (.getfield 18, 3) := by decide +kernel
theorem dX0_keepNoted_18 : decode cX0_keepNoted 18 = .ok (.iconst 4, 1) := by decide +kernel
theorem dX0_keepNoted_19 : decode cX0_keepNoted 19 = .ok (.if_icmp .le 7, 3) := by decide +kernel
theorem dX0_keepNoted_22 : decode cX0_keepNoted 22 = .ok (.aload_n 0, 1) := by decide +kernel
theorem dX0_keepNoted_23 : decode cX0_keepNoted 23 = .ok (.invokevirtual 30, 3) := by decide +kernel
theorem dX0_keepNoted_26 : decode cX0_keepNoted 26 = .ok (.iload_n 1, 1) := by decide +kernel
theorem dX0_keepNoted_27 : decode cX0_keepNoted 27 = .ok (.ireturn, 1) := by decide +kernel
theorem dX0_dropOldest_0 : decode cX0_dropOldest 0 = .ok (.iconst 1, 1) := by decide +kernel
theorem dX0_dropOldest_1 : decode cX0_dropOldest 1 = .ok (.istore_n 1, 1) := by decide +kernel
theorem dX0_dropOldest_2 : decode cX0_dropOldest 2 = .ok (.iload_n 1, 1) := by decide +kernel
theorem dX0_dropOldest_3 : decode cX0_dropOldest 3 = .ok (.aload_n 0, 1) := by decide +kernel
theorem dX0_dropOldest_4 : decode cX0_dropOldest 4 = .ok (.getfield 13, 3) := by decide +kernel
theorem dX0_dropOldest_7 : decode cX0_dropOldest 7 = .ok (.arraylength, 1) := by decide +kernel
theorem dX0_dropOldest_8 : decode cX0_dropOldest 8 = .ok (.if_icmp .ge 39, 3) := by decide +kernel
theorem dX0_dropOldest_11 : decode cX0_dropOldest 11 = .ok (.aload_n 0, 1) := by decide +kernel
theorem dX0_dropOldest_12 : decode cX0_dropOldest 12 = .ok (.getfield 13, 3) := by decide +kernel
theorem dX0_dropOldest_15 : decode cX0_dropOldest 15 = .ok (.iload_n 1, 1) := by decide +kernel
theorem dX0_dropOldest_16 : decode cX0_dropOldest 16 = .ok (.iconst 1, 1) := by decide +kernel
theorem dX0_dropOldest_17 : decode cX0_dropOldest 17 = .ok (.isub, 1) := by decide +kernel
theorem dX0_dropOldest_18 : decode cX0_dropOldest 18 = .ok (.aaload, 1) := by decide +kernel
theorem dX0_dropOldest_19 : decode cX0_dropOldest 19 = .ok (.astore_n 2, 1) := by decide +kernel
theorem dX0_dropOldest_20 : decode cX0_dropOldest 20 = .ok (.aload_n 0, 1) := by decide +kernel
theorem dX0_dropOldest_21 : decode cX0_dropOldest 21 = .ok (.getfield 13, 3) := by decide +kernel
theorem dX0_dropOldest_24 : decode cX0_dropOldest 24 = .ok (.iload_n 1, 1) := by decide +kernel
theorem dX0_dropOldest_25 : decode cX0_dropOldest 25 = .ok (.iconst 1, 1) := by decide +kernel
theorem dX0_dropOldest_26 : decode cX0_dropOldest 26 = .ok (.isub, 1) := by decide +kernel
theorem dX0_dropOldest_27 : decode cX0_dropOldest 27 = .ok (.aload_n 0, 1) := by decide +kernel
theorem dX0_dropOldest_28 : decode cX0_dropOldest 28 = .ok (.getfield 13, 3) := by decide +kernel
theorem dX0_dropOldest_31 : decode cX0_dropOldest 31 = .ok (.iload_n 1, 1) := by decide +kernel
theorem dX0_dropOldest_32 : decode cX0_dropOldest 32 = .ok (.aaload, 1) := by decide +kernel
theorem dX0_dropOldest_33 : decode cX0_dropOldest 33 = .ok (.aastore, 1) := by decide +kernel
theorem dX0_dropOldest_34 : decode cX0_dropOldest 34 = .ok (.aload_n 0, 1) := by decide +kernel
theorem dX0_dropOldest_35 : decode cX0_dropOldest 35 = .ok (.getfield 13, 3) := by decide +kernel
theorem dX0_dropOldest_38 : decode cX0_dropOldest 38 = .ok (.iload_n 1, 1) := by decide +kernel
theorem dX0_dropOldest_39 : decode cX0_dropOldest 39 = .ok (.aload_n 2, 1) := by decide +kernel
theorem dX0_dropOldest_40 : decode cX0_dropOldest 40 = .ok (.aastore, 1) := by decide +kernel
theorem dX0_dropOldest_41 : decode cX0_dropOldest 41 = .ok (.iinc 1 1, 3) := by decide +kernel
theorem dX0_dropOldest_44 : decode cX0_dropOldest 44 = .ok (.goto (-42), 3) := by decide +kernel
theorem dX0_dropOldest_47 : decode cX0_dropOldest 47 = .ok (.aload_n 0, 1) := by decide +kernel
theorem dX0_dropOldest_48 : decode cX0_dropOldest 48 = .ok (.dup, 1) := by decide +kernel
theorem dX0_dropOldest_49 : decode cX0_dropOldest 49 = .ok (.getfield 18, 3) := by decide +kernel
theorem dX0_dropOldest_52 : decode cX0_dropOldest 52 = .ok (.iconst 1, 1) := by decide +kernel
theorem dX0_dropOldest_53 : decode cX0_dropOldest 53 = .ok (.isub, 1) := by decide +kernel
theorem dX0_dropOldest_54 : decode cX0_dropOldest 54 = .ok (.putfield 18, 3) := by decide +kernel
theorem dX0_dropOldest_57 : decode cX0_dropOldest 57 = .ok (.return_, 1) := by decide +kernel
theorem dX0_stepBack_0 : decode cX0_stepBack 0 = .ok (.aload_n 0, 1) := by decide +kernel
theorem dX0_stepBack_1 : decode cX0_stepBack 1 = .ok (.aload_n 0, 1) := by decide +kernel
theorem dX0_stepBack_2 : decode cX0_stepBack 2 = .ok (.getfield 18, 3) := by decide +kernel
theorem dX0_stepBack_5 : decode cX0_stepBack 5 = .ok (.iconst 1, 1) := by decide +kernel
theorem dX0_stepBack_6 : decode cX0_stepBack 6 = .ok (.isub, 1) := by decide +kernel
theorem dX0_stepBack_7 : decode cX0_stepBack 7 = .ok (.invokevirtual 22, 3) := by decide +kernel
theorem dX0_stepBack_10 : decode cX0_stepBack 10 = .ok (.astore_n 2, 1) := by decide +kernel
theorem dX0_stepBack_11 : decode cX0_stepBack 11 = .ok (.aload_n 2, 1) := by decide +kernel
theorem dX0_stepBack_12 : decode cX0_stepBack 12 = .ok (.ifnonnull 6, 3) := by decide +kernel
theorem dX0_stepBack_15 : decode cX0_stepBack 15 = .ok (.bipush (-2), 2) := by decide +kernel
theorem dX0_stepBack_17 : decode cX0_stepBack 17 = .ok (.ireturn, 1) := by decide +kernel
theorem dX0_stepBack_18 : decode cX0_stepBack 18 = .ok (.aload_n 1, 1) := by decide +kernel
theorem dX0_stepBack_19 : decode cX0_stepBack 19 = .ok (.aload_n 2, 1) := by decide +kernel
theorem dX0_stepBack_20 : decode cX0_stepBack 20 = .ok (.invokevirtual 26, 3) := by decide +kernel
theorem dX0_stepBack_23 : decode cX0_stepBack 23 = .ok (.aload_n 0, 1) := by decide +kernel
theorem dX0_stepBack_24 : decode cX0_stepBack 24 = .ok (.dup, 1) := by decide +kernel
theorem dX0_stepBack_25 : decode cX0_stepBack 25 = .ok (.getfield 18, 3) := by decide +kernel
theorem dX0_stepBack_28 : decode cX0_stepBack 28 = .ok (.iconst 1, 1) := by decide +kernel
theorem dX0_stepBack_29 : decode cX0_stepBack 29 = .ok (.isub, 1) := by decide +kernel
theorem dX0_stepBack_30 : decode cX0_stepBack 30 = .ok (.putfield 18, 3) := by decide +kernel
theorem dX0_stepBack_33 : decode cX0_stepBack 33 = .ok (.aload_n 0, 1) := by decide +kernel
theorem dX0_stepBack_34 : decode cX0_stepBack 34 = .ok (.getfield 18, 3) := by decide +kernel
theorem dX0_stepBack_37 : decode cX0_stepBack 37 = .ok (.ireturn, 1) := by decide +kernel
theorem dX1_init_0 : decode cX1_init 0 = .ok (.aload_n 0, 1) := by decide +kernel
theorem dX1_init_1 : decode cX1_init 1 = .ok (.invokespecial 3, 3) := by decide +kernel
theorem dX1_init_4 : decode cX1_init 4 = .ok (.aload_n 0, 1) := by decide +kernel
theorem dX1_init_5 : decode cX1_init 5 = .ok (.bipush 6, 2) := by decide +kernel
theorem dX1_init_7 : decode cX1_init 7 = .ok (.anewarray 9, 3) := by decide +kernel
theorem dX1_init_10 : decode cX1_init 10 = .ok (.putfield 11, 3) := by decide +kernel
theorem dX1_init_13 : decode cX1_init 13 = .ok (.aload_n 0, 1) := by decide +kernel
theorem dX1_init_14 : decode cX1_init 14 = .ok (.bipush 20, 2) := by decide +kernel
theorem dX1_init_16 : decode cX1_init 16 = .ok (.anewarray 17, 3) := by decide +kernel
theorem dX1_init_19 : decode cX1_init 19 = .ok (.putfield 19, 3) := by decide +kernel
theorem dX1_init_22 : decode cX1_init 22 = .ok (.aload_n 0, 1) := by decide +kernel
theorem dX1_init_23 : decode cX1_init 23 = .ok (.bipush 60, 2) := by decide +kernel
theorem dX1_init_25 : decode cX1_init 25 = .ok (.anewarray 23, 3) := by decide +kernel
theorem dX1_init_28 : decode cX1_init 28 = .ok (.putfield 25, 3) := by decide +kernel
theorem dX1_init_31 : decode cX1_init 31 = .ok (.aload_n 0, 1) := by decide +kernel
theorem dX1_init_32 : decode cX1_init 32 = .ok (.iconst 4, 1) := by decide +kernel
theorem dX1_init_33 : decode cX1_init 33 = .ok (.newarray .int, 2) := by decide +kernel
theorem dX1_init_35 : decode cX1_init 35 = .ok (.putfield 29, 3) := by decide +kernel
theorem dX1_init_38 : decode cX1_init 38 = .ok (.aload_n 0, 1) := by decide +kernel
theorem dX1_init_39 : decode cX1_init 39 = .ok (.iconst 4, 1) := by decide +kernel
theorem dX1_init_40 : decode cX1_init 40 = .ok (.newarray .int, 2) := by decide +kernel
theorem dX1_init_42 : decode cX1_init 42 = .ok (.putfield 33, 3) := by decide +kernel
theorem dX1_init_45 : decode cX1_init 45 = .ok (.aload_n 0, 1) := by decide +kernel
theorem dX1_init_46 : decode cX1_init 46 = .ok (.new 36, 3) := by decide +kernel
theorem dX1_init_49 : decode cX1_init 49 = .ok (.dup, 1) := by decide +kernel
theorem dX1_init_50 : decode cX1_init 50 = .ok (.invokespecial 38, 3) := by decide +kernel
theorem dX1_init_53 : decode cX1_init 53 = .ok (.putfield 39, 3) := by decide +kernel
theorem dX1_init_56 : decode cX1_init 56 = .ok (.iconst 0, 1) := by decide +kernel
theorem dX1_init_57 : decode cX1_init 57 = .ok (.istore_n 1, 1) := by decide +kernel
theorem dX1_init_58 : decode cX1_init 58 = .ok (.iload_n 1, 1) := by decide +kernel
theorem dX1_init_59 : decode cX1_init 59 = .ok (.aload_n 0, 1) := by decide +kernel
theorem dX1_init_60 : decode cX1_init 60 = .ok (.getfield 11, 3) := by decide +kernel
theorem dX1_init_63 : decode cX1_init 63 = .ok (.arraylength, 1) := by decide +kernel
theorem dX1_init_64 : decode cX1_init 64 = .ok (.if_icmp .ge 22, 3) := by decide +kernel
theorem dX1_init_67 : decode cX1_init 67 = .ok (.aload_n 0, 1) := by decide +kernel
theorem dX1_init_68 : decode cX1_init 68 = .ok (.getfield 11, 3) := by decide +kernel
theorem dX1_init_71 : decode cX1_init 71 = .ok (.iload_n 1, 1) := by decide +kernel
theorem dX1_init_72 : decode cX1_init 72 = .ok (.new 9, 3) := by decide +kernel
theorem dX1_init_75 : decode cX1_init 75 = .ok (.dup, 1) := by decide +kernel
theorem dX1_init_76 : decode cX1_init 76 = .ok (.invokespecial 43, 3) := by decide +kernel
theorem dX1_init_79 : decode cX1_init 79 = .ok (.aastore, 1) := by decide +kernel
theorem dX1_init_80 : decode cX1_init 80 = .ok (.iinc 1 1, 3) := by decide +kernel
theorem dX1_init_83 : decode cX1_init 83 = .ok (.goto (-25), 3) := by decide +kernel
theorem dX1_init_86 : decode cX1_init 86 = .ok (.iconst 0, 1) := by decide +kernel
theorem dX1_init_87 : decode cX1_init 87 = .ok (.istore_n 1, 1) := by decide +kernel
theorem dX1_init_88 : decode cX1_init 88 = .ok (.iload_n 1, 1) := by decide +kernel
theorem dX1_init_89 : decode cX1_init 89 = .ok (.aload_n 0, 1) := by decide +kernel
theorem dX1_init_90 : decode cX1_init 90 = .ok (.getfield 19, 3) := by decide +kernel
theorem dX1_init_93 : decode cX1_init 93 = .ok (.arraylength, 1) := by decide +kernel
theorem dX1_init_94 : decode cX1_init 94 = .ok (.if_icmp .ge 22, 3) := by decide +kernel
theorem dX1_init_97 : decode cX1_init 97 = .ok (.aload_n 0, 1) := by decide +kernel
theorem dX1_init_98 : decode cX1_init 98 = .ok (.getfield 19, 3) := by decide +kernel
theorem dX1_init_101 : decode cX1_init 101 = .ok (.iload_n 1, 1) := by decide +kernel
theorem dX1_init_102 : decode cX1_init 102 = .ok (.new 17, 3) := by decide +kernel
theorem dX1_init_105 : decode cX1_init 105 = .ok (.dup, 1) := by decide +kernel
theorem dX1_init_106 : decode cX1_init 106 = .ok (.invokespecial 44, 3) := by decide +kernel
theorem dX1_init_109 : decode cX1_init 109 = .ok (.aastore, 1) := by decide +kernel
theorem dX1_init_110 : decode cX1_init 110 = .ok (.iinc 1 1, 3) := by decide +kernel
theorem dX1_init_113 : decode cX1_init 113 = .ok (.goto (-25), 3) := by decide +kernel
theorem dX1_init_116 : decode cX1_init 116 = .ok (.iconst 0, 1) := by decide +kernel
theorem dX1_init_117 : decode cX1_init 117 = .ok (.istore_n 1, 1) := by decide +kernel
theorem dX1_init_118 : decode cX1_init 118 = .ok (.iload_n 1, 1) := by decide +kernel
theorem dX1_init_119 : decode cX1_init 119 = .ok (.aload_n 0, 1) := by decide +kernel
theorem dX1_init_120 : decode cX1_init 120 = .ok (.getfield 25, 3) := by decide +kernel
theorem dX1_init_123 : decode cX1_init 123 = .ok (.arraylength, 1) := by decide +kernel
theorem dX1_init_124 : decode cX1_init 124 = .ok (.if_icmp .ge 22, 3) := by decide +kernel
theorem dX1_init_127 : decode cX1_init 127 = .ok (.aload_n 0, 1) := by decide +kernel
theorem dX1_init_128 : decode cX1_init 128 = .ok (.getfield 25, 3) := by decide +kernel
theorem dX1_init_131 : decode cX1_init 131 = .ok (.iload_n 1, 1) := by decide +kernel
theorem dX1_init_132 : decode cX1_init 132 = .ok (.new 23, 3) := by decide +kernel
theorem dX1_init_135 : decode cX1_init 135 = .ok (.dup, 1) := by decide +kernel
theorem dX1_init_136 : decode cX1_init 136 = .ok (.invokespecial 45, 3) := by decide +kernel
theorem dX1_init_139 : decode cX1_init 139 = .ok (.aastore, 1) := by decide +kernel
theorem dX1_init_140 : decode cX1_init 140 = .ok (.iinc 1 1, 3) := by decide +kernel
theorem dX1_init_143 : decode cX1_init 143 = .ok (.goto (-25), 3) := by decide +kernel
theorem dX1_init_146 : decode cX1_init 146 = .ok (.return_, 1) := by decide +kernel
theorem dX1_copyFrom_0 : decode cX1_copyFrom 0 = .ok (.aload_n 0, 1) := by decide +kernel
theorem dX1_copyFrom_1 : decode cX1_copyFrom 1 = .ok (.aload_n 1, 1) := by decide +kernel
theorem dX1_copyFrom_2 : decode cX1_copyFrom 2 = .ok (.getfield 46, 3) := by decide +kernel
theorem dX1_copyFrom_5 : decode cX1_copyFrom 5 = .ok (.putfield 46, 3) := by decide +kernel
theorem dX1_copyFrom_8 : decode cX1_copyFrom 8 = .ok (.aload_n 0, 1) := by decide +kernel
theorem dX1_copyFrom_9 : decode cX1_copyFrom 9 = .ok (.aload_n 1, 1) := by decide +kernel
theorem dX1_copyFrom_10 : decode cX1_copyFrom 10 = .ok (.getfield 50, 3) := by decide +kernel
theorem dX1_copyFrom_13 : decode cX1_copyFrom 13 = .ok (.putfield 50, 3) := by decide +kernel
theorem dX1_copyFrom_16 : decode cX1_copyFrom 16 = .ok (.aload_n 0, 1) := by decide +kernel
theorem dX1_copyFrom_17 : decode cX1_copyFrom 17 = .ok (.aload_n 1, 1) := by decide +kernel
theorem dX1_copyFrom_18 : decode cX1_copyFrom 18 = .ok (.getfield 53, 3) := by decide +kernel
theorem dX1_copyFrom_21 : decode cX1_copyFrom 21 = .ok (.putfield 53, 3) := by decide +kernel
theorem dX1_copyFrom_24 : decode cX1_copyFrom 24 = .ok (.aload_n 0, 1) := by decide +kernel
theorem dX1_copyFrom_25 : decode cX1_copyFrom 25 = .ok (.aload_n 1, 1) := by decide +kernel
theorem dX1_copyFrom_26 : decode cX1_copyFrom 26 = .ok (.getfield 56, 3) := by decide +kernel
theorem dX1_copyFrom_29 : decode cX1_copyFrom 29 = .ok (.putfield 56, 3) := by decide +kernel
theorem dX1_copyFrom_32 : decode cX1_copyFrom 32 = .ok (.aload_n 1, 1) := by decide +kernel
theorem dX1_copyFrom_33 : decode cX1_copyFrom 33 = .ok (.getfield 29, 3) := by decide +kernel
theorem dX1_copyFrom_36 : decode cX1_copyFrom 36 = .ok (.aload_n 0, 1) := by decide +kernel
theorem dX1_copyFrom_37 : decode cX1_copyFrom 37 = .ok (.getfield 29, 3) := by decide +kernel
theorem dX1_copyFrom_40 : decode cX1_copyFrom 40 = .ok (.invokestatic 59, 3) := by decide +kernel
theorem dX1_copyFrom_43 : decode cX1_copyFrom 43 = .ok (.aload_n 1, 1) := by decide +kernel
theorem dX1_copyFrom_44 : decode cX1_copyFrom 44 = .ok (.getfield 33, 3) := by decide +kernel
theorem dX1_copyFrom_47 : decode cX1_copyFrom 47 = .ok (.aload_n 0, 1) := by decide +kernel
theorem dX1_copyFrom_48 : decode cX1_copyFrom 48 = .ok (.getfield 33, 3) := by decide +kernel
theorem dX1_copyFrom_51 : decode cX1_copyFrom 51 = .ok (.invokestatic 59, 3) := by decide +kernel
theorem dX1_copyFrom_54 : decode cX1_copyFrom 54 = .ok (.aload_n 0, 1) := by decide +kernel
theorem dX1_copyFrom_55 : decode cX1_copyFrom 55 = .ok (.getfield 39, 3) := by decide +kernel
theorem dX1_copyFrom_58 : decode cX1_copyFrom 58 = .ok (.aload_n 1, 1) := by decide +kernel
theorem dX1_copyFrom_59 : decode cX1_copyFrom 59 = .ok (.getfield 39, 3) := by decide +kernel
theorem dX1_copyFrom_62 : decode cX1_copyFrom 62 = .ok (.invokevirtual 63, 3) := by decide +kernel
theorem dX1_copyFrom_65 : decode cX1_copyFrom 65 = .ok (.aload_n 0, 1) := by decide +kernel
theorem dX1_copyFrom_66 : decode cX1_copyFrom 66 = .ok (.aload_n 1, 1) := by decide +kernel
theorem dX1_copyFrom_67 : decode cX1_copyFrom 67 = .ok (.getfield 11, 3) := by decide +kernel
theorem dX1_copyFrom_70 : decode cX1_copyFrom 70 = .ok (.invokevirtual 67, 3) := by decide +kernel
theorem dX1_copyFrom_73 : decode cX1_copyFrom 73 = .ok (.aload_n 0, 1) := by decide +kernel
theorem dX1_copyFrom_74 : decode cX1_copyFrom 74 = .ok (.aload_n 1, 1) := by decide +kernel
theorem dX1_copyFrom_75 : decode cX1_copyFrom 75 = .ok (.getfield 19, 3) := by decide +kernel
theorem dX1_copyFrom_78 : decode cX1_copyFrom 78 = .ok (.invokevirtual 71, 3) := by decide +kernel
theorem dX1_copyFrom_81 : decode cX1_copyFrom 81 = .ok (.aload_n 0, 1) := by decide +kernel
theorem dX1_copyFrom_82 : decode cX1_copyFrom 82 = .ok (.aload_n 1, 1) := by decide +kernel
theorem dX1_copyFrom_83 : decode cX1_copyFrom 83 = .ok (.getfield 25, 3) := by decide +kernel
theorem dX1_copyFrom_86 : decode cX1_copyFrom 86 = .ok (.invokevirtual 75, 3) := by decide +kernel
theorem dX1_copyFrom_89 : decode cX1_copyFrom 89 = .ok (.return_, 1) := by decide +kernel
theorem dX1_copyVats_0 : decode cX1_copyVats 0 = .ok (.iconst 0, 1) := by decide +kernel
theorem dX1_copyVats_1 : decode cX1_copyVats 1 = .ok (.istore_n 2, 1) := by decide +kernel
theorem dX1_copyVats_2 : decode cX1_copyVats 2 = .ok (.iload_n 2, 1) := by decide +kernel
theorem dX1_copyVats_3 : decode cX1_copyVats 3 = .ok (.aload_n 0, 1) := by decide +kernel
theorem dX1_copyVats_4 : decode cX1_copyVats 4 = .ok (.getfield 11, 3) := by decide +kernel
theorem dX1_copyVats_7 : decode cX1_copyVats 7 = .ok (.arraylength, 1) := by decide +kernel
theorem dX1_copyVats_8 : decode cX1_copyVats 8 = .ok (.if_icmp .ge 42, 3) := by decide +kernel
theorem dX1_copyVats_11 : decode cX1_copyVats 11 = .ok (.iload_n 2, 1) := by decide +kernel
theorem dX1_copyVats_12 : decode cX1_copyVats 12 = .ok (.aload_n 1, 1) := by decide +kernel
theorem dX1_copyVats_13 : decode cX1_copyVats 13 = .ok (.arraylength, 1) := by decide +kernel
theorem dX1_copyVats_14 : decode cX1_copyVats 14 = .ok (.if_icmp .ge 36, 3) := by decide +kernel
theorem dX1_copyVats_17 : decode cX1_copyVats 17 = .ok (.aload_n 1, 1) := by decide +kernel
theorem dX1_copyVats_18 : decode cX1_copyVats 18 = .ok (.iload_n 2, 1) := by decide +kernel
theorem dX1_copyVats_19 : decode cX1_copyVats 19 = .ok (.aaload, 1) := by decide +kernel
theorem dX1_copyVats_20 : decode cX1_copyVats 20 = .ok (.astore_n 3, 1) := by decide +kernel
theorem dX1_copyVats_21 : decode cX1_copyVats 21 = .ok (.aload_n 0, 1) := by decide +kernel
theorem dX1_copyVats_22 : decode cX1_copyVats 22 = .ok (.getfield 11, 3) := by decide +kernel
theorem dX1_copyVats_25 : decode cX1_copyVats 25 = .ok (.iload_n 2, 1) := by decide +kernel
theorem dX1_copyVats_26 : decode cX1_copyVats 26 = .ok (.aaload, 1) := by decide +kernel
theorem dX1_copyVats_27 : decode cX1_copyVats 27 = .ok (.astore 4, 2) := by decide +kernel
theorem dX1_copyVats_29 : decode cX1_copyVats 29 = .ok (.aload_n 3, 1) := by decide +kernel
theorem dX1_copyVats_30 : decode cX1_copyVats 30 = .ok (.ifnull 14, 3) := by decide +kernel
theorem dX1_copyVats_33 : decode cX1_copyVats 33 = .ok (.aload 4, 2) := by decide +kernel
theorem dX1_copyVats_35 : decode cX1_copyVats 35 = .ok (.ifnull 9, 3) := by decide +kernel
theorem dX1_copyVats_38 : decode cX1_copyVats 38 = .ok (.aload 4, 2) := by decide +kernel
theorem dX1_copyVats_40 : decode cX1_copyVats 40 = .ok (.aload_n 3, 1) := by decide +kernel
theorem dX1_copyVats_41 : decode cX1_copyVats 41 = .ok (.invokevirtual 79, 3) := by decide +kernel
theorem dX1_copyVats_44 : decode cX1_copyVats 44 = .ok (.iinc 2 1, 3) := by decide +kernel
theorem dX1_copyVats_47 : decode cX1_copyVats 47 = .ok (.goto (-45), 3) := by decide +kernel
theorem dX1_copyVats_50 : decode cX1_copyVats 50 = .ok (.return_, 1) := by decide +kernel
theorem dX1_copyLots_0 : decode cX1_copyLots 0 = .ok (.iconst 0, 1) := by decide +kernel
theorem dX1_copyLots_1 : decode cX1_copyLots 1 = .ok (.istore_n 2, 1) := by decide +kernel
theorem dX1_copyLots_2 : decode cX1_copyLots 2 = .ok (.iload_n 2, 1) := by decide +kernel
theorem dX1_copyLots_3 : decode cX1_copyLots 3 = .ok (.aload_n 0, 1) := by decide +kernel
theorem dX1_copyLots_4 : decode cX1_copyLots 4 = .ok (.getfield 19, 3) := by decide +kernel
theorem dX1_copyLots_7 : decode cX1_copyLots 7 = .ok (.arraylength, 1) := by decide +kernel
theorem dX1_copyLots_8 : decode cX1_copyLots 8 = .ok (.if_icmp .ge 42, 3) := by decide +kernel
theorem dX1_copyLots_11 : decode cX1_copyLots 11 = .ok (.iload_n 2, 1) := by decide +kernel
theorem dX1_copyLots_12 : decode cX1_copyLots 12 = .ok (.aload_n 1, 1) := by decide +kernel
theorem dX1_copyLots_13 : decode cX1_copyLots 13 = .ok (.arraylength, 1) := by decide +kernel
theorem dX1_copyLots_14 : decode cX1_copyLots 14 = .ok (.if_icmp .ge 36, 3) := by decide +kernel
theorem dX1_copyLots_17 : decode cX1_copyLots 17 = .ok (.aload_n 1, 1) := by decide +kernel
theorem dX1_copyLots_18 : decode cX1_copyLots 18 = .ok (.iload_n 2, 1) := by decide +kernel
theorem dX1_copyLots_19 : decode cX1_copyLots 19 = .ok (.aaload, 1) := by decide +kernel
theorem dX1_copyLots_20 : decode cX1_copyLots 20 = .ok (.astore_n 3, 1) := by decide +kernel
theorem dX1_copyLots_21 : decode cX1_copyLots 21 = .ok (.aload_n 0, 1) := by decide +kernel
theorem dX1_copyLots_22 : decode cX1_copyLots 22 = .ok (.getfield 19, 3) := by decide +kernel
theorem dX1_copyLots_25 : decode cX1_copyLots 25 = .ok (.iload_n 2, 1) := by decide +kernel
theorem dX1_copyLots_26 : decode cX1_copyLots 26 = .ok (.aaload, 1) := by decide +kernel
theorem dX1_copyLots_27 : decode cX1_copyLots 27 = .ok (.astore 4, 2) := by decide +kernel
theorem dX1_copyLots_29 : decode cX1_copyLots 29 = .ok (.aload_n 3, 1) := by decide +kernel
theorem dX1_copyLots_30 : decode cX1_copyLots 30 = .ok (.ifnull 14, 3) := by decide +kernel
theorem dX1_copyLots_33 : decode cX1_copyLots 33 = .ok (.aload 4, 2) := by decide +kernel
theorem dX1_copyLots_35 : decode cX1_copyLots 35 = .ok (.ifnull 9, 3) := by decide +kernel
theorem dX1_copyLots_38 : decode cX1_copyLots 38 = .ok (.aload 4, 2) := by decide +kernel
theorem dX1_copyLots_40 : decode cX1_copyLots 40 = .ok (.aload_n 3, 1) := by decide +kernel
theorem dX1_copyLots_41 : decode cX1_copyLots 41 = .ok (.invokevirtual 82, 3) := by decide +kernel
theorem dX1_copyLots_44 : decode cX1_copyLots 44 = .ok (.iinc 2 1, 3) := by decide +kernel
theorem dX1_copyLots_47 : decode cX1_copyLots 47 = .ok (.goto (-45), 3) := by decide +kernel
theorem dX1_copyLots_50 : decode cX1_copyLots 50 = .ok (.return_, 1) := by decide +kernel
theorem dX1_copyOrders_0 : decode cX1_copyOrders 0 = .ok (.iconst 0, 1) := by decide +kernel
theorem dX1_copyOrders_1 : decode cX1_copyOrders 1 = .ok (.istore_n 2, 1) := by decide +kernel
theorem dX1_copyOrders_2 : decode cX1_copyOrders 2 = .ok (.iload_n 2, 1) := by decide +kernel
theorem dX1_copyOrders_3 : decode cX1_copyOrders 3 = .ok (.aload_n 0, 1) := by decide +kernel
theorem dX1_copyOrders_4 : decode cX1_copyOrders 4 = .ok (.getfield 25, 3) := by decide +kernel
theorem dX1_copyOrders_7 : decode cX1_copyOrders 7 = .ok (.arraylength, 1) := by decide +kernel
theorem dX1_copyOrders_8 : decode cX1_copyOrders 8 = .ok (.if_icmp .ge 42, 3) := by decide +kernel
theorem dX1_copyOrders_11 : decode cX1_copyOrders 11 = .ok (.iload_n 2, 1) := by decide +kernel
theorem dX1_copyOrders_12 : decode cX1_copyOrders 12 = .ok (.aload_n 1, 1) := by decide +kernel
theorem dX1_copyOrders_13 : decode cX1_copyOrders 13 = .ok (.arraylength, 1) := by decide +kernel
theorem dX1_copyOrders_14 : decode cX1_copyOrders 14 = .ok (.if_icmp .ge 36, 3) := by decide +kernel
theorem dX1_copyOrders_17 : decode cX1_copyOrders 17 = .ok (.aload_n 1, 1) := by decide +kernel
theorem dX1_copyOrders_18 : decode cX1_copyOrders 18 = .ok (.iload_n 2, 1) := by decide +kernel
theorem dX1_copyOrders_19 : decode cX1_copyOrders 19 = .ok (.aaload, 1) := by decide +kernel
theorem dX1_copyOrders_20 : decode cX1_copyOrders 20 = .ok (.astore_n 3, 1) := by decide +kernel
theorem dX1_copyOrders_21 : decode cX1_copyOrders 21 = .ok (.aload_n 0, 1) := by decide +kernel
theorem dX1_copyOrders_22 : decode cX1_copyOrders 22 = .ok (.getfield 25, 3) := by decide +kernel
theorem dX1_copyOrders_25 : decode cX1_copyOrders 25 = .ok (.iload_n 2, 1) := by decide +kernel
theorem dX1_copyOrders_26 : decode cX1_copyOrders 26 = .ok (.aaload, 1) := by decide +kernel
theorem dX1_copyOrders_27 : decode cX1_copyOrders 27 = .ok (.astore 4, 2) := by decide +kernel
theorem dX1_copyOrders_29 : decode cX1_copyOrders 29 = .ok (.aload_n 3, 1) := by decide +kernel
theorem dX1_copyOrders_30 : decode cX1_copyOrders 30 = .ok (.ifnull 14, 3) := by decide +kernel
theorem dX1_copyOrders_33 : decode cX1_copyOrders 33 = .ok (.aload 4, 2) := by decide +kernel
theorem dX1_copyOrders_35 : decode cX1_copyOrders 35 = .ok (.ifnull 9, 3) := by decide +kernel
theorem dX1_copyOrders_38 : decode cX1_copyOrders 38 = .ok (.aload 4, 2) := by decide +kernel
theorem dX1_copyOrders_40 : decode cX1_copyOrders 40 = .ok (.aload_n 3, 1) := by decide +kernel
theorem dX1_copyOrders_41 : decode cX1_copyOrders 41 = .ok (.invokevirtual 85, 3) := by decide +kernel
theorem dX1_copyOrders_44 : decode cX1_copyOrders 44 = .ok (.iinc 2 1, 3) := by decide +kernel
theorem dX1_copyOrders_47 : decode cX1_copyOrders 47 = .ok (.goto (-45), 3) := by decide +kernel
theorem dX1_copyOrders_50 : decode cX1_copyOrders 50 = .ok (.return_, 1) := by decide +kernel
theorem dX1_findVat_0 : decode cX1_findVat 0 = .ok (.iload_n 1, 1) := by decide +kernel
theorem dX1_findVat_1 : decode cX1_findVat 1 = .ok (.ifCond .lt 24, 3) := by decide +kernel
theorem dX1_findVat_4 : decode cX1_findVat 4 = .ok (.iload_n 1, 1) := by decide +kernel
theorem dX1_findVat_5 : decode cX1_findVat 5 = .ok (.aload_n 0, 1) := by decide +kernel
theorem dX1_findVat_6 : decode cX1_findVat 6 = .ok (.getfield 46, 3) := by decide +kernel
theorem dX1_findVat_9 : decode cX1_findVat 9 = .ok (.if_icmp .ge 16, 3) := by decide +kernel
theorem dX1_findVat_12 : decode cX1_findVat 12 = .ok (.iload_n 1, 1) := by decide +kernel
theorem dX1_findVat_13 : decode cX1_findVat 13 = .ok (.aload_n 0, 1) := by decide +kernel
theorem dX1_findVat_14 : decode cX1_findVat 14 = .ok (.getfield 11, 3) := by decide +kernel
theorem dX1_findVat_17 : decode cX1_findVat 17 = .ok (.arraylength, 1) := by decide +kernel
theorem dX1_findVat_18 : decode cX1_findVat 18 = .ok (.if_icmp .ge 7, 3) := by decide +kernel
theorem dX1_findVat_21 : decode cX1_findVat 21 = .ok (.iconst 1, 1) := by decide +kernel
theorem dX1_findVat_22 : decode cX1_findVat 22 = .ok (.goto 4, 3) := by decide +kernel
theorem dX1_findVat_25 : decode cX1_findVat 25 = .ok (.iconst 0, 1) := by decide +kernel
theorem dX1_findVat_26 : decode cX1_findVat 26 = .ok (.istore_n 2, 1) := by decide +kernel
theorem dX1_findVat_27 : decode cX1_findVat 27 = .ok (.iload_n 2, 1) := by decide +kernel
theorem dX1_findVat_28 : decode cX1_findVat 28 = .ok (.ifCond .eq 12, 3) := by decide +kernel
theorem dX1_findVat_31 : decode cX1_findVat 31 = .ok (.aload_n 0, 1) := by decide +kernel
theorem dX1_findVat_32 : decode cX1_findVat 32 = .ok (.getfield 11, 3) := by decide +kernel
theorem dX1_findVat_35 : decode cX1_findVat 35 = .ok (.iload_n 1, 1) := by decide +kernel
theorem dX1_findVat_36 : decode cX1_findVat 36 = .ok (.aaload, 1) := by decide +kernel
theorem dX1_findVat_37 : decode cX1_findVat 37 = .ok (.goto 4, 3) := by decide +kernel
theorem dX1_findVat_40 : decode cX1_findVat 40 = .ok (.aconst_null, 1) := by decide +kernel
theorem dX1_findVat_41 : decode cX1_findVat 41 = .ok (.areturn, 1) := by decide +kernel
theorem dX1_findLot_0 : decode cX1_findLot 0 = .ok (.iload_n 1, 1) := by decide +kernel
theorem dX1_findLot_1 : decode cX1_findLot 1 = .ok (.ifCond .lt 24, 3) := by decide +kernel
theorem dX1_findLot_4 : decode cX1_findLot 4 = .ok (.iload_n 1, 1) := by decide +kernel
theorem dX1_findLot_5 : decode cX1_findLot 5 = .ok (.aload_n 0, 1) := by decide +kernel
theorem dX1_findLot_6 : decode cX1_findLot 6 = .ok (.getfield 50, 3) := by decide +kernel
theorem dX1_findLot_9 : decode cX1_findLot 9 = .ok (.if_icmp .ge 16, 3) := by decide +kernel
theorem dX1_findLot_12 : decode cX1_findLot 12 = .ok (.iload_n 1, 1) := by decide +kernel
theorem dX1_findLot_13 : decode cX1_findLot 13 = .ok (.aload_n 0, 1) := by decide +kernel
theorem dX1_findLot_14 : decode cX1_findLot 14 = .ok (.getfield 19, 3) := by decide +kernel
theorem dX1_findLot_17 : decode cX1_findLot 17 = .ok (.arraylength, 1) := by decide +kernel
theorem dX1_findLot_18 : decode cX1_findLot 18 = .ok (.if_icmp .ge 7, 3) := by decide +kernel
theorem dX1_findLot_21 : decode cX1_findLot 21 = .ok (.iconst 1, 1) := by decide +kernel
theorem dX1_findLot_22 : decode cX1_findLot 22 = .ok (.goto 4, 3) := by decide +kernel
theorem dX1_findLot_25 : decode cX1_findLot 25 = .ok (.iconst 0, 1) := by decide +kernel
theorem dX1_findLot_26 : decode cX1_findLot 26 = .ok (.istore_n 2, 1) := by decide +kernel
theorem dX1_findLot_27 : decode cX1_findLot 27 = .ok (.iload_n 2, 1) := by decide +kernel
theorem dX1_findLot_28 : decode cX1_findLot 28 = .ok (.ifCond .eq 12, 3) := by decide +kernel
theorem dX1_findLot_31 : decode cX1_findLot 31 = .ok (.aload_n 0, 1) := by decide +kernel
theorem dX1_findLot_32 : decode cX1_findLot 32 = .ok (.getfield 19, 3) := by decide +kernel
theorem dX1_findLot_35 : decode cX1_findLot 35 = .ok (.iload_n 1, 1) := by decide +kernel
theorem dX1_findLot_36 : decode cX1_findLot 36 = .ok (.aaload, 1) := by decide +kernel
theorem dX1_findLot_37 : decode cX1_findLot 37 = .ok (.goto 4, 3) := by decide +kernel
theorem dX1_findLot_40 : decode cX1_findLot 40 = .ok (.aconst_null, 1) := by decide +kernel
theorem dX1_findLot_41 : decode cX1_findLot 41 = .ok (.areturn, 1) := by decide +kernel
theorem dX1_findOrder_0 : decode cX1_findOrder 0 = .ok (.iload_n 1, 1) := by decide +kernel
theorem dX1_findOrder_1 : decode cX1_findOrder 1 = .ok (.ifCond .lt 24, 3) := by decide +kernel
theorem dX1_findOrder_4 : decode cX1_findOrder 4 = .ok (.iload_n 1, 1) := by decide +kernel
theorem dX1_findOrder_5 : decode cX1_findOrder 5 = .ok (.aload_n 0, 1) := by decide +kernel
theorem dX1_findOrder_6 : decode cX1_findOrder 6 = .ok (.getfield 53, 3) := by decide +kernel
theorem dX1_findOrder_9 : decode cX1_findOrder 9 = .ok (.if_icmp .ge 16, 3) := by decide +kernel
theorem dX1_findOrder_12 : decode cX1_findOrder 12 = .ok (.iload_n 1, 1) := by decide +kernel
theorem dX1_findOrder_13 : decode cX1_findOrder 13 = .ok (.aload_n 0, 1) := by decide +kernel
theorem dX1_findOrder_14 : decode cX1_findOrder 14 = .ok (.getfield 25, 3) := by decide +kernel
theorem dX1_findOrder_17 : decode cX1_findOrder 17 = .ok (.arraylength, 1) := by decide +kernel
theorem dX1_findOrder_18 : decode cX1_findOrder 18 = .ok (.if_icmp .ge 7, 3) := by decide +kernel
theorem dX1_findOrder_21 : decode cX1_findOrder 21 = .ok (.iconst 1, 1) := by decide +kernel
theorem dX1_findOrder_22 : decode cX1_findOrder 22 = .ok (.goto 4, 3) := by decide +kernel
theorem dX1_findOrder_25 : decode cX1_findOrder 25 = .ok (.iconst 0, 1) := by decide +kernel
theorem dX1_findOrder_26 : decode cX1_findOrder 26 = .ok (.istore_n 2, 1) := by decide +kernel
theorem dX1_findOrder_27 : decode cX1_findOrder 27 = .ok (.iload_n 2, 1) := by decide +kernel
theorem dX1_findOrder_28 : decode cX1_findOrder 28 = .ok (.ifCond .eq 12, 3) := by decide +kernel
theorem dX1_findOrder_31 : decode cX1_findOrder 31 = .ok (.aload_n 0, 1) := by decide +kernel
theorem dX1_findOrder_32 : decode cX1_findOrder 32 = .ok (.getfield 25, 3) := by decide +kernel
theorem dX1_findOrder_35 : decode cX1_findOrder 35 = .ok (.iload_n 1, 1) := by decide +kernel
theorem dX1_findOrder_36 : decode cX1_findOrder 36 = .ok (.aaload, 1) := by decide +kernel
theorem dX1_findOrder_37 : decode cX1_findOrder 37 = .ok (.goto 4, 3) := by decide +kernel
theorem dX1_findOrder_40 : decode cX1_findOrder 40 = .ok (.aconst_null, 1) := by decide +kernel
theorem dX1_findOrder_41 : decode cX1_findOrder 41 = .ok (.areturn, 1) := by decide +kernel
theorem dX1_addVat_0 : decode cX1_addVat 0 = .ok (.iload_n 1, 1) := by decide +kernel
theorem dX1_addVat_1 : decode cX1_addVat 1 = .ok (.invokestatic 88, 3) := by decide +kernel
theorem dX1_addVat_4 : decode cX1_addVat 4 = .ok (.ifCond .eq 16, 3) := by decide +kernel
theorem dX1_addVat_7 : decode cX1_addVat 7 = .ok (.iload_n 2, 1) := by decide +kernel
theorem dX1_addVat_8 : decode cX1_addVat 8 = .ok (.bipush 10, 2) := by decide +kernel
theorem dX1_addVat_10 : decode cX1_addVat 10 = .ok (.if_icmp .lt 10, 3) := by decide +kernel
theorem dX1_addVat_13 : decode cX1_addVat 13 = .ok (.iload_n 2, 1) := by decide +kernel
theorem dX1_addVat_14 : decode cX1_addVat 14 = .ok (.sipush 1000, 3) := by decide +kernel
theorem dX1_addVat_17 : decode cX1_addVat 17 = .ok (.if_icmp .le 5, 3) := by decide +kernel
theorem dX1_addVat_20 : decode cX1_addVat 20 = .ok (.iconst (-1), 1) := by decide +kernel
theorem dX1_addVat_21 : decode cX1_addVat 21 = .ok (.ireturn, 1) := by decide +kernel
theorem dX1_addVat_22 : decode cX1_addVat 22 = .ok (.aload_n 0, 1) := by decide +kernel
theorem dX1_addVat_23 : decode cX1_addVat 23 = .ok (.getfield 46, 3) := by decide +kernel
theorem dX1_addVat_26 : decode cX1_addVat 26 = .ok (.aload_n 0, 1) := by decide +kernel
theorem dX1_addVat_27 : decode cX1_addVat 27 = .ok (.getfield 11, 3) := by decide +kernel
theorem dX1_addVat_30 : decode cX1_addVat 30 = .ok (.arraylength, 1) := by decide +kernel
theorem dX1_addVat_31 : decode cX1_addVat 31 = .ok (.if_icmp .lt 6, 3) := by decide +kernel
theorem dX1_addVat_34 : decode cX1_addVat 34 = .ok (.bipush (-3), 2) := by decide +kernel
theorem dX1_addVat_36 : decode cX1_addVat 36 = .ok (.ireturn, 1) := by decide +kernel
theorem dX1_addVat_37 : decode cX1_addVat 37 = .ok (.aload_n 0, 1) := by decide +kernel
theorem dX1_addVat_38 : decode cX1_addVat 38 = .ok (.dup, 1) := by decide +kernel
theorem dX1_addVat_39 : decode cX1_addVat 39 = .ok (.getfield 46, 3) := by decide +kernel
theorem dX1_addVat_42 : decode cX1_addVat 42 = .ok (.iconst 1, 1) := by decide +kernel
theorem dX1_addVat_43 : decode cX1_addVat 43 = .ok (.iadd, 1) := by decide +kernel
theorem dX1_addVat_44 : decode cX1_addVat 44 = .ok (.putfield 46, 3) := by decide +kernel
theorem dX1_addVat_47 : decode cX1_addVat 47 = .ok (.aload_n 0, 1) := by decide +kernel
theorem dX1_addVat_48 : decode cX1_addVat 48 = .ok (.aload_n 0, 1) := by decide +kernel
theorem dX1_addVat_49 : decode cX1_addVat 49 = .ok (.getfield 46, 3) := by decide +kernel
theorem dX1_addVat_52 : decode cX1_addVat 52 = .ok (.iconst 1, 1) := by decide +kernel
theorem dX1_addVat_53 : decode cX1_addVat 53 = .ok (.isub, 1) := by decide +kernel
theorem dX1_addVat_54 : decode cX1_addVat 54 = .ok (.invokevirtual 92, 3) := by decide +kernel
theorem dX1_addVat_57 : decode cX1_addVat 57 = .ok (.astore_n 3, 1) := by decide +kernel
theorem dX1_addVat_58 : decode cX1_addVat 58 = .ok (.aload_n 3, 1) := by decide +kernel
theorem dX1_addVat_59 : decode cX1_addVat 59 = .ok (.ifnull 13, 3) := by decide +kernel
theorem dX1_addVat_62 : decode cX1_addVat 62 = .ok (.aload_n 3, 1) := by decide +kernel
theorem dX1_addVat_63 : decode cX1_addVat 63 = .ok (.iload_n 1, 1) := by decide +kernel
theorem dX1_addVat_64 : decode cX1_addVat 64 = .ok (.putfield 96, 3) := by decide +kernel
theorem dX1_addVat_67 : decode cX1_addVat 67 = .ok (.aload_n 3, 1) := by decide +kernel
theorem dX1_addVat_68 : decode cX1_addVat 68 = .ok (.iload_n 2, 1) := by decide +kernel
theorem dX1_addVat_69 : decode cX1_addVat 69 = .ok (.putfield 99, 3) := by decide +kernel
theorem dX1_addVat_72 : decode cX1_addVat 72 = .ok (.aload_n 0, 1) := by decide +kernel
theorem dX1_addVat_73 : decode cX1_addVat 73 = .ok (.getfield 46, 3) := by decide +kernel
theorem dX1_addVat_76 : decode cX1_addVat 76 = .ok (.iconst 1, 1) := by decide +kernel
theorem dX1_addVat_77 : decode cX1_addVat 77 = .ok (.isub, 1) := by decide +kernel
theorem dX1_addVat_78 : decode cX1_addVat 78 = .ok (.ireturn, 1) := by decide +kernel
theorem dX1_weighInto_0 : decode cX1_weighInto 0 = .ok (.aload_n 0, 1) := by decide +kernel
theorem dX1_weighInto_1 : decode cX1_weighInto 1 = .ok (.iload_n 1, 1) := by decide +kernel
theorem dX1_weighInto_2 : decode cX1_weighInto 2 = .ok (.invokevirtual 92, 3) := by decide +kernel
theorem dX1_weighInto_5 : decode cX1_weighInto 5 = .ok (.astore_n 3, 1) := by decide +kernel
theorem dX1_weighInto_6 : decode cX1_weighInto 6 = .ok (.aload_n 3, 1) := by decide +kernel
theorem dX1_weighInto_7 : decode cX1_weighInto 7 = .ok (.ifnull 14, 3) := by decide +kernel
theorem dX1_weighInto_10 : decode cX1_weighInto 10 = .ok (.iload_n 2, 1) := by decide +kernel
theorem dX1_weighInto_11 : decode cX1_weighInto 11 = .ok (.iconst 1, 1) := by decide +kernel
theorem dX1_weighInto_12 : decode cX1_weighInto 12 = .ok (.if_icmp .lt 9, 3) := by decide +kernel
theorem dX1_weighInto_15 : decode cX1_weighInto 15 = .ok (.iload_n 2, 1) := by decide +kernel
theorem dX1_weighInto_16 : decode cX1_weighInto 16 = .ok (.ldc 102, 2) := by decide +kernel
theorem dX1_weighInto_18 : decode cX1_weighInto 18 = .ok (.if_icmp .le 5, 3) := by decide +kernel
theorem dX1_weighInto_21 : decode cX1_weighInto 21 = .ok (.iconst (-1), 1) := by decide +kernel
theorem dX1_weighInto_22 : decode cX1_weighInto 22 = .ok (.ireturn, 1) := by decide +kernel
theorem dX1_weighInto_23 : decode cX1_weighInto 23 = .ok (.aload_n 0, 1) := by decide +kernel
theorem dX1_weighInto_24 : decode cX1_weighInto 24 = .ok (.getfield 29, 3) := by decide +kernel
theorem dX1_weighInto_27 : decode cX1_weighInto 27 = .ok (.aload_n 3, 1) := by decide +kernel
theorem dX1_weighInto_28 : decode cX1_weighInto 28 = .ok (.getfield 96, 3) := by decide +kernel
theorem dX1_weighInto_31 : decode cX1_weighInto 31 = .ok (.invokestatic 103, 3) := by decide +kernel
theorem dX1_weighInto_34 : decode cX1_weighInto 34 = .ok (.iload_n 2, 1) := by decide +kernel
theorem dX1_weighInto_35 : decode cX1_weighInto 35 = .ok (.iadd, 1) := by decide +kernel
theorem dX1_weighInto_36 : decode cX1_weighInto 36 = .ok (.ldc 107, 2) := by decide +kernel
theorem dX1_weighInto_38 : decode cX1_weighInto 38 = .ok (.if_icmp .le 6, 3) := by decide +kernel
theorem dX1_weighInto_41 : decode cX1_weighInto 41 = .ok (.bipush (-3), 2) := by decide +kernel
theorem dX1_weighInto_43 : decode cX1_weighInto 43 = .ok (.ireturn, 1) := by decide +kernel
theorem dX1_weighInto_44 : decode cX1_weighInto 44 = .ok (.aload_n 0, 1) := by decide +kernel
theorem dX1_weighInto_45 : decode cX1_weighInto 45 = .ok (.getfield 29, 3) := by decide +kernel
theorem dX1_weighInto_48 : decode cX1_weighInto 48 = .ok (.aload_n 3, 1) := by decide +kernel
theorem dX1_weighInto_49 : decode cX1_weighInto 49 = .ok (.getfield 96, 3) := by decide +kernel
theorem dX1_weighInto_52 : decode cX1_weighInto 52 = .ok (.iload_n 2, 1) := by decide +kernel
theorem dX1_weighInto_53 : decode cX1_weighInto 53 = .ok (.invokestatic 108, 3) := by decide +kernel
theorem dX1_weighInto_56 : decode cX1_weighInto 56 = .ok (.aload_n 3, 1) := by decide +kernel
theorem dX1_weighInto_57 : decode cX1_weighInto 57 = .ok (.dup, 1) := by decide +kernel
theorem dX1_weighInto_58 : decode cX1_weighInto 58 = .ok (.getfield 112, 3) := by decide +kernel
theorem dX1_weighInto_61 : decode cX1_weighInto 61 = .ok (.iload_n 2, 1) := by decide +kernel
theorem dX1_weighInto_62 : decode cX1_weighInto 62 = .ok (.iadd, 1) := by decide +kernel
theorem dX1_weighInto_63 : decode cX1_weighInto 63 = .ok (.putfield 112, 3) := by decide +kernel
theorem dX1_weighInto_66 : decode cX1_weighInto 66 = .ok (.aload_n 3, 1) := by decide +kernel
theorem dX1_weighInto_67 : decode cX1_weighInto 67 = .ok (.getfield 112, 3) := by decide +kernel
theorem dX1_weighInto_70 : decode cX1_weighInto 70 = .ok (.ireturn, 1) := by decide +kernel
theorem dX1_drainVat_0 : decode cX1_drainVat 0 = .ok (.aload_n 0, 1) := by decide +kernel
theorem dX1_drainVat_1 : decode cX1_drainVat 1 = .ok (.iload_n 1, 1) := by decide +kernel
theorem dX1_drainVat_2 : decode cX1_drainVat 2 = .ok (.invokevirtual 92, 3) := by decide +kernel
theorem dX1_drainVat_5 : decode cX1_drainVat 5 = .ok (.astore_n 2, 1) := by decide +kernel
theorem dX1_drainVat_6 : decode cX1_drainVat 6 = .ok (.aload_n 2, 1) := by decide +kernel
theorem dX1_drainVat_7 : decode cX1_drainVat 7 = .ok (.ifnonnull 5, 3) := by decide +kernel
theorem dX1_drainVat_10 : decode cX1_drainVat 10 = .ok (.iconst (-1), 1) := by decide +kernel
theorem dX1_drainVat_11 : decode cX1_drainVat 11 = .ok (.ireturn, 1) := by decide +kernel
theorem dX1_drainVat_12 : decode cX1_drainVat 12 = .ok (.aload_n 2, 1) := by decide +kernel
theorem dX1_drainVat_13 : decode cX1_drainVat 13 = .ok (.getfield 112, 3) := by decide +kernel
theorem dX1_drainVat_16 : decode cX1_drainVat 16 = .ok (.istore_n 3, 1) := by decide +kernel
theorem dX1_drainVat_17 : decode cX1_drainVat 17 = .ok (.aload_n 0, 1) := by decide +kernel
theorem dX1_drainVat_18 : decode cX1_drainVat 18 = .ok (.getfield 33, 3) := by decide +kernel
theorem dX1_drainVat_21 : decode cX1_drainVat 21 = .ok (.aload_n 2, 1) := by decide +kernel
theorem dX1_drainVat_22 : decode cX1_drainVat 22 = .ok (.getfield 96, 3) := by decide +kernel
theorem dX1_drainVat_25 : decode cX1_drainVat 25 = .ok (.iload_n 3, 1) := by decide +kernel
theorem dX1_drainVat_26 : decode cX1_drainVat 26 = .ok (.invokestatic 108, 3) := by decide +kernel
theorem dX1_drainVat_29 : decode cX1_drainVat 29 = .ok (.aload_n 2, 1) := by decide +kernel
theorem dX1_drainVat_30 : decode cX1_drainVat 30 = .ok (.iconst 0, 1) := by decide +kernel
theorem dX1_drainVat_31 : decode cX1_drainVat 31 = .ok (.putfield 112, 3) := by decide +kernel
theorem dX1_drainVat_34 : decode cX1_drainVat 34 = .ok (.aload_n 2, 1) := by decide +kernel
theorem dX1_drainVat_35 : decode cX1_drainVat 35 = .ok (.iconst 0, 1) := by decide +kernel
theorem dX1_drainVat_36 : decode cX1_drainVat 36 = .ok (.putfield 115, 3) := by decide +kernel
theorem dX1_drainVat_39 : decode cX1_drainVat 39 = .ok (.iload_n 3, 1) := by decide +kernel
theorem dX1_drainVat_40 : decode cX1_drainVat 40 = .ok (.ireturn, 1) := by decide +kernel
theorem dX1_addLot_0 : decode cX1_addLot 0 = .ok (.iload_n 1, 1) := by decide +kernel
theorem dX1_addLot_1 : decode cX1_addLot 1 = .ok (.ifCond .eq 8, 3) := by decide +kernel
theorem dX1_addLot_4 : decode cX1_addLot 4 = .ok (.iload_n 1, 1) := by decide +kernel
theorem dX1_addLot_5 : decode cX1_addLot 5 = .ok (.iconst 1, 1) := by decide +kernel
theorem dX1_addLot_6 : decode cX1_addLot 6 = .ok (.if_icmp .ne 16, 3) := by decide +kernel
theorem dX1_addLot_9 : decode cX1_addLot 9 = .ok (.iload_n 2, 1) := by decide +kernel
theorem dX1_addLot_10 : decode cX1_addLot 10 = .ok (.bipush 100, 2) := by decide +kernel
theorem dX1_addLot_12 : decode cX1_addLot 12 = .ok (.if_icmp .lt 10, 3) := by decide +kernel
theorem dX1_addLot_15 : decode cX1_addLot 15 = .ok (.iload_n 2, 1) := by decide +kernel
theorem dX1_addLot_16 : decode cX1_addLot 16 = .ok (.sipush 5000, 3) := by decide +kernel
theorem dX1_addLot_19 : decode cX1_addLot 19 = .ok (.if_icmp .le 5, 3) := by decide +kernel
theorem dX1_addLot_22 : decode cX1_addLot 22 = .ok (.iconst (-1), 1) := by decide +kernel
theorem dX1_addLot_23 : decode cX1_addLot 23 = .ok (.ireturn, 1) := by decide +kernel
theorem dX1_addLot_24 : decode cX1_addLot 24 = .ok (.aload_n 0, 1) := by decide +kernel
theorem dX1_addLot_25 : decode cX1_addLot 25 = .ok (.getfield 50, 3) := by decide +kernel
theorem dX1_addLot_28 : decode cX1_addLot 28 = .ok (.aload_n 0, 1) := by decide +kernel
theorem dX1_addLot_29 : decode cX1_addLot 29 = .ok (.getfield 19, 3) := by decide +kernel
theorem dX1_addLot_32 : decode cX1_addLot 32 = .ok (.arraylength, 1) := by decide +kernel
theorem dX1_addLot_33 : decode cX1_addLot 33 = .ok (.if_icmp .lt 6, 3) := by decide +kernel
theorem dX1_addLot_36 : decode cX1_addLot 36 = .ok (.bipush (-3), 2) := by decide +kernel
theorem dX1_addLot_38 : decode cX1_addLot 38 = .ok (.ireturn, 1) := by decide +kernel
theorem dX1_addLot_39 : decode cX1_addLot 39 = .ok (.aload_n 0, 1) := by decide +kernel
theorem dX1_addLot_40 : decode cX1_addLot 40 = .ok (.dup, 1) := by decide +kernel
theorem dX1_addLot_41 : decode cX1_addLot 41 = .ok (.getfield 50, 3) := by decide +kernel
theorem dX1_addLot_44 : decode cX1_addLot 44 = .ok (.iconst 1, 1) := by decide +kernel
theorem dX1_addLot_45 : decode cX1_addLot 45 = .ok (.iadd, 1) := by decide +kernel
theorem dX1_addLot_46 : decode cX1_addLot 46 = .ok (.putfield 50, 3) := by decide +kernel
theorem dX1_addLot_49 : decode cX1_addLot 49 = .ok (.aload_n 0, 1) := by decide +kernel
theorem dX1_addLot_50 : decode cX1_addLot 50 = .ok (.aload_n 0, 1) := by decide +kernel
theorem dX1_addLot_51 : decode cX1_addLot 51 = .ok (.getfield 50, 3) := by decide +kernel
theorem dX1_addLot_54 : decode cX1_addLot 54 = .ok (.iconst 1, 1) := by decide +kernel
theorem dX1_addLot_55 : decode cX1_addLot 55 = .ok (.isub, 1) := by decide +kernel
theorem dX1_addLot_56 : decode cX1_addLot 56 = .ok (.invokevirtual 118, 3) := by decide +kernel
theorem dX1_addLot_59 : decode cX1_addLot 59 = .ok (.astore_n 3, 1) := by decide +kernel
theorem dX1_addLot_60 : decode cX1_addLot 60 = .ok (.aload_n 3, 1) := by decide +kernel
theorem dX1_addLot_61 : decode cX1_addLot 61 = .ok (.ifnull 13, 3) := by decide +kernel
theorem dX1_addLot_64 : decode cX1_addLot 64 = .ok (.aload_n 3, 1) := by decide +kernel
theorem dX1_addLot_65 : decode cX1_addLot 65 = .ok (.iload_n 1, 1) := by decide +kernel
theorem dX1_addLot_66 : decode cX1_addLot 66 = .ok (.putfield 122, 3) := by decide +kernel
theorem dX1_addLot_69 : decode cX1_addLot 69 = .ok (.aload_n 3, 1) := by decide +kernel
theorem dX1_addLot_70 : decode cX1_addLot 70 = .ok (.iload_n 2, 1) := by decide +kernel
theorem dX1_addLot_71 : decode cX1_addLot 71 = .ok (.putfield 125, 3) := by decide +kernel
theorem dX1_addLot_74 : decode cX1_addLot 74 = .ok (.aload_n 0, 1) := by decide +kernel
theorem dX1_addLot_75 : decode cX1_addLot 75 = .ok (.getfield 50, 3) := by decide +kernel
theorem dX1_addLot_78 : decode cX1_addLot 78 = .ok (.iconst 1, 1) := by decide +kernel
theorem dX1_addLot_79 : decode cX1_addLot 79 = .ok (.isub, 1) := by decide +kernel
theorem dX1_addLot_80 : decode cX1_addLot 80 = .ok (.ireturn, 1) := by decide +kernel
theorem dX1_dipLot_0 : decode cX1_dipLot 0 = .ok (.aload_n 0, 1) := by decide +kernel
theorem dX1_dipLot_1 : decode cX1_dipLot 1 = .ok (.iload_n 1, 1) := by decide +kernel
theorem dX1_dipLot_2 : decode cX1_dipLot 2 = .ok (.invokevirtual 118, 3) := by decide +kernel
theorem dX1_dipLot_5 : decode cX1_dipLot 5 = .ok (.astore_n 3, 1) := by decide +kernel
theorem dX1_dipLot_6 : decode cX1_dipLot 6 = .ok (.aload_n 0, 1) := by decide +kernel
theorem dX1_dipLot_7 : decode cX1_dipLot 7 = .ok (.iload_n 2, 1) := by decide +kernel
theorem dX1_dipLot_8 : decode cX1_dipLot 8 = .ok (.invokevirtual 92, 3) := by decide +kernel
theorem dX1_dipLot_11 : decode cX1_dipLot 11 = .ok (.astore 4, 2) := by decide +kernel
theorem dX1_dipLot_13 : decode cX1_dipLot 13 = .ok (.aload_n 3, 1) := by decide +kernel
theorem dX1_dipLot_14 : decode cX1_dipLot 14 = .ok (.ifnull 8, 3) := by decide +kernel
theorem dX1_dipLot_17 : decode cX1_dipLot 17 = .ok (.aload 4, 2) := by decide +kernel
theorem dX1_dipLot_19 : decode cX1_dipLot 19 = .ok (.ifnonnull 5, 3) := by decide +kernel
theorem dX1_dipLot_22 : decode cX1_dipLot 22 = .ok (.iconst (-1), 1) := by decide +kernel
theorem dX1_dipLot_23 : decode cX1_dipLot 23 = .ok (.ireturn, 1) := by decide +kernel
theorem dX1_dipLot_24 : decode cX1_dipLot 24 = .ok (.aload_n 3, 1) := by decide +kernel
theorem dX1_dipLot_25 : decode cX1_dipLot 25 = .ok (.invokevirtual 128, 3) := by decide +kernel
theorem dX1_dipLot_28 : decode cX1_dipLot 28 = .ok (.ifCond .ne 18, 3) := by decide +kernel
theorem dX1_dipLot_31 : decode cX1_dipLot 31 = .ok (.aload_n 3, 1) := by decide +kernel
theorem dX1_dipLot_32 : decode cX1_dipLot 32 = .ok (.getfield 132, 3) := by decide +kernel
theorem dX1_dipLot_35 : decode cX1_dipLot 35 = .ok (.ifCond .ne 11, 3) := by decide +kernel
theorem dX1_dipLot_38 : decode cX1_dipLot 38 = .ok (.aload 4, 2) := by decide +kernel
theorem dX1_dipLot_40 : decode cX1_dipLot 40 = .ok (.getfield 112, 3) := by decide +kernel
theorem dX1_dipLot_43 : decode cX1_dipLot 43 = .ok (.ifCond .gt 6, 3) := by decide +kernel
theorem dX1_dipLot_46 : decode cX1_dipLot 46 = .ok (.bipush (-2), 2) := by decide +kernel
theorem dX1_dipLot_48 : decode cX1_dipLot 48 = .ok (.ireturn, 1) := by decide +kernel
theorem dX1_dipLot_49 : decode cX1_dipLot 49 = .ok (.aload_n 0, 1) := by decide +kernel
theorem dX1_dipLot_50 : decode cX1_dipLot 50 = .ok (.dup, 1) := by decide +kernel
theorem dX1_dipLot_51 : decode cX1_dipLot 51 = .ok (.getfield 56, 3) := by decide +kernel
theorem dX1_dipLot_54 : decode cX1_dipLot 54 = .ok (.iconst 1, 1) := by decide +kernel
theorem dX1_dipLot_55 : decode cX1_dipLot 55 = .ok (.iadd, 1) := by decide +kernel
theorem dX1_dipLot_56 : decode cX1_dipLot 56 = .ok (.putfield 56, 3) := by decide +kernel
theorem dX1_dipLot_59 : decode cX1_dipLot 59 = .ok (.aload_n 3, 1) := by decide +kernel
theorem dX1_dipLot_60 : decode cX1_dipLot 60 = .ok (.aload 4, 2) := by decide +kernel
theorem dX1_dipLot_62 : decode cX1_dipLot 62 = .ok (.aload_n 0, 1) := by decide +kernel
theorem dX1_dipLot_63 : decode cX1_dipLot 63 = .ok (.getfield 39, 3) := by decide +kernel
theorem dX1_dipLot_66 : decode cX1_dipLot 66 = .ok (.invokevirtual 136, 3) := by decide +kernel
theorem dX1_dipLot_69 : decode cX1_dipLot 69 = .ok (.ireturn, 1) := by decide +kernel
theorem dX1_rinseLot_0 : decode cX1_rinseLot 0 = .ok (.aload_n 0, 1) := by decide +kernel
theorem dX1_rinseLot_1 : decode cX1_rinseLot 1 = .ok (.iload_n 1, 1) := by decide +kernel
theorem dX1_rinseLot_2 : decode cX1_rinseLot 2 = .ok (.invokevirtual 118, 3) := by decide +kernel
theorem dX1_rinseLot_5 : decode cX1_rinseLot 5 = .ok (.astore_n 2, 1) := by decide +kernel
theorem dX1_rinseLot_6 : decode cX1_rinseLot 6 = .ok (.aload_n 2, 1) := by decide +kernel
theorem dX1_rinseLot_7 : decode cX1_rinseLot 7 = .ok (.ifnonnull 5, 3) := by decide +kernel
theorem dX1_rinseLot_10 : decode cX1_rinseLot 10 = .ok (.iconst (-1), 1) := by decide +kernel
theorem dX1_rinseLot_11 : decode cX1_rinseLot 11 = .ok (.ireturn, 1) := by decide +kernel
theorem dX1_rinseLot_12 : decode cX1_rinseLot 12 = .ok (.aload_n 2, 1) := by decide +kernel
theorem dX1_rinseLot_13 : decode cX1_rinseLot 13 = .ok (.invokevirtual 128, 3) := by decide +kernel
theorem dX1_rinseLot_16 : decode cX1_rinseLot 16 = .ok (.ifCond .ne 10, 3) := by decide +kernel
theorem dX1_rinseLot_19 : decode cX1_rinseLot 19 = .ok (.aload_n 2, 1) := by decide +kernel
theorem dX1_rinseLot_20 : decode cX1_rinseLot 20 = .ok (.getfield 132, 3) := by decide +kernel
theorem dX1_rinseLot_23 : decode cX1_rinseLot 23 = .ok (.ifCond .eq 6, 3) := by decide +kernel
theorem dX1_rinseLot_26 : decode cX1_rinseLot 26 = .ok (.bipush (-2), 2) := by decide +kernel
theorem dX1_rinseLot_28 : decode cX1_rinseLot 28 = .ok (.ireturn, 1) := by decide +kernel
theorem dX1_rinseLot_29 : decode cX1_rinseLot 29 = .ok (.aload_n 2, 1) := by decide +kernel
theorem dX1_rinseLot_30 : decode cX1_rinseLot 30 = .ok (.getfield 140, 3) := by decide +kernel
theorem dX1_rinseLot_33 : decode cX1_rinseLot 33 = .ok (.invokestatic 143, 3) := by decide +kernel
theorem dX1_rinseLot_36 : decode cX1_rinseLot 36 = .ok (.istore_n 3, 1) := by decide +kernel
theorem dX1_rinseLot_37 : decode cX1_rinseLot 37 = .ok (.iconst 0, 1) := by decide +kernel
theorem dX1_rinseLot_38 : decode cX1_rinseLot 38 = .ok (.istore 4, 2) := by decide +kernel
theorem dX1_rinseLot_40 : decode cX1_rinseLot 40 = .ok (.iload 4, 2) := by decide +kernel
theorem dX1_rinseLot_42 : decode cX1_rinseLot 42 = .ok (.iconst 4, 1) := by decide +kernel
theorem dX1_rinseLot_43 : decode cX1_rinseLot 43 = .ok (.if_icmp .ge 37, 3) := by decide +kernel
theorem dX1_rinseLot_46 : decode cX1_rinseLot 46 = .ok (.aload_n 0, 1) := by decide +kernel
theorem dX1_rinseLot_47 : decode cX1_rinseLot 47 = .ok (.getfield 33, 3) := by decide +kernel
theorem dX1_rinseLot_50 : decode cX1_rinseLot 50 = .ok (.iload 4, 2) := by decide +kernel
theorem dX1_rinseLot_52 : decode cX1_rinseLot 52 = .ok (.aload_n 2, 1) := by decide +kernel
theorem dX1_rinseLot_53 : decode cX1_rinseLot 53 = .ok (.getfield 140, 3) := by decide +kernel
theorem dX1_rinseLot_56 : decode cX1_rinseLot 56 = .ok (.iload 4, 2) := by decide +kernel
theorem dX1_rinseLot_58 : decode cX1_rinseLot 58 = .ok (.invokestatic 103, 3) := by decide +kernel
theorem dX1_rinseLot_61 : decode cX1_rinseLot 61 = .ok (.invokestatic 108, 3) := by decide +kernel
theorem dX1_rinseLot_64 : decode cX1_rinseLot 64 = .ok (.aload_n 2, 1) := by decide +kernel
theorem dX1_rinseLot_65 : decode cX1_rinseLot 65 = .ok (.getfield 140, 3) := by decide +kernel
theorem dX1_rinseLot_68 : decode cX1_rinseLot 68 = .ok (.iload 4, 2) := by decide +kernel
theorem dX1_rinseLot_70 : decode cX1_rinseLot 70 = .ok (.iconst 0, 1) := by decide +kernel
theorem dX1_rinseLot_71 : decode cX1_rinseLot 71 = .ok (.invokestatic 147, 3) := by decide +kernel
theorem dX1_rinseLot_74 : decode cX1_rinseLot 74 = .ok (.iinc 4 1, 3) := by decide +kernel
theorem dX1_rinseLot_77 : decode cX1_rinseLot 77 = .ok (.goto (-37), 3) := by decide +kernel
theorem dX1_rinseLot_80 : decode cX1_rinseLot 80 = .ok (.iload_n 3, 1) := by decide +kernel
theorem dX1_rinseLot_81 : decode cX1_rinseLot 81 = .ok (.ireturn, 1) := by decide +kernel
theorem dX1_hangLot_0 : decode cX1_hangLot 0 = .ok (.aload_n 0, 1) := by decide +kernel
theorem dX1_hangLot_1 : decode cX1_hangLot 1 = .ok (.iload_n 1, 1) := by decide +kernel
theorem dX1_hangLot_2 : decode cX1_hangLot 2 = .ok (.invokevirtual 118, 3) := by decide +kernel
theorem dX1_hangLot_5 : decode cX1_hangLot 5 = .ok (.astore_n 3, 1) := by decide +kernel
theorem dX1_hangLot_6 : decode cX1_hangLot 6 = .ok (.aload_n 3, 1) := by decide +kernel
theorem dX1_hangLot_7 : decode cX1_hangLot 7 = .ok (.ifnull 12, 3) := by decide +kernel
theorem dX1_hangLot_10 : decode cX1_hangLot 10 = .ok (.iload_n 2, 1) := by decide +kernel
theorem dX1_hangLot_11 : decode cX1_hangLot 11 = .ok (.ifCond .eq 10, 3) := by decide +kernel
theorem dX1_hangLot_14 : decode cX1_hangLot 14 = .ok (.iload_n 2, 1) := by decide +kernel
theorem dX1_hangLot_15 : decode cX1_hangLot 15 = .ok (.iconst 1, 1) := by decide +kernel
theorem dX1_hangLot_16 : decode cX1_hangLot 16 = .ok (.if_icmp .eq 5, 3) := by decide +kernel
theorem dX1_hangLot_19 : decode cX1_hangLot 19 = .ok (.iconst (-1), 1) := by decide +kernel
theorem dX1_hangLot_20 : decode cX1_hangLot 20 = .ok (.ireturn, 1) := by decide +kernel
theorem dX1_hangLot_21 : decode cX1_hangLot 21 = .ok (.aload_n 3, 1) := by decide +kernel
theorem dX1_hangLot_22 : decode cX1_hangLot 22 = .ok (.invokevirtual 128, 3) := by decide +kernel
theorem dX1_hangLot_25 : decode cX1_hangLot 25 = .ok (.ifCond .ne 18, 3) := by decide +kernel
theorem dX1_hangLot_28 : decode cX1_hangLot 28 = .ok (.aload_n 3, 1) := by decide +kernel
theorem dX1_hangLot_29 : decode cX1_hangLot 29 = .ok (.getfield 132, 3) := by decide +kernel
theorem dX1_hangLot_32 : decode cX1_hangLot 32 = .ok (.ifCond .ne 11, 3) := by decide +kernel
theorem dX1_hangLot_35 : decode cX1_hangLot 35 = .ok (.aload_n 3, 1) := by decide +kernel
theorem dX1_hangLot_36 : decode cX1_hangLot 36 = .ok (.getfield 122, 3) := by decide +kernel
theorem dX1_hangLot_39 : decode cX1_hangLot 39 = .ok (.iload_n 2, 1) := by decide +kernel
theorem dX1_hangLot_40 : decode cX1_hangLot 40 = .ok (.if_icmp .eq 6, 3) := by decide +kernel
theorem dX1_hangLot_43 : decode cX1_hangLot 43 = .ok (.bipush (-2), 2) := by decide +kernel
theorem dX1_hangLot_45 : decode cX1_hangLot 45 = .ok (.ireturn, 1) := by decide +kernel
theorem dX1_hangLot_46 : decode cX1_hangLot 46 = .ok (.aload_n 0, 1) := by decide +kernel
theorem dX1_hangLot_47 : decode cX1_hangLot 47 = .ok (.iload_n 2, 1) := by decide +kernel
theorem dX1_hangLot_48 : decode cX1_hangLot 48 = .ok (.invokevirtual 150, 3) := by decide +kernel
theorem dX1_hangLot_51 : decode cX1_hangLot 51 = .ok (.iconst 4, 1) := by decide +kernel
theorem dX1_hangLot_52 : decode cX1_hangLot 52 = .ok (.if_icmp .lt 6, 3) := by decide +kernel
theorem dX1_hangLot_55 : decode cX1_hangLot 55 = .ok (.bipush (-3), 2) := by decide +kernel
theorem dX1_hangLot_57 : decode cX1_hangLot 57 = .ok (.ireturn, 1) := by decide +kernel
theorem dX1_hangLot_58 : decode cX1_hangLot 58 = .ok (.aload_n 3, 1) := by decide +kernel
theorem dX1_hangLot_59 : decode cX1_hangLot 59 = .ok (.iconst 1, 1) := by decide +kernel
theorem dX1_hangLot_60 : decode cX1_hangLot 60 = .ok (.putfield 132, 3) := by decide +kernel
theorem dX1_hangLot_63 : decode cX1_hangLot 63 = .ok (.aload_n 0, 1) := by decide +kernel
theorem dX1_hangLot_64 : decode cX1_hangLot 64 = .ok (.iload_n 2, 1) := by decide +kernel
theorem dX1_hangLot_65 : decode cX1_hangLot 65 = .ok (.invokevirtual 150, 3) := by decide +kernel
theorem dX1_hangLot_68 : decode cX1_hangLot 68 = .ok (.ireturn, 1) := by decide +kernel
theorem dX1_takeDown_0 : decode cX1_takeDown 0 = .ok (.aload_n 0, 1) := by decide +kernel
theorem dX1_takeDown_1 : decode cX1_takeDown 1 = .ok (.iload_n 1, 1) := by decide +kernel
theorem dX1_takeDown_2 : decode cX1_takeDown 2 = .ok (.invokevirtual 118, 3) := by decide +kernel
theorem dX1_takeDown_5 : decode cX1_takeDown 5 = .ok (.astore_n 2, 1) := by decide +kernel
theorem dX1_takeDown_6 : decode cX1_takeDown 6 = .ok (.aload_n 2, 1) := by decide +kernel
theorem dX1_takeDown_7 : decode cX1_takeDown 7 = .ok (.ifnonnull 5, 3) := by decide +kernel
theorem dX1_takeDown_10 : decode cX1_takeDown 10 = .ok (.iconst (-1), 1) := by decide +kernel
theorem dX1_takeDown_11 : decode cX1_takeDown 11 = .ok (.ireturn, 1) := by decide +kernel
theorem dX1_takeDown_12 : decode cX1_takeDown 12 = .ok (.aload_n 2, 1) := by decide +kernel
theorem dX1_takeDown_13 : decode cX1_takeDown 13 = .ok (.getfield 132, 3) := by decide +kernel
theorem dX1_takeDown_16 : decode cX1_takeDown 16 = .ok (.ifCond .ne 6, 3) := by decide +kernel
theorem dX1_takeDown_19 : decode cX1_takeDown 19 = .ok (.bipush (-2), 2) := by decide +kernel
theorem dX1_takeDown_21 : decode cX1_takeDown 21 = .ok (.ireturn, 1) := by decide +kernel
theorem dX1_takeDown_22 : decode cX1_takeDown 22 = .ok (.aload_n 2, 1) := by decide +kernel
theorem dX1_takeDown_23 : decode cX1_takeDown 23 = .ok (.iconst 0, 1) := by decide +kernel
theorem dX1_takeDown_24 : decode cX1_takeDown 24 = .ok (.putfield 132, 3) := by decide +kernel
theorem dX1_takeDown_27 : decode cX1_takeDown 27 = .ok (.aload_n 0, 1) := by decide +kernel
theorem dX1_takeDown_28 : decode cX1_takeDown 28 = .ok (.aload_n 2, 1) := by decide +kernel
theorem dX1_takeDown_29 : decode cX1_takeDown 29 = .ok (.getfield 122, 3) := by decide +kernel
theorem dX1_takeDown_32 : decode cX1_takeDown 32 = .ok (.invokevirtual 150, 3) := by decide +kernel
theorem dX1_takeDown_35 : decode cX1_takeDown 35 = .ok (.ireturn, 1) := by decide +kernel
theorem dX1_addOrder_0 : decode cX1_addOrder 0 = .ok (.iload_n 1, 1) := by decide +kernel
theorem dX1_addOrder_1 : decode cX1_addOrder 1 = .ok (.invokestatic 154, 3) := by decide +kernel
theorem dX1_addOrder_4 : decode cX1_addOrder 4 = .ok (.ifCond .eq 25, 3) := by decide +kernel
theorem dX1_addOrder_7 : decode cX1_addOrder 7 = .ok (.iload_n 2, 1) := by decide +kernel
theorem dX1_addOrder_8 : decode cX1_addOrder 8 = .ok (.invokestatic 154, 3) := by decide +kernel
theorem dX1_addOrder_11 : decode cX1_addOrder 11 = .ok (.ifCond .eq 18, 3) := by decide +kernel
theorem dX1_addOrder_14 : decode cX1_addOrder 14 = .ok (.iload_n 3, 1) := by decide +kernel
theorem dX1_addOrder_15 : decode cX1_addOrder 15 = .ok (.invokestatic 154, 3) := by decide +kernel
theorem dX1_addOrder_18 : decode cX1_addOrder 18 = .ok (.ifCond .eq 11, 3) := by decide +kernel
theorem dX1_addOrder_21 : decode cX1_addOrder 21 = .ok (.iload 4, 2) := by decide +kernel
theorem dX1_addOrder_23 : decode cX1_addOrder 23 = .ok (.invokestatic 154, 3) := by decide +kernel
theorem dX1_addOrder_26 : decode cX1_addOrder 26 = .ok (.ifCond .ne 5, 3) := by decide +kernel
theorem dX1_addOrder_29 : decode cX1_addOrder 29 = .ok (.iconst (-1), 1) := by decide +kernel
theorem dX1_addOrder_30 : decode cX1_addOrder 30 = .ok (.ireturn, 1) := by decide +kernel
theorem dX1_addOrder_31 : decode cX1_addOrder 31 = .ok (.aload_n 0, 1) := by decide +kernel
theorem dX1_addOrder_32 : decode cX1_addOrder 32 = .ok (.getfield 53, 3) := by decide +kernel
theorem dX1_addOrder_35 : decode cX1_addOrder 35 = .ok (.aload_n 0, 1) := by decide +kernel
theorem dX1_addOrder_36 : decode cX1_addOrder 36 = .ok (.getfield 25, 3) := by decide +kernel
theorem dX1_addOrder_39 : decode cX1_addOrder 39 = .ok (.arraylength, 1) := by decide +kernel
theorem dX1_addOrder_40 : decode cX1_addOrder 40 = .ok (.if_icmp .ge 12, 3) := by decide +kernel
theorem dX1_addOrder_43 : decode cX1_addOrder 43 = .ok (.aload_n 0, 1) := by decide +kernel
theorem dX1_addOrder_44 : decode cX1_addOrder 44 = .ok (.invokevirtual 157, 3) := by decide +kernel
theorem dX1_addOrder_47 : decode cX1_addOrder 47 = .ok (.bipush 8, 2) := by decide +kernel
theorem dX1_addOrder_49 : decode cX1_addOrder 49 = .ok (.if_icmp .lt 6, 3) := by decide +kernel
theorem dX1_addOrder_52 : decode cX1_addOrder 52 = .ok (.bipush (-3), 2) := by decide +kernel
theorem dX1_addOrder_54 : decode cX1_addOrder 54 = .ok (.ireturn, 1) := by decide +kernel
theorem dX1_addOrder_55 : decode cX1_addOrder 55 = .ok (.aload_n 0, 1) := by decide +kernel
theorem dX1_addOrder_56 : decode cX1_addOrder 56 = .ok (.dup, 1) := by decide +kernel
theorem dX1_addOrder_57 : decode cX1_addOrder 57 = .ok (.getfield 53, 3) := by decide +kernel
theorem dX1_addOrder_60 : decode cX1_addOrder 60 = .ok (.iconst 1, 1) := by decide +kernel
theorem dX1_addOrder_61 : decode cX1_addOrder 61 = .ok (.iadd, 1) := by decide +kernel
theorem dX1_addOrder_62 : decode cX1_addOrder 62 = .ok (.putfield 53, 3) := by decide +kernel
theorem dX1_addOrder_65 : decode cX1_addOrder 65 = .ok (.aload_n 0, 1) := by decide +kernel
theorem dX1_addOrder_66 : decode cX1_addOrder 66 = .ok (.aload_n 0, 1) := by decide +kernel
theorem dX1_addOrder_67 : decode cX1_addOrder 67 = .ok (.getfield 53, 3) := by decide +kernel
theorem dX1_addOrder_70 : decode cX1_addOrder 70 = .ok (.iconst 1, 1) := by decide +kernel
theorem dX1_addOrder_71 : decode cX1_addOrder 71 = .ok (.isub, 1) := by decide +kernel
theorem dX1_addOrder_72 : decode cX1_addOrder 72 = .ok (.invokevirtual 161, 3) := by decide +kernel
theorem dX1_addOrder_75 : decode cX1_addOrder 75 = .ok (.astore 5, 2) := by decide +kernel
theorem dX1_addOrder_77 : decode cX1_addOrder 77 = .ok (.aload 5, 2) := by decide +kernel
theorem dX1_addOrder_79 : decode cX1_addOrder 79 = .ok (.ifnull 13, 3) := by decide +kernel
theorem dX1_addOrder_82 : decode cX1_addOrder 82 = .ok (.aload 5, 2) := by decide +kernel
theorem dX1_addOrder_84 : decode cX1_addOrder 84 = .ok (.iload_n 1, 1) := by decide +kernel
theorem dX1_addOrder_85 : decode cX1_addOrder 85 = .ok (.iload_n 2, 1) := by decide +kernel
theorem dX1_addOrder_86 : decode cX1_addOrder 86 = .ok (.iload_n 3, 1) := by decide +kernel
theorem dX1_addOrder_87 : decode cX1_addOrder 87 = .ok (.iload 4, 2) := by decide +kernel
theorem dX1_addOrder_89 : decode cX1_addOrder 89 = .ok (.invokevirtual 165, 3) := by decide +kernel
theorem dX1_addOrder_92 : decode cX1_addOrder 92 = .ok (.aload_n 0, 1) := by decide +kernel
theorem dX1_addOrder_93 : decode cX1_addOrder 93 = .ok (.getfield 53, 3) := by decide +kernel
theorem dX1_addOrder_96 : decode cX1_addOrder 96 = .ok (.iconst 1, 1) := by decide +kernel
theorem dX1_addOrder_97 : decode cX1_addOrder 97 = .ok (.isub, 1) := by decide +kernel
theorem dX1_addOrder_98 : decode cX1_addOrder 98 = .ok (.ireturn, 1) := by decide +kernel
theorem dX1_isAskable_0 : decode cX1_isAskable 0 = .ok (.iload_n 0, 1) := by decide +kernel
theorem dX1_isAskable_1 : decode cX1_isAskable 1 = .ok (.ifCond .lt 14, 3) := by decide +kernel
theorem dX1_isAskable_4 : decode cX1_isAskable 4 = .ok (.iload_n 0, 1) := by decide +kernel
theorem dX1_isAskable_5 : decode cX1_isAskable 5 = .ok (.sipush 20000, 3) := by decide +kernel
theorem dX1_isAskable_8 : decode cX1_isAskable 8 = .ok (.if_icmp .gt 7, 3) := by decide +kernel
theorem dX1_isAskable_11 : decode cX1_isAskable 11 = .ok (.iconst 1, 1) := by decide +kernel
theorem dX1_isAskable_12 : decode cX1_isAskable 12 = .ok (.goto 4, 3) := by decide +kernel
theorem dX1_isAskable_15 : decode cX1_isAskable 15 = .ok (.iconst 0, 1) := by decide +kernel
theorem dX1_isAskable_16 : decode cX1_isAskable 16 = .ok (.ireturn, 1) := by decide +kernel
theorem dX1_sellLot_0 : decode cX1_sellLot 0 = .ok (.aload_n 0, 1) := by decide +kernel
theorem dX1_sellLot_1 : decode cX1_sellLot 1 = .ok (.iload_n 1, 1) := by decide +kernel
theorem dX1_sellLot_2 : decode cX1_sellLot 2 = .ok (.invokevirtual 118, 3) := by decide +kernel
theorem dX1_sellLot_5 : decode cX1_sellLot 5 = .ok (.astore_n 3, 1) := by decide +kernel
theorem dX1_sellLot_6 : decode cX1_sellLot 6 = .ok (.aload_n 0, 1) := by decide +kernel
theorem dX1_sellLot_7 : decode cX1_sellLot 7 = .ok (.iload_n 2, 1) := by decide +kernel
theorem dX1_sellLot_8 : decode cX1_sellLot 8 = .ok (.invokevirtual 161, 3) := by decide +kernel
theorem dX1_sellLot_11 : decode cX1_sellLot 11 = .ok (.astore 4, 2) := by decide +kernel
theorem dX1_sellLot_13 : decode cX1_sellLot 13 = .ok (.aload_n 3, 1) := by decide +kernel
theorem dX1_sellLot_14 : decode cX1_sellLot 14 = .ok (.ifnull 8, 3) := by decide +kernel
theorem dX1_sellLot_17 : decode cX1_sellLot 17 = .ok (.aload 4, 2) := by decide +kernel
theorem dX1_sellLot_19 : decode cX1_sellLot 19 = .ok (.ifnonnull 5, 3) := by decide +kernel
theorem dX1_sellLot_22 : decode cX1_sellLot 22 = .ok (.iconst (-1), 1) := by decide +kernel
theorem dX1_sellLot_23 : decode cX1_sellLot 23 = .ok (.ireturn, 1) := by decide +kernel
theorem dX1_sellLot_24 : decode cX1_sellLot 24 = .ok (.aload_n 3, 1) := by decide +kernel
theorem dX1_sellLot_25 : decode cX1_sellLot 25 = .ok (.invokevirtual 128, 3) := by decide +kernel
theorem dX1_sellLot_28 : decode cX1_sellLot 28 = .ok (.ifCond .ne 31, 3) := by decide +kernel
theorem dX1_sellLot_31 : decode cX1_sellLot 31 = .ok (.aload_n 3, 1) := by decide +kernel
theorem dX1_sellLot_32 : decode cX1_sellLot 32 = .ok (.getfield 132, 3) := by decide +kernel
theorem dX1_sellLot_35 : decode cX1_sellLot 35 = .ok (.ifCond .eq 24, 3) := by decide +kernel
theorem dX1_sellLot_38 : decode cX1_sellLot 38 = .ok (.aload 4, 2) := by decide +kernel
theorem dX1_sellLot_40 : decode cX1_sellLot 40 = .ok (.getfield 169, 3) := by decide +kernel
theorem dX1_sellLot_43 : decode cX1_sellLot 43 = .ok (.ifCond .ne 16, 3) := by decide +kernel
theorem dX1_sellLot_46 : decode cX1_sellLot 46 = .ok (.aload 4, 2) := by decide +kernel
theorem dX1_sellLot_48 : decode cX1_sellLot 48 = .ok (.aload_n 3, 1) := by decide +kernel
theorem dX1_sellLot_49 : decode cX1_sellLot 49 = .ok (.aload_n 0, 1) := by decide +kernel
theorem dX1_sellLot_50 : decode cX1_sellLot 50 = .ok (.getfield 39, 3) := by decide +kernel
theorem dX1_sellLot_53 : decode cX1_sellLot 53 = .ok (.invokevirtual 172, 3) := by decide +kernel
theorem dX1_sellLot_56 : decode cX1_sellLot 56 = .ok (.ifCond .ne 6, 3) := by decide +kernel
theorem dX1_sellLot_59 : decode cX1_sellLot 59 = .ok (.bipush (-2), 2) := by decide +kernel
theorem dX1_sellLot_61 : decode cX1_sellLot 61 = .ok (.ireturn, 1) := by decide +kernel
theorem dX1_sellLot_62 : decode cX1_sellLot 62 = .ok (.aload_n 3, 1) := by decide +kernel
theorem dX1_sellLot_63 : decode cX1_sellLot 63 = .ok (.iload_n 2, 1) := by decide +kernel
theorem dX1_sellLot_64 : decode cX1_sellLot 64 = .ok (.putfield 176, 3) := by decide +kernel
theorem dX1_sellLot_67 : decode cX1_sellLot 67 = .ok (.aload_n 3, 1) := by decide +kernel
theorem dX1_sellLot_68 : decode cX1_sellLot 68 = .ok (.iconst 0, 1) := by decide +kernel
theorem dX1_sellLot_69 : decode cX1_sellLot 69 = .ok (.putfield 132, 3) := by decide +kernel
theorem dX1_sellLot_72 : decode cX1_sellLot 72 = .ok (.aload 4, 2) := by decide +kernel
theorem dX1_sellLot_74 : decode cX1_sellLot 74 = .ok (.iconst 1, 1) := by decide +kernel
theorem dX1_sellLot_75 : decode cX1_sellLot 75 = .ok (.putfield 169, 3) := by decide +kernel
theorem dX1_sellLot_78 : decode cX1_sellLot 78 = .ok (.aload_n 3, 1) := by decide +kernel
theorem dX1_sellLot_79 : decode cX1_sellLot 79 = .ok (.getfield 125, 3) := by decide +kernel
theorem dX1_sellLot_82 : decode cX1_sellLot 82 = .ok (.ireturn, 1) := by decide +kernel
theorem dX1_doWork_0 : decode cX1_doWork 0 = .ok (.iload_n 1, 1) := by decide +kernel
theorem dX1_doWork_1 : decode cX1_doWork 1 = .ok (.tableswitch 122 100 116 #[83, 109, 122, 122, 96, 122, 122, 122, 122, 122, 122, 122, 122, 122, 90, 115, 103], 83) := by decide +kernel
theorem dX1_doWork_84 : decode cX1_doWork 84 = .ok (.aload_n 0, 1) := by decide +kernel
theorem dX1_doWork_85 : decode cX1_doWork 85 = .ok (.iload_n 2, 1) := by decide +kernel
theorem dX1_doWork_86 : decode cX1_doWork 86 = .ok (.iload_n 3, 1) := by decide +kernel
theorem dX1_doWork_87 : decode cX1_doWork 87 = .ok (.invokevirtual 179, 3) := by decide +kernel
theorem dX1_doWork_90 : decode cX1_doWork 90 = .ok (.ireturn, 1) := by decide +kernel
theorem dX1_doWork_91 : decode cX1_doWork 91 = .ok (.aload_n 0, 1) := by decide +kernel
theorem dX1_doWork_92 : decode cX1_doWork 92 = .ok (.iload_n 2, 1) := by decide +kernel
theorem dX1_doWork_93 : decode cX1_doWork 93 = .ok (.invokevirtual 183, 3) := by decide +kernel
theorem dX1_doWork_96 : decode cX1_doWork 96 = .ok (.ireturn, 1) := by decide +kernel
theorem dX1_doWork_97 : decode cX1_doWork 97 = .ok (.aload_n 0, 1) := by decide +kernel
theorem dX1_doWork_98 : decode cX1_doWork 98 = .ok (.iload_n 2, 1) := by decide +kernel
theorem dX1_doWork_99 : decode cX1_doWork 99 = .ok (.iload_n 3, 1) := by decide +kernel
theorem dX1_doWork_100 : decode cX1_doWork 100 = .ok (.invokevirtual 186, 3) := by decide +kernel
theorem dX1_doWork_103 : decode cX1_doWork 103 = .ok (.ireturn, 1) := by decide +kernel
theorem dX1_doWork_104 : decode cX1_doWork 104 = .ok (.aload_n 0, 1) := by decide +kernel
theorem dX1_doWork_105 : decode cX1_doWork 105 = .ok (.iload_n 2, 1) := by decide +kernel
theorem dX1_doWork_106 : decode cX1_doWork 106 = .ok (.invokevirtual 189, 3) := by decide +kernel
theorem dX1_doWork_109 : decode cX1_doWork 109 = .ok (.ireturn, 1) := by decide +kernel
theorem dX1_doWork_110 : decode cX1_doWork 110 = .ok (.aload_n 0, 1) := by decide +kernel
theorem dX1_doWork_111 : decode cX1_doWork 111 = .ok (.iload_n 2, 1) := by decide +kernel
theorem dX1_doWork_112 : decode cX1_doWork 112 = .ok (.invokevirtual 192, 3) := by decide +kernel
theorem dX1_doWork_115 : decode cX1_doWork 115 = .ok (.ireturn, 1) := by decide +kernel
theorem dX1_doWork_116 : decode cX1_doWork 116 = .ok (.aload_n 0, 1) := by decide +kernel
theorem dX1_doWork_117 : decode cX1_doWork 117 = .ok (.iload_n 2, 1) := by decide +kernel
theorem dX1_doWork_118 : decode cX1_doWork 118 = .ok (.iload_n 3, 1) := by decide +kernel
theorem dX1_doWork_119 : decode cX1_doWork 119 = .ok (.invokevirtual 195, 3) := by decide +kernel
theorem dX1_doWork_122 : decode cX1_doWork 122 = .ok (.ireturn, 1) := by decide +kernel
theorem dX1_doWork_123 : decode cX1_doWork 123 = .ok (.iconst (-1), 1) := by decide +kernel
theorem dX1_doWork_124 : decode cX1_doWork 124 = .ok (.ireturn, 1) := by decide +kernel
theorem dX1_vatsAheadOf_0 : decode cX1_vatsAheadOf 0 = .ok (.aload_n 0, 1) := by decide +kernel
theorem dX1_vatsAheadOf_1 : decode cX1_vatsAheadOf 1 = .ok (.iload_n 1, 1) := by decide +kernel
theorem dX1_vatsAheadOf_2 : decode cX1_vatsAheadOf 2 = .ok (.invokevirtual 92, 3) := by decide +kernel
theorem dX1_vatsAheadOf_5 : decode cX1_vatsAheadOf 5 = .ok (.astore_n 2, 1) := by decide +kernel
theorem dX1_vatsAheadOf_6 : decode cX1_vatsAheadOf 6 = .ok (.iconst 0, 1) := by decide +kernel
theorem dX1_vatsAheadOf_7 : decode cX1_vatsAheadOf 7 = .ok (.istore_n 3, 1) := by decide +kernel
theorem dX1_vatsAheadOf_8 : decode cX1_vatsAheadOf 8 = .ok (.iconst 0, 1) := by decide +kernel
theorem dX1_vatsAheadOf_9 : decode cX1_vatsAheadOf 9 = .ok (.istore 4, 2) := by decide +kernel
theorem dX1_vatsAheadOf_11 : decode cX1_vatsAheadOf 11 = .ok (.iload 4, 2) := by decide +kernel
theorem dX1_vatsAheadOf_13 : decode cX1_vatsAheadOf 13 = .ok (.aload_n 0, 1) := by decide +kernel
theorem dX1_vatsAheadOf_14 : decode cX1_vatsAheadOf 14 = .ok (.getfield 46, 3) := by decide +kernel
theorem dX1_vatsAheadOf_17 : decode cX1_vatsAheadOf 17 = .ok (.if_icmp .ge 65, 3) := by decide +kernel
theorem dX1_vatsAheadOf_20 : decode cX1_vatsAheadOf 20 = .ok (.aload_n 2, 1) := by decide +kernel
theorem dX1_vatsAheadOf_21 : decode cX1_vatsAheadOf 21 = .ok (.ifnull 61, 3) := by decide +kernel
theorem dX1_vatsAheadOf_24 : decode cX1_vatsAheadOf 24 = .ok (.aload_n 0, 1) := by decide +kernel
theorem dX1_vatsAheadOf_25 : decode cX1_vatsAheadOf 25 = .ok (.iload 4, 2) := by decide +kernel
theorem dX1_vatsAheadOf_27 : decode cX1_vatsAheadOf 27 = .ok (.invokevirtual 92, 3) := by decide +kernel
theorem dX1_vatsAheadOf_30 : decode cX1_vatsAheadOf 30 = .ok (.astore 5, 2) := by decide +kernel
theorem dX1_vatsAheadOf_32 : decode cX1_vatsAheadOf 32 = .ok (.aload 5, 2) := by decide +kernel
theorem dX1_vatsAheadOf_34 : decode cX1_vatsAheadOf 34 = .ok (.ifnull 42, 3) := by decide +kernel
theorem dX1_vatsAheadOf_37 : decode cX1_vatsAheadOf 37 = .ok (.iload 4, 2) := by decide +kernel
theorem dX1_vatsAheadOf_39 : decode cX1_vatsAheadOf 39 = .ok (.iload_n 1, 1) := by decide +kernel
theorem dX1_vatsAheadOf_40 : decode cX1_vatsAheadOf 40 = .ok (.if_icmp .ne 6, 3) := by decide +kernel
theorem dX1_vatsAheadOf_43 : decode cX1_vatsAheadOf 43 = .ok (.goto 33, 3) := by decide +kernel
theorem dX1_vatsAheadOf_46 : decode cX1_vatsAheadOf 46 = .ok (.iload 4, 2) := by decide +kernel
theorem dX1_vatsAheadOf_48 : decode cX1_vatsAheadOf 48 = .ok (.iload_n 1, 1) := by decide +kernel
theorem dX1_vatsAheadOf_49 : decode cX1_vatsAheadOf 49 = .ok (.if_icmp .ge 15, 3) := by decide +kernel
theorem dX1_vatsAheadOf_52 : decode cX1_vatsAheadOf 52 = .ok (.aload 5, 2) := by decide +kernel
theorem dX1_vatsAheadOf_54 : decode cX1_vatsAheadOf 54 = .ok (.aload_n 2, 1) := by decide +kernel
theorem dX1_vatsAheadOf_55 : decode cX1_vatsAheadOf 55 = .ok (.invokevirtual 198, 3) := by decide +kernel
theorem dX1_vatsAheadOf_58 : decode cX1_vatsAheadOf 58 = .ok (.ifCond .eq 18, 3) := by decide +kernel
theorem dX1_vatsAheadOf_61 : decode cX1_vatsAheadOf 61 = .ok (.goto 12, 3) := by decide +kernel
theorem dX1_vatsAheadOf_64 : decode cX1_vatsAheadOf 64 = .ok (.aload_n 2, 1) := by decide +kernel
theorem dX1_vatsAheadOf_65 : decode cX1_vatsAheadOf 65 = .ok (.aload 5, 2) := by decide +kernel
theorem dX1_vatsAheadOf_67 : decode cX1_vatsAheadOf 67 = .ok (.invokevirtual 198, 3) := by decide +kernel
theorem dX1_vatsAheadOf_70 : decode cX1_vatsAheadOf 70 = .ok (.ifCond .ne 6, 3) := by decide +kernel
theorem dX1_vatsAheadOf_73 : decode cX1_vatsAheadOf 73 = .ok (.iinc 3 1, 3) := by decide +kernel
theorem dX1_vatsAheadOf_76 : decode cX1_vatsAheadOf 76 = .ok (.iinc 4 1, 3) := by decide +kernel
theorem dX1_vatsAheadOf_79 : decode cX1_vatsAheadOf 79 = .ok (.goto (-68), 3) := by decide +kernel
theorem dX1_vatsAheadOf_82 : decode cX1_vatsAheadOf 82 = .ok (.iload_n 3, 1) := by decide +kernel
theorem dX1_vatsAheadOf_83 : decode cX1_vatsAheadOf 83 = .ok (.ireturn, 1) := by decide +kernel
theorem dX1_lotsOnRack_0 : decode cX1_lotsOnRack 0 = .ok (.iconst 0, 1) := by decide +kernel
theorem dX1_lotsOnRack_1 : decode cX1_lotsOnRack 1 = .ok (.istore_n 2, 1) := by decide +kernel
theorem dX1_lotsOnRack_2 : decode cX1_lotsOnRack 2 = .ok (.iconst 0, 1) := by decide +kernel
theorem dX1_lotsOnRack_3 : decode cX1_lotsOnRack 3 = .ok (.istore_n 3, 1) := by decide +kernel
theorem dX1_lotsOnRack_4 : decode cX1_lotsOnRack 4 = .ok (.iload_n 3, 1) := by decide +kernel
theorem dX1_lotsOnRack_5 : decode cX1_lotsOnRack 5 = .ok (.aload_n 0, 1) := by decide +kernel
theorem dX1_lotsOnRack_6 : decode cX1_lotsOnRack 6 = .ok (.getfield 50, 3) := by decide +kernel
theorem dX1_lotsOnRack_9 : decode cX1_lotsOnRack 9 = .ok (.if_icmp .ge 41, 3) := by decide +kernel
theorem dX1_lotsOnRack_12 : decode cX1_lotsOnRack 12 = .ok (.aload_n 0, 1) := by decide +kernel
theorem dX1_lotsOnRack_13 : decode cX1_lotsOnRack 13 = .ok (.iload_n 3, 1) := by decide +kernel
theorem dX1_lotsOnRack_14 : decode cX1_lotsOnRack 14 = .ok (.invokevirtual 118, 3) := by decide +kernel
theorem dX1_lotsOnRack_17 : decode cX1_lotsOnRack 17 = .ok (.astore 4, 2) := by decide +kernel
theorem dX1_lotsOnRack_19 : decode cX1_lotsOnRack 19 = .ok (.aload 4, 2) := by decide +kernel
theorem dX1_lotsOnRack_21 : decode cX1_lotsOnRack 21 = .ok (.ifnull 23, 3) := by decide +kernel
theorem dX1_lotsOnRack_24 : decode cX1_lotsOnRack 24 = .ok (.aload 4, 2) := by decide +kernel
theorem dX1_lotsOnRack_26 : decode cX1_lotsOnRack 26 = .ok (.getfield 132, 3) := by decide +kernel
theorem dX1_lotsOnRack_29 : decode cX1_lotsOnRack 29 = .ok (.ifCond .eq 15, 3) := by decide +kernel
theorem dX1_lotsOnRack_32 : decode cX1_lotsOnRack 32 = .ok (.aload 4, 2) := by decide +kernel
theorem dX1_lotsOnRack_34 : decode cX1_lotsOnRack 34 = .ok (.getfield 122, 3) := by decide +kernel
theorem dX1_lotsOnRack_37 : decode cX1_lotsOnRack 37 = .ok (.iload_n 1, 1) := by decide +kernel
theorem dX1_lotsOnRack_38 : decode cX1_lotsOnRack 38 = .ok (.if_icmp .ne 6, 3) := by decide +kernel
theorem dX1_lotsOnRack_41 : decode cX1_lotsOnRack 41 = .ok (.iinc 2 1, 3) := by decide +kernel
theorem dX1_lotsOnRack_44 : decode cX1_lotsOnRack 44 = .ok (.iinc 3 1, 3) := by decide +kernel
theorem dX1_lotsOnRack_47 : decode cX1_lotsOnRack 47 = .ok (.goto (-43), 3) := by decide +kernel
theorem dX1_lotsOnRack_50 : decode cX1_lotsOnRack 50 = .ok (.iload_n 2, 1) := by decide +kernel
theorem dX1_lotsOnRack_51 : decode cX1_lotsOnRack 51 = .ok (.ireturn, 1) := by decide +kernel
theorem dX1_openOrders_0 : decode cX1_openOrders 0 = .ok (.iconst 0, 1) := by decide +kernel
theorem dX1_openOrders_1 : decode cX1_openOrders 1 = .ok (.istore_n 1, 1) := by decide +kernel
theorem dX1_openOrders_2 : decode cX1_openOrders 2 = .ok (.iconst 0, 1) := by decide +kernel
theorem dX1_openOrders_3 : decode cX1_openOrders 3 = .ok (.istore_n 2, 1) := by decide +kernel
theorem dX1_openOrders_4 : decode cX1_openOrders 4 = .ok (.iload_n 2, 1) := by decide +kernel
theorem dX1_openOrders_5 : decode cX1_openOrders 5 = .ok (.aload_n 0, 1) := by decide +kernel
theorem dX1_openOrders_6 : decode cX1_openOrders 6 = .ok (.getfield 53, 3) := by decide +kernel
theorem dX1_openOrders_9 : decode cX1_openOrders 9 = .ok (.if_icmp .ge 29, 3) := by decide +kernel
theorem dX1_openOrders_12 : decode cX1_openOrders 12 = .ok (.aload_n 0, 1) := by decide +kernel
theorem dX1_openOrders_13 : decode cX1_openOrders 13 = .ok (.iload_n 2, 1) := by decide +kernel
theorem dX1_openOrders_14 : decode cX1_openOrders 14 = .ok (.invokevirtual 161, 3) := by decide +kernel
theorem dX1_openOrders_17 : decode cX1_openOrders 17 = .ok (.astore_n 3, 1) := by decide +kernel
theorem dX1_openOrders_18 : decode cX1_openOrders 18 = .ok (.aload_n 3, 1) := by decide +kernel
theorem dX1_openOrders_19 : decode cX1_openOrders 19 = .ok (.ifnull 13, 3) := by decide +kernel
theorem dX1_openOrders_22 : decode cX1_openOrders 22 = .ok (.aload_n 3, 1) := by decide +kernel
theorem dX1_openOrders_23 : decode cX1_openOrders 23 = .ok (.getfield 169, 3) := by decide +kernel
theorem dX1_openOrders_26 : decode cX1_openOrders 26 = .ok (.ifCond .ne 6, 3) := by decide +kernel
theorem dX1_openOrders_29 : decode cX1_openOrders 29 = .ok (.iinc 1 1, 3) := by decide +kernel
theorem dX1_openOrders_32 : decode cX1_openOrders 32 = .ok (.iinc 2 1, 3) := by decide +kernel
theorem dX1_openOrders_35 : decode cX1_openOrders 35 = .ok (.goto (-31), 3) := by decide +kernel
theorem dX1_openOrders_38 : decode cX1_openOrders 38 = .ok (.iload_n 1, 1) := by decide +kernel
theorem dX1_openOrders_39 : decode cX1_openOrders 39 = .ok (.ireturn, 1) := by decide +kernel
theorem dX1_lotsThatFit_0 : decode cX1_lotsThatFit 0 = .ok (.iconst 0, 1) := by decide +kernel
theorem dX1_lotsThatFit_1 : decode cX1_lotsThatFit 1 = .ok (.istore_n 2, 1) := by decide +kernel
theorem dX1_lotsThatFit_2 : decode cX1_lotsThatFit 2 = .ok (.iconst 0, 1) := by decide +kernel
theorem dX1_lotsThatFit_3 : decode cX1_lotsThatFit 3 = .ok (.istore_n 3, 1) := by decide +kernel
theorem dX1_lotsThatFit_4 : decode cX1_lotsThatFit 4 = .ok (.iload_n 3, 1) := by decide +kernel
theorem dX1_lotsThatFit_5 : decode cX1_lotsThatFit 5 = .ok (.aload_n 0, 1) := by decide +kernel
theorem dX1_lotsThatFit_6 : decode cX1_lotsThatFit 6 = .ok (.getfield 50, 3) := by decide +kernel
theorem dX1_lotsThatFit_9 : decode cX1_lotsThatFit 9 = .ok (.if_icmp .ge 45, 3) := by decide +kernel
theorem dX1_lotsThatFit_12 : decode cX1_lotsThatFit 12 = .ok (.aload_n 0, 1) := by decide +kernel
theorem dX1_lotsThatFit_13 : decode cX1_lotsThatFit 13 = .ok (.iload_n 3, 1) := by decide +kernel
theorem dX1_lotsThatFit_14 : decode cX1_lotsThatFit 14 = .ok (.invokevirtual 118, 3) := by decide +kernel
theorem dX1_lotsThatFit_17 : decode cX1_lotsThatFit 17 = .ok (.astore 4, 2) := by decide +kernel
theorem dX1_lotsThatFit_19 : decode cX1_lotsThatFit 19 = .ok (.aload 4, 2) := by decide +kernel
theorem dX1_lotsThatFit_21 : decode cX1_lotsThatFit 21 = .ok (.ifnull 27, 3) := by decide +kernel
theorem dX1_lotsThatFit_24 : decode cX1_lotsThatFit 24 = .ok (.aload 4, 2) := by decide +kernel
theorem dX1_lotsThatFit_26 : decode cX1_lotsThatFit 26 = .ok (.invokevirtual 128, 3) := by decide +kernel
theorem dX1_lotsThatFit_29 : decode cX1_lotsThatFit 29 = .ok (.ifCond .ne 19, 3) := by decide +kernel
theorem dX1_lotsThatFit_32 : decode cX1_lotsThatFit 32 = .ok (.aload_n 1, 1) := by decide +kernel
theorem dX1_lotsThatFit_33 : decode cX1_lotsThatFit 33 = .ok (.aload 4, 2) := by decide +kernel
theorem dX1_lotsThatFit_35 : decode cX1_lotsThatFit 35 = .ok (.aload_n 0, 1) := by decide +kernel
theorem dX1_lotsThatFit_36 : decode cX1_lotsThatFit 36 = .ok (.getfield 39, 3) := by decide +kernel
theorem dX1_lotsThatFit_39 : decode cX1_lotsThatFit 39 = .ok (.invokevirtual 172, 3) := by decide +kernel
theorem dX1_lotsThatFit_42 : decode cX1_lotsThatFit 42 = .ok (.ifCond .eq 6, 3) := by decide +kernel
theorem dX1_lotsThatFit_45 : decode cX1_lotsThatFit 45 = .ok (.iinc 2 1, 3) := by decide +kernel
theorem dX1_lotsThatFit_48 : decode cX1_lotsThatFit 48 = .ok (.iinc 3 1, 3) := by decide +kernel
theorem dX1_lotsThatFit_51 : decode cX1_lotsThatFit 51 = .ok (.goto (-47), 3) := by decide +kernel
theorem dX1_lotsThatFit_54 : decode cX1_lotsThatFit 54 = .ok (.iload_n 2, 1) := by decide +kernel
theorem dX1_lotsThatFit_55 : decode cX1_lotsThatFit 55 = .ok (.ireturn, 1) := by decide +kernel
theorem dX1_nearestLot_0 : decode cX1_nearestLot 0 = .ok (.bipush (-4), 2) := by decide +kernel
theorem dX1_nearestLot_2 : decode cX1_nearestLot 2 = .ok (.istore_n 2, 1) := by decide +kernel
theorem dX1_nearestLot_3 : decode cX1_nearestLot 3 = .ok (.iconst 0, 1) := by decide +kernel
theorem dX1_nearestLot_4 : decode cX1_nearestLot 4 = .ok (.istore_n 3, 1) := by decide +kernel
theorem dX1_nearestLot_5 : decode cX1_nearestLot 5 = .ok (.iconst 0, 1) := by decide +kernel
theorem dX1_nearestLot_6 : decode cX1_nearestLot 6 = .ok (.istore 4, 2) := by decide +kernel
theorem dX1_nearestLot_8 : decode cX1_nearestLot 8 = .ok (.iload 4, 2) := by decide +kernel
theorem dX1_nearestLot_10 : decode cX1_nearestLot 10 = .ok (.aload_n 0, 1) := by decide +kernel
theorem dX1_nearestLot_11 : decode cX1_nearestLot 11 = .ok (.getfield 50, 3) := by decide +kernel
theorem dX1_nearestLot_14 : decode cX1_nearestLot 14 = .ok (.if_icmp .ge 57, 3) := by decide +kernel
theorem dX1_nearestLot_17 : decode cX1_nearestLot 17 = .ok (.aload_n 0, 1) := by decide +kernel
theorem dX1_nearestLot_18 : decode cX1_nearestLot 18 = .ok (.iload 4, 2) := by decide +kernel
theorem dX1_nearestLot_20 : decode cX1_nearestLot 20 = .ok (.invokevirtual 118, 3) := by decide +kernel
theorem dX1_nearestLot_23 : decode cX1_nearestLot 23 = .ok (.astore 5, 2) := by decide +kernel
theorem dX1_nearestLot_25 : decode cX1_nearestLot 25 = .ok (.aload 5, 2) := by decide +kernel
theorem dX1_nearestLot_27 : decode cX1_nearestLot 27 = .ok (.ifnull 38, 3) := by decide +kernel
theorem dX1_nearestLot_30 : decode cX1_nearestLot 30 = .ok (.aload 5, 2) := by decide +kernel
theorem dX1_nearestLot_32 : decode cX1_nearestLot 32 = .ok (.invokevirtual 128, 3) := by decide +kernel
theorem dX1_nearestLot_35 : decode cX1_nearestLot 35 = .ok (.ifCond .eq 6, 3) := by decide +kernel
theorem dX1_nearestLot_38 : decode cX1_nearestLot 38 = .ok (.goto 27, 3) := by decide +kernel
theorem dX1_nearestLot_41 : decode cX1_nearestLot 41 = .ok (.aload_n 1, 1) := by decide +kernel
theorem dX1_nearestLot_42 : decode cX1_nearestLot 42 = .ok (.aload 5, 2) := by decide +kernel
theorem dX1_nearestLot_44 : decode cX1_nearestLot 44 = .ok (.invokevirtual 202, 3) := by decide +kernel
theorem dX1_nearestLot_47 : decode cX1_nearestLot 47 = .ok (.istore 6, 2) := by decide +kernel
theorem dX1_nearestLot_49 : decode cX1_nearestLot 49 = .ok (.iload_n 2, 1) := by decide +kernel
theorem dX1_nearestLot_50 : decode cX1_nearestLot 50 = .ok (.ifCond .lt 9, 3) := by decide +kernel
theorem dX1_nearestLot_53 : decode cX1_nearestLot 53 = .ok (.iload 6, 2) := by decide +kernel
theorem dX1_nearestLot_55 : decode cX1_nearestLot 55 = .ok (.iload_n 3, 1) := by decide +kernel
theorem dX1_nearestLot_56 : decode cX1_nearestLot 56 = .ok (.if_icmp .ge 9, 3) := by decide +kernel
theorem dX1_nearestLot_59 : decode cX1_nearestLot 59 = .ok (.iload 4, 2) := by decide +kernel
theorem dX1_nearestLot_61 : decode cX1_nearestLot 61 = .ok (.istore_n 2, 1) := by decide +kernel
theorem dX1_nearestLot_62 : decode cX1_nearestLot 62 = .ok (.iload 6, 2) := by decide +kernel
theorem dX1_nearestLot_64 : decode cX1_nearestLot 64 = .ok (.istore_n 3, 1) := by decide +kernel
theorem dX1_nearestLot_65 : decode cX1_nearestLot 65 = .ok (.iinc 4 1, 3) := by decide +kernel
theorem dX1_nearestLot_68 : decode cX1_nearestLot 68 = .ok (.goto (-60), 3) := by decide +kernel
theorem dX1_nearestLot_71 : decode cX1_nearestLot 71 = .ok (.iload_n 2, 1) := by decide +kernel
theorem dX1_nearestLot_72 : decode cX1_nearestLot 72 = .ok (.ireturn, 1) := by decide +kernel
theorem dX1_lotsNotFarAbove_0 : decode cX1_lotsNotFarAbove 0 = .ok (.aload_n 0, 1) := by decide +kernel
theorem dX1_lotsNotFarAbove_1 : decode cX1_lotsNotFarAbove 1 = .ok (.getfield 39, 3) := by decide +kernel
theorem dX1_lotsNotFarAbove_4 : decode cX1_lotsNotFarAbove 4 = .ok (.iconst 4, 1) := by decide +kernel
theorem dX1_lotsNotFarAbove_5 : decode cX1_lotsNotFarAbove 5 = .ok (.invokevirtual 206, 3) := by decide +kernel
theorem dX1_lotsNotFarAbove_8 : decode cX1_lotsNotFarAbove 8 = .ok (.istore_n 3, 1) := by decide +kernel
theorem dX1_lotsNotFarAbove_9 : decode cX1_lotsNotFarAbove 9 = .ok (.iconst 0, 1) := by decide +kernel
theorem dX1_lotsNotFarAbove_10 : decode cX1_lotsNotFarAbove 10 = .ok (.istore 4, 2) := by decide +kernel
theorem dX1_lotsNotFarAbove_12 : decode cX1_lotsNotFarAbove 12 = .ok (.iconst 0, 1) := by decide +kernel
theorem dX1_lotsNotFarAbove_13 : decode cX1_lotsNotFarAbove 13 = .ok (.istore 5, 2) := by decide +kernel
theorem dX1_lotsNotFarAbove_15 : decode cX1_lotsNotFarAbove 15 = .ok (.iload 5, 2) := by decide +kernel
theorem dX1_lotsNotFarAbove_17 : decode cX1_lotsNotFarAbove 17 = .ok (.aload_n 0, 1) := by decide +kernel
theorem dX1_lotsNotFarAbove_18 : decode cX1_lotsNotFarAbove 18 = .ok (.getfield 50, 3) := by decide +kernel
theorem dX1_lotsNotFarAbove_21 : decode cX1_lotsNotFarAbove 21 = .ok (.if_icmp .ge 57, 3) := by decide +kernel
theorem dX1_lotsNotFarAbove_24 : decode cX1_lotsNotFarAbove 24 = .ok (.aload_n 0, 1) := by decide +kernel
theorem dX1_lotsNotFarAbove_25 : decode cX1_lotsNotFarAbove 25 = .ok (.iload 5, 2) := by decide +kernel
theorem dX1_lotsNotFarAbove_27 : decode cX1_lotsNotFarAbove 27 = .ok (.invokevirtual 118, 3) := by decide +kernel
theorem dX1_lotsNotFarAbove_30 : decode cX1_lotsNotFarAbove 30 = .ok (.astore 6, 2) := by decide +kernel
theorem dX1_lotsNotFarAbove_32 : decode cX1_lotsNotFarAbove 32 = .ok (.aload 6, 2) := by decide +kernel
theorem dX1_lotsNotFarAbove_34 : decode cX1_lotsNotFarAbove 34 = .ok (.ifnull 38, 3) := by decide +kernel
theorem dX1_lotsNotFarAbove_37 : decode cX1_lotsNotFarAbove 37 = .ok (.aload 6, 2) := by decide +kernel
theorem dX1_lotsNotFarAbove_39 : decode cX1_lotsNotFarAbove 39 = .ok (.invokevirtual 128, 3) := by decide +kernel
theorem dX1_lotsNotFarAbove_42 : decode cX1_lotsNotFarAbove 42 = .ok (.ifCond .eq 6, 3) := by decide +kernel
theorem dX1_lotsNotFarAbove_45 : decode cX1_lotsNotFarAbove 45 = .ok (.goto 27, 3) := by decide +kernel
theorem dX1_lotsNotFarAbove_48 : decode cX1_lotsNotFarAbove 48 = .ok (.aload 6, 2) := by decide +kernel
theorem dX1_lotsNotFarAbove_50 : decode cX1_lotsNotFarAbove 50 = .ok (.iload_n 2, 1) := by decide +kernel
theorem dX1_lotsNotFarAbove_51 : decode cX1_lotsNotFarAbove 51 = .ok (.invokevirtual 209, 3) := by decide +kernel
theorem dX1_lotsNotFarAbove_54 : decode cX1_lotsNotFarAbove 54 = .ok (.iload_n 1, 1) := by decide +kernel
theorem dX1_lotsNotFarAbove_55 : decode cX1_lotsNotFarAbove 55 = .ok (.isub, 1) := by decide +kernel
theorem dX1_lotsNotFarAbove_56 : decode cX1_lotsNotFarAbove 56 = .ok (.istore 7, 2) := by decide +kernel
theorem dX1_lotsNotFarAbove_58 : decode cX1_lotsNotFarAbove 58 = .ok (.iload 7, 2) := by decide +kernel
theorem dX1_lotsNotFarAbove_60 : decode cX1_lotsNotFarAbove 60 = .ok (.ifCond .lt 12, 3) := by decide +kernel
theorem dX1_lotsNotFarAbove_63 : decode cX1_lotsNotFarAbove 63 = .ok (.iload 7, 2) := by decide +kernel
theorem dX1_lotsNotFarAbove_65 : decode cX1_lotsNotFarAbove 65 = .ok (.iload_n 3, 1) := by decide +kernel
theorem dX1_lotsNotFarAbove_66 : decode cX1_lotsNotFarAbove 66 = .ok (.if_icmp .gt 6, 3) := by decide +kernel
theorem dX1_lotsNotFarAbove_69 : decode cX1_lotsNotFarAbove 69 = .ok (.iinc 4 1, 3) := by decide +kernel
theorem dX1_lotsNotFarAbove_72 : decode cX1_lotsNotFarAbove 72 = .ok (.iinc 5 1, 3) := by decide +kernel
theorem dX1_lotsNotFarAbove_75 : decode cX1_lotsNotFarAbove 75 = .ok (.goto (-60), 3) := by decide +kernel
theorem dX1_lotsNotFarAbove_78 : decode cX1_lotsNotFarAbove 78 = .ok (.iload 4, 2) := by decide +kernel
theorem dX1_lotsNotFarAbove_80 : decode cX1_lotsNotFarAbove 80 = .ok (.ireturn, 1) := by decide +kernel
theorem dX1_lotsCounted_0 : decode cX1_lotsCounted 0 = .ok (.iconst 0, 1) := by decide +kernel
theorem dX1_lotsCounted_1 : decode cX1_lotsCounted 1 = .ok (.istore_n 2, 1) := by decide +kernel
theorem dX1_lotsCounted_2 : decode cX1_lotsCounted 2 = .ok (.iconst 0, 1) := by decide +kernel
theorem dX1_lotsCounted_3 : decode cX1_lotsCounted 3 = .ok (.istore_n 3, 1) := by decide +kernel
theorem dX1_lotsCounted_4 : decode cX1_lotsCounted 4 = .ok (.iload_n 3, 1) := by decide +kernel
theorem dX1_lotsCounted_5 : decode cX1_lotsCounted 5 = .ok (.aload_n 0, 1) := by decide +kernel
theorem dX1_lotsCounted_6 : decode cX1_lotsCounted 6 = .ok (.getfield 50, 3) := by decide +kernel
theorem dX1_lotsCounted_9 : decode cX1_lotsCounted 9 = .ok (.if_icmp .ge 33, 3) := by decide +kernel
theorem dX1_lotsCounted_12 : decode cX1_lotsCounted 12 = .ok (.aload_n 0, 1) := by decide +kernel
theorem dX1_lotsCounted_13 : decode cX1_lotsCounted 13 = .ok (.iload_n 3, 1) := by decide +kernel
theorem dX1_lotsCounted_14 : decode cX1_lotsCounted 14 = .ok (.invokevirtual 118, 3) := by decide +kernel
theorem dX1_lotsCounted_17 : decode cX1_lotsCounted 17 = .ok (.astore 4, 2) := by decide +kernel
theorem dX1_lotsCounted_19 : decode cX1_lotsCounted 19 = .ok (.aload 4, 2) := by decide +kernel
theorem dX1_lotsCounted_21 : decode cX1_lotsCounted 21 = .ok (.ifnull 15, 3) := by decide +kernel
theorem dX1_lotsCounted_24 : decode cX1_lotsCounted 24 = .ok (.aload 4, 2) := by decide +kernel
theorem dX1_lotsCounted_26 : decode cX1_lotsCounted 26 = .ok (.iload_n 1, 1) := by decide +kernel
theorem dX1_lotsCounted_27 : decode cX1_lotsCounted 27 = .ok (.invokestatic 212, 3) := by decide +kernel
theorem dX1_lotsCounted_30 : decode cX1_lotsCounted 30 = .ok (.ifCond .eq 6, 3) := by decide +kernel
theorem dX1_lotsCounted_33 : decode cX1_lotsCounted 33 = .ok (.iinc 2 1, 3) := by decide +kernel
theorem dX1_lotsCounted_36 : decode cX1_lotsCounted 36 = .ok (.iinc 3 1, 3) := by decide +kernel
theorem dX1_lotsCounted_39 : decode cX1_lotsCounted 39 = .ok (.goto (-35), 3) := by decide +kernel
theorem dX1_lotsCounted_42 : decode cX1_lotsCounted 42 = .ok (.iload_n 2, 1) := by decide +kernel
theorem dX1_lotsCounted_43 : decode cX1_lotsCounted 43 = .ok (.ireturn, 1) := by decide +kernel
theorem dX1_isCounted_0 : decode cX1_isCounted 0 = .ok (.iload_n 1, 1) := by decide +kernel
theorem dX1_isCounted_1 : decode cX1_isCounted 1 = .ok (.tableswitch 83 2 6 #[35, 48, 53, 73, 78], 35) := by decide +kernel
theorem dX1_isCounted_36 : decode cX1_isCounted 36 = .ok (.aload_n 0, 1) := by decide +kernel
theorem dX1_isCounted_37 : decode cX1_isCounted 37 = .ok (.invokevirtual 128, 3) := by decide +kernel
theorem dX1_isCounted_40 : decode cX1_isCounted 40 = .ok (.ifCond .ne 7, 3) := by decide +kernel
theorem dX1_isCounted_43 : decode cX1_isCounted 43 = .ok (.iconst 1, 1) := by decide +kernel
theorem dX1_isCounted_44 : decode cX1_isCounted 44 = .ok (.goto 4, 3) := by decide +kernel
theorem dX1_isCounted_47 : decode cX1_isCounted 47 = .ok (.iconst 0, 1) := by decide +kernel
theorem dX1_isCounted_48 : decode cX1_isCounted 48 = .ok (.ireturn, 1) := by decide +kernel
theorem dX1_isCounted_49 : decode cX1_isCounted 49 = .ok (.aload_n 0, 1) := by decide +kernel
theorem dX1_isCounted_50 : decode cX1_isCounted 50 = .ok (.getfield 132, 3) := by decide +kernel
theorem dX1_isCounted_53 : decode cX1_isCounted 53 = .ok (.ireturn, 1) := by decide +kernel
theorem dX1_isCounted_54 : decode cX1_isCounted 54 = .ok (.aload_n 0, 1) := by decide +kernel
theorem dX1_isCounted_55 : decode cX1_isCounted 55 = .ok (.invokevirtual 128, 3) := by decide +kernel
theorem dX1_isCounted_58 : decode cX1_isCounted 58 = .ok (.ifCond .ne 14, 3) := by decide +kernel
theorem dX1_isCounted_61 : decode cX1_isCounted 61 = .ok (.aload_n 0, 1) := by decide +kernel
theorem dX1_isCounted_62 : decode cX1_isCounted 62 = .ok (.getfield 216, 3) := by decide +kernel
theorem dX1_isCounted_65 : decode cX1_isCounted 65 = .ok (.ifCond .eq 7, 3) := by decide +kernel
theorem dX1_isCounted_68 : decode cX1_isCounted 68 = .ok (.iconst 1, 1) := by decide +kernel
theorem dX1_isCounted_69 : decode cX1_isCounted 69 = .ok (.goto 4, 3) := by decide +kernel
theorem dX1_isCounted_72 : decode cX1_isCounted 72 = .ok (.iconst 0, 1) := by decide +kernel
theorem dX1_isCounted_73 : decode cX1_isCounted 73 = .ok (.ireturn, 1) := by decide +kernel
theorem dX1_isCounted_74 : decode cX1_isCounted 74 = .ok (.aload_n 0, 1) := by decide +kernel
theorem dX1_isCounted_75 : decode cX1_isCounted 75 = .ok (.getfield 219, 3) := by decide +kernel
theorem dX1_isCounted_78 : decode cX1_isCounted 78 = .ok (.ireturn, 1) := by decide +kernel
theorem dX1_isCounted_79 : decode cX1_isCounted 79 = .ok (.aload_n 0, 1) := by decide +kernel
theorem dX1_isCounted_80 : decode cX1_isCounted 80 = .ok (.invokevirtual 128, 3) := by decide +kernel
theorem dX1_isCounted_83 : decode cX1_isCounted 83 = .ok (.ireturn, 1) := by decide +kernel
theorem dX1_isCounted_84 : decode cX1_isCounted 84 = .ok (.iconst 0, 1) := by decide +kernel
theorem dX1_isCounted_85 : decode cX1_isCounted 85 = .ok (.ireturn, 1) := by decide +kernel
theorem dX1_grainsInVats_0 : decode cX1_grainsInVats 0 = .ok (.iconst 0, 1) := by decide +kernel
theorem dX1_grainsInVats_1 : decode cX1_grainsInVats 1 = .ok (.istore_n 2, 1) := by decide +kernel
theorem dX1_grainsInVats_2 : decode cX1_grainsInVats 2 = .ok (.iconst 0, 1) := by decide +kernel
theorem dX1_grainsInVats_3 : decode cX1_grainsInVats 3 = .ok (.istore_n 3, 1) := by decide +kernel
theorem dX1_grainsInVats_4 : decode cX1_grainsInVats 4 = .ok (.iload_n 3, 1) := by decide +kernel
theorem dX1_grainsInVats_5 : decode cX1_grainsInVats 5 = .ok (.aload_n 0, 1) := by decide +kernel
theorem dX1_grainsInVats_6 : decode cX1_grainsInVats 6 = .ok (.getfield 46, 3) := by decide +kernel
theorem dX1_grainsInVats_9 : decode cX1_grainsInVats 9 = .ok (.if_icmp .ge 38, 3) := by decide +kernel
theorem dX1_grainsInVats_12 : decode cX1_grainsInVats 12 = .ok (.aload_n 0, 1) := by decide +kernel
theorem dX1_grainsInVats_13 : decode cX1_grainsInVats 13 = .ok (.iload_n 3, 1) := by decide +kernel
theorem dX1_grainsInVats_14 : decode cX1_grainsInVats 14 = .ok (.invokevirtual 92, 3) := by decide +kernel
theorem dX1_grainsInVats_17 : decode cX1_grainsInVats 17 = .ok (.astore 4, 2) := by decide +kernel
theorem dX1_grainsInVats_19 : decode cX1_grainsInVats 19 = .ok (.aload 4, 2) := by decide +kernel
theorem dX1_grainsInVats_21 : decode cX1_grainsInVats 21 = .ok (.ifnull 20, 3) := by decide +kernel
theorem dX1_grainsInVats_24 : decode cX1_grainsInVats 24 = .ok (.aload 4, 2) := by decide +kernel
theorem dX1_grainsInVats_26 : decode cX1_grainsInVats 26 = .ok (.getfield 96, 3) := by decide +kernel
theorem dX1_grainsInVats_29 : decode cX1_grainsInVats 29 = .ok (.iload_n 1, 1) := by decide +kernel
theorem dX1_grainsInVats_30 : decode cX1_grainsInVats 30 = .ok (.if_icmp .ne 11, 3) := by decide +kernel
theorem dX1_grainsInVats_33 : decode cX1_grainsInVats 33 = .ok (.iload_n 2, 1) := by decide +kernel
theorem dX1_grainsInVats_34 : decode cX1_grainsInVats 34 = .ok (.aload 4, 2) := by decide +kernel
theorem dX1_grainsInVats_36 : decode cX1_grainsInVats 36 = .ok (.getfield 112, 3) := by decide +kernel
theorem dX1_grainsInVats_39 : decode cX1_grainsInVats 39 = .ok (.iadd, 1) := by decide +kernel
theorem dX1_grainsInVats_40 : decode cX1_grainsInVats 40 = .ok (.istore_n 2, 1) := by decide +kernel
theorem dX1_grainsInVats_41 : decode cX1_grainsInVats 41 = .ok (.iinc 3 1, 3) := by decide +kernel
theorem dX1_grainsInVats_44 : decode cX1_grainsInVats 44 = .ok (.goto (-40), 3) := by decide +kernel
theorem dX1_grainsInVats_47 : decode cX1_grainsInVats 47 = .ok (.iload_n 2, 1) := by decide +kernel
theorem dX1_grainsInVats_48 : decode cX1_grainsInVats 48 = .ok (.ireturn, 1) := by decide +kernel
theorem dX1_fixedInHouse_0 : decode cX1_fixedInHouse 0 = .ok (.iconst 0, 1) := by decide +kernel
theorem dX1_fixedInHouse_1 : decode cX1_fixedInHouse 1 = .ok (.istore_n 2, 1) := by decide +kernel
theorem dX1_fixedInHouse_2 : decode cX1_fixedInHouse 2 = .ok (.iconst 0, 1) := by decide +kernel
theorem dX1_fixedInHouse_3 : decode cX1_fixedInHouse 3 = .ok (.istore_n 3, 1) := by decide +kernel
theorem dX1_fixedInHouse_4 : decode cX1_fixedInHouse 4 = .ok (.iload_n 3, 1) := by decide +kernel
theorem dX1_fixedInHouse_5 : decode cX1_fixedInHouse 5 = .ok (.aload_n 0, 1) := by decide +kernel
theorem dX1_fixedInHouse_6 : decode cX1_fixedInHouse 6 = .ok (.getfield 50, 3) := by decide +kernel
theorem dX1_fixedInHouse_9 : decode cX1_fixedInHouse 9 = .ok (.if_icmp .ge 41, 3) := by decide +kernel
theorem dX1_fixedInHouse_12 : decode cX1_fixedInHouse 12 = .ok (.aload_n 0, 1) := by decide +kernel
theorem dX1_fixedInHouse_13 : decode cX1_fixedInHouse 13 = .ok (.iload_n 3, 1) := by decide +kernel
theorem dX1_fixedInHouse_14 : decode cX1_fixedInHouse 14 = .ok (.invokevirtual 118, 3) := by decide +kernel
theorem dX1_fixedInHouse_17 : decode cX1_fixedInHouse 17 = .ok (.astore 4, 2) := by decide +kernel
theorem dX1_fixedInHouse_19 : decode cX1_fixedInHouse 19 = .ok (.aload 4, 2) := by decide +kernel
theorem dX1_fixedInHouse_21 : decode cX1_fixedInHouse 21 = .ok (.ifnull 23, 3) := by decide +kernel
theorem dX1_fixedInHouse_24 : decode cX1_fixedInHouse 24 = .ok (.aload 4, 2) := by decide +kernel
theorem dX1_fixedInHouse_26 : decode cX1_fixedInHouse 26 = .ok (.invokevirtual 128, 3) := by decide +kernel
theorem dX1_fixedInHouse_29 : decode cX1_fixedInHouse 29 = .ok (.ifCond .ne 15, 3) := by decide +kernel
theorem dX1_fixedInHouse_32 : decode cX1_fixedInHouse 32 = .ok (.iload_n 2, 1) := by decide +kernel
theorem dX1_fixedInHouse_33 : decode cX1_fixedInHouse 33 = .ok (.aload 4, 2) := by decide +kernel
theorem dX1_fixedInHouse_35 : decode cX1_fixedInHouse 35 = .ok (.getfield 222, 3) := by decide +kernel
theorem dX1_fixedInHouse_38 : decode cX1_fixedInHouse 38 = .ok (.iload_n 1, 1) := by decide +kernel
theorem dX1_fixedInHouse_39 : decode cX1_fixedInHouse 39 = .ok (.invokestatic 103, 3) := by decide +kernel
theorem dX1_fixedInHouse_42 : decode cX1_fixedInHouse 42 = .ok (.iadd, 1) := by decide +kernel
theorem dX1_fixedInHouse_43 : decode cX1_fixedInHouse 43 = .ok (.istore_n 2, 1) := by decide +kernel
theorem dX1_fixedInHouse_44 : decode cX1_fixedInHouse 44 = .ok (.iinc 3 1, 3) := by decide +kernel
theorem dX1_fixedInHouse_47 : decode cX1_fixedInHouse 47 = .ok (.goto (-43), 3) := by decide +kernel
theorem dX1_fixedInHouse_50 : decode cX1_fixedInHouse 50 = .ok (.iload_n 2, 1) := by decide +kernel
theorem dX1_fixedInHouse_51 : decode cX1_fixedInHouse 51 = .ok (.ireturn, 1) := by decide +kernel
theorem dX1_looseInHouse_0 : decode cX1_looseInHouse 0 = .ok (.iconst 0, 1) := by decide +kernel
theorem dX1_looseInHouse_1 : decode cX1_looseInHouse 1 = .ok (.istore_n 2, 1) := by decide +kernel
theorem dX1_looseInHouse_2 : decode cX1_looseInHouse 2 = .ok (.iconst 0, 1) := by decide +kernel
theorem dX1_looseInHouse_3 : decode cX1_looseInHouse 3 = .ok (.istore_n 3, 1) := by decide +kernel
theorem dX1_looseInHouse_4 : decode cX1_looseInHouse 4 = .ok (.iload_n 3, 1) := by decide +kernel
theorem dX1_looseInHouse_5 : decode cX1_looseInHouse 5 = .ok (.aload_n 0, 1) := by decide +kernel
theorem dX1_looseInHouse_6 : decode cX1_looseInHouse 6 = .ok (.getfield 50, 3) := by decide +kernel
theorem dX1_looseInHouse_9 : decode cX1_looseInHouse 9 = .ok (.if_icmp .ge 41, 3) := by decide +kernel
theorem dX1_looseInHouse_12 : decode cX1_looseInHouse 12 = .ok (.aload_n 0, 1) := by decide +kernel
theorem dX1_looseInHouse_13 : decode cX1_looseInHouse 13 = .ok (.iload_n 3, 1) := by decide +kernel
theorem dX1_looseInHouse_14 : decode cX1_looseInHouse 14 = .ok (.invokevirtual 118, 3) := by decide +kernel
theorem dX1_looseInHouse_17 : decode cX1_looseInHouse 17 = .ok (.astore 4, 2) := by decide +kernel
theorem dX1_looseInHouse_19 : decode cX1_looseInHouse 19 = .ok (.aload 4, 2) := by decide +kernel
theorem dX1_looseInHouse_21 : decode cX1_looseInHouse 21 = .ok (.ifnull 23, 3) := by decide +kernel
theorem dX1_looseInHouse_24 : decode cX1_looseInHouse 24 = .ok (.aload 4, 2) := by decide +kernel
theorem dX1_looseInHouse_26 : decode cX1_looseInHouse 26 = .ok (.invokevirtual 128, 3) := by decide +kernel
theorem dX1_looseInHouse_29 : decode cX1_looseInHouse 29 = .ok (.ifCond .ne 15, 3) := by decide +kernel
theorem dX1_looseInHouse_32 : decode cX1_looseInHouse 32 = .ok (.iload_n 2, 1) := by decide +kernel
theorem dX1_looseInHouse_33 : decode cX1_looseInHouse 33 = .ok (.aload 4, 2) := by decide +kernel
theorem dX1_looseInHouse_35 : decode cX1_looseInHouse 35 = .ok (.getfield 140, 3) := by decide +kernel
theorem dX1_looseInHouse_38 : decode cX1_looseInHouse 38 = .ok (.iload_n 1, 1) := by decide +kernel
theorem dX1_looseInHouse_39 : decode cX1_looseInHouse 39 = .ok (.invokestatic 103, 3) := by decide +kernel
theorem dX1_looseInHouse_42 : decode cX1_looseInHouse 42 = .ok (.iadd, 1) := by decide +kernel
theorem dX1_looseInHouse_43 : decode cX1_looseInHouse 43 = .ok (.istore_n 2, 1) := by decide +kernel
theorem dX1_looseInHouse_44 : decode cX1_looseInHouse 44 = .ok (.iinc 3 1, 3) := by decide +kernel
theorem dX1_looseInHouse_47 : decode cX1_looseInHouse 47 = .ok (.goto (-43), 3) := by decide +kernel
theorem dX1_looseInHouse_50 : decode cX1_looseInHouse 50 = .ok (.iload_n 2, 1) := by decide +kernel
theorem dX1_looseInHouse_51 : decode cX1_looseInHouse 51 = .ok (.ireturn, 1) := by decide +kernel
theorem dX1_grainsSold_0 : decode cX1_grainsSold 0 = .ok (.iconst 0, 1) := by decide +kernel
theorem dX1_grainsSold_1 : decode cX1_grainsSold 1 = .ok (.istore_n 2, 1) := by decide +kernel
theorem dX1_grainsSold_2 : decode cX1_grainsSold 2 = .ok (.iconst 0, 1) := by decide +kernel
theorem dX1_grainsSold_3 : decode cX1_grainsSold 3 = .ok (.istore_n 3, 1) := by decide +kernel
theorem dX1_grainsSold_4 : decode cX1_grainsSold 4 = .ok (.iload_n 3, 1) := by decide +kernel
theorem dX1_grainsSold_5 : decode cX1_grainsSold 5 = .ok (.aload_n 0, 1) := by decide +kernel
theorem dX1_grainsSold_6 : decode cX1_grainsSold 6 = .ok (.getfield 50, 3) := by decide +kernel
theorem dX1_grainsSold_9 : decode cX1_grainsSold 9 = .ok (.if_icmp .ge 38, 3) := by decide +kernel
theorem dX1_grainsSold_12 : decode cX1_grainsSold 12 = .ok (.aload_n 0, 1) := by decide +kernel
theorem dX1_grainsSold_13 : decode cX1_grainsSold 13 = .ok (.iload_n 3, 1) := by decide +kernel
theorem dX1_grainsSold_14 : decode cX1_grainsSold 14 = .ok (.invokevirtual 118, 3) := by decide +kernel
theorem dX1_grainsSold_17 : decode cX1_grainsSold 17 = .ok (.astore 4, 2) := by decide +kernel
theorem dX1_grainsSold_19 : decode cX1_grainsSold 19 = .ok (.aload 4, 2) := by decide +kernel
theorem dX1_grainsSold_21 : decode cX1_grainsSold 21 = .ok (.ifnull 20, 3) := by decide +kernel
theorem dX1_grainsSold_24 : decode cX1_grainsSold 24 = .ok (.aload 4, 2) := by decide +kernel
theorem dX1_grainsSold_26 : decode cX1_grainsSold 26 = .ok (.invokevirtual 128, 3) := by decide +kernel
theorem dX1_grainsSold_29 : decode cX1_grainsSold 29 = .ok (.ifCond .eq 12, 3) := by decide +kernel
theorem dX1_grainsSold_32 : decode cX1_grainsSold 32 = .ok (.iload_n 2, 1) := by decide +kernel
theorem dX1_grainsSold_33 : decode cX1_grainsSold 33 = .ok (.aload 4, 2) := by decide +kernel
theorem dX1_grainsSold_35 : decode cX1_grainsSold 35 = .ok (.iload_n 1, 1) := by decide +kernel
theorem dX1_grainsSold_36 : decode cX1_grainsSold 36 = .ok (.invokevirtual 225, 3) := by decide +kernel
theorem dX1_grainsSold_39 : decode cX1_grainsSold 39 = .ok (.iadd, 1) := by decide +kernel
theorem dX1_grainsSold_40 : decode cX1_grainsSold 40 = .ok (.istore_n 2, 1) := by decide +kernel
theorem dX1_grainsSold_41 : decode cX1_grainsSold 41 = .ok (.iinc 3 1, 3) := by decide +kernel
theorem dX1_grainsSold_44 : decode cX1_grainsSold 44 = .ok (.goto (-40), 3) := by decide +kernel
theorem dX1_grainsSold_47 : decode cX1_grainsSold 47 = .ok (.iload_n 2, 1) := by decide +kernel
theorem dX1_grainsSold_48 : decode cX1_grainsSold 48 = .ok (.ireturn, 1) := by decide +kernel
theorem dX2_init_0 : decode cX2_init 0 = .ok (.aload_n 0, 1) := by decide +kernel
theorem dX2_init_1 : decode cX2_init 1 = .ok (.invokespecial 3, 3) := by decide +kernel
theorem dX2_init_4 : decode cX2_init 4 = .ok (.aload_n 0, 1) := by decide +kernel
theorem dX2_init_5 : decode cX2_init 5 = .ok (.iconst (-1), 1) := by decide +kernel
theorem dX2_init_6 : decode cX2_init 6 = .ok (.putfield 11, 3) := by decide +kernel
theorem dX2_init_9 : decode cX2_init 9 = .ok (.aload_n 0, 1) := by decide +kernel
theorem dX2_init_10 : decode cX2_init 10 = .ok (.iconst 4, 1) := by decide +kernel
theorem dX2_init_11 : decode cX2_init 11 = .ok (.newarray .int, 2) := by decide +kernel
theorem dX2_init_13 : decode cX2_init 13 = .ok (.putfield 15, 3) := by decide +kernel
theorem dX2_init_16 : decode cX2_init 16 = .ok (.aload_n 0, 1) := by decide +kernel
theorem dX2_init_17 : decode cX2_init 17 = .ok (.iconst 4, 1) := by decide +kernel
theorem dX2_init_18 : decode cX2_init 18 = .ok (.newarray .int, 2) := by decide +kernel
theorem dX2_init_20 : decode cX2_init 20 = .ok (.putfield 19, 3) := by decide +kernel
theorem dX2_init_23 : decode cX2_init 23 = .ok (.return_, 1) := by decide +kernel
theorem dX2_copyFrom_0 : decode cX2_copyFrom 0 = .ok (.aload_n 0, 1) := by decide +kernel
theorem dX2_copyFrom_1 : decode cX2_copyFrom 1 = .ok (.aload_n 1, 1) := by decide +kernel
theorem dX2_copyFrom_2 : decode cX2_copyFrom 2 = .ok (.getfield 22, 3) := by decide +kernel
theorem dX2_copyFrom_5 : decode cX2_copyFrom 5 = .ok (.putfield 22, 3) := by decide +kernel
theorem dX2_copyFrom_8 : decode cX2_copyFrom 8 = .ok (.aload_n 0, 1) := by decide +kernel
theorem dX2_copyFrom_9 : decode cX2_copyFrom 9 = .ok (.aload_n 1, 1) := by decide +kernel
theorem dX2_copyFrom_10 : decode cX2_copyFrom 10 = .ok (.getfield 25, 3) := by decide +kernel
theorem dX2_copyFrom_13 : decode cX2_copyFrom 13 = .ok (.putfield 25, 3) := by decide +kernel
theorem dX2_copyFrom_16 : decode cX2_copyFrom 16 = .ok (.aload_n 0, 1) := by decide +kernel
theorem dX2_copyFrom_17 : decode cX2_copyFrom 17 = .ok (.aload_n 1, 1) := by decide +kernel
theorem dX2_copyFrom_18 : decode cX2_copyFrom 18 = .ok (.getfield 28, 3) := by decide +kernel
theorem dX2_copyFrom_21 : decode cX2_copyFrom 21 = .ok (.putfield 28, 3) := by decide +kernel
theorem dX2_copyFrom_24 : decode cX2_copyFrom 24 = .ok (.aload_n 0, 1) := by decide +kernel
theorem dX2_copyFrom_25 : decode cX2_copyFrom 25 = .ok (.aload_n 1, 1) := by decide +kernel
theorem dX2_copyFrom_26 : decode cX2_copyFrom 26 = .ok (.getfield 32, 3) := by decide +kernel
theorem dX2_copyFrom_29 : decode cX2_copyFrom 29 = .ok (.putfield 32, 3) := by decide +kernel
theorem dX2_copyFrom_32 : decode cX2_copyFrom 32 = .ok (.aload_n 0, 1) := by decide +kernel
theorem dX2_copyFrom_33 : decode cX2_copyFrom 33 = .ok (.aload_n 1, 1) := by decide +kernel
theorem dX2_copyFrom_34 : decode cX2_copyFrom 34 = .ok (.getfield 35, 3) := by decide +kernel
theorem dX2_copyFrom_37 : decode cX2_copyFrom 37 = .ok (.putfield 35, 3) := by decide +kernel
theorem dX2_copyFrom_40 : decode cX2_copyFrom 40 = .ok (.aload_n 0, 1) := by decide +kernel
theorem dX2_copyFrom_41 : decode cX2_copyFrom 41 = .ok (.aload_n 1, 1) := by decide +kernel
theorem dX2_copyFrom_42 : decode cX2_copyFrom 42 = .ok (.getfield 11, 3) := by decide +kernel
theorem dX2_copyFrom_45 : decode cX2_copyFrom 45 = .ok (.putfield 11, 3) := by decide +kernel
theorem dX2_copyFrom_48 : decode cX2_copyFrom 48 = .ok (.aload_n 0, 1) := by decide +kernel
theorem dX2_copyFrom_49 : decode cX2_copyFrom 49 = .ok (.aload_n 1, 1) := by decide +kernel
theorem dX2_copyFrom_50 : decode cX2_copyFrom 50 = .ok (.getfield 38, 3) := by decide +kernel
theorem dX2_copyFrom_53 : decode cX2_copyFrom 53 = .ok (.putfield 38, 3) := by decide +kernel
theorem dX2_copyFrom_56 : decode cX2_copyFrom 56 = .ok (.aload_n 1, 1) := by decide +kernel
theorem dX2_copyFrom_57 : decode cX2_copyFrom 57 = .ok (.getfield 15, 3) := by decide +kernel
theorem dX2_copyFrom_60 : decode cX2_copyFrom 60 = .ok (.aload_n 0, 1) := by decide +kernel
theorem dX2_copyFrom_61 : decode cX2_copyFrom 61 = .ok (.getfield 15, 3) := by decide +kernel
theorem dX2_copyFrom_64 : decode cX2_copyFrom 64 = .ok (.invokestatic 41, 3) := by decide +kernel
theorem dX2_copyFrom_67 : decode cX2_copyFrom 67 = .ok (.aload_n 1, 1) := by decide +kernel
theorem dX2_copyFrom_68 : decode cX2_copyFrom 68 = .ok (.getfield 19, 3) := by decide +kernel
theorem dX2_copyFrom_71 : decode cX2_copyFrom 71 = .ok (.aload_n 0, 1) := by decide +kernel
theorem dX2_copyFrom_72 : decode cX2_copyFrom 72 = .ok (.getfield 19, 3) := by decide +kernel
theorem dX2_copyFrom_75 : decode cX2_copyFrom 75 = .ok (.invokestatic 41, 3) := by decide +kernel
theorem dX2_copyFrom_78 : decode cX2_copyFrom 78 = .ok (.return_, 1) := by decide +kernel
theorem dX2_isSold_0 : decode cX2_isSold 0 = .ok (.aload_n 0, 1) := by decide +kernel
theorem dX2_isSold_1 : decode cX2_isSold 1 = .ok (.getfield 11, 3) := by decide +kernel
theorem dX2_isSold_4 : decode cX2_isSold 4 = .ok (.iconst (-1), 1) := by decide +kernel
theorem dX2_isSold_5 : decode cX2_isSold 5 = .ok (.if_icmp .eq 7, 3) := by decide +kernel
theorem dX2_isSold_8 : decode cX2_isSold 8 = .ok (.iconst 1, 1) := by decide +kernel
theorem dX2_isSold_9 : decode cX2_isSold 9 = .ok (.goto 4, 3) := by decide +kernel
theorem dX2_isSold_12 : decode cX2_isSold 12 = .ok (.iconst 0, 1) := by decide +kernel
theorem dX2_isSold_13 : decode cX2_isSold 13 = .ok (.ireturn, 1) := by decide +kernel
theorem dX2_grainsOf_0 : decode cX2_grainsOf 0 = .ok (.iload_n 1, 1) := by decide +kernel
theorem dX2_grainsOf_1 : decode cX2_grainsOf 1 = .ok (.ifCond .lt 37, 3) := by decide +kernel
theorem dX2_grainsOf_4 : decode cX2_grainsOf 4 = .ok (.iload_n 1, 1) := by decide +kernel
theorem dX2_grainsOf_5 : decode cX2_grainsOf 5 = .ok (.aload_n 0, 1) := by decide +kernel
theorem dX2_grainsOf_6 : decode cX2_grainsOf 6 = .ok (.getfield 15, 3) := by decide +kernel
theorem dX2_grainsOf_9 : decode cX2_grainsOf 9 = .ok (.arraylength, 1) := by decide +kernel
theorem dX2_grainsOf_10 : decode cX2_grainsOf 10 = .ok (.if_icmp .ge 28, 3) := by decide +kernel
theorem dX2_grainsOf_13 : decode cX2_grainsOf 13 = .ok (.iload_n 1, 1) := by decide +kernel
theorem dX2_grainsOf_14 : decode cX2_grainsOf 14 = .ok (.aload_n 0, 1) := by decide +kernel
theorem dX2_grainsOf_15 : decode cX2_grainsOf 15 = .ok (.getfield 19, 3) := by decide +kernel
theorem dX2_grainsOf_18 : decode cX2_grainsOf 18 = .ok (.arraylength, 1) := by decide +kernel
theorem dX2_grainsOf_19 : decode cX2_grainsOf 19 = .ok (.if_icmp .ge 19, 3) := by decide +kernel
theorem dX2_grainsOf_22 : decode cX2_grainsOf 22 = .ok (.aload_n 0, 1) := by decide +kernel
theorem dX2_grainsOf_23 : decode cX2_grainsOf 23 = .ok (.getfield 15, 3) := by decide +kernel
theorem dX2_grainsOf_26 : decode cX2_grainsOf 26 = .ok (.iload_n 1, 1) := by decide +kernel
theorem dX2_grainsOf_27 : decode cX2_grainsOf 27 = .ok (.iaload, 1) := by decide +kernel
theorem dX2_grainsOf_28 : decode cX2_grainsOf 28 = .ok (.aload_n 0, 1) := by decide +kernel
theorem dX2_grainsOf_29 : decode cX2_grainsOf 29 = .ok (.getfield 19, 3) := by decide +kernel
theorem dX2_grainsOf_32 : decode cX2_grainsOf 32 = .ok (.iload_n 1, 1) := by decide +kernel
theorem dX2_grainsOf_33 : decode cX2_grainsOf 33 = .ok (.iaload, 1) := by decide +kernel
theorem dX2_grainsOf_34 : decode cX2_grainsOf 34 = .ok (.iadd, 1) := by decide +kernel
theorem dX2_grainsOf_35 : decode cX2_grainsOf 35 = .ok (.goto 4, 3) := by decide +kernel
theorem dX2_grainsOf_38 : decode cX2_grainsOf 38 = .ok (.iconst 0, 1) := by decide +kernel
theorem dX2_grainsOf_39 : decode cX2_grainsOf 39 = .ok (.ireturn, 1) := by decide +kernel
theorem dX2_shadeOf_0 : decode cX2_shadeOf 0 = .ok (.aload_n 0, 1) := by decide +kernel
theorem dX2_shadeOf_1 : decode cX2_shadeOf 1 = .ok (.getfield 25, 3) := by decide +kernel
theorem dX2_shadeOf_4 : decode cX2_shadeOf 4 = .ok (.ifCond .le 23, 3) := by decide +kernel
theorem dX2_shadeOf_7 : decode cX2_shadeOf 7 = .ok (.ldc2_w 45, 3) := by decide +kernel
theorem dX2_shadeOf_10 : decode cX2_shadeOf 10 = .ok (.aload_n 0, 1) := by decide +kernel
theorem dX2_shadeOf_11 : decode cX2_shadeOf 11 = .ok (.iload_n 1, 1) := by decide +kernel
theorem dX2_shadeOf_12 : decode cX2_shadeOf 12 = .ok (.invokevirtual 47, 3) := by decide +kernel
theorem dX2_shadeOf_15 : decode cX2_shadeOf 15 = .ok (.i2l, 1) := by decide +kernel
theorem dX2_shadeOf_16 : decode cX2_shadeOf 16 = .ok (.lmul, 1) := by decide +kernel
theorem dX2_shadeOf_17 : decode cX2_shadeOf 17 = .ok (.aload_n 0, 1) := by decide +kernel
theorem dX2_shadeOf_18 : decode cX2_shadeOf 18 = .ok (.getfield 25, 3) := by decide +kernel
theorem dX2_shadeOf_21 : decode cX2_shadeOf 21 = .ok (.i2l, 1) := by decide +kernel
theorem dX2_shadeOf_22 : decode cX2_shadeOf 22 = .ok (.ldiv, 1) := by decide +kernel
theorem dX2_shadeOf_23 : decode cX2_shadeOf 23 = .ok (.l2i, 1) := by decide +kernel
theorem dX2_shadeOf_24 : decode cX2_shadeOf 24 = .ok (.goto 4, 3) := by decide +kernel
theorem dX2_shadeOf_27 : decode cX2_shadeOf 27 = .ok (.iconst 0, 1) := by decide +kernel
theorem dX2_shadeOf_28 : decode cX2_shadeOf 28 = .ok (.ireturn, 1) := by decide +kernel
theorem dX2_depth_0 : decode cX2_depth 0 = .ok (.aload_n 0, 1) := by decide +kernel
theorem dX2_depth_1 : decode cX2_depth 1 = .ok (.getfield 25, 3) := by decide +kernel
theorem dX2_depth_4 : decode cX2_depth 4 = .ok (.ifCond .le 33, 3) := by decide +kernel
theorem dX2_depth_7 : decode cX2_depth 7 = .ok (.ldc2_w 45, 3) := by decide +kernel
theorem dX2_depth_10 : decode cX2_depth 10 = .ok (.aload_n 0, 1) := by decide +kernel
theorem dX2_depth_11 : decode cX2_depth 11 = .ok (.getfield 15, 3) := by decide +kernel
theorem dX2_depth_14 : decode cX2_depth 14 = .ok (.invokestatic 51, 3) := by decide +kernel
theorem dX2_depth_17 : decode cX2_depth 17 = .ok (.aload_n 0, 1) := by decide +kernel
theorem dX2_depth_18 : decode cX2_depth 18 = .ok (.getfield 19, 3) := by decide +kernel
theorem dX2_depth_21 : decode cX2_depth 21 = .ok (.invokestatic 51, 3) := by decide +kernel
theorem dX2_depth_24 : decode cX2_depth 24 = .ok (.iadd, 1) := by decide +kernel
theorem dX2_depth_25 : decode cX2_depth 25 = .ok (.i2l, 1) := by decide +kernel
theorem dX2_depth_26 : decode cX2_depth 26 = .ok (.lmul, 1) := by decide +kernel
theorem dX2_depth_27 : decode cX2_depth 27 = .ok (.aload_n 0, 1) := by decide +kernel
theorem dX2_depth_28 : decode cX2_depth 28 = .ok (.getfield 25, 3) := by decide +kernel
theorem dX2_depth_31 : decode cX2_depth 31 = .ok (.i2l, 1) := by decide +kernel
theorem dX2_depth_32 : decode cX2_depth 32 = .ok (.ldiv, 1) := by decide +kernel
theorem dX2_depth_33 : decode cX2_depth 33 = .ok (.l2i, 1) := by decide +kernel
theorem dX2_depth_34 : decode cX2_depth 34 = .ok (.goto 4, 3) := by decide +kernel
theorem dX2_depth_37 : decode cX2_depth 37 = .ok (.iconst 0, 1) := by decide +kernel
theorem dX2_depth_38 : decode cX2_depth 38 = .ok (.ireturn, 1) := by decide +kernel
theorem dX2_floatShade_0 : decode cX2_floatShade 0 = .ok (.aload_n 0, 1) := by decide +kernel
theorem dX2_floatShade_1 : decode cX2_floatShade 1 = .ok (.getfield 25, 3) := by decide +kernel
theorem dX2_floatShade_4 : decode cX2_floatShade 4 = .ok (.ifCond .le 18, 3) := by decide +kernel
theorem dX2_floatShade_7 : decode cX2_floatShade 7 = .ok (.aload_n 0, 1) := by decide +kernel
theorem dX2_floatShade_8 : decode cX2_floatShade 8 = .ok (.iload_n 1, 1) := by decide +kernel
theorem dX2_floatShade_9 : decode cX2_floatShade 9 = .ok (.invokevirtual 47, 3) := by decide +kernel
theorem dX2_floatShade_12 : decode cX2_floatShade 12 = .ok (.i2f, 1) := by decide +kernel
theorem dX2_floatShade_13 : decode cX2_floatShade 13 = .ok (.aload_n 0, 1) := by decide +kernel
theorem dX2_floatShade_14 : decode cX2_floatShade 14 = .ok (.getfield 25, 3) := by decide +kernel
theorem dX2_floatShade_17 : decode cX2_floatShade 17 = .ok (.i2f, 1) := by decide +kernel
theorem dX2_floatShade_18 : decode cX2_floatShade 18 = .ok (.fdiv, 1) := by decide +kernel
theorem dX2_floatShade_19 : decode cX2_floatShade 19 = .ok (.goto 4, 3) := by decide +kernel
theorem dX2_floatShade_22 : decode cX2_floatShade 22 = .ok (.fconst 0, 1) := by decide +kernel
theorem dX2_floatShade_23 : decode cX2_floatShade 23 = .ok (.freturn, 1) := by decide +kernel
theorem dX2_grainsTaken_0 : decode cX2_grainsTaken 0 = .ok (.aload_n 0, 1) := by decide +kernel
theorem dX2_grainsTaken_1 : decode cX2_grainsTaken 1 = .ok (.getfield 22, 3) := by decide +kernel
theorem dX2_grainsTaken_4 : decode cX2_grainsTaken 4 = .ok (.iconst 1, 1) := by decide +kernel
theorem dX2_grainsTaken_5 : decode cX2_grainsTaken 5 = .ok (.if_icmp .ne 9, 3) := by decide +kernel
theorem dX2_grainsTaken_8 : decode cX2_grainsTaken 8 = .ok (.ldc2_w 55, 3) := by decide +kernel
theorem dX2_grainsTaken_11 : decode cX2_grainsTaken 11 = .ok (.goto 4, 3) := by decide +kernel
theorem dX2_grainsTaken_14 : decode cX2_grainsTaken 14 = .ok (.lconst 1, 1) := by decide +kernel
theorem dX2_grainsTaken_15 : decode cX2_grainsTaken 15 = .ok (.aload_n 0, 1) := by decide +kernel
theorem dX2_grainsTaken_16 : decode cX2_grainsTaken 16 = .ok (.getfield 25, 3) := by decide +kernel
theorem dX2_grainsTaken_19 : decode cX2_grainsTaken 19 = .ok (.i2l, 1) := by decide +kernel
theorem dX2_grainsTaken_20 : decode cX2_grainsTaken 20 = .ok (.lmul, 1) := by decide +kernel
theorem dX2_grainsTaken_21 : decode cX2_grainsTaken 21 = .ok (.lstore 4, 2) := by decide +kernel
theorem dX2_grainsTaken_23 : decode cX2_grainsTaken 23 = .ok (.lload 4, 2) := by decide +kernel
theorem dX2_grainsTaken_25 : decode cX2_grainsTaken 25 = .ok (.aload_n 3, 1) := by decide +kernel
theorem dX2_grainsTaken_26 : decode cX2_grainsTaken 26 = .ok (.iconst 0, 1) := by decide +kernel
theorem dX2_grainsTaken_27 : decode cX2_grainsTaken 27 = .ok (.invokevirtual 59, 3) := by decide +kernel
theorem dX2_grainsTaken_30 : decode cX2_grainsTaken 30 = .ok (.i2l, 1) := by decide +kernel
theorem dX2_grainsTaken_31 : decode cX2_grainsTaken 31 = .ok (.iload_n 2, 1) := by decide +kernel
theorem dX2_grainsTaken_32 : decode cX2_grainsTaken 32 = .ok (.i2l, 1) := by decide +kernel
theorem dX2_grainsTaken_33 : decode cX2_grainsTaken 33 = .ok (.lmul, 1) := by decide +kernel
theorem dX2_grainsTaken_34 : decode cX2_grainsTaken 34 = .ok (.ladd, 1) := by decide +kernel
theorem dX2_grainsTaken_35 : decode cX2_grainsTaken 35 = .ok (.lstore 6, 2) := by decide +kernel
theorem dX2_grainsTaken_37 : decode cX2_grainsTaken 37 = .ok (.lload 6, 2) := by decide +kernel
theorem dX2_grainsTaken_39 : decode cX2_grainsTaken 39 = .ok (.lconst 0, 1) := by decide +kernel
theorem dX2_grainsTaken_40 : decode cX2_grainsTaken 40 = .ok (.lcmp, 1) := by decide +kernel
theorem dX2_grainsTaken_41 : decode cX2_grainsTaken 41 = .ok (.ifCond .le 15, 3) := by decide +kernel
theorem dX2_grainsTaken_44 : decode cX2_grainsTaken 44 = .ok (.iload_n 1, 1) := by decide +kernel
theorem dX2_grainsTaken_45 : decode cX2_grainsTaken 45 = .ok (.i2l, 1) := by decide +kernel
theorem dX2_grainsTaken_46 : decode cX2_grainsTaken 46 = .ok (.lload 4, 2) := by decide +kernel
theorem dX2_grainsTaken_48 : decode cX2_grainsTaken 48 = .ok (.lmul, 1) := by decide +kernel
theorem dX2_grainsTaken_49 : decode cX2_grainsTaken 49 = .ok (.lload 6, 2) := by decide +kernel
theorem dX2_grainsTaken_51 : decode cX2_grainsTaken 51 = .ok (.ldiv, 1) := by decide +kernel
theorem dX2_grainsTaken_52 : decode cX2_grainsTaken 52 = .ok (.l2i, 1) := by decide +kernel
theorem dX2_grainsTaken_53 : decode cX2_grainsTaken 53 = .ok (.goto 4, 3) := by decide +kernel
theorem dX2_grainsTaken_56 : decode cX2_grainsTaken 56 = .ok (.iconst 0, 1) := by decide +kernel
theorem dX2_grainsTaken_57 : decode cX2_grainsTaken 57 = .ok (.ireturn, 1) := by decide +kernel
theorem dX2_soakIn_0 : decode cX2_soakIn 0 = .ok (.aload_n 0, 1) := by decide +kernel
theorem dX2_soakIn_1 : decode cX2_soakIn 1 = .ok (.aload_n 1, 1) := by decide +kernel
theorem dX2_soakIn_2 : decode cX2_soakIn 2 = .ok (.getfield 62, 3) := by decide +kernel
theorem dX2_soakIn_5 : decode cX2_soakIn 5 = .ok (.aload_n 1, 1) := by decide +kernel
theorem dX2_soakIn_6 : decode cX2_soakIn 6 = .ok (.getfield 67, 3) := by decide +kernel
theorem dX2_soakIn_9 : decode cX2_soakIn 9 = .ok (.aload_n 2, 1) := by decide +kernel
theorem dX2_soakIn_10 : decode cX2_soakIn 10 = .ok (.invokevirtual 70, 3) := by decide +kernel
theorem dX2_soakIn_13 : decode cX2_soakIn 13 = .ok (.istore_n 3, 1) := by decide +kernel
theorem dX2_soakIn_14 : decode cX2_soakIn 14 = .ok (.iload_n 3, 1) := by decide +kernel
theorem dX2_soakIn_15 : decode cX2_soakIn 15 = .ok (.aload_n 2, 1) := by decide +kernel
theorem dX2_soakIn_16 : decode cX2_soakIn 16 = .ok (.iconst 5, 1) := by decide +kernel
theorem dX2_soakIn_17 : decode cX2_soakIn 17 = .ok (.invokevirtual 59, 3) := by decide +kernel
theorem dX2_soakIn_20 : decode cX2_soakIn 20 = .ok (.imul, 1) := by decide +kernel
theorem dX2_soakIn_21 : decode cX2_soakIn 21 = .ok (.bipush 100, 2) := by decide +kernel
theorem dX2_soakIn_23 : decode cX2_soakIn 23 = .ok (.idiv, 1) := by decide +kernel
theorem dX2_soakIn_24 : decode cX2_soakIn 24 = .ok (.istore 4, 2) := by decide +kernel
theorem dX2_soakIn_26 : decode cX2_soakIn 26 = .ok (.aload_n 1, 1) := by decide +kernel
theorem dX2_soakIn_27 : decode cX2_soakIn 27 = .ok (.aload_n 2, 1) := by decide +kernel
theorem dX2_soakIn_28 : decode cX2_soakIn 28 = .ok (.invokevirtual 74, 3) := by decide +kernel
theorem dX2_soakIn_31 : decode cX2_soakIn 31 = .ok (.istore 5, 2) := by decide +kernel
theorem dX2_soakIn_33 : decode cX2_soakIn 33 = .ok (.aload_n 0, 1) := by decide +kernel
theorem dX2_soakIn_34 : decode cX2_soakIn 34 = .ok (.getfield 19, 3) := by decide +kernel
theorem dX2_soakIn_37 : decode cX2_soakIn 37 = .ok (.aload_n 1, 1) := by decide +kernel
theorem dX2_soakIn_38 : decode cX2_soakIn 38 = .ok (.getfield 78, 3) := by decide +kernel
theorem dX2_soakIn_41 : decode cX2_soakIn 41 = .ok (.iload 4, 2) := by decide +kernel
theorem dX2_soakIn_43 : decode cX2_soakIn 43 = .ok (.invokestatic 81, 3) := by decide +kernel
theorem dX2_soakIn_46 : decode cX2_soakIn 46 = .ok (.aload_n 0, 1) := by decide +kernel
theorem dX2_soakIn_47 : decode cX2_soakIn 47 = .ok (.getfield 15, 3) := by decide +kernel
theorem dX2_soakIn_50 : decode cX2_soakIn 50 = .ok (.aload_n 1, 1) := by decide +kernel
theorem dX2_soakIn_51 : decode cX2_soakIn 51 = .ok (.getfield 78, 3) := by decide +kernel
theorem dX2_soakIn_54 : decode cX2_soakIn 54 = .ok (.iload_n 3, 1) := by decide +kernel
theorem dX2_soakIn_55 : decode cX2_soakIn 55 = .ok (.iload 4, 2) := by decide +kernel
theorem dX2_soakIn_57 : decode cX2_soakIn 57 = .ok (.isub, 1) := by decide +kernel
theorem dX2_soakIn_58 : decode cX2_soakIn 58 = .ok (.invokestatic 81, 3) := by decide +kernel
theorem dX2_soakIn_61 : decode cX2_soakIn 61 = .ok (.aload_n 0, 1) := by decide +kernel
theorem dX2_soakIn_62 : decode cX2_soakIn 62 = .ok (.dup, 1) := by decide +kernel
theorem dX2_soakIn_63 : decode cX2_soakIn 63 = .ok (.getfield 38, 3) := by decide +kernel
theorem dX2_soakIn_66 : decode cX2_soakIn 66 = .ok (.iconst 1, 1) := by decide +kernel
theorem dX2_soakIn_67 : decode cX2_soakIn 67 = .ok (.iadd, 1) := by decide +kernel
theorem dX2_soakIn_68 : decode cX2_soakIn 68 = .ok (.putfield 38, 3) := by decide +kernel
theorem dX2_soakIn_71 : decode cX2_soakIn 71 = .ok (.aload_n 1, 1) := by decide +kernel
theorem dX2_soakIn_72 : decode cX2_soakIn 72 = .ok (.dup, 1) := by decide +kernel
theorem dX2_soakIn_73 : decode cX2_soakIn 73 = .ok (.getfield 62, 3) := by decide +kernel
theorem dX2_soakIn_76 : decode cX2_soakIn 76 = .ok (.iload_n 3, 1) := by decide +kernel
theorem dX2_soakIn_77 : decode cX2_soakIn 77 = .ok (.isub, 1) := by decide +kernel
theorem dX2_soakIn_78 : decode cX2_soakIn 78 = .ok (.putfield 62, 3) := by decide +kernel
theorem dX2_soakIn_81 : decode cX2_soakIn 81 = .ok (.aload_n 1, 1) := by decide +kernel
theorem dX2_soakIn_82 : decode cX2_soakIn 82 = .ok (.dup, 1) := by decide +kernel
theorem dX2_soakIn_83 : decode cX2_soakIn 83 = .ok (.getfield 85, 3) := by decide +kernel
theorem dX2_soakIn_86 : decode cX2_soakIn 86 = .ok (.aload_n 0, 1) := by decide +kernel
theorem dX2_soakIn_87 : decode cX2_soakIn 87 = .ok (.getfield 25, 3) := by decide +kernel
theorem dX2_soakIn_90 : decode cX2_soakIn 90 = .ok (.aload_n 2, 1) := by decide +kernel
theorem dX2_soakIn_91 : decode cX2_soakIn 91 = .ok (.iconst 1, 1) := by decide +kernel
theorem dX2_soakIn_92 : decode cX2_soakIn 92 = .ok (.invokevirtual 59, 3) := by decide +kernel
theorem dX2_soakIn_95 : decode cX2_soakIn 95 = .ok (.imul, 1) := by decide +kernel
theorem dX2_soakIn_96 : decode cX2_soakIn 96 = .ok (.sipush 999, 3) := by decide +kernel
theorem dX2_soakIn_99 : decode cX2_soakIn 99 = .ok (.iadd, 1) := by decide +kernel
theorem dX2_soakIn_100 : decode cX2_soakIn 100 = .ok (.sipush 1000, 3) := by decide +kernel
theorem dX2_soakIn_103 : decode cX2_soakIn 103 = .ok (.idiv, 1) := by decide +kernel
theorem dX2_soakIn_104 : decode cX2_soakIn 104 = .ok (.iadd, 1) := by decide +kernel
theorem dX2_soakIn_105 : decode cX2_soakIn 105 = .ok (.putfield 85, 3) := by decide +kernel
theorem dX2_soakIn_108 : decode cX2_soakIn 108 = .ok (.aload_n 0, 1) := by decide +kernel
theorem dX2_soakIn_109 : decode cX2_soakIn 109 = .ok (.getfield 35, 3) := by decide +kernel
theorem dX2_soakIn_112 : decode cX2_soakIn 112 = .ok (.ifCond .ne 25, 3) := by decide +kernel
theorem dX2_soakIn_115 : decode cX2_soakIn 115 = .ok (.iload 5, 2) := by decide +kernel
theorem dX2_soakIn_117 : decode cX2_soakIn 117 = .ok (.ifCond .ne 15, 3) := by decide +kernel
theorem dX2_soakIn_120 : decode cX2_soakIn 120 = .ok (.aload_n 0, 1) := by decide +kernel
theorem dX2_soakIn_121 : decode cX2_soakIn 121 = .ok (.invokevirtual 88, 3) := by decide +kernel
theorem dX2_soakIn_124 : decode cX2_soakIn 124 = .ok (.aload_n 2, 1) := by decide +kernel
theorem dX2_soakIn_125 : decode cX2_soakIn 125 = .ok (.iconst 3, 1) := by decide +kernel
theorem dX2_soakIn_126 : decode cX2_soakIn 126 = .ok (.invokevirtual 59, 3) := by decide +kernel
theorem dX2_soakIn_129 : decode cX2_soakIn 129 = .ok (.if_icmp .le 8, 3) := by decide +kernel
theorem dX2_soakIn_132 : decode cX2_soakIn 132 = .ok (.aload_n 0, 1) := by decide +kernel
theorem dX2_soakIn_133 : decode cX2_soakIn 133 = .ok (.iconst 1, 1) := by decide +kernel
theorem dX2_soakIn_134 : decode cX2_soakIn 134 = .ok (.putfield 32, 3) := by decide +kernel
theorem dX2_soakIn_137 : decode cX2_soakIn 137 = .ok (.aload_n 0, 1) := by decide +kernel
theorem dX2_soakIn_138 : decode cX2_soakIn 138 = .ok (.getfield 32, 3) := by decide +kernel
theorem dX2_soakIn_141 : decode cX2_soakIn 141 = .ok (.ifCond .eq 35, 3) := by decide +kernel
theorem dX2_soakIn_144 : decode cX2_soakIn 144 = .ok (.aload_n 1, 1) := by decide +kernel
theorem dX2_soakIn_145 : decode cX2_soakIn 145 = .ok (.getfield 78, 3) := by decide +kernel
theorem dX2_soakIn_148 : decode cX2_soakIn 148 = .ok (.iconst 3, 1) := by decide +kernel
theorem dX2_soakIn_149 : decode cX2_soakIn 149 = .ok (.if_icmp .ne 27, 3) := by decide +kernel
theorem dX2_soakIn_152 : decode cX2_soakIn 152 = .ok (.aload_n 0, 1) := by decide +kernel
end
section
theorem dX2_soakIn_153 : decode cX2_soakIn 153 = .ok (.iconst 3, 1) := by decide +kernel
theorem dX2_soakIn_154 : decode cX2_soakIn 154 = .ok (.invokevirtual 92, 3) := by decide +kernel
theorem dX2_soakIn_157 : decode cX2_soakIn 157 = .ok (.aload_n 2, 1) := by decide +kernel
theorem dX2_soakIn_158 : decode cX2_soakIn 158 = .ok (.bipush 6, 2) := by decide +kernel
theorem dX2_soakIn_160 : decode cX2_soakIn 160 = .ok (.invokevirtual 59, 3) := by decide +kernel
theorem dX2_soakIn_163 : decode cX2_soakIn 163 = .ok (.if_icmp .lt 13, 3) := by decide +kernel
theorem dX2_soakIn_166 : decode cX2_soakIn 166 = .ok (.aload_n 0, 1) := by decide +kernel
theorem dX2_soakIn_167 : decode cX2_soakIn 167 = .ok (.iconst 0, 1) := by decide +kernel
theorem dX2_soakIn_168 : decode cX2_soakIn 168 = .ok (.putfield 32, 3) := by decide +kernel
theorem dX2_soakIn_171 : decode cX2_soakIn 171 = .ok (.aload_n 0, 1) := by decide +kernel
theorem dX2_soakIn_172 : decode cX2_soakIn 172 = .ok (.iconst 1, 1) := by decide +kernel
theorem dX2_soakIn_173 : decode cX2_soakIn 173 = .ok (.putfield 35, 3) := by decide +kernel
theorem dX2_soakIn_176 : decode cX2_soakIn 176 = .ok (.iload_n 3, 1) := by decide +kernel
theorem dX2_soakIn_177 : decode cX2_soakIn 177 = .ok (.ireturn, 1) := by decide +kernel
theorem dX3_init_0 : decode cX3_init 0 = .ok (.aload_n 0, 1) := by decide +kernel
theorem dX3_init_1 : decode cX3_init 1 = .ok (.invokespecial 3, 3) := by decide +kernel
theorem dX3_init_4 : decode cX3_init 4 = .ok (.aload_n 0, 1) := by decide +kernel
theorem dX3_init_5 : decode cX3_init 5 = .ok (.iconst 4, 1) := by decide +kernel
theorem dX3_init_6 : decode cX3_init 6 = .ok (.newarray .int, 2) := by decide +kernel
theorem dX3_init_8 : decode cX3_init 8 = .ok (.putfield 9, 3) := by decide +kernel
theorem dX3_init_11 : decode cX3_init 11 = .ok (.return_, 1) := by decide +kernel
theorem dX3_copyFrom_0 : decode cX3_copyFrom 0 = .ok (.aload_n 1, 1) := by decide +kernel
theorem dX3_copyFrom_1 : decode cX3_copyFrom 1 = .ok (.getfield 9, 3) := by decide +kernel
theorem dX3_copyFrom_4 : decode cX3_copyFrom 4 = .ok (.aload_n 0, 1) := by decide +kernel
theorem dX3_copyFrom_5 : decode cX3_copyFrom 5 = .ok (.getfield 9, 3) := by decide +kernel
theorem dX3_copyFrom_8 : decode cX3_copyFrom 8 = .ok (.invokestatic 15, 3) := by decide +kernel
theorem dX3_copyFrom_11 : decode cX3_copyFrom 11 = .ok (.aload_n 0, 1) := by decide +kernel
theorem dX3_copyFrom_12 : decode cX3_copyFrom 12 = .ok (.aload_n 1, 1) := by decide +kernel
theorem dX3_copyFrom_13 : decode cX3_copyFrom 13 = .ok (.getfield 19, 3) := by decide +kernel
theorem dX3_copyFrom_16 : decode cX3_copyFrom 16 = .ok (.putfield 19, 3) := by decide +kernel
theorem dX3_copyFrom_19 : decode cX3_copyFrom 19 = .ok (.return_, 1) := by decide +kernel
theorem dX3_ask_0 : decode cX3_ask 0 = .ok (.aload_n 0, 1) := by decide +kernel
theorem dX3_ask_1 : decode cX3_ask 1 = .ok (.getfield 9, 3) := by decide +kernel
theorem dX3_ask_4 : decode cX3_ask 4 = .ok (.iconst 0, 1) := by decide +kernel
theorem dX3_ask_5 : decode cX3_ask 5 = .ok (.iload_n 1, 1) := by decide +kernel
theorem dX3_ask_6 : decode cX3_ask 6 = .ok (.invokestatic 23, 3) := by decide +kernel
theorem dX3_ask_9 : decode cX3_ask 9 = .ok (.aload_n 0, 1) := by decide +kernel
theorem dX3_ask_10 : decode cX3_ask 10 = .ok (.getfield 9, 3) := by decide +kernel
theorem dX3_ask_13 : decode cX3_ask 13 = .ok (.iconst 1, 1) := by decide +kernel
theorem dX3_ask_14 : decode cX3_ask 14 = .ok (.iload_n 2, 1) := by decide +kernel
theorem dX3_ask_15 : decode cX3_ask 15 = .ok (.invokestatic 23, 3) := by decide +kernel
theorem dX3_ask_18 : decode cX3_ask 18 = .ok (.aload_n 0, 1) := by decide +kernel
theorem dX3_ask_19 : decode cX3_ask 19 = .ok (.getfield 9, 3) := by decide +kernel
theorem dX3_ask_22 : decode cX3_ask 22 = .ok (.iconst 2, 1) := by decide +kernel
theorem dX3_ask_23 : decode cX3_ask 23 = .ok (.iload_n 3, 1) := by decide +kernel
theorem dX3_ask_24 : decode cX3_ask 24 = .ok (.invokestatic 23, 3) := by decide +kernel
theorem dX3_ask_27 : decode cX3_ask 27 = .ok (.aload_n 0, 1) := by decide +kernel
theorem dX3_ask_28 : decode cX3_ask 28 = .ok (.getfield 9, 3) := by decide +kernel
theorem dX3_ask_31 : decode cX3_ask 31 = .ok (.iconst 3, 1) := by decide +kernel
theorem dX3_ask_32 : decode cX3_ask 32 = .ok (.iload 4, 2) := by decide +kernel
theorem dX3_ask_34 : decode cX3_ask 34 = .ok (.invokestatic 23, 3) := by decide +kernel
theorem dX3_ask_37 : decode cX3_ask 37 = .ok (.return_, 1) := by decide +kernel
theorem dX3_shadeFor_0 : decode cX3_shadeFor 0 = .ok (.aload_n 0, 1) := by decide +kernel
theorem dX3_shadeFor_1 : decode cX3_shadeFor 1 = .ok (.getfield 9, 3) := by decide +kernel
theorem dX3_shadeFor_4 : decode cX3_shadeFor 4 = .ok (.iload_n 1, 1) := by decide +kernel
theorem dX3_shadeFor_5 : decode cX3_shadeFor 5 = .ok (.invokestatic 27, 3) := by decide +kernel
theorem dX3_shadeFor_8 : decode cX3_shadeFor 8 = .ok (.ireturn, 1) := by decide +kernel
theorem dX3_isFittedBy_0 : decode cX3_isFittedBy 0 = .ok (.aload_n 1, 1) := by decide +kernel
theorem dX3_isFittedBy_1 : decode cX3_isFittedBy 1 = .ok (.getfield 31, 3) := by decide +kernel
theorem dX3_isFittedBy_4 : decode cX3_isFittedBy 4 = .ok (.ifCond .eq 5, 3) := by decide +kernel
theorem dX3_isFittedBy_7 : decode cX3_isFittedBy 7 = .ok (.iconst 0, 1) := by decide +kernel
theorem dX3_isFittedBy_8 : decode cX3_isFittedBy 8 = .ok (.ireturn, 1) := by decide +kernel
theorem dX3_isFittedBy_9 : decode cX3_isFittedBy 9 = .ok (.aload_n 2, 1) := by decide +kernel
theorem dX3_isFittedBy_10 : decode cX3_isFittedBy 10 = .ok (.iconst 4, 1) := by decide +kernel
theorem dX3_isFittedBy_11 : decode cX3_isFittedBy 11 = .ok (.invokevirtual 38, 3) := by decide +kernel
theorem dX3_isFittedBy_14 : decode cX3_isFittedBy 14 = .ok (.istore_n 3, 1) := by decide +kernel
theorem dX3_isFittedBy_15 : decode cX3_isFittedBy 15 = .ok (.iconst 0, 1) := by decide +kernel
theorem dX3_isFittedBy_16 : decode cX3_isFittedBy 16 = .ok (.istore 4, 2) := by decide +kernel
theorem dX3_isFittedBy_18 : decode cX3_isFittedBy 18 = .ok (.iload 4, 2) := by decide +kernel
theorem dX3_isFittedBy_20 : decode cX3_isFittedBy 20 = .ok (.iconst 4, 1) := by decide +kernel
theorem dX3_isFittedBy_21 : decode cX3_isFittedBy 21 = .ok (.if_icmp .ge 30, 3) := by decide +kernel
theorem dX3_isFittedBy_24 : decode cX3_isFittedBy 24 = .ok (.aload_n 1, 1) := by decide +kernel
theorem dX3_isFittedBy_25 : decode cX3_isFittedBy 25 = .ok (.iload 4, 2) := by decide +kernel
theorem dX3_isFittedBy_27 : decode cX3_isFittedBy 27 = .ok (.invokevirtual 42, 3) := by decide +kernel
theorem dX3_isFittedBy_30 : decode cX3_isFittedBy 30 = .ok (.aload_n 0, 1) := by decide +kernel
theorem dX3_isFittedBy_31 : decode cX3_isFittedBy 31 = .ok (.iload 4, 2) := by decide +kernel
theorem dX3_isFittedBy_33 : decode cX3_isFittedBy 33 = .ok (.invokevirtual 45, 3) := by decide +kernel
theorem dX3_isFittedBy_36 : decode cX3_isFittedBy 36 = .ok (.invokestatic 48, 3) := by decide +kernel
theorem dX3_isFittedBy_39 : decode cX3_isFittedBy 39 = .ok (.iload_n 3, 1) := by decide +kernel
theorem dX3_isFittedBy_40 : decode cX3_isFittedBy 40 = .ok (.if_icmp .le 5, 3) := by decide +kernel
theorem dX3_isFittedBy_43 : decode cX3_isFittedBy 43 = .ok (.iconst 0, 1) := by decide +kernel
theorem dX3_isFittedBy_44 : decode cX3_isFittedBy 44 = .ok (.ireturn, 1) := by decide +kernel
theorem dX3_isFittedBy_45 : decode cX3_isFittedBy 45 = .ok (.iinc 4 1, 3) := by decide +kernel
theorem dX3_isFittedBy_48 : decode cX3_isFittedBy 48 = .ok (.goto (-30), 3) := by decide +kernel
theorem dX3_isFittedBy_51 : decode cX3_isFittedBy 51 = .ok (.iconst 1, 1) := by decide +kernel
theorem dX3_isFittedBy_52 : decode cX3_isFittedBy 52 = .ok (.ireturn, 1) := by decide +kernel
theorem dX3_distanceTo_0 : decode cX3_distanceTo 0 = .ok (.iconst 0, 1) := by decide +kernel
theorem dX3_distanceTo_1 : decode cX3_distanceTo 1 = .ok (.istore_n 2, 1) := by decide +kernel
theorem dX3_distanceTo_2 : decode cX3_distanceTo 2 = .ok (.iconst 0, 1) := by decide +kernel
theorem dX3_distanceTo_3 : decode cX3_distanceTo 3 = .ok (.istore_n 3, 1) := by decide +kernel
theorem dX3_distanceTo_4 : decode cX3_distanceTo 4 = .ok (.iload_n 3, 1) := by decide +kernel
theorem dX3_distanceTo_5 : decode cX3_distanceTo 5 = .ok (.iconst 4, 1) := by decide +kernel
theorem dX3_distanceTo_6 : decode cX3_distanceTo 6 = .ok (.if_icmp .ge 25, 3) := by decide +kernel
theorem dX3_distanceTo_9 : decode cX3_distanceTo 9 = .ok (.iload_n 2, 1) := by decide +kernel
theorem dX3_distanceTo_10 : decode cX3_distanceTo 10 = .ok (.aload_n 1, 1) := by decide +kernel
theorem dX3_distanceTo_11 : decode cX3_distanceTo 11 = .ok (.iload_n 3, 1) := by decide +kernel
theorem dX3_distanceTo_12 : decode cX3_distanceTo 12 = .ok (.invokevirtual 42, 3) := by decide +kernel
theorem dX3_distanceTo_15 : decode cX3_distanceTo 15 = .ok (.aload_n 0, 1) := by decide +kernel
theorem dX3_distanceTo_16 : decode cX3_distanceTo 16 = .ok (.iload_n 3, 1) := by decide +kernel
theorem dX3_distanceTo_17 : decode cX3_distanceTo 17 = .ok (.invokevirtual 45, 3) := by decide +kernel
theorem dX3_distanceTo_20 : decode cX3_distanceTo 20 = .ok (.invokestatic 48, 3) := by decide +kernel
theorem dX3_distanceTo_23 : decode cX3_distanceTo 23 = .ok (.iadd, 1) := by decide +kernel
theorem dX3_distanceTo_24 : decode cX3_distanceTo 24 = .ok (.istore_n 2, 1) := by decide +kernel
theorem dX3_distanceTo_25 : decode cX3_distanceTo 25 = .ok (.iinc 3 1, 3) := by decide +kernel
theorem dX3_distanceTo_28 : decode cX3_distanceTo 28 = .ok (.goto (-24), 3) := by decide +kernel
theorem dX3_distanceTo_31 : decode cX3_distanceTo 31 = .ok (.iload_n 2, 1) := by decide +kernel
theorem dX3_distanceTo_32 : decode cX3_distanceTo 32 = .ok (.ireturn, 1) := by decide +kernel
theorem dX4_init_0 : decode cX4_init 0 = .ok (.aload_n 0, 1) := by decide +kernel
theorem dX4_init_1 : decode cX4_init 1 = .ok (.invokespecial 1, 3) := by decide +kernel
theorem dX4_init_4 : decode cX4_init 4 = .ok (.aload_n 0, 1) := by decide +kernel
theorem dX4_init_5 : decode cX4_init 5 = .ok (.iconst 5, 1) := by decide +kernel
theorem dX4_init_6 : decode cX4_init 6 = .ok (.anewarray 9, 3) := by decide +kernel
theorem dX4_init_9 : decode cX4_init 9 = .ok (.putfield 11, 3) := by decide +kernel
theorem dX4_init_12 : decode cX4_init 12 = .ok (.aload_n 0, 1) := by decide +kernel
theorem dX4_init_13 : decode cX4_init 13 = .ok (.iconst 4, 1) := by decide +kernel
theorem dX4_init_14 : decode cX4_init 14 = .ok (.newarray .int, 2) := by decide +kernel
theorem dX4_init_16 : decode cX4_init 16 = .ok (.putfield 15, 3) := by decide +kernel
theorem dX4_init_19 : decode cX4_init 19 = .ok (.iconst 0, 1) := by decide +kernel
theorem dX4_init_20 : decode cX4_init 20 = .ok (.istore_n 1, 1) := by decide +kernel
theorem dX4_init_21 : decode cX4_init 21 = .ok (.iload_n 1, 1) := by decide +kernel
theorem dX4_init_22 : decode cX4_init 22 = .ok (.aload_n 0, 1) := by decide +kernel
theorem dX4_init_23 : decode cX4_init 23 = .ok (.getfield 11, 3) := by decide +kernel
theorem dX4_init_26 : decode cX4_init 26 = .ok (.arraylength, 1) := by decide +kernel
theorem dX4_init_27 : decode cX4_init 27 = .ok (.if_icmp .ge 22, 3) := by decide +kernel
theorem dX4_init_30 : decode cX4_init 30 = .ok (.aload_n 0, 1) := by decide +kernel
theorem dX4_init_31 : decode cX4_init 31 = .ok (.getfield 11, 3) := by decide +kernel
theorem dX4_init_34 : decode cX4_init 34 = .ok (.iload_n 1, 1) := by decide +kernel
theorem dX4_init_35 : decode cX4_init 35 = .ok (.new 9, 3) := by decide +kernel
theorem dX4_init_38 : decode cX4_init 38 = .ok (.dup, 1) := by decide +kernel
theorem dX4_init_39 : decode cX4_init 39 = .ok (.invokespecial 19, 3) := by decide +kernel
theorem dX4_init_42 : decode cX4_init 42 = .ok (.aastore, 1) := by decide +kernel
theorem dX4_init_43 : decode cX4_init 43 = .ok (.iinc 1 1, 3) := by decide +kernel
theorem dX4_init_46 : decode cX4_init 46 = .ok (.goto (-25), 3) := by decide +kernel
theorem dX4_init_49 : decode cX4_init 49 = .ok (.return_, 1) := by decide +kernel
theorem dX4_vatOfDip_0 : decode cX4_vatOfDip 0 = .ok (.aload_n 0, 1) := by decide +kernel
theorem dX4_vatOfDip_1 : decode cX4_vatOfDip 1 = .ok (.getfield 15, 3) := by decide +kernel
theorem dX4_vatOfDip_4 : decode cX4_vatOfDip 4 = .ok (.iload_n 1, 1) := by decide +kernel
theorem dX4_vatOfDip_5 : decode cX4_vatOfDip 5 = .ok (.invokestatic 20, 3) := by decide +kernel
theorem dX4_vatOfDip_8 : decode cX4_vatOfDip 8 = .ok (.ireturn, 1) := by decide +kernel
theorem dX4_lotBehind_0 : decode cX4_lotBehind 0 = .ok (.iload_n 1, 1) := by decide +kernel
theorem dX4_lotBehind_1 : decode cX4_lotBehind 1 = .ok (.ifCond .lt 21, 3) := by decide +kernel
theorem dX4_lotBehind_4 : decode cX4_lotBehind 4 = .ok (.iload_n 1, 1) := by decide +kernel
theorem dX4_lotBehind_5 : decode cX4_lotBehind 5 = .ok (.aload_n 0, 1) := by decide +kernel
theorem dX4_lotBehind_6 : decode cX4_lotBehind 6 = .ok (.getfield 11, 3) := by decide +kernel
theorem dX4_lotBehind_9 : decode cX4_lotBehind 9 = .ok (.arraylength, 1) := by decide +kernel
theorem dX4_lotBehind_10 : decode cX4_lotBehind 10 = .ok (.if_icmp .ge 12, 3) := by decide +kernel
theorem dX4_lotBehind_13 : decode cX4_lotBehind 13 = .ok (.aload_n 0, 1) := by decide +kernel
theorem dX4_lotBehind_14 : decode cX4_lotBehind 14 = .ok (.getfield 11, 3) := by decide +kernel
theorem dX4_lotBehind_17 : decode cX4_lotBehind 17 = .ok (.iload_n 1, 1) := by decide +kernel
theorem dX4_lotBehind_18 : decode cX4_lotBehind 18 = .ok (.aaload, 1) := by decide +kernel
theorem dX4_lotBehind_19 : decode cX4_lotBehind 19 = .ok (.goto 4, 3) := by decide +kernel
theorem dX4_lotBehind_22 : decode cX4_lotBehind 22 = .ok (.aconst_null, 1) := by decide +kernel
theorem dX4_lotBehind_23 : decode cX4_lotBehind 23 = .ok (.areturn, 1) := by decide +kernel
theorem dX4_findPlan_0 : decode cX4_findPlan 0 = .ok (.aload_n 0, 1) := by decide +kernel
theorem dX4_findPlan_1 : decode cX4_findPlan 1 = .ok (.iconst 0, 1) := by decide +kernel
theorem dX4_findPlan_2 : decode cX4_findPlan 2 = .ok (.invokevirtual 26, 3) := by decide +kernel
theorem dX4_findPlan_5 : decode cX4_findPlan 5 = .ok (.astore 4, 2) := by decide +kernel
theorem dX4_findPlan_7 : decode cX4_findPlan 7 = .ok (.aload 4, 2) := by decide +kernel
theorem dX4_findPlan_9 : decode cX4_findPlan 9 = .ok (.ifnonnull 5, 3) := by decide +kernel
theorem dX4_findPlan_12 : decode cX4_findPlan 12 = .ok (.iconst (-1), 1) := by decide +kernel
theorem dX4_findPlan_13 : decode cX4_findPlan 13 = .ok (.ireturn, 1) := by decide +kernel
theorem dX4_findPlan_14 : decode cX4_findPlan 14 = .ok (.aload 4, 2) := by decide +kernel
theorem dX4_findPlan_16 : decode cX4_findPlan 16 = .ok (.aload_n 2, 1) := by decide +kernel
theorem dX4_findPlan_17 : decode cX4_findPlan 17 = .ok (.invokevirtual 30, 3) := by decide +kernel
theorem dX4_findPlan_20 : decode cX4_findPlan 20 = .ok (.iconst 0, 1) := by decide +kernel
theorem dX4_findPlan_21 : decode cX4_findPlan 21 = .ok (.istore 5, 2) := by decide +kernel
theorem dX4_findPlan_23 : decode cX4_findPlan 23 = .ok (.iload 5, 2) := by decide +kernel
theorem dX4_findPlan_25 : decode cX4_findPlan 25 = .ok (.iconst 4, 1) := by decide +kernel
theorem dX4_findPlan_26 : decode cX4_findPlan 26 = .ok (.if_icmp .gt 24, 3) := by decide +kernel
theorem dX4_findPlan_29 : decode cX4_findPlan 29 = .ok (.aload_n 0, 1) := by decide +kernel
theorem dX4_findPlan_30 : decode cX4_findPlan 30 = .ok (.aload_n 1, 1) := by decide +kernel
theorem dX4_findPlan_31 : decode cX4_findPlan 31 = .ok (.aload_n 3, 1) := by decide +kernel
theorem dX4_findPlan_32 : decode cX4_findPlan 32 = .ok (.iconst 0, 1) := by decide +kernel
theorem dX4_findPlan_33 : decode cX4_findPlan 33 = .ok (.iload 5, 2) := by decide +kernel
theorem dX4_findPlan_35 : decode cX4_findPlan 35 = .ok (.invokestatic 34, 3) := by decide +kernel
theorem dX4_findPlan_38 : decode cX4_findPlan 38 = .ok (.ifCond .eq 6, 3) := by decide +kernel
theorem dX4_findPlan_41 : decode cX4_findPlan 41 = .ok (.iload 5, 2) := by decide +kernel
theorem dX4_findPlan_43 : decode cX4_findPlan 43 = .ok (.ireturn, 1) := by decide +kernel
theorem dX4_findPlan_44 : decode cX4_findPlan 44 = .ok (.iinc 5 1, 3) := by decide +kernel
theorem dX4_findPlan_47 : decode cX4_findPlan 47 = .ok (.goto (-24), 3) := by decide +kernel
theorem dX4_findPlan_50 : decode cX4_findPlan 50 = .ok (.iconst (-1), 1) := by decide +kernel
theorem dX4_findPlan_51 : decode cX4_findPlan 51 = .ok (.ireturn, 1) := by decide +kernel
theorem dX4_isReached_0 : decode cX4_isReached 0 = .ok (.aload_n 0, 1) := by decide +kernel
theorem dX4_isReached_1 : decode cX4_isReached 1 = .ok (.iload_n 3, 1) := by decide +kernel
theorem dX4_isReached_2 : decode cX4_isReached 2 = .ok (.invokevirtual 26, 3) := by decide +kernel
theorem dX4_isReached_5 : decode cX4_isReached 5 = .ok (.astore 5, 2) := by decide +kernel
theorem dX4_isReached_7 : decode cX4_isReached 7 = .ok (.aload 5, 2) := by decide +kernel
theorem dX4_isReached_9 : decode cX4_isReached 9 = .ok (.ifnonnull 5, 3) := by decide +kernel
theorem dX4_isReached_12 : decode cX4_isReached 12 = .ok (.iconst 0, 1) := by decide +kernel
theorem dX4_isReached_13 : decode cX4_isReached 13 = .ok (.ireturn, 1) := by decide +kernel
theorem dX4_isReached_14 : decode cX4_isReached 14 = .ok (.iload_n 3, 1) := by decide +kernel
theorem dX4_isReached_15 : decode cX4_isReached 15 = .ok (.iload 4, 2) := by decide +kernel
theorem dX4_isReached_17 : decode cX4_isReached 17 = .ok (.if_icmp .lt 14, 3) := by decide +kernel
theorem dX4_isReached_20 : decode cX4_isReached 20 = .ok (.aload_n 2, 1) := by decide +kernel
theorem dX4_isReached_21 : decode cX4_isReached 21 = .ok (.aload 5, 2) := by decide +kernel
theorem dX4_isReached_23 : decode cX4_isReached 23 = .ok (.aload_n 1, 1) := by decide +kernel
theorem dX4_isReached_24 : decode cX4_isReached 24 = .ok (.getfield 38, 3) := by decide +kernel
theorem dX4_isReached_27 : decode cX4_isReached 27 = .ok (.invokevirtual 44, 3) := by decide +kernel
theorem dX4_isReached_30 : decode cX4_isReached 30 = .ok (.ireturn, 1) := by decide +kernel
theorem dX4_isReached_31 : decode cX4_isReached 31 = .ok (.aload_n 0, 1) := by decide +kernel
theorem dX4_isReached_32 : decode cX4_isReached 32 = .ok (.iload_n 3, 1) := by decide +kernel
theorem dX4_isReached_33 : decode cX4_isReached 33 = .ok (.iconst 1, 1) := by decide +kernel
theorem dX4_isReached_34 : decode cX4_isReached 34 = .ok (.iadd, 1) := by decide +kernel
theorem dX4_isReached_35 : decode cX4_isReached 35 = .ok (.invokevirtual 26, 3) := by decide +kernel
theorem dX4_isReached_38 : decode cX4_isReached 38 = .ok (.astore 6, 2) := by decide +kernel
theorem dX4_isReached_40 : decode cX4_isReached 40 = .ok (.iconst 0, 1) := by decide +kernel
theorem dX4_isReached_41 : decode cX4_isReached 41 = .ok (.istore 7, 2) := by decide +kernel
theorem dX4_isReached_43 : decode cX4_isReached 43 = .ok (.iload 7, 2) := by decide +kernel
theorem dX4_isReached_45 : decode cX4_isReached 45 = .ok (.aload_n 1, 1) := by decide +kernel
theorem dX4_isReached_46 : decode cX4_isReached 46 = .ok (.getfield 50, 3) := by decide +kernel
theorem dX4_isReached_49 : decode cX4_isReached 49 = .ok (.if_icmp .ge 115, 3) := by decide +kernel
theorem dX4_isReached_52 : decode cX4_isReached 52 = .ok (.aload 6, 2) := by decide +kernel
theorem dX4_isReached_54 : decode cX4_isReached 54 = .ok (.ifnull 110, 3) := by decide +kernel
theorem dX4_isReached_57 : decode cX4_isReached 57 = .ok (.aload_n 1, 1) := by decide +kernel
theorem dX4_isReached_58 : decode cX4_isReached 58 = .ok (.iload 7, 2) := by decide +kernel
theorem dX4_isReached_60 : decode cX4_isReached 60 = .ok (.invokevirtual 54, 3) := by decide +kernel
theorem dX4_isReached_63 : decode cX4_isReached 63 = .ok (.astore 8, 2) := by decide +kernel
theorem dX4_isReached_65 : decode cX4_isReached 65 = .ok (.aload 8, 2) := by decide +kernel
theorem dX4_isReached_67 : decode cX4_isReached 67 = .ok (.ifnull 91, 3) := by decide +kernel
theorem dX4_isReached_70 : decode cX4_isReached 70 = .ok (.aload 8, 2) := by decide +kernel
theorem dX4_isReached_72 : decode cX4_isReached 72 = .ok (.getfield 58, 3) := by decide +kernel
theorem dX4_isReached_75 : decode cX4_isReached 75 = .ok (.ifCond .gt 6, 3) := by decide +kernel
theorem dX4_isReached_78 : decode cX4_isReached 78 = .ok (.goto 80, 3) := by decide +kernel
theorem dX4_isReached_81 : decode cX4_isReached 81 = .ok (.aload 8, 2) := by decide +kernel
theorem dX4_isReached_83 : decode cX4_isReached 83 = .ok (.getfield 58, 3) := by decide +kernel
theorem dX4_isReached_86 : decode cX4_isReached 86 = .ok (.istore 9, 2) := by decide +kernel
theorem dX4_isReached_88 : decode cX4_isReached 88 = .ok (.aload 8, 2) := by decide +kernel
theorem dX4_isReached_90 : decode cX4_isReached 90 = .ok (.getfield 63, 3) := by decide +kernel
theorem dX4_isReached_93 : decode cX4_isReached 93 = .ok (.istore 10, 2) := by decide +kernel
theorem dX4_isReached_95 : decode cX4_isReached 95 = .ok (.aload 6, 2) := by decide +kernel
theorem dX4_isReached_97 : decode cX4_isReached 97 = .ok (.aload 5, 2) := by decide +kernel
theorem dX4_isReached_99 : decode cX4_isReached 99 = .ok (.invokevirtual 30, 3) := by decide +kernel
theorem dX4_isReached_102 : decode cX4_isReached 102 = .ok (.aload 6, 2) := by decide +kernel
theorem dX4_isReached_104 : decode cX4_isReached 104 = .ok (.aload 8, 2) := by decide +kernel
theorem dX4_isReached_106 : decode cX4_isReached 106 = .ok (.aload_n 1, 1) := by decide +kernel
theorem dX4_isReached_107 : decode cX4_isReached 107 = .ok (.getfield 38, 3) := by decide +kernel
theorem dX4_isReached_110 : decode cX4_isReached 110 = .ok (.invokevirtual 66, 3) := by decide +kernel
theorem dX4_isReached_113 : decode cX4_isReached 113 = .ok (.pop, 1) := by decide +kernel
theorem dX4_isReached_114 : decode cX4_isReached 114 = .ok (.aload_n 0, 1) := by decide +kernel
theorem dX4_isReached_115 : decode cX4_isReached 115 = .ok (.getfield 15, 3) := by decide +kernel
theorem dX4_isReached_118 : decode cX4_isReached 118 = .ok (.iload_n 3, 1) := by decide +kernel
theorem dX4_isReached_119 : decode cX4_isReached 119 = .ok (.iload 7, 2) := by decide +kernel
theorem dX4_isReached_121 : decode cX4_isReached 121 = .ok (.invokestatic 70, 3) := by decide +kernel
theorem dX4_isReached_124 : decode cX4_isReached 124 = .ok (.aload_n 0, 1) := by decide +kernel
theorem dX4_isReached_125 : decode cX4_isReached 125 = .ok (.aload_n 1, 1) := by decide +kernel
theorem dX4_isReached_126 : decode cX4_isReached 126 = .ok (.aload_n 2, 1) := by decide +kernel
theorem dX4_isReached_127 : decode cX4_isReached 127 = .ok (.iload_n 3, 1) := by decide +kernel
theorem dX4_isReached_128 : decode cX4_isReached 128 = .ok (.iconst 1, 1) := by decide +kernel
theorem dX4_isReached_129 : decode cX4_isReached 129 = .ok (.iadd, 1) := by decide +kernel
theorem dX4_isReached_130 : decode cX4_isReached 130 = .ok (.iload 4, 2) := by decide +kernel
theorem dX4_isReached_132 : decode cX4_isReached 132 = .ok (.invokestatic 34, 3) := by decide +kernel
theorem dX4_isReached_135 : decode cX4_isReached 135 = .ok (.istore 11, 2) := by decide +kernel
theorem dX4_isReached_137 : decode cX4_isReached 137 = .ok (.aload 8, 2) := by decide +kernel
theorem dX4_isReached_139 : decode cX4_isReached 139 = .ok (.iload 9, 2) := by decide +kernel
theorem dX4_isReached_141 : decode cX4_isReached 141 = .ok (.putfield 58, 3) := by decide +kernel
theorem dX4_isReached_144 : decode cX4_isReached 144 = .ok (.aload 8, 2) := by decide +kernel
theorem dX4_isReached_146 : decode cX4_isReached 146 = .ok (.iload 10, 2) := by decide +kernel
theorem dX4_isReached_148 : decode cX4_isReached 148 = .ok (.putfield 63, 3) := by decide +kernel
theorem dX4_isReached_151 : decode cX4_isReached 151 = .ok (.iload 11, 2) := by decide +kernel
theorem dX4_isReached_153 : decode cX4_isReached 153 = .ok (.ifCond .eq 5, 3) := by decide +kernel
theorem dX4_isReached_156 : decode cX4_isReached 156 = .ok (.iconst 1, 1) := by decide +kernel
theorem dX4_isReached_157 : decode cX4_isReached 157 = .ok (.ireturn, 1) := by decide +kernel
theorem dX4_isReached_158 : decode cX4_isReached 158 = .ok (.iinc 7 1, 3) := by decide +kernel
theorem dX4_isReached_161 : decode cX4_isReached 161 = .ok (.goto (-118), 3) := by decide +kernel
theorem dX4_isReached_164 : decode cX4_isReached 164 = .ok (.iconst 0, 1) := by decide +kernel
theorem dX4_isReached_165 : decode cX4_isReached 165 = .ok (.ireturn, 1) := by decide +kernel
theorem dX5_init_0 : decode cX5_init 0 = .ok (.aload_n 0, 1) := by decide +kernel
theorem dX5_init_1 : decode cX5_init 1 = .ok (.invokespecial 1, 3) := by decide +kernel
theorem dX5_init_4 : decode cX5_init 4 = .ok (.return_, 1) := by decide +kernel
theorem dX5_hasFault_0 : decode cX5_hasFault 0 = .ok (.aload_n 0, 1) := by decide +kernel
theorem dX5_hasFault_1 : decode cX5_hasFault 1 = .ok (.getfield 7, 3) := by decide +kernel
theorem dX5_hasFault_4 : decode cX5_hasFault 4 = .ok (.ifCond .eq 7, 3) := by decide +kernel
theorem dX5_hasFault_7 : decode cX5_hasFault 7 = .ok (.iconst 1, 1) := by decide +kernel
theorem dX5_hasFault_8 : decode cX5_hasFault 8 = .ok (.goto 4, 3) := by decide +kernel
theorem dX5_hasFault_11 : decode cX5_hasFault 11 = .ok (.iconst 0, 1) := by decide +kernel
theorem dX5_hasFault_12 : decode cX5_hasFault 12 = .ok (.ireturn, 1) := by decide +kernel
theorem dX5_doAll_0 : decode cX5_doAll 0 = .ok (.aload_n 0, 1) := by decide +kernel
theorem dX5_doAll_1 : decode cX5_doAll 1 = .ok (.iconst 0, 1) := by decide +kernel
theorem dX5_doAll_2 : decode cX5_doAll 2 = .ok (.putfield 13, 3) := by decide +kernel
theorem dX5_doAll_5 : decode cX5_doAll 5 = .ok (.aload_n 0, 1) := by decide +kernel
theorem dX5_doAll_6 : decode cX5_doAll 6 = .ok (.iconst 0, 1) := by decide +kernel
theorem dX5_doAll_7 : decode cX5_doAll 7 = .ok (.putfield 7, 3) := by decide +kernel
theorem dX5_doAll_10 : decode cX5_doAll 10 = .ok (.aload_n 0, 1) := by decide +kernel
theorem dX5_doAll_11 : decode cX5_doAll 11 = .ok (.iconst 0, 1) := by decide +kernel
theorem dX5_doAll_12 : decode cX5_doAll 12 = .ok (.putfield 16, 3) := by decide +kernel
theorem dX5_doAll_15 : decode cX5_doAll 15 = .ok (.iconst 0, 1) := by decide +kernel
theorem dX5_doAll_16 : decode cX5_doAll 16 = .ok (.istore_n 3, 1) := by decide +kernel
theorem dX5_doAll_17 : decode cX5_doAll 17 = .ok (.iload_n 3, 1) := by decide +kernel
theorem dX5_doAll_18 : decode cX5_doAll 18 = .ok (.bipush 60, 2) := by decide +kernel
theorem dX5_doAll_20 : decode cX5_doAll 20 = .ok (.if_icmp .ge 86, 3) := by decide +kernel
theorem dX5_doAll_23 : decode cX5_doAll 23 = .ok (.aload_n 0, 1) := by decide +kernel
theorem dX5_doAll_24 : decode cX5_doAll 24 = .ok (.getfield 16, 3) := by decide +kernel
theorem dX5_doAll_27 : decode cX5_doAll 27 = .ok (.aload_n 1, 1) := by decide +kernel
theorem dX5_doAll_28 : decode cX5_doAll 28 = .ok (.getfield 21, 3) := by decide +kernel
theorem dX5_doAll_31 : decode cX5_doAll 31 = .ok (.if_icmp .ge 75, 3) := by decide +kernel
theorem dX5_doAll_34 : decode cX5_doAll 34 = .ok (.aload_n 0, 1) := by decide +kernel
theorem dX5_doAll_35 : decode cX5_doAll 35 = .ok (.getfield 16, 3) := by decide +kernel
theorem dX5_doAll_38 : decode cX5_doAll 38 = .ok (.istore 4, 2) := by decide +kernel
theorem dX5_doAll_40 : decode cX5_doAll 40 = .ok (.aload_n 0, 1) := by decide +kernel
theorem dX5_doAll_41 : decode cX5_doAll 41 = .ok (.aload_n 1, 1) := by decide +kernel
theorem dX5_doAll_42 : decode cX5_doAll 42 = .ok (.invokevirtual 24, 3) := by decide +kernel
theorem dX5_doAll_45 : decode cX5_doAll 45 = .ok (.ifCond .ne 12, 3) := by decide +kernel
theorem dX5_doAll_48 : decode cX5_doAll 48 = .ok (.aload_n 0, 1) := by decide +kernel
theorem dX5_doAll_49 : decode cX5_doAll 49 = .ok (.iload 4, 2) := by decide +kernel
theorem dX5_doAll_51 : decode cX5_doAll 51 = .ok (.iconst 1, 1) := by decide +kernel
theorem dX5_doAll_52 : decode cX5_doAll 52 = .ok (.iconst 0, 1) := by decide +kernel
theorem dX5_doAll_53 : decode cX5_doAll 53 = .ok (.invokevirtual 28, 3) := by decide +kernel
theorem dX5_doAll_56 : decode cX5_doAll 56 = .ok (.return_, 1) := by decide +kernel
theorem dX5_doAll_57 : decode cX5_doAll 57 = .ok (.aload_n 2, 1) := by decide +kernel
theorem dX5_doAll_58 : decode cX5_doAll 58 = .ok (.aload_n 0, 1) := by decide +kernel
theorem dX5_doAll_59 : decode cX5_doAll 59 = .ok (.getfield 32, 3) := by decide +kernel
theorem dX5_doAll_62 : decode cX5_doAll 62 = .ok (.aload_n 0, 1) := by decide +kernel
theorem dX5_doAll_63 : decode cX5_doAll 63 = .ok (.getfield 36, 3) := by decide +kernel
theorem dX5_doAll_66 : decode cX5_doAll 66 = .ok (.aload_n 0, 1) := by decide +kernel
theorem dX5_doAll_67 : decode cX5_doAll 67 = .ok (.getfield 39, 3) := by decide +kernel
theorem dX5_doAll_70 : decode cX5_doAll 70 = .ok (.invokevirtual 42, 3) := by decide +kernel
theorem dX5_doAll_73 : decode cX5_doAll 73 = .ok (.istore 5, 2) := by decide +kernel
theorem dX5_doAll_75 : decode cX5_doAll 75 = .ok (.iload 5, 2) := by decide +kernel
theorem dX5_doAll_77 : decode cX5_doAll 77 = .ok (.ifCond .ge 13, 3) := by decide +kernel
theorem dX5_doAll_80 : decode cX5_doAll 80 = .ok (.aload_n 0, 1) := by decide +kernel
theorem dX5_doAll_81 : decode cX5_doAll 81 = .ok (.iload 4, 2) := by decide +kernel
theorem dX5_doAll_83 : decode cX5_doAll 83 = .ok (.iconst 2, 1) := by decide +kernel
theorem dX5_doAll_84 : decode cX5_doAll 84 = .ok (.iload 5, 2) := by decide +kernel
theorem dX5_doAll_86 : decode cX5_doAll 86 = .ok (.invokevirtual 28, 3) := by decide +kernel
theorem dX5_doAll_89 : decode cX5_doAll 89 = .ok (.return_, 1) := by decide +kernel
theorem dX5_doAll_90 : decode cX5_doAll 90 = .ok (.aload_n 0, 1) := by decide +kernel
theorem dX5_doAll_91 : decode cX5_doAll 91 = .ok (.dup, 1) := by decide +kernel
theorem dX5_doAll_92 : decode cX5_doAll 92 = .ok (.getfield 13, 3) := by decide +kernel
theorem dX5_doAll_95 : decode cX5_doAll 95 = .ok (.iconst 1, 1) := by decide +kernel
theorem dX5_doAll_96 : decode cX5_doAll 96 = .ok (.iadd, 1) := by decide +kernel
theorem dX5_doAll_97 : decode cX5_doAll 97 = .ok (.putfield 13, 3) := by decide +kernel
theorem dX5_doAll_100 : decode cX5_doAll 100 = .ok (.iinc 3 1, 3) := by decide +kernel
theorem dX5_doAll_103 : decode cX5_doAll 103 = .ok (.goto (-86), 3) := by decide +kernel
theorem dX5_doAll_106 : decode cX5_doAll 106 = .ok (.return_, 1) := by decide +kernel
theorem dX5_noteFault_0 : decode cX5_noteFault 0 = .ok (.aload_n 0, 1) := by decide +kernel
theorem dX5_noteFault_1 : decode cX5_noteFault 1 = .ok (.iload_n 1, 1) := by decide +kernel
theorem dX5_noteFault_2 : decode cX5_noteFault 2 = .ok (.putfield 48, 3) := by decide +kernel
theorem dX5_noteFault_5 : decode cX5_noteFault 5 = .ok (.aload_n 0, 1) := by decide +kernel
theorem dX5_noteFault_6 : decode cX5_noteFault 6 = .ok (.iload_n 2, 1) := by decide +kernel
theorem dX5_noteFault_7 : decode cX5_noteFault 7 = .ok (.putfield 7, 3) := by decide +kernel
theorem dX5_noteFault_10 : decode cX5_noteFault 10 = .ok (.aload_n 0, 1) := by decide +kernel
theorem dX5_noteFault_11 : decode cX5_noteFault 11 = .ok (.iload_n 3, 1) := by decide +kernel
theorem dX5_noteFault_12 : decode cX5_noteFault 12 = .ok (.putfield 51, 3) := by decide +kernel
theorem dX5_noteFault_15 : decode cX5_noteFault 15 = .ok (.return_, 1) := by decide +kernel
theorem dX5_readWork_0 : decode cX5_readWork 0 = .ok (.aload_n 0, 1) := by decide +kernel
theorem dX5_readWork_1 : decode cX5_readWork 1 = .ok (.aload_n 1, 1) := by decide +kernel
theorem dX5_readWork_2 : decode cX5_readWork 2 = .ok (.aload_n 0, 1) := by decide +kernel
theorem dX5_readWork_3 : decode cX5_readWork 3 = .ok (.getfield 16, 3) := by decide +kernel
theorem dX5_readWork_6 : decode cX5_readWork 6 = .ok (.invokevirtual 54, 3) := by decide +kernel
theorem dX5_readWork_9 : decode cX5_readWork 9 = .ok (.putfield 32, 3) := by decide +kernel
theorem dX5_readWork_12 : decode cX5_readWork 12 = .ok (.aload_n 0, 1) := by decide +kernel
theorem dX5_readWork_13 : decode cX5_readWork 13 = .ok (.getfield 32, 3) := by decide +kernel
theorem dX5_readWork_16 : decode cX5_readWork 16 = .ok (.bipush 100, 2) := by decide +kernel
theorem dX5_readWork_18 : decode cX5_readWork 18 = .ok (.if_icmp .eq 21, 3) := by decide +kernel
theorem dX5_readWork_21 : decode cX5_readWork 21 = .ok (.aload_n 0, 1) := by decide +kernel
theorem dX5_readWork_22 : decode cX5_readWork 22 = .ok (.getfield 32, 3) := by decide +kernel
theorem dX5_readWork_25 : decode cX5_readWork 25 = .ok (.bipush 104, 2) := by decide +kernel
theorem dX5_readWork_27 : decode cX5_readWork 27 = .ok (.if_icmp .eq 12, 3) := by decide +kernel
theorem dX5_readWork_30 : decode cX5_readWork 30 = .ok (.aload_n 0, 1) := by decide +kernel
theorem dX5_readWork_31 : decode cX5_readWork 31 = .ok (.getfield 32, 3) := by decide +kernel
theorem dX5_readWork_34 : decode cX5_readWork 34 = .ok (.bipush 115, 2) := by decide +kernel
theorem dX5_readWork_36 : decode cX5_readWork 36 = .ok (.if_icmp .ne 7, 3) := by decide +kernel
theorem dX5_readWork_39 : decode cX5_readWork 39 = .ok (.iconst 1, 1) := by decide +kernel
theorem dX5_readWork_40 : decode cX5_readWork 40 = .ok (.goto 4, 3) := by decide +kernel
theorem dX5_readWork_43 : decode cX5_readWork 43 = .ok (.iconst 0, 1) := by decide +kernel
theorem dX5_readWork_44 : decode cX5_readWork 44 = .ok (.istore_n 2, 1) := by decide +kernel
theorem dX5_readWork_45 : decode cX5_readWork 45 = .ok (.iload_n 2, 1) := by decide +kernel
theorem dX5_readWork_46 : decode cX5_readWork 46 = .ok (.ifCond .ne 32, 3) := by decide +kernel
theorem dX5_readWork_49 : decode cX5_readWork 49 = .ok (.aload_n 0, 1) := by decide +kernel
theorem dX5_readWork_50 : decode cX5_readWork 50 = .ok (.getfield 32, 3) := by decide +kernel
theorem dX5_readWork_53 : decode cX5_readWork 53 = .ok (.bipush 114, 2) := by decide +kernel
theorem dX5_readWork_55 : decode cX5_readWork 55 = .ok (.if_icmp .eq 23, 3) := by decide +kernel
theorem dX5_readWork_58 : decode cX5_readWork 58 = .ok (.aload_n 0, 1) := by decide +kernel
theorem dX5_readWork_59 : decode cX5_readWork 59 = .ok (.getfield 32, 3) := by decide +kernel
theorem dX5_readWork_62 : decode cX5_readWork 62 = .ok (.bipush 116, 2) := by decide +kernel
theorem dX5_readWork_64 : decode cX5_readWork 64 = .ok (.if_icmp .eq 14, 3) := by decide +kernel
theorem dX5_readWork_67 : decode cX5_readWork 67 = .ok (.aload_n 0, 1) := by decide +kernel
theorem dX5_readWork_68 : decode cX5_readWork 68 = .ok (.getfield 32, 3) := by decide +kernel
theorem dX5_readWork_71 : decode cX5_readWork 71 = .ok (.bipush 101, 2) := by decide +kernel
theorem dX5_readWork_73 : decode cX5_readWork 73 = .ok (.if_icmp .eq 5, 3) := by decide +kernel
theorem dX5_readWork_76 : decode cX5_readWork 76 = .ok (.iconst 0, 1) := by decide +kernel
theorem dX5_readWork_77 : decode cX5_readWork 77 = .ok (.ireturn, 1) := by decide +kernel
theorem dX5_readWork_78 : decode cX5_readWork 78 = .ok (.aload_n 0, 1) := by decide +kernel
theorem dX5_readWork_79 : decode cX5_readWork 79 = .ok (.dup, 1) := by decide +kernel
theorem dX5_readWork_80 : decode cX5_readWork 80 = .ok (.getfield 16, 3) := by decide +kernel
theorem dX5_readWork_83 : decode cX5_readWork 83 = .ok (.iconst 1, 1) := by decide +kernel
theorem dX5_readWork_84 : decode cX5_readWork 84 = .ok (.iadd, 1) := by decide +kernel
theorem dX5_readWork_85 : decode cX5_readWork 85 = .ok (.putfield 16, 3) := by decide +kernel
theorem dX5_readWork_88 : decode cX5_readWork 88 = .ok (.aload_n 0, 1) := by decide +kernel
theorem dX5_readWork_89 : decode cX5_readWork 89 = .ok (.aload_n 0, 1) := by decide +kernel
theorem dX5_readWork_90 : decode cX5_readWork 90 = .ok (.aload_n 1, 1) := by decide +kernel
theorem dX5_readWork_91 : decode cX5_readWork 91 = .ok (.invokevirtual 58, 3) := by decide +kernel
theorem dX5_readWork_94 : decode cX5_readWork 94 = .ok (.putfield 36, 3) := by decide +kernel
theorem dX5_readWork_97 : decode cX5_readWork 97 = .ok (.aload_n 0, 1) := by decide +kernel
theorem dX5_readWork_98 : decode cX5_readWork 98 = .ok (.iconst 0, 1) := by decide +kernel
theorem dX5_readWork_99 : decode cX5_readWork 99 = .ok (.putfield 39, 3) := by decide +kernel
theorem dX5_readWork_102 : decode cX5_readWork 102 = .ok (.aload_n 0, 1) := by decide +kernel
theorem dX5_readWork_103 : decode cX5_readWork 103 = .ok (.getfield 36, 3) := by decide +kernel
theorem dX5_readWork_106 : decode cX5_readWork 106 = .ok (.ifCond .ge 5, 3) := by decide +kernel
theorem dX5_readWork_109 : decode cX5_readWork 109 = .ok (.iconst 0, 1) := by decide +kernel
theorem dX5_readWork_110 : decode cX5_readWork 110 = .ok (.ireturn, 1) := by decide +kernel
theorem dX5_readWork_111 : decode cX5_readWork 111 = .ok (.iload_n 2, 1) := by decide +kernel
theorem dX5_readWork_112 : decode cX5_readWork 112 = .ok (.ifCond .eq 24, 3) := by decide +kernel
theorem dX5_readWork_115 : decode cX5_readWork 115 = .ok (.aload_n 0, 1) := by decide +kernel
theorem dX5_readWork_116 : decode cX5_readWork 116 = .ok (.aload_n 1, 1) := by decide +kernel
theorem dX5_readWork_117 : decode cX5_readWork 117 = .ok (.bipush 44, 2) := by decide +kernel
theorem dX5_readWork_119 : decode cX5_readWork 119 = .ok (.invokevirtual 62, 3) := by decide +kernel
theorem dX5_readWork_122 : decode cX5_readWork 122 = .ok (.ifCond .ne 5, 3) := by decide +kernel
theorem dX5_readWork_125 : decode cX5_readWork 125 = .ok (.iconst 0, 1) := by decide +kernel
theorem dX5_readWork_126 : decode cX5_readWork 126 = .ok (.ireturn, 1) := by decide +kernel
theorem dX5_readWork_127 : decode cX5_readWork 127 = .ok (.aload_n 0, 1) := by decide +kernel
theorem dX5_readWork_128 : decode cX5_readWork 128 = .ok (.aload_n 0, 1) := by decide +kernel
theorem dX5_readWork_129 : decode cX5_readWork 129 = .ok (.aload_n 1, 1) := by decide +kernel
theorem dX5_readWork_130 : decode cX5_readWork 130 = .ok (.invokevirtual 58, 3) := by decide +kernel
theorem dX5_readWork_133 : decode cX5_readWork 133 = .ok (.putfield 39, 3) := by decide +kernel
theorem dX5_readWork_136 : decode cX5_readWork 136 = .ok (.aload_n 0, 1) := by decide +kernel
theorem dX5_readWork_137 : decode cX5_readWork 137 = .ok (.getfield 39, 3) := by decide +kernel
theorem dX5_readWork_140 : decode cX5_readWork 140 = .ok (.ifCond .lt 17, 3) := by decide +kernel
theorem dX5_readWork_143 : decode cX5_readWork 143 = .ok (.aload_n 0, 1) := by decide +kernel
theorem dX5_readWork_144 : decode cX5_readWork 144 = .ok (.aload_n 1, 1) := by decide +kernel
theorem dX5_readWork_145 : decode cX5_readWork 145 = .ok (.bipush 59, 2) := by decide +kernel
theorem dX5_readWork_147 : decode cX5_readWork 147 = .ok (.invokevirtual 62, 3) := by decide +kernel
theorem dX5_readWork_150 : decode cX5_readWork 150 = .ok (.ifCond .eq 7, 3) := by decide +kernel
theorem dX5_readWork_153 : decode cX5_readWork 153 = .ok (.iconst 1, 1) := by decide +kernel
theorem dX5_readWork_154 : decode cX5_readWork 154 = .ok (.goto 4, 3) := by decide +kernel
theorem dX5_readWork_157 : decode cX5_readWork 157 = .ok (.iconst 0, 1) := by decide +kernel
theorem dX5_readWork_158 : decode cX5_readWork 158 = .ok (.ireturn, 1) := by decide +kernel
theorem dX5_readNumber_0 : decode cX5_readNumber 0 = .ok (.aload_n 1, 1) := by decide +kernel
theorem dX5_readNumber_1 : decode cX5_readNumber 1 = .ok (.aload_n 0, 1) := by decide +kernel
theorem dX5_readNumber_2 : decode cX5_readNumber 2 = .ok (.getfield 16, 3) := by decide +kernel
theorem dX5_readNumber_5 : decode cX5_readNumber 5 = .ok (.invokevirtual 54, 3) := by decide +kernel
theorem dX5_readNumber_8 : decode cX5_readNumber 8 = .ok (.invokestatic 66, 3) := by decide +kernel
theorem dX5_readNumber_11 : decode cX5_readNumber 11 = .ok (.istore_n 2, 1) := by decide +kernel
theorem dX5_readNumber_12 : decode cX5_readNumber 12 = .ok (.iload_n 2, 1) := by decide +kernel
theorem dX5_readNumber_13 : decode cX5_readNumber 13 = .ok (.ifCond .ge 5, 3) := by decide +kernel
theorem dX5_readNumber_16 : decode cX5_readNumber 16 = .ok (.iconst (-1), 1) := by decide +kernel
theorem dX5_readNumber_17 : decode cX5_readNumber 17 = .ok (.ireturn, 1) := by decide +kernel
theorem dX5_readNumber_18 : decode cX5_readNumber 18 = .ok (.aload_n 0, 1) := by decide +kernel
theorem dX5_readNumber_19 : decode cX5_readNumber 19 = .ok (.dup, 1) := by decide +kernel
theorem dX5_readNumber_20 : decode cX5_readNumber 20 = .ok (.getfield 16, 3) := by decide +kernel
theorem dX5_readNumber_23 : decode cX5_readNumber 23 = .ok (.iconst 1, 1) := by decide +kernel
theorem dX5_readNumber_24 : decode cX5_readNumber 24 = .ok (.iadd, 1) := by decide +kernel
theorem dX5_readNumber_25 : decode cX5_readNumber 25 = .ok (.putfield 16, 3) := by decide +kernel
theorem dX5_readNumber_28 : decode cX5_readNumber 28 = .ok (.aload_n 1, 1) := by decide +kernel
theorem dX5_readNumber_29 : decode cX5_readNumber 29 = .ok (.aload_n 0, 1) := by decide +kernel
theorem dX5_readNumber_30 : decode cX5_readNumber 30 = .ok (.getfield 16, 3) := by decide +kernel
theorem dX5_readNumber_33 : decode cX5_readNumber 33 = .ok (.invokevirtual 54, 3) := by decide +kernel
theorem dX5_readNumber_36 : decode cX5_readNumber 36 = .ok (.invokestatic 66, 3) := by decide +kernel
theorem dX5_readNumber_39 : decode cX5_readNumber 39 = .ok (.istore_n 3, 1) := by decide +kernel
theorem dX5_readNumber_40 : decode cX5_readNumber 40 = .ok (.iload_n 3, 1) := by decide +kernel
theorem dX5_readNumber_41 : decode cX5_readNumber 41 = .ok (.ifCond .ge 5, 3) := by decide +kernel
theorem dX5_readNumber_44 : decode cX5_readNumber 44 = .ok (.iload_n 2, 1) := by decide +kernel
theorem dX5_readNumber_45 : decode cX5_readNumber 45 = .ok (.ireturn, 1) := by decide +kernel
theorem dX5_readNumber_46 : decode cX5_readNumber 46 = .ok (.aload_n 0, 1) := by decide +kernel
theorem dX5_readNumber_47 : decode cX5_readNumber 47 = .ok (.dup, 1) := by decide +kernel
theorem dX5_readNumber_48 : decode cX5_readNumber 48 = .ok (.getfield 16, 3) := by decide +kernel
theorem dX5_readNumber_51 : decode cX5_readNumber 51 = .ok (.iconst 1, 1) := by decide +kernel
theorem dX5_readNumber_52 : decode cX5_readNumber 52 = .ok (.iadd, 1) := by decide +kernel
theorem dX5_readNumber_53 : decode cX5_readNumber 53 = .ok (.putfield 16, 3) := by decide +kernel
theorem dX5_readNumber_56 : decode cX5_readNumber 56 = .ok (.iload_n 2, 1) := by decide +kernel
theorem dX5_readNumber_57 : decode cX5_readNumber 57 = .ok (.bipush 10, 2) := by decide +kernel
theorem dX5_readNumber_59 : decode cX5_readNumber 59 = .ok (.imul, 1) := by decide +kernel
theorem dX5_readNumber_60 : decode cX5_readNumber 60 = .ok (.iload_n 3, 1) := by decide +kernel
theorem dX5_readNumber_61 : decode cX5_readNumber 61 = .ok (.iadd, 1) := by decide +kernel
theorem dX5_readNumber_62 : decode cX5_readNumber 62 = .ok (.ireturn, 1) := by decide +kernel
theorem dX5_digitOf_0 : decode cX5_digitOf 0 = .ok (.iload_n 0, 1) := by decide +kernel
theorem dX5_digitOf_1 : decode cX5_digitOf 1 = .ok (.bipush 48, 2) := by decide +kernel
theorem dX5_digitOf_3 : decode cX5_digitOf 3 = .ok (.if_icmp .lt 16, 3) := by decide +kernel
theorem dX5_digitOf_6 : decode cX5_digitOf 6 = .ok (.iload_n 0, 1) := by decide +kernel
theorem dX5_digitOf_7 : decode cX5_digitOf 7 = .ok (.bipush 57, 2) := by decide +kernel
theorem dX5_digitOf_9 : decode cX5_digitOf 9 = .ok (.if_icmp .gt 10, 3) := by decide +kernel
theorem dX5_digitOf_12 : decode cX5_digitOf 12 = .ok (.iload_n 0, 1) := by decide +kernel
theorem dX5_digitOf_13 : decode cX5_digitOf 13 = .ok (.bipush 48, 2) := by decide +kernel
theorem dX5_digitOf_15 : decode cX5_digitOf 15 = .ok (.isub, 1) := by decide +kernel
theorem dX5_digitOf_16 : decode cX5_digitOf 16 = .ok (.goto 4, 3) := by decide +kernel
theorem dX5_digitOf_19 : decode cX5_digitOf 19 = .ok (.iconst (-1), 1) := by decide +kernel
theorem dX5_digitOf_20 : decode cX5_digitOf 20 = .ok (.ireturn, 1) := by decide +kernel
theorem dX5_passes_0 : decode cX5_passes 0 = .ok (.aload_n 1, 1) := by decide +kernel
theorem dX5_passes_1 : decode cX5_passes 1 = .ok (.aload_n 0, 1) := by decide +kernel
theorem dX5_passes_2 : decode cX5_passes 2 = .ok (.getfield 16, 3) := by decide +kernel
theorem dX5_passes_5 : decode cX5_passes 5 = .ok (.invokevirtual 54, 3) := by decide +kernel
theorem dX5_passes_8 : decode cX5_passes 8 = .ok (.iload_n 2, 1) := by decide +kernel
theorem dX5_passes_9 : decode cX5_passes 9 = .ok (.if_icmp .eq 5, 3) := by decide +kernel
theorem dX5_passes_12 : decode cX5_passes 12 = .ok (.iconst 0, 1) := by decide +kernel
theorem dX5_passes_13 : decode cX5_passes 13 = .ok (.ireturn, 1) := by decide +kernel
theorem dX5_passes_14 : decode cX5_passes 14 = .ok (.aload_n 0, 1) := by decide +kernel
theorem dX5_passes_15 : decode cX5_passes 15 = .ok (.dup, 1) := by decide +kernel
theorem dX5_passes_16 : decode cX5_passes 16 = .ok (.getfield 16, 3) := by decide +kernel
theorem dX5_passes_19 : decode cX5_passes 19 = .ok (.iconst 1, 1) := by decide +kernel
theorem dX5_passes_20 : decode cX5_passes 20 = .ok (.iadd, 1) := by decide +kernel
theorem dX5_passes_21 : decode cX5_passes 21 = .ok (.putfield 16, 3) := by decide +kernel
theorem dX5_passes_24 : decode cX5_passes 24 = .ok (.iconst 1, 1) := by decide +kernel
theorem dX5_passes_25 : decode cX5_passes 25 = .ok (.ireturn, 1) := by decide +kernel
theorem dX6_init_0 : decode cX6_init 0 = .ok (.aload_n 0, 1) := by decide +kernel
theorem dX6_init_1 : decode cX6_init 1 = .ok (.invokespecial 3, 3) := by decide +kernel
theorem dX6_init_4 : decode cX6_init 4 = .ok (.aload_n 0, 1) := by decide +kernel
theorem dX6_init_5 : decode cX6_init 5 = .ok (.bipush 7, 2) := by decide +kernel
theorem dX6_init_7 : decode cX6_init 7 = .ok (.newarray .int, 2) := by decide +kernel
theorem dX6_init_9 : decode cX6_init 9 = .ok (.putfield 9, 3) := by decide +kernel
theorem dX6_init_12 : decode cX6_init 12 = .ok (.iconst 0, 1) := by decide +kernel
theorem dX6_init_13 : decode cX6_init 13 = .ok (.istore_n 1, 1) := by decide +kernel
theorem dX6_init_14 : decode cX6_init 14 = .ok (.iload_n 1, 1) := by decide +kernel
theorem dX6_init_15 : decode cX6_init 15 = .ok (.aload_n 0, 1) := by decide +kernel
theorem dX6_init_16 : decode cX6_init 16 = .ok (.getfield 9, 3) := by decide +kernel
theorem dX6_init_19 : decode cX6_init 19 = .ok (.arraylength, 1) := by decide +kernel
theorem dX6_init_20 : decode cX6_init 20 = .ok (.if_icmp .ge 28, 3) := by decide +kernel
theorem dX6_init_23 : decode cX6_init 23 = .ok (.iload_n 1, 1) := by decide +kernel
theorem dX6_init_24 : decode cX6_init 24 = .ok (.getstatic 15, 3) := by decide +kernel
theorem dX6_init_27 : decode cX6_init 27 = .ok (.arraylength, 1) := by decide +kernel
theorem dX6_init_28 : decode cX6_init 28 = .ok (.if_icmp .ge 20, 3) := by decide +kernel
theorem dX6_init_31 : decode cX6_init 31 = .ok (.aload_n 0, 1) := by decide +kernel
theorem dX6_init_32 : decode cX6_init 32 = .ok (.getfield 9, 3) := by decide +kernel
theorem dX6_init_35 : decode cX6_init 35 = .ok (.iload_n 1, 1) := by decide +kernel
theorem dX6_init_36 : decode cX6_init 36 = .ok (.getstatic 15, 3) := by decide +kernel
theorem dX6_init_39 : decode cX6_init 39 = .ok (.iload_n 1, 1) := by decide +kernel
theorem dX6_init_40 : decode cX6_init 40 = .ok (.iaload, 1) := by decide +kernel
theorem dX6_init_41 : decode cX6_init 41 = .ok (.iastore, 1) := by decide +kernel
theorem dX6_init_42 : decode cX6_init 42 = .ok (.iinc 1 1, 3) := by decide +kernel
theorem dX6_init_45 : decode cX6_init 45 = .ok (.goto (-31), 3) := by decide +kernel
theorem dX6_init_48 : decode cX6_init 48 = .ok (.return_, 1) := by decide +kernel
theorem dX6_exists_0 : decode cX6_exists 0 = .ok (.iload_n 0, 1) := by decide +kernel
theorem dX6_exists_1 : decode cX6_exists 1 = .ok (.ifCond .lt 15, 3) := by decide +kernel
theorem dX6_exists_4 : decode cX6_exists 4 = .ok (.iload_n 0, 1) := by decide +kernel
theorem dX6_exists_5 : decode cX6_exists 5 = .ok (.getstatic 15, 3) := by decide +kernel
theorem dX6_exists_8 : decode cX6_exists 8 = .ok (.arraylength, 1) := by decide +kernel
theorem dX6_exists_9 : decode cX6_exists 9 = .ok (.if_icmp .ge 7, 3) := by decide +kernel
theorem dX6_exists_12 : decode cX6_exists 12 = .ok (.iconst 1, 1) := by decide +kernel
theorem dX6_exists_13 : decode cX6_exists 13 = .ok (.goto 4, 3) := by decide +kernel
theorem dX6_exists_16 : decode cX6_exists 16 = .ok (.iconst 0, 1) := by decide +kernel
theorem dX6_exists_17 : decode cX6_exists 17 = .ok (.ireturn, 1) := by decide +kernel
theorem dX6_valueOf_0 : decode cX6_valueOf 0 = .ok (.iload_n 1, 1) := by decide +kernel
theorem dX6_valueOf_1 : decode cX6_valueOf 1 = .ok (.ifCond .lt 21, 3) := by decide +kernel
theorem dX6_valueOf_4 : decode cX6_valueOf 4 = .ok (.iload_n 1, 1) := by decide +kernel
theorem dX6_valueOf_5 : decode cX6_valueOf 5 = .ok (.aload_n 0, 1) := by decide +kernel
theorem dX6_valueOf_6 : decode cX6_valueOf 6 = .ok (.getfield 9, 3) := by decide +kernel
theorem dX6_valueOf_9 : decode cX6_valueOf 9 = .ok (.arraylength, 1) := by decide +kernel
theorem dX6_valueOf_10 : decode cX6_valueOf 10 = .ok (.if_icmp .ge 12, 3) := by decide +kernel
theorem dX6_valueOf_13 : decode cX6_valueOf 13 = .ok (.aload_n 0, 1) := by decide +kernel
theorem dX6_valueOf_14 : decode cX6_valueOf 14 = .ok (.getfield 9, 3) := by decide +kernel
theorem dX6_valueOf_17 : decode cX6_valueOf 17 = .ok (.iload_n 1, 1) := by decide +kernel
theorem dX6_valueOf_18 : decode cX6_valueOf 18 = .ok (.iaload, 1) := by decide +kernel
theorem dX6_valueOf_19 : decode cX6_valueOf 19 = .ok (.goto 4, 3) := by decide +kernel
theorem dX6_valueOf_22 : decode cX6_valueOf 22 = .ok (.iconst 0, 1) := by decide +kernel
theorem dX6_valueOf_23 : decode cX6_valueOf 23 = .ok (.ireturn, 1) := by decide +kernel
theorem dX6_copyFrom_0 : decode cX6_copyFrom 0 = .ok (.aload_n 1, 1) := by decide +kernel
theorem dX6_copyFrom_1 : decode cX6_copyFrom 1 = .ok (.getfield 9, 3) := by decide +kernel
theorem dX6_copyFrom_4 : decode cX6_copyFrom 4 = .ok (.aload_n 0, 1) := by decide +kernel
theorem dX6_copyFrom_5 : decode cX6_copyFrom 5 = .ok (.getfield 9, 3) := by decide +kernel
theorem dX6_copyFrom_8 : decode cX6_copyFrom 8 = .ok (.invokestatic 18, 3) := by decide +kernel
theorem dX6_copyFrom_11 : decode cX6_copyFrom 11 = .ok (.return_, 1) := by decide +kernel
theorem dX6_change_0 : decode cX6_change 0 = .ok (.iload_n 1, 1) := by decide +kernel
theorem dX6_change_1 : decode cX6_change 1 = .ok (.ifCond .lt 12, 3) := by decide +kernel
theorem dX6_change_4 : decode cX6_change 4 = .ok (.iload_n 1, 1) := by decide +kernel
theorem dX6_change_5 : decode cX6_change 5 = .ok (.aload_n 0, 1) := by decide +kernel
theorem dX6_change_6 : decode cX6_change 6 = .ok (.getfield 9, 3) := by decide +kernel
theorem dX6_change_9 : decode cX6_change 9 = .ok (.arraylength, 1) := by decide +kernel
theorem dX6_change_10 : decode cX6_change 10 = .ok (.if_icmp .lt 5, 3) := by decide +kernel
theorem dX6_change_13 : decode cX6_change 13 = .ok (.iconst (-1), 1) := by decide +kernel
theorem dX6_change_14 : decode cX6_change 14 = .ok (.ireturn, 1) := by decide +kernel
theorem dX6_change_15 : decode cX6_change 15 = .ok (.iload_n 2, 1) := by decide +kernel
theorem dX6_change_16 : decode cX6_change 16 = .ok (.getstatic 22, 3) := by decide +kernel
theorem dX6_change_19 : decode cX6_change 19 = .ok (.iload_n 1, 1) := by decide +kernel
theorem dX6_change_20 : decode cX6_change 20 = .ok (.invokestatic 25, 3) := by decide +kernel
theorem dX6_change_23 : decode cX6_change 23 = .ok (.if_icmp .lt 14, 3) := by decide +kernel
theorem dX6_change_26 : decode cX6_change 26 = .ok (.iload_n 2, 1) := by decide +kernel
theorem dX6_change_27 : decode cX6_change 27 = .ok (.getstatic 29, 3) := by decide +kernel
theorem dX6_change_30 : decode cX6_change 30 = .ok (.iload_n 1, 1) := by decide +kernel
theorem dX6_change_31 : decode cX6_change 31 = .ok (.invokestatic 25, 3) := by decide +kernel
theorem dX6_change_34 : decode cX6_change 34 = .ok (.if_icmp .le 5, 3) := by decide +kernel
theorem dX6_change_37 : decode cX6_change 37 = .ok (.iconst (-1), 1) := by decide +kernel
theorem dX6_change_38 : decode cX6_change 38 = .ok (.ireturn, 1) := by decide +kernel
theorem dX6_change_39 : decode cX6_change 39 = .ok (.aload_n 0, 1) := by decide +kernel
theorem dX6_change_40 : decode cX6_change 40 = .ok (.getfield 9, 3) := by decide +kernel
theorem dX6_change_43 : decode cX6_change 43 = .ok (.iload_n 1, 1) := by decide +kernel
theorem dX6_change_44 : decode cX6_change 44 = .ok (.iaload, 1) := by decide +kernel
theorem dX6_change_45 : decode cX6_change 45 = .ok (.istore_n 3, 1) := by decide +kernel
theorem dX6_change_46 : decode cX6_change 46 = .ok (.aload_n 0, 1) := by decide +kernel
theorem dX6_change_47 : decode cX6_change 47 = .ok (.getfield 9, 3) := by decide +kernel
theorem dX6_change_50 : decode cX6_change 50 = .ok (.iload_n 1, 1) := by decide +kernel
theorem dX6_change_51 : decode cX6_change 51 = .ok (.iload_n 2, 1) := by decide +kernel
theorem dX6_change_52 : decode cX6_change 52 = .ok (.iastore, 1) := by decide +kernel
theorem dX6_change_53 : decode cX6_change 53 = .ok (.iload_n 3, 1) := by decide +kernel
theorem dX6_change_54 : decode cX6_change 54 = .ok (.ireturn, 1) := by decide +kernel
theorem dX7_init_0 : decode cX7_init 0 = .ok (.aload_n 0, 1) := by decide +kernel
theorem dX7_init_1 : decode cX7_init 1 = .ok (.invokespecial 3, 3) := by decide +kernel
theorem dX7_init_4 : decode cX7_init 4 = .ok (.aload_n 0, 1) := by decide +kernel
theorem dX7_init_5 : decode cX7_init 5 = .ok (.bipush 60, 2) := by decide +kernel
theorem dX7_init_7 : decode cX7_init 7 = .ok (.newarray .char, 2) := by decide +kernel
theorem dX7_init_9 : decode cX7_init 9 = .ok (.putfield 11, 3) := by decide +kernel
theorem dX7_init_12 : decode cX7_init 12 = .ok (.return_, 1) := by decide +kernel
theorem dX7_append_0 : decode cX7_append 0 = .ok (.iload_n 1, 1) := by decide +kernel
theorem dX7_append_1 : decode cX7_append 1 = .ok (.bipush 32, 2) := by decide +kernel
theorem dX7_append_3 : decode cX7_append 3 = .ok (.if_icmp .lt 9, 3) := by decide +kernel
theorem dX7_append_6 : decode cX7_append 6 = .ok (.iload_n 1, 1) := by decide +kernel
theorem dX7_append_7 : decode cX7_append 7 = .ok (.bipush 126, 2) := by decide +kernel
theorem dX7_append_9 : decode cX7_append 9 = .ok (.if_icmp .le 5, 3) := by decide +kernel
theorem dX7_append_12 : decode cX7_append 12 = .ok (.iconst (-1), 1) := by decide +kernel
theorem dX7_append_13 : decode cX7_append 13 = .ok (.ireturn, 1) := by decide +kernel
theorem dX7_append_14 : decode cX7_append 14 = .ok (.aload_n 0, 1) := by decide +kernel
theorem dX7_append_15 : decode cX7_append 15 = .ok (.getfield 15, 3) := by decide +kernel
theorem dX7_append_18 : decode cX7_append 18 = .ok (.ifCond .lt 15, 3) := by decide +kernel
theorem dX7_append_21 : decode cX7_append 21 = .ok (.aload_n 0, 1) := by decide +kernel
theorem dX7_append_22 : decode cX7_append 22 = .ok (.getfield 15, 3) := by decide +kernel
theorem dX7_append_25 : decode cX7_append 25 = .ok (.aload_n 0, 1) := by decide +kernel
theorem dX7_append_26 : decode cX7_append 26 = .ok (.getfield 11, 3) := by decide +kernel
theorem dX7_append_29 : decode cX7_append 29 = .ok (.arraylength, 1) := by decide +kernel
theorem dX7_append_30 : decode cX7_append 30 = .ok (.if_icmp .lt 6, 3) := by decide +kernel
theorem dX7_append_33 : decode cX7_append 33 = .ok (.bipush (-3), 2) := by decide +kernel
theorem dX7_append_35 : decode cX7_append 35 = .ok (.ireturn, 1) := by decide +kernel
theorem dX7_append_36 : decode cX7_append 36 = .ok (.aload_n 0, 1) := by decide +kernel
theorem dX7_append_37 : decode cX7_append 37 = .ok (.getfield 11, 3) := by decide +kernel
theorem dX7_append_40 : decode cX7_append 40 = .ok (.aload_n 0, 1) := by decide +kernel
theorem dX7_append_41 : decode cX7_append 41 = .ok (.getfield 15, 3) := by decide +kernel
theorem dX7_append_44 : decode cX7_append 44 = .ok (.iload_n 1, 1) := by decide +kernel
theorem dX7_append_45 : decode cX7_append 45 = .ok (.i2c, 1) := by decide +kernel
theorem dX7_append_46 : decode cX7_append 46 = .ok (.castore, 1) := by decide +kernel
theorem dX7_append_47 : decode cX7_append 47 = .ok (.aload_n 0, 1) := by decide +kernel
theorem dX7_append_48 : decode cX7_append 48 = .ok (.dup, 1) := by decide +kernel
theorem dX7_append_49 : decode cX7_append 49 = .ok (.getfield 15, 3) := by decide +kernel
theorem dX7_append_52 : decode cX7_append 52 = .ok (.iconst 1, 1) := by decide +kernel
theorem dX7_append_53 : decode cX7_append 53 = .ok (.iadd, 1) := by decide +kernel
theorem dX7_append_54 : decode cX7_append 54 = .ok (.putfield 15, 3) := by decide +kernel
theorem dX7_append_57 : decode cX7_append 57 = .ok (.aload_n 0, 1) := by decide +kernel
theorem dX7_append_58 : decode cX7_append 58 = .ok (.getfield 15, 3) := by decide +kernel
theorem dX7_append_61 : decode cX7_append 61 = .ok (.ireturn, 1) := by decide +kernel
theorem dX7_makeEmpty_0 : decode cX7_makeEmpty 0 = .ok (.aload_n 0, 1) := by decide +kernel
theorem dX7_makeEmpty_1 : decode cX7_makeEmpty 1 = .ok (.getfield 15, 3) := by decide +kernel
theorem dX7_makeEmpty_4 : decode cX7_makeEmpty 4 = .ok (.istore_n 1, 1) := by decide +kernel
theorem dX7_makeEmpty_5 : decode cX7_makeEmpty 5 = .ok (.aload_n 0, 1) := by decide +kernel
theorem dX7_makeEmpty_6 : decode cX7_makeEmpty 6 = .ok (.iconst 0, 1) := by decide +kernel
theorem dX7_makeEmpty_7 : decode cX7_makeEmpty 7 = .ok (.putfield 15, 3) := by decide +kernel
theorem dX7_makeEmpty_10 : decode cX7_makeEmpty 10 = .ok (.iload_n 1, 1) := by decide +kernel
theorem dX7_makeEmpty_11 : decode cX7_makeEmpty 11 = .ok (.ireturn, 1) := by decide +kernel
theorem dX7_signAt_0 : decode cX7_signAt 0 = .ok (.iload_n 1, 1) := by decide +kernel
theorem dX7_signAt_1 : decode cX7_signAt 1 = .ok (.ifCond .lt 24, 3) := by decide +kernel
theorem dX7_signAt_4 : decode cX7_signAt 4 = .ok (.iload_n 1, 1) := by decide +kernel
theorem dX7_signAt_5 : decode cX7_signAt 5 = .ok (.aload_n 0, 1) := by decide +kernel
theorem dX7_signAt_6 : decode cX7_signAt 6 = .ok (.getfield 15, 3) := by decide +kernel
theorem dX7_signAt_9 : decode cX7_signAt 9 = .ok (.if_icmp .ge 16, 3) := by decide +kernel
theorem dX7_signAt_12 : decode cX7_signAt 12 = .ok (.iload_n 1, 1) := by decide +kernel
theorem dX7_signAt_13 : decode cX7_signAt 13 = .ok (.aload_n 0, 1) := by decide +kernel
theorem dX7_signAt_14 : decode cX7_signAt 14 = .ok (.getfield 11, 3) := by decide +kernel
theorem dX7_signAt_17 : decode cX7_signAt 17 = .ok (.arraylength, 1) := by decide +kernel
theorem dX7_signAt_18 : decode cX7_signAt 18 = .ok (.if_icmp .ge 7, 3) := by decide +kernel
theorem dX7_signAt_21 : decode cX7_signAt 21 = .ok (.iconst 1, 1) := by decide +kernel
theorem dX7_signAt_22 : decode cX7_signAt 22 = .ok (.goto 4, 3) := by decide +kernel
theorem dX7_signAt_25 : decode cX7_signAt 25 = .ok (.iconst 0, 1) := by decide +kernel
theorem dX7_signAt_26 : decode cX7_signAt 26 = .ok (.istore_n 2, 1) := by decide +kernel
theorem dX7_signAt_27 : decode cX7_signAt 27 = .ok (.iload_n 2, 1) := by decide +kernel
theorem dX7_signAt_28 : decode cX7_signAt 28 = .ok (.ifCond .eq 12, 3) := by decide +kernel
theorem dX7_signAt_31 : decode cX7_signAt 31 = .ok (.aload_n 0, 1) := by decide +kernel
theorem dX7_signAt_32 : decode cX7_signAt 32 = .ok (.getfield 11, 3) := by decide +kernel
theorem dX7_signAt_35 : decode cX7_signAt 35 = .ok (.iload_n 1, 1) := by decide +kernel
theorem dX7_signAt_36 : decode cX7_signAt 36 = .ok (.caload, 1) := by decide +kernel
theorem dX7_signAt_37 : decode cX7_signAt 37 = .ok (.goto 4, 3) := by decide +kernel
theorem dX7_signAt_40 : decode cX7_signAt 40 = .ok (.iconst 0, 1) := by decide +kernel
theorem dX7_signAt_41 : decode cX7_signAt 41 = .ok (.ireturn, 1) := by decide +kernel
theorem dX8_init_0 : decode cX8_init 0 = .ok (.aload_n 0, 1) := by decide +kernel
theorem dX8_init_1 : decode cX8_init 1 = .ok (.invokespecial 1, 3) := by decide +kernel
theorem dX8_init_4 : decode cX8_init 4 = .ok (.return_, 1) := by decide +kernel
theorem dX8_copyFrom_0 : decode cX8_copyFrom 0 = .ok (.aload_n 0, 1) := by decide +kernel
theorem dX8_copyFrom_1 : decode cX8_copyFrom 1 = .ok (.aload_n 1, 1) := by decide +kernel
theorem dX8_copyFrom_2 : decode cX8_copyFrom 2 = .ok (.getfield 7, 3) := by decide +kernel
theorem dX8_copyFrom_5 : decode cX8_copyFrom 5 = .ok (.putfield 7, 3) := by decide +kernel
theorem dX8_copyFrom_8 : decode cX8_copyFrom 8 = .ok (.aload_n 0, 1) := by decide +kernel
theorem dX8_copyFrom_9 : decode cX8_copyFrom 9 = .ok (.aload_n 1, 1) := by decide +kernel
theorem dX8_copyFrom_10 : decode cX8_copyFrom 10 = .ok (.getfield 13, 3) := by decide +kernel
theorem dX8_copyFrom_13 : decode cX8_copyFrom 13 = .ok (.putfield 13, 3) := by decide +kernel
theorem dX8_copyFrom_16 : decode cX8_copyFrom 16 = .ok (.aload_n 0, 1) := by decide +kernel
theorem dX8_copyFrom_17 : decode cX8_copyFrom 17 = .ok (.aload_n 1, 1) := by decide +kernel
theorem dX8_copyFrom_18 : decode cX8_copyFrom 18 = .ok (.getfield 16, 3) := by decide +kernel
theorem dX8_copyFrom_21 : decode cX8_copyFrom 21 = .ok (.putfield 16, 3) := by decide +kernel
theorem dX8_copyFrom_24 : decode cX8_copyFrom 24 = .ok (.aload_n 0, 1) := by decide +kernel
theorem dX8_copyFrom_25 : decode cX8_copyFrom 25 = .ok (.aload_n 1, 1) := by decide +kernel
theorem dX8_copyFrom_26 : decode cX8_copyFrom 26 = .ok (.getfield 19, 3) := by decide +kernel
theorem dX8_copyFrom_29 : decode cX8_copyFrom 29 = .ok (.putfield 19, 3) := by decide +kernel
theorem dX8_copyFrom_32 : decode cX8_copyFrom 32 = .ok (.return_, 1) := by decide +kernel
theorem dX8_strength_0 : decode cX8_strength 0 = .ok (.aload_n 0, 1) := by decide +kernel
theorem dX8_strength_1 : decode cX8_strength 1 = .ok (.getfield 13, 3) := by decide +kernel
theorem dX8_strength_4 : decode cX8_strength 4 = .ok (.ifCond .le 15, 3) := by decide +kernel
theorem dX8_strength_7 : decode cX8_strength 7 = .ok (.aload_n 0, 1) := by decide +kernel
theorem dX8_strength_8 : decode cX8_strength 8 = .ok (.getfield 16, 3) := by decide +kernel
theorem dX8_strength_11 : decode cX8_strength 11 = .ok (.aload_n 0, 1) := by decide +kernel
theorem dX8_strength_12 : decode cX8_strength 12 = .ok (.getfield 13, 3) := by decide +kernel
theorem dX8_strength_15 : decode cX8_strength 15 = .ok (.idiv, 1) := by decide +kernel
theorem dX8_strength_16 : decode cX8_strength 16 = .ok (.goto 4, 3) := by decide +kernel
theorem dX8_strength_19 : decode cX8_strength 19 = .ok (.iconst 0, 1) := by decide +kernel
theorem dX8_strength_20 : decode cX8_strength 20 = .ok (.ireturn, 1) := by decide +kernel
theorem dX8_spoils_0 : decode cX8_spoils 0 = .ok (.aload_n 0, 1) := by decide +kernel
theorem dX8_spoils_1 : decode cX8_spoils 1 = .ok (.getfield 19, 3) := by decide +kernel
theorem dX8_spoils_4 : decode cX8_spoils 4 = .ok (.aload_n 1, 1) := by decide +kernel
theorem dX8_spoils_5 : decode cX8_spoils 5 = .ok (.iconst 2, 1) := by decide +kernel
theorem dX8_spoils_6 : decode cX8_spoils 6 = .ok (.invokevirtual 24, 3) := by decide +kernel
theorem dX8_spoils_9 : decode cX8_spoils 9 = .ok (.if_icmp .le 7, 3) := by decide +kernel
theorem dX8_spoils_12 : decode cX8_spoils 12 = .ok (.iconst 1, 1) := by decide +kernel
theorem dX8_spoils_13 : decode cX8_spoils 13 = .ok (.goto 4, 3) := by decide +kernel
theorem dX8_spoils_16 : decode cX8_spoils 16 = .ok (.iconst 0, 1) := by decide +kernel
theorem dX8_spoils_17 : decode cX8_spoils 17 = .ok (.ireturn, 1) := by decide +kernel
theorem dX8_isAheadOfLater_0 : decode cX8_isAheadOfLater 0 = .ok (.aload_n 0, 1) := by decide +kernel
theorem dX8_isAheadOfLater_1 : decode cX8_isAheadOfLater 1 = .ok (.invokevirtual 28, 3) := by decide +kernel
theorem dX8_isAheadOfLater_4 : decode cX8_isAheadOfLater 4 = .ok (.aload_n 1, 1) := by decide +kernel
theorem dX8_isAheadOfLater_5 : decode cX8_isAheadOfLater 5 = .ok (.invokevirtual 28, 3) := by decide +kernel
theorem dX8_isAheadOfLater_8 : decode cX8_isAheadOfLater 8 = .ok (.if_icmp .eq 20, 3) := by decide +kernel
theorem dX8_isAheadOfLater_11 : decode cX8_isAheadOfLater 11 = .ok (.aload_n 0, 1) := by decide +kernel
theorem dX8_isAheadOfLater_12 : decode cX8_isAheadOfLater 12 = .ok (.invokevirtual 28, 3) := by decide +kernel
theorem dX8_isAheadOfLater_15 : decode cX8_isAheadOfLater 15 = .ok (.aload_n 1, 1) := by decide +kernel
theorem dX8_isAheadOfLater_16 : decode cX8_isAheadOfLater 16 = .ok (.invokevirtual 28, 3) := by decide +kernel
theorem dX8_isAheadOfLater_19 : decode cX8_isAheadOfLater 19 = .ok (.if_icmp .le 7, 3) := by decide +kernel
theorem dX8_isAheadOfLater_22 : decode cX8_isAheadOfLater 22 = .ok (.iconst 1, 1) := by decide +kernel
theorem dX8_isAheadOfLater_23 : decode cX8_isAheadOfLater 23 = .ok (.goto 4, 3) := by decide +kernel
theorem dX8_isAheadOfLater_26 : decode cX8_isAheadOfLater 26 = .ok (.iconst 0, 1) := by decide +kernel
theorem dX8_isAheadOfLater_27 : decode cX8_isAheadOfLater 27 = .ok (.ireturn, 1) := by decide +kernel
theorem dX8_isAheadOfLater_28 : decode cX8_isAheadOfLater 28 = .ok (.aload_n 0, 1) := by decide +kernel
theorem dX8_isAheadOfLater_29 : decode cX8_isAheadOfLater 29 = .ok (.getfield 19, 3) := by decide +kernel
theorem dX8_isAheadOfLater_32 : decode cX8_isAheadOfLater 32 = .ok (.aload_n 1, 1) := by decide +kernel
theorem dX8_isAheadOfLater_33 : decode cX8_isAheadOfLater 33 = .ok (.getfield 19, 3) := by decide +kernel
theorem dX8_isAheadOfLater_36 : decode cX8_isAheadOfLater 36 = .ok (.if_icmp .gt 7, 3) := by decide +kernel
theorem dX8_isAheadOfLater_39 : decode cX8_isAheadOfLater 39 = .ok (.iconst 1, 1) := by decide +kernel
theorem dX8_isAheadOfLater_40 : decode cX8_isAheadOfLater 40 = .ok (.goto 4, 3) := by decide +kernel
theorem dX8_isAheadOfLater_43 : decode cX8_isAheadOfLater 43 = .ok (.iconst 0, 1) := by decide +kernel
theorem dX8_isAheadOfLater_44 : decode cX8_isAheadOfLater 44 = .ok (.ireturn, 1) := by decide +kernel
theorem dX9_init_0 : decode cX9_init 0 = .ok (.aload_n 0, 1) := by decide +kernel
theorem dX9_init_1 : decode cX9_init 1 = .ok (.invokespecial 1, 3) := by decide +kernel
theorem dX9_init_4 : decode cX9_init 4 = .ok (.aload_n 0, 1) := by decide +kernel
theorem dX9_init_5 : decode cX9_init 5 = .ok (.new 7, 3) := by decide +kernel
theorem dX9_init_8 : decode cX9_init 8 = .ok (.dup, 1) := by decide +kernel
theorem dX9_init_9 : decode cX9_init 9 = .ok (.invokespecial 9, 3) := by decide +kernel
theorem dX9_init_12 : decode cX9_init 12 = .ok (.putfield 10, 3) := by decide +kernel
theorem dX9_init_15 : decode cX9_init 15 = .ok (.aload_n 0, 1) := by decide +kernel
theorem dX9_init_16 : decode cX9_init 16 = .ok (.new 7, 3) := by decide +kernel
theorem dX9_init_19 : decode cX9_init 19 = .ok (.dup, 1) := by decide +kernel
theorem dX9_init_20 : decode cX9_init 20 = .ok (.invokespecial 9, 3) := by decide +kernel
theorem dX9_init_23 : decode cX9_init 23 = .ok (.putfield 16, 3) := by decide +kernel
theorem dX9_init_26 : decode cX9_init 26 = .ok (.aload_n 0, 1) := by decide +kernel
theorem dX9_init_27 : decode cX9_init 27 = .ok (.new 19, 3) := by decide +kernel
theorem dX9_init_30 : decode cX9_init 30 = .ok (.dup, 1) := by decide +kernel
theorem dX9_init_31 : decode cX9_init 31 = .ok (.invokespecial 21, 3) := by decide +kernel
theorem dX9_init_34 : decode cX9_init 34 = .ok (.putfield 22, 3) := by decide +kernel
theorem dX9_init_37 : decode cX9_init 37 = .ok (.aload_n 0, 1) := by decide +kernel
theorem dX9_init_38 : decode cX9_init 38 = .ok (.new 26, 3) := by decide +kernel
theorem dX9_init_41 : decode cX9_init 41 = .ok (.dup, 1) := by decide +kernel
theorem dX9_init_42 : decode cX9_init 42 = .ok (.invokespecial 28, 3) := by decide +kernel
theorem dX9_init_45 : decode cX9_init 45 = .ok (.putfield 29, 3) := by decide +kernel
theorem dX9_init_48 : decode cX9_init 48 = .ok (.aload_n 0, 1) := by decide +kernel
theorem dX9_init_49 : decode cX9_init 49 = .ok (.new 33, 3) := by decide +kernel
theorem dX9_init_52 : decode cX9_init 52 = .ok (.dup, 1) := by decide +kernel
theorem dX9_init_53 : decode cX9_init 53 = .ok (.invokespecial 35, 3) := by decide +kernel
theorem dX9_init_56 : decode cX9_init 56 = .ok (.putfield 36, 3) := by decide +kernel
theorem dX9_init_59 : decode cX9_init 59 = .ok (.aload_n 0, 1) := by decide +kernel
theorem dX9_init_60 : decode cX9_init 60 = .ok (.new 40, 3) := by decide +kernel
theorem dX9_init_63 : decode cX9_init 63 = .ok (.dup, 1) := by decide +kernel
theorem dX9_init_64 : decode cX9_init 64 = .ok (.invokespecial 42, 3) := by decide +kernel
theorem dX9_init_67 : decode cX9_init 67 = .ok (.putfield 43, 3) := by decide +kernel
theorem dX9_init_70 : decode cX9_init 70 = .ok (.return_, 1) := by decide +kernel
theorem dX9_vat_0 : decode cX9_vat 0 = .ok (.aload_n 0, 1) := by decide +kernel
theorem dX9_vat_1 : decode cX9_vat 1 = .ok (.getfield 22, 3) := by decide +kernel
theorem dX9_vat_4 : decode cX9_vat 4 = .ok (.aload_n 0, 1) := by decide +kernel
theorem dX9_vat_5 : decode cX9_vat 5 = .ok (.getfield 10, 3) := by decide +kernel
theorem dX9_vat_8 : decode cX9_vat 8 = .ok (.invokevirtual 47, 3) := by decide +kernel
theorem dX9_vat_11 : decode cX9_vat 11 = .ok (.aload_n 0, 1) := by decide +kernel
theorem dX9_vat_12 : decode cX9_vat 12 = .ok (.getfield 22, 3) := by decide +kernel
theorem dX9_vat_15 : decode cX9_vat 15 = .ok (.aload_n 0, 1) := by decide +kernel
theorem dX9_vat_16 : decode cX9_vat 16 = .ok (.getfield 10, 3) := by decide +kernel
theorem dX9_vat_19 : decode cX9_vat 19 = .ok (.iload_n 1, 1) := by decide +kernel
theorem dX9_vat_20 : decode cX9_vat 20 = .ok (.iload_n 2, 1) := by decide +kernel
theorem dX9_vat_21 : decode cX9_vat 21 = .ok (.invokevirtual 51, 3) := by decide +kernel
theorem dX9_vat_24 : decode cX9_vat 24 = .ok (.invokevirtual 55, 3) := by decide +kernel
theorem dX9_vat_27 : decode cX9_vat 27 = .ok (.ireturn, 1) := by decide +kernel
theorem dX9_weigh_0 : decode cX9_weigh 0 = .ok (.aload_n 0, 1) := by decide +kernel
theorem dX9_weigh_1 : decode cX9_weigh 1 = .ok (.getfield 22, 3) := by decide +kernel
theorem dX9_weigh_4 : decode cX9_weigh 4 = .ok (.aload_n 0, 1) := by decide +kernel
theorem dX9_weigh_5 : decode cX9_weigh 5 = .ok (.getfield 10, 3) := by decide +kernel
theorem dX9_weigh_8 : decode cX9_weigh 8 = .ok (.invokevirtual 47, 3) := by decide +kernel
theorem dX9_weigh_11 : decode cX9_weigh 11 = .ok (.aload_n 0, 1) := by decide +kernel
theorem dX9_weigh_12 : decode cX9_weigh 12 = .ok (.getfield 22, 3) := by decide +kernel
theorem dX9_weigh_15 : decode cX9_weigh 15 = .ok (.aload_n 0, 1) := by decide +kernel
theorem dX9_weigh_16 : decode cX9_weigh 16 = .ok (.getfield 10, 3) := by decide +kernel
theorem dX9_weigh_19 : decode cX9_weigh 19 = .ok (.iload_n 1, 1) := by decide +kernel
theorem dX9_weigh_20 : decode cX9_weigh 20 = .ok (.iload_n 2, 1) := by decide +kernel
theorem dX9_weigh_21 : decode cX9_weigh 21 = .ok (.invokevirtual 59, 3) := by decide +kernel
theorem dX9_weigh_24 : decode cX9_weigh 24 = .ok (.invokevirtual 55, 3) := by decide +kernel
theorem dX9_weigh_27 : decode cX9_weigh 27 = .ok (.ireturn, 1) := by decide +kernel
theorem dX9_drain_0 : decode cX9_drain 0 = .ok (.aload_n 0, 1) := by decide +kernel
theorem dX9_drain_1 : decode cX9_drain 1 = .ok (.getfield 22, 3) := by decide +kernel
theorem dX9_drain_4 : decode cX9_drain 4 = .ok (.aload_n 0, 1) := by decide +kernel
theorem dX9_drain_5 : decode cX9_drain 5 = .ok (.getfield 10, 3) := by decide +kernel
theorem dX9_drain_8 : decode cX9_drain 8 = .ok (.invokevirtual 47, 3) := by decide +kernel
theorem dX9_drain_11 : decode cX9_drain 11 = .ok (.aload_n 0, 1) := by decide +kernel
theorem dX9_drain_12 : decode cX9_drain 12 = .ok (.getfield 22, 3) := by decide +kernel
theorem dX9_drain_15 : decode cX9_drain 15 = .ok (.aload_n 0, 1) := by decide +kernel
theorem dX9_drain_16 : decode cX9_drain 16 = .ok (.getfield 10, 3) := by decide +kernel
theorem dX9_drain_19 : decode cX9_drain 19 = .ok (.iload_n 1, 1) := by decide +kernel
theorem dX9_drain_20 : decode cX9_drain 20 = .ok (.invokevirtual 62, 3) := by decide +kernel
theorem dX9_drain_23 : decode cX9_drain 23 = .ok (.invokevirtual 55, 3) := by decide +kernel
theorem dX9_drain_26 : decode cX9_drain 26 = .ok (.ireturn, 1) := by decide +kernel
theorem dX9_vatOf_0 : decode cX9_vatOf 0 = .ok (.aload_n 0, 1) := by decide +kernel
theorem dX9_vatOf_1 : decode cX9_vatOf 1 = .ok (.getfield 10, 3) := by decide +kernel
theorem dX9_vatOf_4 : decode cX9_vatOf 4 = .ok (.iload_n 1, 1) := by decide +kernel
theorem dX9_vatOf_5 : decode cX9_vatOf 5 = .ok (.invokevirtual 65, 3) := by decide +kernel
theorem dX9_vatOf_8 : decode cX9_vatOf 8 = .ok (.astore_n 3, 1) := by decide +kernel
theorem dX9_vatOf_9 : decode cX9_vatOf 9 = .ok (.aload_n 3, 1) := by decide +kernel
theorem dX9_vatOf_10 : decode cX9_vatOf 10 = .ok (.ifnonnull 5, 3) := by decide +kernel
theorem dX9_vatOf_13 : decode cX9_vatOf 13 = .ok (.iconst (-1), 1) := by decide +kernel
theorem dX9_vatOf_14 : decode cX9_vatOf 14 = .ok (.ireturn, 1) := by decide +kernel
theorem dX9_vatOf_15 : decode cX9_vatOf 15 = .ok (.iload_n 2, 1) := by decide +kernel
theorem dX9_vatOf_16 : decode cX9_vatOf 16 = .ok (.tableswitch 71 0 4 #[36, 41, 46, 51, 56], 36) := by decide +kernel
theorem dX9_vatOf_52 : decode cX9_vatOf 52 = .ok (.aload_n 3, 1) := by decide +kernel
theorem dX9_vatOf_53 : decode cX9_vatOf 53 = .ok (.getfield 69, 3) := by decide +kernel
theorem dX9_vatOf_56 : decode cX9_vatOf 56 = .ok (.ireturn, 1) := by decide +kernel
theorem dX9_vatOf_57 : decode cX9_vatOf 57 = .ok (.aload_n 3, 1) := by decide +kernel
theorem dX9_vatOf_58 : decode cX9_vatOf 58 = .ok (.getfield 75, 3) := by decide +kernel
theorem dX9_vatOf_61 : decode cX9_vatOf 61 = .ok (.ireturn, 1) := by decide +kernel
theorem dX9_vatOf_62 : decode cX9_vatOf 62 = .ok (.aload_n 3, 1) := by decide +kernel
theorem dX9_vatOf_63 : decode cX9_vatOf 63 = .ok (.getfield 78, 3) := by decide +kernel
theorem dX9_vatOf_66 : decode cX9_vatOf 66 = .ok (.ireturn, 1) := by decide +kernel
theorem dX9_vatOf_67 : decode cX9_vatOf 67 = .ok (.aload_n 3, 1) := by decide +kernel
theorem dX9_vatOf_68 : decode cX9_vatOf 68 = .ok (.getfield 81, 3) := by decide +kernel
theorem dX9_vatOf_71 : decode cX9_vatOf 71 = .ok (.ireturn, 1) := by decide +kernel
theorem dX9_vatOf_72 : decode cX9_vatOf 72 = .ok (.aload_n 3, 1) := by decide +kernel
theorem dX9_vatOf_73 : decode cX9_vatOf 73 = .ok (.aload_n 0, 1) := by decide +kernel
theorem dX9_vatOf_74 : decode cX9_vatOf 74 = .ok (.getfield 10, 3) := by decide +kernel
theorem dX9_vatOf_77 : decode cX9_vatOf 77 = .ok (.getfield 84, 3) := by decide +kernel
theorem dX9_vatOf_80 : decode cX9_vatOf 80 = .ok (.invokevirtual 88, 3) := by decide +kernel
theorem dX9_vatOf_83 : decode cX9_vatOf 83 = .ok (.invokestatic 92, 3) := by decide +kernel
theorem dX9_vatOf_86 : decode cX9_vatOf 86 = .ok (.ireturn, 1) := by decide +kernel
theorem dX9_vatOf_87 : decode cX9_vatOf 87 = .ok (.iconst (-1), 1) := by decide +kernel
theorem dX9_vatOf_88 : decode cX9_vatOf 88 = .ok (.ireturn, 1) := by decide +kernel
theorem dX9_vatAt_0 : decode cX9_vatAt 0 = .ok (.iload_n 1, 1) := by decide +kernel
theorem dX9_vatAt_1 : decode cX9_vatAt 1 = .ok (.ifCond .ge 5, 3) := by decide +kernel
theorem dX9_vatAt_4 : decode cX9_vatAt 4 = .ok (.iconst (-1), 1) := by decide +kernel
theorem dX9_vatAt_5 : decode cX9_vatAt 5 = .ok (.ireturn, 1) := by decide +kernel
theorem dX9_vatAt_6 : decode cX9_vatAt 6 = .ok (.iconst 0, 1) := by decide +kernel
theorem dX9_vatAt_7 : decode cX9_vatAt 7 = .ok (.istore_n 2, 1) := by decide +kernel
theorem dX9_vatAt_8 : decode cX9_vatAt 8 = .ok (.iload_n 2, 1) := by decide +kernel
theorem dX9_vatAt_9 : decode cX9_vatAt 9 = .ok (.aload_n 0, 1) := by decide +kernel
theorem dX9_vatAt_10 : decode cX9_vatAt 10 = .ok (.getfield 10, 3) := by decide +kernel
theorem dX9_vatAt_13 : decode cX9_vatAt 13 = .ok (.getfield 96, 3) := by decide +kernel
theorem dX9_vatAt_16 : decode cX9_vatAt 16 = .ok (.if_icmp .ge 23, 3) := by decide +kernel
theorem dX9_vatAt_19 : decode cX9_vatAt 19 = .ok (.aload_n 0, 1) := by decide +kernel
theorem dX9_vatAt_20 : decode cX9_vatAt 20 = .ok (.getfield 10, 3) := by decide +kernel
theorem dX9_vatAt_23 : decode cX9_vatAt 23 = .ok (.iload_n 2, 1) := by decide +kernel
theorem dX9_vatAt_24 : decode cX9_vatAt 24 = .ok (.invokevirtual 99, 3) := by decide +kernel
theorem dX9_vatAt_27 : decode cX9_vatAt 27 = .ok (.iload_n 1, 1) := by decide +kernel
theorem dX9_vatAt_28 : decode cX9_vatAt 28 = .ok (.if_icmp .ne 5, 3) := by decide +kernel
theorem dX9_vatAt_31 : decode cX9_vatAt 31 = .ok (.iload_n 2, 1) := by decide +kernel
theorem dX9_vatAt_32 : decode cX9_vatAt 32 = .ok (.ireturn, 1) := by decide +kernel
theorem dX9_vatAt_33 : decode cX9_vatAt 33 = .ok (.iinc 2 1, 3) := by decide +kernel
theorem dX9_vatAt_36 : decode cX9_vatAt 36 = .ok (.goto (-28), 3) := by decide +kernel
theorem dX9_vatAt_39 : decode cX9_vatAt 39 = .ok (.bipush (-4), 2) := by decide +kernel
theorem dX9_vatAt_41 : decode cX9_vatAt 41 = .ok (.ireturn, 1) := by decide +kernel
theorem dX9_lot_0 : decode cX9_lot 0 = .ok (.aload_n 0, 1) := by decide +kernel
theorem dX9_lot_1 : decode cX9_lot 1 = .ok (.getfield 22, 3) := by decide +kernel
theorem dX9_lot_4 : decode cX9_lot 4 = .ok (.aload_n 0, 1) := by decide +kernel
theorem dX9_lot_5 : decode cX9_lot 5 = .ok (.getfield 10, 3) := by decide +kernel
theorem dX9_lot_8 : decode cX9_lot 8 = .ok (.invokevirtual 47, 3) := by decide +kernel
theorem dX9_lot_11 : decode cX9_lot 11 = .ok (.aload_n 0, 1) := by decide +kernel
theorem dX9_lot_12 : decode cX9_lot 12 = .ok (.getfield 22, 3) := by decide +kernel
theorem dX9_lot_15 : decode cX9_lot 15 = .ok (.aload_n 0, 1) := by decide +kernel
theorem dX9_lot_16 : decode cX9_lot 16 = .ok (.getfield 10, 3) := by decide +kernel
theorem dX9_lot_19 : decode cX9_lot 19 = .ok (.iload_n 1, 1) := by decide +kernel
theorem dX9_lot_20 : decode cX9_lot 20 = .ok (.iload_n 2, 1) := by decide +kernel
theorem dX9_lot_21 : decode cX9_lot 21 = .ok (.invokevirtual 102, 3) := by decide +kernel
theorem dX9_lot_24 : decode cX9_lot 24 = .ok (.invokevirtual 55, 3) := by decide +kernel
theorem dX9_lot_27 : decode cX9_lot 27 = .ok (.ireturn, 1) := by decide +kernel
theorem dX9_dip_0 : decode cX9_dip 0 = .ok (.aload_n 0, 1) := by decide +kernel
theorem dX9_dip_1 : decode cX9_dip 1 = .ok (.getfield 22, 3) := by decide +kernel
theorem dX9_dip_4 : decode cX9_dip 4 = .ok (.aload_n 0, 1) := by decide +kernel
theorem dX9_dip_5 : decode cX9_dip 5 = .ok (.getfield 10, 3) := by decide +kernel
theorem dX9_dip_8 : decode cX9_dip 8 = .ok (.invokevirtual 47, 3) := by decide +kernel
theorem dX9_dip_11 : decode cX9_dip 11 = .ok (.aload_n 0, 1) := by decide +kernel
theorem dX9_dip_12 : decode cX9_dip 12 = .ok (.getfield 22, 3) := by decide +kernel
theorem dX9_dip_15 : decode cX9_dip 15 = .ok (.aload_n 0, 1) := by decide +kernel
theorem dX9_dip_16 : decode cX9_dip 16 = .ok (.getfield 10, 3) := by decide +kernel
theorem dX9_dip_19 : decode cX9_dip 19 = .ok (.iload_n 1, 1) := by decide +kernel
theorem dX9_dip_20 : decode cX9_dip 20 = .ok (.iload_n 2, 1) := by decide +kernel
theorem dX9_dip_21 : decode cX9_dip 21 = .ok (.invokevirtual 105, 3) := by decide +kernel
theorem dX9_dip_24 : decode cX9_dip 24 = .ok (.invokevirtual 55, 3) := by decide +kernel
theorem dX9_dip_27 : decode cX9_dip 27 = .ok (.ireturn, 1) := by decide +kernel
theorem dX9_rinse_0 : decode cX9_rinse 0 = .ok (.aload_n 0, 1) := by decide +kernel
theorem dX9_rinse_1 : decode cX9_rinse 1 = .ok (.getfield 22, 3) := by decide +kernel
theorem dX9_rinse_4 : decode cX9_rinse 4 = .ok (.aload_n 0, 1) := by decide +kernel
theorem dX9_rinse_5 : decode cX9_rinse 5 = .ok (.getfield 10, 3) := by decide +kernel
theorem dX9_rinse_8 : decode cX9_rinse 8 = .ok (.invokevirtual 47, 3) := by decide +kernel
theorem dX9_rinse_11 : decode cX9_rinse 11 = .ok (.aload_n 0, 1) := by decide +kernel
theorem dX9_rinse_12 : decode cX9_rinse 12 = .ok (.getfield 22, 3) := by decide +kernel
theorem dX9_rinse_15 : decode cX9_rinse 15 = .ok (.aload_n 0, 1) := by decide +kernel
theorem dX9_rinse_16 : decode cX9_rinse 16 = .ok (.getfield 10, 3) := by decide +kernel
theorem dX9_rinse_19 : decode cX9_rinse 19 = .ok (.iload_n 1, 1) := by decide +kernel
theorem dX9_rinse_20 : decode cX9_rinse 20 = .ok (.invokevirtual 108, 3) := by decide +kernel
theorem dX9_rinse_23 : decode cX9_rinse 23 = .ok (.invokevirtual 55, 3) := by decide +kernel
theorem dX9_rinse_26 : decode cX9_rinse 26 = .ok (.ireturn, 1) := by decide +kernel
theorem dX9_hang_0 : decode cX9_hang 0 = .ok (.aload_n 0, 1) := by decide +kernel
theorem dX9_hang_1 : decode cX9_hang 1 = .ok (.getfield 22, 3) := by decide +kernel
theorem dX9_hang_4 : decode cX9_hang 4 = .ok (.aload_n 0, 1) := by decide +kernel
theorem dX9_hang_5 : decode cX9_hang 5 = .ok (.getfield 10, 3) := by decide +kernel
theorem dX9_hang_8 : decode cX9_hang 8 = .ok (.invokevirtual 47, 3) := by decide +kernel
theorem dX9_hang_11 : decode cX9_hang 11 = .ok (.aload_n 0, 1) := by decide +kernel
theorem dX9_hang_12 : decode cX9_hang 12 = .ok (.getfield 22, 3) := by decide +kernel
theorem dX9_hang_15 : decode cX9_hang 15 = .ok (.aload_n 0, 1) := by decide +kernel
theorem dX9_hang_16 : decode cX9_hang 16 = .ok (.getfield 10, 3) := by decide +kernel
theorem dX9_hang_19 : decode cX9_hang 19 = .ok (.iload_n 1, 1) := by decide +kernel
theorem dX9_hang_20 : decode cX9_hang 20 = .ok (.iload_n 2, 1) := by decide +kernel
theorem dX9_hang_21 : decode cX9_hang 21 = .ok (.invokevirtual 111, 3) := by decide +kernel
theorem dX9_hang_24 : decode cX9_hang 24 = .ok (.invokevirtual 55, 3) := by decide +kernel
theorem dX9_hang_27 : decode cX9_hang 27 = .ok (.ireturn, 1) := by decide +kernel
theorem dX9_take_0 : decode cX9_take 0 = .ok (.aload_n 0, 1) := by decide +kernel
theorem dX9_take_1 : decode cX9_take 1 = .ok (.getfield 22, 3) := by decide +kernel
theorem dX9_take_4 : decode cX9_take 4 = .ok (.aload_n 0, 1) := by decide +kernel
theorem dX9_take_5 : decode cX9_take 5 = .ok (.getfield 10, 3) := by decide +kernel
theorem dX9_take_8 : decode cX9_take 8 = .ok (.invokevirtual 47, 3) := by decide +kernel
theorem dX9_take_11 : decode cX9_take 11 = .ok (.aload_n 0, 1) := by decide +kernel
theorem dX9_take_12 : decode cX9_take 12 = .ok (.getfield 22, 3) := by decide +kernel
theorem dX9_take_15 : decode cX9_take 15 = .ok (.aload_n 0, 1) := by decide +kernel
theorem dX9_take_16 : decode cX9_take 16 = .ok (.getfield 10, 3) := by decide +kernel
theorem dX9_take_19 : decode cX9_take 19 = .ok (.iload_n 1, 1) := by decide +kernel
theorem dX9_take_20 : decode cX9_take 20 = .ok (.invokevirtual 114, 3) := by decide +kernel
theorem dX9_take_23 : decode cX9_take 23 = .ok (.invokevirtual 55, 3) := by decide +kernel
theorem dX9_take_26 : decode cX9_take 26 = .ok (.ireturn, 1) := by decide +kernel
theorem dX9_lotOf_0 : decode cX9_lotOf 0 = .ok (.aload_n 0, 1) := by decide +kernel
theorem dX9_lotOf_1 : decode cX9_lotOf 1 = .ok (.getfield 10, 3) := by decide +kernel
theorem dX9_lotOf_4 : decode cX9_lotOf 4 = .ok (.iload_n 1, 1) := by decide +kernel
theorem dX9_lotOf_5 : decode cX9_lotOf 5 = .ok (.invokevirtual 117, 3) := by decide +kernel
theorem dX9_lotOf_8 : decode cX9_lotOf 8 = .ok (.astore_n 3, 1) := by decide +kernel
theorem dX9_lotOf_9 : decode cX9_lotOf 9 = .ok (.aload_n 3, 1) := by decide +kernel
theorem dX9_lotOf_10 : decode cX9_lotOf 10 = .ok (.ifnonnull 5, 3) := by decide +kernel
theorem dX9_lotOf_13 : decode cX9_lotOf 13 = .ok (.iconst (-1), 1) := by decide +kernel
theorem dX9_lotOf_14 : decode cX9_lotOf 14 = .ok (.ireturn, 1) := by decide +kernel
theorem dX9_lotOf_15 : decode cX9_lotOf 15 = .ok (.iload_n 2, 1) := by decide +kernel
theorem dX9_lotOf_16 : decode cX9_lotOf 16 = .ok (.tableswitch 133 0 9 #[56, 61, 66, 71, 79, 87, 95, 103, 111, 128], 56) := by decide +kernel
theorem dX9_lotOf_72 : decode cX9_lotOf 72 = .ok (.aload_n 3, 1) := by decide +kernel
theorem dX9_lotOf_73 : decode cX9_lotOf 73 = .ok (.getfield 121, 3) := by decide +kernel
theorem dX9_lotOf_76 : decode cX9_lotOf 76 = .ok (.ireturn, 1) := by decide +kernel
theorem dX9_lotOf_77 : decode cX9_lotOf 77 = .ok (.aload_n 3, 1) := by decide +kernel
theorem dX9_lotOf_78 : decode cX9_lotOf 78 = .ok (.getfield 126, 3) := by decide +kernel
theorem dX9_lotOf_81 : decode cX9_lotOf 81 = .ok (.ireturn, 1) := by decide +kernel
theorem dX9_lotOf_82 : decode cX9_lotOf 82 = .ok (.aload_n 3, 1) := by decide +kernel
theorem dX9_lotOf_83 : decode cX9_lotOf 83 = .ok (.invokevirtual 129, 3) := by decide +kernel
theorem dX9_lotOf_86 : decode cX9_lotOf 86 = .ok (.ireturn, 1) := by decide +kernel
theorem dX9_lotOf_87 : decode cX9_lotOf 87 = .ok (.aload_n 3, 1) := by decide +kernel
theorem dX9_lotOf_88 : decode cX9_lotOf 88 = .ok (.getfield 133, 3) := by decide +kernel
theorem dX9_lotOf_91 : decode cX9_lotOf 91 = .ok (.invokestatic 137, 3) := by decide +kernel
theorem dX9_lotOf_94 : decode cX9_lotOf 94 = .ok (.ireturn, 1) := by decide +kernel
theorem dX9_lotOf_95 : decode cX9_lotOf 95 = .ok (.aload_n 3, 1) := by decide +kernel
theorem dX9_lotOf_96 : decode cX9_lotOf 96 = .ok (.getfield 141, 3) := by decide +kernel
theorem dX9_lotOf_99 : decode cX9_lotOf 99 = .ok (.invokestatic 137, 3) := by decide +kernel
theorem dX9_lotOf_102 : decode cX9_lotOf 102 = .ok (.ireturn, 1) := by decide +kernel
theorem dX9_lotOf_103 : decode cX9_lotOf 103 = .ok (.aload_n 3, 1) := by decide +kernel
theorem dX9_lotOf_104 : decode cX9_lotOf 104 = .ok (.getfield 144, 3) := by decide +kernel
theorem dX9_lotOf_107 : decode cX9_lotOf 107 = .ok (.invokestatic 92, 3) := by decide +kernel
theorem dX9_lotOf_110 : decode cX9_lotOf 110 = .ok (.ireturn, 1) := by decide +kernel
theorem dX9_lotOf_111 : decode cX9_lotOf 111 = .ok (.aload_n 3, 1) := by decide +kernel
theorem dX9_lotOf_112 : decode cX9_lotOf 112 = .ok (.getfield 148, 3) := by decide +kernel
theorem dX9_lotOf_115 : decode cX9_lotOf 115 = .ok (.invokestatic 92, 3) := by decide +kernel
theorem dX9_lotOf_118 : decode cX9_lotOf 118 = .ok (.ireturn, 1) := by decide +kernel
theorem dX9_lotOf_119 : decode cX9_lotOf 119 = .ok (.aload_n 3, 1) := by decide +kernel
theorem dX9_lotOf_120 : decode cX9_lotOf 120 = .ok (.getfield 151, 3) := by decide +kernel
theorem dX9_lotOf_123 : decode cX9_lotOf 123 = .ok (.invokestatic 92, 3) := by decide +kernel
theorem dX9_lotOf_126 : decode cX9_lotOf 126 = .ok (.ireturn, 1) := by decide +kernel
theorem dX9_lotOf_127 : decode cX9_lotOf 127 = .ok (.aload_n 3, 1) := by decide +kernel
theorem dX9_lotOf_128 : decode cX9_lotOf 128 = .ok (.invokevirtual 154, 3) := by decide +kernel
theorem dX9_lotOf_131 : decode cX9_lotOf 131 = .ok (.ifCond .eq 10, 3) := by decide +kernel
theorem dX9_lotOf_134 : decode cX9_lotOf 134 = .ok (.aload_n 3, 1) := by decide +kernel
theorem dX9_lotOf_135 : decode cX9_lotOf 135 = .ok (.getfield 158, 3) := by decide +kernel
theorem dX9_lotOf_138 : decode cX9_lotOf 138 = .ok (.goto 5, 3) := by decide +kernel
theorem dX9_lotOf_141 : decode cX9_lotOf 141 = .ok (.bipush (-4), 2) := by decide +kernel
theorem dX9_lotOf_143 : decode cX9_lotOf 143 = .ok (.ireturn, 1) := by decide +kernel
theorem dX9_lotOf_144 : decode cX9_lotOf 144 = .ok (.aload_n 3, 1) := by decide +kernel
theorem dX9_lotOf_145 : decode cX9_lotOf 145 = .ok (.getfield 161, 3) := by decide +kernel
theorem dX9_lotOf_148 : decode cX9_lotOf 148 = .ok (.ireturn, 1) := by decide +kernel
theorem dX9_lotOf_149 : decode cX9_lotOf 149 = .ok (.iconst (-1), 1) := by decide +kernel
theorem dX9_lotOf_150 : decode cX9_lotOf 150 = .ok (.ireturn, 1) := by decide +kernel
theorem dX9_shade_0 : decode cX9_shade 0 = .ok (.aload_n 0, 1) := by decide +kernel
theorem dX9_shade_1 : decode cX9_shade 1 = .ok (.getfield 10, 3) := by decide +kernel
theorem dX9_shade_4 : decode cX9_shade 4 = .ok (.iload_n 1, 1) := by decide +kernel
theorem dX9_shade_5 : decode cX9_shade 5 = .ok (.invokevirtual 117, 3) := by decide +kernel
theorem dX9_shade_8 : decode cX9_shade 8 = .ok (.astore_n 3, 1) := by decide +kernel
theorem dX9_shade_9 : decode cX9_shade 9 = .ok (.aload_n 3, 1) := by decide +kernel
theorem dX9_shade_10 : decode cX9_shade 10 = .ok (.ifnull 10, 3) := by decide +kernel
theorem dX9_shade_13 : decode cX9_shade 13 = .ok (.iload_n 2, 1) := by decide +kernel
theorem dX9_shade_14 : decode cX9_shade 14 = .ok (.invokestatic 164, 3) := by decide +kernel
theorem dX9_shade_17 : decode cX9_shade 17 = .ok (.ifCond .ne 5, 3) := by decide +kernel
theorem dX9_shade_20 : decode cX9_shade 20 = .ok (.iconst (-1), 1) := by decide +kernel
theorem dX9_shade_21 : decode cX9_shade 21 = .ok (.ireturn, 1) := by decide +kernel
theorem dX9_shade_22 : decode cX9_shade 22 = .ok (.aload_n 3, 1) := by decide +kernel
theorem dX9_shade_23 : decode cX9_shade 23 = .ok (.iload_n 2, 1) := by decide +kernel
theorem dX9_shade_24 : decode cX9_shade 24 = .ok (.invokevirtual 168, 3) := by decide +kernel
theorem dX9_shade_27 : decode cX9_shade 27 = .ok (.ireturn, 1) := by decide +kernel
theorem dX9_shadeBits_0 : decode cX9_shadeBits 0 = .ok (.aload_n 0, 1) := by decide +kernel
theorem dX9_shadeBits_1 : decode cX9_shadeBits 1 = .ok (.getfield 10, 3) := by decide +kernel
theorem dX9_shadeBits_4 : decode cX9_shadeBits 4 = .ok (.iload_n 1, 1) := by decide +kernel
theorem dX9_shadeBits_5 : decode cX9_shadeBits 5 = .ok (.invokevirtual 117, 3) := by decide +kernel
theorem dX9_shadeBits_8 : decode cX9_shadeBits 8 = .ok (.astore_n 3, 1) := by decide +kernel
theorem dX9_shadeBits_9 : decode cX9_shadeBits 9 = .ok (.aload_n 3, 1) := by decide +kernel
theorem dX9_shadeBits_10 : decode cX9_shadeBits 10 = .ok (.ifnull 10, 3) := by decide +kernel
theorem dX9_shadeBits_13 : decode cX9_shadeBits 13 = .ok (.iload_n 2, 1) := by decide +kernel
theorem dX9_shadeBits_14 : decode cX9_shadeBits 14 = .ok (.invokestatic 164, 3) := by decide +kernel
theorem dX9_shadeBits_17 : decode cX9_shadeBits 17 = .ok (.ifCond .ne 5, 3) := by decide +kernel
theorem dX9_shadeBits_20 : decode cX9_shadeBits 20 = .ok (.iconst (-1), 1) := by decide +kernel
theorem dX9_shadeBits_21 : decode cX9_shadeBits 21 = .ok (.ireturn, 1) := by decide +kernel
theorem dX9_shadeBits_22 : decode cX9_shadeBits 22 = .ok (.aload_n 3, 1) := by decide +kernel
theorem dX9_shadeBits_23 : decode cX9_shadeBits 23 = .ok (.iload_n 2, 1) := by decide +kernel
theorem dX9_shadeBits_24 : decode cX9_shadeBits 24 = .ok (.invokevirtual 171, 3) := by decide +kernel
theorem dX9_shadeBits_27 : decode cX9_shadeBits 27 = .ok (.invokestatic 175, 3) := by decide +kernel
theorem dX9_shadeBits_30 : decode cX9_shadeBits 30 = .ok (.ireturn, 1) := by decide +kernel
theorem dX9_meanBits_0 : decode cX9_meanBits 0 = .ok (.iload_n 1, 1) := by decide +kernel
theorem dX9_meanBits_1 : decode cX9_meanBits 1 = .ok (.invokestatic 164, 3) := by decide +kernel
theorem dX9_meanBits_4 : decode cX9_meanBits 4 = .ok (.ifCond .ne 5, 3) := by decide +kernel
theorem dX9_meanBits_7 : decode cX9_meanBits 7 = .ok (.iconst (-1), 1) := by decide +kernel
theorem dX9_meanBits_8 : decode cX9_meanBits 8 = .ok (.ireturn, 1) := by decide +kernel
theorem dX9_meanBits_9 : decode cX9_meanBits 9 = .ok (.dconst 0, 1) := by decide +kernel
theorem dX9_meanBits_10 : decode cX9_meanBits 10 = .ok (.dstore_n 2, 1) := by decide +kernel
theorem dX9_meanBits_11 : decode cX9_meanBits 11 = .ok (.iconst 0, 1) := by decide +kernel
theorem dX9_meanBits_12 : decode cX9_meanBits 12 = .ok (.istore 4, 2) := by decide +kernel
theorem dX9_meanBits_14 : decode cX9_meanBits 14 = .ok (.iconst 0, 1) := by decide +kernel
theorem dX9_meanBits_15 : decode cX9_meanBits 15 = .ok (.istore 5, 2) := by decide +kernel
theorem dX9_meanBits_17 : decode cX9_meanBits 17 = .ok (.iload 5, 2) := by decide +kernel
theorem dX9_meanBits_19 : decode cX9_meanBits 19 = .ok (.aload_n 0, 1) := by decide +kernel
theorem dX9_meanBits_20 : decode cX9_meanBits 20 = .ok (.getfield 10, 3) := by decide +kernel
theorem dX9_meanBits_23 : decode cX9_meanBits 23 = .ok (.getfield 179, 3) := by decide +kernel
theorem dX9_meanBits_26 : decode cX9_meanBits 26 = .ok (.if_icmp .ge 46, 3) := by decide +kernel
theorem dX9_meanBits_29 : decode cX9_meanBits 29 = .ok (.aload_n 0, 1) := by decide +kernel
theorem dX9_meanBits_30 : decode cX9_meanBits 30 = .ok (.getfield 10, 3) := by decide +kernel
theorem dX9_meanBits_33 : decode cX9_meanBits 33 = .ok (.iload 5, 2) := by decide +kernel
theorem dX9_meanBits_35 : decode cX9_meanBits 35 = .ok (.invokevirtual 117, 3) := by decide +kernel
theorem dX9_meanBits_38 : decode cX9_meanBits 38 = .ok (.astore 6, 2) := by decide +kernel
theorem dX9_meanBits_40 : decode cX9_meanBits 40 = .ok (.aload 6, 2) := by decide +kernel
theorem dX9_meanBits_42 : decode cX9_meanBits 42 = .ok (.ifnull 24, 3) := by decide +kernel
theorem dX9_meanBits_45 : decode cX9_meanBits 45 = .ok (.aload 6, 2) := by decide +kernel
theorem dX9_meanBits_47 : decode cX9_meanBits 47 = .ok (.invokevirtual 154, 3) := by decide +kernel
theorem dX9_meanBits_50 : decode cX9_meanBits 50 = .ok (.ifCond .ne 16, 3) := by decide +kernel
theorem dX9_meanBits_53 : decode cX9_meanBits 53 = .ok (.dload_n 2, 1) := by decide +kernel
theorem dX9_meanBits_54 : decode cX9_meanBits 54 = .ok (.aload 6, 2) := by decide +kernel
theorem dX9_meanBits_56 : decode cX9_meanBits 56 = .ok (.iload_n 1, 1) := by decide +kernel
theorem dX9_meanBits_57 : decode cX9_meanBits 57 = .ok (.invokevirtual 171, 3) := by decide +kernel
theorem dX9_meanBits_60 : decode cX9_meanBits 60 = .ok (.f2d, 1) := by decide +kernel
theorem dX9_meanBits_61 : decode cX9_meanBits 61 = .ok (.dadd, 1) := by decide +kernel
theorem dX9_meanBits_62 : decode cX9_meanBits 62 = .ok (.dstore_n 2, 1) := by decide +kernel
theorem dX9_meanBits_63 : decode cX9_meanBits 63 = .ok (.iinc 4 1, 3) := by decide +kernel
theorem dX9_meanBits_66 : decode cX9_meanBits 66 = .ok (.iinc 5 1, 3) := by decide +kernel
theorem dX9_meanBits_69 : decode cX9_meanBits 69 = .ok (.goto (-52), 3) := by decide +kernel
theorem dX9_meanBits_72 : decode cX9_meanBits 72 = .ok (.iload 4, 2) := by decide +kernel
theorem dX9_meanBits_74 : decode cX9_meanBits 74 = .ok (.ifCond .gt 6, 3) := by decide +kernel
theorem dX9_meanBits_77 : decode cX9_meanBits 77 = .ok (.bipush (-4), 2) := by decide +kernel
theorem dX9_meanBits_79 : decode cX9_meanBits 79 = .ok (.ireturn, 1) := by decide +kernel
theorem dX9_meanBits_80 : decode cX9_meanBits 80 = .ok (.dload_n 2, 1) := by decide +kernel
theorem dX9_meanBits_81 : decode cX9_meanBits 81 = .ok (.iload 4, 2) := by decide +kernel
theorem dX9_meanBits_83 : decode cX9_meanBits 83 = .ok (.i2d, 1) := by decide +kernel
theorem dX9_meanBits_84 : decode cX9_meanBits 84 = .ok (.ddiv, 1) := by decide +kernel
theorem dX9_meanBits_85 : decode cX9_meanBits 85 = .ok (.d2f, 1) := by decide +kernel
theorem dX9_meanBits_86 : decode cX9_meanBits 86 = .ok (.invokestatic 175, 3) := by decide +kernel
theorem dX9_meanBits_89 : decode cX9_meanBits 89 = .ok (.ireturn, 1) := by decide +kernel
theorem dX9_order_0 : decode cX9_order 0 = .ok (.aload_n 0, 1) := by decide +kernel
theorem dX9_order_1 : decode cX9_order 1 = .ok (.getfield 22, 3) := by decide +kernel
theorem dX9_order_4 : decode cX9_order 4 = .ok (.aload_n 0, 1) := by decide +kernel
theorem dX9_order_5 : decode cX9_order 5 = .ok (.getfield 10, 3) := by decide +kernel
theorem dX9_order_8 : decode cX9_order 8 = .ok (.invokevirtual 47, 3) := by decide +kernel
theorem dX9_order_11 : decode cX9_order 11 = .ok (.aload_n 0, 1) := by decide +kernel
theorem dX9_order_12 : decode cX9_order 12 = .ok (.getfield 22, 3) := by decide +kernel
theorem dX9_order_15 : decode cX9_order 15 = .ok (.aload_n 0, 1) := by decide +kernel
theorem dX9_order_16 : decode cX9_order 16 = .ok (.getfield 10, 3) := by decide +kernel
theorem dX9_order_19 : decode cX9_order 19 = .ok (.iload_n 1, 1) := by decide +kernel
theorem dX9_order_20 : decode cX9_order 20 = .ok (.iload_n 2, 1) := by decide +kernel
theorem dX9_order_21 : decode cX9_order 21 = .ok (.iload_n 3, 1) := by decide +kernel
theorem dX9_order_22 : decode cX9_order 22 = .ok (.iload 4, 2) := by decide +kernel
theorem dX9_order_24 : decode cX9_order 24 = .ok (.invokevirtual 182, 3) := by decide +kernel
theorem dX9_order_27 : decode cX9_order 27 = .ok (.invokevirtual 55, 3) := by decide +kernel
theorem dX9_order_30 : decode cX9_order 30 = .ok (.ireturn, 1) := by decide +kernel
theorem dX9_sell_0 : decode cX9_sell 0 = .ok (.aload_n 0, 1) := by decide +kernel
theorem dX9_sell_1 : decode cX9_sell 1 = .ok (.getfield 22, 3) := by decide +kernel
theorem dX9_sell_4 : decode cX9_sell 4 = .ok (.aload_n 0, 1) := by decide +kernel
theorem dX9_sell_5 : decode cX9_sell 5 = .ok (.getfield 10, 3) := by decide +kernel
theorem dX9_sell_8 : decode cX9_sell 8 = .ok (.invokevirtual 47, 3) := by decide +kernel
theorem dX9_sell_11 : decode cX9_sell 11 = .ok (.aload_n 0, 1) := by decide +kernel
theorem dX9_sell_12 : decode cX9_sell 12 = .ok (.getfield 22, 3) := by decide +kernel
theorem dX9_sell_15 : decode cX9_sell 15 = .ok (.aload_n 0, 1) := by decide +kernel
theorem dX9_sell_16 : decode cX9_sell 16 = .ok (.getfield 10, 3) := by decide +kernel
theorem dX9_sell_19 : decode cX9_sell 19 = .ok (.iload_n 1, 1) := by decide +kernel
theorem dX9_sell_20 : decode cX9_sell 20 = .ok (.iload_n 2, 1) := by decide +kernel
theorem dX9_sell_21 : decode cX9_sell 21 = .ok (.invokevirtual 186, 3) := by decide +kernel
theorem dX9_sell_24 : decode cX9_sell 24 = .ok (.invokevirtual 55, 3) := by decide +kernel
theorem dX9_sell_27 : decode cX9_sell 27 = .ok (.ireturn, 1) := by decide +kernel
theorem dX9_orderOf_0 : decode cX9_orderOf 0 = .ok (.aload_n 0, 1) := by decide +kernel
theorem dX9_orderOf_1 : decode cX9_orderOf 1 = .ok (.getfield 10, 3) := by decide +kernel
theorem dX9_orderOf_4 : decode cX9_orderOf 4 = .ok (.iload_n 1, 1) := by decide +kernel
theorem dX9_orderOf_5 : decode cX9_orderOf 5 = .ok (.invokevirtual 189, 3) := by decide +kernel
theorem dX9_orderOf_8 : decode cX9_orderOf 8 = .ok (.astore_n 3, 1) := by decide +kernel
theorem dX9_orderOf_9 : decode cX9_orderOf 9 = .ok (.aload_n 3, 1) := by decide +kernel
theorem dX9_orderOf_10 : decode cX9_orderOf 10 = .ok (.ifnonnull 5, 3) := by decide +kernel
theorem dX9_orderOf_13 : decode cX9_orderOf 13 = .ok (.iconst (-1), 1) := by decide +kernel
theorem dX9_orderOf_14 : decode cX9_orderOf 14 = .ok (.ireturn, 1) := by decide +kernel
theorem dX9_orderOf_15 : decode cX9_orderOf 15 = .ok (.iload_n 2, 1) := by decide +kernel
theorem dX9_orderOf_16 : decode cX9_orderOf 16 = .ok (.invokestatic 164, 3) := by decide +kernel
theorem dX9_orderOf_19 : decode cX9_orderOf 19 = .ok (.ifCond .eq 9, 3) := by decide +kernel
theorem dX9_orderOf_22 : decode cX9_orderOf 22 = .ok (.aload_n 3, 1) := by decide +kernel
theorem dX9_orderOf_23 : decode cX9_orderOf 23 = .ok (.iload_n 2, 1) := by decide +kernel
theorem dX9_orderOf_24 : decode cX9_orderOf 24 = .ok (.invokevirtual 193, 3) := by decide +kernel
theorem dX9_orderOf_27 : decode cX9_orderOf 27 = .ok (.ireturn, 1) := by decide +kernel
theorem dX9_orderOf_28 : decode cX9_orderOf 28 = .ok (.iload_n 2, 1) := by decide +kernel
theorem dX9_orderOf_29 : decode cX9_orderOf 29 = .ok (.tableswitch 53 4 6 #[27, 35, 44], 27) := by decide +kernel
theorem dX9_orderOf_56 : decode cX9_orderOf 56 = .ok (.aload_n 3, 1) := by decide +kernel
theorem dX9_orderOf_57 : decode cX9_orderOf 57 = .ok (.getfield 198, 3) := by decide +kernel
theorem dX9_orderOf_60 : decode cX9_orderOf 60 = .ok (.invokestatic 92, 3) := by decide +kernel
theorem dX9_orderOf_63 : decode cX9_orderOf 63 = .ok (.ireturn, 1) := by decide +kernel
theorem dX9_orderOf_64 : decode cX9_orderOf 64 = .ok (.aload_n 0, 1) := by decide +kernel
theorem dX9_orderOf_65 : decode cX9_orderOf 65 = .ok (.getfield 10, 3) := by decide +kernel
theorem dX9_orderOf_68 : decode cX9_orderOf 68 = .ok (.aload_n 3, 1) := by decide +kernel
theorem dX9_orderOf_69 : decode cX9_orderOf 69 = .ok (.invokevirtual 201, 3) := by decide +kernel
theorem dX9_orderOf_72 : decode cX9_orderOf 72 = .ok (.ireturn, 1) := by decide +kernel
theorem dX9_orderOf_73 : decode cX9_orderOf 73 = .ok (.aload_n 0, 1) := by decide +kernel
theorem dX9_orderOf_74 : decode cX9_orderOf 74 = .ok (.getfield 10, 3) := by decide +kernel
theorem dX9_orderOf_77 : decode cX9_orderOf 77 = .ok (.aload_n 3, 1) := by decide +kernel
theorem dX9_orderOf_78 : decode cX9_orderOf 78 = .ok (.invokevirtual 205, 3) := by decide +kernel
theorem dX9_orderOf_81 : decode cX9_orderOf 81 = .ok (.ireturn, 1) := by decide +kernel
theorem dX9_orderOf_82 : decode cX9_orderOf 82 = .ok (.iconst (-1), 1) := by decide +kernel
theorem dX9_orderOf_83 : decode cX9_orderOf 83 = .ok (.ireturn, 1) := by decide +kernel
theorem dX9_match_0 : decode cX9_match 0 = .ok (.aload_n 0, 1) := by decide +kernel
theorem dX9_match_1 : decode cX9_match 1 = .ok (.getfield 10, 3) := by decide +kernel
theorem dX9_match_4 : decode cX9_match 4 = .ok (.iload_n 1, 1) := by decide +kernel
theorem dX9_match_5 : decode cX9_match 5 = .ok (.invokevirtual 117, 3) := by decide +kernel
theorem dX9_match_8 : decode cX9_match 8 = .ok (.astore_n 3, 1) := by decide +kernel
theorem dX9_match_9 : decode cX9_match 9 = .ok (.aload_n 0, 1) := by decide +kernel
theorem dX9_match_10 : decode cX9_match 10 = .ok (.getfield 10, 3) := by decide +kernel
theorem dX9_match_13 : decode cX9_match 13 = .ok (.iload_n 2, 1) := by decide +kernel
theorem dX9_match_14 : decode cX9_match 14 = .ok (.invokevirtual 117, 3) := by decide +kernel
theorem dX9_match_17 : decode cX9_match 17 = .ok (.astore 4, 2) := by decide +kernel
theorem dX9_match_19 : decode cX9_match 19 = .ok (.aload_n 3, 1) := by decide +kernel
theorem dX9_match_20 : decode cX9_match 20 = .ok (.ifnull 8, 3) := by decide +kernel
theorem dX9_match_23 : decode cX9_match 23 = .ok (.aload 4, 2) := by decide +kernel
theorem dX9_match_25 : decode cX9_match 25 = .ok (.ifnonnull 5, 3) := by decide +kernel
theorem dX9_match_28 : decode cX9_match 28 = .ok (.iconst (-1), 1) := by decide +kernel
theorem dX9_match_29 : decode cX9_match 29 = .ok (.ireturn, 1) := by decide +kernel
theorem dX9_match_30 : decode cX9_match 30 = .ok (.aload_n 0, 1) := by decide +kernel
theorem dX9_match_31 : decode cX9_match 31 = .ok (.getfield 10, 3) := by decide +kernel
theorem dX9_match_34 : decode cX9_match 34 = .ok (.getfield 84, 3) := by decide +kernel
theorem dX9_match_37 : decode cX9_match 37 = .ok (.iconst 4, 1) := by decide +kernel
theorem dX9_match_38 : decode cX9_match 38 = .ok (.invokevirtual 210, 3) := by decide +kernel
theorem dX9_match_41 : decode cX9_match 41 = .ok (.istore 5, 2) := by decide +kernel
theorem dX9_match_43 : decode cX9_match 43 = .ok (.iconst 0, 1) := by decide +kernel
theorem dX9_match_44 : decode cX9_match 44 = .ok (.istore 6, 2) := by decide +kernel
theorem dX9_match_46 : decode cX9_match 46 = .ok (.iload 6, 2) := by decide +kernel
theorem dX9_match_48 : decode cX9_match 48 = .ok (.iconst 4, 1) := by decide +kernel
theorem dX9_match_49 : decode cX9_match 49 = .ok (.if_icmp .ge 32, 3) := by decide +kernel
theorem dX9_match_52 : decode cX9_match 52 = .ok (.aload_n 3, 1) := by decide +kernel
theorem dX9_match_53 : decode cX9_match 53 = .ok (.iload 6, 2) := by decide +kernel
theorem dX9_match_55 : decode cX9_match 55 = .ok (.invokevirtual 168, 3) := by decide +kernel
theorem dX9_match_58 : decode cX9_match 58 = .ok (.aload 4, 2) := by decide +kernel
theorem dX9_match_60 : decode cX9_match 60 = .ok (.iload 6, 2) := by decide +kernel
theorem dX9_match_62 : decode cX9_match 62 = .ok (.invokevirtual 168, 3) := by decide +kernel
theorem dX9_match_65 : decode cX9_match 65 = .ok (.invokestatic 213, 3) := by decide +kernel
theorem dX9_match_68 : decode cX9_match 68 = .ok (.iload 5, 2) := by decide +kernel
theorem dX9_match_70 : decode cX9_match 70 = .ok (.if_icmp .le 5, 3) := by decide +kernel
theorem dX9_match_73 : decode cX9_match 73 = .ok (.iconst 0, 1) := by decide +kernel
theorem dX9_match_74 : decode cX9_match 74 = .ok (.ireturn, 1) := by decide +kernel
theorem dX9_match_75 : decode cX9_match 75 = .ok (.iinc 6 1, 3) := by decide +kernel
theorem dX9_match_78 : decode cX9_match 78 = .ok (.goto (-32), 3) := by decide +kernel
theorem dX9_match_81 : decode cX9_match 81 = .ok (.iconst 1, 1) := by decide +kernel
theorem dX9_match_82 : decode cX9_match 82 = .ok (.ireturn, 1) := by decide +kernel
theorem dX9_alike_0 : decode cX9_alike 0 = .ok (.iload_n 1, 1) := by decide +kernel
theorem dX9_alike_1 : decode cX9_alike 1 = .ok (.invokestatic 164, 3) := by decide +kernel
theorem dX9_alike_4 : decode cX9_alike 4 = .ok (.ifCond .ne 5, 3) := by decide +kernel
theorem dX9_alike_7 : decode cX9_alike 7 = .ok (.iconst (-1), 1) := by decide +kernel
theorem dX9_alike_8 : decode cX9_alike 8 = .ok (.ireturn, 1) := by decide +kernel
theorem dX9_alike_9 : decode cX9_alike 9 = .ok (.iconst 0, 1) := by decide +kernel
theorem dX9_alike_10 : decode cX9_alike 10 = .ok (.istore_n 2, 1) := by decide +kernel
theorem dX9_alike_11 : decode cX9_alike 11 = .ok (.iconst 0, 1) := by decide +kernel
theorem dX9_alike_12 : decode cX9_alike 12 = .ok (.istore_n 3, 1) := by decide +kernel
theorem dX9_alike_13 : decode cX9_alike 13 = .ok (.iload_n 3, 1) := by decide +kernel
theorem dX9_alike_14 : decode cX9_alike 14 = .ok (.aload_n 0, 1) := by decide +kernel
theorem dX9_alike_15 : decode cX9_alike 15 = .ok (.getfield 10, 3) := by decide +kernel
theorem dX9_alike_18 : decode cX9_alike 18 = .ok (.getfield 179, 3) := by decide +kernel
theorem dX9_alike_21 : decode cX9_alike 21 = .ok (.if_icmp .ge 61, 3) := by decide +kernel
theorem dX9_alike_24 : decode cX9_alike 24 = .ok (.aload_n 0, 1) := by decide +kernel
theorem dX9_alike_25 : decode cX9_alike 25 = .ok (.getfield 10, 3) := by decide +kernel
theorem dX9_alike_28 : decode cX9_alike 28 = .ok (.iload_n 3, 1) := by decide +kernel
theorem dX9_alike_29 : decode cX9_alike 29 = .ok (.invokevirtual 117, 3) := by decide +kernel
theorem dX9_alike_32 : decode cX9_alike 32 = .ok (.astore 4, 2) := by decide +kernel
theorem dX9_alike_34 : decode cX9_alike 34 = .ok (.aload 4, 2) := by decide +kernel
theorem dX9_alike_36 : decode cX9_alike 36 = .ok (.ifnull 40, 3) := by decide +kernel
theorem dX9_alike_39 : decode cX9_alike 39 = .ok (.aload 4, 2) := by decide +kernel
theorem dX9_alike_41 : decode cX9_alike 41 = .ok (.invokevirtual 154, 3) := by decide +kernel
theorem dX9_alike_44 : decode cX9_alike 44 = .ok (.ifCond .ne 32, 3) := by decide +kernel
theorem dX9_alike_47 : decode cX9_alike 47 = .ok (.aload_n 0, 1) := by decide +kernel
theorem dX9_alike_48 : decode cX9_alike 48 = .ok (.getfield 10, 3) := by decide +kernel
theorem dX9_alike_51 : decode cX9_alike 51 = .ok (.aload 4, 2) := by decide +kernel
theorem dX9_alike_53 : decode cX9_alike 53 = .ok (.iload_n 1, 1) := by decide +kernel
theorem dX9_alike_54 : decode cX9_alike 54 = .ok (.invokevirtual 168, 3) := by decide +kernel
theorem dX9_alike_57 : decode cX9_alike 57 = .ok (.iload_n 1, 1) := by decide +kernel
theorem dX9_alike_58 : decode cX9_alike 58 = .ok (.invokevirtual 216, 3) := by decide +kernel
theorem dX9_alike_61 : decode cX9_alike 61 = .ok (.istore 5, 2) := by decide +kernel
theorem dX9_alike_63 : decode cX9_alike 63 = .ok (.iload 5, 2) := by decide +kernel
theorem dX9_alike_65 : decode cX9_alike 65 = .ok (.iload_n 2, 1) := by decide +kernel
theorem dX9_alike_66 : decode cX9_alike 66 = .ok (.if_icmp .le 8, 3) := by decide +kernel
theorem dX9_alike_69 : decode cX9_alike 69 = .ok (.iload 5, 2) := by decide +kernel
theorem dX9_alike_71 : decode cX9_alike 71 = .ok (.goto 4, 3) := by decide +kernel
theorem dX9_alike_74 : decode cX9_alike 74 = .ok (.iload_n 2, 1) := by decide +kernel
theorem dX9_alike_75 : decode cX9_alike 75 = .ok (.istore_n 2, 1) := by decide +kernel
theorem dX9_alike_76 : decode cX9_alike 76 = .ok (.iinc 3 1, 3) := by decide +kernel
theorem dX9_alike_79 : decode cX9_alike 79 = .ok (.goto (-66), 3) := by decide +kernel
theorem dX9_alike_82 : decode cX9_alike 82 = .ok (.iload_n 2, 1) := by decide +kernel
theorem dX9_alike_83 : decode cX9_alike 83 = .ok (.ireturn, 1) := by decide +kernel
theorem dX9_plan_0 : decode cX9_plan 0 = .ok (.aload_n 0, 1) := by decide +kernel
theorem dX9_plan_1 : decode cX9_plan 1 = .ok (.getfield 10, 3) := by decide +kernel
theorem dX9_plan_4 : decode cX9_plan 4 = .ok (.iload_n 1, 1) := by decide +kernel
theorem dX9_plan_5 : decode cX9_plan 5 = .ok (.invokevirtual 117, 3) := by decide +kernel
theorem dX9_plan_8 : decode cX9_plan 8 = .ok (.astore 4, 2) := by decide +kernel
theorem dX9_plan_10 : decode cX9_plan 10 = .ok (.aload_n 0, 1) := by decide +kernel
theorem dX9_plan_11 : decode cX9_plan 11 = .ok (.getfield 10, 3) := by decide +kernel
theorem dX9_plan_14 : decode cX9_plan 14 = .ok (.iload_n 2, 1) := by decide +kernel
theorem dX9_plan_15 : decode cX9_plan 15 = .ok (.invokevirtual 189, 3) := by decide +kernel
theorem dX9_plan_18 : decode cX9_plan 18 = .ok (.astore 5, 2) := by decide +kernel
theorem dX9_plan_20 : decode cX9_plan 20 = .ok (.aload 4, 2) := by decide +kernel
theorem dX9_plan_22 : decode cX9_plan 22 = .ok (.ifnull 13, 3) := by decide +kernel
theorem dX9_plan_25 : decode cX9_plan 25 = .ok (.aload 5, 2) := by decide +kernel
theorem dX9_plan_27 : decode cX9_plan 27 = .ok (.ifnull 8, 3) := by decide +kernel
theorem dX9_plan_30 : decode cX9_plan 30 = .ok (.iload_n 3, 1) := by decide +kernel
theorem dX9_plan_31 : decode cX9_plan 31 = .ok (.iconst (-1), 1) := by decide +kernel
theorem dX9_plan_32 : decode cX9_plan 32 = .ok (.if_icmp .ge 5, 3) := by decide +kernel
theorem dX9_plan_35 : decode cX9_plan 35 = .ok (.iconst (-1), 1) := by decide +kernel
theorem dX9_plan_36 : decode cX9_plan 36 = .ok (.ireturn, 1) := by decide +kernel
theorem dX9_plan_37 : decode cX9_plan 37 = .ok (.aload 4, 2) := by decide +kernel
theorem dX9_plan_39 : decode cX9_plan 39 = .ok (.invokevirtual 154, 3) := by decide +kernel
theorem dX9_plan_42 : decode cX9_plan 42 = .ok (.ifCond .eq 6, 3) := by decide +kernel
theorem dX9_plan_45 : decode cX9_plan 45 = .ok (.bipush (-2), 2) := by decide +kernel
theorem dX9_plan_47 : decode cX9_plan 47 = .ok (.ireturn, 1) := by decide +kernel
theorem dX9_plan_48 : decode cX9_plan 48 = .ok (.aload_n 0, 1) := by decide +kernel
theorem dX9_plan_49 : decode cX9_plan 49 = .ok (.getfield 16, 3) := by decide +kernel
theorem dX9_plan_52 : decode cX9_plan 52 = .ok (.aload_n 0, 1) := by decide +kernel
theorem dX9_plan_53 : decode cX9_plan 53 = .ok (.getfield 10, 3) := by decide +kernel
theorem dX9_plan_56 : decode cX9_plan 56 = .ok (.invokevirtual 219, 3) := by decide +kernel
theorem dX9_plan_59 : decode cX9_plan 59 = .ok (.aload_n 0, 1) := by decide +kernel
theorem dX9_plan_60 : decode cX9_plan 60 = .ok (.getfield 43, 3) := by decide +kernel
theorem dX9_plan_63 : decode cX9_plan 63 = .ok (.aload_n 0, 1) := by decide +kernel
theorem dX9_plan_64 : decode cX9_plan 64 = .ok (.getfield 16, 3) := by decide +kernel
theorem dX9_plan_67 : decode cX9_plan 67 = .ok (.aload 4, 2) := by decide +kernel
theorem dX9_plan_69 : decode cX9_plan 69 = .ok (.aload 5, 2) := by decide +kernel
theorem dX9_plan_71 : decode cX9_plan 71 = .ok (.invokevirtual 222, 3) := by decide +kernel
theorem dX9_plan_74 : decode cX9_plan 74 = .ok (.istore 6, 2) := by decide +kernel
theorem dX9_plan_76 : decode cX9_plan 76 = .ok (.iload 6, 2) := by decide +kernel
theorem dX9_plan_78 : decode cX9_plan 78 = .ok (.ifCond .lt 9, 3) := by decide +kernel
theorem dX9_plan_81 : decode cX9_plan 81 = .ok (.iload_n 3, 1) := by decide +kernel
theorem dX9_plan_82 : decode cX9_plan 82 = .ok (.iload 6, 2) := by decide +kernel
theorem dX9_plan_84 : decode cX9_plan 84 = .ok (.if_icmp .lt 6, 3) := by decide +kernel
theorem dX9_plan_87 : decode cX9_plan 87 = .ok (.bipush (-4), 2) := by decide +kernel
theorem dX9_plan_89 : decode cX9_plan 89 = .ok (.ireturn, 1) := by decide +kernel
theorem dX9_plan_90 : decode cX9_plan 90 = .ok (.iload_n 3, 1) := by decide +kernel
theorem dX9_plan_91 : decode cX9_plan 91 = .ok (.ifCond .ge 8, 3) := by decide +kernel
theorem dX9_plan_94 : decode cX9_plan 94 = .ok (.iload 6, 2) := by decide +kernel
theorem dX9_plan_96 : decode cX9_plan 96 = .ok (.goto 11, 3) := by decide +kernel
theorem dX9_plan_99 : decode cX9_plan 99 = .ok (.aload_n 0, 1) := by decide +kernel
theorem dX9_plan_100 : decode cX9_plan 100 = .ok (.getfield 43, 3) := by decide +kernel
theorem dX9_plan_103 : decode cX9_plan 103 = .ok (.iload_n 3, 1) := by decide +kernel
theorem dX9_plan_104 : decode cX9_plan 104 = .ok (.invokevirtual 226, 3) := by decide +kernel
theorem dX9_plan_107 : decode cX9_plan 107 = .ok (.ireturn, 1) := by decide +kernel
theorem dX9_takes_0 : decode cX9_takes 0 = .ok (.aload_n 0, 1) := by decide +kernel
theorem dX9_takes_1 : decode cX9_takes 1 = .ok (.getfield 10, 3) := by decide +kernel
theorem dX9_takes_4 : decode cX9_takes 4 = .ok (.iload_n 1, 1) := by decide +kernel
theorem dX9_takes_5 : decode cX9_takes 5 = .ok (.invokevirtual 117, 3) := by decide +kernel
theorem dX9_takes_8 : decode cX9_takes 8 = .ok (.astore 4, 2) := by decide +kernel
theorem dX9_takes_10 : decode cX9_takes 10 = .ok (.aload_n 0, 1) := by decide +kernel
theorem dX9_takes_11 : decode cX9_takes 11 = .ok (.getfield 10, 3) := by decide +kernel
theorem dX9_takes_14 : decode cX9_takes 14 = .ok (.iload_n 2, 1) := by decide +kernel
theorem dX9_takes_15 : decode cX9_takes 15 = .ok (.invokevirtual 65, 3) := by decide +kernel
theorem dX9_takes_18 : decode cX9_takes 18 = .ok (.astore 5, 2) := by decide +kernel
theorem dX9_takes_20 : decode cX9_takes 20 = .ok (.aload 4, 2) := by decide +kernel
theorem dX9_takes_22 : decode cX9_takes 22 = .ok (.ifnull 19, 3) := by decide +kernel
theorem dX9_takes_25 : decode cX9_takes 25 = .ok (.aload 5, 2) := by decide +kernel
theorem dX9_takes_27 : decode cX9_takes 27 = .ok (.ifnull 14, 3) := by decide +kernel
theorem dX9_takes_30 : decode cX9_takes 30 = .ok (.iload_n 3, 1) := by decide +kernel
theorem dX9_takes_31 : decode cX9_takes 31 = .ok (.iconst 1, 1) := by decide +kernel
theorem dX9_takes_32 : decode cX9_takes 32 = .ok (.if_icmp .lt 9, 3) := by decide +kernel
theorem dX9_takes_35 : decode cX9_takes 35 = .ok (.iload_n 3, 1) := by decide +kernel
theorem dX9_takes_36 : decode cX9_takes 36 = .ok (.bipush 30, 2) := by decide +kernel
theorem dX9_takes_38 : decode cX9_takes 38 = .ok (.if_icmp .le 5, 3) := by decide +kernel
theorem dX9_takes_41 : decode cX9_takes 41 = .ok (.iconst (-1), 1) := by decide +kernel
theorem dX9_takes_42 : decode cX9_takes 42 = .ok (.ireturn, 1) := by decide +kernel
theorem dX9_takes_43 : decode cX9_takes 43 = .ok (.aload 4, 2) := by decide +kernel
theorem dX9_takes_45 : decode cX9_takes 45 = .ok (.invokevirtual 154, 3) := by decide +kernel
theorem dX9_takes_48 : decode cX9_takes 48 = .ok (.ifCond .eq 6, 3) := by decide +kernel
theorem dX9_takes_51 : decode cX9_takes 51 = .ok (.bipush (-2), 2) := by decide +kernel
theorem dX9_takes_53 : decode cX9_takes 53 = .ok (.ireturn, 1) := by decide +kernel
theorem dX9_takes_54 : decode cX9_takes 54 = .ok (.aload 5, 2) := by decide +kernel
theorem dX9_takes_56 : decode cX9_takes 56 = .ok (.getfield 78, 3) := by decide +kernel
theorem dX9_takes_59 : decode cX9_takes 59 = .ok (.istore 6, 2) := by decide +kernel
theorem dX9_takes_61 : decode cX9_takes 61 = .ok (.iconst 0, 1) := by decide +kernel
theorem dX9_takes_62 : decode cX9_takes 62 = .ok (.istore 7, 2) := by decide +kernel
theorem dX9_takes_64 : decode cX9_takes 64 = .ok (.iload 7, 2) := by decide +kernel
theorem dX9_takes_66 : decode cX9_takes 66 = .ok (.iload_n 3, 1) := by decide +kernel
theorem dX9_takes_67 : decode cX9_takes 67 = .ok (.if_icmp .ge 33, 3) := by decide +kernel
theorem dX9_takes_70 : decode cX9_takes 70 = .ok (.iload 6, 2) := by decide +kernel
theorem dX9_takes_72 : decode cX9_takes 72 = .ok (.aload 4, 2) := by decide +kernel
theorem dX9_takes_74 : decode cX9_takes 74 = .ok (.iload 6, 2) := by decide +kernel
theorem dX9_takes_76 : decode cX9_takes 76 = .ok (.aload 5, 2) := by decide +kernel
theorem dX9_takes_78 : decode cX9_takes 78 = .ok (.getfield 75, 3) := by decide +kernel
theorem dX9_takes_81 : decode cX9_takes 81 = .ok (.aload_n 0, 1) := by decide +kernel
theorem dX9_takes_82 : decode cX9_takes 82 = .ok (.getfield 10, 3) := by decide +kernel
theorem dX9_takes_85 : decode cX9_takes 85 = .ok (.getfield 84, 3) := by decide +kernel
theorem dX9_takes_88 : decode cX9_takes 88 = .ok (.invokevirtual 229, 3) := by decide +kernel
theorem dX9_takes_91 : decode cX9_takes 91 = .ok (.isub, 1) := by decide +kernel
theorem dX9_takes_92 : decode cX9_takes 92 = .ok (.istore 6, 2) := by decide +kernel
theorem dX9_takes_94 : decode cX9_takes 94 = .ok (.iinc 7 1, 3) := by decide +kernel
theorem dX9_takes_97 : decode cX9_takes 97 = .ok (.goto (-33), 3) := by decide +kernel
theorem dX9_takes_100 : decode cX9_takes 100 = .ok (.aload 5, 2) := by decide +kernel
theorem dX9_takes_102 : decode cX9_takes 102 = .ok (.getfield 78, 3) := by decide +kernel
theorem dX9_takes_105 : decode cX9_takes 105 = .ok (.iload 6, 2) := by decide +kernel
theorem dX9_takes_107 : decode cX9_takes 107 = .ok (.isub, 1) := by decide +kernel
theorem dX9_takes_108 : decode cX9_takes 108 = .ok (.ireturn, 1) := by decide +kernel
theorem dX9_account_0 : decode cX9_account 0 = .ok (.iload_n 1, 1) := by decide +kernel
theorem dX9_account_1 : decode cX9_account 1 = .ok (.invokestatic 164, 3) := by decide +kernel
theorem dX9_account_4 : decode cX9_account 4 = .ok (.ifCond .ne 5, 3) := by decide +kernel
theorem dX9_account_7 : decode cX9_account 7 = .ok (.iconst (-1), 1) := by decide +kernel
theorem dX9_account_8 : decode cX9_account 8 = .ok (.ireturn, 1) := by decide +kernel
theorem dX9_account_9 : decode cX9_account 9 = .ok (.iload_n 2, 1) := by decide +kernel
theorem dX9_account_10 : decode cX9_account 10 = .ok (.tableswitch 98 0 5 #[38, 50, 59, 68, 77, 86], 38) := by decide +kernel
theorem dX9_account_48 : decode cX9_account 48 = .ok (.aload_n 0, 1) := by decide +kernel
theorem dX9_account_49 : decode cX9_account 49 = .ok (.getfield 10, 3) := by decide +kernel
theorem dX9_account_52 : decode cX9_account 52 = .ok (.getfield 233, 3) := by decide +kernel
theorem dX9_account_55 : decode cX9_account 55 = .ok (.iload_n 1, 1) := by decide +kernel
theorem dX9_account_56 : decode cX9_account 56 = .ok (.invokestatic 236, 3) := by decide +kernel
theorem dX9_account_59 : decode cX9_account 59 = .ok (.ireturn, 1) := by decide +kernel
theorem dX9_account_60 : decode cX9_account 60 = .ok (.aload_n 0, 1) := by decide +kernel
theorem dX9_account_61 : decode cX9_account 61 = .ok (.getfield 10, 3) := by decide +kernel
theorem dX9_account_64 : decode cX9_account 64 = .ok (.iload_n 1, 1) := by decide +kernel
theorem dX9_account_65 : decode cX9_account 65 = .ok (.invokevirtual 240, 3) := by decide +kernel
theorem dX9_account_68 : decode cX9_account 68 = .ok (.ireturn, 1) := by decide +kernel
theorem dX9_account_69 : decode cX9_account 69 = .ok (.aload_n 0, 1) := by decide +kernel
theorem dX9_account_70 : decode cX9_account 70 = .ok (.getfield 10, 3) := by decide +kernel
theorem dX9_account_73 : decode cX9_account 73 = .ok (.iload_n 1, 1) := by decide +kernel
theorem dX9_account_74 : decode cX9_account 74 = .ok (.invokevirtual 243, 3) := by decide +kernel
theorem dX9_account_77 : decode cX9_account 77 = .ok (.ireturn, 1) := by decide +kernel
theorem dX9_account_78 : decode cX9_account 78 = .ok (.aload_n 0, 1) := by decide +kernel
theorem dX9_account_79 : decode cX9_account 79 = .ok (.getfield 10, 3) := by decide +kernel
theorem dX9_account_82 : decode cX9_account 82 = .ok (.iload_n 1, 1) := by decide +kernel
theorem dX9_account_83 : decode cX9_account 83 = .ok (.invokevirtual 246, 3) := by decide +kernel
theorem dX9_account_86 : decode cX9_account 86 = .ok (.ireturn, 1) := by decide +kernel
theorem dX9_account_87 : decode cX9_account 87 = .ok (.aload_n 0, 1) := by decide +kernel
theorem dX9_account_88 : decode cX9_account 88 = .ok (.getfield 10, 3) := by decide +kernel
theorem dX9_account_91 : decode cX9_account 91 = .ok (.iload_n 1, 1) := by decide +kernel
theorem dX9_account_92 : decode cX9_account 92 = .ok (.invokevirtual 249, 3) := by decide +kernel
theorem dX9_account_95 : decode cX9_account 95 = .ok (.ireturn, 1) := by decide +kernel
theorem dX9_account_96 : decode cX9_account 96 = .ok (.aload_n 0, 1) := by decide +kernel
theorem dX9_account_97 : decode cX9_account 97 = .ok (.getfield 10, 3) := by decide +kernel
theorem dX9_account_100 : decode cX9_account 100 = .ok (.getfield 252, 3) := by decide +kernel
theorem dX9_account_103 : decode cX9_account 103 = .ok (.iload_n 1, 1) := by decide +kernel
theorem dX9_account_104 : decode cX9_account 104 = .ok (.invokestatic 236, 3) := by decide +kernel
theorem dX9_account_107 : decode cX9_account 107 = .ok (.ireturn, 1) := by decide +kernel
theorem dX9_account_108 : decode cX9_account 108 = .ok (.iconst (-1), 1) := by decide +kernel
theorem dX9_account_109 : decode cX9_account 109 = .ok (.ireturn, 1) := by decide +kernel
theorem dX9_count_0 : decode cX9_count 0 = .ok (.iload_n 1, 1) := by decide +kernel
theorem dX9_count_1 : decode cX9_count 1 = .ok (.bipush 20, 2) := by decide +kernel
theorem dX9_count_3 : decode cX9_count 3 = .ok (.if_icmp .lt 28, 3) := by decide +kernel
theorem dX9_count_6 : decode cX9_count 6 = .ok (.iload_n 1, 1) := by decide +kernel
theorem dX9_count_7 : decode cX9_count 7 = .ok (.bipush 20, 2) := by decide +kernel
theorem dX9_count_9 : decode cX9_count 9 = .ok (.isub, 1) := by decide +kernel
theorem dX9_count_10 : decode cX9_count 10 = .ok (.invokestatic 255, 3) := by decide +kernel
theorem dX9_count_13 : decode cX9_count 13 = .ok (.ifCond .eq 18, 3) := by decide +kernel
theorem dX9_count_16 : decode cX9_count 16 = .ok (.aload_n 0, 1) := by decide +kernel
theorem dX9_count_17 : decode cX9_count 17 = .ok (.getfield 10, 3) := by decide +kernel
theorem dX9_count_20 : decode cX9_count 20 = .ok (.getfield 84, 3) := by decide +kernel
theorem dX9_count_23 : decode cX9_count 23 = .ok (.iload_n 1, 1) := by decide +kernel
theorem dX9_count_24 : decode cX9_count 24 = .ok (.bipush 20, 2) := by decide +kernel
theorem dX9_count_26 : decode cX9_count 26 = .ok (.isub, 1) := by decide +kernel
theorem dX9_count_27 : decode cX9_count 27 = .ok (.invokevirtual 210, 3) := by decide +kernel
theorem dX9_count_30 : decode cX9_count 30 = .ok (.ireturn, 1) := by decide +kernel
theorem dX9_count_31 : decode cX9_count 31 = .ok (.iload_n 1, 1) := by decide +kernel
theorem dX9_count_32 : decode cX9_count 32 = .ok (.tableswitch 129 0 11 #[64, 72, 80, 80, 80, 80, 80, 89, 97, 105, 113, 121], 64) := by decide +kernel
theorem dX9_count_96 : decode cX9_count 96 = .ok (.aload_n 0, 1) := by decide +kernel
theorem dX9_count_97 : decode cX9_count 97 = .ok (.getfield 10, 3) := by decide +kernel
theorem dX9_count_100 : decode cX9_count 100 = .ok (.getfield 96, 3) := by decide +kernel
theorem dX9_count_103 : decode cX9_count 103 = .ok (.ireturn, 1) := by decide +kernel
theorem dX9_count_104 : decode cX9_count 104 = .ok (.aload_n 0, 1) := by decide +kernel
theorem dX9_count_105 : decode cX9_count 105 = .ok (.getfield 10, 3) := by decide +kernel
theorem dX9_count_108 : decode cX9_count 108 = .ok (.getfield 179, 3) := by decide +kernel
theorem dX9_count_111 : decode cX9_count 111 = .ok (.ireturn, 1) := by decide +kernel
theorem dX9_count_112 : decode cX9_count 112 = .ok (.aload_n 0, 1) := by decide +kernel
theorem dX9_count_113 : decode cX9_count 113 = .ok (.getfield 10, 3) := by decide +kernel
theorem dX9_count_116 : decode cX9_count 116 = .ok (.iload_n 1, 1) := by decide +kernel
theorem dX9_count_117 : decode cX9_count 117 = .ok (.invokevirtual 258, 3) := by decide +kernel
theorem dX9_count_120 : decode cX9_count 120 = .ok (.ireturn, 1) := by decide +kernel
theorem dX9_count_121 : decode cX9_count 121 = .ok (.aload_n 0, 1) := by decide +kernel
theorem dX9_count_122 : decode cX9_count 122 = .ok (.getfield 10, 3) := by decide +kernel
theorem dX9_count_125 : decode cX9_count 125 = .ok (.getfield 261, 3) := by decide +kernel
theorem dX9_count_128 : decode cX9_count 128 = .ok (.ireturn, 1) := by decide +kernel
theorem dX9_count_129 : decode cX9_count 129 = .ok (.aload_n 0, 1) := by decide +kernel
theorem dX9_count_130 : decode cX9_count 130 = .ok (.getfield 10, 3) := by decide +kernel
theorem dX9_count_133 : decode cX9_count 133 = .ok (.invokevirtual 264, 3) := by decide +kernel
theorem dX9_count_136 : decode cX9_count 136 = .ok (.ireturn, 1) := by decide +kernel
theorem dX9_count_137 : decode cX9_count 137 = .ok (.aload_n 0, 1) := by decide +kernel
theorem dX9_count_138 : decode cX9_count 138 = .ok (.getfield 10, 3) := by decide +kernel
theorem dX9_count_141 : decode cX9_count 141 = .ok (.getfield 267, 3) := by decide +kernel
theorem dX9_count_144 : decode cX9_count 144 = .ok (.ireturn, 1) := by decide +kernel
theorem dX9_count_145 : decode cX9_count 145 = .ok (.aload_n 0, 1) := by decide +kernel
theorem dX9_count_146 : decode cX9_count 146 = .ok (.getfield 22, 3) := by decide +kernel
theorem dX9_count_149 : decode cX9_count 149 = .ok (.getfield 268, 3) := by decide +kernel
theorem dX9_count_152 : decode cX9_count 152 = .ok (.ireturn, 1) := by decide +kernel
theorem dX9_count_153 : decode cX9_count 153 = .ok (.aload_n 0, 1) := by decide +kernel
theorem dX9_count_154 : decode cX9_count 154 = .ok (.getfield 29, 3) := by decide +kernel
theorem dX9_count_157 : decode cX9_count 157 = .ok (.getfield 271, 3) := by decide +kernel
theorem dX9_count_160 : decode cX9_count 160 = .ok (.ireturn, 1) := by decide +kernel
theorem dX9_count_161 : decode cX9_count 161 = .ok (.iconst (-1), 1) := by decide +kernel
theorem dX9_count_162 : decode cX9_count 162 = .ok (.ireturn, 1) := by decide +kernel
theorem dX9_set_0 : decode cX9_set 0 = .ok (.aload_n 0, 1) := by decide +kernel
theorem dX9_set_1 : decode cX9_set 1 = .ok (.getfield 22, 3) := by decide +kernel
theorem dX9_set_4 : decode cX9_set 4 = .ok (.aload_n 0, 1) := by decide +kernel
theorem dX9_set_5 : decode cX9_set 5 = .ok (.getfield 10, 3) := by decide +kernel
theorem dX9_set_8 : decode cX9_set 8 = .ok (.invokevirtual 47, 3) := by decide +kernel
theorem dX9_set_11 : decode cX9_set 11 = .ok (.aload_n 0, 1) := by decide +kernel
theorem dX9_set_12 : decode cX9_set 12 = .ok (.getfield 22, 3) := by decide +kernel
theorem dX9_set_15 : decode cX9_set 15 = .ok (.aload_n 0, 1) := by decide +kernel
theorem dX9_set_16 : decode cX9_set 16 = .ok (.getfield 10, 3) := by decide +kernel
theorem dX9_set_19 : decode cX9_set 19 = .ok (.getfield 84, 3) := by decide +kernel
theorem dX9_set_22 : decode cX9_set 22 = .ok (.iload_n 1, 1) := by decide +kernel
theorem dX9_set_23 : decode cX9_set 23 = .ok (.iload_n 2, 1) := by decide +kernel
theorem dX9_set_24 : decode cX9_set 24 = .ok (.invokevirtual 274, 3) := by decide +kernel
theorem dX9_set_27 : decode cX9_set 27 = .ok (.invokevirtual 55, 3) := by decide +kernel
theorem dX9_set_30 : decode cX9_set 30 = .ok (.ireturn, 1) := by decide +kernel
theorem dX9_undo_0 : decode cX9_undo 0 = .ok (.aload_n 0, 1) := by decide +kernel
theorem dX9_undo_1 : decode cX9_undo 1 = .ok (.getfield 22, 3) := by decide +kernel
theorem dX9_undo_4 : decode cX9_undo 4 = .ok (.aload_n 0, 1) := by decide +kernel
theorem dX9_undo_5 : decode cX9_undo 5 = .ok (.getfield 10, 3) := by decide +kernel
theorem dX9_undo_8 : decode cX9_undo 8 = .ok (.invokevirtual 277, 3) := by decide +kernel
theorem dX9_undo_11 : decode cX9_undo 11 = .ok (.ireturn, 1) := by decide +kernel
theorem dX9_type_0 : decode cX9_type 0 = .ok (.aload_n 0, 1) := by decide +kernel
theorem dX9_type_1 : decode cX9_type 1 = .ok (.getfield 29, 3) := by decide +kernel
theorem dX9_type_4 : decode cX9_type 4 = .ok (.iload_n 1, 1) := by decide +kernel
theorem dX9_type_5 : decode cX9_type 5 = .ok (.invokevirtual 281, 3) := by decide +kernel
theorem dX9_type_8 : decode cX9_type 8 = .ok (.ireturn, 1) := by decide +kernel
theorem dX9_clearText_0 : decode cX9_clearText 0 = .ok (.aload_n 0, 1) := by decide +kernel
theorem dX9_clearText_1 : decode cX9_clearText 1 = .ok (.getfield 29, 3) := by decide +kernel
theorem dX9_clearText_4 : decode cX9_clearText 4 = .ok (.invokevirtual 284, 3) := by decide +kernel
theorem dX9_clearText_7 : decode cX9_clearText 7 = .ok (.ireturn, 1) := by decide +kernel
theorem dX9_fault_0 : decode cX9_fault 0 = .ok (.iload_n 1, 1) := by decide +kernel
theorem dX9_fault_1 : decode cX9_fault 1 = .ok (.ifCond .lt 8, 3) := by decide +kernel
theorem dX9_fault_4 : decode cX9_fault 4 = .ok (.iload_n 1, 1) := by decide +kernel
theorem dX9_fault_5 : decode cX9_fault 5 = .ok (.iconst 2, 1) := by decide +kernel
theorem dX9_fault_6 : decode cX9_fault 6 = .ok (.if_icmp .le 5, 3) := by decide +kernel
theorem dX9_fault_9 : decode cX9_fault 9 = .ok (.iconst (-1), 1) := by decide +kernel
theorem dX9_fault_10 : decode cX9_fault 10 = .ok (.ireturn, 1) := by decide +kernel
theorem dX9_fault_11 : decode cX9_fault 11 = .ok (.aload_n 0, 1) := by decide +kernel
theorem dX9_fault_12 : decode cX9_fault 12 = .ok (.getfield 16, 3) := by decide +kernel
theorem dX9_fault_15 : decode cX9_fault 15 = .ok (.aload_n 0, 1) := by decide +kernel
theorem dX9_fault_16 : decode cX9_fault 16 = .ok (.getfield 10, 3) := by decide +kernel
theorem dX9_fault_19 : decode cX9_fault 19 = .ok (.invokevirtual 219, 3) := by decide +kernel
theorem dX9_fault_22 : decode cX9_fault 22 = .ok (.aload_n 0, 1) := by decide +kernel
theorem dX9_fault_23 : decode cX9_fault 23 = .ok (.getfield 36, 3) := by decide +kernel
theorem dX9_fault_26 : decode cX9_fault 26 = .ok (.aload_n 0, 1) := by decide +kernel
theorem dX9_fault_27 : decode cX9_fault 27 = .ok (.getfield 29, 3) := by decide +kernel
theorem dX9_fault_30 : decode cX9_fault 30 = .ok (.aload_n 0, 1) := by decide +kernel
theorem dX9_fault_31 : decode cX9_fault 31 = .ok (.getfield 16, 3) := by decide +kernel
theorem dX9_fault_34 : decode cX9_fault 34 = .ok (.invokevirtual 287, 3) := by decide +kernel
theorem dX9_fault_37 : decode cX9_fault 37 = .ok (.aload_n 0, 1) := by decide +kernel
theorem dX9_fault_38 : decode cX9_fault 38 = .ok (.getfield 36, 3) := by decide +kernel
theorem dX9_fault_41 : decode cX9_fault 41 = .ok (.invokevirtual 291, 3) := by decide +kernel
theorem dX9_fault_44 : decode cX9_fault 44 = .ok (.ifCond .ne 6, 3) := by decide +kernel
theorem dX9_fault_47 : decode cX9_fault 47 = .ok (.bipush (-4), 2) := by decide +kernel
theorem dX9_fault_49 : decode cX9_fault 49 = .ok (.ireturn, 1) := by decide +kernel
theorem dX9_fault_50 : decode cX9_fault 50 = .ok (.iload_n 1, 1) := by decide +kernel
theorem dX9_fault_51 : decode cX9_fault 51 = .ok (.lookupswitch 41 #[(0, 25), (1, 33)], 25) := by decide +kernel
theorem dX9_fault_76 : decode cX9_fault 76 = .ok (.aload_n 0, 1) := by decide +kernel
theorem dX9_fault_77 : decode cX9_fault 77 = .ok (.getfield 36, 3) := by decide +kernel
theorem dX9_fault_80 : decode cX9_fault 80 = .ok (.getfield 294, 3) := by decide +kernel
theorem dX9_fault_83 : decode cX9_fault 83 = .ok (.ireturn, 1) := by decide +kernel
theorem dX9_fault_84 : decode cX9_fault 84 = .ok (.aload_n 0, 1) := by decide +kernel
theorem dX9_fault_85 : decode cX9_fault 85 = .ok (.getfield 36, 3) := by decide +kernel
theorem dX9_fault_88 : decode cX9_fault 88 = .ok (.getfield 297, 3) := by decide +kernel
theorem dX9_fault_91 : decode cX9_fault 91 = .ok (.ireturn, 1) := by decide +kernel
theorem dX9_fault_92 : decode cX9_fault 92 = .ok (.aload_n 0, 1) := by decide +kernel
theorem dX9_fault_93 : decode cX9_fault 93 = .ok (.getfield 36, 3) := by decide +kernel
theorem dX9_fault_96 : decode cX9_fault 96 = .ok (.getfield 297, 3) := by decide +kernel
theorem dX9_fault_99 : decode cX9_fault 99 = .ok (.iconst 1, 1) := by decide +kernel
theorem dX9_fault_100 : decode cX9_fault 100 = .ok (.if_icmp .ne 8, 3) := by decide +kernel
theorem dX9_fault_103 : decode cX9_fault 103 = .ok (.bipush (-4), 2) := by decide +kernel
theorem dX9_fault_105 : decode cX9_fault 105 = .ok (.goto 10, 3) := by decide +kernel
theorem dX9_fault_108 : decode cX9_fault 108 = .ok (.aload_n 0, 1) := by decide +kernel
theorem dX9_fault_109 : decode cX9_fault 109 = .ok (.getfield 36, 3) := by decide +kernel
theorem dX9_fault_112 : decode cX9_fault 112 = .ok (.getfield 300, 3) := by decide +kernel
theorem dX9_fault_115 : decode cX9_fault 115 = .ok (.ireturn, 1) := by decide +kernel
theorem dX9_play_0 : decode cX9_play 0 = .ok (.aload_n 0, 1) := by decide +kernel
theorem dX9_play_1 : decode cX9_play 1 = .ok (.getfield 16, 3) := by decide +kernel
theorem dX9_play_4 : decode cX9_play 4 = .ok (.aload_n 0, 1) := by decide +kernel
theorem dX9_play_5 : decode cX9_play 5 = .ok (.getfield 10, 3) := by decide +kernel
theorem dX9_play_8 : decode cX9_play 8 = .ok (.invokevirtual 219, 3) := by decide +kernel
theorem dX9_play_11 : decode cX9_play 11 = .ok (.aload_n 0, 1) := by decide +kernel
theorem dX9_play_12 : decode cX9_play 12 = .ok (.getfield 36, 3) := by decide +kernel
theorem dX9_play_15 : decode cX9_play 15 = .ok (.aload_n 0, 1) := by decide +kernel
theorem dX9_play_16 : decode cX9_play 16 = .ok (.getfield 29, 3) := by decide +kernel
theorem dX9_play_19 : decode cX9_play 19 = .ok (.aload_n 0, 1) := by decide +kernel
theorem dX9_play_20 : decode cX9_play 20 = .ok (.getfield 16, 3) := by decide +kernel
theorem dX9_play_23 : decode cX9_play 23 = .ok (.invokevirtual 287, 3) := by decide +kernel
theorem dX9_play_26 : decode cX9_play 26 = .ok (.aload_n 0, 1) := by decide +kernel
theorem dX9_play_27 : decode cX9_play 27 = .ok (.getfield 36, 3) := by decide +kernel
theorem dX9_play_30 : decode cX9_play 30 = .ok (.invokevirtual 291, 3) := by decide +kernel
theorem dX9_play_33 : decode cX9_play 33 = .ok (.ifCond .eq 6, 3) := by decide +kernel
theorem dX9_play_36 : decode cX9_play 36 = .ok (.bipush (-2), 2) := by decide +kernel
theorem dX9_play_38 : decode cX9_play 38 = .ok (.ireturn, 1) := by decide +kernel
theorem dX9_play_39 : decode cX9_play 39 = .ok (.aload_n 0, 1) := by decide +kernel
theorem dX9_play_40 : decode cX9_play 40 = .ok (.getfield 22, 3) := by decide +kernel
theorem dX9_play_43 : decode cX9_play 43 = .ok (.aload_n 0, 1) := by decide +kernel
theorem dX9_play_44 : decode cX9_play 44 = .ok (.getfield 10, 3) := by decide +kernel
theorem dX9_play_47 : decode cX9_play 47 = .ok (.invokevirtual 47, 3) := by decide +kernel
theorem dX9_play_50 : decode cX9_play 50 = .ok (.aload_n 0, 1) := by decide +kernel
theorem dX9_play_51 : decode cX9_play 51 = .ok (.getfield 10, 3) := by decide +kernel
theorem dX9_play_54 : decode cX9_play 54 = .ok (.aload_n 0, 1) := by decide +kernel
theorem dX9_play_55 : decode cX9_play 55 = .ok (.getfield 16, 3) := by decide +kernel
theorem dX9_play_58 : decode cX9_play 58 = .ok (.invokevirtual 219, 3) := by decide +kernel
theorem dX9_play_61 : decode cX9_play 61 = .ok (.aload_n 0, 1) := by decide +kernel
theorem dX9_play_62 : decode cX9_play 62 = .ok (.getfield 22, 3) := by decide +kernel
theorem dX9_play_65 : decode cX9_play 65 = .ok (.aload_n 0, 1) := by decide +kernel
theorem dX9_play_66 : decode cX9_play 66 = .ok (.getfield 36, 3) := by decide +kernel
theorem dX9_play_69 : decode cX9_play 69 = .ok (.getfield 303, 3) := by decide +kernel
theorem dX9_play_72 : decode cX9_play 72 = .ok (.invokevirtual 55, 3) := by decide +kernel
theorem dX9_play_75 : decode cX9_play 75 = .ok (.ireturn, 1) := by decide +kernel
theorem dX9_isDye_0 : decode cX9_isDye 0 = .ok (.iload_n 0, 1) := by decide +kernel
theorem dX9_isDye_1 : decode cX9_isDye 1 = .ok (.ifCond .lt 12, 3) := by decide +kernel
theorem dX9_isDye_4 : decode cX9_isDye 4 = .ok (.iload_n 0, 1) := by decide +kernel
theorem dX9_isDye_5 : decode cX9_isDye 5 = .ok (.iconst 4, 1) := by decide +kernel
theorem dX9_isDye_6 : decode cX9_isDye 6 = .ok (.if_icmp .ge 7, 3) := by decide +kernel
theorem dX9_isDye_9 : decode cX9_isDye 9 = .ok (.iconst 1, 1) := by decide +kernel
theorem dX9_isDye_10 : decode cX9_isDye 10 = .ok (.goto 4, 3) := by decide +kernel
theorem dX9_isDye_13 : decode cX9_isDye 13 = .ok (.iconst 0, 1) := by decide +kernel
theorem dX9_isDye_14 : decode cX9_isDye 14 = .ok (.ireturn, 1) := by decide +kernel
theorem dX9_oneIf_0 : decode cX9_oneIf 0 = .ok (.iload_n 0, 1) := by decide +kernel
theorem dX9_oneIf_1 : decode cX9_oneIf 1 = .ok (.ifCond .eq 7, 3) := by decide +kernel
theorem dX9_oneIf_4 : decode cX9_oneIf 4 = .ok (.iconst 1, 1) := by decide +kernel
theorem dX9_oneIf_5 : decode cX9_oneIf 5 = .ok (.goto 4, 3) := by decide +kernel
theorem dX9_oneIf_8 : decode cX9_oneIf 8 = .ok (.iconst 0, 1) := by decide +kernel
theorem dX9_oneIf_9 : decode cX9_oneIf 9 = .ok (.ireturn, 1) := by decide +kernel
theorem dX9_distance_0 : decode cX9_distance 0 = .ok (.iload_n 0, 1) := by decide +kernel
theorem dX9_distance_1 : decode cX9_distance 1 = .ok (.iload_n 1, 1) := by decide +kernel
theorem dX9_distance_2 : decode cX9_distance 2 = .ok (.if_icmp .lt 9, 3) := by decide +kernel
theorem dX9_distance_5 : decode cX9_distance 5 = .ok (.iload_n 0, 1) := by decide +kernel
theorem dX9_distance_6 : decode cX9_distance 6 = .ok (.iload_n 1, 1) := by decide +kernel
theorem dX9_distance_7 : decode cX9_distance 7 = .ok (.isub, 1) := by decide +kernel
theorem dX9_distance_8 : decode cX9_distance 8 = .ok (.goto 6, 3) := by decide +kernel
theorem dX9_distance_11 : decode cX9_distance 11 = .ok (.iload_n 1, 1) := by decide +kernel
theorem dX9_distance_12 : decode cX9_distance 12 = .ok (.iload_n 0, 1) := by decide +kernel
theorem dX9_distance_13 : decode cX9_distance 13 = .ok (.isub, 1) := by decide +kernel
theorem dX9_distance_14 : decode cX9_distance 14 = .ok (.ireturn, 1) := by decide +kernel
theorem dX9_cellAt_0 : decode cX9_cellAt 0 = .ok (.iload_n 1, 1) := by decide +kernel
theorem dX9_cellAt_1 : decode cX9_cellAt 1 = .ok (.ifCond .lt 15, 3) := by decide +kernel
theorem dX9_cellAt_4 : decode cX9_cellAt 4 = .ok (.iload_n 1, 1) := by decide +kernel
theorem dX9_cellAt_5 : decode cX9_cellAt 5 = .ok (.aload_n 0, 1) := by decide +kernel
theorem dX9_cellAt_6 : decode cX9_cellAt 6 = .ok (.arraylength, 1) := by decide +kernel
theorem dX9_cellAt_7 : decode cX9_cellAt 7 = .ok (.if_icmp .ge 9, 3) := by decide +kernel
theorem dX9_cellAt_10 : decode cX9_cellAt 10 = .ok (.aload_n 0, 1) := by decide +kernel
theorem dX9_cellAt_11 : decode cX9_cellAt 11 = .ok (.iload_n 1, 1) := by decide +kernel
theorem dX9_cellAt_12 : decode cX9_cellAt 12 = .ok (.iaload, 1) := by decide +kernel
theorem dX9_cellAt_13 : decode cX9_cellAt 13 = .ok (.goto 4, 3) := by decide +kernel
theorem dX9_cellAt_16 : decode cX9_cellAt 16 = .ok (.iconst 0, 1) := by decide +kernel
theorem dX9_cellAt_17 : decode cX9_cellAt 17 = .ok (.ireturn, 1) := by decide +kernel
theorem dX9_putAt_0 : decode cX9_putAt 0 = .ok (.iload_n 1, 1) := by decide +kernel
theorem dX9_putAt_1 : decode cX9_putAt 1 = .ok (.ifCond .lt 13, 3) := by decide +kernel
theorem dX9_putAt_4 : decode cX9_putAt 4 = .ok (.iload_n 1, 1) := by decide +kernel
theorem dX9_putAt_5 : decode cX9_putAt 5 = .ok (.aload_n 0, 1) := by decide +kernel
theorem dX9_putAt_6 : decode cX9_putAt 6 = .ok (.arraylength, 1) := by decide +kernel
theorem dX9_putAt_7 : decode cX9_putAt 7 = .ok (.if_icmp .ge 7, 3) := by decide +kernel
theorem dX9_putAt_10 : decode cX9_putAt 10 = .ok (.aload_n 0, 1) := by decide +kernel
theorem dX9_putAt_11 : decode cX9_putAt 11 = .ok (.iload_n 1, 1) := by decide +kernel
theorem dX9_putAt_12 : decode cX9_putAt 12 = .ok (.iload_n 2, 1) := by decide +kernel
theorem dX9_putAt_13 : decode cX9_putAt 13 = .ok (.iastore, 1) := by decide +kernel
theorem dX9_putAt_14 : decode cX9_putAt 14 = .ok (.return_, 1) := by decide +kernel
theorem dX9_addTo_0 : decode cX9_addTo 0 = .ok (.iload_n 1, 1) := by decide +kernel
theorem dX9_addTo_1 : decode cX9_addTo 1 = .ok (.ifCond .lt 16, 3) := by decide +kernel
theorem dX9_addTo_4 : decode cX9_addTo 4 = .ok (.iload_n 1, 1) := by decide +kernel
theorem dX9_addTo_5 : decode cX9_addTo 5 = .ok (.aload_n 0, 1) := by decide +kernel
theorem dX9_addTo_6 : decode cX9_addTo 6 = .ok (.arraylength, 1) := by decide +kernel
theorem dX9_addTo_7 : decode cX9_addTo 7 = .ok (.if_icmp .ge 10, 3) := by decide +kernel
theorem dX9_addTo_10 : decode cX9_addTo 10 = .ok (.aload_n 0, 1) := by decide +kernel
theorem dX9_addTo_11 : decode cX9_addTo 11 = .ok (.iload_n 1, 1) := by decide +kernel
theorem dX9_addTo_12 : decode cX9_addTo 12 = .ok (.dup2, 1) := by decide +kernel
theorem dX9_addTo_13 : decode cX9_addTo 13 = .ok (.iaload, 1) := by decide +kernel
theorem dX9_addTo_14 : decode cX9_addTo 14 = .ok (.iload_n 2, 1) := by decide +kernel
theorem dX9_addTo_15 : decode cX9_addTo 15 = .ok (.iadd, 1) := by decide +kernel
theorem dX9_addTo_16 : decode cX9_addTo 16 = .ok (.iastore, 1) := by decide +kernel
theorem dX9_addTo_17 : decode cX9_addTo 17 = .ok (.return_, 1) := by decide +kernel
theorem dX9_sumOf_0 : decode cX9_sumOf 0 = .ok (.iconst 0, 1) := by decide +kernel
theorem dX9_sumOf_1 : decode cX9_sumOf 1 = .ok (.istore_n 1, 1) := by decide +kernel
theorem dX9_sumOf_2 : decode cX9_sumOf 2 = .ok (.iconst 0, 1) := by decide +kernel
theorem dX9_sumOf_3 : decode cX9_sumOf 3 = .ok (.istore_n 2, 1) := by decide +kernel
theorem dX9_sumOf_4 : decode cX9_sumOf 4 = .ok (.iload_n 2, 1) := by decide +kernel
theorem dX9_sumOf_5 : decode cX9_sumOf 5 = .ok (.aload_n 0, 1) := by decide +kernel
theorem dX9_sumOf_6 : decode cX9_sumOf 6 = .ok (.arraylength, 1) := by decide +kernel
theorem dX9_sumOf_7 : decode cX9_sumOf 7 = .ok (.if_icmp .ge 15, 3) := by decide +kernel
theorem dX9_sumOf_10 : decode cX9_sumOf 10 = .ok (.iload_n 1, 1) := by decide +kernel
theorem dX9_sumOf_11 : decode cX9_sumOf 11 = .ok (.aload_n 0, 1) := by decide +kernel
theorem dX9_sumOf_12 : decode cX9_sumOf 12 = .ok (.iload_n 2, 1) := by decide +kernel
theorem dX9_sumOf_13 : decode cX9_sumOf 13 = .ok (.iaload, 1) := by decide +kernel
theorem dX9_sumOf_14 : decode cX9_sumOf 14 = .ok (.iadd, 1) := by decide +kernel
theorem dX9_sumOf_15 : decode cX9_sumOf 15 = .ok (.istore_n 1, 1) := by decide +kernel
theorem dX9_sumOf_16 : decode cX9_sumOf 16 = .ok (.iinc 2 1, 3) := by decide +kernel
theorem dX9_sumOf_19 : decode cX9_sumOf 19 = .ok (.goto (-15), 3) := by decide +kernel
theorem dX9_sumOf_22 : decode cX9_sumOf 22 = .ok (.iload_n 1, 1) := by decide +kernel
theorem dX9_sumOf_23 : decode cX9_sumOf 23 = .ok (.ireturn, 1) := by decide +kernel
theorem dX9_copyRow_0 : decode cX9_copyRow 0 = .ok (.iconst 0, 1) := by decide +kernel
theorem dX9_copyRow_1 : decode cX9_copyRow 1 = .ok (.istore_n 2, 1) := by decide +kernel
theorem dX9_copyRow_2 : decode cX9_copyRow 2 = .ok (.iload_n 2, 1) := by decide +kernel
theorem dX9_copyRow_3 : decode cX9_copyRow 3 = .ok (.aload_n 0, 1) := by decide +kernel
theorem dX9_copyRow_4 : decode cX9_copyRow 4 = .ok (.arraylength, 1) := by decide +kernel
theorem dX9_copyRow_5 : decode cX9_copyRow 5 = .ok (.if_icmp .ge 21, 3) := by decide +kernel
theorem dX9_copyRow_8 : decode cX9_copyRow 8 = .ok (.iload_n 2, 1) := by decide +kernel
theorem dX9_copyRow_9 : decode cX9_copyRow 9 = .ok (.aload_n 1, 1) := by decide +kernel
theorem dX9_copyRow_10 : decode cX9_copyRow 10 = .ok (.arraylength, 1) := by decide +kernel
theorem dX9_copyRow_11 : decode cX9_copyRow 11 = .ok (.if_icmp .ge 15, 3) := by decide +kernel
theorem dX9_copyRow_14 : decode cX9_copyRow 14 = .ok (.aload_n 1, 1) := by decide +kernel
theorem dX9_copyRow_15 : decode cX9_copyRow 15 = .ok (.iload_n 2, 1) := by decide +kernel
theorem dX9_copyRow_16 : decode cX9_copyRow 16 = .ok (.aload_n 0, 1) := by decide +kernel
theorem dX9_copyRow_17 : decode cX9_copyRow 17 = .ok (.iload_n 2, 1) := by decide +kernel
theorem dX9_copyRow_18 : decode cX9_copyRow 18 = .ok (.iaload, 1) := by decide +kernel
theorem dX9_copyRow_19 : decode cX9_copyRow 19 = .ok (.iastore, 1) := by decide +kernel
theorem dX9_copyRow_20 : decode cX9_copyRow 20 = .ok (.iinc 2 1, 3) := by decide +kernel
theorem dX9_copyRow_23 : decode cX9_copyRow 23 = .ok (.goto (-21), 3) := by decide +kernel
theorem dX9_copyRow_26 : decode cX9_copyRow 26 = .ok (.return_, 1) := by decide +kernel
theorem dX9_bitsOf_0 : decode cX9_bitsOf 0 = .ok (.fload_n 0, 1) := by decide +kernel
theorem dX9_bitsOf_1 : decode cX9_bitsOf 1 = .ok (.fconst 0, 1) := by decide +kernel
theorem dX9_bitsOf_2 : decode cX9_bitsOf 2 = .ok (.fcmp .l, 1) := by decide +kernel
theorem dX9_bitsOf_3 : decode cX9_bitsOf 3 = .ok (.ifCond .gt 5, 3) := by decide +kernel
theorem dX9_bitsOf_6 : decode cX9_bitsOf 6 = .ok (.iconst 0, 1) := by decide +kernel
theorem dX9_bitsOf_7 : decode cX9_bitsOf 7 = .ok (.ireturn, 1) := by decide +kernel
theorem dX9_bitsOf_8 : decode cX9_bitsOf 8 = .ok (.fload_n 0, 1) := by decide +kernel
theorem dX9_bitsOf_9 : decode cX9_bitsOf 9 = .ok (.fstore_n 1, 1) := by decide +kernel
theorem dX9_bitsOf_10 : decode cX9_bitsOf 10 = .ok (.bipush 127, 2) := by decide +kernel
theorem dX9_bitsOf_12 : decode cX9_bitsOf 12 = .ok (.istore_n 2, 1) := by decide +kernel
theorem dX9_bitsOf_13 : decode cX9_bitsOf 13 = .ok (.iconst 0, 1) := by decide +kernel
theorem dX9_bitsOf_14 : decode cX9_bitsOf 14 = .ok (.istore_n 3, 1) := by decide +kernel
theorem dX9_bitsOf_15 : decode cX9_bitsOf 15 = .ok (.iload_n 3, 1) := by decide +kernel
theorem dX9_bitsOf_16 : decode cX9_bitsOf 16 = .ok (.sipush 128, 3) := by decide +kernel
theorem dX9_bitsOf_19 : decode cX9_bitsOf 19 = .ok (.if_icmp .ge 22, 3) := by decide +kernel
theorem dX9_bitsOf_22 : decode cX9_bitsOf 22 = .ok (.fload_n 1, 1) := by decide +kernel
theorem dX9_bitsOf_23 : decode cX9_bitsOf 23 = .ok (.fconst 2, 1) := by decide +kernel
theorem dX9_bitsOf_24 : decode cX9_bitsOf 24 = .ok (.fcmp .l, 1) := by decide +kernel
theorem dX9_bitsOf_25 : decode cX9_bitsOf 25 = .ok (.ifCond .lt 16, 3) := by decide +kernel
theorem dX9_bitsOf_28 : decode cX9_bitsOf 28 = .ok (.fload_n 1, 1) := by decide +kernel
theorem dX9_bitsOf_29 : decode cX9_bitsOf 29 = .ok (.fconst 2, 1) := by decide +kernel
theorem dX9_bitsOf_30 : decode cX9_bitsOf 30 = .ok (.fdiv, 1) := by decide +kernel
theorem dX9_bitsOf_31 : decode cX9_bitsOf 31 = .ok (.fstore_n 1, 1) := by decide +kernel
theorem dX9_bitsOf_32 : decode cX9_bitsOf 32 = .ok (.iinc 2 1, 3) := by decide +kernel
theorem dX9_bitsOf_35 : decode cX9_bitsOf 35 = .ok (.iinc 3 1, 3) := by decide +kernel
theorem dX9_bitsOf_38 : decode cX9_bitsOf 38 = .ok (.goto (-23), 3) := by decide +kernel
theorem dX9_bitsOf_41 : decode cX9_bitsOf 41 = .ok (.iconst 0, 1) := by decide +kernel
theorem dX9_bitsOf_42 : decode cX9_bitsOf 42 = .ok (.istore_n 3, 1) := by decide +kernel
theorem dX9_bitsOf_43 : decode cX9_bitsOf 43 = .ok (.iload_n 3, 1) := by decide +kernel
theorem dX9_bitsOf_44 : decode cX9_bitsOf 44 = .ok (.sipush 128, 3) := by decide +kernel
theorem dX9_bitsOf_47 : decode cX9_bitsOf 47 = .ok (.if_icmp .ge 22, 3) := by decide +kernel
theorem dX9_bitsOf_50 : decode cX9_bitsOf 50 = .ok (.fload_n 1, 1) := by decide +kernel
theorem dX9_bitsOf_51 : decode cX9_bitsOf 51 = .ok (.fconst 1, 1) := by decide +kernel
theorem dX9_bitsOf_52 : decode cX9_bitsOf 52 = .ok (.fcmp .g, 1) := by decide +kernel
theorem dX9_bitsOf_53 : decode cX9_bitsOf 53 = .ok (.ifCond .ge 16, 3) := by decide +kernel
theorem dX9_bitsOf_56 : decode cX9_bitsOf 56 = .ok (.fload_n 1, 1) := by decide +kernel
theorem dX9_bitsOf_57 : decode cX9_bitsOf 57 = .ok (.fconst 2, 1) := by decide +kernel
theorem dX9_bitsOf_58 : decode cX9_bitsOf 58 = .ok (.fmul, 1) := by decide +kernel
theorem dX9_bitsOf_59 : decode cX9_bitsOf 59 = .ok (.fstore_n 1, 1) := by decide +kernel
theorem dX9_bitsOf_60 : decode cX9_bitsOf 60 = .ok (.iinc 2 (-1), 3) := by decide +kernel
theorem dX9_bitsOf_63 : decode cX9_bitsOf 63 = .ok (.iinc 3 1, 3) := by decide +kernel
theorem dX9_bitsOf_66 : decode cX9_bitsOf 66 = .ok (.goto (-23), 3) := by decide +kernel
theorem dX9_bitsOf_69 : decode cX9_bitsOf 69 = .ok (.fload_n 1, 1) := by decide +kernel
theorem dX9_bitsOf_70 : decode cX9_bitsOf 70 = .ok (.fconst 1, 1) := by decide +kernel
theorem dX9_bitsOf_71 : decode cX9_bitsOf 71 = .ok (.fsub, 1) := by decide +kernel
theorem dX9_bitsOf_72 : decode cX9_bitsOf 72 = .ok (.ldc_w 306, 3) := by decide +kernel
theorem dX9_bitsOf_75 : decode cX9_bitsOf 75 = .ok (.fmul, 1) := by decide +kernel
theorem dX9_bitsOf_76 : decode cX9_bitsOf 76 = .ok (.f2i, 1) := by decide +kernel
theorem dX9_bitsOf_77 : decode cX9_bitsOf 77 = .ok (.istore_n 3, 1) := by decide +kernel
theorem dX9_bitsOf_78 : decode cX9_bitsOf 78 = .ok (.iload_n 2, 1) := by decide +kernel
theorem dX9_bitsOf_79 : decode cX9_bitsOf 79 = .ok (.bipush 23, 2) := by decide +kernel
theorem dX9_bitsOf_81 : decode cX9_bitsOf 81 = .ok (.ishl, 1) := by decide +kernel
theorem dX9_bitsOf_82 : decode cX9_bitsOf 82 = .ok (.iload_n 3, 1) := by decide +kernel
theorem dX9_bitsOf_83 : decode cX9_bitsOf 83 = .ok (.ior, 1) := by decide +kernel
theorem dX9_bitsOf_84 : decode cX9_bitsOf 84 = .ok (.ireturn, 1) := by decide +kernel
end
section
theorem dX10_init_0 : decode cX10_init 0 = .ok (.aload_n 0, 1) := by decide +kernel
theorem dX10_init_1 : decode cX10_init 1 = .ok (.invokespecial 1, 3) := by decide +kernel
theorem dX10_init_4 : decode cX10_init 4 = .ok (.aload_n 0, 1) := by decide +kernel
theorem dX10_init_5 : decode cX10_init 5 = .ok (.sipush 643, 3) := by decide +kernel
theorem dX10_init_8 : decode cX10_init 8 = .ok (.newarray .int, 2) := by decide +kernel
theorem dX10_init_10 : decode cX10_init 10 = .ok (.putfield 7, 3) := by decide +kernel
theorem dX10_init_13 : decode cX10_init 13 = .ok (.aload_n 0, 1) := by decide +kernel
theorem dX10_init_14 : decode cX10_init 14 = .ok (.sipush 2572, 3) := by decide +kernel
theorem dX10_init_17 : decode cX10_init 17 = .ok (.newarray .int, 2) := by decide +kernel
theorem dX10_init_19 : decode cX10_init 19 = .ok (.putfield 13, 3) := by decide +kernel
theorem dX10_init_22 : decode cX10_init 22 = .ok (.aload_n 0, 1) := by decide +kernel
theorem dX10_init_23 : decode cX10_init 23 = .ok (.sipush 643, 3) := by decide +kernel
theorem dX10_init_26 : decode cX10_init 26 = .ok (.newarray .int, 2) := by decide +kernel
theorem dX10_init_28 : decode cX10_init 28 = .ok (.putfield 16, 3) := by decide +kernel
theorem dX10_init_31 : decode cX10_init 31 = .ok (.aload_n 0, 1) := by decide +kernel
theorem dX10_init_32 : decode cX10_init 32 = .ok (.bipush 60, 2) := by decide +kernel
theorem dX10_init_34 : decode cX10_init 34 = .ok (.newarray .int, 2) := by decide +kernel
theorem dX10_init_36 : decode cX10_init 36 = .ok (.putfield 19, 3) := by decide +kernel
theorem dX10_init_39 : decode cX10_init 39 = .ok (.aload_n 0, 1) := by decide +kernel
theorem dX10_init_40 : decode cX10_init 40 = .ok (.iconst 4, 1) := by decide +kernel
theorem dX10_init_41 : decode cX10_init 41 = .ok (.newarray .int, 2) := by decide +kernel
theorem dX10_init_43 : decode cX10_init 43 = .ok (.putfield 22, 3) := by decide +kernel
theorem dX10_init_46 : decode cX10_init 46 = .ok (.aload_n 0, 1) := by decide +kernel
theorem dX10_init_47 : decode cX10_init 47 = .ok (.iconst 2, 1) := by decide +kernel
theorem dX10_init_48 : decode cX10_init 48 = .ok (.newarray .int, 2) := by decide +kernel
theorem dX10_init_50 : decode cX10_init 50 = .ok (.putfield 25, 3) := by decide +kernel
theorem dX10_init_53 : decode cX10_init 53 = .ok (.aload_n 0, 1) := by decide +kernel
theorem dX10_init_54 : decode cX10_init 54 = .ok (.iconst 3, 1) := by decide +kernel
theorem dX10_init_55 : decode cX10_init 55 = .ok (.newarray .int, 2) := by decide +kernel
theorem dX10_init_57 : decode cX10_init 57 = .ok (.putfield 28, 3) := by decide +kernel
theorem dX10_init_60 : decode cX10_init 60 = .ok (.aload_n 0, 1) := by decide +kernel
theorem dX10_init_61 : decode cX10_init 61 = .ok (.getfield 7, 3) := by decide +kernel
theorem dX10_init_64 : decode cX10_init 64 = .ok (.iconst 0, 1) := by decide +kernel
theorem dX10_init_65 : decode cX10_init 65 = .ok (.bipush 20, 2) := by decide +kernel
theorem dX10_init_67 : decode cX10_init 67 = .ok (.iastore, 1) := by decide +kernel
theorem dX10_init_68 : decode cX10_init 68 = .ok (.aload_n 0, 1) := by decide +kernel
theorem dX10_init_69 : decode cX10_init 69 = .ok (.getfield 7, 3) := by decide +kernel
theorem dX10_init_72 : decode cX10_init 72 = .ok (.iconst 1, 1) := by decide +kernel
theorem dX10_init_73 : decode cX10_init 73 = .ok (.iconst 5, 1) := by decide +kernel
theorem dX10_init_74 : decode cX10_init 74 = .ok (.iastore, 1) := by decide +kernel
theorem dX10_init_75 : decode cX10_init 75 = .ok (.aload_n 0, 1) := by decide +kernel
theorem dX10_init_76 : decode cX10_init 76 = .ok (.getfield 7, 3) := by decide +kernel
theorem dX10_init_79 : decode cX10_init 79 = .ok (.iconst 2, 1) := by decide +kernel
theorem dX10_init_80 : decode cX10_init 80 = .ok (.sipush 200, 3) := by decide +kernel
theorem dX10_init_83 : decode cX10_init 83 = .ok (.iastore, 1) := by decide +kernel
theorem dX10_init_84 : decode cX10_init 84 = .ok (.aload_n 0, 1) := by decide +kernel
theorem dX10_init_85 : decode cX10_init 85 = .ok (.getfield 7, 3) := by decide +kernel
theorem dX10_init_88 : decode cX10_init 88 = .ok (.iconst 3, 1) := by decide +kernel
theorem dX10_init_89 : decode cX10_init 89 = .ok (.sipush 8000, 3) := by decide +kernel
theorem dX10_init_92 : decode cX10_init 92 = .ok (.iastore, 1) := by decide +kernel
theorem dX10_init_93 : decode cX10_init 93 = .ok (.aload_n 0, 1) := by decide +kernel
theorem dX10_init_94 : decode cX10_init 94 = .ok (.getfield 7, 3) := by decide +kernel
theorem dX10_init_97 : decode cX10_init 97 = .ok (.iconst 4, 1) := by decide +kernel
theorem dX10_init_98 : decode cX10_init 98 = .ok (.sipush 150, 3) := by decide +kernel
theorem dX10_init_101 : decode cX10_init 101 = .ok (.iastore, 1) := by decide +kernel
theorem dX10_init_102 : decode cX10_init 102 = .ok (.aload_n 0, 1) := by decide +kernel
theorem dX10_init_103 : decode cX10_init 103 = .ok (.getfield 7, 3) := by decide +kernel
theorem dX10_init_106 : decode cX10_init 106 = .ok (.iconst 5, 1) := by decide +kernel
theorem dX10_init_107 : decode cX10_init 107 = .ok (.bipush 10, 2) := by decide +kernel
theorem dX10_init_109 : decode cX10_init 109 = .ok (.iastore, 1) := by decide +kernel
theorem dX10_init_110 : decode cX10_init 110 = .ok (.aload_n 0, 1) := by decide +kernel
theorem dX10_init_111 : decode cX10_init 111 = .ok (.getfield 7, 3) := by decide +kernel
theorem dX10_init_114 : decode cX10_init 114 = .ok (.bipush 6, 2) := by decide +kernel
theorem dX10_init_116 : decode cX10_init 116 = .ok (.sipush 2000, 3) := by decide +kernel
theorem dX10_init_119 : decode cX10_init 119 = .ok (.iastore, 1) := by decide +kernel
theorem dX10_init_120 : decode cX10_init 120 = .ok (.return_, 1) := by decide +kernel
theorem dX10_in_0 : decode cX10_in 0 = .ok (.iload_n 0, 1) := by decide +kernel
theorem dX10_in_1 : decode cX10_in 1 = .ok (.iload_n 1, 1) := by decide +kernel
theorem dX10_in_2 : decode cX10_in 2 = .ok (.if_icmp .lt 12, 3) := by decide +kernel
theorem dX10_in_5 : decode cX10_in 5 = .ok (.iload_n 0, 1) := by decide +kernel
theorem dX10_in_6 : decode cX10_in 6 = .ok (.iload_n 2, 1) := by decide +kernel
theorem dX10_in_7 : decode cX10_in 7 = .ok (.if_icmp .gt 7, 3) := by decide +kernel
theorem dX10_in_10 : decode cX10_in 10 = .ok (.iconst 1, 1) := by decide +kernel
theorem dX10_in_11 : decode cX10_in 11 = .ok (.goto 4, 3) := by decide +kernel
theorem dX10_in_14 : decode cX10_in 14 = .ok (.iconst 0, 1) := by decide +kernel
theorem dX10_in_15 : decode cX10_in 15 = .ok (.ireturn, 1) := by decide +kernel
theorem dX10_isVat_0 : decode cX10_isVat 0 = .ok (.iload_n 1, 1) := by decide +kernel
theorem dX10_isVat_1 : decode cX10_isVat 1 = .ok (.iconst 0, 1) := by decide +kernel
theorem dX10_isVat_2 : decode cX10_isVat 2 = .ok (.aload_n 0, 1) := by decide +kernel
theorem dX10_isVat_3 : decode cX10_isVat 3 = .ok (.getfield 7, 3) := by decide +kernel
theorem dX10_isVat_6 : decode cX10_isVat 6 = .ok (.bipush 7, 2) := by decide +kernel
theorem dX10_isVat_8 : decode cX10_isVat 8 = .ok (.iaload, 1) := by decide +kernel
theorem dX10_isVat_9 : decode cX10_isVat 9 = .ok (.iconst 1, 1) := by decide +kernel
theorem dX10_isVat_10 : decode cX10_isVat 10 = .ok (.isub, 1) := by decide +kernel
theorem dX10_isVat_11 : decode cX10_isVat 11 = .ok (.invokestatic 31, 3) := by decide +kernel
theorem dX10_isVat_14 : decode cX10_isVat 14 = .ok (.ireturn, 1) := by decide +kernel
theorem dX10_isLot_0 : decode cX10_isLot 0 = .ok (.iload_n 1, 1) := by decide +kernel
theorem dX10_isLot_1 : decode cX10_isLot 1 = .ok (.iconst 0, 1) := by decide +kernel
theorem dX10_isLot_2 : decode cX10_isLot 2 = .ok (.aload_n 0, 1) := by decide +kernel
theorem dX10_isLot_3 : decode cX10_isLot 3 = .ok (.getfield 7, 3) := by decide +kernel
theorem dX10_isLot_6 : decode cX10_isLot 6 = .ok (.bipush 8, 2) := by decide +kernel
theorem dX10_isLot_8 : decode cX10_isLot 8 = .ok (.iaload, 1) := by decide +kernel
theorem dX10_isLot_9 : decode cX10_isLot 9 = .ok (.iconst 1, 1) := by decide +kernel
theorem dX10_isLot_10 : decode cX10_isLot 10 = .ok (.isub, 1) := by decide +kernel
theorem dX10_isLot_11 : decode cX10_isLot 11 = .ok (.invokestatic 31, 3) := by decide +kernel
theorem dX10_isLot_14 : decode cX10_isLot 14 = .ok (.ireturn, 1) := by decide +kernel
theorem dX10_isOrder_0 : decode cX10_isOrder 0 = .ok (.iload_n 1, 1) := by decide +kernel
theorem dX10_isOrder_1 : decode cX10_isOrder 1 = .ok (.iconst 0, 1) := by decide +kernel
theorem dX10_isOrder_2 : decode cX10_isOrder 2 = .ok (.aload_n 0, 1) := by decide +kernel
theorem dX10_isOrder_3 : decode cX10_isOrder 3 = .ok (.getfield 7, 3) := by decide +kernel
theorem dX10_isOrder_6 : decode cX10_isOrder 6 = .ok (.bipush 9, 2) := by decide +kernel
theorem dX10_isOrder_8 : decode cX10_isOrder 8 = .ok (.iaload, 1) := by decide +kernel
theorem dX10_isOrder_9 : decode cX10_isOrder 9 = .ok (.iconst 1, 1) := by decide +kernel
theorem dX10_isOrder_10 : decode cX10_isOrder 10 = .ok (.isub, 1) := by decide +kernel
theorem dX10_isOrder_11 : decode cX10_isOrder 11 = .ok (.invokestatic 31, 3) := by decide +kernel
theorem dX10_isOrder_14 : decode cX10_isOrder 14 = .ok (.ireturn, 1) := by decide +kernel
theorem dX10_isDye_0 : decode cX10_isDye 0 = .ok (.iload_n 0, 1) := by decide +kernel
theorem dX10_isDye_1 : decode cX10_isDye 1 = .ok (.iconst 0, 1) := by decide +kernel
theorem dX10_isDye_2 : decode cX10_isDye 2 = .ok (.iconst 3, 1) := by decide +kernel
theorem dX10_isDye_3 : decode cX10_isDye 3 = .ok (.invokestatic 31, 3) := by decide +kernel
theorem dX10_isDye_6 : decode cX10_isDye 6 = .ok (.ireturn, 1) := by decide +kernel
theorem dX10_vatNumber_0 : decode cX10_vatNumber 0 = .ok (.aload_n 0, 1) := by decide +kernel
theorem dX10_vatNumber_1 : decode cX10_vatNumber 1 = .ok (.getfield 7, 3) := by decide +kernel
theorem dX10_vatNumber_4 : decode cX10_vatNumber 4 = .ok (.bipush 19, 2) := by decide +kernel
theorem dX10_vatNumber_6 : decode cX10_vatNumber 6 = .ok (.iconst 4, 1) := by decide +kernel
theorem dX10_vatNumber_7 : decode cX10_vatNumber 7 = .ok (.iload_n 1, 1) := by decide +kernel
theorem dX10_vatNumber_8 : decode cX10_vatNumber 8 = .ok (.imul, 1) := by decide +kernel
theorem dX10_vatNumber_9 : decode cX10_vatNumber 9 = .ok (.iadd, 1) := by decide +kernel
theorem dX10_vatNumber_10 : decode cX10_vatNumber 10 = .ok (.iload_n 2, 1) := by decide +kernel
theorem dX10_vatNumber_11 : decode cX10_vatNumber 11 = .ok (.iadd, 1) := by decide +kernel
theorem dX10_vatNumber_12 : decode cX10_vatNumber 12 = .ok (.iaload, 1) := by decide +kernel
theorem dX10_vatNumber_13 : decode cX10_vatNumber 13 = .ok (.ireturn, 1) := by decide +kernel
theorem dX10_lotNumber_0 : decode cX10_lotNumber 0 = .ok (.aload_n 0, 1) := by decide +kernel
theorem dX10_lotNumber_1 : decode cX10_lotNumber 1 = .ok (.getfield 7, 3) := by decide +kernel
theorem dX10_lotNumber_4 : decode cX10_lotNumber 4 = .ok (.bipush 43, 2) := by decide +kernel
theorem dX10_lotNumber_6 : decode cX10_lotNumber 6 = .ok (.bipush 15, 2) := by decide +kernel
theorem dX10_lotNumber_8 : decode cX10_lotNumber 8 = .ok (.iload_n 1, 1) := by decide +kernel
theorem dX10_lotNumber_9 : decode cX10_lotNumber 9 = .ok (.imul, 1) := by decide +kernel
theorem dX10_lotNumber_10 : decode cX10_lotNumber 10 = .ok (.iadd, 1) := by decide +kernel
theorem dX10_lotNumber_11 : decode cX10_lotNumber 11 = .ok (.iload_n 2, 1) := by decide +kernel
theorem dX10_lotNumber_12 : decode cX10_lotNumber 12 = .ok (.iadd, 1) := by decide +kernel
theorem dX10_lotNumber_13 : decode cX10_lotNumber 13 = .ok (.iaload, 1) := by decide +kernel
theorem dX10_lotNumber_14 : decode cX10_lotNumber 14 = .ok (.ireturn, 1) := by decide +kernel
theorem dX10_puts_0 : decode cX10_puts 0 = .ok (.aload_n 0, 1) := by decide +kernel
theorem dX10_puts_1 : decode cX10_puts 1 = .ok (.getfield 7, 3) := by decide +kernel
theorem dX10_puts_4 : decode cX10_puts 4 = .ok (.bipush 43, 2) := by decide +kernel
theorem dX10_puts_6 : decode cX10_puts 6 = .ok (.bipush 15, 2) := by decide +kernel
theorem dX10_puts_8 : decode cX10_puts 8 = .ok (.iload_n 1, 1) := by decide +kernel
theorem dX10_puts_9 : decode cX10_puts 9 = .ok (.imul, 1) := by decide +kernel
theorem dX10_puts_10 : decode cX10_puts 10 = .ok (.iadd, 1) := by decide +kernel
theorem dX10_puts_11 : decode cX10_puts 11 = .ok (.iload_n 2, 1) := by decide +kernel
theorem dX10_puts_12 : decode cX10_puts 12 = .ok (.iadd, 1) := by decide +kernel
theorem dX10_puts_13 : decode cX10_puts 13 = .ok (.iload_n 3, 1) := by decide +kernel
theorem dX10_puts_14 : decode cX10_puts 14 = .ok (.iastore, 1) := by decide +kernel
theorem dX10_puts_15 : decode cX10_puts 15 = .ok (.return_, 1) := by decide +kernel
theorem dX10_orderNumber_0 : decode cX10_orderNumber 0 = .ok (.aload_n 0, 1) := by decide +kernel
theorem dX10_orderNumber_1 : decode cX10_orderNumber 1 = .ok (.getfield 7, 3) := by decide +kernel
theorem dX10_orderNumber_4 : decode cX10_orderNumber 4 = .ok (.sipush 343, 3) := by decide +kernel
theorem dX10_orderNumber_7 : decode cX10_orderNumber 7 = .ok (.iconst 5, 1) := by decide +kernel
theorem dX10_orderNumber_8 : decode cX10_orderNumber 8 = .ok (.iload_n 1, 1) := by decide +kernel
theorem dX10_orderNumber_9 : decode cX10_orderNumber 9 = .ok (.imul, 1) := by decide +kernel
theorem dX10_orderNumber_10 : decode cX10_orderNumber 10 = .ok (.iadd, 1) := by decide +kernel
theorem dX10_orderNumber_11 : decode cX10_orderNumber 11 = .ok (.iload_n 2, 1) := by decide +kernel
theorem dX10_orderNumber_12 : decode cX10_orderNumber 12 = .ok (.iadd, 1) := by decide +kernel
theorem dX10_orderNumber_13 : decode cX10_orderNumber 13 = .ok (.iaload, 1) := by decide +kernel
theorem dX10_orderNumber_14 : decode cX10_orderNumber 14 = .ok (.ireturn, 1) := by decide +kernel
theorem dX10_isSold_0 : decode cX10_isSold 0 = .ok (.aload_n 0, 1) := by decide +kernel
theorem dX10_isSold_1 : decode cX10_isSold 1 = .ok (.iload_n 1, 1) := by decide +kernel
theorem dX10_isSold_2 : decode cX10_isSold 2 = .ok (.bipush 13, 2) := by decide +kernel
theorem dX10_isSold_4 : decode cX10_isSold 4 = .ok (.invokevirtual 35, 3) := by decide +kernel
theorem dX10_isSold_7 : decode cX10_isSold 7 = .ok (.ifCond .le 7, 3) := by decide +kernel
theorem dX10_isSold_10 : decode cX10_isSold 10 = .ok (.iconst 1, 1) := by decide +kernel
theorem dX10_isSold_11 : decode cX10_isSold 11 = .ok (.goto 4, 3) := by decide +kernel
theorem dX10_isSold_14 : decode cX10_isSold 14 = .ok (.iconst 0, 1) := by decide +kernel
theorem dX10_isSold_15 : decode cX10_isSold 15 = .ok (.ireturn, 1) := by decide +kernel
theorem dX10_hangs_0 : decode cX10_hangs 0 = .ok (.aload_n 0, 1) := by decide +kernel
theorem dX10_hangs_1 : decode cX10_hangs 1 = .ok (.iload_n 1, 1) := by decide +kernel
theorem dX10_hangs_2 : decode cX10_hangs 2 = .ok (.bipush 10, 2) := by decide +kernel
theorem dX10_hangs_4 : decode cX10_hangs 4 = .ok (.invokevirtual 35, 3) := by decide +kernel
theorem dX10_hangs_7 : decode cX10_hangs 7 = .ok (.iconst 1, 1) := by decide +kernel
theorem dX10_hangs_8 : decode cX10_hangs 8 = .ok (.if_icmp .ne 7, 3) := by decide +kernel
theorem dX10_hangs_11 : decode cX10_hangs 11 = .ok (.iconst 1, 1) := by decide +kernel
theorem dX10_hangs_12 : decode cX10_hangs 12 = .ok (.goto 4, 3) := by decide +kernel
theorem dX10_hangs_15 : decode cX10_hangs 15 = .ok (.iconst 0, 1) := by decide +kernel
theorem dX10_hangs_16 : decode cX10_hangs 16 = .ok (.ireturn, 1) := by decide +kernel
theorem dX10_notes_0 : decode cX10_notes 0 = .ok (.aload_n 0, 1) := by decide +kernel
theorem dX10_notes_1 : decode cX10_notes 1 = .ok (.getfield 39, 3) := by decide +kernel
theorem dX10_notes_4 : decode cX10_notes 4 = .ok (.iconst 4, 1) := by decide +kernel
theorem dX10_notes_5 : decode cX10_notes 5 = .ok (.if_icmp .ne 41, 3) := by decide +kernel
theorem dX10_notes_8 : decode cX10_notes 8 = .ok (.sipush 643, 3) := by decide +kernel
theorem dX10_notes_11 : decode cX10_notes 11 = .ok (.istore_n 1, 1) := by decide +kernel
theorem dX10_notes_12 : decode cX10_notes 12 = .ok (.iload_n 1, 1) := by decide +kernel
theorem dX10_notes_13 : decode cX10_notes 13 = .ok (.sipush 2572, 3) := by decide +kernel
theorem dX10_notes_16 : decode cX10_notes 16 = .ok (.if_icmp .ge 25, 3) := by decide +kernel
theorem dX10_notes_19 : decode cX10_notes 19 = .ok (.aload_n 0, 1) := by decide +kernel
theorem dX10_notes_20 : decode cX10_notes 20 = .ok (.getfield 13, 3) := by decide +kernel
theorem dX10_notes_23 : decode cX10_notes 23 = .ok (.iload_n 1, 1) := by decide +kernel
theorem dX10_notes_24 : decode cX10_notes 24 = .ok (.sipush 643, 3) := by decide +kernel
theorem dX10_notes_27 : decode cX10_notes 27 = .ok (.isub, 1) := by decide +kernel
theorem dX10_notes_28 : decode cX10_notes 28 = .ok (.aload_n 0, 1) := by decide +kernel
theorem dX10_notes_29 : decode cX10_notes 29 = .ok (.getfield 13, 3) := by decide +kernel
theorem dX10_notes_32 : decode cX10_notes 32 = .ok (.iload_n 1, 1) := by decide +kernel
theorem dX10_notes_33 : decode cX10_notes 33 = .ok (.iaload, 1) := by decide +kernel
theorem dX10_notes_34 : decode cX10_notes 34 = .ok (.iastore, 1) := by decide +kernel
theorem dX10_notes_35 : decode cX10_notes 35 = .ok (.iinc 1 1, 3) := by decide +kernel
theorem dX10_notes_38 : decode cX10_notes 38 = .ok (.goto (-26), 3) := by decide +kernel
theorem dX10_notes_41 : decode cX10_notes 41 = .ok (.aload_n 0, 1) := by decide +kernel
theorem dX10_notes_42 : decode cX10_notes 42 = .ok (.iconst 3, 1) := by decide +kernel
theorem dX10_notes_43 : decode cX10_notes 43 = .ok (.putfield 39, 3) := by decide +kernel
theorem dX10_notes_46 : decode cX10_notes 46 = .ok (.iconst 0, 1) := by decide +kernel
theorem dX10_notes_47 : decode cX10_notes 47 = .ok (.istore_n 1, 1) := by decide +kernel
theorem dX10_notes_48 : decode cX10_notes 48 = .ok (.iload_n 1, 1) := by decide +kernel
theorem dX10_notes_49 : decode cX10_notes 49 = .ok (.sipush 643, 3) := by decide +kernel
theorem dX10_notes_52 : decode cX10_notes 52 = .ok (.if_icmp .ge 30, 3) := by decide +kernel
theorem dX10_notes_55 : decode cX10_notes 55 = .ok (.aload_n 0, 1) := by decide +kernel
theorem dX10_notes_56 : decode cX10_notes 56 = .ok (.getfield 13, 3) := by decide +kernel
theorem dX10_notes_59 : decode cX10_notes 59 = .ok (.sipush 643, 3) := by decide +kernel
theorem dX10_notes_62 : decode cX10_notes 62 = .ok (.aload_n 0, 1) := by decide +kernel
theorem dX10_notes_63 : decode cX10_notes 63 = .ok (.getfield 39, 3) := by decide +kernel
theorem dX10_notes_66 : decode cX10_notes 66 = .ok (.imul, 1) := by decide +kernel
theorem dX10_notes_67 : decode cX10_notes 67 = .ok (.iload_n 1, 1) := by decide +kernel
theorem dX10_notes_68 : decode cX10_notes 68 = .ok (.iadd, 1) := by decide +kernel
theorem dX10_notes_69 : decode cX10_notes 69 = .ok (.aload_n 0, 1) := by decide +kernel
theorem dX10_notes_70 : decode cX10_notes 70 = .ok (.getfield 7, 3) := by decide +kernel
theorem dX10_notes_73 : decode cX10_notes 73 = .ok (.iload_n 1, 1) := by decide +kernel
theorem dX10_notes_74 : decode cX10_notes 74 = .ok (.iaload, 1) := by decide +kernel
theorem dX10_notes_75 : decode cX10_notes 75 = .ok (.iastore, 1) := by decide +kernel
theorem dX10_notes_76 : decode cX10_notes 76 = .ok (.iinc 1 1, 3) := by decide +kernel
theorem dX10_notes_79 : decode cX10_notes 79 = .ok (.goto (-31), 3) := by decide +kernel
theorem dX10_notes_82 : decode cX10_notes 82 = .ok (.aload_n 0, 1) := by decide +kernel
theorem dX10_notes_83 : decode cX10_notes 83 = .ok (.dup, 1) := by decide +kernel
theorem dX10_notes_84 : decode cX10_notes 84 = .ok (.getfield 39, 3) := by decide +kernel
theorem dX10_notes_87 : decode cX10_notes 87 = .ok (.iconst 1, 1) := by decide +kernel
theorem dX10_notes_88 : decode cX10_notes 88 = .ok (.iadd, 1) := by decide +kernel
theorem dX10_notes_89 : decode cX10_notes 89 = .ok (.putfield 39, 3) := by decide +kernel
theorem dX10_notes_92 : decode cX10_notes 92 = .ok (.return_, 1) := by decide +kernel
theorem dX10_asides_0 : decode cX10_asides 0 = .ok (.iconst 0, 1) := by decide +kernel
theorem dX10_asides_1 : decode cX10_asides 1 = .ok (.istore_n 1, 1) := by decide +kernel
theorem dX10_asides_2 : decode cX10_asides 2 = .ok (.iload_n 1, 1) := by decide +kernel
theorem dX10_asides_3 : decode cX10_asides 3 = .ok (.sipush 643, 3) := by decide +kernel
theorem dX10_asides_6 : decode cX10_asides 6 = .ok (.if_icmp .ge 21, 3) := by decide +kernel
theorem dX10_asides_9 : decode cX10_asides 9 = .ok (.aload_n 0, 1) := by decide +kernel
theorem dX10_asides_10 : decode cX10_asides 10 = .ok (.getfield 16, 3) := by decide +kernel
theorem dX10_asides_13 : decode cX10_asides 13 = .ok (.iload_n 1, 1) := by decide +kernel
theorem dX10_asides_14 : decode cX10_asides 14 = .ok (.aload_n 0, 1) := by decide +kernel
theorem dX10_asides_15 : decode cX10_asides 15 = .ok (.getfield 7, 3) := by decide +kernel
theorem dX10_asides_18 : decode cX10_asides 18 = .ok (.iload_n 1, 1) := by decide +kernel
theorem dX10_asides_19 : decode cX10_asides 19 = .ok (.iaload, 1) := by decide +kernel
theorem dX10_asides_20 : decode cX10_asides 20 = .ok (.iastore, 1) := by decide +kernel
theorem dX10_asides_21 : decode cX10_asides 21 = .ok (.iinc 1 1, 3) := by decide +kernel
theorem dX10_asides_24 : decode cX10_asides 24 = .ok (.goto (-22), 3) := by decide +kernel
theorem dX10_asides_27 : decode cX10_asides 27 = .ok (.return_, 1) := by decide +kernel
theorem dX10_backs_0 : decode cX10_backs 0 = .ok (.iconst 0, 1) := by decide +kernel
theorem dX10_backs_1 : decode cX10_backs 1 = .ok (.istore_n 1, 1) := by decide +kernel
theorem dX10_backs_2 : decode cX10_backs 2 = .ok (.iload_n 1, 1) := by decide +kernel
theorem dX10_backs_3 : decode cX10_backs 3 = .ok (.sipush 643, 3) := by decide +kernel
theorem dX10_backs_6 : decode cX10_backs 6 = .ok (.if_icmp .ge 21, 3) := by decide +kernel
theorem dX10_backs_9 : decode cX10_backs 9 = .ok (.aload_n 0, 1) := by decide +kernel
theorem dX10_backs_10 : decode cX10_backs 10 = .ok (.getfield 7, 3) := by decide +kernel
theorem dX10_backs_13 : decode cX10_backs 13 = .ok (.iload_n 1, 1) := by decide +kernel
theorem dX10_backs_14 : decode cX10_backs 14 = .ok (.aload_n 0, 1) := by decide +kernel
theorem dX10_backs_15 : decode cX10_backs 15 = .ok (.getfield 16, 3) := by decide +kernel
theorem dX10_backs_18 : decode cX10_backs 18 = .ok (.iload_n 1, 1) := by decide +kernel
theorem dX10_backs_19 : decode cX10_backs 19 = .ok (.iaload, 1) := by decide +kernel
theorem dX10_backs_20 : decode cX10_backs 20 = .ok (.iastore, 1) := by decide +kernel
theorem dX10_backs_21 : decode cX10_backs 21 = .ok (.iinc 1 1, 3) := by decide +kernel
theorem dX10_backs_24 : decode cX10_backs 24 = .ok (.goto (-22), 3) := by decide +kernel
theorem dX10_backs_27 : decode cX10_backs 27 = .ok (.return_, 1) := by decide +kernel
theorem dX10_done_0 : decode cX10_done 0 = .ok (.iload_n 1, 1) := by decide +kernel
theorem dX10_done_1 : decode cX10_done 1 = .ok (.ifCond .lt 52, 3) := by decide +kernel
theorem dX10_done_4 : decode cX10_done 4 = .ok (.iconst 0, 1) := by decide +kernel
theorem dX10_done_5 : decode cX10_done 5 = .ok (.istore_n 2, 1) := by decide +kernel
theorem dX10_done_6 : decode cX10_done 6 = .ok (.iload_n 2, 1) := by decide +kernel
theorem dX10_done_7 : decode cX10_done 7 = .ok (.sipush 643, 3) := by decide +kernel
theorem dX10_done_10 : decode cX10_done 10 = .ok (.if_icmp .ge 35, 3) := by decide +kernel
theorem dX10_done_13 : decode cX10_done 13 = .ok (.aload_n 0, 1) := by decide +kernel
theorem dX10_done_14 : decode cX10_done 14 = .ok (.getfield 7, 3) := by decide +kernel
theorem dX10_done_17 : decode cX10_done 17 = .ok (.iload_n 2, 1) := by decide +kernel
theorem dX10_done_18 : decode cX10_done 18 = .ok (.iaload, 1) := by decide +kernel
theorem dX10_done_19 : decode cX10_done 19 = .ok (.istore_n 3, 1) := by decide +kernel
theorem dX10_done_20 : decode cX10_done 20 = .ok (.aload_n 0, 1) := by decide +kernel
theorem dX10_done_21 : decode cX10_done 21 = .ok (.getfield 7, 3) := by decide +kernel
theorem dX10_done_24 : decode cX10_done 24 = .ok (.iload_n 2, 1) := by decide +kernel
theorem dX10_done_25 : decode cX10_done 25 = .ok (.aload_n 0, 1) := by decide +kernel
theorem dX10_done_26 : decode cX10_done 26 = .ok (.getfield 16, 3) := by decide +kernel
theorem dX10_done_29 : decode cX10_done 29 = .ok (.iload_n 2, 1) := by decide +kernel
theorem dX10_done_30 : decode cX10_done 30 = .ok (.iaload, 1) := by decide +kernel
theorem dX10_done_31 : decode cX10_done 31 = .ok (.iastore, 1) := by decide +kernel
theorem dX10_done_32 : decode cX10_done 32 = .ok (.aload_n 0, 1) := by decide +kernel
theorem dX10_done_33 : decode cX10_done 33 = .ok (.getfield 16, 3) := by decide +kernel
theorem dX10_done_36 : decode cX10_done 36 = .ok (.iload_n 2, 1) := by decide +kernel
theorem dX10_done_37 : decode cX10_done 37 = .ok (.iload_n 3, 1) := by decide +kernel
theorem dX10_done_38 : decode cX10_done 38 = .ok (.iastore, 1) := by decide +kernel
theorem dX10_done_39 : decode cX10_done 39 = .ok (.iinc 2 1, 3) := by decide +kernel
theorem dX10_done_42 : decode cX10_done 42 = .ok (.goto (-36), 3) := by decide +kernel
theorem dX10_done_45 : decode cX10_done 45 = .ok (.aload_n 0, 1) := by decide +kernel
theorem dX10_done_46 : decode cX10_done 46 = .ok (.invokevirtual 43, 3) := by decide +kernel
theorem dX10_done_49 : decode cX10_done 49 = .ok (.aload_n 0, 1) := by decide +kernel
theorem dX10_done_50 : decode cX10_done 50 = .ok (.invokevirtual 46, 3) := by decide +kernel
theorem dX10_done_53 : decode cX10_done 53 = .ok (.iload_n 1, 1) := by decide +kernel
theorem dX10_done_54 : decode cX10_done 54 = .ok (.ireturn, 1) := by decide +kernel
theorem dX10_undo_0 : decode cX10_undo 0 = .ok (.aload_n 0, 1) := by decide +kernel
theorem dX10_undo_1 : decode cX10_undo 1 = .ok (.getfield 39, 3) := by decide +kernel
theorem dX10_undo_4 : decode cX10_undo 4 = .ok (.ifCond .ne 6, 3) := by decide +kernel
theorem dX10_undo_7 : decode cX10_undo 7 = .ok (.bipush (-2), 2) := by decide +kernel
theorem dX10_undo_9 : decode cX10_undo 9 = .ok (.ireturn, 1) := by decide +kernel
theorem dX10_undo_10 : decode cX10_undo 10 = .ok (.aload_n 0, 1) := by decide +kernel
theorem dX10_undo_11 : decode cX10_undo 11 = .ok (.dup, 1) := by decide +kernel
theorem dX10_undo_12 : decode cX10_undo 12 = .ok (.getfield 39, 3) := by decide +kernel
theorem dX10_undo_15 : decode cX10_undo 15 = .ok (.iconst 1, 1) := by decide +kernel
theorem dX10_undo_16 : decode cX10_undo 16 = .ok (.isub, 1) := by decide +kernel
theorem dX10_undo_17 : decode cX10_undo 17 = .ok (.putfield 39, 3) := by decide +kernel
theorem dX10_undo_20 : decode cX10_undo 20 = .ok (.iconst 0, 1) := by decide +kernel
theorem dX10_undo_21 : decode cX10_undo 21 = .ok (.istore_n 1, 1) := by decide +kernel
theorem dX10_undo_22 : decode cX10_undo 22 = .ok (.iload_n 1, 1) := by decide +kernel
theorem dX10_undo_23 : decode cX10_undo 23 = .ok (.sipush 643, 3) := by decide +kernel
theorem dX10_undo_26 : decode cX10_undo 26 = .ok (.if_icmp .ge 30, 3) := by decide +kernel
theorem dX10_undo_29 : decode cX10_undo 29 = .ok (.aload_n 0, 1) := by decide +kernel
theorem dX10_undo_30 : decode cX10_undo 30 = .ok (.getfield 7, 3) := by decide +kernel
theorem dX10_undo_33 : decode cX10_undo 33 = .ok (.iload_n 1, 1) := by decide +kernel
theorem dX10_undo_34 : decode cX10_undo 34 = .ok (.aload_n 0, 1) := by decide +kernel
theorem dX10_undo_35 : decode cX10_undo 35 = .ok (.getfield 13, 3) := by decide +kernel
theorem dX10_undo_38 : decode cX10_undo 38 = .ok (.sipush 643, 3) := by decide +kernel
theorem dX10_undo_41 : decode cX10_undo 41 = .ok (.aload_n 0, 1) := by decide +kernel
theorem dX10_undo_42 : decode cX10_undo 42 = .ok (.getfield 39, 3) := by decide +kernel
theorem dX10_undo_45 : decode cX10_undo 45 = .ok (.imul, 1) := by decide +kernel
theorem dX10_undo_46 : decode cX10_undo 46 = .ok (.iload_n 1, 1) := by decide +kernel
theorem dX10_undo_47 : decode cX10_undo 47 = .ok (.iadd, 1) := by decide +kernel
theorem dX10_undo_48 : decode cX10_undo 48 = .ok (.iaload, 1) := by decide +kernel
theorem dX10_undo_49 : decode cX10_undo 49 = .ok (.iastore, 1) := by decide +kernel
theorem dX10_undo_50 : decode cX10_undo 50 = .ok (.iinc 1 1, 3) := by decide +kernel
theorem dX10_undo_53 : decode cX10_undo 53 = .ok (.goto (-31), 3) := by decide +kernel
theorem dX10_undo_56 : decode cX10_undo 56 = .ok (.aload_n 0, 1) := by decide +kernel
theorem dX10_undo_57 : decode cX10_undo 57 = .ok (.getfield 39, 3) := by decide +kernel
theorem dX10_undo_60 : decode cX10_undo 60 = .ok (.ireturn, 1) := by decide +kernel
theorem dX10_vat_0 : decode cX10_vat 0 = .ok (.iload_n 1, 1) := by decide +kernel
theorem dX10_vat_1 : decode cX10_vat 1 = .ok (.invokestatic 49, 3) := by decide +kernel
theorem dX10_vat_4 : decode cX10_vat 4 = .ok (.ifCond .eq 15, 3) := by decide +kernel
theorem dX10_vat_7 : decode cX10_vat 7 = .ok (.iload_n 2, 1) := by decide +kernel
theorem dX10_vat_8 : decode cX10_vat 8 = .ok (.bipush 10, 2) := by decide +kernel
theorem dX10_vat_10 : decode cX10_vat 10 = .ok (.sipush 1000, 3) := by decide +kernel
theorem dX10_vat_13 : decode cX10_vat 13 = .ok (.invokestatic 31, 3) := by decide +kernel
theorem dX10_vat_16 : decode cX10_vat 16 = .ok (.ifCond .ne 5, 3) := by decide +kernel
theorem dX10_vat_19 : decode cX10_vat 19 = .ok (.iconst (-1), 1) := by decide +kernel
theorem dX10_vat_20 : decode cX10_vat 20 = .ok (.ireturn, 1) := by decide +kernel
theorem dX10_vat_21 : decode cX10_vat 21 = .ok (.aload_n 0, 1) := by decide +kernel
theorem dX10_vat_22 : decode cX10_vat 22 = .ok (.getfield 7, 3) := by decide +kernel
theorem dX10_vat_25 : decode cX10_vat 25 = .ok (.bipush 7, 2) := by decide +kernel
theorem dX10_vat_27 : decode cX10_vat 27 = .ok (.iaload, 1) := by decide +kernel
theorem dX10_vat_28 : decode cX10_vat 28 = .ok (.bipush 6, 2) := by decide +kernel
theorem dX10_vat_30 : decode cX10_vat 30 = .ok (.if_icmp .ne 6, 3) := by decide +kernel
theorem dX10_vat_33 : decode cX10_vat 33 = .ok (.bipush (-3), 2) := by decide +kernel
theorem dX10_vat_35 : decode cX10_vat 35 = .ok (.ireturn, 1) := by decide +kernel
theorem dX10_vat_36 : decode cX10_vat 36 = .ok (.aload_n 0, 1) := by decide +kernel
theorem dX10_vat_37 : decode cX10_vat 37 = .ok (.invokevirtual 43, 3) := by decide +kernel
theorem dX10_vat_40 : decode cX10_vat 40 = .ok (.bipush 19, 2) := by decide +kernel
theorem dX10_vat_42 : decode cX10_vat 42 = .ok (.iconst 4, 1) := by decide +kernel
theorem dX10_vat_43 : decode cX10_vat 43 = .ok (.aload_n 0, 1) := by decide +kernel
theorem dX10_vat_44 : decode cX10_vat 44 = .ok (.getfield 7, 3) := by decide +kernel
theorem dX10_vat_47 : decode cX10_vat 47 = .ok (.bipush 7, 2) := by decide +kernel
theorem dX10_vat_49 : decode cX10_vat 49 = .ok (.iaload, 1) := by decide +kernel
theorem dX10_vat_50 : decode cX10_vat 50 = .ok (.imul, 1) := by decide +kernel
theorem dX10_vat_51 : decode cX10_vat 51 = .ok (.iadd, 1) := by decide +kernel
theorem dX10_vat_52 : decode cX10_vat 52 = .ok (.istore_n 3, 1) := by decide +kernel
theorem dX10_vat_53 : decode cX10_vat 53 = .ok (.aload_n 0, 1) := by decide +kernel
theorem dX10_vat_54 : decode cX10_vat 54 = .ok (.getfield 7, 3) := by decide +kernel
theorem dX10_vat_57 : decode cX10_vat 57 = .ok (.iload_n 3, 1) := by decide +kernel
theorem dX10_vat_58 : decode cX10_vat 58 = .ok (.iload_n 1, 1) := by decide +kernel
theorem dX10_vat_59 : decode cX10_vat 59 = .ok (.iastore, 1) := by decide +kernel
theorem dX10_vat_60 : decode cX10_vat 60 = .ok (.aload_n 0, 1) := by decide +kernel
theorem dX10_vat_61 : decode cX10_vat 61 = .ok (.getfield 7, 3) := by decide +kernel
theorem dX10_vat_64 : decode cX10_vat 64 = .ok (.iload_n 3, 1) := by decide +kernel
theorem dX10_vat_65 : decode cX10_vat 65 = .ok (.iconst 1, 1) := by decide +kernel
theorem dX10_vat_66 : decode cX10_vat 66 = .ok (.iadd, 1) := by decide +kernel
theorem dX10_vat_67 : decode cX10_vat 67 = .ok (.iload_n 2, 1) := by decide +kernel
theorem dX10_vat_68 : decode cX10_vat 68 = .ok (.iastore, 1) := by decide +kernel
theorem dX10_vat_69 : decode cX10_vat 69 = .ok (.aload_n 0, 1) := by decide +kernel
theorem dX10_vat_70 : decode cX10_vat 70 = .ok (.getfield 7, 3) := by decide +kernel
theorem dX10_vat_73 : decode cX10_vat 73 = .ok (.iload_n 3, 1) := by decide +kernel
theorem dX10_vat_74 : decode cX10_vat 74 = .ok (.iconst 2, 1) := by decide +kernel
theorem dX10_vat_75 : decode cX10_vat 75 = .ok (.iadd, 1) := by decide +kernel
theorem dX10_vat_76 : decode cX10_vat 76 = .ok (.iconst 0, 1) := by decide +kernel
theorem dX10_vat_77 : decode cX10_vat 77 = .ok (.iastore, 1) := by decide +kernel
theorem dX10_vat_78 : decode cX10_vat 78 = .ok (.aload_n 0, 1) := by decide +kernel
theorem dX10_vat_79 : decode cX10_vat 79 = .ok (.getfield 7, 3) := by decide +kernel
theorem dX10_vat_82 : decode cX10_vat 82 = .ok (.iload_n 3, 1) := by decide +kernel
theorem dX10_vat_83 : decode cX10_vat 83 = .ok (.iconst 3, 1) := by decide +kernel
theorem dX10_vat_84 : decode cX10_vat 84 = .ok (.iadd, 1) := by decide +kernel
theorem dX10_vat_85 : decode cX10_vat 85 = .ok (.iconst 0, 1) := by decide +kernel
theorem dX10_vat_86 : decode cX10_vat 86 = .ok (.iastore, 1) := by decide +kernel
theorem dX10_vat_87 : decode cX10_vat 87 = .ok (.aload_n 0, 1) := by decide +kernel
theorem dX10_vat_88 : decode cX10_vat 88 = .ok (.getfield 7, 3) := by decide +kernel
theorem dX10_vat_91 : decode cX10_vat 91 = .ok (.bipush 7, 2) := by decide +kernel
theorem dX10_vat_93 : decode cX10_vat 93 = .ok (.dup2, 1) := by decide +kernel
theorem dX10_vat_94 : decode cX10_vat 94 = .ok (.iaload, 1) := by decide +kernel
theorem dX10_vat_95 : decode cX10_vat 95 = .ok (.iconst 1, 1) := by decide +kernel
theorem dX10_vat_96 : decode cX10_vat 96 = .ok (.iadd, 1) := by decide +kernel
theorem dX10_vat_97 : decode cX10_vat 97 = .ok (.iastore, 1) := by decide +kernel
theorem dX10_vat_98 : decode cX10_vat 98 = .ok (.aload_n 0, 1) := by decide +kernel
theorem dX10_vat_99 : decode cX10_vat 99 = .ok (.getfield 7, 3) := by decide +kernel
theorem dX10_vat_102 : decode cX10_vat 102 = .ok (.bipush 7, 2) := by decide +kernel
theorem dX10_vat_104 : decode cX10_vat 104 = .ok (.iaload, 1) := by decide +kernel
theorem dX10_vat_105 : decode cX10_vat 105 = .ok (.iconst 1, 1) := by decide +kernel
theorem dX10_vat_106 : decode cX10_vat 106 = .ok (.isub, 1) := by decide +kernel
theorem dX10_vat_107 : decode cX10_vat 107 = .ok (.ireturn, 1) := by decide +kernel
theorem dX10_weigh_0 : decode cX10_weigh 0 = .ok (.aload_n 0, 1) := by decide +kernel
theorem dX10_weigh_1 : decode cX10_weigh 1 = .ok (.iload_n 1, 1) := by decide +kernel
theorem dX10_weigh_2 : decode cX10_weigh 2 = .ok (.invokevirtual 53, 3) := by decide +kernel
theorem dX10_weigh_5 : decode cX10_weigh 5 = .ok (.ifCond .eq 13, 3) := by decide +kernel
theorem dX10_weigh_8 : decode cX10_weigh 8 = .ok (.iload_n 2, 1) := by decide +kernel
theorem dX10_weigh_9 : decode cX10_weigh 9 = .ok (.iconst 1, 1) := by decide +kernel
theorem dX10_weigh_10 : decode cX10_weigh 10 = .ok (.ldc 56, 2) := by decide +kernel
theorem dX10_weigh_12 : decode cX10_weigh 12 = .ok (.invokestatic 31, 3) := by decide +kernel
theorem dX10_weigh_15 : decode cX10_weigh 15 = .ok (.ifCond .ne 5, 3) := by decide +kernel
theorem dX10_weigh_18 : decode cX10_weigh 18 = .ok (.iconst (-1), 1) := by decide +kernel
theorem dX10_weigh_19 : decode cX10_weigh 19 = .ok (.ireturn, 1) := by decide +kernel
theorem dX10_weigh_20 : decode cX10_weigh 20 = .ok (.aload_n 0, 1) := by decide +kernel
theorem dX10_weigh_21 : decode cX10_weigh 21 = .ok (.iload_n 1, 1) := by decide +kernel
theorem dX10_weigh_22 : decode cX10_weigh 22 = .ok (.iconst 0, 1) := by decide +kernel
theorem dX10_weigh_23 : decode cX10_weigh 23 = .ok (.invokevirtual 57, 3) := by decide +kernel
theorem dX10_weigh_26 : decode cX10_weigh 26 = .ok (.istore_n 3, 1) := by decide +kernel
theorem dX10_weigh_27 : decode cX10_weigh 27 = .ok (.aload_n 0, 1) := by decide +kernel
theorem dX10_weigh_28 : decode cX10_weigh 28 = .ok (.getfield 7, 3) := by decide +kernel
theorem dX10_weigh_31 : decode cX10_weigh 31 = .ok (.bipush 11, 2) := by decide +kernel
theorem dX10_weigh_33 : decode cX10_weigh 33 = .ok (.iload_n 3, 1) := by decide +kernel
theorem dX10_weigh_34 : decode cX10_weigh 34 = .ok (.iadd, 1) := by decide +kernel
theorem dX10_weigh_35 : decode cX10_weigh 35 = .ok (.iaload, 1) := by decide +kernel
theorem dX10_weigh_36 : decode cX10_weigh 36 = .ok (.iload_n 2, 1) := by decide +kernel
theorem dX10_weigh_37 : decode cX10_weigh 37 = .ok (.iadd, 1) := by decide +kernel
theorem dX10_weigh_38 : decode cX10_weigh 38 = .ok (.ldc 60, 2) := by decide +kernel
theorem dX10_weigh_40 : decode cX10_weigh 40 = .ok (.if_icmp .le 6, 3) := by decide +kernel
theorem dX10_weigh_43 : decode cX10_weigh 43 = .ok (.bipush (-3), 2) := by decide +kernel
theorem dX10_weigh_45 : decode cX10_weigh 45 = .ok (.ireturn, 1) := by decide +kernel
theorem dX10_weigh_46 : decode cX10_weigh 46 = .ok (.aload_n 0, 1) := by decide +kernel
theorem dX10_weigh_47 : decode cX10_weigh 47 = .ok (.invokevirtual 43, 3) := by decide +kernel
theorem dX10_weigh_50 : decode cX10_weigh 50 = .ok (.aload_n 0, 1) := by decide +kernel
theorem dX10_weigh_51 : decode cX10_weigh 51 = .ok (.getfield 7, 3) := by decide +kernel
theorem dX10_weigh_54 : decode cX10_weigh 54 = .ok (.bipush 11, 2) := by decide +kernel
theorem dX10_weigh_56 : decode cX10_weigh 56 = .ok (.iload_n 3, 1) := by decide +kernel
theorem dX10_weigh_57 : decode cX10_weigh 57 = .ok (.iadd, 1) := by decide +kernel
theorem dX10_weigh_58 : decode cX10_weigh 58 = .ok (.dup2, 1) := by decide +kernel
theorem dX10_weigh_59 : decode cX10_weigh 59 = .ok (.iaload, 1) := by decide +kernel
theorem dX10_weigh_60 : decode cX10_weigh 60 = .ok (.iload_n 2, 1) := by decide +kernel
theorem dX10_weigh_61 : decode cX10_weigh 61 = .ok (.iadd, 1) := by decide +kernel
theorem dX10_weigh_62 : decode cX10_weigh 62 = .ok (.iastore, 1) := by decide +kernel
theorem dX10_weigh_63 : decode cX10_weigh 63 = .ok (.aload_n 0, 1) := by decide +kernel
theorem dX10_weigh_64 : decode cX10_weigh 64 = .ok (.getfield 7, 3) := by decide +kernel
theorem dX10_weigh_67 : decode cX10_weigh 67 = .ok (.bipush 19, 2) := by decide +kernel
theorem dX10_weigh_69 : decode cX10_weigh 69 = .ok (.iconst 4, 1) := by decide +kernel
theorem dX10_weigh_70 : decode cX10_weigh 70 = .ok (.iload_n 1, 1) := by decide +kernel
theorem dX10_weigh_71 : decode cX10_weigh 71 = .ok (.imul, 1) := by decide +kernel
theorem dX10_weigh_72 : decode cX10_weigh 72 = .ok (.iadd, 1) := by decide +kernel
theorem dX10_weigh_73 : decode cX10_weigh 73 = .ok (.iconst 2, 1) := by decide +kernel
theorem dX10_weigh_74 : decode cX10_weigh 74 = .ok (.iadd, 1) := by decide +kernel
theorem dX10_weigh_75 : decode cX10_weigh 75 = .ok (.dup2, 1) := by decide +kernel
theorem dX10_weigh_76 : decode cX10_weigh 76 = .ok (.iaload, 1) := by decide +kernel
theorem dX10_weigh_77 : decode cX10_weigh 77 = .ok (.iload_n 2, 1) := by decide +kernel
theorem dX10_weigh_78 : decode cX10_weigh 78 = .ok (.iadd, 1) := by decide +kernel
theorem dX10_weigh_79 : decode cX10_weigh 79 = .ok (.iastore, 1) := by decide +kernel
theorem dX10_weigh_80 : decode cX10_weigh 80 = .ok (.aload_n 0, 1) := by decide +kernel
theorem dX10_weigh_81 : decode cX10_weigh 81 = .ok (.iload_n 1, 1) := by decide +kernel
theorem dX10_weigh_82 : decode cX10_weigh 82 = .ok (.iconst 2, 1) := by decide +kernel
theorem dX10_weigh_83 : decode cX10_weigh 83 = .ok (.invokevirtual 57, 3) := by decide +kernel
theorem dX10_weigh_86 : decode cX10_weigh 86 = .ok (.ireturn, 1) := by decide +kernel
theorem dX10_drains_0 : decode cX10_drains 0 = .ok (.aload_n 0, 1) := by decide +kernel
theorem dX10_drains_1 : decode cX10_drains 1 = .ok (.iload_n 1, 1) := by decide +kernel
theorem dX10_drains_2 : decode cX10_drains 2 = .ok (.invokevirtual 53, 3) := by decide +kernel
theorem dX10_drains_5 : decode cX10_drains 5 = .ok (.ifCond .ne 5, 3) := by decide +kernel
theorem dX10_drains_8 : decode cX10_drains 8 = .ok (.iconst (-1), 1) := by decide +kernel
theorem dX10_drains_9 : decode cX10_drains 9 = .ok (.ireturn, 1) := by decide +kernel
theorem dX10_drains_10 : decode cX10_drains 10 = .ok (.aload_n 0, 1) := by decide +kernel
theorem dX10_drains_11 : decode cX10_drains 11 = .ok (.iload_n 1, 1) := by decide +kernel
theorem dX10_drains_12 : decode cX10_drains 12 = .ok (.iconst 2, 1) := by decide +kernel
theorem dX10_drains_13 : decode cX10_drains 13 = .ok (.invokevirtual 57, 3) := by decide +kernel
theorem dX10_drains_16 : decode cX10_drains 16 = .ok (.istore_n 2, 1) := by decide +kernel
theorem dX10_drains_17 : decode cX10_drains 17 = .ok (.aload_n 0, 1) := by decide +kernel
theorem dX10_drains_18 : decode cX10_drains 18 = .ok (.getfield 7, 3) := by decide +kernel
theorem dX10_drains_21 : decode cX10_drains 21 = .ok (.bipush 15, 2) := by decide +kernel
theorem dX10_drains_23 : decode cX10_drains 23 = .ok (.aload_n 0, 1) := by decide +kernel
theorem dX10_drains_24 : decode cX10_drains 24 = .ok (.iload_n 1, 1) := by decide +kernel
theorem dX10_drains_25 : decode cX10_drains 25 = .ok (.iconst 0, 1) := by decide +kernel
theorem dX10_drains_26 : decode cX10_drains 26 = .ok (.invokevirtual 57, 3) := by decide +kernel
theorem dX10_drains_29 : decode cX10_drains 29 = .ok (.iadd, 1) := by decide +kernel
theorem dX10_drains_30 : decode cX10_drains 30 = .ok (.dup2, 1) := by decide +kernel
theorem dX10_drains_31 : decode cX10_drains 31 = .ok (.iaload, 1) := by decide +kernel
theorem dX10_drains_32 : decode cX10_drains 32 = .ok (.iload_n 2, 1) := by decide +kernel
theorem dX10_drains_33 : decode cX10_drains 33 = .ok (.iadd, 1) := by decide +kernel
theorem dX10_drains_34 : decode cX10_drains 34 = .ok (.iastore, 1) := by decide +kernel
theorem dX10_drains_35 : decode cX10_drains 35 = .ok (.aload_n 0, 1) := by decide +kernel
theorem dX10_drains_36 : decode cX10_drains 36 = .ok (.getfield 7, 3) := by decide +kernel
theorem dX10_drains_39 : decode cX10_drains 39 = .ok (.bipush 19, 2) := by decide +kernel
theorem dX10_drains_41 : decode cX10_drains 41 = .ok (.iconst 4, 1) := by decide +kernel
theorem dX10_drains_42 : decode cX10_drains 42 = .ok (.iload_n 1, 1) := by decide +kernel
theorem dX10_drains_43 : decode cX10_drains 43 = .ok (.imul, 1) := by decide +kernel
theorem dX10_drains_44 : decode cX10_drains 44 = .ok (.iadd, 1) := by decide +kernel
theorem dX10_drains_45 : decode cX10_drains 45 = .ok (.iconst 2, 1) := by decide +kernel
theorem dX10_drains_46 : decode cX10_drains 46 = .ok (.iadd, 1) := by decide +kernel
theorem dX10_drains_47 : decode cX10_drains 47 = .ok (.iconst 0, 1) := by decide +kernel
theorem dX10_drains_48 : decode cX10_drains 48 = .ok (.iastore, 1) := by decide +kernel
theorem dX10_drains_49 : decode cX10_drains 49 = .ok (.aload_n 0, 1) := by decide +kernel
theorem dX10_drains_50 : decode cX10_drains 50 = .ok (.getfield 7, 3) := by decide +kernel
theorem dX10_drains_53 : decode cX10_drains 53 = .ok (.bipush 19, 2) := by decide +kernel
theorem dX10_drains_55 : decode cX10_drains 55 = .ok (.iconst 4, 1) := by decide +kernel
theorem dX10_drains_56 : decode cX10_drains 56 = .ok (.iload_n 1, 1) := by decide +kernel
theorem dX10_drains_57 : decode cX10_drains 57 = .ok (.imul, 1) := by decide +kernel
theorem dX10_drains_58 : decode cX10_drains 58 = .ok (.iadd, 1) := by decide +kernel
theorem dX10_drains_59 : decode cX10_drains 59 = .ok (.iconst 3, 1) := by decide +kernel
theorem dX10_drains_60 : decode cX10_drains 60 = .ok (.iadd, 1) := by decide +kernel
theorem dX10_drains_61 : decode cX10_drains 61 = .ok (.iconst 0, 1) := by decide +kernel
theorem dX10_drains_62 : decode cX10_drains 62 = .ok (.iastore, 1) := by decide +kernel
theorem dX10_drains_63 : decode cX10_drains 63 = .ok (.iload_n 2, 1) := by decide +kernel
theorem dX10_drains_64 : decode cX10_drains 64 = .ok (.ireturn, 1) := by decide +kernel
theorem dX10_drain_0 : decode cX10_drain 0 = .ok (.aload_n 0, 1) := by decide +kernel
theorem dX10_drain_1 : decode cX10_drain 1 = .ok (.invokevirtual 61, 3) := by decide +kernel
theorem dX10_drain_4 : decode cX10_drain 4 = .ok (.aload_n 0, 1) := by decide +kernel
theorem dX10_drain_5 : decode cX10_drain 5 = .ok (.aload_n 0, 1) := by decide +kernel
theorem dX10_drain_6 : decode cX10_drain 6 = .ok (.iload_n 1, 1) := by decide +kernel
theorem dX10_drain_7 : decode cX10_drain 7 = .ok (.invokevirtual 64, 3) := by decide +kernel
theorem dX10_drain_10 : decode cX10_drain 10 = .ok (.invokevirtual 68, 3) := by decide +kernel
theorem dX10_drain_13 : decode cX10_drain 13 = .ok (.ireturn, 1) := by decide +kernel
theorem dX10_vatOf_0 : decode cX10_vatOf 0 = .ok (.aload_n 0, 1) := by decide +kernel
theorem dX10_vatOf_1 : decode cX10_vatOf 1 = .ok (.iload_n 1, 1) := by decide +kernel
theorem dX10_vatOf_2 : decode cX10_vatOf 2 = .ok (.invokevirtual 53, 3) := by decide +kernel
theorem dX10_vatOf_5 : decode cX10_vatOf 5 = .ok (.ifCond .eq 12, 3) := by decide +kernel
theorem dX10_vatOf_8 : decode cX10_vatOf 8 = .ok (.iload_n 2, 1) := by decide +kernel
theorem dX10_vatOf_9 : decode cX10_vatOf 9 = .ok (.iconst 0, 1) := by decide +kernel
theorem dX10_vatOf_10 : decode cX10_vatOf 10 = .ok (.iconst 4, 1) := by decide +kernel
theorem dX10_vatOf_11 : decode cX10_vatOf 11 = .ok (.invokestatic 31, 3) := by decide +kernel
theorem dX10_vatOf_14 : decode cX10_vatOf 14 = .ok (.ifCond .ne 5, 3) := by decide +kernel
theorem dX10_vatOf_17 : decode cX10_vatOf 17 = .ok (.iconst (-1), 1) := by decide +kernel
theorem dX10_vatOf_18 : decode cX10_vatOf 18 = .ok (.ireturn, 1) := by decide +kernel
theorem dX10_vatOf_19 : decode cX10_vatOf 19 = .ok (.iload_n 2, 1) := by decide +kernel
theorem dX10_vatOf_20 : decode cX10_vatOf 20 = .ok (.iconst 4, 1) := by decide +kernel
theorem dX10_vatOf_21 : decode cX10_vatOf 21 = .ok (.if_icmp .ge 12, 3) := by decide +kernel
theorem dX10_vatOf_24 : decode cX10_vatOf 24 = .ok (.aload_n 0, 1) := by decide +kernel
theorem dX10_vatOf_25 : decode cX10_vatOf 25 = .ok (.iload_n 1, 1) := by decide +kernel
theorem dX10_vatOf_26 : decode cX10_vatOf 26 = .ok (.iload_n 2, 1) := by decide +kernel
theorem dX10_vatOf_27 : decode cX10_vatOf 27 = .ok (.invokevirtual 57, 3) := by decide +kernel
theorem dX10_vatOf_30 : decode cX10_vatOf 30 = .ok (.goto 23, 3) := by decide +kernel
theorem dX10_vatOf_33 : decode cX10_vatOf 33 = .ok (.aload_n 0, 1) := by decide +kernel
theorem dX10_vatOf_34 : decode cX10_vatOf 34 = .ok (.iload_n 1, 1) := by decide +kernel
theorem dX10_vatOf_35 : decode cX10_vatOf 35 = .ok (.iconst 3, 1) := by decide +kernel
theorem dX10_vatOf_36 : decode cX10_vatOf 36 = .ok (.invokevirtual 57, 3) := by decide +kernel
theorem dX10_vatOf_39 : decode cX10_vatOf 39 = .ok (.aload_n 0, 1) := by decide +kernel
theorem dX10_vatOf_40 : decode cX10_vatOf 40 = .ok (.getfield 7, 3) := by decide +kernel
theorem dX10_vatOf_43 : decode cX10_vatOf 43 = .ok (.iconst 2, 1) := by decide +kernel
theorem dX10_vatOf_44 : decode cX10_vatOf 44 = .ok (.iaload, 1) := by decide +kernel
theorem dX10_vatOf_45 : decode cX10_vatOf 45 = .ok (.if_icmp .le 7, 3) := by decide +kernel
theorem dX10_vatOf_48 : decode cX10_vatOf 48 = .ok (.iconst 1, 1) := by decide +kernel
theorem dX10_vatOf_49 : decode cX10_vatOf 49 = .ok (.goto 4, 3) := by decide +kernel
theorem dX10_vatOf_52 : decode cX10_vatOf 52 = .ok (.iconst 0, 1) := by decide +kernel
theorem dX10_vatOf_53 : decode cX10_vatOf 53 = .ok (.ireturn, 1) := by decide +kernel
theorem dX10_isStronger_0 : decode cX10_isStronger 0 = .ok (.aload_n 0, 1) := by decide +kernel
theorem dX10_isStronger_1 : decode cX10_isStronger 1 = .ok (.iload_n 1, 1) := by decide +kernel
theorem dX10_isStronger_2 : decode cX10_isStronger 2 = .ok (.iconst 2, 1) := by decide +kernel
theorem dX10_isStronger_3 : decode cX10_isStronger 3 = .ok (.invokevirtual 57, 3) := by decide +kernel
theorem dX10_isStronger_6 : decode cX10_isStronger 6 = .ok (.aload_n 0, 1) := by decide +kernel
theorem dX10_isStronger_7 : decode cX10_isStronger 7 = .ok (.iload_n 1, 1) := by decide +kernel
theorem dX10_isStronger_8 : decode cX10_isStronger 8 = .ok (.iconst 1, 1) := by decide +kernel
theorem dX10_isStronger_9 : decode cX10_isStronger 9 = .ok (.invokevirtual 57, 3) := by decide +kernel
theorem dX10_isStronger_12 : decode cX10_isStronger 12 = .ok (.idiv, 1) := by decide +kernel
theorem dX10_isStronger_13 : decode cX10_isStronger 13 = .ok (.istore_n 3, 1) := by decide +kernel
theorem dX10_isStronger_14 : decode cX10_isStronger 14 = .ok (.aload_n 0, 1) := by decide +kernel
theorem dX10_isStronger_15 : decode cX10_isStronger 15 = .ok (.iload_n 2, 1) := by decide +kernel
theorem dX10_isStronger_16 : decode cX10_isStronger 16 = .ok (.iconst 2, 1) := by decide +kernel
theorem dX10_isStronger_17 : decode cX10_isStronger 17 = .ok (.invokevirtual 57, 3) := by decide +kernel
theorem dX10_isStronger_20 : decode cX10_isStronger 20 = .ok (.aload_n 0, 1) := by decide +kernel
theorem dX10_isStronger_21 : decode cX10_isStronger 21 = .ok (.iload_n 2, 1) := by decide +kernel
theorem dX10_isStronger_22 : decode cX10_isStronger 22 = .ok (.iconst 1, 1) := by decide +kernel
theorem dX10_isStronger_23 : decode cX10_isStronger 23 = .ok (.invokevirtual 57, 3) := by decide +kernel
theorem dX10_isStronger_26 : decode cX10_isStronger 26 = .ok (.idiv, 1) := by decide +kernel
theorem dX10_isStronger_27 : decode cX10_isStronger 27 = .ok (.istore 4, 2) := by decide +kernel
theorem dX10_isStronger_29 : decode cX10_isStronger 29 = .ok (.iload_n 3, 1) := by decide +kernel
theorem dX10_isStronger_30 : decode cX10_isStronger 30 = .ok (.iload 4, 2) := by decide +kernel
theorem dX10_isStronger_32 : decode cX10_isStronger 32 = .ok (.if_icmp .eq 15, 3) := by decide +kernel
theorem dX10_isStronger_35 : decode cX10_isStronger 35 = .ok (.iload_n 3, 1) := by decide +kernel
theorem dX10_isStronger_36 : decode cX10_isStronger 36 = .ok (.iload 4, 2) := by decide +kernel
theorem dX10_isStronger_38 : decode cX10_isStronger 38 = .ok (.if_icmp .le 7, 3) := by decide +kernel
theorem dX10_isStronger_41 : decode cX10_isStronger 41 = .ok (.iconst 1, 1) := by decide +kernel
theorem dX10_isStronger_42 : decode cX10_isStronger 42 = .ok (.goto 4, 3) := by decide +kernel
theorem dX10_isStronger_45 : decode cX10_isStronger 45 = .ok (.iconst 0, 1) := by decide +kernel
theorem dX10_isStronger_46 : decode cX10_isStronger 46 = .ok (.ireturn, 1) := by decide +kernel
theorem dX10_isStronger_47 : decode cX10_isStronger 47 = .ok (.aload_n 0, 1) := by decide +kernel
theorem dX10_isStronger_48 : decode cX10_isStronger 48 = .ok (.iload_n 1, 1) := by decide +kernel
theorem dX10_isStronger_49 : decode cX10_isStronger 49 = .ok (.iconst 3, 1) := by decide +kernel
theorem dX10_isStronger_50 : decode cX10_isStronger 50 = .ok (.invokevirtual 57, 3) := by decide +kernel
theorem dX10_isStronger_53 : decode cX10_isStronger 53 = .ok (.aload_n 0, 1) := by decide +kernel
theorem dX10_isStronger_54 : decode cX10_isStronger 54 = .ok (.iload_n 2, 1) := by decide +kernel
theorem dX10_isStronger_55 : decode cX10_isStronger 55 = .ok (.iconst 3, 1) := by decide +kernel
theorem dX10_isStronger_56 : decode cX10_isStronger 56 = .ok (.invokevirtual 57, 3) := by decide +kernel
theorem dX10_isStronger_59 : decode cX10_isStronger 59 = .ok (.if_icmp .eq 26, 3) := by decide +kernel
theorem dX10_isStronger_62 : decode cX10_isStronger 62 = .ok (.aload_n 0, 1) := by decide +kernel
theorem dX10_isStronger_63 : decode cX10_isStronger 63 = .ok (.iload_n 1, 1) := by decide +kernel
theorem dX10_isStronger_64 : decode cX10_isStronger 64 = .ok (.iconst 3, 1) := by decide +kernel
theorem dX10_isStronger_65 : decode cX10_isStronger 65 = .ok (.invokevirtual 57, 3) := by decide +kernel
theorem dX10_isStronger_68 : decode cX10_isStronger 68 = .ok (.aload_n 0, 1) := by decide +kernel
theorem dX10_isStronger_69 : decode cX10_isStronger 69 = .ok (.iload_n 2, 1) := by decide +kernel
theorem dX10_isStronger_70 : decode cX10_isStronger 70 = .ok (.iconst 3, 1) := by decide +kernel
theorem dX10_isStronger_71 : decode cX10_isStronger 71 = .ok (.invokevirtual 57, 3) := by decide +kernel
theorem dX10_isStronger_74 : decode cX10_isStronger 74 = .ok (.if_icmp .ge 7, 3) := by decide +kernel
theorem dX10_isStronger_77 : decode cX10_isStronger 77 = .ok (.iconst 1, 1) := by decide +kernel
theorem dX10_isStronger_78 : decode cX10_isStronger 78 = .ok (.goto 17, 3) := by decide +kernel
theorem dX10_isStronger_81 : decode cX10_isStronger 81 = .ok (.iconst 0, 1) := by decide +kernel
theorem dX10_isStronger_82 : decode cX10_isStronger 82 = .ok (.goto 13, 3) := by decide +kernel
theorem dX10_isStronger_85 : decode cX10_isStronger 85 = .ok (.iload_n 1, 1) := by decide +kernel
theorem dX10_isStronger_86 : decode cX10_isStronger 86 = .ok (.iload_n 2, 1) := by decide +kernel
theorem dX10_isStronger_87 : decode cX10_isStronger 87 = .ok (.if_icmp .ge 7, 3) := by decide +kernel
theorem dX10_isStronger_90 : decode cX10_isStronger 90 = .ok (.iconst 1, 1) := by decide +kernel
theorem dX10_isStronger_91 : decode cX10_isStronger 91 = .ok (.goto 4, 3) := by decide +kernel
theorem dX10_isStronger_94 : decode cX10_isStronger 94 = .ok (.iconst 0, 1) := by decide +kernel
theorem dX10_isStronger_95 : decode cX10_isStronger 95 = .ok (.ireturn, 1) := by decide +kernel
theorem dX10_vatAt_0 : decode cX10_vatAt 0 = .ok (.iload_n 1, 1) := by decide +kernel
theorem dX10_vatAt_1 : decode cX10_vatAt 1 = .ok (.ifCond .ge 5, 3) := by decide +kernel
theorem dX10_vatAt_4 : decode cX10_vatAt 4 = .ok (.iconst (-1), 1) := by decide +kernel
theorem dX10_vatAt_5 : decode cX10_vatAt 5 = .ok (.ireturn, 1) := by decide +kernel
theorem dX10_vatAt_6 : decode cX10_vatAt 6 = .ok (.iconst 0, 1) := by decide +kernel
theorem dX10_vatAt_7 : decode cX10_vatAt 7 = .ok (.istore_n 2, 1) := by decide +kernel
theorem dX10_vatAt_8 : decode cX10_vatAt 8 = .ok (.iload_n 2, 1) := by decide +kernel
theorem dX10_vatAt_9 : decode cX10_vatAt 9 = .ok (.aload_n 0, 1) := by decide +kernel
theorem dX10_vatAt_10 : decode cX10_vatAt 10 = .ok (.getfield 7, 3) := by decide +kernel
theorem dX10_vatAt_13 : decode cX10_vatAt 13 = .ok (.bipush 7, 2) := by decide +kernel
theorem dX10_vatAt_15 : decode cX10_vatAt 15 = .ok (.iaload, 1) := by decide +kernel
theorem dX10_vatAt_16 : decode cX10_vatAt 16 = .ok (.if_icmp .ge 63, 3) := by decide +kernel
theorem dX10_vatAt_19 : decode cX10_vatAt 19 = .ok (.iconst 0, 1) := by decide +kernel
theorem dX10_vatAt_20 : decode cX10_vatAt 20 = .ok (.istore_n 3, 1) := by decide +kernel
theorem dX10_vatAt_21 : decode cX10_vatAt 21 = .ok (.iconst 0, 1) := by decide +kernel
theorem dX10_vatAt_22 : decode cX10_vatAt 22 = .ok (.istore 4, 2) := by decide +kernel
theorem dX10_vatAt_24 : decode cX10_vatAt 24 = .ok (.iload 4, 2) := by decide +kernel
theorem dX10_vatAt_26 : decode cX10_vatAt 26 = .ok (.aload_n 0, 1) := by decide +kernel
theorem dX10_vatAt_27 : decode cX10_vatAt 27 = .ok (.getfield 7, 3) := by decide +kernel
theorem dX10_vatAt_30 : decode cX10_vatAt 30 = .ok (.bipush 7, 2) := by decide +kernel
theorem dX10_vatAt_32 : decode cX10_vatAt 32 = .ok (.iaload, 1) := by decide +kernel
theorem dX10_vatAt_33 : decode cX10_vatAt 33 = .ok (.if_icmp .ge 33, 3) := by decide +kernel
theorem dX10_vatAt_36 : decode cX10_vatAt 36 = .ok (.iload_n 3, 1) := by decide +kernel
theorem dX10_vatAt_37 : decode cX10_vatAt 37 = .ok (.iload 4, 2) := by decide +kernel
theorem dX10_vatAt_39 : decode cX10_vatAt 39 = .ok (.iload_n 2, 1) := by decide +kernel
theorem dX10_vatAt_40 : decode cX10_vatAt 40 = .ok (.if_icmp .eq 17, 3) := by decide +kernel
theorem dX10_vatAt_43 : decode cX10_vatAt 43 = .ok (.aload_n 0, 1) := by decide +kernel
theorem dX10_vatAt_44 : decode cX10_vatAt 44 = .ok (.iload 4, 2) := by decide +kernel
theorem dX10_vatAt_46 : decode cX10_vatAt 46 = .ok (.iload_n 2, 1) := by decide +kernel
theorem dX10_vatAt_47 : decode cX10_vatAt 47 = .ok (.invokevirtual 71, 3) := by decide +kernel
theorem dX10_vatAt_50 : decode cX10_vatAt 50 = .ok (.ifCond .eq 7, 3) := by decide +kernel
theorem dX10_vatAt_53 : decode cX10_vatAt 53 = .ok (.iconst 1, 1) := by decide +kernel
theorem dX10_vatAt_54 : decode cX10_vatAt 54 = .ok (.goto 4, 3) := by decide +kernel
theorem dX10_vatAt_57 : decode cX10_vatAt 57 = .ok (.iconst 0, 1) := by decide +kernel
theorem dX10_vatAt_58 : decode cX10_vatAt 58 = .ok (.iadd, 1) := by decide +kernel
theorem dX10_vatAt_59 : decode cX10_vatAt 59 = .ok (.istore_n 3, 1) := by decide +kernel
theorem dX10_vatAt_60 : decode cX10_vatAt 60 = .ok (.iinc 4 1, 3) := by decide +kernel
theorem dX10_vatAt_63 : decode cX10_vatAt 63 = .ok (.goto (-39), 3) := by decide +kernel
theorem dX10_vatAt_66 : decode cX10_vatAt 66 = .ok (.iload_n 3, 1) := by decide +kernel
theorem dX10_vatAt_67 : decode cX10_vatAt 67 = .ok (.iload_n 1, 1) := by decide +kernel
theorem dX10_vatAt_68 : decode cX10_vatAt 68 = .ok (.if_icmp .ne 5, 3) := by decide +kernel
theorem dX10_vatAt_71 : decode cX10_vatAt 71 = .ok (.iload_n 2, 1) := by decide +kernel
theorem dX10_vatAt_72 : decode cX10_vatAt 72 = .ok (.ireturn, 1) := by decide +kernel
theorem dX10_vatAt_73 : decode cX10_vatAt 73 = .ok (.iinc 2 1, 3) := by decide +kernel
theorem dX10_vatAt_76 : decode cX10_vatAt 76 = .ok (.goto (-68), 3) := by decide +kernel
theorem dX10_vatAt_79 : decode cX10_vatAt 79 = .ok (.bipush (-4), 2) := by decide +kernel
theorem dX10_vatAt_81 : decode cX10_vatAt 81 = .ok (.ireturn, 1) := by decide +kernel
theorem dX10_grains_0 : decode cX10_grains 0 = .ok (.aload_n 0, 1) := by decide +kernel
theorem dX10_grains_1 : decode cX10_grains 1 = .ok (.iload_n 1, 1) := by decide +kernel
theorem dX10_grains_2 : decode cX10_grains 2 = .ok (.iconst 2, 1) := by decide +kernel
theorem dX10_grains_3 : decode cX10_grains 3 = .ok (.iload_n 2, 1) := by decide +kernel
theorem dX10_grains_4 : decode cX10_grains 4 = .ok (.iadd, 1) := by decide +kernel
theorem dX10_grains_5 : decode cX10_grains 5 = .ok (.invokevirtual 35, 3) := by decide +kernel
theorem dX10_grains_8 : decode cX10_grains 8 = .ok (.aload_n 0, 1) := by decide +kernel
theorem dX10_grains_9 : decode cX10_grains 9 = .ok (.iload_n 1, 1) := by decide +kernel
theorem dX10_grains_10 : decode cX10_grains 10 = .ok (.bipush 6, 2) := by decide +kernel
theorem dX10_grains_12 : decode cX10_grains 12 = .ok (.iload_n 2, 1) := by decide +kernel
theorem dX10_grains_13 : decode cX10_grains 13 = .ok (.iadd, 1) := by decide +kernel
theorem dX10_grains_14 : decode cX10_grains 14 = .ok (.invokevirtual 35, 3) := by decide +kernel
theorem dX10_grains_17 : decode cX10_grains 17 = .ok (.iadd, 1) := by decide +kernel
theorem dX10_grains_18 : decode cX10_grains 18 = .ok (.ireturn, 1) := by decide +kernel
theorem dX10_shadeOf_0 : decode cX10_shadeOf 0 = .ok (.ldc2_w 75, 3) := by decide +kernel
theorem dX10_shadeOf_3 : decode cX10_shadeOf 3 = .ok (.aload_n 0, 1) := by decide +kernel
theorem dX10_shadeOf_4 : decode cX10_shadeOf 4 = .ok (.iload_n 1, 1) := by decide +kernel
theorem dX10_shadeOf_5 : decode cX10_shadeOf 5 = .ok (.iload_n 2, 1) := by decide +kernel
theorem dX10_shadeOf_6 : decode cX10_shadeOf 6 = .ok (.invokevirtual 77, 3) := by decide +kernel
theorem dX10_shadeOf_9 : decode cX10_shadeOf 9 = .ok (.i2l, 1) := by decide +kernel
theorem dX10_shadeOf_10 : decode cX10_shadeOf 10 = .ok (.lmul, 1) := by decide +kernel
theorem dX10_shadeOf_11 : decode cX10_shadeOf 11 = .ok (.aload_n 0, 1) := by decide +kernel
theorem dX10_shadeOf_12 : decode cX10_shadeOf 12 = .ok (.iload_n 1, 1) := by decide +kernel
theorem dX10_shadeOf_13 : decode cX10_shadeOf 13 = .ok (.iconst 1, 1) := by decide +kernel
theorem dX10_shadeOf_14 : decode cX10_shadeOf 14 = .ok (.invokevirtual 35, 3) := by decide +kernel
theorem dX10_shadeOf_17 : decode cX10_shadeOf 17 = .ok (.i2l, 1) := by decide +kernel
theorem dX10_shadeOf_18 : decode cX10_shadeOf 18 = .ok (.ldiv, 1) := by decide +kernel
theorem dX10_shadeOf_19 : decode cX10_shadeOf 19 = .ok (.l2i, 1) := by decide +kernel
theorem dX10_shadeOf_20 : decode cX10_shadeOf 20 = .ok (.ireturn, 1) := by decide +kernel
theorem dX10_depth_0 : decode cX10_depth 0 = .ok (.lconst 0, 1) := by decide +kernel
theorem dX10_depth_1 : decode cX10_depth 1 = .ok (.lstore_n 2, 1) := by decide +kernel
theorem dX10_depth_2 : decode cX10_depth 2 = .ok (.iconst 0, 1) := by decide +kernel
theorem dX10_depth_3 : decode cX10_depth 3 = .ok (.istore 4, 2) := by decide +kernel
theorem dX10_depth_5 : decode cX10_depth 5 = .ok (.iload 4, 2) := by decide +kernel
theorem dX10_depth_7 : decode cX10_depth 7 = .ok (.iconst 4, 1) := by decide +kernel
theorem dX10_depth_8 : decode cX10_depth 8 = .ok (.if_icmp .ge 20, 3) := by decide +kernel
theorem dX10_depth_11 : decode cX10_depth 11 = .ok (.lload_n 2, 1) := by decide +kernel
theorem dX10_depth_12 : decode cX10_depth 12 = .ok (.aload_n 0, 1) := by decide +kernel
theorem dX10_depth_13 : decode cX10_depth 13 = .ok (.iload_n 1, 1) := by decide +kernel
theorem dX10_depth_14 : decode cX10_depth 14 = .ok (.iload 4, 2) := by decide +kernel
theorem dX10_depth_16 : decode cX10_depth 16 = .ok (.invokevirtual 77, 3) := by decide +kernel
theorem dX10_depth_19 : decode cX10_depth 19 = .ok (.i2l, 1) := by decide +kernel
theorem dX10_depth_20 : decode cX10_depth 20 = .ok (.ladd, 1) := by decide +kernel
theorem dX10_depth_21 : decode cX10_depth 21 = .ok (.lstore_n 2, 1) := by decide +kernel
theorem dX10_depth_22 : decode cX10_depth 22 = .ok (.iinc 4 1, 3) := by decide +kernel
theorem dX10_depth_25 : decode cX10_depth 25 = .ok (.goto (-20), 3) := by decide +kernel
theorem dX10_depth_28 : decode cX10_depth 28 = .ok (.ldc2_w 75, 3) := by decide +kernel
theorem dX10_depth_31 : decode cX10_depth 31 = .ok (.lload_n 2, 1) := by decide +kernel
theorem dX10_depth_32 : decode cX10_depth 32 = .ok (.lmul, 1) := by decide +kernel
theorem dX10_depth_33 : decode cX10_depth 33 = .ok (.aload_n 0, 1) := by decide +kernel
theorem dX10_depth_34 : decode cX10_depth 34 = .ok (.iload_n 1, 1) := by decide +kernel
theorem dX10_depth_35 : decode cX10_depth 35 = .ok (.iconst 1, 1) := by decide +kernel
theorem dX10_depth_36 : decode cX10_depth 36 = .ok (.invokevirtual 35, 3) := by decide +kernel
theorem dX10_depth_39 : decode cX10_depth 39 = .ok (.i2l, 1) := by decide +kernel
theorem dX10_depth_40 : decode cX10_depth 40 = .ok (.ldiv, 1) := by decide +kernel
theorem dX10_depth_41 : decode cX10_depth 41 = .ok (.l2i, 1) := by decide +kernel
theorem dX10_depth_42 : decode cX10_depth 42 = .ok (.ireturn, 1) := by decide +kernel
theorem dX10_lot_0 : decode cX10_lot 0 = .ok (.iload_n 1, 1) := by decide +kernel
theorem dX10_lot_1 : decode cX10_lot 1 = .ok (.iconst 0, 1) := by decide +kernel
theorem dX10_lot_2 : decode cX10_lot 2 = .ok (.iconst 1, 1) := by decide +kernel
theorem dX10_lot_3 : decode cX10_lot 3 = .ok (.invokestatic 31, 3) := by decide +kernel
theorem dX10_lot_6 : decode cX10_lot 6 = .ok (.ifCond .eq 15, 3) := by decide +kernel
theorem dX10_lot_9 : decode cX10_lot 9 = .ok (.iload_n 2, 1) := by decide +kernel
theorem dX10_lot_10 : decode cX10_lot 10 = .ok (.bipush 100, 2) := by decide +kernel
theorem dX10_lot_12 : decode cX10_lot 12 = .ok (.sipush 5000, 3) := by decide +kernel
theorem dX10_lot_15 : decode cX10_lot 15 = .ok (.invokestatic 31, 3) := by decide +kernel
theorem dX10_lot_18 : decode cX10_lot 18 = .ok (.ifCond .ne 5, 3) := by decide +kernel
theorem dX10_lot_21 : decode cX10_lot 21 = .ok (.iconst (-1), 1) := by decide +kernel
theorem dX10_lot_22 : decode cX10_lot 22 = .ok (.ireturn, 1) := by decide +kernel
theorem dX10_lot_23 : decode cX10_lot 23 = .ok (.aload_n 0, 1) := by decide +kernel
theorem dX10_lot_24 : decode cX10_lot 24 = .ok (.getfield 7, 3) := by decide +kernel
theorem dX10_lot_27 : decode cX10_lot 27 = .ok (.bipush 8, 2) := by decide +kernel
theorem dX10_lot_29 : decode cX10_lot 29 = .ok (.iaload, 1) := by decide +kernel
theorem dX10_lot_30 : decode cX10_lot 30 = .ok (.bipush 20, 2) := by decide +kernel
theorem dX10_lot_32 : decode cX10_lot 32 = .ok (.if_icmp .ne 6, 3) := by decide +kernel
theorem dX10_lot_35 : decode cX10_lot 35 = .ok (.bipush (-3), 2) := by decide +kernel
theorem dX10_lot_37 : decode cX10_lot 37 = .ok (.ireturn, 1) := by decide +kernel
theorem dX10_lot_38 : decode cX10_lot 38 = .ok (.aload_n 0, 1) := by decide +kernel
theorem dX10_lot_39 : decode cX10_lot 39 = .ok (.invokevirtual 43, 3) := by decide +kernel
theorem dX10_lot_42 : decode cX10_lot 42 = .ok (.aload_n 0, 1) := by decide +kernel
theorem dX10_lot_43 : decode cX10_lot 43 = .ok (.getfield 7, 3) := by decide +kernel
theorem dX10_lot_46 : decode cX10_lot 46 = .ok (.bipush 8, 2) := by decide +kernel
theorem dX10_lot_48 : decode cX10_lot 48 = .ok (.iaload, 1) := by decide +kernel
theorem dX10_lot_49 : decode cX10_lot 49 = .ok (.istore_n 3, 1) := by decide +kernel
theorem dX10_lot_50 : decode cX10_lot 50 = .ok (.iconst 0, 1) := by decide +kernel
theorem dX10_lot_51 : decode cX10_lot 51 = .ok (.istore 4, 2) := by decide +kernel
theorem dX10_lot_53 : decode cX10_lot 53 = .ok (.iload 4, 2) := by decide +kernel
theorem dX10_lot_55 : decode cX10_lot 55 = .ok (.bipush 15, 2) := by decide +kernel
theorem dX10_lot_57 : decode cX10_lot 57 = .ok (.if_icmp .ge 17, 3) := by decide +kernel
theorem dX10_lot_60 : decode cX10_lot 60 = .ok (.aload_n 0, 1) := by decide +kernel
theorem dX10_lot_61 : decode cX10_lot 61 = .ok (.iload_n 3, 1) := by decide +kernel
theorem dX10_lot_62 : decode cX10_lot 62 = .ok (.iload 4, 2) := by decide +kernel
theorem dX10_lot_64 : decode cX10_lot 64 = .ok (.iconst 0, 1) := by decide +kernel
theorem dX10_lot_65 : decode cX10_lot 65 = .ok (.invokevirtual 80, 3) := by decide +kernel
theorem dX10_lot_68 : decode cX10_lot 68 = .ok (.iinc 4 1, 3) := by decide +kernel
theorem dX10_lot_71 : decode cX10_lot 71 = .ok (.goto (-18), 3) := by decide +kernel
theorem dX10_lot_74 : decode cX10_lot 74 = .ok (.aload_n 0, 1) := by decide +kernel
theorem dX10_lot_75 : decode cX10_lot 75 = .ok (.iload_n 3, 1) := by decide +kernel
theorem dX10_lot_76 : decode cX10_lot 76 = .ok (.iconst 0, 1) := by decide +kernel
theorem dX10_lot_77 : decode cX10_lot 77 = .ok (.iload_n 1, 1) := by decide +kernel
theorem dX10_lot_78 : decode cX10_lot 78 = .ok (.invokevirtual 80, 3) := by decide +kernel
theorem dX10_lot_81 : decode cX10_lot 81 = .ok (.aload_n 0, 1) := by decide +kernel
theorem dX10_lot_82 : decode cX10_lot 82 = .ok (.iload_n 3, 1) := by decide +kernel
theorem dX10_lot_83 : decode cX10_lot 83 = .ok (.iconst 1, 1) := by decide +kernel
theorem dX10_lot_84 : decode cX10_lot 84 = .ok (.iload_n 2, 1) := by decide +kernel
theorem dX10_lot_85 : decode cX10_lot 85 = .ok (.invokevirtual 80, 3) := by decide +kernel
theorem dX10_lot_88 : decode cX10_lot 88 = .ok (.aload_n 0, 1) := by decide +kernel
theorem dX10_lot_89 : decode cX10_lot 89 = .ok (.getfield 7, 3) := by decide +kernel
theorem dX10_lot_92 : decode cX10_lot 92 = .ok (.bipush 8, 2) := by decide +kernel
theorem dX10_lot_94 : decode cX10_lot 94 = .ok (.dup2, 1) := by decide +kernel
theorem dX10_lot_95 : decode cX10_lot 95 = .ok (.iaload, 1) := by decide +kernel
theorem dX10_lot_96 : decode cX10_lot 96 = .ok (.iconst 1, 1) := by decide +kernel
theorem dX10_lot_97 : decode cX10_lot 97 = .ok (.iadd, 1) := by decide +kernel
theorem dX10_lot_98 : decode cX10_lot 98 = .ok (.iastore, 1) := by decide +kernel
theorem dX10_lot_99 : decode cX10_lot 99 = .ok (.iload_n 3, 1) := by decide +kernel
theorem dX10_lot_100 : decode cX10_lot 100 = .ok (.ireturn, 1) := by decide +kernel
theorem dX10_taken_0 : decode cX10_taken 0 = .ok (.aload_n 0, 1) := by decide +kernel
theorem dX10_taken_1 : decode cX10_taken 1 = .ok (.iload_n 1, 1) := by decide +kernel
theorem dX10_taken_2 : decode cX10_taken 2 = .ok (.iconst 0, 1) := by decide +kernel
theorem dX10_taken_3 : decode cX10_taken 3 = .ok (.invokevirtual 35, 3) := by decide +kernel
theorem dX10_taken_6 : decode cX10_taken 6 = .ok (.i2l, 1) := by decide +kernel
theorem dX10_taken_7 : decode cX10_taken 7 = .ok (.lconst 1, 1) := by decide +kernel
theorem dX10_taken_8 : decode cX10_taken 8 = .ok (.ladd, 1) := by decide +kernel
theorem dX10_taken_9 : decode cX10_taken 9 = .ok (.aload_n 0, 1) := by decide +kernel
theorem dX10_taken_10 : decode cX10_taken 10 = .ok (.iload_n 1, 1) := by decide +kernel
theorem dX10_taken_11 : decode cX10_taken 11 = .ok (.iconst 1, 1) := by decide +kernel
theorem dX10_taken_12 : decode cX10_taken 12 = .ok (.invokevirtual 35, 3) := by decide +kernel
theorem dX10_taken_15 : decode cX10_taken 15 = .ok (.i2l, 1) := by decide +kernel
theorem dX10_taken_16 : decode cX10_taken 16 = .ok (.lmul, 1) := by decide +kernel
theorem dX10_taken_17 : decode cX10_taken 17 = .ok (.lstore 4, 2) := by decide +kernel
theorem dX10_taken_19 : decode cX10_taken 19 = .ok (.iload_n 3, 1) := by decide +kernel
theorem dX10_taken_20 : decode cX10_taken 20 = .ok (.i2l, 1) := by decide +kernel
theorem dX10_taken_21 : decode cX10_taken 21 = .ok (.lload 4, 2) := by decide +kernel
theorem dX10_taken_23 : decode cX10_taken 23 = .ok (.lmul, 1) := by decide +kernel
theorem dX10_taken_24 : decode cX10_taken 24 = .ok (.lload 4, 2) := by decide +kernel
theorem dX10_taken_26 : decode cX10_taken 26 = .ok (.aload_n 0, 1) := by decide +kernel
theorem dX10_taken_27 : decode cX10_taken 27 = .ok (.getfield 7, 3) := by decide +kernel
theorem dX10_taken_30 : decode cX10_taken 30 = .ok (.iconst 0, 1) := by decide +kernel
theorem dX10_taken_31 : decode cX10_taken 31 = .ok (.iaload, 1) := by decide +kernel
theorem dX10_taken_32 : decode cX10_taken 32 = .ok (.i2l, 1) := by decide +kernel
theorem dX10_taken_33 : decode cX10_taken 33 = .ok (.aload_n 0, 1) := by decide +kernel
theorem dX10_taken_34 : decode cX10_taken 34 = .ok (.iload_n 2, 1) := by decide +kernel
theorem dX10_taken_35 : decode cX10_taken 35 = .ok (.iconst 1, 1) := by decide +kernel
theorem dX10_taken_36 : decode cX10_taken 36 = .ok (.invokevirtual 57, 3) := by decide +kernel
theorem dX10_taken_39 : decode cX10_taken 39 = .ok (.i2l, 1) := by decide +kernel
theorem dX10_taken_40 : decode cX10_taken 40 = .ok (.lmul, 1) := by decide +kernel
theorem dX10_taken_41 : decode cX10_taken 41 = .ok (.ladd, 1) := by decide +kernel
theorem dX10_taken_42 : decode cX10_taken 42 = .ok (.ldiv, 1) := by decide +kernel
theorem dX10_taken_43 : decode cX10_taken 43 = .ok (.l2i, 1) := by decide +kernel
theorem dX10_taken_44 : decode cX10_taken 44 = .ok (.ireturn, 1) := by decide +kernel
theorem dX10_dyes_0 : decode cX10_dyes 0 = .ok (.bipush 19, 2) := by decide +kernel
theorem dX10_dyes_2 : decode cX10_dyes 2 = .ok (.iconst 4, 1) := by decide +kernel
theorem dX10_dyes_3 : decode cX10_dyes 3 = .ok (.iload_n 2, 1) := by decide +kernel
theorem dX10_dyes_4 : decode cX10_dyes 4 = .ok (.imul, 1) := by decide +kernel
theorem dX10_dyes_5 : decode cX10_dyes 5 = .ok (.iadd, 1) := by decide +kernel
theorem dX10_dyes_6 : decode cX10_dyes 6 = .ok (.istore_n 3, 1) := by decide +kernel
theorem dX10_dyes_7 : decode cX10_dyes 7 = .ok (.aload_n 0, 1) := by decide +kernel
theorem dX10_dyes_8 : decode cX10_dyes 8 = .ok (.getfield 7, 3) := by decide +kernel
theorem dX10_dyes_11 : decode cX10_dyes 11 = .ok (.iload_n 3, 1) := by decide +kernel
theorem dX10_dyes_12 : decode cX10_dyes 12 = .ok (.iaload, 1) := by decide +kernel
theorem dX10_dyes_13 : decode cX10_dyes 13 = .ok (.istore 4, 2) := by decide +kernel
theorem dX10_dyes_15 : decode cX10_dyes 15 = .ok (.aload_n 0, 1) := by decide +kernel
theorem dX10_dyes_16 : decode cX10_dyes 16 = .ok (.iload_n 1, 1) := by decide +kernel
theorem dX10_dyes_17 : decode cX10_dyes 17 = .ok (.iload_n 2, 1) := by decide +kernel
theorem dX10_dyes_18 : decode cX10_dyes 18 = .ok (.aload_n 0, 1) := by decide +kernel
theorem dX10_dyes_19 : decode cX10_dyes 19 = .ok (.getfield 7, 3) := by decide +kernel
theorem dX10_dyes_22 : decode cX10_dyes 22 = .ok (.iload_n 3, 1) := by decide +kernel
theorem dX10_dyes_23 : decode cX10_dyes 23 = .ok (.iconst 2, 1) := by decide +kernel
theorem dX10_dyes_24 : decode cX10_dyes 24 = .ok (.iadd, 1) := by decide +kernel
theorem dX10_dyes_25 : decode cX10_dyes 25 = .ok (.iaload, 1) := by decide +kernel
theorem dX10_dyes_26 : decode cX10_dyes 26 = .ok (.invokevirtual 84, 3) := by decide +kernel
theorem dX10_dyes_29 : decode cX10_dyes 29 = .ok (.istore 5, 2) := by decide +kernel
theorem dX10_dyes_31 : decode cX10_dyes 31 = .ok (.iload 5, 2) := by decide +kernel
theorem dX10_dyes_33 : decode cX10_dyes 33 = .ok (.aload_n 0, 1) := by decide +kernel
theorem dX10_dyes_34 : decode cX10_dyes 34 = .ok (.getfield 7, 3) := by decide +kernel
theorem dX10_dyes_37 : decode cX10_dyes 37 = .ok (.iconst 5, 1) := by decide +kernel
theorem dX10_dyes_38 : decode cX10_dyes 38 = .ok (.iaload, 1) := by decide +kernel
theorem dX10_dyes_39 : decode cX10_dyes 39 = .ok (.imul, 1) := by decide +kernel
theorem dX10_dyes_40 : decode cX10_dyes 40 = .ok (.bipush 100, 2) := by decide +kernel
theorem dX10_dyes_42 : decode cX10_dyes 42 = .ok (.idiv, 1) := by decide +kernel
theorem dX10_dyes_43 : decode cX10_dyes 43 = .ok (.istore 6, 2) := by decide +kernel
theorem dX10_dyes_45 : decode cX10_dyes 45 = .ok (.aload_n 0, 1) := by decide +kernel
theorem dX10_dyes_46 : decode cX10_dyes 46 = .ok (.getfield 7, 3) := by decide +kernel
theorem dX10_dyes_49 : decode cX10_dyes 49 = .ok (.iload_n 3, 1) := by decide +kernel
theorem dX10_dyes_50 : decode cX10_dyes 50 = .ok (.iconst 3, 1) := by decide +kernel
theorem dX10_dyes_51 : decode cX10_dyes 51 = .ok (.iadd, 1) := by decide +kernel
theorem dX10_dyes_52 : decode cX10_dyes 52 = .ok (.iaload, 1) := by decide +kernel
theorem dX10_dyes_53 : decode cX10_dyes 53 = .ok (.aload_n 0, 1) := by decide +kernel
theorem dX10_dyes_54 : decode cX10_dyes 54 = .ok (.getfield 7, 3) := by decide +kernel
theorem dX10_dyes_57 : decode cX10_dyes 57 = .ok (.iconst 2, 1) := by decide +kernel
theorem dX10_dyes_58 : decode cX10_dyes 58 = .ok (.iaload, 1) := by decide +kernel
theorem dX10_dyes_59 : decode cX10_dyes 59 = .ok (.if_icmp .le 7, 3) := by decide +kernel
theorem dX10_dyes_62 : decode cX10_dyes 62 = .ok (.iconst 1, 1) := by decide +kernel
theorem dX10_dyes_63 : decode cX10_dyes 63 = .ok (.goto 4, 3) := by decide +kernel
theorem dX10_dyes_66 : decode cX10_dyes 66 = .ok (.iconst 0, 1) := by decide +kernel
theorem dX10_dyes_67 : decode cX10_dyes 67 = .ok (.istore 7, 2) := by decide +kernel
theorem dX10_dyes_69 : decode cX10_dyes 69 = .ok (.aload_n 0, 1) := by decide +kernel
theorem dX10_dyes_70 : decode cX10_dyes 70 = .ok (.getfield 7, 3) := by decide +kernel
theorem dX10_dyes_73 : decode cX10_dyes 73 = .ok (.iload_n 3, 1) := by decide +kernel
theorem dX10_dyes_74 : decode cX10_dyes 74 = .ok (.iconst 2, 1) := by decide +kernel
theorem dX10_dyes_75 : decode cX10_dyes 75 = .ok (.iadd, 1) := by decide +kernel
theorem dX10_dyes_76 : decode cX10_dyes 76 = .ok (.dup2, 1) := by decide +kernel
theorem dX10_dyes_77 : decode cX10_dyes 77 = .ok (.iaload, 1) := by decide +kernel
theorem dX10_dyes_78 : decode cX10_dyes 78 = .ok (.iload 5, 2) := by decide +kernel
theorem dX10_dyes_80 : decode cX10_dyes 80 = .ok (.isub, 1) := by decide +kernel
theorem dX10_dyes_81 : decode cX10_dyes 81 = .ok (.iastore, 1) := by decide +kernel
theorem dX10_dyes_82 : decode cX10_dyes 82 = .ok (.aload_n 0, 1) := by decide +kernel
theorem dX10_dyes_83 : decode cX10_dyes 83 = .ok (.getfield 7, 3) := by decide +kernel
theorem dX10_dyes_86 : decode cX10_dyes 86 = .ok (.iload_n 3, 1) := by decide +kernel
theorem dX10_dyes_87 : decode cX10_dyes 87 = .ok (.iconst 3, 1) := by decide +kernel
theorem dX10_dyes_88 : decode cX10_dyes 88 = .ok (.iadd, 1) := by decide +kernel
theorem dX10_dyes_89 : decode cX10_dyes 89 = .ok (.dup2, 1) := by decide +kernel
theorem dX10_dyes_90 : decode cX10_dyes 90 = .ok (.iaload, 1) := by decide +kernel
theorem dX10_dyes_91 : decode cX10_dyes 91 = .ok (.aload_n 0, 1) := by decide +kernel
theorem dX10_dyes_92 : decode cX10_dyes 92 = .ok (.iload_n 1, 1) := by decide +kernel
theorem dX10_dyes_93 : decode cX10_dyes 93 = .ok (.iconst 1, 1) := by decide +kernel
theorem dX10_dyes_94 : decode cX10_dyes 94 = .ok (.invokevirtual 35, 3) := by decide +kernel
theorem dX10_dyes_97 : decode cX10_dyes 97 = .ok (.aload_n 0, 1) := by decide +kernel
theorem dX10_dyes_98 : decode cX10_dyes 98 = .ok (.getfield 7, 3) := by decide +kernel
theorem dX10_dyes_101 : decode cX10_dyes 101 = .ok (.iconst 1, 1) := by decide +kernel
theorem dX10_dyes_102 : decode cX10_dyes 102 = .ok (.iaload, 1) := by decide +kernel
theorem dX10_dyes_103 : decode cX10_dyes 103 = .ok (.imul, 1) := by decide +kernel
theorem dX10_dyes_104 : decode cX10_dyes 104 = .ok (.sipush 999, 3) := by decide +kernel
theorem dX10_dyes_107 : decode cX10_dyes 107 = .ok (.iadd, 1) := by decide +kernel
theorem dX10_dyes_108 : decode cX10_dyes 108 = .ok (.sipush 1000, 3) := by decide +kernel
theorem dX10_dyes_111 : decode cX10_dyes 111 = .ok (.idiv, 1) := by decide +kernel
theorem dX10_dyes_112 : decode cX10_dyes 112 = .ok (.iadd, 1) := by decide +kernel
theorem dX10_dyes_113 : decode cX10_dyes 113 = .ok (.iastore, 1) := by decide +kernel
theorem dX10_dyes_114 : decode cX10_dyes 114 = .ok (.aload_n 0, 1) := by decide +kernel
theorem dX10_dyes_115 : decode cX10_dyes 115 = .ok (.iload_n 1, 1) := by decide +kernel
theorem dX10_dyes_116 : decode cX10_dyes 116 = .ok (.bipush 6, 2) := by decide +kernel
theorem dX10_dyes_118 : decode cX10_dyes 118 = .ok (.iload 4, 2) := by decide +kernel
theorem dX10_dyes_120 : decode cX10_dyes 120 = .ok (.iadd, 1) := by decide +kernel
theorem dX10_dyes_121 : decode cX10_dyes 121 = .ok (.aload_n 0, 1) := by decide +kernel
theorem dX10_dyes_122 : decode cX10_dyes 122 = .ok (.iload_n 1, 1) := by decide +kernel
theorem dX10_dyes_123 : decode cX10_dyes 123 = .ok (.bipush 6, 2) := by decide +kernel
theorem dX10_dyes_125 : decode cX10_dyes 125 = .ok (.iload 4, 2) := by decide +kernel
theorem dX10_dyes_127 : decode cX10_dyes 127 = .ok (.iadd, 1) := by decide +kernel
theorem dX10_dyes_128 : decode cX10_dyes 128 = .ok (.invokevirtual 35, 3) := by decide +kernel
theorem dX10_dyes_131 : decode cX10_dyes 131 = .ok (.iload 6, 2) := by decide +kernel
theorem dX10_dyes_133 : decode cX10_dyes 133 = .ok (.iadd, 1) := by decide +kernel
theorem dX10_dyes_134 : decode cX10_dyes 134 = .ok (.invokevirtual 80, 3) := by decide +kernel
theorem dX10_dyes_137 : decode cX10_dyes 137 = .ok (.aload_n 0, 1) := by decide +kernel
theorem dX10_dyes_138 : decode cX10_dyes 138 = .ok (.iload_n 1, 1) := by decide +kernel
theorem dX10_dyes_139 : decode cX10_dyes 139 = .ok (.iconst 2, 1) := by decide +kernel
theorem dX10_dyes_140 : decode cX10_dyes 140 = .ok (.iload 4, 2) := by decide +kernel
theorem dX10_dyes_142 : decode cX10_dyes 142 = .ok (.iadd, 1) := by decide +kernel
theorem dX10_dyes_143 : decode cX10_dyes 143 = .ok (.aload_n 0, 1) := by decide +kernel
theorem dX10_dyes_144 : decode cX10_dyes 144 = .ok (.iload_n 1, 1) := by decide +kernel
theorem dX10_dyes_145 : decode cX10_dyes 145 = .ok (.iconst 2, 1) := by decide +kernel
theorem dX10_dyes_146 : decode cX10_dyes 146 = .ok (.iload 4, 2) := by decide +kernel
theorem dX10_dyes_148 : decode cX10_dyes 148 = .ok (.iadd, 1) := by decide +kernel
theorem dX10_dyes_149 : decode cX10_dyes 149 = .ok (.invokevirtual 35, 3) := by decide +kernel
theorem dX10_dyes_152 : decode cX10_dyes 152 = .ok (.iload 5, 2) := by decide +kernel
theorem dX10_dyes_154 : decode cX10_dyes 154 = .ok (.iadd, 1) := by decide +kernel
theorem dX10_dyes_155 : decode cX10_dyes 155 = .ok (.iload 6, 2) := by decide +kernel
theorem dX10_dyes_157 : decode cX10_dyes 157 = .ok (.isub, 1) := by decide +kernel
theorem dX10_dyes_158 : decode cX10_dyes 158 = .ok (.invokevirtual 80, 3) := by decide +kernel
theorem dX10_dyes_161 : decode cX10_dyes 161 = .ok (.aload_n 0, 1) := by decide +kernel
theorem dX10_dyes_162 : decode cX10_dyes 162 = .ok (.iload_n 1, 1) := by decide +kernel
theorem dX10_dyes_163 : decode cX10_dyes 163 = .ok (.bipush 14, 2) := by decide +kernel
theorem dX10_dyes_165 : decode cX10_dyes 165 = .ok (.aload_n 0, 1) := by decide +kernel
theorem dX10_dyes_166 : decode cX10_dyes 166 = .ok (.iload_n 1, 1) := by decide +kernel
theorem dX10_dyes_167 : decode cX10_dyes 167 = .ok (.bipush 14, 2) := by decide +kernel
theorem dX10_dyes_169 : decode cX10_dyes 169 = .ok (.invokevirtual 35, 3) := by decide +kernel
theorem dX10_dyes_172 : decode cX10_dyes 172 = .ok (.iconst 1, 1) := by decide +kernel
theorem dX10_dyes_173 : decode cX10_dyes 173 = .ok (.iadd, 1) := by decide +kernel
theorem dX10_dyes_174 : decode cX10_dyes 174 = .ok (.invokevirtual 80, 3) := by decide +kernel
theorem dX10_dyes_177 : decode cX10_dyes 177 = .ok (.aload_n 0, 1) := by decide +kernel
theorem dX10_dyes_178 : decode cX10_dyes 178 = .ok (.getfield 7, 3) := by decide +kernel
theorem dX10_dyes_181 : decode cX10_dyes 181 = .ok (.bipush 10, 2) := by decide +kernel
theorem dX10_dyes_183 : decode cX10_dyes 183 = .ok (.dup2, 1) := by decide +kernel
theorem dX10_dyes_184 : decode cX10_dyes 184 = .ok (.iaload, 1) := by decide +kernel
theorem dX10_dyes_185 : decode cX10_dyes 185 = .ok (.iconst 1, 1) := by decide +kernel
theorem dX10_dyes_186 : decode cX10_dyes 186 = .ok (.iadd, 1) := by decide +kernel
theorem dX10_dyes_187 : decode cX10_dyes 187 = .ok (.iastore, 1) := by decide +kernel
theorem dX10_dyes_188 : decode cX10_dyes 188 = .ok (.iload 7, 2) := by decide +kernel
theorem dX10_dyes_190 : decode cX10_dyes 190 = .ok (.ifCond .ne 17, 3) := by decide +kernel
theorem dX10_dyes_193 : decode cX10_dyes 193 = .ok (.aload_n 0, 1) := by decide +kernel
theorem dX10_dyes_194 : decode cX10_dyes 194 = .ok (.iload_n 1, 1) := by decide +kernel
theorem dX10_dyes_195 : decode cX10_dyes 195 = .ok (.invokevirtual 88, 3) := by decide +kernel
theorem dX10_dyes_198 : decode cX10_dyes 198 = .ok (.aload_n 0, 1) := by decide +kernel
theorem dX10_dyes_199 : decode cX10_dyes 199 = .ok (.getfield 7, 3) := by decide +kernel
theorem dX10_dyes_202 : decode cX10_dyes 202 = .ok (.iconst 3, 1) := by decide +kernel
theorem dX10_dyes_203 : decode cX10_dyes 203 = .ok (.iaload, 1) := by decide +kernel
theorem dX10_dyes_204 : decode cX10_dyes 204 = .ok (.if_icmp .le 21, 3) := by decide +kernel
theorem dX10_dyes_207 : decode cX10_dyes 207 = .ok (.aload_n 0, 1) := by decide +kernel
theorem dX10_dyes_208 : decode cX10_dyes 208 = .ok (.iload_n 1, 1) := by decide +kernel
theorem dX10_dyes_209 : decode cX10_dyes 209 = .ok (.bipush 12, 2) := by decide +kernel
theorem dX10_dyes_211 : decode cX10_dyes 211 = .ok (.invokevirtual 35, 3) := by decide +kernel
theorem dX10_dyes_214 : decode cX10_dyes 214 = .ok (.ifCond .ne 11, 3) := by decide +kernel
theorem dX10_dyes_217 : decode cX10_dyes 217 = .ok (.aload_n 0, 1) := by decide +kernel
theorem dX10_dyes_218 : decode cX10_dyes 218 = .ok (.iload_n 1, 1) := by decide +kernel
theorem dX10_dyes_219 : decode cX10_dyes 219 = .ok (.bipush 11, 2) := by decide +kernel
theorem dX10_dyes_221 : decode cX10_dyes 221 = .ok (.iconst 1, 1) := by decide +kernel
theorem dX10_dyes_222 : decode cX10_dyes 222 = .ok (.invokevirtual 80, 3) := by decide +kernel
theorem dX10_dyes_225 : decode cX10_dyes 225 = .ok (.aload_n 0, 1) := by decide +kernel
theorem dX10_dyes_226 : decode cX10_dyes 226 = .ok (.iload_n 1, 1) := by decide +kernel
theorem dX10_dyes_227 : decode cX10_dyes 227 = .ok (.bipush 11, 2) := by decide +kernel
theorem dX10_dyes_229 : decode cX10_dyes 229 = .ok (.invokevirtual 35, 3) := by decide +kernel
theorem dX10_dyes_232 : decode cX10_dyes 232 = .ok (.iconst 1, 1) := by decide +kernel
theorem dX10_dyes_233 : decode cX10_dyes 233 = .ok (.if_icmp .ne 41, 3) := by decide +kernel
theorem dX10_dyes_236 : decode cX10_dyes 236 = .ok (.iload 4, 2) := by decide +kernel
theorem dX10_dyes_238 : decode cX10_dyes 238 = .ok (.iconst 3, 1) := by decide +kernel
theorem dX10_dyes_239 : decode cX10_dyes 239 = .ok (.if_icmp .ne 35, 3) := by decide +kernel
theorem dX10_dyes_242 : decode cX10_dyes 242 = .ok (.aload_n 0, 1) := by decide +kernel
theorem dX10_dyes_243 : decode cX10_dyes 243 = .ok (.iload_n 1, 1) := by decide +kernel
theorem dX10_dyes_244 : decode cX10_dyes 244 = .ok (.iconst 3, 1) := by decide +kernel
theorem dX10_dyes_245 : decode cX10_dyes 245 = .ok (.invokevirtual 91, 3) := by decide +kernel
theorem dX10_dyes_248 : decode cX10_dyes 248 = .ok (.aload_n 0, 1) := by decide +kernel
theorem dX10_dyes_249 : decode cX10_dyes 249 = .ok (.getfield 7, 3) := by decide +kernel
theorem dX10_dyes_252 : decode cX10_dyes 252 = .ok (.bipush 6, 2) := by decide +kernel
theorem dX10_dyes_254 : decode cX10_dyes 254 = .ok (.iaload, 1) := by decide +kernel
theorem dX10_dyes_255 : decode cX10_dyes 255 = .ok (.if_icmp .lt 19, 3) := by decide +kernel
theorem dX10_dyes_258 : decode cX10_dyes 258 = .ok (.aload_n 0, 1) := by decide +kernel
theorem dX10_dyes_259 : decode cX10_dyes 259 = .ok (.iload_n 1, 1) := by decide +kernel
theorem dX10_dyes_260 : decode cX10_dyes 260 = .ok (.bipush 11, 2) := by decide +kernel
theorem dX10_dyes_262 : decode cX10_dyes 262 = .ok (.iconst 0, 1) := by decide +kernel
theorem dX10_dyes_263 : decode cX10_dyes 263 = .ok (.invokevirtual 80, 3) := by decide +kernel
theorem dX10_dyes_266 : decode cX10_dyes 266 = .ok (.aload_n 0, 1) := by decide +kernel
theorem dX10_dyes_267 : decode cX10_dyes 267 = .ok (.iload_n 1, 1) := by decide +kernel
theorem dX10_dyes_268 : decode cX10_dyes 268 = .ok (.bipush 12, 2) := by decide +kernel
theorem dX10_dyes_270 : decode cX10_dyes 270 = .ok (.iconst 1, 1) := by decide +kernel
theorem dX10_dyes_271 : decode cX10_dyes 271 = .ok (.invokevirtual 80, 3) := by decide +kernel
theorem dX10_dyes_274 : decode cX10_dyes 274 = .ok (.iload 5, 2) := by decide +kernel
theorem dX10_dyes_276 : decode cX10_dyes 276 = .ok (.ireturn, 1) := by decide +kernel
theorem dX10_dips_0 : decode cX10_dips 0 = .ok (.aload_n 0, 1) := by decide +kernel
theorem dX10_dips_1 : decode cX10_dips 1 = .ok (.iload_n 1, 1) := by decide +kernel
theorem dX10_dips_2 : decode cX10_dips 2 = .ok (.invokevirtual 94, 3) := by decide +kernel
theorem dX10_dips_5 : decode cX10_dips 5 = .ok (.ifCond .eq 11, 3) := by decide +kernel
theorem dX10_dips_8 : decode cX10_dips 8 = .ok (.aload_n 0, 1) := by decide +kernel
theorem dX10_dips_9 : decode cX10_dips 9 = .ok (.iload_n 2, 1) := by decide +kernel
theorem dX10_dips_10 : decode cX10_dips 10 = .ok (.invokevirtual 53, 3) := by decide +kernel
theorem dX10_dips_13 : decode cX10_dips 13 = .ok (.ifCond .ne 5, 3) := by decide +kernel
theorem dX10_dips_16 : decode cX10_dips 16 = .ok (.iconst (-1), 1) := by decide +kernel
theorem dX10_dips_17 : decode cX10_dips 17 = .ok (.ireturn, 1) := by decide +kernel
theorem dX10_dips_18 : decode cX10_dips 18 = .ok (.aload_n 0, 1) := by decide +kernel
theorem dX10_dips_19 : decode cX10_dips 19 = .ok (.iload_n 1, 1) := by decide +kernel
theorem dX10_dips_20 : decode cX10_dips 20 = .ok (.invokevirtual 97, 3) := by decide +kernel
theorem dX10_dips_23 : decode cX10_dips 23 = .ok (.ifCond .ne 20, 3) := by decide +kernel
theorem dX10_dips_26 : decode cX10_dips 26 = .ok (.aload_n 0, 1) := by decide +kernel
theorem dX10_dips_27 : decode cX10_dips 27 = .ok (.iload_n 1, 1) := by decide +kernel
theorem dX10_dips_28 : decode cX10_dips 28 = .ok (.invokevirtual 100, 3) := by decide +kernel
theorem dX10_dips_31 : decode cX10_dips 31 = .ok (.ifCond .ne 12, 3) := by decide +kernel
theorem dX10_dips_34 : decode cX10_dips 34 = .ok (.aload_n 0, 1) := by decide +kernel
theorem dX10_dips_35 : decode cX10_dips 35 = .ok (.iload_n 2, 1) := by decide +kernel
theorem dX10_dips_36 : decode cX10_dips 36 = .ok (.iconst 2, 1) := by decide +kernel
theorem dX10_dips_37 : decode cX10_dips 37 = .ok (.invokevirtual 57, 3) := by decide +kernel
theorem dX10_dips_40 : decode cX10_dips 40 = .ok (.ifCond .ne 8, 3) := by decide +kernel
theorem dX10_dips_43 : decode cX10_dips 43 = .ok (.bipush (-2), 2) := by decide +kernel
theorem dX10_dips_45 : decode cX10_dips 45 = .ok (.goto 9, 3) := by decide +kernel
theorem dX10_dips_48 : decode cX10_dips 48 = .ok (.aload_n 0, 1) := by decide +kernel
theorem dX10_dips_49 : decode cX10_dips 49 = .ok (.iload_n 1, 1) := by decide +kernel
theorem dX10_dips_50 : decode cX10_dips 50 = .ok (.iload_n 2, 1) := by decide +kernel
theorem dX10_dips_51 : decode cX10_dips 51 = .ok (.invokevirtual 103, 3) := by decide +kernel
theorem dX10_dips_54 : decode cX10_dips 54 = .ok (.ireturn, 1) := by decide +kernel
theorem dX10_dip_0 : decode cX10_dip 0 = .ok (.aload_n 0, 1) := by decide +kernel
theorem dX10_dip_1 : decode cX10_dip 1 = .ok (.invokevirtual 61, 3) := by decide +kernel
theorem dX10_dip_4 : decode cX10_dip 4 = .ok (.aload_n 0, 1) := by decide +kernel
theorem dX10_dip_5 : decode cX10_dip 5 = .ok (.aload_n 0, 1) := by decide +kernel
theorem dX10_dip_6 : decode cX10_dip 6 = .ok (.iload_n 1, 1) := by decide +kernel
theorem dX10_dip_7 : decode cX10_dip 7 = .ok (.iload_n 2, 1) := by decide +kernel
theorem dX10_dip_8 : decode cX10_dip 8 = .ok (.invokevirtual 106, 3) := by decide +kernel
theorem dX10_dip_11 : decode cX10_dip 11 = .ok (.invokevirtual 68, 3) := by decide +kernel
theorem dX10_dip_14 : decode cX10_dip 14 = .ok (.ireturn, 1) := by decide +kernel
theorem dX10_rinses_0 : decode cX10_rinses 0 = .ok (.aload_n 0, 1) := by decide +kernel
theorem dX10_rinses_1 : decode cX10_rinses 1 = .ok (.iload_n 1, 1) := by decide +kernel
theorem dX10_rinses_2 : decode cX10_rinses 2 = .ok (.invokevirtual 94, 3) := by decide +kernel
theorem dX10_rinses_5 : decode cX10_rinses 5 = .ok (.ifCond .ne 5, 3) := by decide +kernel
theorem dX10_rinses_8 : decode cX10_rinses 8 = .ok (.iconst (-1), 1) := by decide +kernel
theorem dX10_rinses_9 : decode cX10_rinses 9 = .ok (.ireturn, 1) := by decide +kernel
theorem dX10_rinses_10 : decode cX10_rinses 10 = .ok (.aload_n 0, 1) := by decide +kernel
theorem dX10_rinses_11 : decode cX10_rinses 11 = .ok (.iload_n 1, 1) := by decide +kernel
theorem dX10_rinses_12 : decode cX10_rinses 12 = .ok (.invokevirtual 97, 3) := by decide +kernel
theorem dX10_rinses_15 : decode cX10_rinses 15 = .ok (.ifCond .ne 11, 3) := by decide +kernel
theorem dX10_rinses_18 : decode cX10_rinses 18 = .ok (.aload_n 0, 1) := by decide +kernel
theorem dX10_rinses_19 : decode cX10_rinses 19 = .ok (.iload_n 1, 1) := by decide +kernel
theorem dX10_rinses_20 : decode cX10_rinses 20 = .ok (.invokevirtual 100, 3) := by decide +kernel
theorem dX10_rinses_23 : decode cX10_rinses 23 = .ok (.ifCond .eq 6, 3) := by decide +kernel
theorem dX10_rinses_26 : decode cX10_rinses 26 = .ok (.bipush (-2), 2) := by decide +kernel
theorem dX10_rinses_28 : decode cX10_rinses 28 = .ok (.ireturn, 1) := by decide +kernel
theorem dX10_rinses_29 : decode cX10_rinses 29 = .ok (.iconst 0, 1) := by decide +kernel
theorem dX10_rinses_30 : decode cX10_rinses 30 = .ok (.istore_n 2, 1) := by decide +kernel
theorem dX10_rinses_31 : decode cX10_rinses 31 = .ok (.iconst 0, 1) := by decide +kernel
theorem dX10_rinses_32 : decode cX10_rinses 32 = .ok (.istore_n 3, 1) := by decide +kernel
theorem dX10_rinses_33 : decode cX10_rinses 33 = .ok (.iload_n 3, 1) := by decide +kernel
theorem dX10_rinses_34 : decode cX10_rinses 34 = .ok (.iconst 4, 1) := by decide +kernel
theorem dX10_rinses_35 : decode cX10_rinses 35 = .ok (.if_icmp .ge 49, 3) := by decide +kernel
theorem dX10_rinses_38 : decode cX10_rinses 38 = .ok (.aload_n 0, 1) := by decide +kernel
theorem dX10_rinses_39 : decode cX10_rinses 39 = .ok (.iload_n 1, 1) := by decide +kernel
theorem dX10_rinses_40 : decode cX10_rinses 40 = .ok (.bipush 6, 2) := by decide +kernel
theorem dX10_rinses_42 : decode cX10_rinses 42 = .ok (.iload_n 3, 1) := by decide +kernel
theorem dX10_rinses_43 : decode cX10_rinses 43 = .ok (.iadd, 1) := by decide +kernel
theorem dX10_rinses_44 : decode cX10_rinses 44 = .ok (.invokevirtual 35, 3) := by decide +kernel
theorem dX10_rinses_47 : decode cX10_rinses 47 = .ok (.istore 4, 2) := by decide +kernel
theorem dX10_rinses_49 : decode cX10_rinses 49 = .ok (.iload_n 2, 1) := by decide +kernel
theorem dX10_rinses_50 : decode cX10_rinses 50 = .ok (.iload 4, 2) := by decide +kernel
theorem dX10_rinses_52 : decode cX10_rinses 52 = .ok (.iadd, 1) := by decide +kernel
theorem dX10_rinses_53 : decode cX10_rinses 53 = .ok (.istore_n 2, 1) := by decide +kernel
theorem dX10_rinses_54 : decode cX10_rinses 54 = .ok (.aload_n 0, 1) := by decide +kernel
theorem dX10_rinses_55 : decode cX10_rinses 55 = .ok (.getfield 7, 3) := by decide +kernel
theorem dX10_rinses_58 : decode cX10_rinses 58 = .ok (.bipush 15, 2) := by decide +kernel
theorem dX10_rinses_60 : decode cX10_rinses 60 = .ok (.iload_n 3, 1) := by decide +kernel
theorem dX10_rinses_61 : decode cX10_rinses 61 = .ok (.iadd, 1) := by decide +kernel
theorem dX10_rinses_62 : decode cX10_rinses 62 = .ok (.dup2, 1) := by decide +kernel
theorem dX10_rinses_63 : decode cX10_rinses 63 = .ok (.iaload, 1) := by decide +kernel
theorem dX10_rinses_64 : decode cX10_rinses 64 = .ok (.iload 4, 2) := by decide +kernel
theorem dX10_rinses_66 : decode cX10_rinses 66 = .ok (.iadd, 1) := by decide +kernel
theorem dX10_rinses_67 : decode cX10_rinses 67 = .ok (.iastore, 1) := by decide +kernel
theorem dX10_rinses_68 : decode cX10_rinses 68 = .ok (.aload_n 0, 1) := by decide +kernel
theorem dX10_rinses_69 : decode cX10_rinses 69 = .ok (.iload_n 1, 1) := by decide +kernel
theorem dX10_rinses_70 : decode cX10_rinses 70 = .ok (.bipush 6, 2) := by decide +kernel
theorem dX10_rinses_72 : decode cX10_rinses 72 = .ok (.iload_n 3, 1) := by decide +kernel
theorem dX10_rinses_73 : decode cX10_rinses 73 = .ok (.iadd, 1) := by decide +kernel
theorem dX10_rinses_74 : decode cX10_rinses 74 = .ok (.iconst 0, 1) := by decide +kernel
theorem dX10_rinses_75 : decode cX10_rinses 75 = .ok (.invokevirtual 80, 3) := by decide +kernel
theorem dX10_rinses_78 : decode cX10_rinses 78 = .ok (.iinc 3 1, 3) := by decide +kernel
theorem dX10_rinses_81 : decode cX10_rinses 81 = .ok (.goto (-48), 3) := by decide +kernel
theorem dX10_rinses_84 : decode cX10_rinses 84 = .ok (.iload_n 2, 1) := by decide +kernel
theorem dX10_rinses_85 : decode cX10_rinses 85 = .ok (.ireturn, 1) := by decide +kernel
theorem dX10_rinse_0 : decode cX10_rinse 0 = .ok (.aload_n 0, 1) := by decide +kernel
theorem dX10_rinse_1 : decode cX10_rinse 1 = .ok (.invokevirtual 61, 3) := by decide +kernel
theorem dX10_rinse_4 : decode cX10_rinse 4 = .ok (.aload_n 0, 1) := by decide +kernel
theorem dX10_rinse_5 : decode cX10_rinse 5 = .ok (.aload_n 0, 1) := by decide +kernel
theorem dX10_rinse_6 : decode cX10_rinse 6 = .ok (.iload_n 1, 1) := by decide +kernel
theorem dX10_rinse_7 : decode cX10_rinse 7 = .ok (.invokevirtual 109, 3) := by decide +kernel
theorem dX10_rinse_10 : decode cX10_rinse 10 = .ok (.invokevirtual 68, 3) := by decide +kernel
theorem dX10_rinse_13 : decode cX10_rinse 13 = .ok (.ireturn, 1) := by decide +kernel
theorem dX10_hanging_0 : decode cX10_hanging 0 = .ok (.iconst 0, 1) := by decide +kernel
theorem dX10_hanging_1 : decode cX10_hanging 1 = .ok (.istore_n 2, 1) := by decide +kernel
theorem dX10_hanging_2 : decode cX10_hanging 2 = .ok (.iconst 0, 1) := by decide +kernel
theorem dX10_hanging_3 : decode cX10_hanging 3 = .ok (.istore_n 3, 1) := by decide +kernel
theorem dX10_hanging_4 : decode cX10_hanging 4 = .ok (.iload_n 3, 1) := by decide +kernel
theorem dX10_hanging_5 : decode cX10_hanging 5 = .ok (.aload_n 0, 1) := by decide +kernel
theorem dX10_hanging_6 : decode cX10_hanging 6 = .ok (.getfield 7, 3) := by decide +kernel
theorem dX10_hanging_9 : decode cX10_hanging 9 = .ok (.bipush 8, 2) := by decide +kernel
theorem dX10_hanging_11 : decode cX10_hanging 11 = .ok (.iaload, 1) := by decide +kernel
theorem dX10_hanging_12 : decode cX10_hanging 12 = .ok (.if_icmp .ge 35, 3) := by decide +kernel
theorem dX10_hanging_15 : decode cX10_hanging 15 = .ok (.iload_n 2, 1) := by decide +kernel
theorem dX10_hanging_16 : decode cX10_hanging 16 = .ok (.aload_n 0, 1) := by decide +kernel
theorem dX10_hanging_17 : decode cX10_hanging 17 = .ok (.iload_n 3, 1) := by decide +kernel
theorem dX10_hanging_18 : decode cX10_hanging 18 = .ok (.invokevirtual 100, 3) := by decide +kernel
theorem dX10_hanging_21 : decode cX10_hanging 21 = .ok (.ifCond .eq 17, 3) := by decide +kernel
theorem dX10_hanging_24 : decode cX10_hanging 24 = .ok (.aload_n 0, 1) := by decide +kernel
theorem dX10_hanging_25 : decode cX10_hanging 25 = .ok (.iload_n 3, 1) := by decide +kernel
theorem dX10_hanging_26 : decode cX10_hanging 26 = .ok (.iconst 0, 1) := by decide +kernel
theorem dX10_hanging_27 : decode cX10_hanging 27 = .ok (.invokevirtual 35, 3) := by decide +kernel
theorem dX10_hanging_30 : decode cX10_hanging 30 = .ok (.iload_n 1, 1) := by decide +kernel
theorem dX10_hanging_31 : decode cX10_hanging 31 = .ok (.if_icmp .ne 7, 3) := by decide +kernel
theorem dX10_hanging_34 : decode cX10_hanging 34 = .ok (.iconst 1, 1) := by decide +kernel
theorem dX10_hanging_35 : decode cX10_hanging 35 = .ok (.goto 4, 3) := by decide +kernel
theorem dX10_hanging_38 : decode cX10_hanging 38 = .ok (.iconst 0, 1) := by decide +kernel
theorem dX10_hanging_39 : decode cX10_hanging 39 = .ok (.iadd, 1) := by decide +kernel
theorem dX10_hanging_40 : decode cX10_hanging 40 = .ok (.istore_n 2, 1) := by decide +kernel
theorem dX10_hanging_41 : decode cX10_hanging 41 = .ok (.iinc 3 1, 3) := by decide +kernel
theorem dX10_hanging_44 : decode cX10_hanging 44 = .ok (.goto (-40), 3) := by decide +kernel
theorem dX10_hanging_47 : decode cX10_hanging 47 = .ok (.iload_n 2, 1) := by decide +kernel
theorem dX10_hanging_48 : decode cX10_hanging 48 = .ok (.ireturn, 1) := by decide +kernel
theorem dX10_hangsOn_0 : decode cX10_hangsOn 0 = .ok (.aload_n 0, 1) := by decide +kernel
theorem dX10_hangsOn_1 : decode cX10_hangsOn 1 = .ok (.iload_n 1, 1) := by decide +kernel
theorem dX10_hangsOn_2 : decode cX10_hangsOn 2 = .ok (.invokevirtual 94, 3) := by decide +kernel
theorem dX10_hangsOn_5 : decode cX10_hangsOn 5 = .ok (.ifCond .eq 12, 3) := by decide +kernel
theorem dX10_hangsOn_8 : decode cX10_hangsOn 8 = .ok (.iload_n 2, 1) := by decide +kernel
theorem dX10_hangsOn_9 : decode cX10_hangsOn 9 = .ok (.iconst 0, 1) := by decide +kernel
theorem dX10_hangsOn_10 : decode cX10_hangsOn 10 = .ok (.iconst 1, 1) := by decide +kernel
theorem dX10_hangsOn_11 : decode cX10_hangsOn 11 = .ok (.invokestatic 31, 3) := by decide +kernel
theorem dX10_hangsOn_14 : decode cX10_hangsOn 14 = .ok (.ifCond .ne 5, 3) := by decide +kernel
theorem dX10_hangsOn_17 : decode cX10_hangsOn 17 = .ok (.iconst (-1), 1) := by decide +kernel
theorem dX10_hangsOn_18 : decode cX10_hangsOn 18 = .ok (.ireturn, 1) := by decide +kernel
theorem dX10_hangsOn_19 : decode cX10_hangsOn 19 = .ok (.aload_n 0, 1) := by decide +kernel
theorem dX10_hangsOn_20 : decode cX10_hangsOn 20 = .ok (.iload_n 1, 1) := by decide +kernel
theorem dX10_hangsOn_21 : decode cX10_hangsOn 21 = .ok (.invokevirtual 97, 3) := by decide +kernel
theorem dX10_hangsOn_24 : decode cX10_hangsOn 24 = .ok (.ifCond .ne 21, 3) := by decide +kernel
theorem dX10_hangsOn_27 : decode cX10_hangsOn 27 = .ok (.aload_n 0, 1) := by decide +kernel
theorem dX10_hangsOn_28 : decode cX10_hangsOn 28 = .ok (.iload_n 1, 1) := by decide +kernel
theorem dX10_hangsOn_29 : decode cX10_hangsOn 29 = .ok (.invokevirtual 100, 3) := by decide +kernel
theorem dX10_hangsOn_32 : decode cX10_hangsOn 32 = .ok (.ifCond .ne 13, 3) := by decide +kernel
theorem dX10_hangsOn_35 : decode cX10_hangsOn 35 = .ok (.aload_n 0, 1) := by decide +kernel
theorem dX10_hangsOn_36 : decode cX10_hangsOn 36 = .ok (.iload_n 1, 1) := by decide +kernel
theorem dX10_hangsOn_37 : decode cX10_hangsOn 37 = .ok (.iconst 0, 1) := by decide +kernel
theorem dX10_hangsOn_38 : decode cX10_hangsOn 38 = .ok (.invokevirtual 35, 3) := by decide +kernel
theorem dX10_hangsOn_41 : decode cX10_hangsOn 41 = .ok (.iload_n 2, 1) := by decide +kernel
theorem dX10_hangsOn_42 : decode cX10_hangsOn 42 = .ok (.if_icmp .eq 6, 3) := by decide +kernel
theorem dX10_hangsOn_45 : decode cX10_hangsOn 45 = .ok (.bipush (-2), 2) := by decide +kernel
theorem dX10_hangsOn_47 : decode cX10_hangsOn 47 = .ok (.ireturn, 1) := by decide +kernel
theorem dX10_hangsOn_48 : decode cX10_hangsOn 48 = .ok (.aload_n 0, 1) := by decide +kernel
theorem dX10_hangsOn_49 : decode cX10_hangsOn 49 = .ok (.iload_n 2, 1) := by decide +kernel
theorem dX10_hangsOn_50 : decode cX10_hangsOn 50 = .ok (.invokevirtual 112, 3) := by decide +kernel
theorem dX10_hangsOn_53 : decode cX10_hangsOn 53 = .ok (.iconst 4, 1) := by decide +kernel
theorem dX10_hangsOn_54 : decode cX10_hangsOn 54 = .ok (.if_icmp .ne 6, 3) := by decide +kernel
theorem dX10_hangsOn_57 : decode cX10_hangsOn 57 = .ok (.bipush (-3), 2) := by decide +kernel
theorem dX10_hangsOn_59 : decode cX10_hangsOn 59 = .ok (.ireturn, 1) := by decide +kernel
theorem dX10_hangsOn_60 : decode cX10_hangsOn 60 = .ok (.aload_n 0, 1) := by decide +kernel
theorem dX10_hangsOn_61 : decode cX10_hangsOn 61 = .ok (.iload_n 1, 1) := by decide +kernel
theorem dX10_hangsOn_62 : decode cX10_hangsOn 62 = .ok (.bipush 10, 2) := by decide +kernel
theorem dX10_hangsOn_64 : decode cX10_hangsOn 64 = .ok (.iconst 1, 1) := by decide +kernel
theorem dX10_hangsOn_65 : decode cX10_hangsOn 65 = .ok (.invokevirtual 80, 3) := by decide +kernel
theorem dX10_hangsOn_68 : decode cX10_hangsOn 68 = .ok (.aload_n 0, 1) := by decide +kernel
theorem dX10_hangsOn_69 : decode cX10_hangsOn 69 = .ok (.iload_n 2, 1) := by decide +kernel
theorem dX10_hangsOn_70 : decode cX10_hangsOn 70 = .ok (.invokevirtual 112, 3) := by decide +kernel
theorem dX10_hangsOn_73 : decode cX10_hangsOn 73 = .ok (.ireturn, 1) := by decide +kernel
theorem dX10_hang_0 : decode cX10_hang 0 = .ok (.aload_n 0, 1) := by decide +kernel
theorem dX10_hang_1 : decode cX10_hang 1 = .ok (.invokevirtual 61, 3) := by decide +kernel
theorem dX10_hang_4 : decode cX10_hang 4 = .ok (.aload_n 0, 1) := by decide +kernel
theorem dX10_hang_5 : decode cX10_hang 5 = .ok (.aload_n 0, 1) := by decide +kernel
theorem dX10_hang_6 : decode cX10_hang 6 = .ok (.iload_n 1, 1) := by decide +kernel
theorem dX10_hang_7 : decode cX10_hang 7 = .ok (.iload_n 2, 1) := by decide +kernel
theorem dX10_hang_8 : decode cX10_hang 8 = .ok (.invokevirtual 115, 3) := by decide +kernel
theorem dX10_hang_11 : decode cX10_hang 11 = .ok (.invokevirtual 68, 3) := by decide +kernel
theorem dX10_hang_14 : decode cX10_hang 14 = .ok (.ireturn, 1) := by decide +kernel
theorem dX10_takesDown_0 : decode cX10_takesDown 0 = .ok (.aload_n 0, 1) := by decide +kernel
theorem dX10_takesDown_1 : decode cX10_takesDown 1 = .ok (.iload_n 1, 1) := by decide +kernel
theorem dX10_takesDown_2 : decode cX10_takesDown 2 = .ok (.invokevirtual 94, 3) := by decide +kernel
theorem dX10_takesDown_5 : decode cX10_takesDown 5 = .ok (.ifCond .ne 5, 3) := by decide +kernel
theorem dX10_takesDown_8 : decode cX10_takesDown 8 = .ok (.iconst (-1), 1) := by decide +kernel
theorem dX10_takesDown_9 : decode cX10_takesDown 9 = .ok (.ireturn, 1) := by decide +kernel
theorem dX10_takesDown_10 : decode cX10_takesDown 10 = .ok (.aload_n 0, 1) := by decide +kernel
theorem dX10_takesDown_11 : decode cX10_takesDown 11 = .ok (.iload_n 1, 1) := by decide +kernel
theorem dX10_takesDown_12 : decode cX10_takesDown 12 = .ok (.invokevirtual 100, 3) := by decide +kernel
theorem dX10_takesDown_15 : decode cX10_takesDown 15 = .ok (.ifCond .ne 6, 3) := by decide +kernel
theorem dX10_takesDown_18 : decode cX10_takesDown 18 = .ok (.bipush (-2), 2) := by decide +kernel
theorem dX10_takesDown_20 : decode cX10_takesDown 20 = .ok (.ireturn, 1) := by decide +kernel
theorem dX10_takesDown_21 : decode cX10_takesDown 21 = .ok (.aload_n 0, 1) := by decide +kernel
theorem dX10_takesDown_22 : decode cX10_takesDown 22 = .ok (.iload_n 1, 1) := by decide +kernel
theorem dX10_takesDown_23 : decode cX10_takesDown 23 = .ok (.bipush 10, 2) := by decide +kernel
theorem dX10_takesDown_25 : decode cX10_takesDown 25 = .ok (.iconst 0, 1) := by decide +kernel
theorem dX10_takesDown_26 : decode cX10_takesDown 26 = .ok (.invokevirtual 80, 3) := by decide +kernel
theorem dX10_takesDown_29 : decode cX10_takesDown 29 = .ok (.aload_n 0, 1) := by decide +kernel
theorem dX10_takesDown_30 : decode cX10_takesDown 30 = .ok (.aload_n 0, 1) := by decide +kernel
theorem dX10_takesDown_31 : decode cX10_takesDown 31 = .ok (.iload_n 1, 1) := by decide +kernel
theorem dX10_takesDown_32 : decode cX10_takesDown 32 = .ok (.iconst 0, 1) := by decide +kernel
theorem dX10_takesDown_33 : decode cX10_takesDown 33 = .ok (.invokevirtual 35, 3) := by decide +kernel
theorem dX10_takesDown_36 : decode cX10_takesDown 36 = .ok (.invokevirtual 112, 3) := by decide +kernel
theorem dX10_takesDown_39 : decode cX10_takesDown 39 = .ok (.ireturn, 1) := by decide +kernel
theorem dX10_take_0 : decode cX10_take 0 = .ok (.aload_n 0, 1) := by decide +kernel
theorem dX10_take_1 : decode cX10_take 1 = .ok (.invokevirtual 61, 3) := by decide +kernel
theorem dX10_take_4 : decode cX10_take 4 = .ok (.aload_n 0, 1) := by decide +kernel
theorem dX10_take_5 : decode cX10_take 5 = .ok (.aload_n 0, 1) := by decide +kernel
theorem dX10_take_6 : decode cX10_take 6 = .ok (.iload_n 1, 1) := by decide +kernel
theorem dX10_take_7 : decode cX10_take 7 = .ok (.invokevirtual 118, 3) := by decide +kernel
theorem dX10_take_10 : decode cX10_take 10 = .ok (.invokevirtual 68, 3) := by decide +kernel
theorem dX10_take_13 : decode cX10_take 13 = .ok (.ireturn, 1) := by decide +kernel
theorem dX10_sum_0 : decode cX10_sum 0 = .ok (.aload_n 0, 1) := by decide +kernel
theorem dX10_sum_1 : decode cX10_sum 1 = .ok (.iload_n 1, 1) := by decide +kernel
theorem dX10_sum_2 : decode cX10_sum 2 = .ok (.iload_n 2, 1) := by decide +kernel
theorem dX10_sum_3 : decode cX10_sum 3 = .ok (.invokevirtual 35, 3) := by decide +kernel
theorem dX10_sum_6 : decode cX10_sum 6 = .ok (.aload_n 0, 1) := by decide +kernel
theorem dX10_sum_7 : decode cX10_sum 7 = .ok (.iload_n 1, 1) := by decide +kernel
theorem dX10_sum_8 : decode cX10_sum 8 = .ok (.iload_n 2, 1) := by decide +kernel
theorem dX10_sum_9 : decode cX10_sum 9 = .ok (.iconst 1, 1) := by decide +kernel
theorem dX10_sum_10 : decode cX10_sum 10 = .ok (.iadd, 1) := by decide +kernel
theorem dX10_sum_11 : decode cX10_sum 11 = .ok (.invokevirtual 35, 3) := by decide +kernel
theorem dX10_sum_14 : decode cX10_sum 14 = .ok (.iadd, 1) := by decide +kernel
theorem dX10_sum_15 : decode cX10_sum 15 = .ok (.aload_n 0, 1) := by decide +kernel
theorem dX10_sum_16 : decode cX10_sum 16 = .ok (.iload_n 1, 1) := by decide +kernel
theorem dX10_sum_17 : decode cX10_sum 17 = .ok (.iload_n 2, 1) := by decide +kernel
theorem dX10_sum_18 : decode cX10_sum 18 = .ok (.iconst 2, 1) := by decide +kernel
theorem dX10_sum_19 : decode cX10_sum 19 = .ok (.iadd, 1) := by decide +kernel
theorem dX10_sum_20 : decode cX10_sum 20 = .ok (.invokevirtual 35, 3) := by decide +kernel
theorem dX10_sum_23 : decode cX10_sum 23 = .ok (.iadd, 1) := by decide +kernel
theorem dX10_sum_24 : decode cX10_sum 24 = .ok (.aload_n 0, 1) := by decide +kernel
theorem dX10_sum_25 : decode cX10_sum 25 = .ok (.iload_n 1, 1) := by decide +kernel
theorem dX10_sum_26 : decode cX10_sum 26 = .ok (.iload_n 2, 1) := by decide +kernel
theorem dX10_sum_27 : decode cX10_sum 27 = .ok (.iconst 3, 1) := by decide +kernel
theorem dX10_sum_28 : decode cX10_sum 28 = .ok (.iadd, 1) := by decide +kernel
theorem dX10_sum_29 : decode cX10_sum 29 = .ok (.invokevirtual 35, 3) := by decide +kernel
theorem dX10_sum_32 : decode cX10_sum 32 = .ok (.iadd, 1) := by decide +kernel
theorem dX10_sum_33 : decode cX10_sum 33 = .ok (.ireturn, 1) := by decide +kernel
theorem dX10_lotOf_0 : decode cX10_lotOf 0 = .ok (.aload_n 0, 1) := by decide +kernel
theorem dX10_lotOf_1 : decode cX10_lotOf 1 = .ok (.iload_n 1, 1) := by decide +kernel
theorem dX10_lotOf_2 : decode cX10_lotOf 2 = .ok (.invokevirtual 94, 3) := by decide +kernel
theorem dX10_lotOf_5 : decode cX10_lotOf 5 = .ok (.ifCond .ne 5, 3) := by decide +kernel
theorem dX10_lotOf_8 : decode cX10_lotOf 8 = .ok (.iconst (-1), 1) := by decide +kernel
theorem dX10_lotOf_9 : decode cX10_lotOf 9 = .ok (.ireturn, 1) := by decide +kernel
theorem dX10_lotOf_10 : decode cX10_lotOf 10 = .ok (.iload_n 2, 1) := by decide +kernel
theorem dX10_lotOf_11 : decode cX10_lotOf 11 = .ok (.tableswitch 124 0 9 #[53, 53, 60, 66, 73, 81, 81, 81, 93, 116], 53) := by decide +kernel
theorem dX10_lotOf_64 : decode cX10_lotOf 64 = .ok (.aload_n 0, 1) := by decide +kernel
theorem dX10_lotOf_65 : decode cX10_lotOf 65 = .ok (.iload_n 1, 1) := by decide +kernel
theorem dX10_lotOf_66 : decode cX10_lotOf 66 = .ok (.iload_n 2, 1) := by decide +kernel
theorem dX10_lotOf_67 : decode cX10_lotOf 67 = .ok (.invokevirtual 35, 3) := by decide +kernel
theorem dX10_lotOf_70 : decode cX10_lotOf 70 = .ok (.ireturn, 1) := by decide +kernel
theorem dX10_lotOf_71 : decode cX10_lotOf 71 = .ok (.aload_n 0, 1) := by decide +kernel
theorem dX10_lotOf_72 : decode cX10_lotOf 72 = .ok (.iload_n 1, 1) := by decide +kernel
theorem dX10_lotOf_73 : decode cX10_lotOf 73 = .ok (.invokevirtual 88, 3) := by decide +kernel
theorem dX10_lotOf_76 : decode cX10_lotOf 76 = .ok (.ireturn, 1) := by decide +kernel
theorem dX10_lotOf_77 : decode cX10_lotOf 77 = .ok (.aload_n 0, 1) := by decide +kernel
theorem dX10_lotOf_78 : decode cX10_lotOf 78 = .ok (.iload_n 1, 1) := by decide +kernel
theorem dX10_lotOf_79 : decode cX10_lotOf 79 = .ok (.iconst 2, 1) := by decide +kernel
theorem dX10_lotOf_80 : decode cX10_lotOf 80 = .ok (.invokevirtual 121, 3) := by decide +kernel
theorem dX10_lotOf_83 : decode cX10_lotOf 83 = .ok (.ireturn, 1) := by decide +kernel
theorem dX10_lotOf_84 : decode cX10_lotOf 84 = .ok (.aload_n 0, 1) := by decide +kernel
theorem dX10_lotOf_85 : decode cX10_lotOf 85 = .ok (.iload_n 1, 1) := by decide +kernel
theorem dX10_lotOf_86 : decode cX10_lotOf 86 = .ok (.bipush 6, 2) := by decide +kernel
theorem dX10_lotOf_88 : decode cX10_lotOf 88 = .ok (.invokevirtual 121, 3) := by decide +kernel
theorem dX10_lotOf_91 : decode cX10_lotOf 91 = .ok (.ireturn, 1) := by decide +kernel
theorem dX10_lotOf_92 : decode cX10_lotOf 92 = .ok (.aload_n 0, 1) := by decide +kernel
theorem dX10_lotOf_93 : decode cX10_lotOf 93 = .ok (.iload_n 1, 1) := by decide +kernel
theorem dX10_lotOf_94 : decode cX10_lotOf 94 = .ok (.bipush 10, 2) := by decide +kernel
theorem dX10_lotOf_96 : decode cX10_lotOf 96 = .ok (.iload_n 2, 1) := by decide +kernel
theorem dX10_lotOf_97 : decode cX10_lotOf 97 = .ok (.iadd, 1) := by decide +kernel
theorem dX10_lotOf_98 : decode cX10_lotOf 98 = .ok (.iconst 5, 1) := by decide +kernel
theorem dX10_lotOf_99 : decode cX10_lotOf 99 = .ok (.isub, 1) := by decide +kernel
theorem dX10_lotOf_100 : decode cX10_lotOf 100 = .ok (.invokevirtual 35, 3) := by decide +kernel
theorem dX10_lotOf_103 : decode cX10_lotOf 103 = .ok (.ireturn, 1) := by decide +kernel
theorem dX10_lotOf_104 : decode cX10_lotOf 104 = .ok (.aload_n 0, 1) := by decide +kernel
theorem dX10_lotOf_105 : decode cX10_lotOf 105 = .ok (.iload_n 1, 1) := by decide +kernel
theorem dX10_lotOf_106 : decode cX10_lotOf 106 = .ok (.invokevirtual 97, 3) := by decide +kernel
theorem dX10_lotOf_109 : decode cX10_lotOf 109 = .ok (.ifCond .eq 15, 3) := by decide +kernel
theorem dX10_lotOf_112 : decode cX10_lotOf 112 = .ok (.aload_n 0, 1) := by decide +kernel
theorem dX10_lotOf_113 : decode cX10_lotOf 113 = .ok (.iload_n 1, 1) := by decide +kernel
theorem dX10_lotOf_114 : decode cX10_lotOf 114 = .ok (.bipush 13, 2) := by decide +kernel
theorem dX10_lotOf_116 : decode cX10_lotOf 116 = .ok (.invokevirtual 35, 3) := by decide +kernel
theorem dX10_lotOf_119 : decode cX10_lotOf 119 = .ok (.iconst 1, 1) := by decide +kernel
theorem dX10_lotOf_120 : decode cX10_lotOf 120 = .ok (.isub, 1) := by decide +kernel
theorem dX10_lotOf_121 : decode cX10_lotOf 121 = .ok (.goto 5, 3) := by decide +kernel
theorem dX10_lotOf_124 : decode cX10_lotOf 124 = .ok (.bipush (-4), 2) := by decide +kernel
theorem dX10_lotOf_126 : decode cX10_lotOf 126 = .ok (.ireturn, 1) := by decide +kernel
theorem dX10_lotOf_127 : decode cX10_lotOf 127 = .ok (.aload_n 0, 1) := by decide +kernel
theorem dX10_lotOf_128 : decode cX10_lotOf 128 = .ok (.iload_n 1, 1) := by decide +kernel
theorem dX10_lotOf_129 : decode cX10_lotOf 129 = .ok (.bipush 14, 2) := by decide +kernel
theorem dX10_lotOf_131 : decode cX10_lotOf 131 = .ok (.invokevirtual 35, 3) := by decide +kernel
theorem dX10_lotOf_134 : decode cX10_lotOf 134 = .ok (.ireturn, 1) := by decide +kernel
theorem dX10_lotOf_135 : decode cX10_lotOf 135 = .ok (.iconst (-1), 1) := by decide +kernel
theorem dX10_lotOf_136 : decode cX10_lotOf 136 = .ok (.ireturn, 1) := by decide +kernel
theorem dX10_shade_0 : decode cX10_shade 0 = .ok (.aload_n 0, 1) := by decide +kernel
theorem dX10_shade_1 : decode cX10_shade 1 = .ok (.iload_n 1, 1) := by decide +kernel
theorem dX10_shade_2 : decode cX10_shade 2 = .ok (.invokevirtual 94, 3) := by decide +kernel
theorem dX10_shade_5 : decode cX10_shade 5 = .ok (.ifCond .eq 19, 3) := by decide +kernel
theorem dX10_shade_8 : decode cX10_shade 8 = .ok (.iload_n 2, 1) := by decide +kernel
theorem dX10_shade_9 : decode cX10_shade 9 = .ok (.invokestatic 49, 3) := by decide +kernel
theorem dX10_shade_12 : decode cX10_shade 12 = .ok (.ifCond .eq 12, 3) := by decide +kernel
theorem dX10_shade_15 : decode cX10_shade 15 = .ok (.aload_n 0, 1) := by decide +kernel
theorem dX10_shade_16 : decode cX10_shade 16 = .ok (.iload_n 1, 1) := by decide +kernel
theorem dX10_shade_17 : decode cX10_shade 17 = .ok (.iload_n 2, 1) := by decide +kernel
theorem dX10_shade_18 : decode cX10_shade 18 = .ok (.invokevirtual 91, 3) := by decide +kernel
theorem dX10_shade_21 : decode cX10_shade 21 = .ok (.goto 4, 3) := by decide +kernel
theorem dX10_shade_24 : decode cX10_shade 24 = .ok (.iconst (-1), 1) := by decide +kernel
theorem dX10_shade_25 : decode cX10_shade 25 = .ok (.ireturn, 1) := by decide +kernel
theorem dX10_exact_0 : decode cX10_exact 0 = .ok (.aload_n 0, 1) := by decide +kernel
theorem dX10_exact_1 : decode cX10_exact 1 = .ok (.iload_n 1, 1) := by decide +kernel
theorem dX10_exact_2 : decode cX10_exact 2 = .ok (.iload_n 2, 1) := by decide +kernel
theorem dX10_exact_3 : decode cX10_exact 3 = .ok (.invokevirtual 77, 3) := by decide +kernel
theorem dX10_exact_6 : decode cX10_exact 6 = .ok (.i2f, 1) := by decide +kernel
theorem dX10_exact_7 : decode cX10_exact 7 = .ok (.aload_n 0, 1) := by decide +kernel
theorem dX10_exact_8 : decode cX10_exact 8 = .ok (.iload_n 1, 1) := by decide +kernel
theorem dX10_exact_9 : decode cX10_exact 9 = .ok (.iconst 1, 1) := by decide +kernel
theorem dX10_exact_10 : decode cX10_exact 10 = .ok (.invokevirtual 35, 3) := by decide +kernel
theorem dX10_exact_13 : decode cX10_exact 13 = .ok (.i2f, 1) := by decide +kernel
theorem dX10_exact_14 : decode cX10_exact 14 = .ok (.fdiv, 1) := by decide +kernel
theorem dX10_exact_15 : decode cX10_exact 15 = .ok (.freturn, 1) := by decide +kernel
theorem dX10_shadeBits_0 : decode cX10_shadeBits 0 = .ok (.aload_n 0, 1) := by decide +kernel
theorem dX10_shadeBits_1 : decode cX10_shadeBits 1 = .ok (.iload_n 1, 1) := by decide +kernel
theorem dX10_shadeBits_2 : decode cX10_shadeBits 2 = .ok (.invokevirtual 94, 3) := by decide +kernel
theorem dX10_shadeBits_5 : decode cX10_shadeBits 5 = .ok (.ifCond .eq 22, 3) := by decide +kernel
theorem dX10_shadeBits_8 : decode cX10_shadeBits 8 = .ok (.iload_n 2, 1) := by decide +kernel
theorem dX10_shadeBits_9 : decode cX10_shadeBits 9 = .ok (.invokestatic 49, 3) := by decide +kernel
theorem dX10_shadeBits_12 : decode cX10_shadeBits 12 = .ok (.ifCond .eq 15, 3) := by decide +kernel
theorem dX10_shadeBits_15 : decode cX10_shadeBits 15 = .ok (.aload_n 0, 1) := by decide +kernel
theorem dX10_shadeBits_16 : decode cX10_shadeBits 16 = .ok (.iload_n 1, 1) := by decide +kernel
theorem dX10_shadeBits_17 : decode cX10_shadeBits 17 = .ok (.iload_n 2, 1) := by decide +kernel
theorem dX10_shadeBits_18 : decode cX10_shadeBits 18 = .ok (.invokevirtual 124, 3) := by decide +kernel
end
section
theorem dX10_shadeBits_21 : decode cX10_shadeBits 21 = .ok (.invokestatic 128, 3) := by decide +kernel
theorem dX10_shadeBits_24 : decode cX10_shadeBits 24 = .ok (.goto 4, 3) := by decide +kernel
theorem dX10_shadeBits_27 : decode cX10_shadeBits 27 = .ok (.iconst (-1), 1) := by decide +kernel
theorem dX10_shadeBits_28 : decode cX10_shadeBits 28 = .ok (.ireturn, 1) := by decide +kernel
theorem dX10_meanBits_0 : decode cX10_meanBits 0 = .ok (.iload_n 1, 1) := by decide +kernel
theorem dX10_meanBits_1 : decode cX10_meanBits 1 = .ok (.invokestatic 49, 3) := by decide +kernel
theorem dX10_meanBits_4 : decode cX10_meanBits 4 = .ok (.ifCond .ne 5, 3) := by decide +kernel
theorem dX10_meanBits_7 : decode cX10_meanBits 7 = .ok (.iconst (-1), 1) := by decide +kernel
theorem dX10_meanBits_8 : decode cX10_meanBits 8 = .ok (.ireturn, 1) := by decide +kernel
theorem dX10_meanBits_9 : decode cX10_meanBits 9 = .ok (.dconst 0, 1) := by decide +kernel
theorem dX10_meanBits_10 : decode cX10_meanBits 10 = .ok (.dstore_n 2, 1) := by decide +kernel
theorem dX10_meanBits_11 : decode cX10_meanBits 11 = .ok (.iconst 0, 1) := by decide +kernel
theorem dX10_meanBits_12 : decode cX10_meanBits 12 = .ok (.istore 4, 2) := by decide +kernel
theorem dX10_meanBits_14 : decode cX10_meanBits 14 = .ok (.iconst 0, 1) := by decide +kernel
theorem dX10_meanBits_15 : decode cX10_meanBits 15 = .ok (.istore 5, 2) := by decide +kernel
theorem dX10_meanBits_17 : decode cX10_meanBits 17 = .ok (.iload 5, 2) := by decide +kernel
theorem dX10_meanBits_19 : decode cX10_meanBits 19 = .ok (.aload_n 0, 1) := by decide +kernel
theorem dX10_meanBits_20 : decode cX10_meanBits 20 = .ok (.getfield 7, 3) := by decide +kernel
theorem dX10_meanBits_23 : decode cX10_meanBits 23 = .ok (.bipush 8, 2) := by decide +kernel
theorem dX10_meanBits_25 : decode cX10_meanBits 25 = .ok (.iaload, 1) := by decide +kernel
theorem dX10_meanBits_26 : decode cX10_meanBits 26 = .ok (.if_icmp .ge 32, 3) := by decide +kernel
theorem dX10_meanBits_29 : decode cX10_meanBits 29 = .ok (.aload_n 0, 1) := by decide +kernel
theorem dX10_meanBits_30 : decode cX10_meanBits 30 = .ok (.iload 5, 2) := by decide +kernel
theorem dX10_meanBits_32 : decode cX10_meanBits 32 = .ok (.invokevirtual 97, 3) := by decide +kernel
theorem dX10_meanBits_35 : decode cX10_meanBits 35 = .ok (.ifCond .ne 17, 3) := by decide +kernel
theorem dX10_meanBits_38 : decode cX10_meanBits 38 = .ok (.dload_n 2, 1) := by decide +kernel
theorem dX10_meanBits_39 : decode cX10_meanBits 39 = .ok (.aload_n 0, 1) := by decide +kernel
theorem dX10_meanBits_40 : decode cX10_meanBits 40 = .ok (.iload 5, 2) := by decide +kernel
theorem dX10_meanBits_42 : decode cX10_meanBits 42 = .ok (.iload_n 1, 1) := by decide +kernel
theorem dX10_meanBits_43 : decode cX10_meanBits 43 = .ok (.invokevirtual 124, 3) := by decide +kernel
theorem dX10_meanBits_46 : decode cX10_meanBits 46 = .ok (.f2d, 1) := by decide +kernel
theorem dX10_meanBits_47 : decode cX10_meanBits 47 = .ok (.dadd, 1) := by decide +kernel
theorem dX10_meanBits_48 : decode cX10_meanBits 48 = .ok (.dstore_n 2, 1) := by decide +kernel
theorem dX10_meanBits_49 : decode cX10_meanBits 49 = .ok (.iinc 4 1, 3) := by decide +kernel
theorem dX10_meanBits_52 : decode cX10_meanBits 52 = .ok (.iinc 5 1, 3) := by decide +kernel
theorem dX10_meanBits_55 : decode cX10_meanBits 55 = .ok (.goto (-38), 3) := by decide +kernel
theorem dX10_meanBits_58 : decode cX10_meanBits 58 = .ok (.iload 4, 2) := by decide +kernel
theorem dX10_meanBits_60 : decode cX10_meanBits 60 = .ok (.ifCond .ne 8, 3) := by decide +kernel
theorem dX10_meanBits_63 : decode cX10_meanBits 63 = .ok (.bipush (-4), 2) := by decide +kernel
theorem dX10_meanBits_65 : decode cX10_meanBits 65 = .ok (.goto 12, 3) := by decide +kernel
theorem dX10_meanBits_68 : decode cX10_meanBits 68 = .ok (.dload_n 2, 1) := by decide +kernel
theorem dX10_meanBits_69 : decode cX10_meanBits 69 = .ok (.iload 4, 2) := by decide +kernel
theorem dX10_meanBits_71 : decode cX10_meanBits 71 = .ok (.i2d, 1) := by decide +kernel
theorem dX10_meanBits_72 : decode cX10_meanBits 72 = .ok (.ddiv, 1) := by decide +kernel
theorem dX10_meanBits_73 : decode cX10_meanBits 73 = .ok (.d2f, 1) := by decide +kernel
theorem dX10_meanBits_74 : decode cX10_meanBits 74 = .ok (.invokestatic 128, 3) := by decide +kernel
theorem dX10_meanBits_77 : decode cX10_meanBits 77 = .ok (.ireturn, 1) := by decide +kernel
theorem dX10_unserved_0 : decode cX10_unserved 0 = .ok (.iconst 0, 1) := by decide +kernel
theorem dX10_unserved_1 : decode cX10_unserved 1 = .ok (.istore_n 1, 1) := by decide +kernel
theorem dX10_unserved_2 : decode cX10_unserved 2 = .ok (.iconst 0, 1) := by decide +kernel
theorem dX10_unserved_3 : decode cX10_unserved 3 = .ok (.istore_n 2, 1) := by decide +kernel
theorem dX10_unserved_4 : decode cX10_unserved 4 = .ok (.iload_n 2, 1) := by decide +kernel
theorem dX10_unserved_5 : decode cX10_unserved 5 = .ok (.aload_n 0, 1) := by decide +kernel
theorem dX10_unserved_6 : decode cX10_unserved 6 = .ok (.getfield 7, 3) := by decide +kernel
theorem dX10_unserved_9 : decode cX10_unserved 9 = .ok (.bipush 9, 2) := by decide +kernel
theorem dX10_unserved_11 : decode cX10_unserved 11 = .ok (.iaload, 1) := by decide +kernel
theorem dX10_unserved_12 : decode cX10_unserved 12 = .ok (.if_icmp .ge 20, 3) := by decide +kernel
theorem dX10_unserved_15 : decode cX10_unserved 15 = .ok (.iload_n 1, 1) := by decide +kernel
theorem dX10_unserved_16 : decode cX10_unserved 16 = .ok (.iconst 1, 1) := by decide +kernel
theorem dX10_unserved_17 : decode cX10_unserved 17 = .ok (.aload_n 0, 1) := by decide +kernel
theorem dX10_unserved_18 : decode cX10_unserved 18 = .ok (.iload_n 2, 1) := by decide +kernel
theorem dX10_unserved_19 : decode cX10_unserved 19 = .ok (.iconst 4, 1) := by decide +kernel
theorem dX10_unserved_20 : decode cX10_unserved 20 = .ok (.invokevirtual 134, 3) := by decide +kernel
theorem dX10_unserved_23 : decode cX10_unserved 23 = .ok (.isub, 1) := by decide +kernel
theorem dX10_unserved_24 : decode cX10_unserved 24 = .ok (.iadd, 1) := by decide +kernel
theorem dX10_unserved_25 : decode cX10_unserved 25 = .ok (.istore_n 1, 1) := by decide +kernel
theorem dX10_unserved_26 : decode cX10_unserved 26 = .ok (.iinc 2 1, 3) := by decide +kernel
theorem dX10_unserved_29 : decode cX10_unserved 29 = .ok (.goto (-25), 3) := by decide +kernel
theorem dX10_unserved_32 : decode cX10_unserved 32 = .ok (.iload_n 1, 1) := by decide +kernel
theorem dX10_unserved_33 : decode cX10_unserved 33 = .ok (.ireturn, 1) := by decide +kernel
theorem dX10_isShade_0 : decode cX10_isShade 0 = .ok (.iload_n 0, 1) := by decide +kernel
theorem dX10_isShade_1 : decode cX10_isShade 1 = .ok (.iconst 0, 1) := by decide +kernel
theorem dX10_isShade_2 : decode cX10_isShade 2 = .ok (.sipush 20000, 3) := by decide +kernel
theorem dX10_isShade_5 : decode cX10_isShade 5 = .ok (.invokestatic 31, 3) := by decide +kernel
theorem dX10_isShade_8 : decode cX10_isShade 8 = .ok (.ireturn, 1) := by decide +kernel
theorem dX10_order_0 : decode cX10_order 0 = .ok (.iload_n 1, 1) := by decide +kernel
theorem dX10_order_1 : decode cX10_order 1 = .ok (.invokestatic 137, 3) := by decide +kernel
theorem dX10_order_4 : decode cX10_order 4 = .ok (.ifCond .eq 25, 3) := by decide +kernel
theorem dX10_order_7 : decode cX10_order 7 = .ok (.iload_n 2, 1) := by decide +kernel
theorem dX10_order_8 : decode cX10_order 8 = .ok (.invokestatic 137, 3) := by decide +kernel
theorem dX10_order_11 : decode cX10_order 11 = .ok (.ifCond .eq 18, 3) := by decide +kernel
theorem dX10_order_14 : decode cX10_order 14 = .ok (.iload_n 3, 1) := by decide +kernel
theorem dX10_order_15 : decode cX10_order 15 = .ok (.invokestatic 137, 3) := by decide +kernel
theorem dX10_order_18 : decode cX10_order 18 = .ok (.ifCond .eq 11, 3) := by decide +kernel
theorem dX10_order_21 : decode cX10_order 21 = .ok (.iload 4, 2) := by decide +kernel
theorem dX10_order_23 : decode cX10_order 23 = .ok (.invokestatic 137, 3) := by decide +kernel
theorem dX10_order_26 : decode cX10_order 26 = .ok (.ifCond .ne 5, 3) := by decide +kernel
theorem dX10_order_29 : decode cX10_order 29 = .ok (.iconst (-1), 1) := by decide +kernel
theorem dX10_order_30 : decode cX10_order 30 = .ok (.ireturn, 1) := by decide +kernel
theorem dX10_order_31 : decode cX10_order 31 = .ok (.aload_n 0, 1) := by decide +kernel
theorem dX10_order_32 : decode cX10_order 32 = .ok (.invokevirtual 140, 3) := by decide +kernel
theorem dX10_order_35 : decode cX10_order 35 = .ok (.bipush 8, 2) := by decide +kernel
theorem dX10_order_37 : decode cX10_order 37 = .ok (.if_icmp .eq 15, 3) := by decide +kernel
theorem dX10_order_40 : decode cX10_order 40 = .ok (.aload_n 0, 1) := by decide +kernel
theorem dX10_order_41 : decode cX10_order 41 = .ok (.getfield 7, 3) := by decide +kernel
theorem dX10_order_44 : decode cX10_order 44 = .ok (.bipush 9, 2) := by decide +kernel
theorem dX10_order_46 : decode cX10_order 46 = .ok (.iaload, 1) := by decide +kernel
theorem dX10_order_47 : decode cX10_order 47 = .ok (.bipush 60, 2) := by decide +kernel
theorem dX10_order_49 : decode cX10_order 49 = .ok (.if_icmp .ne 6, 3) := by decide +kernel
theorem dX10_order_52 : decode cX10_order 52 = .ok (.bipush (-3), 2) := by decide +kernel
theorem dX10_order_54 : decode cX10_order 54 = .ok (.ireturn, 1) := by decide +kernel
theorem dX10_order_55 : decode cX10_order 55 = .ok (.aload_n 0, 1) := by decide +kernel
theorem dX10_order_56 : decode cX10_order 56 = .ok (.invokevirtual 43, 3) := by decide +kernel
theorem dX10_order_59 : decode cX10_order 59 = .ok (.sipush 343, 3) := by decide +kernel
theorem dX10_order_62 : decode cX10_order 62 = .ok (.iconst 5, 1) := by decide +kernel
theorem dX10_order_63 : decode cX10_order 63 = .ok (.aload_n 0, 1) := by decide +kernel
theorem dX10_order_64 : decode cX10_order 64 = .ok (.getfield 7, 3) := by decide +kernel
theorem dX10_order_67 : decode cX10_order 67 = .ok (.bipush 9, 2) := by decide +kernel
theorem dX10_order_69 : decode cX10_order 69 = .ok (.iaload, 1) := by decide +kernel
theorem dX10_order_70 : decode cX10_order 70 = .ok (.imul, 1) := by decide +kernel
theorem dX10_order_71 : decode cX10_order 71 = .ok (.iadd, 1) := by decide +kernel
theorem dX10_order_72 : decode cX10_order 72 = .ok (.istore 5, 2) := by decide +kernel
theorem dX10_order_74 : decode cX10_order 74 = .ok (.aload_n 0, 1) := by decide +kernel
theorem dX10_order_75 : decode cX10_order 75 = .ok (.getfield 7, 3) := by decide +kernel
theorem dX10_order_78 : decode cX10_order 78 = .ok (.iload 5, 2) := by decide +kernel
theorem dX10_order_80 : decode cX10_order 80 = .ok (.iload_n 1, 1) := by decide +kernel
theorem dX10_order_81 : decode cX10_order 81 = .ok (.iastore, 1) := by decide +kernel
theorem dX10_order_82 : decode cX10_order 82 = .ok (.aload_n 0, 1) := by decide +kernel
theorem dX10_order_83 : decode cX10_order 83 = .ok (.getfield 7, 3) := by decide +kernel
theorem dX10_order_86 : decode cX10_order 86 = .ok (.iload 5, 2) := by decide +kernel
theorem dX10_order_88 : decode cX10_order 88 = .ok (.iconst 1, 1) := by decide +kernel
theorem dX10_order_89 : decode cX10_order 89 = .ok (.iadd, 1) := by decide +kernel
theorem dX10_order_90 : decode cX10_order 90 = .ok (.iload_n 2, 1) := by decide +kernel
theorem dX10_order_91 : decode cX10_order 91 = .ok (.iastore, 1) := by decide +kernel
theorem dX10_order_92 : decode cX10_order 92 = .ok (.aload_n 0, 1) := by decide +kernel
theorem dX10_order_93 : decode cX10_order 93 = .ok (.getfield 7, 3) := by decide +kernel
theorem dX10_order_96 : decode cX10_order 96 = .ok (.iload 5, 2) := by decide +kernel
theorem dX10_order_98 : decode cX10_order 98 = .ok (.iconst 2, 1) := by decide +kernel
theorem dX10_order_99 : decode cX10_order 99 = .ok (.iadd, 1) := by decide +kernel
theorem dX10_order_100 : decode cX10_order 100 = .ok (.iload_n 3, 1) := by decide +kernel
theorem dX10_order_101 : decode cX10_order 101 = .ok (.iastore, 1) := by decide +kernel
theorem dX10_order_102 : decode cX10_order 102 = .ok (.aload_n 0, 1) := by decide +kernel
theorem dX10_order_103 : decode cX10_order 103 = .ok (.getfield 7, 3) := by decide +kernel
theorem dX10_order_106 : decode cX10_order 106 = .ok (.iload 5, 2) := by decide +kernel
theorem dX10_order_108 : decode cX10_order 108 = .ok (.iconst 3, 1) := by decide +kernel
theorem dX10_order_109 : decode cX10_order 109 = .ok (.iadd, 1) := by decide +kernel
theorem dX10_order_110 : decode cX10_order 110 = .ok (.iload 4, 2) := by decide +kernel
theorem dX10_order_112 : decode cX10_order 112 = .ok (.iastore, 1) := by decide +kernel
theorem dX10_order_113 : decode cX10_order 113 = .ok (.aload_n 0, 1) := by decide +kernel
theorem dX10_order_114 : decode cX10_order 114 = .ok (.getfield 7, 3) := by decide +kernel
theorem dX10_order_117 : decode cX10_order 117 = .ok (.iload 5, 2) := by decide +kernel
theorem dX10_order_119 : decode cX10_order 119 = .ok (.iconst 4, 1) := by decide +kernel
theorem dX10_order_120 : decode cX10_order 120 = .ok (.iadd, 1) := by decide +kernel
theorem dX10_order_121 : decode cX10_order 121 = .ok (.iconst 0, 1) := by decide +kernel
theorem dX10_order_122 : decode cX10_order 122 = .ok (.iastore, 1) := by decide +kernel
theorem dX10_order_123 : decode cX10_order 123 = .ok (.aload_n 0, 1) := by decide +kernel
theorem dX10_order_124 : decode cX10_order 124 = .ok (.getfield 7, 3) := by decide +kernel
theorem dX10_order_127 : decode cX10_order 127 = .ok (.bipush 9, 2) := by decide +kernel
theorem dX10_order_129 : decode cX10_order 129 = .ok (.dup2, 1) := by decide +kernel
theorem dX10_order_130 : decode cX10_order 130 = .ok (.iaload, 1) := by decide +kernel
theorem dX10_order_131 : decode cX10_order 131 = .ok (.iconst 1, 1) := by decide +kernel
theorem dX10_order_132 : decode cX10_order 132 = .ok (.iadd, 1) := by decide +kernel
theorem dX10_order_133 : decode cX10_order 133 = .ok (.iastore, 1) := by decide +kernel
theorem dX10_order_134 : decode cX10_order 134 = .ok (.aload_n 0, 1) := by decide +kernel
theorem dX10_order_135 : decode cX10_order 135 = .ok (.getfield 7, 3) := by decide +kernel
theorem dX10_order_138 : decode cX10_order 138 = .ok (.bipush 9, 2) := by decide +kernel
theorem dX10_order_140 : decode cX10_order 140 = .ok (.iaload, 1) := by decide +kernel
theorem dX10_order_141 : decode cX10_order 141 = .ok (.iconst 1, 1) := by decide +kernel
theorem dX10_order_142 : decode cX10_order 142 = .ok (.isub, 1) := by decide +kernel
theorem dX10_order_143 : decode cX10_order 143 = .ok (.ireturn, 1) := by decide +kernel
theorem dX10_apart_0 : decode cX10_apart 0 = .ok (.iload_n 0, 1) := by decide +kernel
theorem dX10_apart_1 : decode cX10_apart 1 = .ok (.iload_n 1, 1) := by decide +kernel
theorem dX10_apart_2 : decode cX10_apart 2 = .ok (.if_icmp .ge 9, 3) := by decide +kernel
theorem dX10_apart_5 : decode cX10_apart 5 = .ok (.iload_n 1, 1) := by decide +kernel
theorem dX10_apart_6 : decode cX10_apart 6 = .ok (.iload_n 0, 1) := by decide +kernel
theorem dX10_apart_7 : decode cX10_apart 7 = .ok (.isub, 1) := by decide +kernel
theorem dX10_apart_8 : decode cX10_apart 8 = .ok (.goto 6, 3) := by decide +kernel
theorem dX10_apart_11 : decode cX10_apart 11 = .ok (.iload_n 0, 1) := by decide +kernel
theorem dX10_apart_12 : decode cX10_apart 12 = .ok (.iload_n 1, 1) := by decide +kernel
theorem dX10_apart_13 : decode cX10_apart 13 = .ok (.isub, 1) := by decide +kernel
theorem dX10_apart_14 : decode cX10_apart 14 = .ok (.ireturn, 1) := by decide +kernel
theorem dX10_fits_0 : decode cX10_fits 0 = .ok (.aload_n 0, 1) := by decide +kernel
theorem dX10_fits_1 : decode cX10_fits 1 = .ok (.iload_n 1, 1) := by decide +kernel
theorem dX10_fits_2 : decode cX10_fits 2 = .ok (.bipush 11, 2) := by decide +kernel
theorem dX10_fits_4 : decode cX10_fits 4 = .ok (.invokevirtual 35, 3) := by decide +kernel
theorem dX10_fits_7 : decode cX10_fits 7 = .ok (.ifCond .ne 7, 3) := by decide +kernel
theorem dX10_fits_10 : decode cX10_fits 10 = .ok (.iconst 1, 1) := by decide +kernel
theorem dX10_fits_11 : decode cX10_fits 11 = .ok (.goto 4, 3) := by decide +kernel
theorem dX10_fits_14 : decode cX10_fits 14 = .ok (.iconst 0, 1) := by decide +kernel
theorem dX10_fits_15 : decode cX10_fits 15 = .ok (.istore_n 3, 1) := by decide +kernel
theorem dX10_fits_16 : decode cX10_fits 16 = .ok (.iconst 0, 1) := by decide +kernel
theorem dX10_fits_17 : decode cX10_fits 17 = .ok (.istore 4, 2) := by decide +kernel
theorem dX10_fits_19 : decode cX10_fits 19 = .ok (.iload 4, 2) := by decide +kernel
theorem dX10_fits_21 : decode cX10_fits 21 = .ok (.iconst 4, 1) := by decide +kernel
theorem dX10_fits_22 : decode cX10_fits 22 = .ok (.if_icmp .ge 45, 3) := by decide +kernel
theorem dX10_fits_25 : decode cX10_fits 25 = .ok (.iload_n 3, 1) := by decide +kernel
theorem dX10_fits_26 : decode cX10_fits 26 = .ok (.ifCond .eq 33, 3) := by decide +kernel
theorem dX10_fits_29 : decode cX10_fits 29 = .ok (.aload_n 0, 1) := by decide +kernel
theorem dX10_fits_30 : decode cX10_fits 30 = .ok (.iload_n 1, 1) := by decide +kernel
theorem dX10_fits_31 : decode cX10_fits 31 = .ok (.iload 4, 2) := by decide +kernel
theorem dX10_fits_33 : decode cX10_fits 33 = .ok (.invokevirtual 91, 3) := by decide +kernel
theorem dX10_fits_36 : decode cX10_fits 36 = .ok (.aload_n 0, 1) := by decide +kernel
theorem dX10_fits_37 : decode cX10_fits 37 = .ok (.iload_n 2, 1) := by decide +kernel
theorem dX10_fits_38 : decode cX10_fits 38 = .ok (.iload 4, 2) := by decide +kernel
theorem dX10_fits_40 : decode cX10_fits 40 = .ok (.invokevirtual 134, 3) := by decide +kernel
theorem dX10_fits_43 : decode cX10_fits 43 = .ok (.invokestatic 144, 3) := by decide +kernel
theorem dX10_fits_46 : decode cX10_fits 46 = .ok (.aload_n 0, 1) := by decide +kernel
theorem dX10_fits_47 : decode cX10_fits 47 = .ok (.getfield 7, 3) := by decide +kernel
theorem dX10_fits_50 : decode cX10_fits 50 = .ok (.iconst 4, 1) := by decide +kernel
theorem dX10_fits_51 : decode cX10_fits 51 = .ok (.iaload, 1) := by decide +kernel
theorem dX10_fits_52 : decode cX10_fits 52 = .ok (.if_icmp .gt 7, 3) := by decide +kernel
theorem dX10_fits_55 : decode cX10_fits 55 = .ok (.iconst 1, 1) := by decide +kernel
theorem dX10_fits_56 : decode cX10_fits 56 = .ok (.goto 4, 3) := by decide +kernel
theorem dX10_fits_59 : decode cX10_fits 59 = .ok (.iconst 0, 1) := by decide +kernel
theorem dX10_fits_60 : decode cX10_fits 60 = .ok (.istore_n 3, 1) := by decide +kernel
theorem dX10_fits_61 : decode cX10_fits 61 = .ok (.iinc 4 1, 3) := by decide +kernel
theorem dX10_fits_64 : decode cX10_fits 64 = .ok (.goto (-45), 3) := by decide +kernel
theorem dX10_fits_67 : decode cX10_fits 67 = .ok (.iload_n 3, 1) := by decide +kernel
theorem dX10_fits_68 : decode cX10_fits 68 = .ok (.ireturn, 1) := by decide +kernel
theorem dX10_sells_0 : decode cX10_sells 0 = .ok (.aload_n 0, 1) := by decide +kernel
theorem dX10_sells_1 : decode cX10_sells 1 = .ok (.iload_n 1, 1) := by decide +kernel
theorem dX10_sells_2 : decode cX10_sells 2 = .ok (.invokevirtual 94, 3) := by decide +kernel
theorem dX10_sells_5 : decode cX10_sells 5 = .ok (.ifCond .eq 11, 3) := by decide +kernel
theorem dX10_sells_8 : decode cX10_sells 8 = .ok (.aload_n 0, 1) := by decide +kernel
theorem dX10_sells_9 : decode cX10_sells 9 = .ok (.iload_n 2, 1) := by decide +kernel
theorem dX10_sells_10 : decode cX10_sells 10 = .ok (.invokevirtual 147, 3) := by decide +kernel
theorem dX10_sells_13 : decode cX10_sells 13 = .ok (.ifCond .ne 5, 3) := by decide +kernel
theorem dX10_sells_16 : decode cX10_sells 16 = .ok (.iconst (-1), 1) := by decide +kernel
theorem dX10_sells_17 : decode cX10_sells 17 = .ok (.ireturn, 1) := by decide +kernel
theorem dX10_sells_18 : decode cX10_sells 18 = .ok (.aload_n 0, 1) := by decide +kernel
theorem dX10_sells_19 : decode cX10_sells 19 = .ok (.iload_n 1, 1) := by decide +kernel
theorem dX10_sells_20 : decode cX10_sells 20 = .ok (.invokevirtual 97, 3) := by decide +kernel
theorem dX10_sells_23 : decode cX10_sells 23 = .ok (.ifCond .ne 30, 3) := by decide +kernel
theorem dX10_sells_26 : decode cX10_sells 26 = .ok (.aload_n 0, 1) := by decide +kernel
theorem dX10_sells_27 : decode cX10_sells 27 = .ok (.iload_n 1, 1) := by decide +kernel
theorem dX10_sells_28 : decode cX10_sells 28 = .ok (.invokevirtual 100, 3) := by decide +kernel
theorem dX10_sells_31 : decode cX10_sells 31 = .ok (.ifCond .eq 22, 3) := by decide +kernel
theorem dX10_sells_34 : decode cX10_sells 34 = .ok (.aload_n 0, 1) := by decide +kernel
theorem dX10_sells_35 : decode cX10_sells 35 = .ok (.iload_n 1, 1) := by decide +kernel
theorem dX10_sells_36 : decode cX10_sells 36 = .ok (.iload_n 2, 1) := by decide +kernel
theorem dX10_sells_37 : decode cX10_sells 37 = .ok (.invokevirtual 150, 3) := by decide +kernel
theorem dX10_sells_40 : decode cX10_sells 40 = .ok (.ifCond .eq 13, 3) := by decide +kernel
theorem dX10_sells_43 : decode cX10_sells 43 = .ok (.aload_n 0, 1) := by decide +kernel
theorem dX10_sells_44 : decode cX10_sells 44 = .ok (.iload_n 2, 1) := by decide +kernel
theorem dX10_sells_45 : decode cX10_sells 45 = .ok (.iconst 4, 1) := by decide +kernel
theorem dX10_sells_46 : decode cX10_sells 46 = .ok (.invokevirtual 134, 3) := by decide +kernel
theorem dX10_sells_49 : decode cX10_sells 49 = .ok (.iconst 1, 1) := by decide +kernel
theorem dX10_sells_50 : decode cX10_sells 50 = .ok (.if_icmp .ne 6, 3) := by decide +kernel
theorem dX10_sells_53 : decode cX10_sells 53 = .ok (.bipush (-2), 2) := by decide +kernel
theorem dX10_sells_55 : decode cX10_sells 55 = .ok (.ireturn, 1) := by decide +kernel
theorem dX10_sells_56 : decode cX10_sells 56 = .ok (.aload_n 0, 1) := by decide +kernel
theorem dX10_sells_57 : decode cX10_sells 57 = .ok (.iload_n 1, 1) := by decide +kernel
theorem dX10_sells_58 : decode cX10_sells 58 = .ok (.bipush 10, 2) := by decide +kernel
theorem dX10_sells_60 : decode cX10_sells 60 = .ok (.iconst 0, 1) := by decide +kernel
theorem dX10_sells_61 : decode cX10_sells 61 = .ok (.invokevirtual 80, 3) := by decide +kernel
theorem dX10_sells_64 : decode cX10_sells 64 = .ok (.aload_n 0, 1) := by decide +kernel
theorem dX10_sells_65 : decode cX10_sells 65 = .ok (.iload_n 1, 1) := by decide +kernel
theorem dX10_sells_66 : decode cX10_sells 66 = .ok (.bipush 13, 2) := by decide +kernel
theorem dX10_sells_68 : decode cX10_sells 68 = .ok (.iload_n 2, 1) := by decide +kernel
theorem dX10_sells_69 : decode cX10_sells 69 = .ok (.iconst 1, 1) := by decide +kernel
theorem dX10_sells_70 : decode cX10_sells 70 = .ok (.iadd, 1) := by decide +kernel
theorem dX10_sells_71 : decode cX10_sells 71 = .ok (.invokevirtual 80, 3) := by decide +kernel
theorem dX10_sells_74 : decode cX10_sells 74 = .ok (.aload_n 0, 1) := by decide +kernel
theorem dX10_sells_75 : decode cX10_sells 75 = .ok (.getfield 7, 3) := by decide +kernel
theorem dX10_sells_78 : decode cX10_sells 78 = .ok (.sipush 343, 3) := by decide +kernel
theorem dX10_sells_81 : decode cX10_sells 81 = .ok (.iconst 5, 1) := by decide +kernel
theorem dX10_sells_82 : decode cX10_sells 82 = .ok (.iload_n 2, 1) := by decide +kernel
theorem dX10_sells_83 : decode cX10_sells 83 = .ok (.imul, 1) := by decide +kernel
theorem dX10_sells_84 : decode cX10_sells 84 = .ok (.iadd, 1) := by decide +kernel
theorem dX10_sells_85 : decode cX10_sells 85 = .ok (.iconst 4, 1) := by decide +kernel
theorem dX10_sells_86 : decode cX10_sells 86 = .ok (.iadd, 1) := by decide +kernel
theorem dX10_sells_87 : decode cX10_sells 87 = .ok (.iconst 1, 1) := by decide +kernel
theorem dX10_sells_88 : decode cX10_sells 88 = .ok (.iastore, 1) := by decide +kernel
theorem dX10_sells_89 : decode cX10_sells 89 = .ok (.aload_n 0, 1) := by decide +kernel
theorem dX10_sells_90 : decode cX10_sells 90 = .ok (.iload_n 1, 1) := by decide +kernel
theorem dX10_sells_91 : decode cX10_sells 91 = .ok (.iconst 1, 1) := by decide +kernel
theorem dX10_sells_92 : decode cX10_sells 92 = .ok (.invokevirtual 35, 3) := by decide +kernel
theorem dX10_sells_95 : decode cX10_sells 95 = .ok (.ireturn, 1) := by decide +kernel
theorem dX10_sell_0 : decode cX10_sell 0 = .ok (.aload_n 0, 1) := by decide +kernel
theorem dX10_sell_1 : decode cX10_sell 1 = .ok (.invokevirtual 61, 3) := by decide +kernel
theorem dX10_sell_4 : decode cX10_sell 4 = .ok (.aload_n 0, 1) := by decide +kernel
theorem dX10_sell_5 : decode cX10_sell 5 = .ok (.aload_n 0, 1) := by decide +kernel
theorem dX10_sell_6 : decode cX10_sell 6 = .ok (.iload_n 1, 1) := by decide +kernel
theorem dX10_sell_7 : decode cX10_sell 7 = .ok (.iload_n 2, 1) := by decide +kernel
theorem dX10_sell_8 : decode cX10_sell 8 = .ok (.invokevirtual 153, 3) := by decide +kernel
theorem dX10_sell_11 : decode cX10_sell 11 = .ok (.invokevirtual 68, 3) := by decide +kernel
theorem dX10_sell_14 : decode cX10_sell 14 = .ok (.ireturn, 1) := by decide +kernel
theorem dX10_fitting_0 : decode cX10_fitting 0 = .ok (.iconst 0, 1) := by decide +kernel
theorem dX10_fitting_1 : decode cX10_fitting 1 = .ok (.istore_n 2, 1) := by decide +kernel
theorem dX10_fitting_2 : decode cX10_fitting 2 = .ok (.iconst 0, 1) := by decide +kernel
theorem dX10_fitting_3 : decode cX10_fitting 3 = .ok (.istore_n 3, 1) := by decide +kernel
theorem dX10_fitting_4 : decode cX10_fitting 4 = .ok (.iload_n 3, 1) := by decide +kernel
theorem dX10_fitting_5 : decode cX10_fitting 5 = .ok (.aload_n 0, 1) := by decide +kernel
theorem dX10_fitting_6 : decode cX10_fitting 6 = .ok (.getfield 7, 3) := by decide +kernel
theorem dX10_fitting_9 : decode cX10_fitting 9 = .ok (.bipush 8, 2) := by decide +kernel
theorem dX10_fitting_11 : decode cX10_fitting 11 = .ok (.iaload, 1) := by decide +kernel
theorem dX10_fitting_12 : decode cX10_fitting 12 = .ok (.if_icmp .ge 34, 3) := by decide +kernel
theorem dX10_fitting_15 : decode cX10_fitting 15 = .ok (.iload_n 2, 1) := by decide +kernel
theorem dX10_fitting_16 : decode cX10_fitting 16 = .ok (.aload_n 0, 1) := by decide +kernel
theorem dX10_fitting_17 : decode cX10_fitting 17 = .ok (.iload_n 3, 1) := by decide +kernel
theorem dX10_fitting_18 : decode cX10_fitting 18 = .ok (.invokevirtual 97, 3) := by decide +kernel
theorem dX10_fitting_21 : decode cX10_fitting 21 = .ok (.ifCond .ne 16, 3) := by decide +kernel
theorem dX10_fitting_24 : decode cX10_fitting 24 = .ok (.aload_n 0, 1) := by decide +kernel
theorem dX10_fitting_25 : decode cX10_fitting 25 = .ok (.iload_n 3, 1) := by decide +kernel
theorem dX10_fitting_26 : decode cX10_fitting 26 = .ok (.iload_n 1, 1) := by decide +kernel
theorem dX10_fitting_27 : decode cX10_fitting 27 = .ok (.invokevirtual 150, 3) := by decide +kernel
theorem dX10_fitting_30 : decode cX10_fitting 30 = .ok (.ifCond .eq 7, 3) := by decide +kernel
theorem dX10_fitting_33 : decode cX10_fitting 33 = .ok (.iconst 1, 1) := by decide +kernel
theorem dX10_fitting_34 : decode cX10_fitting 34 = .ok (.goto 4, 3) := by decide +kernel
theorem dX10_fitting_37 : decode cX10_fitting 37 = .ok (.iconst 0, 1) := by decide +kernel
theorem dX10_fitting_38 : decode cX10_fitting 38 = .ok (.iadd, 1) := by decide +kernel
theorem dX10_fitting_39 : decode cX10_fitting 39 = .ok (.istore_n 2, 1) := by decide +kernel
theorem dX10_fitting_40 : decode cX10_fitting 40 = .ok (.iinc 3 1, 3) := by decide +kernel
theorem dX10_fitting_43 : decode cX10_fitting 43 = .ok (.goto (-39), 3) := by decide +kernel
theorem dX10_fitting_46 : decode cX10_fitting 46 = .ok (.iload_n 2, 1) := by decide +kernel
theorem dX10_fitting_47 : decode cX10_fitting 47 = .ok (.ireturn, 1) := by decide +kernel
theorem dX10_nearest_0 : decode cX10_nearest 0 = .ok (.bipush (-4), 2) := by decide +kernel
theorem dX10_nearest_2 : decode cX10_nearest 2 = .ok (.istore_n 2, 1) := by decide +kernel
theorem dX10_nearest_3 : decode cX10_nearest 3 = .ok (.iconst 0, 1) := by decide +kernel
theorem dX10_nearest_4 : decode cX10_nearest 4 = .ok (.istore_n 3, 1) := by decide +kernel
theorem dX10_nearest_5 : decode cX10_nearest 5 = .ok (.iconst 0, 1) := by decide +kernel
theorem dX10_nearest_6 : decode cX10_nearest 6 = .ok (.istore 4, 2) := by decide +kernel
theorem dX10_nearest_8 : decode cX10_nearest 8 = .ok (.iload 4, 2) := by decide +kernel
theorem dX10_nearest_10 : decode cX10_nearest 10 = .ok (.aload_n 0, 1) := by decide +kernel
theorem dX10_nearest_11 : decode cX10_nearest 11 = .ok (.getfield 7, 3) := by decide +kernel
theorem dX10_nearest_14 : decode cX10_nearest 14 = .ok (.bipush 8, 2) := by decide +kernel
theorem dX10_nearest_16 : decode cX10_nearest 16 = .ok (.iaload, 1) := by decide +kernel
theorem dX10_nearest_17 : decode cX10_nearest 17 = .ok (.if_icmp .ge 77, 3) := by decide +kernel
theorem dX10_nearest_20 : decode cX10_nearest 20 = .ok (.iconst 0, 1) := by decide +kernel
theorem dX10_nearest_21 : decode cX10_nearest 21 = .ok (.istore 5, 2) := by decide +kernel
theorem dX10_nearest_23 : decode cX10_nearest 23 = .ok (.iconst 0, 1) := by decide +kernel
theorem dX10_nearest_24 : decode cX10_nearest 24 = .ok (.istore 6, 2) := by decide +kernel
theorem dX10_nearest_26 : decode cX10_nearest 26 = .ok (.iload 6, 2) := by decide +kernel
theorem dX10_nearest_28 : decode cX10_nearest 28 = .ok (.iconst 4, 1) := by decide +kernel
theorem dX10_nearest_29 : decode cX10_nearest 29 = .ok (.if_icmp .ge 32, 3) := by decide +kernel
theorem dX10_nearest_32 : decode cX10_nearest 32 = .ok (.iload 5, 2) := by decide +kernel
theorem dX10_nearest_34 : decode cX10_nearest 34 = .ok (.aload_n 0, 1) := by decide +kernel
theorem dX10_nearest_35 : decode cX10_nearest 35 = .ok (.iload 4, 2) := by decide +kernel
theorem dX10_nearest_37 : decode cX10_nearest 37 = .ok (.iload 6, 2) := by decide +kernel
theorem dX10_nearest_39 : decode cX10_nearest 39 = .ok (.invokevirtual 91, 3) := by decide +kernel
theorem dX10_nearest_42 : decode cX10_nearest 42 = .ok (.aload_n 0, 1) := by decide +kernel
theorem dX10_nearest_43 : decode cX10_nearest 43 = .ok (.iload_n 1, 1) := by decide +kernel
theorem dX10_nearest_44 : decode cX10_nearest 44 = .ok (.iload 6, 2) := by decide +kernel
theorem dX10_nearest_46 : decode cX10_nearest 46 = .ok (.invokevirtual 134, 3) := by decide +kernel
theorem dX10_nearest_49 : decode cX10_nearest 49 = .ok (.invokestatic 144, 3) := by decide +kernel
theorem dX10_nearest_52 : decode cX10_nearest 52 = .ok (.iadd, 1) := by decide +kernel
theorem dX10_nearest_53 : decode cX10_nearest 53 = .ok (.istore 5, 2) := by decide +kernel
theorem dX10_nearest_55 : decode cX10_nearest 55 = .ok (.iinc 6 1, 3) := by decide +kernel
theorem dX10_nearest_58 : decode cX10_nearest 58 = .ok (.goto (-32), 3) := by decide +kernel
theorem dX10_nearest_61 : decode cX10_nearest 61 = .ok (.aload_n 0, 1) := by decide +kernel
theorem dX10_nearest_62 : decode cX10_nearest 62 = .ok (.iload 4, 2) := by decide +kernel
theorem dX10_nearest_64 : decode cX10_nearest 64 = .ok (.invokevirtual 97, 3) := by decide +kernel
theorem dX10_nearest_67 : decode cX10_nearest 67 = .ok (.ifCond .ne 21, 3) := by decide +kernel
theorem dX10_nearest_70 : decode cX10_nearest 70 = .ok (.iload_n 2, 1) := by decide +kernel
theorem dX10_nearest_71 : decode cX10_nearest 71 = .ok (.bipush (-4), 2) := by decide +kernel
theorem dX10_nearest_73 : decode cX10_nearest 73 = .ok (.if_icmp .eq 9, 3) := by decide +kernel
theorem dX10_nearest_76 : decode cX10_nearest 76 = .ok (.iload 5, 2) := by decide +kernel
theorem dX10_nearest_78 : decode cX10_nearest 78 = .ok (.iload_n 3, 1) := by decide +kernel
theorem dX10_nearest_79 : decode cX10_nearest 79 = .ok (.if_icmp .ge 9, 3) := by decide +kernel
theorem dX10_nearest_82 : decode cX10_nearest 82 = .ok (.iload 4, 2) := by decide +kernel
theorem dX10_nearest_84 : decode cX10_nearest 84 = .ok (.istore_n 2, 1) := by decide +kernel
theorem dX10_nearest_85 : decode cX10_nearest 85 = .ok (.iload 5, 2) := by decide +kernel
theorem dX10_nearest_87 : decode cX10_nearest 87 = .ok (.istore_n 3, 1) := by decide +kernel
theorem dX10_nearest_88 : decode cX10_nearest 88 = .ok (.iinc 4 1, 3) := by decide +kernel
theorem dX10_nearest_91 : decode cX10_nearest 91 = .ok (.goto (-83), 3) := by decide +kernel
theorem dX10_nearest_94 : decode cX10_nearest 94 = .ok (.iload_n 2, 1) := by decide +kernel
theorem dX10_nearest_95 : decode cX10_nearest 95 = .ok (.ireturn, 1) := by decide +kernel
theorem dX10_orderOf_0 : decode cX10_orderOf 0 = .ok (.aload_n 0, 1) := by decide +kernel
theorem dX10_orderOf_1 : decode cX10_orderOf 1 = .ok (.iload_n 1, 1) := by decide +kernel
theorem dX10_orderOf_2 : decode cX10_orderOf 2 = .ok (.invokevirtual 147, 3) := by decide +kernel
theorem dX10_orderOf_5 : decode cX10_orderOf 5 = .ok (.ifCond .eq 13, 3) := by decide +kernel
theorem dX10_orderOf_8 : decode cX10_orderOf 8 = .ok (.iload_n 2, 1) := by decide +kernel
theorem dX10_orderOf_9 : decode cX10_orderOf 9 = .ok (.iconst 0, 1) := by decide +kernel
theorem dX10_orderOf_10 : decode cX10_orderOf 10 = .ok (.bipush 6, 2) := by decide +kernel
theorem dX10_orderOf_12 : decode cX10_orderOf 12 = .ok (.invokestatic 31, 3) := by decide +kernel
theorem dX10_orderOf_15 : decode cX10_orderOf 15 = .ok (.ifCond .ne 5, 3) := by decide +kernel
theorem dX10_orderOf_18 : decode cX10_orderOf 18 = .ok (.iconst (-1), 1) := by decide +kernel
theorem dX10_orderOf_19 : decode cX10_orderOf 19 = .ok (.ireturn, 1) := by decide +kernel
theorem dX10_orderOf_20 : decode cX10_orderOf 20 = .ok (.iload_n 2, 1) := by decide +kernel
theorem dX10_orderOf_21 : decode cX10_orderOf 21 = .ok (.iconst 5, 1) := by decide +kernel
theorem dX10_orderOf_22 : decode cX10_orderOf 22 = .ok (.if_icmp .ge 12, 3) := by decide +kernel
theorem dX10_orderOf_25 : decode cX10_orderOf 25 = .ok (.aload_n 0, 1) := by decide +kernel
theorem dX10_orderOf_26 : decode cX10_orderOf 26 = .ok (.iload_n 1, 1) := by decide +kernel
theorem dX10_orderOf_27 : decode cX10_orderOf 27 = .ok (.iload_n 2, 1) := by decide +kernel
theorem dX10_orderOf_28 : decode cX10_orderOf 28 = .ok (.invokevirtual 134, 3) := by decide +kernel
theorem dX10_orderOf_31 : decode cX10_orderOf 31 = .ok (.goto 21, 3) := by decide +kernel
theorem dX10_orderOf_34 : decode cX10_orderOf 34 = .ok (.iload_n 2, 1) := by decide +kernel
theorem dX10_orderOf_35 : decode cX10_orderOf 35 = .ok (.iconst 5, 1) := by decide +kernel
theorem dX10_orderOf_36 : decode cX10_orderOf 36 = .ok (.if_icmp .ne 11, 3) := by decide +kernel
theorem dX10_orderOf_39 : decode cX10_orderOf 39 = .ok (.aload_n 0, 1) := by decide +kernel
theorem dX10_orderOf_40 : decode cX10_orderOf 40 = .ok (.iload_n 1, 1) := by decide +kernel
theorem dX10_orderOf_41 : decode cX10_orderOf 41 = .ok (.invokevirtual 156, 3) := by decide +kernel
theorem dX10_orderOf_44 : decode cX10_orderOf 44 = .ok (.goto 8, 3) := by decide +kernel
theorem dX10_orderOf_47 : decode cX10_orderOf 47 = .ok (.aload_n 0, 1) := by decide +kernel
theorem dX10_orderOf_48 : decode cX10_orderOf 48 = .ok (.iload_n 1, 1) := by decide +kernel
theorem dX10_orderOf_49 : decode cX10_orderOf 49 = .ok (.invokevirtual 159, 3) := by decide +kernel
theorem dX10_orderOf_52 : decode cX10_orderOf 52 = .ok (.ireturn, 1) := by decide +kernel
theorem dX10_match_0 : decode cX10_match 0 = .ok (.aload_n 0, 1) := by decide +kernel
theorem dX10_match_1 : decode cX10_match 1 = .ok (.iload_n 1, 1) := by decide +kernel
theorem dX10_match_2 : decode cX10_match 2 = .ok (.invokevirtual 94, 3) := by decide +kernel
theorem dX10_match_5 : decode cX10_match 5 = .ok (.ifCond .eq 11, 3) := by decide +kernel
theorem dX10_match_8 : decode cX10_match 8 = .ok (.aload_n 0, 1) := by decide +kernel
theorem dX10_match_9 : decode cX10_match 9 = .ok (.iload_n 2, 1) := by decide +kernel
theorem dX10_match_10 : decode cX10_match 10 = .ok (.invokevirtual 94, 3) := by decide +kernel
theorem dX10_match_13 : decode cX10_match 13 = .ok (.ifCond .ne 5, 3) := by decide +kernel
theorem dX10_match_16 : decode cX10_match 16 = .ok (.iconst (-1), 1) := by decide +kernel
theorem dX10_match_17 : decode cX10_match 17 = .ok (.ireturn, 1) := by decide +kernel
theorem dX10_match_18 : decode cX10_match 18 = .ok (.iconst 1, 1) := by decide +kernel
theorem dX10_match_19 : decode cX10_match 19 = .ok (.istore_n 3, 1) := by decide +kernel
theorem dX10_match_20 : decode cX10_match 20 = .ok (.iconst 0, 1) := by decide +kernel
theorem dX10_match_21 : decode cX10_match 21 = .ok (.istore 4, 2) := by decide +kernel
theorem dX10_match_23 : decode cX10_match 23 = .ok (.iload 4, 2) := by decide +kernel
theorem dX10_match_25 : decode cX10_match 25 = .ok (.iconst 4, 1) := by decide +kernel
theorem dX10_match_26 : decode cX10_match 26 = .ok (.if_icmp .ge 45, 3) := by decide +kernel
theorem dX10_match_29 : decode cX10_match 29 = .ok (.iload_n 3, 1) := by decide +kernel
theorem dX10_match_30 : decode cX10_match 30 = .ok (.ifCond .eq 33, 3) := by decide +kernel
theorem dX10_match_33 : decode cX10_match 33 = .ok (.aload_n 0, 1) := by decide +kernel
theorem dX10_match_34 : decode cX10_match 34 = .ok (.iload_n 1, 1) := by decide +kernel
theorem dX10_match_35 : decode cX10_match 35 = .ok (.iload 4, 2) := by decide +kernel
theorem dX10_match_37 : decode cX10_match 37 = .ok (.invokevirtual 91, 3) := by decide +kernel
theorem dX10_match_40 : decode cX10_match 40 = .ok (.aload_n 0, 1) := by decide +kernel
theorem dX10_match_41 : decode cX10_match 41 = .ok (.iload_n 2, 1) := by decide +kernel
theorem dX10_match_42 : decode cX10_match 42 = .ok (.iload 4, 2) := by decide +kernel
theorem dX10_match_44 : decode cX10_match 44 = .ok (.invokevirtual 91, 3) := by decide +kernel
theorem dX10_match_47 : decode cX10_match 47 = .ok (.invokestatic 144, 3) := by decide +kernel
theorem dX10_match_50 : decode cX10_match 50 = .ok (.aload_n 0, 1) := by decide +kernel
theorem dX10_match_51 : decode cX10_match 51 = .ok (.getfield 7, 3) := by decide +kernel
theorem dX10_match_54 : decode cX10_match 54 = .ok (.iconst 4, 1) := by decide +kernel
theorem dX10_match_55 : decode cX10_match 55 = .ok (.iaload, 1) := by decide +kernel
theorem dX10_match_56 : decode cX10_match 56 = .ok (.if_icmp .gt 7, 3) := by decide +kernel
theorem dX10_match_59 : decode cX10_match 59 = .ok (.iconst 1, 1) := by decide +kernel
theorem dX10_match_60 : decode cX10_match 60 = .ok (.goto 4, 3) := by decide +kernel
theorem dX10_match_63 : decode cX10_match 63 = .ok (.iconst 0, 1) := by decide +kernel
theorem dX10_match_64 : decode cX10_match 64 = .ok (.istore_n 3, 1) := by decide +kernel
theorem dX10_match_65 : decode cX10_match 65 = .ok (.iinc 4 1, 3) := by decide +kernel
theorem dX10_match_68 : decode cX10_match 68 = .ok (.goto (-45), 3) := by decide +kernel
theorem dX10_match_71 : decode cX10_match 71 = .ok (.iload_n 3, 1) := by decide +kernel
theorem dX10_match_72 : decode cX10_match 72 = .ok (.ifCond .eq 7, 3) := by decide +kernel
theorem dX10_match_75 : decode cX10_match 75 = .ok (.iconst 1, 1) := by decide +kernel
theorem dX10_match_76 : decode cX10_match 76 = .ok (.goto 4, 3) := by decide +kernel
theorem dX10_match_79 : decode cX10_match 79 = .ok (.iconst 0, 1) := by decide +kernel
theorem dX10_match_80 : decode cX10_match 80 = .ok (.ireturn, 1) := by decide +kernel
theorem dX10_alike_0 : decode cX10_alike 0 = .ok (.iload_n 1, 1) := by decide +kernel
theorem dX10_alike_1 : decode cX10_alike 1 = .ok (.invokestatic 49, 3) := by decide +kernel
theorem dX10_alike_4 : decode cX10_alike 4 = .ok (.ifCond .ne 5, 3) := by decide +kernel
theorem dX10_alike_7 : decode cX10_alike 7 = .ok (.iconst (-1), 1) := by decide +kernel
theorem dX10_alike_8 : decode cX10_alike 8 = .ok (.ireturn, 1) := by decide +kernel
theorem dX10_alike_9 : decode cX10_alike 9 = .ok (.iconst 0, 1) := by decide +kernel
theorem dX10_alike_10 : decode cX10_alike 10 = .ok (.istore_n 2, 1) := by decide +kernel
theorem dX10_alike_11 : decode cX10_alike 11 = .ok (.iconst 0, 1) := by decide +kernel
theorem dX10_alike_12 : decode cX10_alike 12 = .ok (.istore_n 3, 1) := by decide +kernel
theorem dX10_alike_13 : decode cX10_alike 13 = .ok (.iload_n 3, 1) := by decide +kernel
theorem dX10_alike_14 : decode cX10_alike 14 = .ok (.aload_n 0, 1) := by decide +kernel
theorem dX10_alike_15 : decode cX10_alike 15 = .ok (.getfield 7, 3) := by decide +kernel
theorem dX10_alike_18 : decode cX10_alike 18 = .ok (.bipush 8, 2) := by decide +kernel
theorem dX10_alike_20 : decode cX10_alike 20 = .ok (.iaload, 1) := by decide +kernel
theorem dX10_alike_21 : decode cX10_alike 21 = .ok (.if_icmp .ge 100, 3) := by decide +kernel
theorem dX10_alike_24 : decode cX10_alike 24 = .ok (.iconst 0, 1) := by decide +kernel
theorem dX10_alike_25 : decode cX10_alike 25 = .ok (.istore 4, 2) := by decide +kernel
theorem dX10_alike_27 : decode cX10_alike 27 = .ok (.iconst 0, 1) := by decide +kernel
theorem dX10_alike_28 : decode cX10_alike 28 = .ok (.istore 5, 2) := by decide +kernel
theorem dX10_alike_30 : decode cX10_alike 30 = .ok (.iload 5, 2) := by decide +kernel
theorem dX10_alike_32 : decode cX10_alike 32 = .ok (.aload_n 0, 1) := by decide +kernel
theorem dX10_alike_33 : decode cX10_alike 33 = .ok (.getfield 7, 3) := by decide +kernel
theorem dX10_alike_36 : decode cX10_alike 36 = .ok (.bipush 8, 2) := by decide +kernel
theorem dX10_alike_38 : decode cX10_alike 38 = .ok (.iaload, 1) := by decide +kernel
theorem dX10_alike_39 : decode cX10_alike 39 = .ok (.if_icmp .ge 55, 3) := by decide +kernel
theorem dX10_alike_42 : decode cX10_alike 42 = .ok (.iload 4, 2) := by decide +kernel
theorem dX10_alike_44 : decode cX10_alike 44 = .ok (.aload_n 0, 1) := by decide +kernel
theorem dX10_alike_45 : decode cX10_alike 45 = .ok (.iload 5, 2) := by decide +kernel
theorem dX10_alike_47 : decode cX10_alike 47 = .ok (.invokevirtual 97, 3) := by decide +kernel
theorem dX10_alike_50 : decode cX10_alike 50 = .ok (.ifCond .ne 34, 3) := by decide +kernel
theorem dX10_alike_53 : decode cX10_alike 53 = .ok (.aload_n 0, 1) := by decide +kernel
theorem dX10_alike_54 : decode cX10_alike 54 = .ok (.iload 5, 2) := by decide +kernel
theorem dX10_alike_56 : decode cX10_alike 56 = .ok (.iload_n 1, 1) := by decide +kernel
theorem dX10_alike_57 : decode cX10_alike 57 = .ok (.invokevirtual 91, 3) := by decide +kernel
theorem dX10_alike_60 : decode cX10_alike 60 = .ok (.aload_n 0, 1) := by decide +kernel
theorem dX10_alike_61 : decode cX10_alike 61 = .ok (.iload_n 3, 1) := by decide +kernel
theorem dX10_alike_62 : decode cX10_alike 62 = .ok (.iload_n 1, 1) := by decide +kernel
theorem dX10_alike_63 : decode cX10_alike 63 = .ok (.invokevirtual 91, 3) := by decide +kernel
theorem dX10_alike_66 : decode cX10_alike 66 = .ok (.isub, 1) := by decide +kernel
theorem dX10_alike_67 : decode cX10_alike 67 = .ok (.iconst 0, 1) := by decide +kernel
theorem dX10_alike_68 : decode cX10_alike 68 = .ok (.aload_n 0, 1) := by decide +kernel
theorem dX10_alike_69 : decode cX10_alike 69 = .ok (.getfield 7, 3) := by decide +kernel
theorem dX10_alike_72 : decode cX10_alike 72 = .ok (.iconst 4, 1) := by decide +kernel
theorem dX10_alike_73 : decode cX10_alike 73 = .ok (.iaload, 1) := by decide +kernel
theorem dX10_alike_74 : decode cX10_alike 74 = .ok (.invokestatic 31, 3) := by decide +kernel
theorem dX10_alike_77 : decode cX10_alike 77 = .ok (.ifCond .eq 7, 3) := by decide +kernel
theorem dX10_alike_80 : decode cX10_alike 80 = .ok (.iconst 1, 1) := by decide +kernel
theorem dX10_alike_81 : decode cX10_alike 81 = .ok (.goto 4, 3) := by decide +kernel
theorem dX10_alike_84 : decode cX10_alike 84 = .ok (.iconst 0, 1) := by decide +kernel
theorem dX10_alike_85 : decode cX10_alike 85 = .ok (.iadd, 1) := by decide +kernel
theorem dX10_alike_86 : decode cX10_alike 86 = .ok (.istore 4, 2) := by decide +kernel
theorem dX10_alike_88 : decode cX10_alike 88 = .ok (.iinc 5 1, 3) := by decide +kernel
theorem dX10_alike_91 : decode cX10_alike 91 = .ok (.goto (-61), 3) := by decide +kernel
theorem dX10_alike_94 : decode cX10_alike 94 = .ok (.aload_n 0, 1) := by decide +kernel
theorem dX10_alike_95 : decode cX10_alike 95 = .ok (.iload_n 3, 1) := by decide +kernel
theorem dX10_alike_96 : decode cX10_alike 96 = .ok (.invokevirtual 97, 3) := by decide +kernel
theorem dX10_alike_99 : decode cX10_alike 99 = .ok (.ifCond .ne 14, 3) := by decide +kernel
theorem dX10_alike_102 : decode cX10_alike 102 = .ok (.iload 4, 2) := by decide +kernel
theorem dX10_alike_104 : decode cX10_alike 104 = .ok (.iload_n 2, 1) := by decide +kernel
theorem dX10_alike_105 : decode cX10_alike 105 = .ok (.if_icmp .le 8, 3) := by decide +kernel
theorem dX10_alike_108 : decode cX10_alike 108 = .ok (.iload 4, 2) := by decide +kernel
theorem dX10_alike_110 : decode cX10_alike 110 = .ok (.goto 4, 3) := by decide +kernel
theorem dX10_alike_113 : decode cX10_alike 113 = .ok (.iload_n 2, 1) := by decide +kernel
theorem dX10_alike_114 : decode cX10_alike 114 = .ok (.istore_n 2, 1) := by decide +kernel
theorem dX10_alike_115 : decode cX10_alike 115 = .ok (.iinc 3 1, 3) := by decide +kernel
theorem dX10_alike_118 : decode cX10_alike 118 = .ok (.goto (-105), 3) := by decide +kernel
theorem dX10_alike_121 : decode cX10_alike 121 = .ok (.iload_n 2, 1) := by decide +kernel
theorem dX10_alike_122 : decode cX10_alike 122 = .ok (.ireturn, 1) := by decide +kernel
theorem dX10_makesFit_0 : decode cX10_makesFit 0 = .ok (.iload_n 3, 1) := by decide +kernel
theorem dX10_makesFit_1 : decode cX10_makesFit 1 = .ok (.istore 5, 2) := by decide +kernel
theorem dX10_makesFit_3 : decode cX10_makesFit 3 = .ok (.iload 4, 2) := by decide +kernel
theorem dX10_makesFit_5 : decode cX10_makesFit 5 = .ok (.iconst 1, 1) := by decide +kernel
theorem dX10_makesFit_6 : decode cX10_makesFit 6 = .ok (.isub, 1) := by decide +kernel
theorem dX10_makesFit_7 : decode cX10_makesFit 7 = .ok (.istore 6, 2) := by decide +kernel
theorem dX10_makesFit_9 : decode cX10_makesFit 9 = .ok (.iload 6, 2) := by decide +kernel
theorem dX10_makesFit_11 : decode cX10_makesFit 11 = .ok (.ifCond .lt 38, 3) := by decide +kernel
theorem dX10_makesFit_14 : decode cX10_makesFit 14 = .ok (.aload_n 0, 1) := by decide +kernel
theorem dX10_makesFit_15 : decode cX10_makesFit 15 = .ok (.getfield 22, 3) := by decide +kernel
theorem dX10_makesFit_18 : decode cX10_makesFit 18 = .ok (.iload 6, 2) := by decide +kernel
theorem dX10_makesFit_20 : decode cX10_makesFit 20 = .ok (.iload 5, 2) := by decide +kernel
theorem dX10_makesFit_22 : decode cX10_makesFit 22 = .ok (.aload_n 0, 1) := by decide +kernel
theorem dX10_makesFit_23 : decode cX10_makesFit 23 = .ok (.getfield 7, 3) := by decide +kernel
theorem dX10_makesFit_26 : decode cX10_makesFit 26 = .ok (.bipush 7, 2) := by decide +kernel
theorem dX10_makesFit_28 : decode cX10_makesFit 28 = .ok (.iaload, 1) := by decide +kernel
theorem dX10_makesFit_29 : decode cX10_makesFit 29 = .ok (.irem, 1) := by decide +kernel
theorem dX10_makesFit_30 : decode cX10_makesFit 30 = .ok (.iastore, 1) := by decide +kernel
theorem dX10_makesFit_31 : decode cX10_makesFit 31 = .ok (.iload 5, 2) := by decide +kernel
theorem dX10_makesFit_33 : decode cX10_makesFit 33 = .ok (.aload_n 0, 1) := by decide +kernel
theorem dX10_makesFit_34 : decode cX10_makesFit 34 = .ok (.getfield 7, 3) := by decide +kernel
theorem dX10_makesFit_37 : decode cX10_makesFit 37 = .ok (.bipush 7, 2) := by decide +kernel
theorem dX10_makesFit_39 : decode cX10_makesFit 39 = .ok (.iaload, 1) := by decide +kernel
theorem dX10_makesFit_40 : decode cX10_makesFit 40 = .ok (.idiv, 1) := by decide +kernel
theorem dX10_makesFit_41 : decode cX10_makesFit 41 = .ok (.istore 5, 2) := by decide +kernel
theorem dX10_makesFit_43 : decode cX10_makesFit 43 = .ok (.iinc 6 (-1), 3) := by decide +kernel
theorem dX10_makesFit_46 : decode cX10_makesFit 46 = .ok (.goto (-37), 3) := by decide +kernel
theorem dX10_makesFit_49 : decode cX10_makesFit 49 = .ok (.iconst 1, 1) := by decide +kernel
theorem dX10_makesFit_50 : decode cX10_makesFit 50 = .ok (.istore 6, 2) := by decide +kernel
theorem dX10_makesFit_52 : decode cX10_makesFit 52 = .ok (.iconst 0, 1) := by decide +kernel
theorem dX10_makesFit_53 : decode cX10_makesFit 53 = .ok (.istore 7, 2) := by decide +kernel
theorem dX10_makesFit_55 : decode cX10_makesFit 55 = .ok (.iload 7, 2) := by decide +kernel
theorem dX10_makesFit_57 : decode cX10_makesFit 57 = .ok (.iload 4, 2) := by decide +kernel
theorem dX10_makesFit_59 : decode cX10_makesFit 59 = .ok (.if_icmp .ge 54, 3) := by decide +kernel
theorem dX10_makesFit_62 : decode cX10_makesFit 62 = .ok (.iload 6, 2) := by decide +kernel
theorem dX10_makesFit_64 : decode cX10_makesFit 64 = .ok (.ifCond .eq 49, 3) := by decide +kernel
theorem dX10_makesFit_67 : decode cX10_makesFit 67 = .ok (.aload_n 0, 1) := by decide +kernel
theorem dX10_makesFit_68 : decode cX10_makesFit 68 = .ok (.aload_n 0, 1) := by decide +kernel
theorem dX10_makesFit_69 : decode cX10_makesFit 69 = .ok (.getfield 22, 3) := by decide +kernel
theorem dX10_makesFit_72 : decode cX10_makesFit 72 = .ok (.iload 7, 2) := by decide +kernel
theorem dX10_makesFit_74 : decode cX10_makesFit 74 = .ok (.iaload, 1) := by decide +kernel
theorem dX10_makesFit_75 : decode cX10_makesFit 75 = .ok (.iconst 2, 1) := by decide +kernel
theorem dX10_makesFit_76 : decode cX10_makesFit 76 = .ok (.invokevirtual 57, 3) := by decide +kernel
theorem dX10_makesFit_79 : decode cX10_makesFit 79 = .ok (.ifCond .le 7, 3) := by decide +kernel
theorem dX10_makesFit_82 : decode cX10_makesFit 82 = .ok (.iconst 1, 1) := by decide +kernel
theorem dX10_makesFit_83 : decode cX10_makesFit 83 = .ok (.goto 4, 3) := by decide +kernel
theorem dX10_makesFit_86 : decode cX10_makesFit 86 = .ok (.iconst 0, 1) := by decide +kernel
theorem dX10_makesFit_87 : decode cX10_makesFit 87 = .ok (.istore 6, 2) := by decide +kernel
theorem dX10_makesFit_89 : decode cX10_makesFit 89 = .ok (.iload 6, 2) := by decide +kernel
theorem dX10_makesFit_91 : decode cX10_makesFit 91 = .ok (.ifCond .eq 16, 3) := by decide +kernel
theorem dX10_makesFit_94 : decode cX10_makesFit 94 = .ok (.aload_n 0, 1) := by decide +kernel
theorem dX10_makesFit_95 : decode cX10_makesFit 95 = .ok (.iload_n 1, 1) := by decide +kernel
theorem dX10_makesFit_96 : decode cX10_makesFit 96 = .ok (.aload_n 0, 1) := by decide +kernel
theorem dX10_makesFit_97 : decode cX10_makesFit 97 = .ok (.getfield 22, 3) := by decide +kernel
theorem dX10_makesFit_100 : decode cX10_makesFit 100 = .ok (.iload 7, 2) := by decide +kernel
theorem dX10_makesFit_102 : decode cX10_makesFit 102 = .ok (.iaload, 1) := by decide +kernel
theorem dX10_makesFit_103 : decode cX10_makesFit 103 = .ok (.invokevirtual 103, 3) := by decide +kernel
theorem dX10_makesFit_106 : decode cX10_makesFit 106 = .ok (.pop, 1) := by decide +kernel
theorem dX10_makesFit_107 : decode cX10_makesFit 107 = .ok (.iinc 7 1, 3) := by decide +kernel
theorem dX10_makesFit_110 : decode cX10_makesFit 110 = .ok (.goto (-55), 3) := by decide +kernel
theorem dX10_makesFit_113 : decode cX10_makesFit 113 = .ok (.iload 6, 2) := by decide +kernel
theorem dX10_makesFit_115 : decode cX10_makesFit 115 = .ok (.ifCond .eq 16, 3) := by decide +kernel
theorem dX10_makesFit_118 : decode cX10_makesFit 118 = .ok (.aload_n 0, 1) := by decide +kernel
theorem dX10_makesFit_119 : decode cX10_makesFit 119 = .ok (.iload_n 1, 1) := by decide +kernel
theorem dX10_makesFit_120 : decode cX10_makesFit 120 = .ok (.iload_n 2, 1) := by decide +kernel
theorem dX10_makesFit_121 : decode cX10_makesFit 121 = .ok (.invokevirtual 150, 3) := by decide +kernel
theorem dX10_makesFit_124 : decode cX10_makesFit 124 = .ok (.ifCond .eq 7, 3) := by decide +kernel
theorem dX10_makesFit_127 : decode cX10_makesFit 127 = .ok (.iconst 1, 1) := by decide +kernel
theorem dX10_makesFit_128 : decode cX10_makesFit 128 = .ok (.goto 4, 3) := by decide +kernel
theorem dX10_makesFit_131 : decode cX10_makesFit 131 = .ok (.iconst 0, 1) := by decide +kernel
theorem dX10_makesFit_132 : decode cX10_makesFit 132 = .ok (.istore 6, 2) := by decide +kernel
theorem dX10_makesFit_134 : decode cX10_makesFit 134 = .ok (.aload_n 0, 1) := by decide +kernel
theorem dX10_makesFit_135 : decode cX10_makesFit 135 = .ok (.invokevirtual 46, 3) := by decide +kernel
theorem dX10_makesFit_138 : decode cX10_makesFit 138 = .ok (.iload 6, 2) := by decide +kernel
theorem dX10_makesFit_140 : decode cX10_makesFit 140 = .ok (.ireturn, 1) := by decide +kernel
theorem dX10_plans_0 : decode cX10_plans 0 = .ok (.aload_n 0, 1) := by decide +kernel
theorem dX10_plans_1 : decode cX10_plans 1 = .ok (.invokevirtual 61, 3) := by decide +kernel
theorem dX10_plans_4 : decode cX10_plans 4 = .ok (.aload_n 0, 1) := by decide +kernel
theorem dX10_plans_5 : decode cX10_plans 5 = .ok (.iload_n 1, 1) := by decide +kernel
theorem dX10_plans_6 : decode cX10_plans 6 = .ok (.iload_n 2, 1) := by decide +kernel
theorem dX10_plans_7 : decode cX10_plans 7 = .ok (.invokevirtual 150, 3) := by decide +kernel
theorem dX10_plans_10 : decode cX10_plans 10 = .ok (.ifCond .eq 5, 3) := by decide +kernel
theorem dX10_plans_13 : decode cX10_plans 13 = .ok (.iconst 0, 1) := by decide +kernel
theorem dX10_plans_14 : decode cX10_plans 14 = .ok (.ireturn, 1) := by decide +kernel
theorem dX10_plans_15 : decode cX10_plans 15 = .ok (.iconst 1, 1) := by decide +kernel
theorem dX10_plans_16 : decode cX10_plans 16 = .ok (.istore_n 3, 1) := by decide +kernel
theorem dX10_plans_17 : decode cX10_plans 17 = .ok (.iconst 1, 1) := by decide +kernel
theorem dX10_plans_18 : decode cX10_plans 18 = .ok (.istore 4, 2) := by decide +kernel
theorem dX10_plans_20 : decode cX10_plans 20 = .ok (.iload 4, 2) := by decide +kernel
theorem dX10_plans_22 : decode cX10_plans 22 = .ok (.iconst 5, 1) := by decide +kernel
theorem dX10_plans_23 : decode cX10_plans 23 = .ok (.if_icmp .ge 50, 3) := by decide +kernel
theorem dX10_plans_26 : decode cX10_plans 26 = .ok (.iload_n 3, 1) := by decide +kernel
theorem dX10_plans_27 : decode cX10_plans 27 = .ok (.aload_n 0, 1) := by decide +kernel
theorem dX10_plans_28 : decode cX10_plans 28 = .ok (.getfield 7, 3) := by decide +kernel
theorem dX10_plans_31 : decode cX10_plans 31 = .ok (.bipush 7, 2) := by decide +kernel
theorem dX10_plans_33 : decode cX10_plans 33 = .ok (.iaload, 1) := by decide +kernel
theorem dX10_plans_34 : decode cX10_plans 34 = .ok (.imul, 1) := by decide +kernel
theorem dX10_plans_35 : decode cX10_plans 35 = .ok (.istore_n 3, 1) := by decide +kernel
theorem dX10_plans_36 : decode cX10_plans 36 = .ok (.iconst 0, 1) := by decide +kernel
theorem dX10_plans_37 : decode cX10_plans 37 = .ok (.istore 5, 2) := by decide +kernel
theorem dX10_plans_39 : decode cX10_plans 39 = .ok (.iload 5, 2) := by decide +kernel
theorem dX10_plans_41 : decode cX10_plans 41 = .ok (.iload_n 3, 1) := by decide +kernel
theorem dX10_plans_42 : decode cX10_plans 42 = .ok (.if_icmp .ge 25, 3) := by decide +kernel
theorem dX10_plans_45 : decode cX10_plans 45 = .ok (.aload_n 0, 1) := by decide +kernel
theorem dX10_plans_46 : decode cX10_plans 46 = .ok (.iload_n 1, 1) := by decide +kernel
theorem dX10_plans_47 : decode cX10_plans 47 = .ok (.iload_n 2, 1) := by decide +kernel
theorem dX10_plans_48 : decode cX10_plans 48 = .ok (.iload 5, 2) := by decide +kernel
theorem dX10_plans_50 : decode cX10_plans 50 = .ok (.iload 4, 2) := by decide +kernel
theorem dX10_plans_52 : decode cX10_plans 52 = .ok (.invokevirtual 162, 3) := by decide +kernel
theorem dX10_plans_55 : decode cX10_plans 55 = .ok (.ifCond .eq 6, 3) := by decide +kernel
theorem dX10_plans_58 : decode cX10_plans 58 = .ok (.iload 4, 2) := by decide +kernel
theorem dX10_plans_60 : decode cX10_plans 60 = .ok (.ireturn, 1) := by decide +kernel
theorem dX10_plans_61 : decode cX10_plans 61 = .ok (.iinc 5 1, 3) := by decide +kernel
theorem dX10_plans_64 : decode cX10_plans 64 = .ok (.goto (-25), 3) := by decide +kernel
theorem dX10_plans_67 : decode cX10_plans 67 = .ok (.iinc 4 1, 3) := by decide +kernel
theorem dX10_plans_70 : decode cX10_plans 70 = .ok (.goto (-50), 3) := by decide +kernel
theorem dX10_plans_73 : decode cX10_plans 73 = .ok (.bipush (-4), 2) := by decide +kernel
theorem dX10_plans_75 : decode cX10_plans 75 = .ok (.ireturn, 1) := by decide +kernel
theorem dX10_plan_0 : decode cX10_plan 0 = .ok (.aload_n 0, 1) := by decide +kernel
theorem dX10_plan_1 : decode cX10_plan 1 = .ok (.iload_n 1, 1) := by decide +kernel
theorem dX10_plan_2 : decode cX10_plan 2 = .ok (.invokevirtual 94, 3) := by decide +kernel
theorem dX10_plan_5 : decode cX10_plan 5 = .ok (.ifCond .eq 16, 3) := by decide +kernel
theorem dX10_plan_8 : decode cX10_plan 8 = .ok (.aload_n 0, 1) := by decide +kernel
theorem dX10_plan_9 : decode cX10_plan 9 = .ok (.iload_n 2, 1) := by decide +kernel
theorem dX10_plan_10 : decode cX10_plan 10 = .ok (.invokevirtual 147, 3) := by decide +kernel
theorem dX10_plan_13 : decode cX10_plan 13 = .ok (.ifCond .eq 8, 3) := by decide +kernel
theorem dX10_plan_16 : decode cX10_plan 16 = .ok (.iload_n 3, 1) := by decide +kernel
theorem dX10_plan_17 : decode cX10_plan 17 = .ok (.iconst (-1), 1) := by decide +kernel
theorem dX10_plan_18 : decode cX10_plan 18 = .ok (.if_icmp .ge 5, 3) := by decide +kernel
theorem dX10_plan_21 : decode cX10_plan 21 = .ok (.iconst (-1), 1) := by decide +kernel
theorem dX10_plan_22 : decode cX10_plan 22 = .ok (.ireturn, 1) := by decide +kernel
theorem dX10_plan_23 : decode cX10_plan 23 = .ok (.aload_n 0, 1) := by decide +kernel
theorem dX10_plan_24 : decode cX10_plan 24 = .ok (.iload_n 1, 1) := by decide +kernel
theorem dX10_plan_25 : decode cX10_plan 25 = .ok (.invokevirtual 97, 3) := by decide +kernel
theorem dX10_plan_28 : decode cX10_plan 28 = .ok (.ifCond .eq 6, 3) := by decide +kernel
theorem dX10_plan_31 : decode cX10_plan 31 = .ok (.bipush (-2), 2) := by decide +kernel
theorem dX10_plan_33 : decode cX10_plan 33 = .ok (.ireturn, 1) := by decide +kernel
theorem dX10_plan_34 : decode cX10_plan 34 = .ok (.aload_n 0, 1) := by decide +kernel
theorem dX10_plan_35 : decode cX10_plan 35 = .ok (.iload_n 1, 1) := by decide +kernel
theorem dX10_plan_36 : decode cX10_plan 36 = .ok (.iload_n 2, 1) := by decide +kernel
theorem dX10_plan_37 : decode cX10_plan 37 = .ok (.invokevirtual 166, 3) := by decide +kernel
theorem dX10_plan_40 : decode cX10_plan 40 = .ok (.istore 4, 2) := by decide +kernel
theorem dX10_plan_42 : decode cX10_plan 42 = .ok (.iload_n 3, 1) := by decide +kernel
theorem dX10_plan_43 : decode cX10_plan 43 = .ok (.iconst (-1), 1) := by decide +kernel
theorem dX10_plan_44 : decode cX10_plan 44 = .ok (.if_icmp .eq 8, 3) := by decide +kernel
theorem dX10_plan_47 : decode cX10_plan 47 = .ok (.iload 4, 2) := by decide +kernel
theorem dX10_plan_49 : decode cX10_plan 49 = .ok (.ifCond .ge 8, 3) := by decide +kernel
theorem dX10_plan_52 : decode cX10_plan 52 = .ok (.iload 4, 2) := by decide +kernel
theorem dX10_plan_54 : decode cX10_plan 54 = .ok (.goto 20, 3) := by decide +kernel
theorem dX10_plan_57 : decode cX10_plan 57 = .ok (.iload_n 3, 1) := by decide +kernel
theorem dX10_plan_58 : decode cX10_plan 58 = .ok (.iload 4, 2) := by decide +kernel
theorem dX10_plan_60 : decode cX10_plan 60 = .ok (.if_icmp .ge 12, 3) := by decide +kernel
theorem dX10_plan_63 : decode cX10_plan 63 = .ok (.aload_n 0, 1) := by decide +kernel
theorem dX10_plan_64 : decode cX10_plan 64 = .ok (.getfield 22, 3) := by decide +kernel
theorem dX10_plan_67 : decode cX10_plan 67 = .ok (.iload_n 3, 1) := by decide +kernel
theorem dX10_plan_68 : decode cX10_plan 68 = .ok (.iaload, 1) := by decide +kernel
theorem dX10_plan_69 : decode cX10_plan 69 = .ok (.goto 5, 3) := by decide +kernel
theorem dX10_plan_72 : decode cX10_plan 72 = .ok (.bipush (-4), 2) := by decide +kernel
theorem dX10_plan_74 : decode cX10_plan 74 = .ok (.ireturn, 1) := by decide +kernel
theorem dX10_takes_0 : decode cX10_takes 0 = .ok (.aload_n 0, 1) := by decide +kernel
theorem dX10_takes_1 : decode cX10_takes 1 = .ok (.iload_n 1, 1) := by decide +kernel
theorem dX10_takes_2 : decode cX10_takes 2 = .ok (.invokevirtual 94, 3) := by decide +kernel
theorem dX10_takes_5 : decode cX10_takes 5 = .ok (.ifCond .eq 21, 3) := by decide +kernel
theorem dX10_takes_8 : decode cX10_takes 8 = .ok (.aload_n 0, 1) := by decide +kernel
theorem dX10_takes_9 : decode cX10_takes 9 = .ok (.iload_n 2, 1) := by decide +kernel
theorem dX10_takes_10 : decode cX10_takes 10 = .ok (.invokevirtual 53, 3) := by decide +kernel
theorem dX10_takes_13 : decode cX10_takes 13 = .ok (.ifCond .eq 13, 3) := by decide +kernel
theorem dX10_takes_16 : decode cX10_takes 16 = .ok (.iload_n 3, 1) := by decide +kernel
theorem dX10_takes_17 : decode cX10_takes 17 = .ok (.iconst 1, 1) := by decide +kernel
theorem dX10_takes_18 : decode cX10_takes 18 = .ok (.bipush 30, 2) := by decide +kernel
theorem dX10_takes_20 : decode cX10_takes 20 = .ok (.invokestatic 31, 3) := by decide +kernel
theorem dX10_takes_23 : decode cX10_takes 23 = .ok (.ifCond .ne 5, 3) := by decide +kernel
theorem dX10_takes_26 : decode cX10_takes 26 = .ok (.iconst (-1), 1) := by decide +kernel
theorem dX10_takes_27 : decode cX10_takes 27 = .ok (.ireturn, 1) := by decide +kernel
theorem dX10_takes_28 : decode cX10_takes 28 = .ok (.aload_n 0, 1) := by decide +kernel
theorem dX10_takes_29 : decode cX10_takes 29 = .ok (.iload_n 1, 1) := by decide +kernel
theorem dX10_takes_30 : decode cX10_takes 30 = .ok (.invokevirtual 97, 3) := by decide +kernel
theorem dX10_takes_33 : decode cX10_takes 33 = .ok (.ifCond .eq 6, 3) := by decide +kernel
theorem dX10_takes_36 : decode cX10_takes 36 = .ok (.bipush (-2), 2) := by decide +kernel
theorem dX10_takes_38 : decode cX10_takes 38 = .ok (.ireturn, 1) := by decide +kernel
theorem dX10_takes_39 : decode cX10_takes 39 = .ok (.aload_n 0, 1) := by decide +kernel
theorem dX10_takes_40 : decode cX10_takes 40 = .ok (.iload_n 2, 1) := by decide +kernel
theorem dX10_takes_41 : decode cX10_takes 41 = .ok (.iconst 2, 1) := by decide +kernel
theorem dX10_takes_42 : decode cX10_takes 42 = .ok (.invokevirtual 57, 3) := by decide +kernel
theorem dX10_takes_45 : decode cX10_takes 45 = .ok (.istore 4, 2) := by decide +kernel
theorem dX10_takes_47 : decode cX10_takes 47 = .ok (.iconst 0, 1) := by decide +kernel
theorem dX10_takes_48 : decode cX10_takes 48 = .ok (.istore 5, 2) := by decide +kernel
theorem dX10_takes_50 : decode cX10_takes 50 = .ok (.iload 5, 2) := by decide +kernel
theorem dX10_takes_52 : decode cX10_takes 52 = .ok (.iload_n 3, 1) := by decide +kernel
theorem dX10_takes_53 : decode cX10_takes 53 = .ok (.if_icmp .ge 22, 3) := by decide +kernel
theorem dX10_takes_56 : decode cX10_takes 56 = .ok (.iload 4, 2) := by decide +kernel
theorem dX10_takes_58 : decode cX10_takes 58 = .ok (.aload_n 0, 1) := by decide +kernel
theorem dX10_takes_59 : decode cX10_takes 59 = .ok (.iload_n 1, 1) := by decide +kernel
theorem dX10_takes_60 : decode cX10_takes 60 = .ok (.iload_n 2, 1) := by decide +kernel
theorem dX10_takes_61 : decode cX10_takes 61 = .ok (.iload 4, 2) := by decide +kernel
theorem dX10_takes_63 : decode cX10_takes 63 = .ok (.invokevirtual 84, 3) := by decide +kernel
theorem dX10_takes_66 : decode cX10_takes 66 = .ok (.isub, 1) := by decide +kernel
theorem dX10_takes_67 : decode cX10_takes 67 = .ok (.istore 4, 2) := by decide +kernel
theorem dX10_takes_69 : decode cX10_takes 69 = .ok (.iinc 5 1, 3) := by decide +kernel
theorem dX10_takes_72 : decode cX10_takes 72 = .ok (.goto (-22), 3) := by decide +kernel
theorem dX10_takes_75 : decode cX10_takes 75 = .ok (.aload_n 0, 1) := by decide +kernel
theorem dX10_takes_76 : decode cX10_takes 76 = .ok (.iload_n 2, 1) := by decide +kernel
theorem dX10_takes_77 : decode cX10_takes 77 = .ok (.iconst 2, 1) := by decide +kernel
theorem dX10_takes_78 : decode cX10_takes 78 = .ok (.invokevirtual 57, 3) := by decide +kernel
theorem dX10_takes_81 : decode cX10_takes 81 = .ok (.iload 4, 2) := by decide +kernel
theorem dX10_takes_83 : decode cX10_takes 83 = .ok (.isub, 1) := by decide +kernel
theorem dX10_takes_84 : decode cX10_takes 84 = .ok (.ireturn, 1) := by decide +kernel
theorem dX10_inVats_0 : decode cX10_inVats 0 = .ok (.iconst 0, 1) := by decide +kernel
theorem dX10_inVats_1 : decode cX10_inVats 1 = .ok (.istore_n 2, 1) := by decide +kernel
theorem dX10_inVats_2 : decode cX10_inVats 2 = .ok (.iconst 0, 1) := by decide +kernel
theorem dX10_inVats_3 : decode cX10_inVats 3 = .ok (.istore_n 3, 1) := by decide +kernel
theorem dX10_inVats_4 : decode cX10_inVats 4 = .ok (.iload_n 3, 1) := by decide +kernel
theorem dX10_inVats_5 : decode cX10_inVats 5 = .ok (.aload_n 0, 1) := by decide +kernel
theorem dX10_inVats_6 : decode cX10_inVats 6 = .ok (.getfield 7, 3) := by decide +kernel
theorem dX10_inVats_9 : decode cX10_inVats 9 = .ok (.bipush 7, 2) := by decide +kernel
theorem dX10_inVats_11 : decode cX10_inVats 11 = .ok (.iaload, 1) := by decide +kernel
theorem dX10_inVats_12 : decode cX10_inVats 12 = .ok (.if_icmp .ge 32, 3) := by decide +kernel
theorem dX10_inVats_15 : decode cX10_inVats 15 = .ok (.iload_n 2, 1) := by decide +kernel
theorem dX10_inVats_16 : decode cX10_inVats 16 = .ok (.aload_n 0, 1) := by decide +kernel
theorem dX10_inVats_17 : decode cX10_inVats 17 = .ok (.iload_n 3, 1) := by decide +kernel
theorem dX10_inVats_18 : decode cX10_inVats 18 = .ok (.iconst 0, 1) := by decide +kernel
theorem dX10_inVats_19 : decode cX10_inVats 19 = .ok (.invokevirtual 57, 3) := by decide +kernel
theorem dX10_inVats_22 : decode cX10_inVats 22 = .ok (.iload_n 1, 1) := by decide +kernel
theorem dX10_inVats_23 : decode cX10_inVats 23 = .ok (.if_icmp .ne 12, 3) := by decide +kernel
theorem dX10_inVats_26 : decode cX10_inVats 26 = .ok (.aload_n 0, 1) := by decide +kernel
theorem dX10_inVats_27 : decode cX10_inVats 27 = .ok (.iload_n 3, 1) := by decide +kernel
theorem dX10_inVats_28 : decode cX10_inVats 28 = .ok (.iconst 2, 1) := by decide +kernel
theorem dX10_inVats_29 : decode cX10_inVats 29 = .ok (.invokevirtual 57, 3) := by decide +kernel
theorem dX10_inVats_32 : decode cX10_inVats 32 = .ok (.goto 4, 3) := by decide +kernel
theorem dX10_inVats_35 : decode cX10_inVats 35 = .ok (.iconst 0, 1) := by decide +kernel
theorem dX10_inVats_36 : decode cX10_inVats 36 = .ok (.iadd, 1) := by decide +kernel
theorem dX10_inVats_37 : decode cX10_inVats 37 = .ok (.istore_n 2, 1) := by decide +kernel
theorem dX10_inVats_38 : decode cX10_inVats 38 = .ok (.iinc 3 1, 3) := by decide +kernel
theorem dX10_inVats_41 : decode cX10_inVats 41 = .ok (.goto (-37), 3) := by decide +kernel
theorem dX10_inVats_44 : decode cX10_inVats 44 = .ok (.iload_n 2, 1) := by decide +kernel
theorem dX10_inVats_45 : decode cX10_inVats 45 = .ok (.ireturn, 1) := by decide +kernel
theorem dX10_inLots_0 : decode cX10_inLots 0 = .ok (.iconst 0, 1) := by decide +kernel
theorem dX10_inLots_1 : decode cX10_inLots 1 = .ok (.istore_n 3, 1) := by decide +kernel
theorem dX10_inLots_2 : decode cX10_inLots 2 = .ok (.iconst 0, 1) := by decide +kernel
theorem dX10_inLots_3 : decode cX10_inLots 3 = .ok (.istore 4, 2) := by decide +kernel
theorem dX10_inLots_5 : decode cX10_inLots 5 = .ok (.iload 4, 2) := by decide +kernel
theorem dX10_inLots_7 : decode cX10_inLots 7 = .ok (.aload_n 0, 1) := by decide +kernel
theorem dX10_inLots_8 : decode cX10_inLots 8 = .ok (.getfield 7, 3) := by decide +kernel
theorem dX10_inLots_11 : decode cX10_inLots 11 = .ok (.bipush 8, 2) := by decide +kernel
theorem dX10_inLots_13 : decode cX10_inLots 13 = .ok (.iaload, 1) := by decide +kernel
theorem dX10_inLots_14 : decode cX10_inLots 14 = .ok (.if_icmp .ge 33, 3) := by decide +kernel
theorem dX10_inLots_17 : decode cX10_inLots 17 = .ok (.iload_n 3, 1) := by decide +kernel
theorem dX10_inLots_18 : decode cX10_inLots 18 = .ok (.aload_n 0, 1) := by decide +kernel
theorem dX10_inLots_19 : decode cX10_inLots 19 = .ok (.iload 4, 2) := by decide +kernel
theorem dX10_inLots_21 : decode cX10_inLots 21 = .ok (.invokevirtual 97, 3) := by decide +kernel
theorem dX10_inLots_24 : decode cX10_inLots 24 = .ok (.iload_n 2, 1) := by decide +kernel
theorem dX10_inLots_25 : decode cX10_inLots 25 = .ok (.if_icmp .ne 13, 3) := by decide +kernel
theorem dX10_inLots_28 : decode cX10_inLots 28 = .ok (.aload_n 0, 1) := by decide +kernel
theorem dX10_inLots_29 : decode cX10_inLots 29 = .ok (.iload 4, 2) := by decide +kernel
theorem dX10_inLots_31 : decode cX10_inLots 31 = .ok (.iload_n 1, 1) := by decide +kernel
theorem dX10_inLots_32 : decode cX10_inLots 32 = .ok (.invokevirtual 35, 3) := by decide +kernel
theorem dX10_inLots_35 : decode cX10_inLots 35 = .ok (.goto 4, 3) := by decide +kernel
theorem dX10_inLots_38 : decode cX10_inLots 38 = .ok (.iconst 0, 1) := by decide +kernel
theorem dX10_inLots_39 : decode cX10_inLots 39 = .ok (.iadd, 1) := by decide +kernel
theorem dX10_inLots_40 : decode cX10_inLots 40 = .ok (.istore_n 3, 1) := by decide +kernel
theorem dX10_inLots_41 : decode cX10_inLots 41 = .ok (.iinc 4 1, 3) := by decide +kernel
theorem dX10_inLots_44 : decode cX10_inLots 44 = .ok (.goto (-39), 3) := by decide +kernel
theorem dX10_inLots_47 : decode cX10_inLots 47 = .ok (.iload_n 3, 1) := by decide +kernel
theorem dX10_inLots_48 : decode cX10_inLots 48 = .ok (.ireturn, 1) := by decide +kernel
theorem dX10_account_0 : decode cX10_account 0 = .ok (.iload_n 1, 1) := by decide +kernel
theorem dX10_account_1 : decode cX10_account 1 = .ok (.invokestatic 49, 3) := by decide +kernel
theorem dX10_account_4 : decode cX10_account 4 = .ok (.ifCond .ne 5, 3) := by decide +kernel
theorem dX10_account_7 : decode cX10_account 7 = .ok (.iconst (-1), 1) := by decide +kernel
theorem dX10_account_8 : decode cX10_account 8 = .ok (.ireturn, 1) := by decide +kernel
theorem dX10_account_9 : decode cX10_account 9 = .ok (.iload_n 2, 1) := by decide +kernel
theorem dX10_account_10 : decode cX10_account 10 = .ok (.tableswitch 102 0 5 #[38, 48, 54, 63, 73, 92], 38) := by decide +kernel
theorem dX10_account_48 : decode cX10_account 48 = .ok (.aload_n 0, 1) := by decide +kernel
theorem dX10_account_49 : decode cX10_account 49 = .ok (.getfield 7, 3) := by decide +kernel
theorem dX10_account_52 : decode cX10_account 52 = .ok (.bipush 11, 2) := by decide +kernel
theorem dX10_account_54 : decode cX10_account 54 = .ok (.iload_n 1, 1) := by decide +kernel
theorem dX10_account_55 : decode cX10_account 55 = .ok (.iadd, 1) := by decide +kernel
theorem dX10_account_56 : decode cX10_account 56 = .ok (.iaload, 1) := by decide +kernel
theorem dX10_account_57 : decode cX10_account 57 = .ok (.ireturn, 1) := by decide +kernel
theorem dX10_account_58 : decode cX10_account 58 = .ok (.aload_n 0, 1) := by decide +kernel
theorem dX10_account_59 : decode cX10_account 59 = .ok (.iload_n 1, 1) := by decide +kernel
theorem dX10_account_60 : decode cX10_account 60 = .ok (.invokevirtual 169, 3) := by decide +kernel
theorem dX10_account_63 : decode cX10_account 63 = .ok (.ireturn, 1) := by decide +kernel
theorem dX10_account_64 : decode cX10_account 64 = .ok (.aload_n 0, 1) := by decide +kernel
theorem dX10_account_65 : decode cX10_account 65 = .ok (.iconst 2, 1) := by decide +kernel
theorem dX10_account_66 : decode cX10_account 66 = .ok (.iload_n 1, 1) := by decide +kernel
theorem dX10_account_67 : decode cX10_account 67 = .ok (.iadd, 1) := by decide +kernel
theorem dX10_account_68 : decode cX10_account 68 = .ok (.iconst 0, 1) := by decide +kernel
theorem dX10_account_69 : decode cX10_account 69 = .ok (.invokevirtual 172, 3) := by decide +kernel
theorem dX10_account_72 : decode cX10_account 72 = .ok (.ireturn, 1) := by decide +kernel
theorem dX10_account_73 : decode cX10_account 73 = .ok (.aload_n 0, 1) := by decide +kernel
theorem dX10_account_74 : decode cX10_account 74 = .ok (.bipush 6, 2) := by decide +kernel
theorem dX10_account_76 : decode cX10_account 76 = .ok (.iload_n 1, 1) := by decide +kernel
theorem dX10_account_77 : decode cX10_account 77 = .ok (.iadd, 1) := by decide +kernel
theorem dX10_account_78 : decode cX10_account 78 = .ok (.iconst 0, 1) := by decide +kernel
theorem dX10_account_79 : decode cX10_account 79 = .ok (.invokevirtual 172, 3) := by decide +kernel
theorem dX10_account_82 : decode cX10_account 82 = .ok (.ireturn, 1) := by decide +kernel
theorem dX10_account_83 : decode cX10_account 83 = .ok (.aload_n 0, 1) := by decide +kernel
theorem dX10_account_84 : decode cX10_account 84 = .ok (.iconst 2, 1) := by decide +kernel
theorem dX10_account_85 : decode cX10_account 85 = .ok (.iload_n 1, 1) := by decide +kernel
theorem dX10_account_86 : decode cX10_account 86 = .ok (.iadd, 1) := by decide +kernel
theorem dX10_account_87 : decode cX10_account 87 = .ok (.iconst 1, 1) := by decide +kernel
theorem dX10_account_88 : decode cX10_account 88 = .ok (.invokevirtual 172, 3) := by decide +kernel
theorem dX10_account_91 : decode cX10_account 91 = .ok (.aload_n 0, 1) := by decide +kernel
theorem dX10_account_92 : decode cX10_account 92 = .ok (.bipush 6, 2) := by decide +kernel
theorem dX10_account_94 : decode cX10_account 94 = .ok (.iload_n 1, 1) := by decide +kernel
theorem dX10_account_95 : decode cX10_account 95 = .ok (.iadd, 1) := by decide +kernel
theorem dX10_account_96 : decode cX10_account 96 = .ok (.iconst 1, 1) := by decide +kernel
theorem dX10_account_97 : decode cX10_account 97 = .ok (.invokevirtual 172, 3) := by decide +kernel
theorem dX10_account_100 : decode cX10_account 100 = .ok (.iadd, 1) := by decide +kernel
theorem dX10_account_101 : decode cX10_account 101 = .ok (.ireturn, 1) := by decide +kernel
theorem dX10_account_102 : decode cX10_account 102 = .ok (.aload_n 0, 1) := by decide +kernel
theorem dX10_account_103 : decode cX10_account 103 = .ok (.getfield 7, 3) := by decide +kernel
theorem dX10_account_106 : decode cX10_account 106 = .ok (.bipush 15, 2) := by decide +kernel
theorem dX10_account_108 : decode cX10_account 108 = .ok (.iload_n 1, 1) := by decide +kernel
theorem dX10_account_109 : decode cX10_account 109 = .ok (.iadd, 1) := by decide +kernel
theorem dX10_account_110 : decode cX10_account 110 = .ok (.iaload, 1) := by decide +kernel
theorem dX10_account_111 : decode cX10_account 111 = .ok (.ireturn, 1) := by decide +kernel
theorem dX10_account_112 : decode cX10_account 112 = .ok (.iconst (-1), 1) := by decide +kernel
theorem dX10_account_113 : decode cX10_account 113 = .ok (.ireturn, 1) := by decide +kernel
theorem dX10_inHouse_0 : decode cX10_inHouse 0 = .ok (.iconst 0, 1) := by decide +kernel
theorem dX10_inHouse_1 : decode cX10_inHouse 1 = .ok (.istore_n 1, 1) := by decide +kernel
theorem dX10_inHouse_2 : decode cX10_inHouse 2 = .ok (.iconst 0, 1) := by decide +kernel
theorem dX10_inHouse_3 : decode cX10_inHouse 3 = .ok (.istore_n 2, 1) := by decide +kernel
theorem dX10_inHouse_4 : decode cX10_inHouse 4 = .ok (.iload_n 2, 1) := by decide +kernel
theorem dX10_inHouse_5 : decode cX10_inHouse 5 = .ok (.aload_n 0, 1) := by decide +kernel
theorem dX10_inHouse_6 : decode cX10_inHouse 6 = .ok (.getfield 7, 3) := by decide +kernel
theorem dX10_inHouse_9 : decode cX10_inHouse 9 = .ok (.bipush 8, 2) := by decide +kernel
theorem dX10_inHouse_11 : decode cX10_inHouse 11 = .ok (.iaload, 1) := by decide +kernel
theorem dX10_inHouse_12 : decode cX10_inHouse 12 = .ok (.if_icmp .ge 25, 3) := by decide +kernel
theorem dX10_inHouse_15 : decode cX10_inHouse 15 = .ok (.iload_n 1, 1) := by decide +kernel
theorem dX10_inHouse_16 : decode cX10_inHouse 16 = .ok (.aload_n 0, 1) := by decide +kernel
theorem dX10_inHouse_17 : decode cX10_inHouse 17 = .ok (.iload_n 2, 1) := by decide +kernel
theorem dX10_inHouse_18 : decode cX10_inHouse 18 = .ok (.invokevirtual 97, 3) := by decide +kernel
theorem dX10_inHouse_21 : decode cX10_inHouse 21 = .ok (.ifCond .eq 7, 3) := by decide +kernel
theorem dX10_inHouse_24 : decode cX10_inHouse 24 = .ok (.iconst 0, 1) := by decide +kernel
theorem dX10_inHouse_25 : decode cX10_inHouse 25 = .ok (.goto 4, 3) := by decide +kernel
theorem dX10_inHouse_28 : decode cX10_inHouse 28 = .ok (.iconst 1, 1) := by decide +kernel
theorem dX10_inHouse_29 : decode cX10_inHouse 29 = .ok (.iadd, 1) := by decide +kernel
theorem dX10_inHouse_30 : decode cX10_inHouse 30 = .ok (.istore_n 1, 1) := by decide +kernel
theorem dX10_inHouse_31 : decode cX10_inHouse 31 = .ok (.iinc 2 1, 3) := by decide +kernel
theorem dX10_inHouse_34 : decode cX10_inHouse 34 = .ok (.goto (-30), 3) := by decide +kernel
theorem dX10_inHouse_37 : decode cX10_inHouse 37 = .ok (.iload_n 1, 1) := by decide +kernel
theorem dX10_inHouse_38 : decode cX10_inHouse 38 = .ok (.ireturn, 1) := by decide +kernel
theorem dX10_count_0 : decode cX10_count 0 = .ok (.iload_n 1, 1) := by decide +kernel
theorem dX10_count_1 : decode cX10_count 1 = .ok (.bipush 20, 2) := by decide +kernel
theorem dX10_count_3 : decode cX10_count 3 = .ok (.bipush 26, 2) := by decide +kernel
theorem dX10_count_5 : decode cX10_count 5 = .ok (.invokestatic 31, 3) := by decide +kernel
theorem dX10_count_8 : decode cX10_count 8 = .ok (.ifCond .eq 13, 3) := by decide +kernel
theorem dX10_count_11 : decode cX10_count 11 = .ok (.aload_n 0, 1) := by decide +kernel
theorem dX10_count_12 : decode cX10_count 12 = .ok (.getfield 7, 3) := by decide +kernel
theorem dX10_count_15 : decode cX10_count 15 = .ok (.iload_n 1, 1) := by decide +kernel
theorem dX10_count_16 : decode cX10_count 16 = .ok (.bipush 20, 2) := by decide +kernel
theorem dX10_count_18 : decode cX10_count 18 = .ok (.isub, 1) := by decide +kernel
theorem dX10_count_19 : decode cX10_count 19 = .ok (.iaload, 1) := by decide +kernel
theorem dX10_count_20 : decode cX10_count 20 = .ok (.ireturn, 1) := by decide +kernel
theorem dX10_count_21 : decode cX10_count 21 = .ok (.iload_n 1, 1) := by decide +kernel
theorem dX10_count_22 : decode cX10_count 22 = .ok (.tableswitch 163 0 11 #[62, 70, 78, 83, 95, 103, 119, 132, 140, 145, 153, 158], 62) := by decide +kernel
theorem dX10_count_84 : decode cX10_count 84 = .ok (.aload_n 0, 1) := by decide +kernel
theorem dX10_count_85 : decode cX10_count 85 = .ok (.getfield 7, 3) := by decide +kernel
theorem dX10_count_88 : decode cX10_count 88 = .ok (.bipush 7, 2) := by decide +kernel
theorem dX10_count_90 : decode cX10_count 90 = .ok (.iaload, 1) := by decide +kernel
theorem dX10_count_91 : decode cX10_count 91 = .ok (.ireturn, 1) := by decide +kernel
theorem dX10_count_92 : decode cX10_count 92 = .ok (.aload_n 0, 1) := by decide +kernel
theorem dX10_count_93 : decode cX10_count 93 = .ok (.getfield 7, 3) := by decide +kernel
theorem dX10_count_96 : decode cX10_count 96 = .ok (.bipush 8, 2) := by decide +kernel
theorem dX10_count_98 : decode cX10_count 98 = .ok (.iaload, 1) := by decide +kernel
theorem dX10_count_99 : decode cX10_count 99 = .ok (.ireturn, 1) := by decide +kernel
theorem dX10_count_100 : decode cX10_count 100 = .ok (.aload_n 0, 1) := by decide +kernel
theorem dX10_count_101 : decode cX10_count 101 = .ok (.invokevirtual 176, 3) := by decide +kernel
theorem dX10_count_104 : decode cX10_count 104 = .ok (.ireturn, 1) := by decide +kernel
theorem dX10_count_105 : decode cX10_count 105 = .ok (.aload_n 0, 1) := by decide +kernel
theorem dX10_count_106 : decode cX10_count 106 = .ok (.iconst 0, 1) := by decide +kernel
theorem dX10_count_107 : decode cX10_count 107 = .ok (.invokevirtual 112, 3) := by decide +kernel
theorem dX10_count_110 : decode cX10_count 110 = .ok (.aload_n 0, 1) := by decide +kernel
theorem dX10_count_111 : decode cX10_count 111 = .ok (.iconst 1, 1) := by decide +kernel
theorem dX10_count_112 : decode cX10_count 112 = .ok (.invokevirtual 112, 3) := by decide +kernel
theorem dX10_count_115 : decode cX10_count 115 = .ok (.iadd, 1) := by decide +kernel
theorem dX10_count_116 : decode cX10_count 116 = .ok (.ireturn, 1) := by decide +kernel
theorem dX10_count_117 : decode cX10_count 117 = .ok (.aload_n 0, 1) := by decide +kernel
theorem dX10_count_118 : decode cX10_count 118 = .ok (.bipush 11, 2) := by decide +kernel
theorem dX10_count_120 : decode cX10_count 120 = .ok (.iconst 0, 1) := by decide +kernel
theorem dX10_count_121 : decode cX10_count 121 = .ok (.invokevirtual 172, 3) := by decide +kernel
theorem dX10_count_124 : decode cX10_count 124 = .ok (.ireturn, 1) := by decide +kernel
theorem dX10_count_125 : decode cX10_count 125 = .ok (.aload_n 0, 1) := by decide +kernel
theorem dX10_count_126 : decode cX10_count 126 = .ok (.bipush 12, 2) := by decide +kernel
theorem dX10_count_128 : decode cX10_count 128 = .ok (.iconst 0, 1) := by decide +kernel
theorem dX10_count_129 : decode cX10_count 129 = .ok (.invokevirtual 172, 3) := by decide +kernel
theorem dX10_count_132 : decode cX10_count 132 = .ok (.aload_n 0, 1) := by decide +kernel
theorem dX10_count_133 : decode cX10_count 133 = .ok (.bipush 12, 2) := by decide +kernel
theorem dX10_count_135 : decode cX10_count 135 = .ok (.iconst 1, 1) := by decide +kernel
theorem dX10_count_136 : decode cX10_count 136 = .ok (.invokevirtual 172, 3) := by decide +kernel
theorem dX10_count_139 : decode cX10_count 139 = .ok (.iadd, 1) := by decide +kernel
theorem dX10_count_140 : decode cX10_count 140 = .ok (.ireturn, 1) := by decide +kernel
theorem dX10_count_141 : decode cX10_count 141 = .ok (.aload_n 0, 1) := by decide +kernel
theorem dX10_count_142 : decode cX10_count 142 = .ok (.getfield 7, 3) := by decide +kernel
theorem dX10_count_145 : decode cX10_count 145 = .ok (.bipush 8, 2) := by decide +kernel
theorem dX10_count_147 : decode cX10_count 147 = .ok (.iaload, 1) := by decide +kernel
theorem dX10_count_148 : decode cX10_count 148 = .ok (.aload_n 0, 1) := by decide +kernel
theorem dX10_count_149 : decode cX10_count 149 = .ok (.invokevirtual 176, 3) := by decide +kernel
theorem dX10_count_152 : decode cX10_count 152 = .ok (.isub, 1) := by decide +kernel
theorem dX10_count_153 : decode cX10_count 153 = .ok (.ireturn, 1) := by decide +kernel
theorem dX10_count_154 : decode cX10_count 154 = .ok (.aload_n 0, 1) := by decide +kernel
theorem dX10_count_155 : decode cX10_count 155 = .ok (.getfield 7, 3) := by decide +kernel
theorem dX10_count_158 : decode cX10_count 158 = .ok (.bipush 9, 2) := by decide +kernel
theorem dX10_count_160 : decode cX10_count 160 = .ok (.iaload, 1) := by decide +kernel
theorem dX10_count_161 : decode cX10_count 161 = .ok (.ireturn, 1) := by decide +kernel
theorem dX10_count_162 : decode cX10_count 162 = .ok (.aload_n 0, 1) := by decide +kernel
theorem dX10_count_163 : decode cX10_count 163 = .ok (.invokevirtual 140, 3) := by decide +kernel
theorem dX10_count_166 : decode cX10_count 166 = .ok (.ireturn, 1) := by decide +kernel
theorem dX10_count_167 : decode cX10_count 167 = .ok (.aload_n 0, 1) := by decide +kernel
theorem dX10_count_168 : decode cX10_count 168 = .ok (.getfield 7, 3) := by decide +kernel
theorem dX10_count_171 : decode cX10_count 171 = .ok (.bipush 10, 2) := by decide +kernel
theorem dX10_count_173 : decode cX10_count 173 = .ok (.iaload, 1) := by decide +kernel
theorem dX10_count_174 : decode cX10_count 174 = .ok (.ireturn, 1) := by decide +kernel
theorem dX10_count_175 : decode cX10_count 175 = .ok (.aload_n 0, 1) := by decide +kernel
theorem dX10_count_176 : decode cX10_count 176 = .ok (.getfield 39, 3) := by decide +kernel
theorem dX10_count_179 : decode cX10_count 179 = .ok (.ireturn, 1) := by decide +kernel
theorem dX10_count_180 : decode cX10_count 180 = .ok (.aload_n 0, 1) := by decide +kernel
theorem dX10_count_181 : decode cX10_count 181 = .ok (.getfield 179, 3) := by decide +kernel
theorem dX10_count_184 : decode cX10_count 184 = .ok (.ireturn, 1) := by decide +kernel
theorem dX10_count_185 : decode cX10_count 185 = .ok (.iconst (-1), 1) := by decide +kernel
theorem dX10_count_186 : decode cX10_count 186 = .ok (.ireturn, 1) := by decide +kernel
theorem dX10_isSetting_0 : decode cX10_isSetting 0 = .ok (.iload_n 0, 1) := by decide +kernel
theorem dX10_isSetting_1 : decode cX10_isSetting 1 = .ok (.tableswitch 84 0 5 #[39, 47, 55, 65, 75, 47], 39) := by decide +kernel
theorem dX10_isSetting_40 : decode cX10_isSetting 40 = .ok (.iload_n 1, 1) := by decide +kernel
theorem dX10_isSetting_41 : decode cX10_isSetting 41 = .ok (.iconst 1, 1) := by decide +kernel
theorem dX10_isSetting_42 : decode cX10_isSetting 42 = .ok (.bipush 100, 2) := by decide +kernel
theorem dX10_isSetting_44 : decode cX10_isSetting 44 = .ok (.invokestatic 31, 3) := by decide +kernel
theorem dX10_isSetting_47 : decode cX10_isSetting 47 = .ok (.ireturn, 1) := by decide +kernel
theorem dX10_isSetting_48 : decode cX10_isSetting 48 = .ok (.iload_n 1, 1) := by decide +kernel
theorem dX10_isSetting_49 : decode cX10_isSetting 49 = .ok (.iconst 0, 1) := by decide +kernel
theorem dX10_isSetting_50 : decode cX10_isSetting 50 = .ok (.bipush 50, 2) := by decide +kernel
theorem dX10_isSetting_52 : decode cX10_isSetting 52 = .ok (.invokestatic 31, 3) := by decide +kernel
theorem dX10_isSetting_55 : decode cX10_isSetting 55 = .ok (.ireturn, 1) := by decide +kernel
theorem dX10_isSetting_56 : decode cX10_isSetting 56 = .ok (.iload_n 1, 1) := by decide +kernel
theorem dX10_isSetting_57 : decode cX10_isSetting 57 = .ok (.bipush 10, 2) := by decide +kernel
theorem dX10_isSetting_59 : decode cX10_isSetting 59 = .ok (.sipush 1000, 3) := by decide +kernel
theorem dX10_isSetting_62 : decode cX10_isSetting 62 = .ok (.invokestatic 31, 3) := by decide +kernel
theorem dX10_isSetting_65 : decode cX10_isSetting 65 = .ok (.ireturn, 1) := by decide +kernel
theorem dX10_isSetting_66 : decode cX10_isSetting 66 = .ok (.iload_n 1, 1) := by decide +kernel
theorem dX10_isSetting_67 : decode cX10_isSetting 67 = .ok (.bipush 100, 2) := by decide +kernel
theorem dX10_isSetting_69 : decode cX10_isSetting 69 = .ok (.sipush 20000, 3) := by decide +kernel
theorem dX10_isSetting_72 : decode cX10_isSetting 72 = .ok (.invokestatic 31, 3) := by decide +kernel
theorem dX10_isSetting_75 : decode cX10_isSetting 75 = .ok (.ireturn, 1) := by decide +kernel
theorem dX10_isSetting_76 : decode cX10_isSetting 76 = .ok (.iload_n 1, 1) := by decide +kernel
theorem dX10_isSetting_77 : decode cX10_isSetting 77 = .ok (.iconst 0, 1) := by decide +kernel
theorem dX10_isSetting_78 : decode cX10_isSetting 78 = .ok (.sipush 2000, 3) := by decide +kernel
theorem dX10_isSetting_81 : decode cX10_isSetting 81 = .ok (.invokestatic 31, 3) := by decide +kernel
theorem dX10_isSetting_84 : decode cX10_isSetting 84 = .ok (.ireturn, 1) := by decide +kernel
theorem dX10_isSetting_85 : decode cX10_isSetting 85 = .ok (.iload_n 0, 1) := by decide +kernel
theorem dX10_isSetting_86 : decode cX10_isSetting 86 = .ok (.bipush 6, 2) := by decide +kernel
theorem dX10_isSetting_88 : decode cX10_isSetting 88 = .ok (.if_icmp .ne 18, 3) := by decide +kernel
theorem dX10_isSetting_91 : decode cX10_isSetting 91 = .ok (.iload_n 1, 1) := by decide +kernel
theorem dX10_isSetting_92 : decode cX10_isSetting 92 = .ok (.iconst 0, 1) := by decide +kernel
theorem dX10_isSetting_93 : decode cX10_isSetting 93 = .ok (.sipush 20000, 3) := by decide +kernel
theorem dX10_isSetting_96 : decode cX10_isSetting 96 = .ok (.invokestatic 31, 3) := by decide +kernel
theorem dX10_isSetting_99 : decode cX10_isSetting 99 = .ok (.ifCond .eq 7, 3) := by decide +kernel
theorem dX10_isSetting_102 : decode cX10_isSetting 102 = .ok (.iconst 1, 1) := by decide +kernel
theorem dX10_isSetting_103 : decode cX10_isSetting 103 = .ok (.goto 4, 3) := by decide +kernel
theorem dX10_isSetting_106 : decode cX10_isSetting 106 = .ok (.iconst 0, 1) := by decide +kernel
theorem dX10_isSetting_107 : decode cX10_isSetting 107 = .ok (.ireturn, 1) := by decide +kernel
theorem dX10_set_0 : decode cX10_set 0 = .ok (.iload_n 1, 1) := by decide +kernel
theorem dX10_set_1 : decode cX10_set 1 = .ok (.iload_n 2, 1) := by decide +kernel
theorem dX10_set_2 : decode cX10_set 2 = .ok (.invokestatic 182, 3) := by decide +kernel
theorem dX10_set_5 : decode cX10_set 5 = .ok (.ifCond .ne 5, 3) := by decide +kernel
theorem dX10_set_8 : decode cX10_set 8 = .ok (.iconst (-1), 1) := by decide +kernel
theorem dX10_set_9 : decode cX10_set 9 = .ok (.ireturn, 1) := by decide +kernel
theorem dX10_set_10 : decode cX10_set 10 = .ok (.aload_n 0, 1) := by decide +kernel
theorem dX10_set_11 : decode cX10_set 11 = .ok (.invokevirtual 43, 3) := by decide +kernel
theorem dX10_set_14 : decode cX10_set 14 = .ok (.aload_n 0, 1) := by decide +kernel
theorem dX10_set_15 : decode cX10_set 15 = .ok (.getfield 7, 3) := by decide +kernel
theorem dX10_set_18 : decode cX10_set 18 = .ok (.iload_n 1, 1) := by decide +kernel
theorem dX10_set_19 : decode cX10_set 19 = .ok (.iaload, 1) := by decide +kernel
theorem dX10_set_20 : decode cX10_set 20 = .ok (.istore_n 3, 1) := by decide +kernel
theorem dX10_set_21 : decode cX10_set 21 = .ok (.aload_n 0, 1) := by decide +kernel
theorem dX10_set_22 : decode cX10_set 22 = .ok (.getfield 7, 3) := by decide +kernel
theorem dX10_set_25 : decode cX10_set 25 = .ok (.iload_n 1, 1) := by decide +kernel
theorem dX10_set_26 : decode cX10_set 26 = .ok (.iload_n 2, 1) := by decide +kernel
theorem dX10_set_27 : decode cX10_set 27 = .ok (.iastore, 1) := by decide +kernel
theorem dX10_set_28 : decode cX10_set 28 = .ok (.iload_n 3, 1) := by decide +kernel
theorem dX10_set_29 : decode cX10_set 29 = .ok (.ireturn, 1) := by decide +kernel
theorem dX10_type_0 : decode cX10_type 0 = .ok (.iload_n 1, 1) := by decide +kernel
theorem dX10_type_1 : decode cX10_type 1 = .ok (.bipush 32, 2) := by decide +kernel
theorem dX10_type_3 : decode cX10_type 3 = .ok (.bipush 126, 2) := by decide +kernel
theorem dX10_type_5 : decode cX10_type 5 = .ok (.invokestatic 31, 3) := by decide +kernel
theorem dX10_type_8 : decode cX10_type 8 = .ok (.ifCond .ne 5, 3) := by decide +kernel
theorem dX10_type_11 : decode cX10_type 11 = .ok (.iconst (-1), 1) := by decide +kernel
theorem dX10_type_12 : decode cX10_type 12 = .ok (.ireturn, 1) := by decide +kernel
theorem dX10_type_13 : decode cX10_type 13 = .ok (.aload_n 0, 1) := by decide +kernel
theorem dX10_type_14 : decode cX10_type 14 = .ok (.getfield 179, 3) := by decide +kernel
theorem dX10_type_17 : decode cX10_type 17 = .ok (.bipush 60, 2) := by decide +kernel
theorem dX10_type_19 : decode cX10_type 19 = .ok (.if_icmp .ne 6, 3) := by decide +kernel
theorem dX10_type_22 : decode cX10_type 22 = .ok (.bipush (-3), 2) := by decide +kernel
theorem dX10_type_24 : decode cX10_type 24 = .ok (.ireturn, 1) := by decide +kernel
theorem dX10_type_25 : decode cX10_type 25 = .ok (.aload_n 0, 1) := by decide +kernel
theorem dX10_type_26 : decode cX10_type 26 = .ok (.getfield 19, 3) := by decide +kernel
theorem dX10_type_29 : decode cX10_type 29 = .ok (.aload_n 0, 1) := by decide +kernel
theorem dX10_type_30 : decode cX10_type 30 = .ok (.getfield 179, 3) := by decide +kernel
theorem dX10_type_33 : decode cX10_type 33 = .ok (.iload_n 1, 1) := by decide +kernel
theorem dX10_type_34 : decode cX10_type 34 = .ok (.iastore, 1) := by decide +kernel
theorem dX10_type_35 : decode cX10_type 35 = .ok (.aload_n 0, 1) := by decide +kernel
theorem dX10_type_36 : decode cX10_type 36 = .ok (.dup, 1) := by decide +kernel
theorem dX10_type_37 : decode cX10_type 37 = .ok (.getfield 179, 3) := by decide +kernel
theorem dX10_type_40 : decode cX10_type 40 = .ok (.iconst 1, 1) := by decide +kernel
theorem dX10_type_41 : decode cX10_type 41 = .ok (.iadd, 1) := by decide +kernel
theorem dX10_type_42 : decode cX10_type 42 = .ok (.putfield 179, 3) := by decide +kernel
theorem dX10_type_45 : decode cX10_type 45 = .ok (.aload_n 0, 1) := by decide +kernel
theorem dX10_type_46 : decode cX10_type 46 = .ok (.getfield 179, 3) := by decide +kernel
theorem dX10_type_49 : decode cX10_type 49 = .ok (.ireturn, 1) := by decide +kernel
theorem dX10_clearText_0 : decode cX10_clearText 0 = .ok (.aload_n 0, 1) := by decide +kernel
theorem dX10_clearText_1 : decode cX10_clearText 1 = .ok (.getfield 179, 3) := by decide +kernel
theorem dX10_clearText_4 : decode cX10_clearText 4 = .ok (.istore_n 1, 1) := by decide +kernel
theorem dX10_clearText_5 : decode cX10_clearText 5 = .ok (.aload_n 0, 1) := by decide +kernel
theorem dX10_clearText_6 : decode cX10_clearText 6 = .ok (.iconst 0, 1) := by decide +kernel
theorem dX10_clearText_7 : decode cX10_clearText 7 = .ok (.putfield 179, 3) := by decide +kernel
theorem dX10_clearText_10 : decode cX10_clearText 10 = .ok (.iload_n 1, 1) := by decide +kernel
theorem dX10_clearText_11 : decode cX10_clearText 11 = .ok (.ireturn, 1) := by decide +kernel
theorem dX10_here_0 : decode cX10_here 0 = .ok (.aload_n 0, 1) := by decide +kernel
theorem dX10_here_1 : decode cX10_here 1 = .ok (.getfield 185, 3) := by decide +kernel
theorem dX10_here_4 : decode cX10_here 4 = .ok (.aload_n 0, 1) := by decide +kernel
theorem dX10_here_5 : decode cX10_here 5 = .ok (.getfield 179, 3) := by decide +kernel
theorem dX10_here_8 : decode cX10_here 8 = .ok (.if_icmp .ge 15, 3) := by decide +kernel
theorem dX10_here_11 : decode cX10_here 11 = .ok (.aload_n 0, 1) := by decide +kernel
theorem dX10_here_12 : decode cX10_here 12 = .ok (.getfield 19, 3) := by decide +kernel
theorem dX10_here_15 : decode cX10_here 15 = .ok (.aload_n 0, 1) := by decide +kernel
theorem dX10_here_16 : decode cX10_here 16 = .ok (.getfield 185, 3) := by decide +kernel
theorem dX10_here_19 : decode cX10_here 19 = .ok (.iaload, 1) := by decide +kernel
theorem dX10_here_20 : decode cX10_here 20 = .ok (.goto 4, 3) := by decide +kernel
theorem dX10_here_23 : decode cX10_here 23 = .ok (.iconst 0, 1) := by decide +kernel
theorem dX10_here_24 : decode cX10_here 24 = .ok (.ireturn, 1) := by decide +kernel
theorem dX10_sign_0 : decode cX10_sign 0 = .ok (.aload_n 0, 1) := by decide +kernel
theorem dX10_sign_1 : decode cX10_sign 1 = .ok (.aload_n 0, 1) := by decide +kernel
theorem dX10_sign_2 : decode cX10_sign 2 = .ok (.getfield 188, 3) := by decide +kernel
theorem dX10_sign_5 : decode cX10_sign 5 = .ok (.ifCond .eq 15, 3) := by decide +kernel
theorem dX10_sign_8 : decode cX10_sign 8 = .ok (.aload_n 0, 1) := by decide +kernel
theorem dX10_sign_9 : decode cX10_sign 9 = .ok (.invokevirtual 192, 3) := by decide +kernel
theorem dX10_sign_12 : decode cX10_sign 12 = .ok (.iload_n 1, 1) := by decide +kernel
theorem dX10_sign_13 : decode cX10_sign 13 = .ok (.if_icmp .ne 7, 3) := by decide +kernel
theorem dX10_sign_16 : decode cX10_sign 16 = .ok (.iconst 1, 1) := by decide +kernel
theorem dX10_sign_17 : decode cX10_sign 17 = .ok (.goto 4, 3) := by decide +kernel
theorem dX10_sign_20 : decode cX10_sign 20 = .ok (.iconst 0, 1) := by decide +kernel
theorem dX10_sign_21 : decode cX10_sign 21 = .ok (.putfield 188, 3) := by decide +kernel
theorem dX10_sign_24 : decode cX10_sign 24 = .ok (.aload_n 0, 1) := by decide +kernel
theorem dX10_sign_25 : decode cX10_sign 25 = .ok (.dup, 1) := by decide +kernel
theorem dX10_sign_26 : decode cX10_sign 26 = .ok (.getfield 185, 3) := by decide +kernel
theorem dX10_sign_29 : decode cX10_sign 29 = .ok (.aload_n 0, 1) := by decide +kernel
theorem dX10_sign_30 : decode cX10_sign 30 = .ok (.getfield 188, 3) := by decide +kernel
theorem dX10_sign_33 : decode cX10_sign 33 = .ok (.ifCond .eq 7, 3) := by decide +kernel
theorem dX10_sign_36 : decode cX10_sign 36 = .ok (.iconst 1, 1) := by decide +kernel
theorem dX10_sign_37 : decode cX10_sign 37 = .ok (.goto 4, 3) := by decide +kernel
theorem dX10_sign_40 : decode cX10_sign 40 = .ok (.iconst 0, 1) := by decide +kernel
theorem dX10_sign_41 : decode cX10_sign 41 = .ok (.iadd, 1) := by decide +kernel
theorem dX10_sign_42 : decode cX10_sign 42 = .ok (.putfield 185, 3) := by decide +kernel
theorem dX10_sign_45 : decode cX10_sign 45 = .ok (.return_, 1) := by decide +kernel
theorem dX10_number_0 : decode cX10_number 0 = .ok (.iconst 0, 1) := by decide +kernel
theorem dX10_number_1 : decode cX10_number 1 = .ok (.istore_n 1, 1) := by decide +kernel
theorem dX10_number_2 : decode cX10_number 2 = .ok (.aload_n 0, 1) := by decide +kernel
theorem dX10_number_3 : decode cX10_number 3 = .ok (.getfield 185, 3) := by decide +kernel
theorem dX10_number_6 : decode cX10_number 6 = .ok (.istore_n 2, 1) := by decide +kernel
theorem dX10_number_7 : decode cX10_number 7 = .ok (.aload_n 0, 1) := by decide +kernel
theorem dX10_number_8 : decode cX10_number 8 = .ok (.getfield 188, 3) := by decide +kernel
theorem dX10_number_11 : decode cX10_number 11 = .ok (.ifCond .eq 53, 3) := by decide +kernel
theorem dX10_number_14 : decode cX10_number 14 = .ok (.aload_n 0, 1) := by decide +kernel
theorem dX10_number_15 : decode cX10_number 15 = .ok (.getfield 185, 3) := by decide +kernel
theorem dX10_number_18 : decode cX10_number 18 = .ok (.iload_n 2, 1) := by decide +kernel
theorem dX10_number_19 : decode cX10_number 19 = .ok (.isub, 1) := by decide +kernel
theorem dX10_number_20 : decode cX10_number 20 = .ok (.iconst 2, 1) := by decide +kernel
theorem dX10_number_21 : decode cX10_number 21 = .ok (.if_icmp .ge 43, 3) := by decide +kernel
theorem dX10_number_24 : decode cX10_number 24 = .ok (.aload_n 0, 1) := by decide +kernel
theorem dX10_number_25 : decode cX10_number 25 = .ok (.invokevirtual 192, 3) := by decide +kernel
theorem dX10_number_28 : decode cX10_number 28 = .ok (.bipush 48, 2) := by decide +kernel
theorem dX10_number_30 : decode cX10_number 30 = .ok (.bipush 57, 2) := by decide +kernel
theorem dX10_number_32 : decode cX10_number 32 = .ok (.invokestatic 31, 3) := by decide +kernel
theorem dX10_number_35 : decode cX10_number 35 = .ok (.ifCond .eq 29, 3) := by decide +kernel
theorem dX10_number_38 : decode cX10_number 38 = .ok (.bipush 10, 2) := by decide +kernel
theorem dX10_number_40 : decode cX10_number 40 = .ok (.iload_n 1, 1) := by decide +kernel
theorem dX10_number_41 : decode cX10_number 41 = .ok (.imul, 1) := by decide +kernel
theorem dX10_number_42 : decode cX10_number 42 = .ok (.aload_n 0, 1) := by decide +kernel
theorem dX10_number_43 : decode cX10_number 43 = .ok (.invokevirtual 192, 3) := by decide +kernel
theorem dX10_number_46 : decode cX10_number 46 = .ok (.iadd, 1) := by decide +kernel
theorem dX10_number_47 : decode cX10_number 47 = .ok (.bipush 48, 2) := by decide +kernel
theorem dX10_number_49 : decode cX10_number 49 = .ok (.isub, 1) := by decide +kernel
theorem dX10_number_50 : decode cX10_number 50 = .ok (.istore_n 1, 1) := by decide +kernel
theorem dX10_number_51 : decode cX10_number 51 = .ok (.aload_n 0, 1) := by decide +kernel
theorem dX10_number_52 : decode cX10_number 52 = .ok (.dup, 1) := by decide +kernel
theorem dX10_number_53 : decode cX10_number 53 = .ok (.getfield 185, 3) := by decide +kernel
theorem dX10_number_56 : decode cX10_number 56 = .ok (.iconst 1, 1) := by decide +kernel
theorem dX10_number_57 : decode cX10_number 57 = .ok (.iadd, 1) := by decide +kernel
theorem dX10_number_58 : decode cX10_number 58 = .ok (.putfield 185, 3) := by decide +kernel
theorem dX10_number_61 : decode cX10_number 61 = .ok (.goto (-54), 3) := by decide +kernel
theorem dX10_number_64 : decode cX10_number 64 = .ok (.aload_n 0, 1) := by decide +kernel
theorem dX10_number_65 : decode cX10_number 65 = .ok (.aload_n 0, 1) := by decide +kernel
theorem dX10_number_66 : decode cX10_number 66 = .ok (.getfield 188, 3) := by decide +kernel
theorem dX10_number_69 : decode cX10_number 69 = .ok (.ifCond .eq 15, 3) := by decide +kernel
theorem dX10_number_72 : decode cX10_number 72 = .ok (.aload_n 0, 1) := by decide +kernel
theorem dX10_number_73 : decode cX10_number 73 = .ok (.getfield 185, 3) := by decide +kernel
theorem dX10_number_76 : decode cX10_number 76 = .ok (.iload_n 2, 1) := by decide +kernel
theorem dX10_number_77 : decode cX10_number 77 = .ok (.if_icmp .le 7, 3) := by decide +kernel
theorem dX10_number_80 : decode cX10_number 80 = .ok (.iconst 1, 1) := by decide +kernel
theorem dX10_number_81 : decode cX10_number 81 = .ok (.goto 4, 3) := by decide +kernel
theorem dX10_number_84 : decode cX10_number 84 = .ok (.iconst 0, 1) := by decide +kernel
theorem dX10_number_85 : decode cX10_number 85 = .ok (.putfield 188, 3) := by decide +kernel
theorem dX10_number_88 : decode cX10_number 88 = .ok (.iload_n 1, 1) := by decide +kernel
theorem dX10_number_89 : decode cX10_number 89 = .ok (.ireturn, 1) := by decide +kernel
theorem dX10_numbers_0 : decode cX10_numbers 0 = .ok (.iload_n 0, 1) := by decide +kernel
theorem dX10_numbers_1 : decode cX10_numbers 1 = .ok (.tableswitch 87 100 116 #[83, 85, 87, 87, 83, 87, 87, 87, 87, 87, 87, 87, 87, 87, 85, 83, 85], 83) := by decide +kernel
theorem dX10_numbers_84 : decode cX10_numbers 84 = .ok (.iconst 2, 1) := by decide +kernel
theorem dX10_numbers_85 : decode cX10_numbers 85 = .ok (.ireturn, 1) := by decide +kernel
theorem dX10_numbers_86 : decode cX10_numbers 86 = .ok (.iconst 1, 1) := by decide +kernel
theorem dX10_numbers_87 : decode cX10_numbers 87 = .ok (.ireturn, 1) := by decide +kernel
theorem dX10_numbers_88 : decode cX10_numbers 88 = .ok (.iconst 0, 1) := by decide +kernel
theorem dX10_numbers_89 : decode cX10_numbers 89 = .ok (.ireturn, 1) := by decide +kernel
theorem dX10_reads_0 : decode cX10_reads 0 = .ok (.aload_n 0, 1) := by decide +kernel
theorem dX10_reads_1 : decode cX10_reads 1 = .ok (.aload_n 0, 1) := by decide +kernel
theorem dX10_reads_2 : decode cX10_reads 2 = .ok (.invokevirtual 192, 3) := by decide +kernel
theorem dX10_reads_5 : decode cX10_reads 5 = .ok (.putfield 195, 3) := by decide +kernel
theorem dX10_reads_8 : decode cX10_reads 8 = .ok (.aload_n 0, 1) := by decide +kernel
theorem dX10_reads_9 : decode cX10_reads 9 = .ok (.getfield 195, 3) := by decide +kernel
theorem dX10_reads_12 : decode cX10_reads 12 = .ok (.invokestatic 198, 3) := by decide +kernel
theorem dX10_reads_15 : decode cX10_reads 15 = .ok (.istore_n 1, 1) := by decide +kernel
theorem dX10_reads_16 : decode cX10_reads 16 = .ok (.aload_n 0, 1) := by decide +kernel
theorem dX10_reads_17 : decode cX10_reads 17 = .ok (.iload_n 1, 1) := by decide +kernel
theorem dX10_reads_18 : decode cX10_reads 18 = .ok (.ifCond .le 7, 3) := by decide +kernel
theorem dX10_reads_21 : decode cX10_reads 21 = .ok (.iconst 1, 1) := by decide +kernel
theorem dX10_reads_22 : decode cX10_reads 22 = .ok (.goto 4, 3) := by decide +kernel
theorem dX10_reads_25 : decode cX10_reads 25 = .ok (.iconst 0, 1) := by decide +kernel
theorem dX10_reads_26 : decode cX10_reads 26 = .ok (.putfield 188, 3) := by decide +kernel
theorem dX10_reads_29 : decode cX10_reads 29 = .ok (.aload_n 0, 1) := by decide +kernel
theorem dX10_reads_30 : decode cX10_reads 30 = .ok (.dup, 1) := by decide +kernel
theorem dX10_reads_31 : decode cX10_reads 31 = .ok (.getfield 185, 3) := by decide +kernel
theorem dX10_reads_34 : decode cX10_reads 34 = .ok (.iconst 1, 1) := by decide +kernel
theorem dX10_reads_35 : decode cX10_reads 35 = .ok (.iadd, 1) := by decide +kernel
theorem dX10_reads_36 : decode cX10_reads 36 = .ok (.putfield 185, 3) := by decide +kernel
theorem dX10_reads_39 : decode cX10_reads 39 = .ok (.aload_n 0, 1) := by decide +kernel
theorem dX10_reads_40 : decode cX10_reads 40 = .ok (.getfield 25, 3) := by decide +kernel
theorem dX10_reads_43 : decode cX10_reads 43 = .ok (.iconst 0, 1) := by decide +kernel
theorem dX10_reads_44 : decode cX10_reads 44 = .ok (.aload_n 0, 1) := by decide +kernel
theorem dX10_reads_45 : decode cX10_reads 45 = .ok (.invokevirtual 201, 3) := by decide +kernel
theorem dX10_reads_48 : decode cX10_reads 48 = .ok (.iastore, 1) := by decide +kernel
theorem dX10_reads_49 : decode cX10_reads 49 = .ok (.iload_n 1, 1) := by decide +kernel
theorem dX10_reads_50 : decode cX10_reads 50 = .ok (.iconst 2, 1) := by decide +kernel
theorem dX10_reads_51 : decode cX10_reads 51 = .ok (.if_icmp .ne 19, 3) := by decide +kernel
theorem dX10_reads_54 : decode cX10_reads 54 = .ok (.aload_n 0, 1) := by decide +kernel
theorem dX10_reads_55 : decode cX10_reads 55 = .ok (.bipush 44, 2) := by decide +kernel
theorem dX10_reads_57 : decode cX10_reads 57 = .ok (.invokevirtual 204, 3) := by decide +kernel
theorem dX10_reads_60 : decode cX10_reads 60 = .ok (.aload_n 0, 1) := by decide +kernel
theorem dX10_reads_61 : decode cX10_reads 61 = .ok (.getfield 25, 3) := by decide +kernel
theorem dX10_reads_64 : decode cX10_reads 64 = .ok (.iconst 1, 1) := by decide +kernel
theorem dX10_reads_65 : decode cX10_reads 65 = .ok (.aload_n 0, 1) := by decide +kernel
theorem dX10_reads_66 : decode cX10_reads 66 = .ok (.invokevirtual 201, 3) := by decide +kernel
theorem dX10_reads_69 : decode cX10_reads 69 = .ok (.iastore, 1) := by decide +kernel
theorem dX10_reads_70 : decode cX10_reads 70 = .ok (.aload_n 0, 1) := by decide +kernel
theorem dX10_reads_71 : decode cX10_reads 71 = .ok (.bipush 59, 2) := by decide +kernel
theorem dX10_reads_73 : decode cX10_reads 73 = .ok (.invokevirtual 204, 3) := by decide +kernel
theorem dX10_reads_76 : decode cX10_reads 76 = .ok (.return_, 1) := by decide +kernel
theorem dX10_does_0 : decode cX10_does 0 = .ok (.aload_n 0, 1) := by decide +kernel
theorem dX10_does_1 : decode cX10_does 1 = .ok (.getfield 195, 3) := by decide +kernel
theorem dX10_does_4 : decode cX10_does 4 = .ok (.lookupswitch 125 #[(100, 52), (104, 69), (114, 103), (115, 86), (116, 114)], 52) := by decide +kernel
theorem dX10_does_56 : decode cX10_does 56 = .ok (.aload_n 0, 1) := by decide +kernel
theorem dX10_does_57 : decode cX10_does 57 = .ok (.aload_n 0, 1) := by decide +kernel
theorem dX10_does_58 : decode cX10_does 58 = .ok (.getfield 25, 3) := by decide +kernel
theorem dX10_does_61 : decode cX10_does 61 = .ok (.iconst 0, 1) := by decide +kernel
theorem dX10_does_62 : decode cX10_does 62 = .ok (.iaload, 1) := by decide +kernel
theorem dX10_does_63 : decode cX10_does 63 = .ok (.aload_n 0, 1) := by decide +kernel
theorem dX10_does_64 : decode cX10_does 64 = .ok (.getfield 25, 3) := by decide +kernel
theorem dX10_does_67 : decode cX10_does 67 = .ok (.iconst 1, 1) := by decide +kernel
theorem dX10_does_68 : decode cX10_does 68 = .ok (.iaload, 1) := by decide +kernel
theorem dX10_does_69 : decode cX10_does 69 = .ok (.invokevirtual 106, 3) := by decide +kernel
theorem dX10_does_72 : decode cX10_does 72 = .ok (.ireturn, 1) := by decide +kernel
theorem dX10_does_73 : decode cX10_does 73 = .ok (.aload_n 0, 1) := by decide +kernel
theorem dX10_does_74 : decode cX10_does 74 = .ok (.aload_n 0, 1) := by decide +kernel
theorem dX10_does_75 : decode cX10_does 75 = .ok (.getfield 25, 3) := by decide +kernel
theorem dX10_does_78 : decode cX10_does 78 = .ok (.iconst 0, 1) := by decide +kernel
theorem dX10_does_79 : decode cX10_does 79 = .ok (.iaload, 1) := by decide +kernel
theorem dX10_does_80 : decode cX10_does 80 = .ok (.aload_n 0, 1) := by decide +kernel
theorem dX10_does_81 : decode cX10_does 81 = .ok (.getfield 25, 3) := by decide +kernel
theorem dX10_does_84 : decode cX10_does 84 = .ok (.iconst 1, 1) := by decide +kernel
theorem dX10_does_85 : decode cX10_does 85 = .ok (.iaload, 1) := by decide +kernel
theorem dX10_does_86 : decode cX10_does 86 = .ok (.invokevirtual 115, 3) := by decide +kernel
theorem dX10_does_89 : decode cX10_does 89 = .ok (.ireturn, 1) := by decide +kernel
theorem dX10_does_90 : decode cX10_does 90 = .ok (.aload_n 0, 1) := by decide +kernel
theorem dX10_does_91 : decode cX10_does 91 = .ok (.aload_n 0, 1) := by decide +kernel
theorem dX10_does_92 : decode cX10_does 92 = .ok (.getfield 25, 3) := by decide +kernel
theorem dX10_does_95 : decode cX10_does 95 = .ok (.iconst 0, 1) := by decide +kernel
theorem dX10_does_96 : decode cX10_does 96 = .ok (.iaload, 1) := by decide +kernel
theorem dX10_does_97 : decode cX10_does 97 = .ok (.aload_n 0, 1) := by decide +kernel
theorem dX10_does_98 : decode cX10_does 98 = .ok (.getfield 25, 3) := by decide +kernel
theorem dX10_does_101 : decode cX10_does 101 = .ok (.iconst 1, 1) := by decide +kernel
theorem dX10_does_102 : decode cX10_does 102 = .ok (.iaload, 1) := by decide +kernel
theorem dX10_does_103 : decode cX10_does 103 = .ok (.invokevirtual 153, 3) := by decide +kernel
theorem dX10_does_106 : decode cX10_does 106 = .ok (.ireturn, 1) := by decide +kernel
theorem dX10_does_107 : decode cX10_does 107 = .ok (.aload_n 0, 1) := by decide +kernel
theorem dX10_does_108 : decode cX10_does 108 = .ok (.aload_n 0, 1) := by decide +kernel
theorem dX10_does_109 : decode cX10_does 109 = .ok (.getfield 25, 3) := by decide +kernel
theorem dX10_does_112 : decode cX10_does 112 = .ok (.iconst 0, 1) := by decide +kernel
theorem dX10_does_113 : decode cX10_does 113 = .ok (.iaload, 1) := by decide +kernel
theorem dX10_does_114 : decode cX10_does 114 = .ok (.invokevirtual 109, 3) := by decide +kernel
theorem dX10_does_117 : decode cX10_does 117 = .ok (.ireturn, 1) := by decide +kernel
theorem dX10_does_118 : decode cX10_does 118 = .ok (.aload_n 0, 1) := by decide +kernel
theorem dX10_does_119 : decode cX10_does 119 = .ok (.aload_n 0, 1) := by decide +kernel
theorem dX10_does_120 : decode cX10_does 120 = .ok (.getfield 25, 3) := by decide +kernel
theorem dX10_does_123 : decode cX10_does 123 = .ok (.iconst 0, 1) := by decide +kernel
theorem dX10_does_124 : decode cX10_does 124 = .ok (.iaload, 1) := by decide +kernel
theorem dX10_does_125 : decode cX10_does 125 = .ok (.invokevirtual 118, 3) := by decide +kernel
theorem dX10_does_128 : decode cX10_does 128 = .ok (.ireturn, 1) := by decide +kernel
theorem dX10_does_129 : decode cX10_does 129 = .ok (.aload_n 0, 1) := by decide +kernel
theorem dX10_does_130 : decode cX10_does 130 = .ok (.aload_n 0, 1) := by decide +kernel
theorem dX10_does_131 : decode cX10_does 131 = .ok (.getfield 25, 3) := by decide +kernel
theorem dX10_does_134 : decode cX10_does 134 = .ok (.iconst 0, 1) := by decide +kernel
theorem dX10_does_135 : decode cX10_does 135 = .ok (.iaload, 1) := by decide +kernel
theorem dX10_does_136 : decode cX10_does 136 = .ok (.invokevirtual 64, 3) := by decide +kernel
theorem dX10_does_139 : decode cX10_does 139 = .ok (.ireturn, 1) := by decide +kernel
theorem dX10_plays_0 : decode cX10_plays 0 = .ok (.iconst 0, 1) := by decide +kernel
theorem dX10_plays_1 : decode cX10_plays 1 = .ok (.istore_n 1, 1) := by decide +kernel
theorem dX10_plays_2 : decode cX10_plays 2 = .ok (.aload_n 0, 1) := by decide +kernel
theorem dX10_plays_3 : decode cX10_plays 3 = .ok (.iconst 0, 1) := by decide +kernel
theorem dX10_plays_4 : decode cX10_plays 4 = .ok (.putfield 185, 3) := by decide +kernel
theorem dX10_plays_7 : decode cX10_plays 7 = .ok (.aload_n 0, 1) := by decide +kernel
theorem dX10_plays_8 : decode cX10_plays 8 = .ok (.getfield 185, 3) := by decide +kernel
theorem dX10_plays_11 : decode cX10_plays 11 = .ok (.aload_n 0, 1) := by decide +kernel
theorem dX10_plays_12 : decode cX10_plays 12 = .ok (.getfield 179, 3) := by decide +kernel
theorem dX10_plays_15 : decode cX10_plays 15 = .ok (.if_icmp .ge 92, 3) := by decide +kernel
theorem dX10_plays_18 : decode cX10_plays 18 = .ok (.aload_n 0, 1) := by decide +kernel
theorem dX10_plays_19 : decode cX10_plays 19 = .ok (.getfield 185, 3) := by decide +kernel
theorem dX10_plays_22 : decode cX10_plays 22 = .ok (.istore_n 2, 1) := by decide +kernel
theorem dX10_plays_23 : decode cX10_plays 23 = .ok (.aload_n 0, 1) := by decide +kernel
theorem dX10_plays_24 : decode cX10_plays 24 = .ok (.invokevirtual 208, 3) := by decide +kernel
theorem dX10_plays_27 : decode cX10_plays 27 = .ok (.aload_n 0, 1) := by decide +kernel
theorem dX10_plays_28 : decode cX10_plays 28 = .ok (.getfield 188, 3) := by decide +kernel
theorem dX10_plays_31 : decode cX10_plays 31 = .ok (.ifCond .eq 10, 3) := by decide +kernel
theorem dX10_plays_34 : decode cX10_plays 34 = .ok (.aload_n 0, 1) := by decide +kernel
theorem dX10_plays_35 : decode cX10_plays 35 = .ok (.invokevirtual 211, 3) := by decide +kernel
theorem dX10_plays_38 : decode cX10_plays 38 = .ok (.goto 4, 3) := by decide +kernel
theorem dX10_plays_41 : decode cX10_plays 41 = .ok (.iconst 0, 1) := by decide +kernel
theorem dX10_plays_42 : decode cX10_plays 42 = .ok (.istore_n 3, 1) := by decide +kernel
theorem dX10_plays_43 : decode cX10_plays 43 = .ok (.aload_n 0, 1) := by decide +kernel
theorem dX10_plays_44 : decode cX10_plays 44 = .ok (.getfield 188, 3) := by decide +kernel
theorem dX10_plays_47 : decode cX10_plays 47 = .ok (.ifCond .eq 7, 3) := by decide +kernel
theorem dX10_plays_50 : decode cX10_plays 50 = .ok (.iload_n 3, 1) := by decide +kernel
theorem dX10_plays_51 : decode cX10_plays 51 = .ok (.ifCond .ge 50, 3) := by decide +kernel
theorem dX10_plays_54 : decode cX10_plays 54 = .ok (.aload_n 0, 1) := by decide +kernel
theorem dX10_plays_55 : decode cX10_plays 55 = .ok (.getfield 28, 3) := by decide +kernel
theorem dX10_plays_58 : decode cX10_plays 58 = .ok (.iconst 0, 1) := by decide +kernel
theorem dX10_plays_59 : decode cX10_plays 59 = .ok (.iload_n 2, 1) := by decide +kernel
theorem dX10_plays_60 : decode cX10_plays 60 = .ok (.iastore, 1) := by decide +kernel
theorem dX10_plays_61 : decode cX10_plays 61 = .ok (.aload_n 0, 1) := by decide +kernel
theorem dX10_plays_62 : decode cX10_plays 62 = .ok (.getfield 28, 3) := by decide +kernel
theorem dX10_plays_65 : decode cX10_plays 65 = .ok (.iconst 1, 1) := by decide +kernel
theorem dX10_plays_66 : decode cX10_plays 66 = .ok (.aload_n 0, 1) := by decide +kernel
theorem dX10_plays_67 : decode cX10_plays 67 = .ok (.getfield 188, 3) := by decide +kernel
theorem dX10_plays_70 : decode cX10_plays 70 = .ok (.ifCond .eq 7, 3) := by decide +kernel
theorem dX10_plays_73 : decode cX10_plays 73 = .ok (.iconst 2, 1) := by decide +kernel
theorem dX10_plays_74 : decode cX10_plays 74 = .ok (.goto 4, 3) := by decide +kernel
theorem dX10_plays_77 : decode cX10_plays 77 = .ok (.iconst 1, 1) := by decide +kernel
theorem dX10_plays_78 : decode cX10_plays 78 = .ok (.iastore, 1) := by decide +kernel
theorem dX10_plays_79 : decode cX10_plays 79 = .ok (.aload_n 0, 1) := by decide +kernel
theorem dX10_plays_80 : decode cX10_plays 80 = .ok (.getfield 28, 3) := by decide +kernel
theorem dX10_plays_83 : decode cX10_plays 83 = .ok (.iconst 2, 1) := by decide +kernel
theorem dX10_plays_84 : decode cX10_plays 84 = .ok (.aload_n 0, 1) := by decide +kernel
theorem dX10_plays_85 : decode cX10_plays 85 = .ok (.getfield 188, 3) := by decide +kernel
theorem dX10_plays_88 : decode cX10_plays 88 = .ok (.ifCond .eq 7, 3) := by decide +kernel
theorem dX10_plays_91 : decode cX10_plays 91 = .ok (.iload_n 3, 1) := by decide +kernel
theorem dX10_plays_92 : decode cX10_plays 92 = .ok (.goto 5, 3) := by decide +kernel
theorem dX10_plays_95 : decode cX10_plays 95 = .ok (.bipush (-4), 2) := by decide +kernel
theorem dX10_plays_97 : decode cX10_plays 97 = .ok (.iastore, 1) := by decide +kernel
theorem dX10_plays_98 : decode cX10_plays 98 = .ok (.bipush (-4), 2) := by decide +kernel
theorem dX10_plays_100 : decode cX10_plays 100 = .ok (.ireturn, 1) := by decide +kernel
theorem dX10_plays_101 : decode cX10_plays 101 = .ok (.iinc 1 1, 3) := by decide +kernel
theorem dX10_plays_104 : decode cX10_plays 104 = .ok (.goto (-97), 3) := by decide +kernel
theorem dX10_plays_107 : decode cX10_plays 107 = .ok (.iload_n 1, 1) := by decide +kernel
theorem dX10_plays_108 : decode cX10_plays 108 = .ok (.ireturn, 1) := by decide +kernel
theorem dX10_fault_0 : decode cX10_fault 0 = .ok (.iload_n 1, 1) := by decide +kernel
theorem dX10_fault_1 : decode cX10_fault 1 = .ok (.iconst 0, 1) := by decide +kernel
theorem dX10_fault_2 : decode cX10_fault 2 = .ok (.iconst 2, 1) := by decide +kernel
theorem dX10_fault_3 : decode cX10_fault 3 = .ok (.invokestatic 31, 3) := by decide +kernel
theorem dX10_fault_6 : decode cX10_fault 6 = .ok (.ifCond .ne 5, 3) := by decide +kernel
theorem dX10_fault_9 : decode cX10_fault 9 = .ok (.iconst (-1), 1) := by decide +kernel
theorem dX10_fault_10 : decode cX10_fault 10 = .ok (.ireturn, 1) := by decide +kernel
theorem dX10_fault_11 : decode cX10_fault 11 = .ok (.aload_n 0, 1) := by decide +kernel
theorem dX10_fault_12 : decode cX10_fault 12 = .ok (.invokevirtual 61, 3) := by decide +kernel
theorem dX10_fault_15 : decode cX10_fault 15 = .ok (.aload_n 0, 1) := by decide +kernel
theorem dX10_fault_16 : decode cX10_fault 16 = .ok (.invokevirtual 214, 3) := by decide +kernel
theorem dX10_fault_19 : decode cX10_fault 19 = .ok (.istore_n 2, 1) := by decide +kernel
theorem dX10_fault_20 : decode cX10_fault 20 = .ok (.aload_n 0, 1) := by decide +kernel
theorem dX10_fault_21 : decode cX10_fault 21 = .ok (.invokevirtual 46, 3) := by decide +kernel
theorem dX10_fault_24 : decode cX10_fault 24 = .ok (.iload_n 2, 1) := by decide +kernel
theorem dX10_fault_25 : decode cX10_fault 25 = .ok (.ifCond .ge 12, 3) := by decide +kernel
theorem dX10_fault_28 : decode cX10_fault 28 = .ok (.aload_n 0, 1) := by decide +kernel
theorem dX10_fault_29 : decode cX10_fault 29 = .ok (.getfield 28, 3) := by decide +kernel
theorem dX10_fault_32 : decode cX10_fault 32 = .ok (.iload_n 1, 1) := by decide +kernel
theorem dX10_fault_33 : decode cX10_fault 33 = .ok (.iaload, 1) := by decide +kernel
theorem dX10_fault_34 : decode cX10_fault 34 = .ok (.goto 5, 3) := by decide +kernel
theorem dX10_fault_37 : decode cX10_fault 37 = .ok (.bipush (-4), 2) := by decide +kernel
theorem dX10_fault_39 : decode cX10_fault 39 = .ok (.ireturn, 1) := by decide +kernel
theorem dX10_play_0 : decode cX10_play 0 = .ok (.aload_n 0, 1) := by decide +kernel
theorem dX10_play_1 : decode cX10_play 1 = .ok (.invokevirtual 61, 3) := by decide +kernel
theorem dX10_play_4 : decode cX10_play 4 = .ok (.aload_n 0, 1) := by decide +kernel
theorem dX10_play_5 : decode cX10_play 5 = .ok (.invokevirtual 214, 3) := by decide +kernel
theorem dX10_play_8 : decode cX10_play 8 = .ok (.istore_n 1, 1) := by decide +kernel
theorem dX10_play_9 : decode cX10_play 9 = .ok (.iload_n 1, 1) := by decide +kernel
theorem dX10_play_10 : decode cX10_play 10 = .ok (.ifCond .ge 10, 3) := by decide +kernel
theorem dX10_play_13 : decode cX10_play 13 = .ok (.aload_n 0, 1) := by decide +kernel
theorem dX10_play_14 : decode cX10_play 14 = .ok (.invokevirtual 46, 3) := by decide +kernel
theorem dX10_play_17 : decode cX10_play 17 = .ok (.bipush (-2), 2) := by decide +kernel
theorem dX10_play_19 : decode cX10_play 19 = .ok (.ireturn, 1) := by decide +kernel
theorem dX10_play_20 : decode cX10_play 20 = .ok (.aload_n 0, 1) := by decide +kernel
theorem dX10_play_21 : decode cX10_play 21 = .ok (.iload_n 1, 1) := by decide +kernel
theorem dX10_play_22 : decode cX10_play 22 = .ok (.invokevirtual 68, 3) := by decide +kernel
theorem dX10_play_25 : decode cX10_play 25 = .ok (.ireturn, 1) := by decide +kernel
end
section
theorem dL_law_0 : decode cL_law 0 = .ok (.new 7, 3) := by decide +kernel
theorem dL_law_3 : decode cL_law 3 = .ok (.dup, 1) := by decide +kernel
theorem dL_law_4 : decode cL_law 4 = .ok (.invokespecial 9, 3) := by decide +kernel
theorem dL_law_7 : decode cL_law 7 = .ok (.astore_n 1, 1) := by decide +kernel
theorem dL_law_8 : decode cL_law 8 = .ok (.new 10, 3) := by decide +kernel
theorem dL_law_11 : decode cL_law 11 = .ok (.dup, 1) := by decide +kernel
theorem dL_law_12 : decode cL_law 12 = .ok (.invokespecial 12, 3) := by decide +kernel
theorem dL_law_15 : decode cL_law 15 = .ok (.astore_n 2, 1) := by decide +kernel
theorem dL_law_16 : decode cL_law 16 = .ok (.iconst 0, 1) := by decide +kernel
theorem dL_law_17 : decode cL_law 17 = .ok (.istore_n 3, 1) := by decide +kernel
theorem dL_law_18 : decode cL_law 18 = .ok (.iload_n 3, 1) := by decide +kernel
theorem dL_law_19 : decode cL_law 19 = .ok (.aload_n 0, 1) := by decide +kernel
theorem dL_law_20 : decode cL_law 20 = .ok (.arraylength, 1) := by decide +kernel
theorem dL_law_21 : decode cL_law 21 = .ok (.iconst 5, 1) := by decide +kernel
theorem dL_law_22 : decode cL_law 22 = .ok (.isub, 1) := by decide +kernel
theorem dL_law_23 : decode cL_law 23 = .ok (.if_icmp .gt 994, 3) := by decide +kernel
theorem dL_law_26 : decode cL_law 26 = .ok (.aload_n 0, 1) := by decide +kernel
theorem dL_law_27 : decode cL_law 27 = .ok (.iload_n 3, 1) := by decide +kernel
theorem dL_law_28 : decode cL_law 28 = .ok (.iaload, 1) := by decide +kernel
theorem dL_law_29 : decode cL_law 29 = .ok (.bipush 31, 2) := by decide +kernel
theorem dL_law_31 : decode cL_law 31 = .ok (.iand, 1) := by decide +kernel
theorem dL_law_32 : decode cL_law 32 = .ok (.tableswitch 979 0 28 #[132, 165, 198, 221, 254, 277, 310, 343, 366, 399, 422, 455, 488, 521, 544, 597, 630, 663, 696, 719, 762, 805, 838, 861, 894, 907, 930, 943, 966], 132) := by decide +kernel
theorem dL_law_164 : decode cL_law 164 = .ok (.aload_n 1, 1) := by decide +kernel
theorem dL_law_165 : decode cL_law 165 = .ok (.aload_n 0, 1) := by decide +kernel
theorem dL_law_166 : decode cL_law 166 = .ok (.iload_n 3, 1) := by decide +kernel
theorem dL_law_167 : decode cL_law 167 = .ok (.iconst 1, 1) := by decide +kernel
theorem dL_law_168 : decode cL_law 168 = .ok (.iadd, 1) := by decide +kernel
theorem dL_law_169 : decode cL_law 169 = .ok (.iaload, 1) := by decide +kernel
theorem dL_law_170 : decode cL_law 170 = .ok (.aload_n 0, 1) := by decide +kernel
theorem dL_law_171 : decode cL_law 171 = .ok (.iload_n 3, 1) := by decide +kernel
theorem dL_law_172 : decode cL_law 172 = .ok (.iconst 2, 1) := by decide +kernel
theorem dL_law_173 : decode cL_law 173 = .ok (.iadd, 1) := by decide +kernel
theorem dL_law_174 : decode cL_law 174 = .ok (.iaload, 1) := by decide +kernel
theorem dL_law_175 : decode cL_law 175 = .ok (.invokevirtual 13, 3) := by decide +kernel
theorem dL_law_178 : decode cL_law 178 = .ok (.aload_n 2, 1) := by decide +kernel
theorem dL_law_179 : decode cL_law 179 = .ok (.aload_n 0, 1) := by decide +kernel
theorem dL_law_180 : decode cL_law 180 = .ok (.iload_n 3, 1) := by decide +kernel
theorem dL_law_181 : decode cL_law 181 = .ok (.iconst 1, 1) := by decide +kernel
theorem dL_law_182 : decode cL_law 182 = .ok (.iadd, 1) := by decide +kernel
theorem dL_law_183 : decode cL_law 183 = .ok (.iaload, 1) := by decide +kernel
theorem dL_law_184 : decode cL_law 184 = .ok (.aload_n 0, 1) := by decide +kernel
theorem dL_law_185 : decode cL_law 185 = .ok (.iload_n 3, 1) := by decide +kernel
theorem dL_law_186 : decode cL_law 186 = .ok (.iconst 2, 1) := by decide +kernel
theorem dL_law_187 : decode cL_law 187 = .ok (.iadd, 1) := by decide +kernel
theorem dL_law_188 : decode cL_law 188 = .ok (.iaload, 1) := by decide +kernel
theorem dL_law_189 : decode cL_law 189 = .ok (.invokevirtual 17, 3) := by decide +kernel
theorem dL_law_192 : decode cL_law 192 = .ok (.if_icmp .eq 819, 3) := by decide +kernel
theorem dL_law_195 : decode cL_law 195 = .ok (.iconst 0, 1) := by decide +kernel
theorem dL_law_196 : decode cL_law 196 = .ok (.ireturn, 1) := by decide +kernel
theorem dL_law_197 : decode cL_law 197 = .ok (.aload_n 1, 1) := by decide +kernel
theorem dL_law_198 : decode cL_law 198 = .ok (.aload_n 0, 1) := by decide +kernel
theorem dL_law_199 : decode cL_law 199 = .ok (.iload_n 3, 1) := by decide +kernel
theorem dL_law_200 : decode cL_law 200 = .ok (.iconst 1, 1) := by decide +kernel
theorem dL_law_201 : decode cL_law 201 = .ok (.iadd, 1) := by decide +kernel
theorem dL_law_202 : decode cL_law 202 = .ok (.iaload, 1) := by decide +kernel
theorem dL_law_203 : decode cL_law 203 = .ok (.aload_n 0, 1) := by decide +kernel
theorem dL_law_204 : decode cL_law 204 = .ok (.iload_n 3, 1) := by decide +kernel
theorem dL_law_205 : decode cL_law 205 = .ok (.iconst 2, 1) := by decide +kernel
theorem dL_law_206 : decode cL_law 206 = .ok (.iadd, 1) := by decide +kernel
theorem dL_law_207 : decode cL_law 207 = .ok (.iaload, 1) := by decide +kernel
theorem dL_law_208 : decode cL_law 208 = .ok (.invokevirtual 18, 3) := by decide +kernel
theorem dL_law_211 : decode cL_law 211 = .ok (.aload_n 2, 1) := by decide +kernel
theorem dL_law_212 : decode cL_law 212 = .ok (.aload_n 0, 1) := by decide +kernel
theorem dL_law_213 : decode cL_law 213 = .ok (.iload_n 3, 1) := by decide +kernel
theorem dL_law_214 : decode cL_law 214 = .ok (.iconst 1, 1) := by decide +kernel
theorem dL_law_215 : decode cL_law 215 = .ok (.iadd, 1) := by decide +kernel
theorem dL_law_216 : decode cL_law 216 = .ok (.iaload, 1) := by decide +kernel
theorem dL_law_217 : decode cL_law 217 = .ok (.aload_n 0, 1) := by decide +kernel
theorem dL_law_218 : decode cL_law 218 = .ok (.iload_n 3, 1) := by decide +kernel
theorem dL_law_219 : decode cL_law 219 = .ok (.iconst 2, 1) := by decide +kernel
theorem dL_law_220 : decode cL_law 220 = .ok (.iadd, 1) := by decide +kernel
theorem dL_law_221 : decode cL_law 221 = .ok (.iaload, 1) := by decide +kernel
theorem dL_law_222 : decode cL_law 222 = .ok (.invokevirtual 21, 3) := by decide +kernel
theorem dL_law_225 : decode cL_law 225 = .ok (.if_icmp .eq 786, 3) := by decide +kernel
theorem dL_law_228 : decode cL_law 228 = .ok (.iconst 0, 1) := by decide +kernel
theorem dL_law_229 : decode cL_law 229 = .ok (.ireturn, 1) := by decide +kernel
theorem dL_law_230 : decode cL_law 230 = .ok (.aload_n 1, 1) := by decide +kernel
theorem dL_law_231 : decode cL_law 231 = .ok (.aload_n 0, 1) := by decide +kernel
theorem dL_law_232 : decode cL_law 232 = .ok (.iload_n 3, 1) := by decide +kernel
theorem dL_law_233 : decode cL_law 233 = .ok (.iconst 1, 1) := by decide +kernel
theorem dL_law_234 : decode cL_law 234 = .ok (.iadd, 1) := by decide +kernel
theorem dL_law_235 : decode cL_law 235 = .ok (.iaload, 1) := by decide +kernel
theorem dL_law_236 : decode cL_law 236 = .ok (.invokevirtual 22, 3) := by decide +kernel
theorem dL_law_239 : decode cL_law 239 = .ok (.aload_n 2, 1) := by decide +kernel
theorem dL_law_240 : decode cL_law 240 = .ok (.aload_n 0, 1) := by decide +kernel
theorem dL_law_241 : decode cL_law 241 = .ok (.iload_n 3, 1) := by decide +kernel
theorem dL_law_242 : decode cL_law 242 = .ok (.iconst 1, 1) := by decide +kernel
theorem dL_law_243 : decode cL_law 243 = .ok (.iadd, 1) := by decide +kernel
theorem dL_law_244 : decode cL_law 244 = .ok (.iaload, 1) := by decide +kernel
theorem dL_law_245 : decode cL_law 245 = .ok (.invokevirtual 26, 3) := by decide +kernel
theorem dL_law_248 : decode cL_law 248 = .ok (.if_icmp .eq 763, 3) := by decide +kernel
theorem dL_law_251 : decode cL_law 251 = .ok (.iconst 0, 1) := by decide +kernel
theorem dL_law_252 : decode cL_law 252 = .ok (.ireturn, 1) := by decide +kernel
theorem dL_law_253 : decode cL_law 253 = .ok (.aload_n 1, 1) := by decide +kernel
theorem dL_law_254 : decode cL_law 254 = .ok (.aload_n 0, 1) := by decide +kernel
theorem dL_law_255 : decode cL_law 255 = .ok (.iload_n 3, 1) := by decide +kernel
theorem dL_law_256 : decode cL_law 256 = .ok (.iconst 1, 1) := by decide +kernel
theorem dL_law_257 : decode cL_law 257 = .ok (.iadd, 1) := by decide +kernel
theorem dL_law_258 : decode cL_law 258 = .ok (.iaload, 1) := by decide +kernel
theorem dL_law_259 : decode cL_law 259 = .ok (.aload_n 0, 1) := by decide +kernel
theorem dL_law_260 : decode cL_law 260 = .ok (.iload_n 3, 1) := by decide +kernel
theorem dL_law_261 : decode cL_law 261 = .ok (.iconst 2, 1) := by decide +kernel
theorem dL_law_262 : decode cL_law 262 = .ok (.iadd, 1) := by decide +kernel
theorem dL_law_263 : decode cL_law 263 = .ok (.iaload, 1) := by decide +kernel
theorem dL_law_264 : decode cL_law 264 = .ok (.invokevirtual 27, 3) := by decide +kernel
theorem dL_law_267 : decode cL_law 267 = .ok (.aload_n 2, 1) := by decide +kernel
theorem dL_law_268 : decode cL_law 268 = .ok (.aload_n 0, 1) := by decide +kernel
theorem dL_law_269 : decode cL_law 269 = .ok (.iload_n 3, 1) := by decide +kernel
theorem dL_law_270 : decode cL_law 270 = .ok (.iconst 1, 1) := by decide +kernel
theorem dL_law_271 : decode cL_law 271 = .ok (.iadd, 1) := by decide +kernel
theorem dL_law_272 : decode cL_law 272 = .ok (.iaload, 1) := by decide +kernel
theorem dL_law_273 : decode cL_law 273 = .ok (.aload_n 0, 1) := by decide +kernel
theorem dL_law_274 : decode cL_law 274 = .ok (.iload_n 3, 1) := by decide +kernel
theorem dL_law_275 : decode cL_law 275 = .ok (.iconst 2, 1) := by decide +kernel
theorem dL_law_276 : decode cL_law 276 = .ok (.iadd, 1) := by decide +kernel
theorem dL_law_277 : decode cL_law 277 = .ok (.iaload, 1) := by decide +kernel
theorem dL_law_278 : decode cL_law 278 = .ok (.invokevirtual 30, 3) := by decide +kernel
theorem dL_law_281 : decode cL_law 281 = .ok (.if_icmp .eq 730, 3) := by decide +kernel
theorem dL_law_284 : decode cL_law 284 = .ok (.iconst 0, 1) := by decide +kernel
theorem dL_law_285 : decode cL_law 285 = .ok (.ireturn, 1) := by decide +kernel
theorem dL_law_286 : decode cL_law 286 = .ok (.aload_n 1, 1) := by decide +kernel
theorem dL_law_287 : decode cL_law 287 = .ok (.aload_n 0, 1) := by decide +kernel
theorem dL_law_288 : decode cL_law 288 = .ok (.iload_n 3, 1) := by decide +kernel
theorem dL_law_289 : decode cL_law 289 = .ok (.iconst 1, 1) := by decide +kernel
theorem dL_law_290 : decode cL_law 290 = .ok (.iadd, 1) := by decide +kernel
theorem dL_law_291 : decode cL_law 291 = .ok (.iaload, 1) := by decide +kernel
theorem dL_law_292 : decode cL_law 292 = .ok (.invokevirtual 31, 3) := by decide +kernel
theorem dL_law_295 : decode cL_law 295 = .ok (.aload_n 2, 1) := by decide +kernel
theorem dL_law_296 : decode cL_law 296 = .ok (.aload_n 0, 1) := by decide +kernel
theorem dL_law_297 : decode cL_law 297 = .ok (.iload_n 3, 1) := by decide +kernel
theorem dL_law_298 : decode cL_law 298 = .ok (.iconst 1, 1) := by decide +kernel
theorem dL_law_299 : decode cL_law 299 = .ok (.iadd, 1) := by decide +kernel
theorem dL_law_300 : decode cL_law 300 = .ok (.iaload, 1) := by decide +kernel
theorem dL_law_301 : decode cL_law 301 = .ok (.invokevirtual 34, 3) := by decide +kernel
theorem dL_law_304 : decode cL_law 304 = .ok (.if_icmp .eq 707, 3) := by decide +kernel
theorem dL_law_307 : decode cL_law 307 = .ok (.iconst 0, 1) := by decide +kernel
theorem dL_law_308 : decode cL_law 308 = .ok (.ireturn, 1) := by decide +kernel
theorem dL_law_309 : decode cL_law 309 = .ok (.aload_n 1, 1) := by decide +kernel
theorem dL_law_310 : decode cL_law 310 = .ok (.aload_n 0, 1) := by decide +kernel
theorem dL_law_311 : decode cL_law 311 = .ok (.iload_n 3, 1) := by decide +kernel
theorem dL_law_312 : decode cL_law 312 = .ok (.iconst 1, 1) := by decide +kernel
theorem dL_law_313 : decode cL_law 313 = .ok (.iadd, 1) := by decide +kernel
theorem dL_law_314 : decode cL_law 314 = .ok (.iaload, 1) := by decide +kernel
theorem dL_law_315 : decode cL_law 315 = .ok (.aload_n 0, 1) := by decide +kernel
theorem dL_law_316 : decode cL_law 316 = .ok (.iload_n 3, 1) := by decide +kernel
theorem dL_law_317 : decode cL_law 317 = .ok (.iconst 2, 1) := by decide +kernel
theorem dL_law_318 : decode cL_law 318 = .ok (.iadd, 1) := by decide +kernel
theorem dL_law_319 : decode cL_law 319 = .ok (.iaload, 1) := by decide +kernel
theorem dL_law_320 : decode cL_law 320 = .ok (.invokevirtual 35, 3) := by decide +kernel
theorem dL_law_323 : decode cL_law 323 = .ok (.aload_n 2, 1) := by decide +kernel
theorem dL_law_324 : decode cL_law 324 = .ok (.aload_n 0, 1) := by decide +kernel
theorem dL_law_325 : decode cL_law 325 = .ok (.iload_n 3, 1) := by decide +kernel
theorem dL_law_326 : decode cL_law 326 = .ok (.iconst 1, 1) := by decide +kernel
theorem dL_law_327 : decode cL_law 327 = .ok (.iadd, 1) := by decide +kernel
theorem dL_law_328 : decode cL_law 328 = .ok (.iaload, 1) := by decide +kernel
theorem dL_law_329 : decode cL_law 329 = .ok (.aload_n 0, 1) := by decide +kernel
theorem dL_law_330 : decode cL_law 330 = .ok (.iload_n 3, 1) := by decide +kernel
theorem dL_law_331 : decode cL_law 331 = .ok (.iconst 2, 1) := by decide +kernel
theorem dL_law_332 : decode cL_law 332 = .ok (.iadd, 1) := by decide +kernel
theorem dL_law_333 : decode cL_law 333 = .ok (.iaload, 1) := by decide +kernel
theorem dL_law_334 : decode cL_law 334 = .ok (.invokevirtual 38, 3) := by decide +kernel
theorem dL_law_337 : decode cL_law 337 = .ok (.if_icmp .eq 674, 3) := by decide +kernel
theorem dL_law_340 : decode cL_law 340 = .ok (.iconst 0, 1) := by decide +kernel
theorem dL_law_341 : decode cL_law 341 = .ok (.ireturn, 1) := by decide +kernel
theorem dL_law_342 : decode cL_law 342 = .ok (.aload_n 1, 1) := by decide +kernel
theorem dL_law_343 : decode cL_law 343 = .ok (.aload_n 0, 1) := by decide +kernel
theorem dL_law_344 : decode cL_law 344 = .ok (.iload_n 3, 1) := by decide +kernel
theorem dL_law_345 : decode cL_law 345 = .ok (.iconst 1, 1) := by decide +kernel
theorem dL_law_346 : decode cL_law 346 = .ok (.iadd, 1) := by decide +kernel
theorem dL_law_347 : decode cL_law 347 = .ok (.iaload, 1) := by decide +kernel
theorem dL_law_348 : decode cL_law 348 = .ok (.aload_n 0, 1) := by decide +kernel
theorem dL_law_349 : decode cL_law 349 = .ok (.iload_n 3, 1) := by decide +kernel
theorem dL_law_350 : decode cL_law 350 = .ok (.iconst 2, 1) := by decide +kernel
theorem dL_law_351 : decode cL_law 351 = .ok (.iadd, 1) := by decide +kernel
theorem dL_law_352 : decode cL_law 352 = .ok (.iaload, 1) := by decide +kernel
theorem dL_law_353 : decode cL_law 353 = .ok (.invokevirtual 39, 3) := by decide +kernel
theorem dL_law_356 : decode cL_law 356 = .ok (.aload_n 2, 1) := by decide +kernel
theorem dL_law_357 : decode cL_law 357 = .ok (.aload_n 0, 1) := by decide +kernel
theorem dL_law_358 : decode cL_law 358 = .ok (.iload_n 3, 1) := by decide +kernel
theorem dL_law_359 : decode cL_law 359 = .ok (.iconst 1, 1) := by decide +kernel
theorem dL_law_360 : decode cL_law 360 = .ok (.iadd, 1) := by decide +kernel
theorem dL_law_361 : decode cL_law 361 = .ok (.iaload, 1) := by decide +kernel
theorem dL_law_362 : decode cL_law 362 = .ok (.aload_n 0, 1) := by decide +kernel
theorem dL_law_363 : decode cL_law 363 = .ok (.iload_n 3, 1) := by decide +kernel
theorem dL_law_364 : decode cL_law 364 = .ok (.iconst 2, 1) := by decide +kernel
theorem dL_law_365 : decode cL_law 365 = .ok (.iadd, 1) := by decide +kernel
theorem dL_law_366 : decode cL_law 366 = .ok (.iaload, 1) := by decide +kernel
theorem dL_law_367 : decode cL_law 367 = .ok (.invokevirtual 42, 3) := by decide +kernel
theorem dL_law_370 : decode cL_law 370 = .ok (.if_icmp .eq 641, 3) := by decide +kernel
theorem dL_law_373 : decode cL_law 373 = .ok (.iconst 0, 1) := by decide +kernel
theorem dL_law_374 : decode cL_law 374 = .ok (.ireturn, 1) := by decide +kernel
theorem dL_law_375 : decode cL_law 375 = .ok (.aload_n 1, 1) := by decide +kernel
theorem dL_law_376 : decode cL_law 376 = .ok (.aload_n 0, 1) := by decide +kernel
theorem dL_law_377 : decode cL_law 377 = .ok (.iload_n 3, 1) := by decide +kernel
theorem dL_law_378 : decode cL_law 378 = .ok (.iconst 1, 1) := by decide +kernel
theorem dL_law_379 : decode cL_law 379 = .ok (.iadd, 1) := by decide +kernel
theorem dL_law_380 : decode cL_law 380 = .ok (.iaload, 1) := by decide +kernel
theorem dL_law_381 : decode cL_law 381 = .ok (.invokevirtual 43, 3) := by decide +kernel
theorem dL_law_384 : decode cL_law 384 = .ok (.aload_n 2, 1) := by decide +kernel
theorem dL_law_385 : decode cL_law 385 = .ok (.aload_n 0, 1) := by decide +kernel
theorem dL_law_386 : decode cL_law 386 = .ok (.iload_n 3, 1) := by decide +kernel
theorem dL_law_387 : decode cL_law 387 = .ok (.iconst 1, 1) := by decide +kernel
theorem dL_law_388 : decode cL_law 388 = .ok (.iadd, 1) := by decide +kernel
theorem dL_law_389 : decode cL_law 389 = .ok (.iaload, 1) := by decide +kernel
theorem dL_law_390 : decode cL_law 390 = .ok (.invokevirtual 46, 3) := by decide +kernel
theorem dL_law_393 : decode cL_law 393 = .ok (.if_icmp .eq 618, 3) := by decide +kernel
theorem dL_law_396 : decode cL_law 396 = .ok (.iconst 0, 1) := by decide +kernel
theorem dL_law_397 : decode cL_law 397 = .ok (.ireturn, 1) := by decide +kernel
theorem dL_law_398 : decode cL_law 398 = .ok (.aload_n 1, 1) := by decide +kernel
theorem dL_law_399 : decode cL_law 399 = .ok (.aload_n 0, 1) := by decide +kernel
theorem dL_law_400 : decode cL_law 400 = .ok (.iload_n 3, 1) := by decide +kernel
theorem dL_law_401 : decode cL_law 401 = .ok (.iconst 1, 1) := by decide +kernel
theorem dL_law_402 : decode cL_law 402 = .ok (.iadd, 1) := by decide +kernel
theorem dL_law_403 : decode cL_law 403 = .ok (.iaload, 1) := by decide +kernel
theorem dL_law_404 : decode cL_law 404 = .ok (.aload_n 0, 1) := by decide +kernel
theorem dL_law_405 : decode cL_law 405 = .ok (.iload_n 3, 1) := by decide +kernel
theorem dL_law_406 : decode cL_law 406 = .ok (.iconst 2, 1) := by decide +kernel
theorem dL_law_407 : decode cL_law 407 = .ok (.iadd, 1) := by decide +kernel
theorem dL_law_408 : decode cL_law 408 = .ok (.iaload, 1) := by decide +kernel
theorem dL_law_409 : decode cL_law 409 = .ok (.invokevirtual 47, 3) := by decide +kernel
theorem dL_law_412 : decode cL_law 412 = .ok (.aload_n 2, 1) := by decide +kernel
theorem dL_law_413 : decode cL_law 413 = .ok (.aload_n 0, 1) := by decide +kernel
theorem dL_law_414 : decode cL_law 414 = .ok (.iload_n 3, 1) := by decide +kernel
theorem dL_law_415 : decode cL_law 415 = .ok (.iconst 1, 1) := by decide +kernel
theorem dL_law_416 : decode cL_law 416 = .ok (.iadd, 1) := by decide +kernel
theorem dL_law_417 : decode cL_law 417 = .ok (.iaload, 1) := by decide +kernel
theorem dL_law_418 : decode cL_law 418 = .ok (.aload_n 0, 1) := by decide +kernel
theorem dL_law_419 : decode cL_law 419 = .ok (.iload_n 3, 1) := by decide +kernel
theorem dL_law_420 : decode cL_law 420 = .ok (.iconst 2, 1) := by decide +kernel
theorem dL_law_421 : decode cL_law 421 = .ok (.iadd, 1) := by decide +kernel
theorem dL_law_422 : decode cL_law 422 = .ok (.iaload, 1) := by decide +kernel
theorem dL_law_423 : decode cL_law 423 = .ok (.invokevirtual 50, 3) := by decide +kernel
theorem dL_law_426 : decode cL_law 426 = .ok (.if_icmp .eq 585, 3) := by decide +kernel
theorem dL_law_429 : decode cL_law 429 = .ok (.iconst 0, 1) := by decide +kernel
theorem dL_law_430 : decode cL_law 430 = .ok (.ireturn, 1) := by decide +kernel
theorem dL_law_431 : decode cL_law 431 = .ok (.aload_n 1, 1) := by decide +kernel
theorem dL_law_432 : decode cL_law 432 = .ok (.aload_n 0, 1) := by decide +kernel
theorem dL_law_433 : decode cL_law 433 = .ok (.iload_n 3, 1) := by decide +kernel
theorem dL_law_434 : decode cL_law 434 = .ok (.iconst 1, 1) := by decide +kernel
theorem dL_law_435 : decode cL_law 435 = .ok (.iadd, 1) := by decide +kernel
theorem dL_law_436 : decode cL_law 436 = .ok (.iaload, 1) := by decide +kernel
theorem dL_law_437 : decode cL_law 437 = .ok (.invokevirtual 51, 3) := by decide +kernel
theorem dL_law_440 : decode cL_law 440 = .ok (.aload_n 2, 1) := by decide +kernel
theorem dL_law_441 : decode cL_law 441 = .ok (.aload_n 0, 1) := by decide +kernel
theorem dL_law_442 : decode cL_law 442 = .ok (.iload_n 3, 1) := by decide +kernel
theorem dL_law_443 : decode cL_law 443 = .ok (.iconst 1, 1) := by decide +kernel
theorem dL_law_444 : decode cL_law 444 = .ok (.iadd, 1) := by decide +kernel
theorem dL_law_445 : decode cL_law 445 = .ok (.iaload, 1) := by decide +kernel
theorem dL_law_446 : decode cL_law 446 = .ok (.invokevirtual 54, 3) := by decide +kernel
theorem dL_law_449 : decode cL_law 449 = .ok (.if_icmp .eq 562, 3) := by decide +kernel
theorem dL_law_452 : decode cL_law 452 = .ok (.iconst 0, 1) := by decide +kernel
theorem dL_law_453 : decode cL_law 453 = .ok (.ireturn, 1) := by decide +kernel
theorem dL_law_454 : decode cL_law 454 = .ok (.aload_n 1, 1) := by decide +kernel
theorem dL_law_455 : decode cL_law 455 = .ok (.aload_n 0, 1) := by decide +kernel
theorem dL_law_456 : decode cL_law 456 = .ok (.iload_n 3, 1) := by decide +kernel
theorem dL_law_457 : decode cL_law 457 = .ok (.iconst 1, 1) := by decide +kernel
theorem dL_law_458 : decode cL_law 458 = .ok (.iadd, 1) := by decide +kernel
theorem dL_law_459 : decode cL_law 459 = .ok (.iaload, 1) := by decide +kernel
theorem dL_law_460 : decode cL_law 460 = .ok (.aload_n 0, 1) := by decide +kernel
theorem dL_law_461 : decode cL_law 461 = .ok (.iload_n 3, 1) := by decide +kernel
theorem dL_law_462 : decode cL_law 462 = .ok (.iconst 2, 1) := by decide +kernel
theorem dL_law_463 : decode cL_law 463 = .ok (.iadd, 1) := by decide +kernel
theorem dL_law_464 : decode cL_law 464 = .ok (.iaload, 1) := by decide +kernel
theorem dL_law_465 : decode cL_law 465 = .ok (.invokevirtual 55, 3) := by decide +kernel
theorem dL_law_468 : decode cL_law 468 = .ok (.aload_n 2, 1) := by decide +kernel
theorem dL_law_469 : decode cL_law 469 = .ok (.aload_n 0, 1) := by decide +kernel
theorem dL_law_470 : decode cL_law 470 = .ok (.iload_n 3, 1) := by decide +kernel
theorem dL_law_471 : decode cL_law 471 = .ok (.iconst 1, 1) := by decide +kernel
theorem dL_law_472 : decode cL_law 472 = .ok (.iadd, 1) := by decide +kernel
theorem dL_law_473 : decode cL_law 473 = .ok (.iaload, 1) := by decide +kernel
theorem dL_law_474 : decode cL_law 474 = .ok (.aload_n 0, 1) := by decide +kernel
theorem dL_law_475 : decode cL_law 475 = .ok (.iload_n 3, 1) := by decide +kernel
theorem dL_law_476 : decode cL_law 476 = .ok (.iconst 2, 1) := by decide +kernel
theorem dL_law_477 : decode cL_law 477 = .ok (.iadd, 1) := by decide +kernel
theorem dL_law_478 : decode cL_law 478 = .ok (.iaload, 1) := by decide +kernel
theorem dL_law_479 : decode cL_law 479 = .ok (.invokevirtual 58, 3) := by decide +kernel
theorem dL_law_482 : decode cL_law 482 = .ok (.if_icmp .eq 529, 3) := by decide +kernel
theorem dL_law_485 : decode cL_law 485 = .ok (.iconst 0, 1) := by decide +kernel
theorem dL_law_486 : decode cL_law 486 = .ok (.ireturn, 1) := by decide +kernel
theorem dL_law_487 : decode cL_law 487 = .ok (.aload_n 1, 1) := by decide +kernel
theorem dL_law_488 : decode cL_law 488 = .ok (.aload_n 0, 1) := by decide +kernel
theorem dL_law_489 : decode cL_law 489 = .ok (.iload_n 3, 1) := by decide +kernel
theorem dL_law_490 : decode cL_law 490 = .ok (.iconst 1, 1) := by decide +kernel
theorem dL_law_491 : decode cL_law 491 = .ok (.iadd, 1) := by decide +kernel
theorem dL_law_492 : decode cL_law 492 = .ok (.iaload, 1) := by decide +kernel
theorem dL_law_493 : decode cL_law 493 = .ok (.aload_n 0, 1) := by decide +kernel
theorem dL_law_494 : decode cL_law 494 = .ok (.iload_n 3, 1) := by decide +kernel
theorem dL_law_495 : decode cL_law 495 = .ok (.iconst 2, 1) := by decide +kernel
theorem dL_law_496 : decode cL_law 496 = .ok (.iadd, 1) := by decide +kernel
theorem dL_law_497 : decode cL_law 497 = .ok (.iaload, 1) := by decide +kernel
theorem dL_law_498 : decode cL_law 498 = .ok (.invokevirtual 59, 3) := by decide +kernel
theorem dL_law_501 : decode cL_law 501 = .ok (.aload_n 2, 1) := by decide +kernel
theorem dL_law_502 : decode cL_law 502 = .ok (.aload_n 0, 1) := by decide +kernel
theorem dL_law_503 : decode cL_law 503 = .ok (.iload_n 3, 1) := by decide +kernel
theorem dL_law_504 : decode cL_law 504 = .ok (.iconst 1, 1) := by decide +kernel
theorem dL_law_505 : decode cL_law 505 = .ok (.iadd, 1) := by decide +kernel
theorem dL_law_506 : decode cL_law 506 = .ok (.iaload, 1) := by decide +kernel
theorem dL_law_507 : decode cL_law 507 = .ok (.aload_n 0, 1) := by decide +kernel
theorem dL_law_508 : decode cL_law 508 = .ok (.iload_n 3, 1) := by decide +kernel
theorem dL_law_509 : decode cL_law 509 = .ok (.iconst 2, 1) := by decide +kernel
theorem dL_law_510 : decode cL_law 510 = .ok (.iadd, 1) := by decide +kernel
theorem dL_law_511 : decode cL_law 511 = .ok (.iaload, 1) := by decide +kernel
theorem dL_law_512 : decode cL_law 512 = .ok (.invokevirtual 62, 3) := by decide +kernel
theorem dL_law_515 : decode cL_law 515 = .ok (.if_icmp .eq 496, 3) := by decide +kernel
theorem dL_law_518 : decode cL_law 518 = .ok (.iconst 0, 1) := by decide +kernel
theorem dL_law_519 : decode cL_law 519 = .ok (.ireturn, 1) := by decide +kernel
theorem dL_law_520 : decode cL_law 520 = .ok (.aload_n 1, 1) := by decide +kernel
theorem dL_law_521 : decode cL_law 521 = .ok (.aload_n 0, 1) := by decide +kernel
theorem dL_law_522 : decode cL_law 522 = .ok (.iload_n 3, 1) := by decide +kernel
theorem dL_law_523 : decode cL_law 523 = .ok (.iconst 1, 1) := by decide +kernel
theorem dL_law_524 : decode cL_law 524 = .ok (.iadd, 1) := by decide +kernel
theorem dL_law_525 : decode cL_law 525 = .ok (.iaload, 1) := by decide +kernel
theorem dL_law_526 : decode cL_law 526 = .ok (.aload_n 0, 1) := by decide +kernel
theorem dL_law_527 : decode cL_law 527 = .ok (.iload_n 3, 1) := by decide +kernel
theorem dL_law_528 : decode cL_law 528 = .ok (.iconst 2, 1) := by decide +kernel
theorem dL_law_529 : decode cL_law 529 = .ok (.iadd, 1) := by decide +kernel
theorem dL_law_530 : decode cL_law 530 = .ok (.iaload, 1) := by decide +kernel
theorem dL_law_531 : decode cL_law 531 = .ok (.invokevirtual 63, 3) := by decide +kernel
theorem dL_law_534 : decode cL_law 534 = .ok (.aload_n 2, 1) := by decide +kernel
theorem dL_law_535 : decode cL_law 535 = .ok (.aload_n 0, 1) := by decide +kernel
theorem dL_law_536 : decode cL_law 536 = .ok (.iload_n 3, 1) := by decide +kernel
theorem dL_law_537 : decode cL_law 537 = .ok (.iconst 1, 1) := by decide +kernel
theorem dL_law_538 : decode cL_law 538 = .ok (.iadd, 1) := by decide +kernel
theorem dL_law_539 : decode cL_law 539 = .ok (.iaload, 1) := by decide +kernel
theorem dL_law_540 : decode cL_law 540 = .ok (.aload_n 0, 1) := by decide +kernel
theorem dL_law_541 : decode cL_law 541 = .ok (.iload_n 3, 1) := by decide +kernel
theorem dL_law_542 : decode cL_law 542 = .ok (.iconst 2, 1) := by decide +kernel
theorem dL_law_543 : decode cL_law 543 = .ok (.iadd, 1) := by decide +kernel
theorem dL_law_544 : decode cL_law 544 = .ok (.iaload, 1) := by decide +kernel
theorem dL_law_545 : decode cL_law 545 = .ok (.invokevirtual 66, 3) := by decide +kernel
theorem dL_law_548 : decode cL_law 548 = .ok (.if_icmp .eq 463, 3) := by decide +kernel
theorem dL_law_551 : decode cL_law 551 = .ok (.iconst 0, 1) := by decide +kernel
theorem dL_law_552 : decode cL_law 552 = .ok (.ireturn, 1) := by decide +kernel
theorem dL_law_553 : decode cL_law 553 = .ok (.aload_n 1, 1) := by decide +kernel
theorem dL_law_554 : decode cL_law 554 = .ok (.aload_n 0, 1) := by decide +kernel
theorem dL_law_555 : decode cL_law 555 = .ok (.iload_n 3, 1) := by decide +kernel
theorem dL_law_556 : decode cL_law 556 = .ok (.iconst 1, 1) := by decide +kernel
theorem dL_law_557 : decode cL_law 557 = .ok (.iadd, 1) := by decide +kernel
theorem dL_law_558 : decode cL_law 558 = .ok (.iaload, 1) := by decide +kernel
theorem dL_law_559 : decode cL_law 559 = .ok (.invokevirtual 67, 3) := by decide +kernel
theorem dL_law_562 : decode cL_law 562 = .ok (.aload_n 2, 1) := by decide +kernel
theorem dL_law_563 : decode cL_law 563 = .ok (.aload_n 0, 1) := by decide +kernel
theorem dL_law_564 : decode cL_law 564 = .ok (.iload_n 3, 1) := by decide +kernel
theorem dL_law_565 : decode cL_law 565 = .ok (.iconst 1, 1) := by decide +kernel
theorem dL_law_566 : decode cL_law 566 = .ok (.iadd, 1) := by decide +kernel
theorem dL_law_567 : decode cL_law 567 = .ok (.iaload, 1) := by decide +kernel
theorem dL_law_568 : decode cL_law 568 = .ok (.invokevirtual 70, 3) := by decide +kernel
theorem dL_law_571 : decode cL_law 571 = .ok (.if_icmp .eq 440, 3) := by decide +kernel
theorem dL_law_574 : decode cL_law 574 = .ok (.iconst 0, 1) := by decide +kernel
theorem dL_law_575 : decode cL_law 575 = .ok (.ireturn, 1) := by decide +kernel
theorem dL_law_576 : decode cL_law 576 = .ok (.aload_n 1, 1) := by decide +kernel
theorem dL_law_577 : decode cL_law 577 = .ok (.aload_n 0, 1) := by decide +kernel
theorem dL_law_578 : decode cL_law 578 = .ok (.iload_n 3, 1) := by decide +kernel
theorem dL_law_579 : decode cL_law 579 = .ok (.iconst 1, 1) := by decide +kernel
theorem dL_law_580 : decode cL_law 580 = .ok (.iadd, 1) := by decide +kernel
theorem dL_law_581 : decode cL_law 581 = .ok (.iaload, 1) := by decide +kernel
theorem dL_law_582 : decode cL_law 582 = .ok (.aload_n 0, 1) := by decide +kernel
theorem dL_law_583 : decode cL_law 583 = .ok (.iload_n 3, 1) := by decide +kernel
theorem dL_law_584 : decode cL_law 584 = .ok (.iconst 2, 1) := by decide +kernel
theorem dL_law_585 : decode cL_law 585 = .ok (.iadd, 1) := by decide +kernel
theorem dL_law_586 : decode cL_law 586 = .ok (.iaload, 1) := by decide +kernel
theorem dL_law_587 : decode cL_law 587 = .ok (.aload_n 0, 1) := by decide +kernel
theorem dL_law_588 : decode cL_law 588 = .ok (.iload_n 3, 1) := by decide +kernel
theorem dL_law_589 : decode cL_law 589 = .ok (.iconst 3, 1) := by decide +kernel
theorem dL_law_590 : decode cL_law 590 = .ok (.iadd, 1) := by decide +kernel
theorem dL_law_591 : decode cL_law 591 = .ok (.iaload, 1) := by decide +kernel
theorem dL_law_592 : decode cL_law 592 = .ok (.aload_n 0, 1) := by decide +kernel
theorem dL_law_593 : decode cL_law 593 = .ok (.iload_n 3, 1) := by decide +kernel
theorem dL_law_594 : decode cL_law 594 = .ok (.iconst 4, 1) := by decide +kernel
theorem dL_law_595 : decode cL_law 595 = .ok (.iadd, 1) := by decide +kernel
theorem dL_law_596 : decode cL_law 596 = .ok (.iaload, 1) := by decide +kernel
theorem dL_law_597 : decode cL_law 597 = .ok (.invokevirtual 71, 3) := by decide +kernel
theorem dL_law_600 : decode cL_law 600 = .ok (.aload_n 2, 1) := by decide +kernel
theorem dL_law_601 : decode cL_law 601 = .ok (.aload_n 0, 1) := by decide +kernel
theorem dL_law_602 : decode cL_law 602 = .ok (.iload_n 3, 1) := by decide +kernel
theorem dL_law_603 : decode cL_law 603 = .ok (.iconst 1, 1) := by decide +kernel
theorem dL_law_604 : decode cL_law 604 = .ok (.iadd, 1) := by decide +kernel
theorem dL_law_605 : decode cL_law 605 = .ok (.iaload, 1) := by decide +kernel
theorem dL_law_606 : decode cL_law 606 = .ok (.aload_n 0, 1) := by decide +kernel
theorem dL_law_607 : decode cL_law 607 = .ok (.iload_n 3, 1) := by decide +kernel
theorem dL_law_608 : decode cL_law 608 = .ok (.iconst 2, 1) := by decide +kernel
theorem dL_law_609 : decode cL_law 609 = .ok (.iadd, 1) := by decide +kernel
theorem dL_law_610 : decode cL_law 610 = .ok (.iaload, 1) := by decide +kernel
theorem dL_law_611 : decode cL_law 611 = .ok (.aload_n 0, 1) := by decide +kernel
theorem dL_law_612 : decode cL_law 612 = .ok (.iload_n 3, 1) := by decide +kernel
theorem dL_law_613 : decode cL_law 613 = .ok (.iconst 3, 1) := by decide +kernel
theorem dL_law_614 : decode cL_law 614 = .ok (.iadd, 1) := by decide +kernel
theorem dL_law_615 : decode cL_law 615 = .ok (.iaload, 1) := by decide +kernel
theorem dL_law_616 : decode cL_law 616 = .ok (.aload_n 0, 1) := by decide +kernel
theorem dL_law_617 : decode cL_law 617 = .ok (.iload_n 3, 1) := by decide +kernel
theorem dL_law_618 : decode cL_law 618 = .ok (.iconst 4, 1) := by decide +kernel
theorem dL_law_619 : decode cL_law 619 = .ok (.iadd, 1) := by decide +kernel
theorem dL_law_620 : decode cL_law 620 = .ok (.iaload, 1) := by decide +kernel
theorem dL_law_621 : decode cL_law 621 = .ok (.invokevirtual 75, 3) := by decide +kernel
theorem dL_law_624 : decode cL_law 624 = .ok (.if_icmp .eq 387, 3) := by decide +kernel
theorem dL_law_627 : decode cL_law 627 = .ok (.iconst 0, 1) := by decide +kernel
theorem dL_law_628 : decode cL_law 628 = .ok (.ireturn, 1) := by decide +kernel
theorem dL_law_629 : decode cL_law 629 = .ok (.aload_n 1, 1) := by decide +kernel
theorem dL_law_630 : decode cL_law 630 = .ok (.aload_n 0, 1) := by decide +kernel
theorem dL_law_631 : decode cL_law 631 = .ok (.iload_n 3, 1) := by decide +kernel
theorem dL_law_632 : decode cL_law 632 = .ok (.iconst 1, 1) := by decide +kernel
theorem dL_law_633 : decode cL_law 633 = .ok (.iadd, 1) := by decide +kernel
theorem dL_law_634 : decode cL_law 634 = .ok (.iaload, 1) := by decide +kernel
theorem dL_law_635 : decode cL_law 635 = .ok (.aload_n 0, 1) := by decide +kernel
theorem dL_law_636 : decode cL_law 636 = .ok (.iload_n 3, 1) := by decide +kernel
theorem dL_law_637 : decode cL_law 637 = .ok (.iconst 2, 1) := by decide +kernel
theorem dL_law_638 : decode cL_law 638 = .ok (.iadd, 1) := by decide +kernel
theorem dL_law_639 : decode cL_law 639 = .ok (.iaload, 1) := by decide +kernel
theorem dL_law_640 : decode cL_law 640 = .ok (.invokevirtual 76, 3) := by decide +kernel
theorem dL_law_643 : decode cL_law 643 = .ok (.aload_n 2, 1) := by decide +kernel
theorem dL_law_644 : decode cL_law 644 = .ok (.aload_n 0, 1) := by decide +kernel
theorem dL_law_645 : decode cL_law 645 = .ok (.iload_n 3, 1) := by decide +kernel
theorem dL_law_646 : decode cL_law 646 = .ok (.iconst 1, 1) := by decide +kernel
theorem dL_law_647 : decode cL_law 647 = .ok (.iadd, 1) := by decide +kernel
theorem dL_law_648 : decode cL_law 648 = .ok (.iaload, 1) := by decide +kernel
theorem dL_law_649 : decode cL_law 649 = .ok (.aload_n 0, 1) := by decide +kernel
theorem dL_law_650 : decode cL_law 650 = .ok (.iload_n 3, 1) := by decide +kernel
theorem dL_law_651 : decode cL_law 651 = .ok (.iconst 2, 1) := by decide +kernel
theorem dL_law_652 : decode cL_law 652 = .ok (.iadd, 1) := by decide +kernel
theorem dL_law_653 : decode cL_law 653 = .ok (.iaload, 1) := by decide +kernel
theorem dL_law_654 : decode cL_law 654 = .ok (.invokevirtual 79, 3) := by decide +kernel
theorem dL_law_657 : decode cL_law 657 = .ok (.if_icmp .eq 354, 3) := by decide +kernel
theorem dL_law_660 : decode cL_law 660 = .ok (.iconst 0, 1) := by decide +kernel
theorem dL_law_661 : decode cL_law 661 = .ok (.ireturn, 1) := by decide +kernel
theorem dL_law_662 : decode cL_law 662 = .ok (.aload_n 1, 1) := by decide +kernel
theorem dL_law_663 : decode cL_law 663 = .ok (.aload_n 0, 1) := by decide +kernel
theorem dL_law_664 : decode cL_law 664 = .ok (.iload_n 3, 1) := by decide +kernel
theorem dL_law_665 : decode cL_law 665 = .ok (.iconst 1, 1) := by decide +kernel
theorem dL_law_666 : decode cL_law 666 = .ok (.iadd, 1) := by decide +kernel
theorem dL_law_667 : decode cL_law 667 = .ok (.iaload, 1) := by decide +kernel
theorem dL_law_668 : decode cL_law 668 = .ok (.aload_n 0, 1) := by decide +kernel
theorem dL_law_669 : decode cL_law 669 = .ok (.iload_n 3, 1) := by decide +kernel
theorem dL_law_670 : decode cL_law 670 = .ok (.iconst 2, 1) := by decide +kernel
theorem dL_law_671 : decode cL_law 671 = .ok (.iadd, 1) := by decide +kernel
theorem dL_law_672 : decode cL_law 672 = .ok (.iaload, 1) := by decide +kernel
theorem dL_law_673 : decode cL_law 673 = .ok (.invokevirtual 80, 3) := by decide +kernel
theorem dL_law_676 : decode cL_law 676 = .ok (.aload_n 2, 1) := by decide +kernel
theorem dL_law_677 : decode cL_law 677 = .ok (.aload_n 0, 1) := by decide +kernel
theorem dL_law_678 : decode cL_law 678 = .ok (.iload_n 3, 1) := by decide +kernel
theorem dL_law_679 : decode cL_law 679 = .ok (.iconst 1, 1) := by decide +kernel
theorem dL_law_680 : decode cL_law 680 = .ok (.iadd, 1) := by decide +kernel
theorem dL_law_681 : decode cL_law 681 = .ok (.iaload, 1) := by decide +kernel
theorem dL_law_682 : decode cL_law 682 = .ok (.aload_n 0, 1) := by decide +kernel
theorem dL_law_683 : decode cL_law 683 = .ok (.iload_n 3, 1) := by decide +kernel
theorem dL_law_684 : decode cL_law 684 = .ok (.iconst 2, 1) := by decide +kernel
theorem dL_law_685 : decode cL_law 685 = .ok (.iadd, 1) := by decide +kernel
theorem dL_law_686 : decode cL_law 686 = .ok (.iaload, 1) := by decide +kernel
theorem dL_law_687 : decode cL_law 687 = .ok (.invokevirtual 83, 3) := by decide +kernel
theorem dL_law_690 : decode cL_law 690 = .ok (.if_icmp .eq 321, 3) := by decide +kernel
theorem dL_law_693 : decode cL_law 693 = .ok (.iconst 0, 1) := by decide +kernel
theorem dL_law_694 : decode cL_law 694 = .ok (.ireturn, 1) := by decide +kernel
theorem dL_law_695 : decode cL_law 695 = .ok (.aload_n 1, 1) := by decide +kernel
theorem dL_law_696 : decode cL_law 696 = .ok (.aload_n 0, 1) := by decide +kernel
theorem dL_law_697 : decode cL_law 697 = .ok (.iload_n 3, 1) := by decide +kernel
theorem dL_law_698 : decode cL_law 698 = .ok (.iconst 1, 1) := by decide +kernel
theorem dL_law_699 : decode cL_law 699 = .ok (.iadd, 1) := by decide +kernel
theorem dL_law_700 : decode cL_law 700 = .ok (.iaload, 1) := by decide +kernel
theorem dL_law_701 : decode cL_law 701 = .ok (.aload_n 0, 1) := by decide +kernel
theorem dL_law_702 : decode cL_law 702 = .ok (.iload_n 3, 1) := by decide +kernel
theorem dL_law_703 : decode cL_law 703 = .ok (.iconst 2, 1) := by decide +kernel
theorem dL_law_704 : decode cL_law 704 = .ok (.iadd, 1) := by decide +kernel
theorem dL_law_705 : decode cL_law 705 = .ok (.iaload, 1) := by decide +kernel
theorem dL_law_706 : decode cL_law 706 = .ok (.invokevirtual 84, 3) := by decide +kernel
theorem dL_law_709 : decode cL_law 709 = .ok (.aload_n 2, 1) := by decide +kernel
theorem dL_law_710 : decode cL_law 710 = .ok (.aload_n 0, 1) := by decide +kernel
theorem dL_law_711 : decode cL_law 711 = .ok (.iload_n 3, 1) := by decide +kernel
theorem dL_law_712 : decode cL_law 712 = .ok (.iconst 1, 1) := by decide +kernel
theorem dL_law_713 : decode cL_law 713 = .ok (.iadd, 1) := by decide +kernel
theorem dL_law_714 : decode cL_law 714 = .ok (.iaload, 1) := by decide +kernel
theorem dL_law_715 : decode cL_law 715 = .ok (.aload_n 0, 1) := by decide +kernel
theorem dL_law_716 : decode cL_law 716 = .ok (.iload_n 3, 1) := by decide +kernel
theorem dL_law_717 : decode cL_law 717 = .ok (.iconst 2, 1) := by decide +kernel
theorem dL_law_718 : decode cL_law 718 = .ok (.iadd, 1) := by decide +kernel
theorem dL_law_719 : decode cL_law 719 = .ok (.iaload, 1) := by decide +kernel
theorem dL_law_720 : decode cL_law 720 = .ok (.invokevirtual 87, 3) := by decide +kernel
theorem dL_law_723 : decode cL_law 723 = .ok (.if_icmp .eq 288, 3) := by decide +kernel
theorem dL_law_726 : decode cL_law 726 = .ok (.iconst 0, 1) := by decide +kernel
theorem dL_law_727 : decode cL_law 727 = .ok (.ireturn, 1) := by decide +kernel
theorem dL_law_728 : decode cL_law 728 = .ok (.aload_n 1, 1) := by decide +kernel
theorem dL_law_729 : decode cL_law 729 = .ok (.aload_n 0, 1) := by decide +kernel
theorem dL_law_730 : decode cL_law 730 = .ok (.iload_n 3, 1) := by decide +kernel
theorem dL_law_731 : decode cL_law 731 = .ok (.iconst 1, 1) := by decide +kernel
theorem dL_law_732 : decode cL_law 732 = .ok (.iadd, 1) := by decide +kernel
theorem dL_law_733 : decode cL_law 733 = .ok (.iaload, 1) := by decide +kernel
theorem dL_law_734 : decode cL_law 734 = .ok (.invokevirtual 88, 3) := by decide +kernel
theorem dL_law_737 : decode cL_law 737 = .ok (.aload_n 2, 1) := by decide +kernel
theorem dL_law_738 : decode cL_law 738 = .ok (.aload_n 0, 1) := by decide +kernel
theorem dL_law_739 : decode cL_law 739 = .ok (.iload_n 3, 1) := by decide +kernel
theorem dL_law_740 : decode cL_law 740 = .ok (.iconst 1, 1) := by decide +kernel
theorem dL_law_741 : decode cL_law 741 = .ok (.iadd, 1) := by decide +kernel
theorem dL_law_742 : decode cL_law 742 = .ok (.iaload, 1) := by decide +kernel
theorem dL_law_743 : decode cL_law 743 = .ok (.invokevirtual 91, 3) := by decide +kernel
theorem dL_law_746 : decode cL_law 746 = .ok (.if_icmp .eq 265, 3) := by decide +kernel
theorem dL_law_749 : decode cL_law 749 = .ok (.iconst 0, 1) := by decide +kernel
theorem dL_law_750 : decode cL_law 750 = .ok (.ireturn, 1) := by decide +kernel
theorem dL_law_751 : decode cL_law 751 = .ok (.aload_n 1, 1) := by decide +kernel
theorem dL_law_752 : decode cL_law 752 = .ok (.aload_n 0, 1) := by decide +kernel
theorem dL_law_753 : decode cL_law 753 = .ok (.iload_n 3, 1) := by decide +kernel
theorem dL_law_754 : decode cL_law 754 = .ok (.iconst 1, 1) := by decide +kernel
theorem dL_law_755 : decode cL_law 755 = .ok (.iadd, 1) := by decide +kernel
theorem dL_law_756 : decode cL_law 756 = .ok (.iaload, 1) := by decide +kernel
theorem dL_law_757 : decode cL_law 757 = .ok (.aload_n 0, 1) := by decide +kernel
theorem dL_law_758 : decode cL_law 758 = .ok (.iload_n 3, 1) := by decide +kernel
theorem dL_law_759 : decode cL_law 759 = .ok (.iconst 2, 1) := by decide +kernel
theorem dL_law_760 : decode cL_law 760 = .ok (.iadd, 1) := by decide +kernel
theorem dL_law_761 : decode cL_law 761 = .ok (.iaload, 1) := by decide +kernel
theorem dL_law_762 : decode cL_law 762 = .ok (.aload_n 0, 1) := by decide +kernel
theorem dL_law_763 : decode cL_law 763 = .ok (.iload_n 3, 1) := by decide +kernel
theorem dL_law_764 : decode cL_law 764 = .ok (.iconst 3, 1) := by decide +kernel
theorem dL_law_765 : decode cL_law 765 = .ok (.iadd, 1) := by decide +kernel
theorem dL_law_766 : decode cL_law 766 = .ok (.iaload, 1) := by decide +kernel
theorem dL_law_767 : decode cL_law 767 = .ok (.invokevirtual 92, 3) := by decide +kernel
theorem dL_law_770 : decode cL_law 770 = .ok (.aload_n 2, 1) := by decide +kernel
theorem dL_law_771 : decode cL_law 771 = .ok (.aload_n 0, 1) := by decide +kernel
theorem dL_law_772 : decode cL_law 772 = .ok (.iload_n 3, 1) := by decide +kernel
theorem dL_law_773 : decode cL_law 773 = .ok (.iconst 1, 1) := by decide +kernel
theorem dL_law_774 : decode cL_law 774 = .ok (.iadd, 1) := by decide +kernel
theorem dL_law_775 : decode cL_law 775 = .ok (.iaload, 1) := by decide +kernel
theorem dL_law_776 : decode cL_law 776 = .ok (.aload_n 0, 1) := by decide +kernel
theorem dL_law_777 : decode cL_law 777 = .ok (.iload_n 3, 1) := by decide +kernel
theorem dL_law_778 : decode cL_law 778 = .ok (.iconst 2, 1) := by decide +kernel
theorem dL_law_779 : decode cL_law 779 = .ok (.iadd, 1) := by decide +kernel
theorem dL_law_780 : decode cL_law 780 = .ok (.iaload, 1) := by decide +kernel
theorem dL_law_781 : decode cL_law 781 = .ok (.aload_n 0, 1) := by decide +kernel
theorem dL_law_782 : decode cL_law 782 = .ok (.iload_n 3, 1) := by decide +kernel
theorem dL_law_783 : decode cL_law 783 = .ok (.iconst 3, 1) := by decide +kernel
theorem dL_law_784 : decode cL_law 784 = .ok (.iadd, 1) := by decide +kernel
theorem dL_law_785 : decode cL_law 785 = .ok (.iaload, 1) := by decide +kernel
theorem dL_law_786 : decode cL_law 786 = .ok (.invokevirtual 96, 3) := by decide +kernel
theorem dL_law_789 : decode cL_law 789 = .ok (.if_icmp .eq 222, 3) := by decide +kernel
theorem dL_law_792 : decode cL_law 792 = .ok (.iconst 0, 1) := by decide +kernel
theorem dL_law_793 : decode cL_law 793 = .ok (.ireturn, 1) := by decide +kernel
theorem dL_law_794 : decode cL_law 794 = .ok (.aload_n 1, 1) := by decide +kernel
theorem dL_law_795 : decode cL_law 795 = .ok (.aload_n 0, 1) := by decide +kernel
theorem dL_law_796 : decode cL_law 796 = .ok (.iload_n 3, 1) := by decide +kernel
theorem dL_law_797 : decode cL_law 797 = .ok (.iconst 1, 1) := by decide +kernel
theorem dL_law_798 : decode cL_law 798 = .ok (.iadd, 1) := by decide +kernel
theorem dL_law_799 : decode cL_law 799 = .ok (.iaload, 1) := by decide +kernel
theorem dL_law_800 : decode cL_law 800 = .ok (.aload_n 0, 1) := by decide +kernel
theorem dL_law_801 : decode cL_law 801 = .ok (.iload_n 3, 1) := by decide +kernel
theorem dL_law_802 : decode cL_law 802 = .ok (.iconst 2, 1) := by decide +kernel
theorem dL_law_803 : decode cL_law 803 = .ok (.iadd, 1) := by decide +kernel
theorem dL_law_804 : decode cL_law 804 = .ok (.iaload, 1) := by decide +kernel
theorem dL_law_805 : decode cL_law 805 = .ok (.aload_n 0, 1) := by decide +kernel
theorem dL_law_806 : decode cL_law 806 = .ok (.iload_n 3, 1) := by decide +kernel
theorem dL_law_807 : decode cL_law 807 = .ok (.iconst 3, 1) := by decide +kernel
theorem dL_law_808 : decode cL_law 808 = .ok (.iadd, 1) := by decide +kernel
theorem dL_law_809 : decode cL_law 809 = .ok (.iaload, 1) := by decide +kernel
theorem dL_law_810 : decode cL_law 810 = .ok (.invokevirtual 97, 3) := by decide +kernel
theorem dL_law_813 : decode cL_law 813 = .ok (.aload_n 2, 1) := by decide +kernel
theorem dL_law_814 : decode cL_law 814 = .ok (.aload_n 0, 1) := by decide +kernel
theorem dL_law_815 : decode cL_law 815 = .ok (.iload_n 3, 1) := by decide +kernel
theorem dL_law_816 : decode cL_law 816 = .ok (.iconst 1, 1) := by decide +kernel
theorem dL_law_817 : decode cL_law 817 = .ok (.iadd, 1) := by decide +kernel
theorem dL_law_818 : decode cL_law 818 = .ok (.iaload, 1) := by decide +kernel
theorem dL_law_819 : decode cL_law 819 = .ok (.aload_n 0, 1) := by decide +kernel
theorem dL_law_820 : decode cL_law 820 = .ok (.iload_n 3, 1) := by decide +kernel
theorem dL_law_821 : decode cL_law 821 = .ok (.iconst 2, 1) := by decide +kernel
theorem dL_law_822 : decode cL_law 822 = .ok (.iadd, 1) := by decide +kernel
theorem dL_law_823 : decode cL_law 823 = .ok (.iaload, 1) := by decide +kernel
theorem dL_law_824 : decode cL_law 824 = .ok (.aload_n 0, 1) := by decide +kernel
theorem dL_law_825 : decode cL_law 825 = .ok (.iload_n 3, 1) := by decide +kernel
theorem dL_law_826 : decode cL_law 826 = .ok (.iconst 3, 1) := by decide +kernel
theorem dL_law_827 : decode cL_law 827 = .ok (.iadd, 1) := by decide +kernel
theorem dL_law_828 : decode cL_law 828 = .ok (.iaload, 1) := by decide +kernel
theorem dL_law_829 : decode cL_law 829 = .ok (.invokevirtual 100, 3) := by decide +kernel
theorem dL_law_832 : decode cL_law 832 = .ok (.if_icmp .eq 179, 3) := by decide +kernel
theorem dL_law_835 : decode cL_law 835 = .ok (.iconst 0, 1) := by decide +kernel
theorem dL_law_836 : decode cL_law 836 = .ok (.ireturn, 1) := by decide +kernel
theorem dL_law_837 : decode cL_law 837 = .ok (.aload_n 1, 1) := by decide +kernel
theorem dL_law_838 : decode cL_law 838 = .ok (.aload_n 0, 1) := by decide +kernel
theorem dL_law_839 : decode cL_law 839 = .ok (.iload_n 3, 1) := by decide +kernel
theorem dL_law_840 : decode cL_law 840 = .ok (.iconst 1, 1) := by decide +kernel
theorem dL_law_841 : decode cL_law 841 = .ok (.iadd, 1) := by decide +kernel
theorem dL_law_842 : decode cL_law 842 = .ok (.iaload, 1) := by decide +kernel
theorem dL_law_843 : decode cL_law 843 = .ok (.aload_n 0, 1) := by decide +kernel
theorem dL_law_844 : decode cL_law 844 = .ok (.iload_n 3, 1) := by decide +kernel
theorem dL_law_845 : decode cL_law 845 = .ok (.iconst 2, 1) := by decide +kernel
theorem dL_law_846 : decode cL_law 846 = .ok (.iadd, 1) := by decide +kernel
theorem dL_law_847 : decode cL_law 847 = .ok (.iaload, 1) := by decide +kernel
theorem dL_law_848 : decode cL_law 848 = .ok (.invokevirtual 101, 3) := by decide +kernel
theorem dL_law_851 : decode cL_law 851 = .ok (.aload_n 2, 1) := by decide +kernel
theorem dL_law_852 : decode cL_law 852 = .ok (.aload_n 0, 1) := by decide +kernel
theorem dL_law_853 : decode cL_law 853 = .ok (.iload_n 3, 1) := by decide +kernel
theorem dL_law_854 : decode cL_law 854 = .ok (.iconst 1, 1) := by decide +kernel
theorem dL_law_855 : decode cL_law 855 = .ok (.iadd, 1) := by decide +kernel
theorem dL_law_856 : decode cL_law 856 = .ok (.iaload, 1) := by decide +kernel
theorem dL_law_857 : decode cL_law 857 = .ok (.aload_n 0, 1) := by decide +kernel
theorem dL_law_858 : decode cL_law 858 = .ok (.iload_n 3, 1) := by decide +kernel
theorem dL_law_859 : decode cL_law 859 = .ok (.iconst 2, 1) := by decide +kernel
theorem dL_law_860 : decode cL_law 860 = .ok (.iadd, 1) := by decide +kernel
theorem dL_law_861 : decode cL_law 861 = .ok (.iaload, 1) := by decide +kernel
theorem dL_law_862 : decode cL_law 862 = .ok (.invokevirtual 104, 3) := by decide +kernel
theorem dL_law_865 : decode cL_law 865 = .ok (.if_icmp .eq 146, 3) := by decide +kernel
theorem dL_law_868 : decode cL_law 868 = .ok (.iconst 0, 1) := by decide +kernel
theorem dL_law_869 : decode cL_law 869 = .ok (.ireturn, 1) := by decide +kernel
theorem dL_law_870 : decode cL_law 870 = .ok (.aload_n 1, 1) := by decide +kernel
theorem dL_law_871 : decode cL_law 871 = .ok (.aload_n 0, 1) := by decide +kernel
theorem dL_law_872 : decode cL_law 872 = .ok (.iload_n 3, 1) := by decide +kernel
theorem dL_law_873 : decode cL_law 873 = .ok (.iconst 1, 1) := by decide +kernel
theorem dL_law_874 : decode cL_law 874 = .ok (.iadd, 1) := by decide +kernel
theorem dL_law_875 : decode cL_law 875 = .ok (.iaload, 1) := by decide +kernel
theorem dL_law_876 : decode cL_law 876 = .ok (.invokevirtual 105, 3) := by decide +kernel
theorem dL_law_879 : decode cL_law 879 = .ok (.aload_n 2, 1) := by decide +kernel
theorem dL_law_880 : decode cL_law 880 = .ok (.aload_n 0, 1) := by decide +kernel
theorem dL_law_881 : decode cL_law 881 = .ok (.iload_n 3, 1) := by decide +kernel
theorem dL_law_882 : decode cL_law 882 = .ok (.iconst 1, 1) := by decide +kernel
theorem dL_law_883 : decode cL_law 883 = .ok (.iadd, 1) := by decide +kernel
theorem dL_law_884 : decode cL_law 884 = .ok (.iaload, 1) := by decide +kernel
theorem dL_law_885 : decode cL_law 885 = .ok (.invokevirtual 108, 3) := by decide +kernel
theorem dL_law_888 : decode cL_law 888 = .ok (.if_icmp .eq 123, 3) := by decide +kernel
theorem dL_law_891 : decode cL_law 891 = .ok (.iconst 0, 1) := by decide +kernel
theorem dL_law_892 : decode cL_law 892 = .ok (.ireturn, 1) := by decide +kernel
theorem dL_law_893 : decode cL_law 893 = .ok (.aload_n 1, 1) := by decide +kernel
theorem dL_law_894 : decode cL_law 894 = .ok (.aload_n 0, 1) := by decide +kernel
theorem dL_law_895 : decode cL_law 895 = .ok (.iload_n 3, 1) := by decide +kernel
theorem dL_law_896 : decode cL_law 896 = .ok (.iconst 1, 1) := by decide +kernel
theorem dL_law_897 : decode cL_law 897 = .ok (.iadd, 1) := by decide +kernel
theorem dL_law_898 : decode cL_law 898 = .ok (.iaload, 1) := by decide +kernel
theorem dL_law_899 : decode cL_law 899 = .ok (.aload_n 0, 1) := by decide +kernel
theorem dL_law_900 : decode cL_law 900 = .ok (.iload_n 3, 1) := by decide +kernel
theorem dL_law_901 : decode cL_law 901 = .ok (.iconst 2, 1) := by decide +kernel
theorem dL_law_902 : decode cL_law 902 = .ok (.iadd, 1) := by decide +kernel
theorem dL_law_903 : decode cL_law 903 = .ok (.iaload, 1) := by decide +kernel
theorem dL_law_904 : decode cL_law 904 = .ok (.invokevirtual 109, 3) := by decide +kernel
theorem dL_law_907 : decode cL_law 907 = .ok (.aload_n 2, 1) := by decide +kernel
theorem dL_law_908 : decode cL_law 908 = .ok (.aload_n 0, 1) := by decide +kernel
theorem dL_law_909 : decode cL_law 909 = .ok (.iload_n 3, 1) := by decide +kernel
theorem dL_law_910 : decode cL_law 910 = .ok (.iconst 1, 1) := by decide +kernel
theorem dL_law_911 : decode cL_law 911 = .ok (.iadd, 1) := by decide +kernel
theorem dL_law_912 : decode cL_law 912 = .ok (.iaload, 1) := by decide +kernel
theorem dL_law_913 : decode cL_law 913 = .ok (.aload_n 0, 1) := by decide +kernel
theorem dL_law_914 : decode cL_law 914 = .ok (.iload_n 3, 1) := by decide +kernel
theorem dL_law_915 : decode cL_law 915 = .ok (.iconst 2, 1) := by decide +kernel
theorem dL_law_916 : decode cL_law 916 = .ok (.iadd, 1) := by decide +kernel
theorem dL_law_917 : decode cL_law 917 = .ok (.iaload, 1) := by decide +kernel
theorem dL_law_918 : decode cL_law 918 = .ok (.invokevirtual 112, 3) := by decide +kernel
theorem dL_law_921 : decode cL_law 921 = .ok (.if_icmp .eq 90, 3) := by decide +kernel
theorem dL_law_924 : decode cL_law 924 = .ok (.iconst 0, 1) := by decide +kernel
theorem dL_law_925 : decode cL_law 925 = .ok (.ireturn, 1) := by decide +kernel
theorem dL_law_926 : decode cL_law 926 = .ok (.aload_n 1, 1) := by decide +kernel
theorem dL_law_927 : decode cL_law 927 = .ok (.invokevirtual 113, 3) := by decide +kernel
theorem dL_law_930 : decode cL_law 930 = .ok (.aload_n 2, 1) := by decide +kernel
theorem dL_law_931 : decode cL_law 931 = .ok (.invokevirtual 117, 3) := by decide +kernel
theorem dL_law_934 : decode cL_law 934 = .ok (.if_icmp .eq 77, 3) := by decide +kernel
theorem dL_law_937 : decode cL_law 937 = .ok (.iconst 0, 1) := by decide +kernel
theorem dL_law_938 : decode cL_law 938 = .ok (.ireturn, 1) := by decide +kernel
theorem dL_law_939 : decode cL_law 939 = .ok (.aload_n 1, 1) := by decide +kernel
theorem dL_law_940 : decode cL_law 940 = .ok (.aload_n 0, 1) := by decide +kernel
theorem dL_law_941 : decode cL_law 941 = .ok (.iload_n 3, 1) := by decide +kernel
theorem dL_law_942 : decode cL_law 942 = .ok (.iconst 1, 1) := by decide +kernel
theorem dL_law_943 : decode cL_law 943 = .ok (.iadd, 1) := by decide +kernel
theorem dL_law_944 : decode cL_law 944 = .ok (.iaload, 1) := by decide +kernel
theorem dL_law_945 : decode cL_law 945 = .ok (.invokevirtual 118, 3) := by decide +kernel
theorem dL_law_948 : decode cL_law 948 = .ok (.aload_n 2, 1) := by decide +kernel
theorem dL_law_949 : decode cL_law 949 = .ok (.aload_n 0, 1) := by decide +kernel
theorem dL_law_950 : decode cL_law 950 = .ok (.iload_n 3, 1) := by decide +kernel
theorem dL_law_951 : decode cL_law 951 = .ok (.iconst 1, 1) := by decide +kernel
theorem dL_law_952 : decode cL_law 952 = .ok (.iadd, 1) := by decide +kernel
theorem dL_law_953 : decode cL_law 953 = .ok (.iaload, 1) := by decide +kernel
theorem dL_law_954 : decode cL_law 954 = .ok (.invokevirtual 121, 3) := by decide +kernel
theorem dL_law_957 : decode cL_law 957 = .ok (.if_icmp .eq 54, 3) := by decide +kernel
theorem dL_law_960 : decode cL_law 960 = .ok (.iconst 0, 1) := by decide +kernel
theorem dL_law_961 : decode cL_law 961 = .ok (.ireturn, 1) := by decide +kernel
theorem dL_law_962 : decode cL_law 962 = .ok (.aload_n 1, 1) := by decide +kernel
theorem dL_law_963 : decode cL_law 963 = .ok (.invokevirtual 122, 3) := by decide +kernel
theorem dL_law_966 : decode cL_law 966 = .ok (.aload_n 2, 1) := by decide +kernel
theorem dL_law_967 : decode cL_law 967 = .ok (.invokevirtual 125, 3) := by decide +kernel
theorem dL_law_970 : decode cL_law 970 = .ok (.if_icmp .eq 41, 3) := by decide +kernel
theorem dL_law_973 : decode cL_law 973 = .ok (.iconst 0, 1) := by decide +kernel
theorem dL_law_974 : decode cL_law 974 = .ok (.ireturn, 1) := by decide +kernel
theorem dL_law_975 : decode cL_law 975 = .ok (.aload_n 1, 1) := by decide +kernel
theorem dL_law_976 : decode cL_law 976 = .ok (.aload_n 0, 1) := by decide +kernel
theorem dL_law_977 : decode cL_law 977 = .ok (.iload_n 3, 1) := by decide +kernel
theorem dL_law_978 : decode cL_law 978 = .ok (.iconst 1, 1) := by decide +kernel
theorem dL_law_979 : decode cL_law 979 = .ok (.iadd, 1) := by decide +kernel
theorem dL_law_980 : decode cL_law 980 = .ok (.iaload, 1) := by decide +kernel
theorem dL_law_981 : decode cL_law 981 = .ok (.invokevirtual 126, 3) := by decide +kernel
theorem dL_law_984 : decode cL_law 984 = .ok (.aload_n 2, 1) := by decide +kernel
theorem dL_law_985 : decode cL_law 985 = .ok (.aload_n 0, 1) := by decide +kernel
theorem dL_law_986 : decode cL_law 986 = .ok (.iload_n 3, 1) := by decide +kernel
theorem dL_law_987 : decode cL_law 987 = .ok (.iconst 1, 1) := by decide +kernel
theorem dL_law_988 : decode cL_law 988 = .ok (.iadd, 1) := by decide +kernel
theorem dL_law_989 : decode cL_law 989 = .ok (.iaload, 1) := by decide +kernel
theorem dL_law_990 : decode cL_law 990 = .ok (.invokevirtual 129, 3) := by decide +kernel
theorem dL_law_993 : decode cL_law 993 = .ok (.if_icmp .eq 18, 3) := by decide +kernel
theorem dL_law_996 : decode cL_law 996 = .ok (.iconst 0, 1) := by decide +kernel
theorem dL_law_997 : decode cL_law 997 = .ok (.ireturn, 1) := by decide +kernel
theorem dL_law_998 : decode cL_law 998 = .ok (.aload_n 1, 1) := by decide +kernel
theorem dL_law_999 : decode cL_law 999 = .ok (.invokevirtual 130, 3) := by decide +kernel
theorem dL_law_1002 : decode cL_law 1002 = .ok (.aload_n 2, 1) := by decide +kernel
theorem dL_law_1003 : decode cL_law 1003 = .ok (.invokevirtual 133, 3) := by decide +kernel
theorem dL_law_1006 : decode cL_law 1006 = .ok (.if_icmp .eq 5, 3) := by decide +kernel
theorem dL_law_1009 : decode cL_law 1009 = .ok (.iconst 0, 1) := by decide +kernel
theorem dL_law_1010 : decode cL_law 1010 = .ok (.ireturn, 1) := by decide +kernel
theorem dL_law_1011 : decode cL_law 1011 = .ok (.iinc 3 5, 3) := by decide +kernel
theorem dL_law_1014 : decode cL_law 1014 = .ok (.goto (-996), 3) := by decide +kernel
theorem dL_law_1017 : decode cL_law 1017 = .ok (.iconst 1, 1) := by decide +kernel
theorem dL_law_1018 : decode cL_law 1018 = .ok (.ireturn, 1) := by decide +kernel
end
section
section GX
abbrev Hp : Type := Nat → Option va_E
def hu (h : Hp) (a : Nat) (e : va_E) : Hp := fun b => if b = a then some e else h b
theorem hu_same {h : Hp} {a : Nat} {e : va_E} : hu h a e a = some e := if_pos rfl
theorem hu_ne {h : Hp} {a b : Nat} {e : va_E} (n : b ≠ a) : hu h a e b = h b := if_neg n
theorem hu_n1 {h : Hp} {a b : Nat} {e : va_E} {x : Option va_E} (n : b ≠ a) (k : h b = x) : hu h a e b = x := (hu_ne n).trans k
/-- the launch, the classes' numbers and slots, the array classes, the first free address of the law, the three static arrays -/
abbrev Cx : Type := Launch × va_G × (Nat → ClassId) × Nat × (Nat → Nat)
abbrev tysOf (X : Cx) : List (ClassId × FieldType) := [(X.2.2.1 0, .int), (X.2.2.1 1, .char), (X.2.2.1 2, .object RX8), (X.2.2.1 3, .object RX2), (X.2.2.1 4, .object RX3), (X.2.2.1 5, .object RX1)]
def AA (X : Cx) : Nat → Prop := fun q => X.2.2.2.1 ≤ q
/-- cells: an int array, a char array, a reference array of kind k, a static (read only) int array, an object -/
def oI (X : Cx) (n : Nat) (f : Nat → Int32) : va_E := .inl (X.2.2.1 0, n, .inl f)
def oC (X : Cx) (n : Nat) (f : Nat → Int32) : va_E := .inl (X.2.2.1 1, n, .inl f)
def oR (X : Cx) (k n : Nat) (f : Nat → Option Nat) : va_E := .inl (X.2.2.1 k, n, .inr (.inr (.inr (.inr f))))
def sI (n : Nat) (f : Nat → Int32) : va_E := .inl (0, n, .inr (.inl (fun j => (f j).toInt64)))
def ob (ci : Nat) (fs : List Value) : va_E := .inr (ci, fs)
def Kk (X : Cx) (U : State) (H : Heap) : Prop := va_K X.2.1 vwCl (tysOf X) U ∧ va_Z "DarkVats$Settings" "LEAST" "[I" (.ref (X.2.2.2.2 0)) (AA X) U H ∧ va_Z "DarkVats$Settings" "MOST" "[I" (.ref (X.2.2.2.2 1)) (AA X) U H ∧ va_Z "DarkVats$Settings" "FIRST" "[I" (.ref (X.2.2.2.2 2)) (AA X) U H ∧ va_AO RX8 U ∧ va_AO RX2 U ∧ va_AO RX3 U ∧ va_AO RX1 U ∧ ∀ (a : String) (i : Nat) (x : MethodName) (g : String), Cond.methodLinkNest a i x g ∈ lw_tbl → va_Nw (.methodLinkNest a i x g) U
def Rep (X : Cx) (U : State) (H : Heap) (h : Hp) : Prop := ∃ ws : va_W, va_P X.2.1 vwCl ws H ∧ va_D (AA X) ws ∧ ∀ (a : Nat) (e : va_E), h a = some e → ((∃ k : Nat, ws[k]? = some (a, e)) ∧ ∀ n f, e ≠ sI n f) ∨ ∃ n f, e = sI n f ∧ va_T .int a n (fun j => .int (f j)) (AA X) U H
theorem Kk.warm {X : Cx} {u U : State} {H H1 : Heap} (hW : u.WarmedH U.vm) (hq : ∀ a : Nat, a < H.size → ¬ AA X a → H1[a]? = H[a]?) (h : Kk X u H) : Kk X U H1 := ⟨va_K.moved hW.alike h.1, (h.2.1.moved hW.alike).kept hq, (h.2.2.1.moved hW.alike).kept hq, (h.2.2.2.1.moved hW.alike).kept hq, h.2.2.2.2.1.moved hW.alike, h.2.2.2.2.2.1.moved hW.alike, h.2.2.2.2.2.2.1.moved hW.alike, h.2.2.2.2.2.2.2.1.moved hW.alike, fun a i x g hw => va_Nw.warmM hW (h.2.2.2.2.2.2.2.2 a i x g hw)⟩
theorem Kk.call {X : Cx} {U : State} {H : Heap} (g0 : JFrame) (mk : MethodId) (a0 : Array Value) (h : Kk X U H) : Kk X (U.calling g0 mk a0) H := by
  have hvm : U.vm.Alike (U.calling g0 mk a0).vm := Vm.Alike.refl U.vm
  exact ⟨va_K.moved hvm h.1, h.2.1.moved hvm, h.2.2.1.moved hvm, h.2.2.2.1.moved hvm, h.2.2.2.2.1.moved hvm, h.2.2.2.2.2.1.moved hvm, h.2.2.2.2.2.2.1.moved hvm, h.2.2.2.2.2.2.2.1.moved hvm, fun a i x g hw => va_Nw.same rfl rfl (h.2.2.2.2.2.2.2.2 a i x g hw)⟩
theorem Rep.moved {X : Cx} {u U : State} {H : Heap} {h : Hp} (hvm : u.vm.Alike U.vm) (k : Rep X u H h) : Rep X U H h := by
  obtain ⟨ws, h1, h2, h3⟩ := k
  refine ⟨ws, h1, h2, fun a e q => ?_⟩
  rcases h3 a e q with x | ⟨n, f, e1, e2⟩
  · exact Or.inl x
  · exact Or.inr ⟨n, f, e1, e2.moved hvm⟩
def wsA : List Cond := lw_tbl.filter goodWord
theorem inA {w : Cond} (h : w ∈ lw_tbl) (g : goodWord w = true) : w ∈ wsA := List.mem_filter.mpr ⟨h, g⟩
theorem goodA : GoodIn wsA wsA := fun w h => ⟨h, good_of_word (List.mem_filter.mp h).2⟩
theorem goodA_of {ws : List Cond} (h : ∀ w ∈ ws, w ∈ wsA) : GoodIn wsA ws := fun w hw => goodA w (h w hw)
abbrev wsY (Y : Mt) : List Cond := Cond.code Y.1 Y.2.1 Y.2.2.1 Y.2.2.2 :: wsA
abbrev Rm (k mc ms : Nat) : Room := { frames := k, cells := mc, slots := ms, locals := 40 * k }
def Qc (X : Cx) (P : Option Value → Hp → Prop) : Array Value → State → Outcome → State → Prop := fun _ st o t => (∃ v h', o = .returned v ∧ P v h' ∧ Rep X t t.heap h') ∧ va_F (AA X) st t
def In (X : Cx) (own : String) (b : ByteArray) (mx : Nat) (rt : Option FieldType) (nm : String) (p : Program) (s : State) (m : MethodId) (args : Array Value) (meth : Method) (cd : Code) : Prop :=
  p.tables.exec = Jvm.exec ∧ cd.code = b ∧ cd.maxLocals = mx ∧ s.vm.findClass own = some m.cls ∧ (∀ w ∈ wsA, w.before args s = true) ∧ meth.sig.returnType = rt ∧ meth.locks = false ∧ meth.name = nm ∧ X.2.2.2.1 ≤ s.heap.size ∧ Kk X s s.heap
/-- the walk: from pc, with these locals, this stack and at least these cells, the method comes to its end -/
def G (X : Cx) (own : String) (b : ByteArray) (mx : Nat) (rt : Option FieldType) (nm : String) (R : Room) (Qf : List Frame → Array Value → State → State → Prop) (c n pc : Nat) (L : List (Nat × Value)) (st : List Value) (h : Hp) : Prop :=
  ∀ (p : Program) (e : Env) (s : State) (m : MethodId) (args : Array Value) (below : List Frame) (meth : Method) (cd : Code) (H : Heap) (locs : List Loc) (ls : Array Slot), In X own b mx rt nm p s m args meth cd → Rep X s H h → va_S (AA X) s.heap H locs → lv_has ls mx L → W p X.1 e R s m args below meth cd H locs c n (Qf below args s) (F0 m pc ls st)
abbrev Fm (X : Cx) (P : Option Value → Hp → Prop) (mc ms : Nat) : List Frame → Array Value → State → State → Prop := fun below args s => MQ below (Qc X P) args s mc ms (AA X)
def Ct (X : Cx) (Y : Mt) (k mc ms : Nat) (av : List Value) (h : Hp) (P : Option Value → Hp → Prop) : Prop :=
  Met X.1 Y.1 (wsY Y) (Rm k mc ms) (va_Pc av (fun U => X.2.2.2.1 ≤ U.heap.size ∧ Rep X U U.heap h ∧ Kk X U U.heap)) (Qc X P) mc ms (AA X)
/-- posts by the kind of answer -/
def PI (P : Int32 → Hp → Prop) : Option Value → Hp → Prop := fun v h => ∃ x, v = some (.int x) ∧ P x h
def PF (P : UInt32 → Hp → Prop) : Option Value → Hp → Prop := fun v h => ∃ x, v = some (.float x) ∧ P x h
def PV (P : Hp → Prop) : Option Value → Hp → Prop := fun v h => v = none ∧ P h
def PR (P : Option Nat → Hp → Prop) : Option Value → Hp → Prop := fun v h => ∃ x, v = some (va_rf x) ∧ P x h
def lk : List (Nat × Value) → Nat → Option Value
  | [], _ => none
  | q :: r, i => match Nat.beq q.1 i with
    | true => some q.2
    | false => lk r i
theorem lk_mem {i : Nat} {v : Value} : ∀ {L : List (Nat × Value)}, lk L i = some v → (i, v) ∈ L
  | [], h => by cases h
  | q :: r, h => by
    unfold lk at h
    split at h
    · next e =>
      obtain ⟨a, w⟩ := q
      cases h
      cases Nat.eq_of_beq_eq_true e
      exact List.mem_cons_self
    · exact List.mem_cons_of_mem _ (lk_mem h)
def ins (i : Nat) (v : Value) : List (Nat × Value) → List (Nat × Value)
  | [] => [(i, v)]
  | q :: r => match Nat.ble (i + 1) q.1 with
    | true => (i, v) :: q :: r
    | false => q :: ins i v r
theorem ins_mem {i : Nat} {v : Value} {q : Nat × Value} : ∀ {L : List (Nat × Value)}, q ∈ ins i v L → q ∈ (i, v) :: L
  | [], h => h
  | x :: r, h => by
    unfold ins at h
    split at h
    · exact h
    · rcases List.mem_cons.mp h with h | h
      · exact List.mem_cons_of_mem _ (h ▸ List.mem_cons_self)
      · rcases List.mem_cons.mp (ins_mem h) with h | h
        · exact h ▸ List.mem_cons_self
        · exact List.mem_cons_of_mem _ (List.mem_cons_of_mem _ h)
def st1 (L : List (Nat × Value)) (i : Nat) (v : Value) : List (Nat × Value) := ins i v (L.filter (fun q => !(q.1 == i) && !(q.1 + 1 == i && q.2.category == 2)))
def st2 (L : List (Nat × Value)) (i : Nat) (v : Value) : List (Nat × Value) := ins i v (L.filter (fun q => !(q.1 == i) && (!(q.1 == i + 1) && !(q.1 + 1 == i && q.2.category == 2))))
theorem st1_mem {L L1 : List (Nat × Value)} {i : Nat} {v : Value} (e : st1 L i v = L1) : ∀ q ∈ L1, q ∈ (i, v) :: L.filter (fun q => !(q.1 == i) && !(q.1 + 1 == i && q.2.category == 2)) := by
  subst e
  exact fun q hq => ins_mem hq
theorem st2_mem {L L1 : List (Nat × Value)} {i : Nat} {v : Value} (e : st2 L i v = L1) : ∀ q ∈ L1, q ∈ (i, v) :: L.filter (fun q => !(q.1 == i) && (!(q.1 == i + 1) && !(q.1 + 1 == i && q.2.category == 2))) := by
  subst e
  exact fun q hq => ins_mem hq
theorem lv_mono {ls : Array Slot} {nL : Nat} {l l' : List (Nat × Value)} (h : lv_has ls nL l) (k : ∀ q ∈ l', q ∈ l) : lv_has ls nL l' := ⟨h.1, h.2.1, fun q hq => h.2.2 q (k q hq)⟩
theorem lk_at {ls : Array Slot} {nL : Nat} {L : List (Nat × Value)} {i : Nat} {v : Value} (h : lv_has ls nL L) (k : lk L i = some v) : ls[i]? = some (.val v) := h.2.2 (i, v) (lk_mem k)
/-- a method's words: virtual, static, constructor -/
def Mv (Y : Mt) (n : Nat) : Prop := (Cond.code Y.1 Y.2.1 Y.2.2.1 Y.2.2.2 ∈ lw_tbl ∧ Cond.initialized Y.1.cls ∈ lw_tbl ∧ plainName Y.1.cls = true ∧ Y.1.cls ≠ "java/lang/invoke/MethodHandle" ∧ Y.1.cls ≠ "java/lang/invoke/VarHandle" ∧ (parseMethodDescriptor Y.1.desc).map (fun d => d.parameters.length) = some n ∧ Y.2.2.1 ≤ 21) ∧ Cond.instanceMethod Y.1 ∈ lw_tbl ∧ Cond.selects Y.1.cls Y.1 Y.1 ∈ lw_tbl
def Ms (Y : Mt) (n : Nat) : Prop := (Cond.code Y.1 Y.2.1 Y.2.2.1 Y.2.2.2 ∈ lw_tbl ∧ Cond.initialized Y.1.cls ∈ lw_tbl ∧ plainName Y.1.cls = true ∧ Y.1.cls ≠ "java/lang/invoke/MethodHandle" ∧ Y.1.cls ≠ "java/lang/invoke/VarHandle" ∧ (parseMethodDescriptor Y.1.desc).map (fun d => d.parameters.length) = some n ∧ Y.2.2.1 ≤ 21) ∧ Cond.static Y.1 ∈ lw_tbl
def Mi (Y : Mt) (n : Nat) : Prop := (Cond.code Y.1 Y.2.1 Y.2.2.1 Y.2.2.2 ∈ lw_tbl ∧ Cond.initialized Y.1.cls ∈ lw_tbl ∧ plainName Y.1.cls = true ∧ Y.1.cls ≠ "java/lang/invoke/MethodHandle" ∧ Y.1.cls ≠ "java/lang/invoke/VarHandle" ∧ (parseMethodDescriptor Y.1.desc).map (fun d => d.parameters.length) = some n ∧ Y.2.2.1 ≤ 21) ∧ Cond.instanceMethod Y.1 ∈ lw_tbl ∧ Y.1.name = "<init>" ∧ Y.2.2.2 = none
end GX
section GR
variable {X : Cx} {own : String} {b : ByteArray} {mx : Nat} {rt : Option FieldType} {nm : String} {R : Room} {Qf : List Frame → Array Value → State → State → Prop} {c n pc : Nat} {L : List (Nat × Value)} {st : List Value} {h : Hp}
set_option maxHeartbeats 1000000 in
theorem Ct.ofG {Y : Mt} {k mc ms : Nat} {av : List Value} {P : Option Value → Hp → Prop} (hy : plainName Y.1.cls = true) (hn : (lg_sl av).length ≤ Y.2.2.1)
    (g : G X Y.1.cls Y.2.1 Y.2.2.1 Y.2.2.2 Y.1.name (Rm k mc ms) (Fm X P mc ms) 0 0 0 (lv_args 0 av) [] h) : Ct X Y k mc ms av h P := by
  refine Met.ofW (cc := Y.2.1) (maxL := Y.2.2.1) (ret := Y.2.2.2) hy rfl ?_
  intro p e s m args below meth cd s₁ B hml hv
  obtain ⟨rfl, hsz, hR, hK⟩ := hv
  have hts := atoms_spec (ws := wsY Y) B.pre
  rw [lg_entry_eq]
  exact g p e s m av.toArray below meth cd s.heap [] _ ⟨B.exec, B.bytes, hml, findClass_of_methodNamed B.named, fun w hw => hts w (List.mem_cons_of_mem _ hw), B.returns, B.notSynchronized, (name_of_methodNamed B.named B.method).1, hsz, hK⟩ hR va_S.rf (lv_entry av hn)
theorem g_pick {L' : List (Nat × Value)} (ks : List Nat) (e : lv_pick L ks = L') (k : G X own b mx rt nm R Qf c n pc L' st h) : G X own b mx rt nm R Qf c n pc L st h :=
  fun p ev s m args below meth cd H locs ls hI hR hS hl => k p ev s m args below meth cd H locs ls hI hR hS (lv_sub hl ks e)
theorem g_heap {h' : Hp} (e : ∀ (a : Nat) (x : va_E), h' a = some x → h a = some x) (k : G X own b mx rt nm R Qf c n pc L st h') : G X own b mx rt nm R Qf c n pc L st h :=
  fun p ev s m args below meth cd H locs ls hI hR hS hl => k p ev s m args below meth cd H locs ls hI (by
    obtain ⟨ws, h1, h2, h3⟩ := hR
    exact ⟨ws, h1, h2, fun a x q => h3 a x (e a x q)⟩) hS hl
theorem g_stk {st' : List Value} (e : st = st') (k : G X own b mx rt nm R Qf c n pc L st' h) : G X own b mx rt nm R Qf c n pc L st h := e ▸ k
theorem g_wid {c' n' : Nat} (h1 : c ≤ c') (h2 : n ≤ n') (k : G X own b mx rt nm R Qf c' n' pc L st h) : G X own b mx rt nm R Qf c n pc L st h :=
  fun p ev s m args below meth cd H locs ls hI hR hS hl => W.widen h1 h2 (k p ev s m args below meth cd H locs ls hI hR hS hl)

theorem g_iconst {i : Int} {v : Int32} (hd : decode b pc = .ok (.iconst i, 1)) (hv : Int32.ofInt i = v) (k : G X own b mx rt nm R Qf c n (pc + 1) L (.int v :: st) h) : G X own b mx rt nm R Qf c n pc L (st) h :=
  fun p ev s m args below meth cd H locs ls hI hR hS hl => lv_iconst hI.1 hI.2.1 hd hv (k p ev s m args below meth cd H locs ls hI hR hS hl)
theorem g_bipush {i : Int} {v : Int32} (hd : decode b pc = .ok (.bipush i, 2)) (hv : (Int8.ofInt i).toInt32 = v) (k : G X own b mx rt nm R Qf c n (pc + 2) L (.int v :: st) h) : G X own b mx rt nm R Qf c n pc L (st) h :=
  fun p ev s m args below meth cd H locs ls hI hR hS hl => lv_bipush hI.1 hI.2.1 hd hv (k p ev s m args below meth cd H locs ls hI hR hS hl)
theorem g_sipush {i : Int} {v : Int32} (hd : decode b pc = .ok (.sipush i, 3)) (hv : (Int16.ofInt i).toInt32 = v) (k : G X own b mx rt nm R Qf c n (pc + 3) L (.int v :: st) h) : G X own b mx rt nm R Qf c n pc L (st) h :=
  fun p ev s m args below meth cd H locs ls hI hR hS hl => lv_sipush hI.1 hI.2.1 hd hv (k p ev s m args below meth cd H locs ls hI hR hS hl)
theorem g_lconst {i : Fin 2} {v : Int64} (hd : decode b pc = .ok (.lconst i, 1)) (hv : Int64.ofNat (i : Nat) = v) (k : G X own b mx rt nm R Qf c n (pc + 1) L (.long v :: st) h) : G X own b mx rt nm R Qf c n pc L (st) h :=
  fun p ev s m args below meth cd H locs ls hI hR hS hl => lv_lconst hI.1 hI.2.1 hd hv (k p ev s m args below meth cd H locs ls hI hR hS hl)
theorem g_null  (hd : decode b pc = .ok (.aconst_null, 1))  (k : G X own b mx rt nm R Qf c n (pc + 1) L (.null :: st) h) : G X own b mx rt nm R Qf c n pc L (st) h :=
  fun p ev s m args below meth cd H locs ls hI hR hS hl => lv_null hI.1 hI.2.1 hd  (k p ev s m args below meth cd H locs ls hI hR hS hl)
theorem g_dup {v : Value} (hd : decode b pc = .ok (.dup, 1)) (hv : v.category = 1) (k : G X own b mx rt nm R Qf c n (pc + 1) L (v :: v :: st) h) : G X own b mx rt nm R Qf c n pc L (v :: st) h :=
  fun p ev s m args below meth cd H locs ls hI hR hS hl => lv_dup hI.1 hI.2.1 hd hv (k p ev s m args below meth cd H locs ls hI hR hS hl)
theorem g_pop {v : Value} (hd : decode b pc = .ok (.pop, 1)) (hv : v.category = 1) (k : G X own b mx rt nm R Qf c n (pc + 1) L (st) h) : G X own b mx rt nm R Qf c n pc L (v :: st) h :=
  fun p ev s m args below meth cd H locs ls hI hR hS hl => lv_pop hI.1 hI.2.1 hd hv (k p ev s m args below meth cd H locs ls hI hR hS hl)
theorem g_dup2 {v w : Value} (hd : decode b pc = .ok (.dup2, 1)) (hv : v.category = 1) (hw : w.category = 1) (k : G X own b mx rt nm R Qf c n (pc + 1) L (v :: w :: v :: w :: st) h) : G X own b mx rt nm R Qf c n pc L (v :: w :: st) h :=
  fun p ev s m args below meth cd H locs ls hI hR hS hl => lv_dup2_11 hI.1 hI.2.1 hd hv hw (k p ev s m args below meth cd H locs ls hI hR hS hl)
theorem g_fconst0 (hd : decode b pc = .ok (.fconst 0, 1)) (k : G X own b mx rt nm R Qf c n (pc + 1) L (.float 0 :: st) h) : G X own b mx rt nm R Qf c n pc L st h :=
  fun p ev s m args below meth cd H locs ls hI hR hS hl => lv_fconst0 hI.1 hI.2.1 hd (k p ev s m args below meth cd H locs ls hI hR hS hl)
theorem g_fconst1 (hd : decode b pc = .ok (.fconst 1, 1)) (k : G X own b mx rt nm R Qf c n (pc + 1) L (.float 1065353216 :: st) h) : G X own b mx rt nm R Qf c n pc L st h :=
  fun p ev s m args below meth cd H locs ls hI hR hS hl => lv_fconst1 hI.1 hI.2.1 hd (k p ev s m args below meth cd H locs ls hI hR hS hl)
theorem g_fconst2 (hd : decode b pc = .ok (.fconst 2, 1)) (k : G X own b mx rt nm R Qf c n (pc + 1) L (.float 1073741824 :: st) h) : G X own b mx rt nm R Qf c n pc L st h :=
  fun p ev s m args below meth cd H locs ls hI hR hS hl => lv_fconst2 hI.1 hI.2.1 hd (k p ev s m args below meth cd H locs ls hI hR hS hl)
theorem g_dconst0 (hd : decode b pc = .ok (.dconst 0, 1)) (k : G X own b mx rt nm R Qf c n (pc + 1) L (.double 0 :: st) h) : G X own b mx rt nm R Qf c n pc L st h :=
  fun p ev s m args below meth cd H locs ls hI hR hS hl => lv_dconst0 hI.1 hI.2.1 hd (k p ev s m args below meth cd H locs ls hI hR hS hl)
theorem g_iadd {x y : Int32} (hd : decode b pc = .ok (.iadd, 1))  (k : G X own b mx rt nm R Qf c n (pc + 1) L (.int (x + y) :: st) h) : G X own b mx rt nm R Qf c n pc L (.int y :: .int x :: st) h :=
  fun p ev s m args below meth cd H locs ls hI hR hS hl => lv_iadd hI.1 hI.2.1 hd  (k p ev s m args below meth cd H locs ls hI hR hS hl)
theorem g_isub {x y : Int32} (hd : decode b pc = .ok (.isub, 1))  (k : G X own b mx rt nm R Qf c n (pc + 1) L (.int (x - y) :: st) h) : G X own b mx rt nm R Qf c n pc L (.int y :: .int x :: st) h :=
  fun p ev s m args below meth cd H locs ls hI hR hS hl => lv_isub hI.1 hI.2.1 hd  (k p ev s m args below meth cd H locs ls hI hR hS hl)
theorem g_imul {x y : Int32} (hd : decode b pc = .ok (.imul, 1))  (k : G X own b mx rt nm R Qf c n (pc + 1) L (.int (x * y) :: st) h) : G X own b mx rt nm R Qf c n pc L (.int y :: .int x :: st) h :=
  fun p ev s m args below meth cd H locs ls hI hR hS hl => lv_imul hI.1 hI.2.1 hd  (k p ev s m args below meth cd H locs ls hI hR hS hl)
theorem g_iand {x y : Int32} (hd : decode b pc = .ok (.iand, 1))  (k : G X own b mx rt nm R Qf c n (pc + 1) L (.int (x &&& y) :: st) h) : G X own b mx rt nm R Qf c n pc L (.int y :: .int x :: st) h :=
  fun p ev s m args below meth cd H locs ls hI hR hS hl => lv_iand hI.1 hI.2.1 hd  (k p ev s m args below meth cd H locs ls hI hR hS hl)
theorem g_ior {x y : Int32} (hd : decode b pc = .ok (.ior, 1))  (k : G X own b mx rt nm R Qf c n (pc + 1) L (.int (x ||| y) :: st) h) : G X own b mx rt nm R Qf c n pc L (.int y :: .int x :: st) h :=
  fun p ev s m args below meth cd H locs ls hI hR hS hl => lv_ior hI.1 hI.2.1 hd  (k p ev s m args below meth cd H locs ls hI hR hS hl)
theorem g_ladd {x y : Int64} (hd : decode b pc = .ok (.ladd, 1))  (k : G X own b mx rt nm R Qf c n (pc + 1) L (.long (x + y) :: st) h) : G X own b mx rt nm R Qf c n pc L (.long y :: .long x :: st) h :=
  fun p ev s m args below meth cd H locs ls hI hR hS hl => lv_ladd hI.1 hI.2.1 hd  (k p ev s m args below meth cd H locs ls hI hR hS hl)
theorem g_lmul {x y : Int64} (hd : decode b pc = .ok (.lmul, 1))  (k : G X own b mx rt nm R Qf c n (pc + 1) L (.long (x * y) :: st) h) : G X own b mx rt nm R Qf c n pc L (.long y :: .long x :: st) h :=
  fun p ev s m args below meth cd H locs ls hI hR hS hl => lv_lmul hI.1 hI.2.1 hd  (k p ev s m args below meth cd H locs ls hI hR hS hl)
theorem g_ishl {x y : Int32} (hd : decode b pc = .ok (.ishl, 1))  (k : G X own b mx rt nm R Qf c n (pc + 1) L (.int (x <<< (y &&& 31)) :: st) h) : G X own b mx rt nm R Qf c n pc L (.int y :: .int x :: st) h :=
  fun p ev s m args below meth cd H locs ls hI hR hS hl => lv_ishl hI.1 hI.2.1 hd  (k p ev s m args below meth cd H locs ls hI hR hS hl)
theorem g_idiv {x y : Int32} (hd : decode b pc = .ok (.idiv, 1)) (hv : ¬ y = 0) (k : G X own b mx rt nm R Qf c n (pc + 1) L (.int (x / y) :: st) h) : G X own b mx rt nm R Qf c n pc L (.int y :: .int x :: st) h :=
  fun p ev s m args below meth cd H locs ls hI hR hS hl => lv_idiv hI.1 hI.2.1 hd hv (k p ev s m args below meth cd H locs ls hI hR hS hl)
theorem g_irem {x y : Int32} (hd : decode b pc = .ok (.irem, 1)) (hv : ¬ y = 0) (k : G X own b mx rt nm R Qf c n (pc + 1) L (.int (x - x / y * y) :: st) h) : G X own b mx rt nm R Qf c n pc L (.int y :: .int x :: st) h :=
  fun p ev s m args below meth cd H locs ls hI hR hS hl => lv_irem hI.1 hI.2.1 hd hv (k p ev s m args below meth cd H locs ls hI hR hS hl)
theorem g_ldiv {x y : Int64} (hd : decode b pc = .ok (.ldiv, 1)) (hv : ¬ y = 0) (k : G X own b mx rt nm R Qf c n (pc + 1) L (.long (x / y) :: st) h) : G X own b mx rt nm R Qf c n pc L (.long y :: .long x :: st) h :=
  fun p ev s m args below meth cd H locs ls hI hR hS hl => lv_ldiv hI.1 hI.2.1 hd hv (k p ev s m args below meth cd H locs ls hI hR hS hl)
theorem g_i2l {x : Int32} (hd : decode b pc = .ok (.i2l, 1))  (k : G X own b mx rt nm R Qf c n (pc + 1) L (.long x.toInt64 :: st) h) : G X own b mx rt nm R Qf c n pc L (.int x :: st) h :=
  fun p ev s m args below meth cd H locs ls hI hR hS hl => lv_i2l hI.1 hI.2.1 hd rfl (k p ev s m args below meth cd H locs ls hI hR hS hl)
theorem g_l2i {x : Int64} (hd : decode b pc = .ok (.l2i, 1))  (k : G X own b mx rt nm R Qf c n (pc + 1) L (.int x.toInt32 :: st) h) : G X own b mx rt nm R Qf c n pc L (.long x :: st) h :=
  fun p ev s m args below meth cd H locs ls hI hR hS hl => lv_l2i hI.1 hI.2.1 hd rfl (k p ev s m args below meth cd H locs ls hI hR hS hl)
theorem g_i2c {x v : Int32} (hd : decode b pc = .ok (.i2c, 1)) (hv : (x.toUInt32 % 65536).toInt32 = v) (k : G X own b mx rt nm R Qf c n (pc + 1) L (.int v :: st) h) : G X own b mx rt nm R Qf c n pc L (.int x :: st) h :=
  fun p ev s m args below meth cd H locs ls hI hR hS hl => lv_i2c hI.1 hI.2.1 hd hv (k p ev s m args below meth cd H locs ls hI hR hS hl)
theorem g_i2f {x : Int32} (hd : decode b pc = .ok (.i2f, 1))  (k : G X own b mx rt nm R Qf c n (pc + 1) L (.float (FP.i2f x) :: st) h) : G X own b mx rt nm R Qf c n pc L (.int x :: st) h :=
  fun p ev s m args below meth cd H locs ls hI hR hS hl => lv_i2f hI.1 hI.2.1 hd  (k p ev s m args below meth cd H locs ls hI hR hS hl)
theorem g_i2d {x : Int32} (hd : decode b pc = .ok (.i2d, 1))  (k : G X own b mx rt nm R Qf c n (pc + 1) L (.double (FP.i2d x) :: st) h) : G X own b mx rt nm R Qf c n pc L (.int x :: st) h :=
  fun p ev s m args below meth cd H locs ls hI hR hS hl => lv_i2d hI.1 hI.2.1 hd  (k p ev s m args below meth cd H locs ls hI hR hS hl)
theorem g_f2i {x : UInt32} (hd : decode b pc = .ok (.f2i, 1))  (k : G X own b mx rt nm R Qf c n (pc + 1) L (.int (FP.f2i x) :: st) h) : G X own b mx rt nm R Qf c n pc L (.float x :: st) h :=
  fun p ev s m args below meth cd H locs ls hI hR hS hl => lv_f2i hI.1 hI.2.1 hd  (k p ev s m args below meth cd H locs ls hI hR hS hl)
theorem g_f2d {x : UInt32} (hd : decode b pc = .ok (.f2d, 1)) (hv : vf_n64 (FP.f2d x)) (k : G X own b mx rt nm R Qf c n (pc + 1) L (.double (FP.f2d x) :: st) h) : G X own b mx rt nm R Qf c n pc L (.float x :: st) h :=
  fun p ev s m args below meth cd H locs ls hI hR hS hl => lv_f2d hI.1 hI.2.1 hd hv (k p ev s m args below meth cd H locs ls hI hR hS hl)
theorem g_d2f {x : UInt64} (hd : decode b pc = .ok (.d2f, 1)) (hv : vf_n32 (FP.d2f x)) (k : G X own b mx rt nm R Qf c n (pc + 1) L (.float (FP.d2f x) :: st) h) : G X own b mx rt nm R Qf c n pc L (.double x :: st) h :=
  fun p ev s m args below meth cd H locs ls hI hR hS hl => lv_d2f hI.1 hI.2.1 hd hv (k p ev s m args below meth cd H locs ls hI hR hS hl)
theorem g_fmul {x y : UInt32} (hd : decode b pc = .ok (.fmul, 1)) (hv : vf_n32 (FP.fmul x y)) (k : G X own b mx rt nm R Qf c n (pc + 1) L (.float (FP.fmul x y) :: st) h) : G X own b mx rt nm R Qf c n pc L (.float y :: .float x :: st) h :=
  fun p ev s m args below meth cd H locs ls hI hR hS hl => lv_fmul hI.1 hI.2.1 hd hv (k p ev s m args below meth cd H locs ls hI hR hS hl)
theorem g_fdiv {x y : UInt32} (hd : decode b pc = .ok (.fdiv, 1)) (hv : vf_n32 (FP.fdiv x y)) (k : G X own b mx rt nm R Qf c n (pc + 1) L (.float (FP.fdiv x y) :: st) h) : G X own b mx rt nm R Qf c n pc L (.float y :: .float x :: st) h :=
  fun p ev s m args below meth cd H locs ls hI hR hS hl => lv_fdiv hI.1 hI.2.1 hd hv (k p ev s m args below meth cd H locs ls hI hR hS hl)
theorem g_fsub {x y : UInt32} (hd : decode b pc = .ok (.fsub, 1)) (hv : vf_n32 (FP.fsub x y)) (k : G X own b mx rt nm R Qf c n (pc + 1) L (.float (FP.fsub x y) :: st) h) : G X own b mx rt nm R Qf c n pc L (.float y :: .float x :: st) h :=
  fun p ev s m args below meth cd H locs ls hI hR hS hl => lv_fsub hI.1 hI.2.1 hd hv (k p ev s m args below meth cd H locs ls hI hR hS hl)
theorem g_dadd {x y : UInt64} (hd : decode b pc = .ok (.dadd, 1)) (hv : vf_n64 (FP.dadd x y)) (k : G X own b mx rt nm R Qf c n (pc + 1) L (.double (FP.dadd x y) :: st) h) : G X own b mx rt nm R Qf c n pc L (.double y :: .double x :: st) h :=
  fun p ev s m args below meth cd H locs ls hI hR hS hl => lv_dadd hI.1 hI.2.1 hd hv (k p ev s m args below meth cd H locs ls hI hR hS hl)
theorem g_ddiv {x y : UInt64} (hd : decode b pc = .ok (.ddiv, 1)) (hv : vf_n64 (FP.ddiv x y)) (k : G X own b mx rt nm R Qf c n (pc + 1) L (.double (FP.ddiv x y) :: st) h) : G X own b mx rt nm R Qf c n pc L (.double y :: .double x :: st) h :=
  fun p ev s m args below meth cd H locs ls hI hR hS hl => lv_ddiv hI.1 hI.2.1 hd hv (k p ev s m args below meth cd H locs ls hI hR hS hl)
theorem g_fcmp {x y : UInt32} {op : CmpOp} (hd : decode b pc = .ok (.fcmp op, 1))  (k : G X own b mx rt nm R Qf c n (pc + 1) L (.int (Op.cmpValue (FP.fcmp x y) op) :: st) h) : G X own b mx rt nm R Qf c n pc L (.float y :: .float x :: st) h :=
  fun p ev s m args below meth cd H locs ls hI hR hS hl => lv_fcmp hI.1 hI.2.1 hd  (k p ev s m args below meth cd H locs ls hI hR hS hl)
theorem g_lcmp {x y : Int64} (hd : decode b pc = .ok (.lcmp, 1)) (k : G X own b mx rt nm R Qf c n (pc + 1) L (.int (lg_cmp x y) :: st) h) : G X own b mx rt nm R Qf c n pc L (.long y :: .long x :: st) h :=
  fun p ev s m args below meth cd H locs ls hI hR hS hl => W.lcmp hI.1 hI.2.1 hd (k p ev s m args below meth cd H locs ls hI hR hS hl)
theorem g_iload_n {i : Fin 4} {x : Int32} (hd : decode b pc = .ok (.iload_n i, 1)) (hv : lk L (i : Nat) = some (.int x)) (k : G X own b mx rt nm R Qf c n (pc + 1) L (.int x :: st) h) : G X own b mx rt nm R Qf c n pc L st h :=
  fun p ev s m args below meth cd H locs ls hI hR hS hl => lv_iload_n hI.1 hI.2.1 hd rfl (lk_at hl hv) (k p ev s m args below meth cd H locs ls hI hR hS hl)
theorem g_lload_n {i : Fin 4} {x : Int64} (hd : decode b pc = .ok (.lload_n i, 1)) (hv : lk L (i : Nat) = some (.long x)) (k : G X own b mx rt nm R Qf c n (pc + 1) L (.long x :: st) h) : G X own b mx rt nm R Qf c n pc L st h :=
  fun p ev s m args below meth cd H locs ls hI hR hS hl => lv_lload_n hI.1 hI.2.1 hd rfl (lk_at hl hv) (k p ev s m args below meth cd H locs ls hI hR hS hl)
theorem g_fload_n {i : Fin 4} {x : UInt32} (hd : decode b pc = .ok (.fload_n i, 1)) (hv : lk L (i : Nat) = some (.float x)) (k : G X own b mx rt nm R Qf c n (pc + 1) L (.float x :: st) h) : G X own b mx rt nm R Qf c n pc L st h :=
  fun p ev s m args below meth cd H locs ls hI hR hS hl => lv_fload_n hI.1 hI.2.1 hd rfl (lk_at hl hv) (k p ev s m args below meth cd H locs ls hI hR hS hl)
theorem g_dload_n {i : Fin 4} {x : UInt64} (hd : decode b pc = .ok (.dload_n i, 1)) (hv : lk L (i : Nat) = some (.double x)) (k : G X own b mx rt nm R Qf c n (pc + 1) L (.double x :: st) h) : G X own b mx rt nm R Qf c n pc L st h :=
  fun p ev s m args below meth cd H locs ls hI hR hS hl => lv_dload_n hI.1 hI.2.1 hd rfl (lk_at hl hv) (k p ev s m args below meth cd H locs ls hI hR hS hl)
theorem g_iload {i : Nat} {x : Int32} (hd : decode b pc = .ok (.iload i, 2)) (hv : lk L i = some (.int x)) (k : G X own b mx rt nm R Qf c n (pc + 2) L (.int x :: st) h) : G X own b mx rt nm R Qf c n pc L st h :=
  fun p ev s m args below meth cd H locs ls hI hR hS hl => lv_iload hI.1 hI.2.1 hd (lk_at hl hv) (k p ev s m args below meth cd H locs ls hI hR hS hl)
theorem g_lload {i : Nat} {x : Int64} (hd : decode b pc = .ok (.lload i, 2)) (hv : lk L i = some (.long x)) (k : G X own b mx rt nm R Qf c n (pc + 2) L (.long x :: st) h) : G X own b mx rt nm R Qf c n pc L st h :=
  fun p ev s m args below meth cd H locs ls hI hR hS hl => lv_lload hI.1 hI.2.1 hd (lk_at hl hv) (k p ev s m args below meth cd H locs ls hI hR hS hl)
def isRf (v : Value) : Prop := v = .null ∨ ∃ a, v = .ref a
theorem isRf_r {a : Nat} : isRf (.ref a) := Or.inr ⟨a, rfl⟩
theorem isRf_n : isRf .null := Or.inl rfl
theorem isRf_o {r : Option Nat} : isRf (va_rf r) := by cases r; exact isRf_n; exact isRf_r
theorem g_aload_n {i : Fin 4} {v : Value} (hd : decode b pc = .ok (.aload_n i, 1)) (hv : lk L (i : Nat) = some v) (hr : isRf v) (k : G X own b mx rt nm R Qf c n (pc + 1) L (v :: st) h) : G X own b mx rt nm R Qf c n pc L st h := by
  intro p ev s m args below meth cd H locs ls hI hR hS hl
  rcases hr with rfl | ⟨a, rfl⟩
  · exact lv_aload_nN hI.1 hI.2.1 hd rfl (lk_at hl hv) (k p ev s m args below meth cd H locs ls hI hR hS hl)
  · exact lv_aload_n hI.1 hI.2.1 hd rfl (lk_at hl hv) (k p ev s m args below meth cd H locs ls hI hR hS hl)
theorem g_aload {i : Nat} {v : Value} (hd : decode b pc = .ok (.aload i, 2)) (hv : lk L i = some v) (hr : isRf v) (k : G X own b mx rt nm R Qf c n (pc + 2) L (v :: st) h) : G X own b mx rt nm R Qf c n pc L st h := by
  intro p ev s m args below meth cd H locs ls hI hR hS hl
  rcases hr with rfl | ⟨a, rfl⟩
  · exact lv_aloadN hI.1 hI.2.1 hd (lk_at hl hv) (k p ev s m args below meth cd H locs ls hI hR hS hl)
  · exact lv_aload hI.1 hI.2.1 hd (lk_at hl hv) (k p ev s m args below meth cd H locs ls hI hR hS hl)
theorem g_istore_n {i : Fin 4} {x : Int32} {L1 : List (Nat × Value)} (hd : decode b pc = .ok (.istore_n i, 1)) (hn : (i : Nat) + 0 < mx) (hL : st1 L (i : Nat) (.int x) = L1) (k : G X own b mx rt nm R Qf c n (pc + 1) L1 st h) : G X own b mx rt nm R Qf c n pc L (.int x :: st) h :=
  fun p ev s m args below meth cd H locs ls hI hR hS hl => lv_istore_n hI.1 hI.2.1 hd rfl hl hn rfl (fun ls hl => k p ev s m args below meth cd H locs ls hI hR hS (lv_mono hl (st1_mem hL)))
theorem g_fstore_n {i : Fin 4} {x : UInt32} {L1 : List (Nat × Value)} (hd : decode b pc = .ok (.fstore_n i, 1)) (hn : (i : Nat) + 0 < mx) (hL : st1 L (i : Nat) (.float x) = L1) (k : G X own b mx rt nm R Qf c n (pc + 1) L1 st h) : G X own b mx rt nm R Qf c n pc L (.float x :: st) h :=
  fun p ev s m args below meth cd H locs ls hI hR hS hl => lv_fstore_n hI.1 hI.2.1 hd rfl hl hn rfl (fun ls hl => k p ev s m args below meth cd H locs ls hI hR hS (lv_mono hl (st1_mem hL)))
theorem g_lstore_n {i : Fin 4} {x : Int64} {L1 : List (Nat × Value)} (hd : decode b pc = .ok (.lstore_n i, 1)) (hn : (i : Nat) + 1 < mx) (hL : st2 L (i : Nat) (.long x) = L1) (k : G X own b mx rt nm R Qf c n (pc + 1) L1 st h) : G X own b mx rt nm R Qf c n pc L (.long x :: st) h :=
  fun p ev s m args below meth cd H locs ls hI hR hS hl => lv_lstore_n hI.1 hI.2.1 hd rfl hl hn rfl (fun ls hl => k p ev s m args below meth cd H locs ls hI hR hS (lv_mono hl (st2_mem hL)))
theorem g_dstore_n {i : Fin 4} {x : UInt64} {L1 : List (Nat × Value)} (hd : decode b pc = .ok (.dstore_n i, 1)) (hn : (i : Nat) + 1 < mx) (hL : st2 L (i : Nat) (.double x) = L1) (k : G X own b mx rt nm R Qf c n (pc + 1) L1 st h) : G X own b mx rt nm R Qf c n pc L (.double x :: st) h :=
  fun p ev s m args below meth cd H locs ls hI hR hS hl => lv_dstore_n hI.1 hI.2.1 hd rfl hl hn rfl (fun ls hl => k p ev s m args below meth cd H locs ls hI hR hS (lv_mono hl (st2_mem hL)))
theorem g_istore {i : Nat} {x : Int32} {L1 : List (Nat × Value)} (hd : decode b pc = .ok (.istore i, 2)) (hn : i + 0 < mx) (hL : st1 L i (.int x) = L1) (k : G X own b mx rt nm R Qf c n (pc + 2) L1 st h) : G X own b mx rt nm R Qf c n pc L (.int x :: st) h :=
  fun p ev s m args below meth cd H locs ls hI hR hS hl => lv_istore hI.1 hI.2.1 hd hl hn rfl (fun ls hl => k p ev s m args below meth cd H locs ls hI hR hS (lv_mono hl (st1_mem hL)))
theorem g_lstore {i : Nat} {x : Int64} {L1 : List (Nat × Value)} (hd : decode b pc = .ok (.lstore i, 2)) (hn : i + 1 < mx) (hL : st2 L i (.long x) = L1) (k : G X own b mx rt nm R Qf c n (pc + 2) L1 st h) : G X own b mx rt nm R Qf c n pc L (.long x :: st) h :=
  fun p ev s m args below meth cd H locs ls hI hR hS hl => lv_lstore hI.1 hI.2.1 hd hl hn rfl (fun ls hl => k p ev s m args below meth cd H locs ls hI hR hS (lv_mono hl (st2_mem hL)))
theorem g_astore_n {i : Fin 4} {v : Value} {L1 : List (Nat × Value)} (hd : decode b pc = .ok (.astore_n i, 1)) (hr : isRf v) (hn : (i : Nat) + 0 < mx) (hL : st1 L (i : Nat) v = L1) (k : G X own b mx rt nm R Qf c n (pc + 1) L1 st h) : G X own b mx rt nm R Qf c n pc L (v :: st) h := by
  intro p ev s m args below meth cd H locs ls hI hR hS hl
  rcases hr with rfl | ⟨a, rfl⟩
  · exact lv_astore_nN hI.1 hI.2.1 hd rfl hl hn rfl (fun ls hl => k p ev s m args below meth cd H locs ls hI hR hS (lv_mono hl (st1_mem hL)))
  · exact lv_astore_n hI.1 hI.2.1 hd rfl hl hn rfl (fun ls hl => k p ev s m args below meth cd H locs ls hI hR hS (lv_mono hl (st1_mem hL)))
theorem g_astore {i : Nat} {v : Value} {L1 : List (Nat × Value)} (hd : decode b pc = .ok (.astore i, 2)) (hr : isRf v) (hn : i + 0 < mx) (hL : st1 L i v = L1) (k : G X own b mx rt nm R Qf c n (pc + 2) L1 st h) : G X own b mx rt nm R Qf c n pc L (v :: st) h := by
  intro p ev s m args below meth cd H locs ls hI hR hS hl
  rcases hr with rfl | ⟨a, rfl⟩
  · exact lv_astoreN hI.1 hI.2.1 hd hl hn rfl (fun ls hl => k p ev s m args below meth cd H locs ls hI hR hS (lv_mono hl (st1_mem hL)))
  · exact lv_astore hI.1 hI.2.1 hd hl hn rfl (fun ls hl => k p ev s m args below meth cd H locs ls hI hR hS (lv_mono hl (st1_mem hL)))
theorem g_iinc {i : Nat} {d : Int} {x v : Int32} {L1 : List (Nat × Value)} (hd : decode b pc = .ok (.iinc i d, 3)) (hv : lk L i = some (.int x)) (hx : x + Int32.ofInt d = v) (hn : i + 0 < mx) (hL : st1 L i (.int v) = L1) (k : G X own b mx rt nm R Qf c n (pc + 3) L1 st h) : G X own b mx rt nm R Qf c n pc L st h := by
  intro p ev s m args below meth cd H locs ls hI hR hS hl
  obtain ⟨j, hj⟩ := List.mem_iff_getElem?.mp (lk_mem hv)
  exact lv_iinc hI.1 hI.2.1 hd hl hj hx hn rfl (fun ls hl => k p ev s m args below meth cd H locs ls hI hR hS (lv_mono hl (st1_mem hL)))
theorem g_goto {off : Int} {tgt : Nat} (hd : decode b pc = .ok (.goto off, 3)) (ht : (pc : Int) + off = (tgt : Int)) (k : G X own b mx rt nm R Qf c n tgt L st h) : G X own b mx rt nm R Qf c n pc L st h :=
  fun p ev s m args below meth cd H locs ls hI hR hS hl => lv_goto hI.1 hI.2.1 hd ht (k p ev s m args below meth cd H locs ls hI hR hS hl)
theorem g_icmp_eq {x y : Int32} {off : Int} {tgt : Nat} (hd : decode b pc = .ok (.if_icmp .eq off, 3)) (ht : (pc : Int) + off = (tgt : Int)) (kt : x = y → G X own b mx rt nm R Qf c n tgt L st h) (kf : ¬ x = y → G X own b mx rt nm R Qf c n (pc + 3) L st h) : G X own b mx rt nm R Qf c n pc L (.int y :: .int x :: st) h :=
  fun p ev s m args below meth cd H locs ls hI hR hS hl => lv_icmp_eq hI.1 hI.2.1 hd ht (fun q => kt q p ev s m args below meth cd H locs ls hI hR hS hl) (fun q => kf q p ev s m args below meth cd H locs ls hI hR hS hl)
theorem g_if_eq {x : Int32} {off : Int} {tgt : Nat} (hd : decode b pc = .ok (.ifCond .eq off, 3)) (ht : (pc : Int) + off = (tgt : Int)) (kt : x = 0 → G X own b mx rt nm R Qf c n tgt L st h) (kf : ¬ x = 0 → G X own b mx rt nm R Qf c n (pc + 3) L st h) : G X own b mx rt nm R Qf c n pc L (.int x :: st) h :=
  fun p ev s m args below meth cd H locs ls hI hR hS hl => lv_if_eq hI.1 hI.2.1 hd ht (fun q => kt q p ev s m args below meth cd H locs ls hI hR hS hl) (fun q => kf q p ev s m args below meth cd H locs ls hI hR hS hl)
theorem g_icmp_ne {x y : Int32} {off : Int} {tgt : Nat} (hd : decode b pc = .ok (.if_icmp .ne off, 3)) (ht : (pc : Int) + off = (tgt : Int)) (kt : ¬ x = y → G X own b mx rt nm R Qf c n tgt L st h) (kf : x = y → G X own b mx rt nm R Qf c n (pc + 3) L st h) : G X own b mx rt nm R Qf c n pc L (.int y :: .int x :: st) h :=
  fun p ev s m args below meth cd H locs ls hI hR hS hl => lv_icmp_ne hI.1 hI.2.1 hd ht (fun q => kt q p ev s m args below meth cd H locs ls hI hR hS hl) (fun q => kf q p ev s m args below meth cd H locs ls hI hR hS hl)
theorem g_if_ne {x : Int32} {off : Int} {tgt : Nat} (hd : decode b pc = .ok (.ifCond .ne off, 3)) (ht : (pc : Int) + off = (tgt : Int)) (kt : ¬ x = 0 → G X own b mx rt nm R Qf c n tgt L st h) (kf : x = 0 → G X own b mx rt nm R Qf c n (pc + 3) L st h) : G X own b mx rt nm R Qf c n pc L (.int x :: st) h :=
  fun p ev s m args below meth cd H locs ls hI hR hS hl => lv_if_ne hI.1 hI.2.1 hd ht (fun q => kt q p ev s m args below meth cd H locs ls hI hR hS hl) (fun q => kf q p ev s m args below meth cd H locs ls hI hR hS hl)
theorem g_icmp_lt {x y : Int32} {off : Int} {tgt : Nat} (hd : decode b pc = .ok (.if_icmp .lt off, 3)) (ht : (pc : Int) + off = (tgt : Int)) (kt : x < y → G X own b mx rt nm R Qf c n tgt L st h) (kf : ¬ x < y → G X own b mx rt nm R Qf c n (pc + 3) L st h) : G X own b mx rt nm R Qf c n pc L (.int y :: .int x :: st) h :=
  fun p ev s m args below meth cd H locs ls hI hR hS hl => lv_icmp_lt hI.1 hI.2.1 hd ht (fun q => kt q p ev s m args below meth cd H locs ls hI hR hS hl) (fun q => kf q p ev s m args below meth cd H locs ls hI hR hS hl)
theorem g_if_lt {x : Int32} {off : Int} {tgt : Nat} (hd : decode b pc = .ok (.ifCond .lt off, 3)) (ht : (pc : Int) + off = (tgt : Int)) (kt : x < 0 → G X own b mx rt nm R Qf c n tgt L st h) (kf : ¬ x < 0 → G X own b mx rt nm R Qf c n (pc + 3) L st h) : G X own b mx rt nm R Qf c n pc L (.int x :: st) h :=
  fun p ev s m args below meth cd H locs ls hI hR hS hl => lv_if_lt hI.1 hI.2.1 hd ht (fun q => kt q p ev s m args below meth cd H locs ls hI hR hS hl) (fun q => kf q p ev s m args below meth cd H locs ls hI hR hS hl)
theorem g_icmp_ge {x y : Int32} {off : Int} {tgt : Nat} (hd : decode b pc = .ok (.if_icmp .ge off, 3)) (ht : (pc : Int) + off = (tgt : Int)) (kt : y ≤ x → G X own b mx rt nm R Qf c n tgt L st h) (kf : ¬ y ≤ x → G X own b mx rt nm R Qf c n (pc + 3) L st h) : G X own b mx rt nm R Qf c n pc L (.int y :: .int x :: st) h :=
  fun p ev s m args below meth cd H locs ls hI hR hS hl => lv_icmp_ge hI.1 hI.2.1 hd ht (fun q => kt q p ev s m args below meth cd H locs ls hI hR hS hl) (fun q => kf q p ev s m args below meth cd H locs ls hI hR hS hl)
theorem g_if_ge {x : Int32} {off : Int} {tgt : Nat} (hd : decode b pc = .ok (.ifCond .ge off, 3)) (ht : (pc : Int) + off = (tgt : Int)) (kt : 0 ≤ x → G X own b mx rt nm R Qf c n tgt L st h) (kf : ¬ 0 ≤ x → G X own b mx rt nm R Qf c n (pc + 3) L st h) : G X own b mx rt nm R Qf c n pc L (.int x :: st) h :=
  fun p ev s m args below meth cd H locs ls hI hR hS hl => lv_if_ge hI.1 hI.2.1 hd ht (fun q => kt q p ev s m args below meth cd H locs ls hI hR hS hl) (fun q => kf q p ev s m args below meth cd H locs ls hI hR hS hl)
theorem g_icmp_gt {x y : Int32} {off : Int} {tgt : Nat} (hd : decode b pc = .ok (.if_icmp .gt off, 3)) (ht : (pc : Int) + off = (tgt : Int)) (kt : y < x → G X own b mx rt nm R Qf c n tgt L st h) (kf : ¬ y < x → G X own b mx rt nm R Qf c n (pc + 3) L st h) : G X own b mx rt nm R Qf c n pc L (.int y :: .int x :: st) h :=
  fun p ev s m args below meth cd H locs ls hI hR hS hl => lv_icmp_gt hI.1 hI.2.1 hd ht (fun q => kt q p ev s m args below meth cd H locs ls hI hR hS hl) (fun q => kf q p ev s m args below meth cd H locs ls hI hR hS hl)
theorem g_if_gt {x : Int32} {off : Int} {tgt : Nat} (hd : decode b pc = .ok (.ifCond .gt off, 3)) (ht : (pc : Int) + off = (tgt : Int)) (kt : 0 < x → G X own b mx rt nm R Qf c n tgt L st h) (kf : ¬ 0 < x → G X own b mx rt nm R Qf c n (pc + 3) L st h) : G X own b mx rt nm R Qf c n pc L (.int x :: st) h :=
  fun p ev s m args below meth cd H locs ls hI hR hS hl => lv_if_gt hI.1 hI.2.1 hd ht (fun q => kt q p ev s m args below meth cd H locs ls hI hR hS hl) (fun q => kf q p ev s m args below meth cd H locs ls hI hR hS hl)
theorem g_icmp_le {x y : Int32} {off : Int} {tgt : Nat} (hd : decode b pc = .ok (.if_icmp .le off, 3)) (ht : (pc : Int) + off = (tgt : Int)) (kt : x ≤ y → G X own b mx rt nm R Qf c n tgt L st h) (kf : ¬ x ≤ y → G X own b mx rt nm R Qf c n (pc + 3) L st h) : G X own b mx rt nm R Qf c n pc L (.int y :: .int x :: st) h :=
  fun p ev s m args below meth cd H locs ls hI hR hS hl => lv_icmp_le hI.1 hI.2.1 hd ht (fun q => kt q p ev s m args below meth cd H locs ls hI hR hS hl) (fun q => kf q p ev s m args below meth cd H locs ls hI hR hS hl)
theorem g_if_le {x : Int32} {off : Int} {tgt : Nat} (hd : decode b pc = .ok (.ifCond .le off, 3)) (ht : (pc : Int) + off = (tgt : Int)) (kt : x ≤ 0 → G X own b mx rt nm R Qf c n tgt L st h) (kf : ¬ x ≤ 0 → G X own b mx rt nm R Qf c n (pc + 3) L st h) : G X own b mx rt nm R Qf c n pc L (.int x :: st) h :=
  fun p ev s m args below meth cd H locs ls hI hR hS hl => lv_if_le hI.1 hI.2.1 hd ht (fun q => kt q p ev s m args below meth cd H locs ls hI hR hS hl) (fun q => kf q p ev s m args below meth cd H locs ls hI hR hS hl)
theorem g_ifnull {v : Value} {off : Int} {tgt : Nat} (hd : decode b pc = .ok (.ifnull off, 3)) (ht : (pc : Int) + off = (tgt : Int)) (hr : isRf v) (kt : v = .null → G X own b mx rt nm R Qf c n tgt L st h) (kf : v ≠ .null → G X own b mx rt nm R Qf c n (pc + 3) L st h) : G X own b mx rt nm R Qf c n pc L (v :: st) h := by
  intro p ev s m args below meth cd H locs ls hI hR hS hl
  rcases hr with rfl | ⟨a, rfl⟩
  · exact lv_ifnullN hI.1 hI.2.1 hd ht (kt rfl p ev s m args below meth cd H locs ls hI hR hS hl)
  · exact lv_ifnull hI.1 hI.2.1 hd (kf (fun q => by cases q) p ev s m args below meth cd H locs ls hI hR hS hl)
theorem g_ifnonnull {v : Value} {off : Int} {tgt : Nat} (hd : decode b pc = .ok (.ifnonnull off, 3)) (ht : (pc : Int) + off = (tgt : Int)) (hr : isRf v) (kt : v ≠ .null → G X own b mx rt nm R Qf c n tgt L st h) (kf : v = .null → G X own b mx rt nm R Qf c n (pc + 3) L st h) : G X own b mx rt nm R Qf c n pc L (v :: st) h := by
  intro p ev s m args below meth cd H locs ls hI hR hS hl
  rcases hr with rfl | ⟨a, rfl⟩
  · exact lv_ifnonnullN hI.1 hI.2.1 hd (kf rfl p ev s m args below meth cd H locs ls hI hR hS hl)
  · exact lv_ifnonnull hI.1 hI.2.1 hd ht (kt (fun q => by cases q) p ev s m args below meth cd H locs ls hI hR hS hl)
theorem g_tableOut {dflt lo hi : Int} {offs : Array Int} {len : Nat} {x : Int32} {tgt : Nat} (hd : decode b pc = .ok (.tableswitch dflt lo hi offs, len)) (hx : x.toInt < lo ∨ hi < x.toInt) (ht : (pc : Int) + dflt = (tgt : Int)) (k : G X own b mx rt nm R Qf c n tgt L st h) : G X own b mx rt nm R Qf c n pc L (.int x :: st) h :=
  fun p ev s m args below meth cd H locs ls hI hR hS hl => lv_tableOut hI.1 hI.2.1 hd hx ht (k p ev s m args below meth cd H locs ls hI hR hS hl)
theorem g_tableIn {dflt lo hi : Int} {offs : Array Int} {len : Nat} {x : Int32} {off : Int} {tgt : Nat} (hd : decode b pc = .ok (.tableswitch dflt lo hi offs, len)) (h1 : ¬ x.toInt < lo) (h2 : ¬ hi < x.toInt) (ho : offs[(x.toInt - lo).toNat]? = some off) (ht : (pc : Int) + off = (tgt : Int)) (k : G X own b mx rt nm R Qf c n tgt L st h) : G X own b mx rt nm R Qf c n pc L (.int x :: st) h :=
  fun p ev s m args below meth cd H locs ls hI hR hS hl => lv_tableIn hI.1 hI.2.1 hd h1 h2 ho ht (k p ev s m args below meth cd H locs ls hI hR hS hl)
theorem g_lookup {dflt : Int} {ps : Array (Int × Int)} {len : Nat} {x : Int32} {off : Int} {tgt : Nat} (hd : decode b pc = .ok (.lookupswitch dflt ps, len)) (hp : (ps.toList.zip (ps.toList.drop 1)).all (fun (a, next) => a.1 < next.1) = true) (ho : Op.lookupswitch.offset ps.toList dflt x.toInt = off) (ht : (pc : Int) + off = (tgt : Int)) (k : G X own b mx rt nm R Qf c n tgt L st h) : G X own b mx rt nm R Qf c n pc L (.int x :: st) h :=
  fun p ev s m args below meth cd H locs ls hI hR hS hl => lv_lookup hI.1 hI.2.1 hd hp ho ht (k p ev s m args below meth cd H locs ls hI hR hS hl)
theorem g_ldc {i : Nat} {v : Int32} (hd : decode b pc = .ok (.ldc i, 2)) (hw : Cond.constant own i v ∈ lw_tbl) (k : G X own b mx rt nm R Qf c n (pc + 2) L (.int v :: st) h) : G X own b mx rt nm R Qf c n pc L st h :=
  fun p ev s m args below meth cd H locs ls hI hR hS hl => lv_ldc hI.1 hI.2.1 hI.2.2.2.1 (hI.2.2.2.2.1 _ (inA hw rfl)) hd (k p ev s m args below meth cd H locs ls hI hR hS hl)
theorem g_ldc2 {i : Nat} {v : Int64} (hd : decode b pc = .ok (.ldc2_w i, 3)) (hw : Cond.constantLong own i v ∈ lw_tbl) (k : G X own b mx rt nm R Qf c n (pc + 3) L (.long v :: st) h) : G X own b mx rt nm R Qf c n pc L st h :=
  fun p ev s m args below meth cd H locs ls hI hR hS hl => lv_ldc2 hI.1 hI.2.1 hI.2.2.2.1 (hI.2.2.2.2.1 _ (inA hw rfl)) hd (k p ev s m args below meth cd H locs ls hI hR hS hl)
theorem g_ldcf {i : Nat} {v : UInt32} (hd : decode b pc = .ok (.ldc i, 2)) (hw : Cond.constantFloat own i v ∈ lw_tbl) (k : G X own b mx rt nm R Qf c n (pc + 2) L (.float v :: st) h) : G X own b mx rt nm R Qf c n pc L st h :=
  fun p ev s m args below meth cd H locs ls hI hR hS hl => lv_ldcf hI.1 hI.2.1 hI.2.2.2.1 (hI.2.2.2.2.1 _ (inA hw rfl)) hd (k p ev s m args below meth cd H locs ls hI hR hS hl)
theorem g_ldcw {i : Nat} {v : Int32} (hd : decode b pc = .ok (.ldc_w i, 3)) (hw : Cond.constant own i v ∈ lw_tbl) (k : G X own b mx rt nm R Qf c n (pc + 3) L (.int v :: st) h) : G X own b mx rt nm R Qf c n pc L st h :=
  fun p ev s m args below meth cd H locs ls hI hR hS hl => lv_ldcw hI.1 hI.2.1 hI.2.2.2.1 (hI.2.2.2.2.1 _ (inA hw rfl)) hd (k p ev s m args below meth cd H locs ls hI hR hS hl)
end GR
end
section
section GH0
theorem inX_0 : ∀ w ∈ u_ws RX0 TX0 2, w ∈ lw_tbl := by decide +kernel
theorem inX_1 : ∀ w ∈ u_ws RX1 TX1 10, w ∈ lw_tbl := by decide +kernel
theorem inX_2 : ∀ w ∈ u_ws RX2 TX2 9, w ∈ lw_tbl := by decide +kernel
theorem inX_3 : ∀ w ∈ u_ws RX3 TX3 2, w ∈ lw_tbl := by decide +kernel
theorem inX_4 : ∀ w ∈ u_ws RX4 TX4 2, w ∈ lw_tbl := by decide +kernel
theorem inX_5 : ∀ w ∈ u_ws RX5 TX5 8, w ∈ lw_tbl := by decide +kernel
theorem inX_6 : ∀ w ∈ u_ws RX6 TX6 1, w ∈ lw_tbl := by decide +kernel
theorem inX_7 : ∀ w ∈ u_ws RX7 TX7 2, w ∈ lw_tbl := by decide +kernel
theorem inX_8 : ∀ w ∈ u_ws RX8 TX8 4, w ∈ lw_tbl := by decide +kernel
theorem inX_9 : ∀ w ∈ u_ws RX9 TX9 6, w ∈ lw_tbl := by decide +kernel
theorem inX_10 : ∀ w ∈ u_ws RX10 TX10 12, w ∈ lw_tbl := by decide +kernel
theorem inA_l {ws : List Cond} (h : ∀ w ∈ ws, w ∈ lw_tbl) (g : ws.all goodWord = true) : ∀ w ∈ ws, w ∈ wsA := fun w hw => inA (h w hw) (List.all_eq_true.mp g w hw)
def ClsF (q : vw_C) : Prop := (∀ w ∈ u_ws q.1 q.2.1 q.2.2, w ∈ wsA) ∧ (∃ ty : Nat → FieldType, ∀ k, k < q.2.2 → parseFieldDescriptor (q.2.1 k).2.2.1 = some (ty k)) ∧ ∀ a, a < q.2.2 → ∀ b, b < q.2.2 → a ≠ b → (q.2.1 a).2.1 ≠ (q.2.1 b).2.1
theorem clsF : ∀ (ci : Nat) (q : vw_C), vwCl[ci]? = some q → ClsF q
  | 0, q, h => by cases h; exact ⟨inA_l inX_0 (by decide +kernel), ⟨_, tyX0_ok⟩, nmX0⟩
  | 1, q, h => by cases h; exact ⟨inA_l inX_1 (by decide +kernel), ⟨_, tyX1_ok⟩, nmX1⟩
  | 2, q, h => by cases h; exact ⟨inA_l inX_2 (by decide +kernel), ⟨_, tyX2_ok⟩, nmX2⟩
  | 3, q, h => by cases h; exact ⟨inA_l inX_3 (by decide +kernel), ⟨_, tyX3_ok⟩, nmX3⟩
  | 4, q, h => by cases h; exact ⟨inA_l inX_4 (by decide +kernel), ⟨_, tyX4_ok⟩, nmX4⟩
  | 5, q, h => by cases h; exact ⟨inA_l inX_5 (by decide +kernel), ⟨_, tyX5_ok⟩, nmX5⟩
  | 6, q, h => by cases h; exact ⟨inA_l inX_6 (by decide +kernel), ⟨_, tyX6_ok⟩, nmX6⟩
  | 7, q, h => by cases h; exact ⟨inA_l inX_7 (by decide +kernel), ⟨_, tyX7_ok⟩, nmX7⟩
  | 8, q, h => by cases h; exact ⟨inA_l inX_8 (by decide +kernel), ⟨_, tyX8_ok⟩, nmX8⟩
  | 9, q, h => by cases h; exact ⟨inA_l inX_9 (by decide +kernel), ⟨_, tyX9_ok⟩, nmX9⟩
  | 10, q, h => by cases h; exact ⟨inA_l inX_10 (by decide +kernel), ⟨_, tyX10_ok⟩, nmX10⟩
  | k + 11, q, h => by simp at h
theorem Rep.get {X : Cx} {U : State} {H : Heap} {h : Hp} {a : Nat} {e : va_E} (hR : Rep X U H h) (ha : h a = some e) (hs : ∀ n f, e ≠ sI n f) : ∃ (ws : va_W) (k : Nat), va_P X.2.1 vwCl ws H ∧ va_D (AA X) ws ∧ (∀ (a : Nat) (e : va_E), h a = some e → ((∃ k : Nat, ws[k]? = some (a, e)) ∧ ∀ n f, e ≠ sI n f) ∨ ∃ n f, e = sI n f ∧ va_T .int a n (fun j => .int (f j)) (AA X) U H) ∧ ws[k]? = some (a, e) := by
  obtain ⟨ws, h1, h2, h3⟩ := hR
  rcases h3 a e ha with ⟨⟨k, hk⟩, -⟩ | ⟨n, f, q, -⟩
  · exact ⟨ws, k, h1, h2, h3, hk⟩
  · exact absurd q (hs n f)
theorem Rep.gets {X : Cx} {U : State} {H : Heap} {h : Hp} {a n : Nat} {f : Nat → Int32} (hR : Rep X U H h) (ha : h a = some (sI n f)) : va_T .int a n (fun j => .int (f j)) (AA X) U H := by
  obtain ⟨ws, h1, h2, h3⟩ := hR
  rcases h3 a _ ha with ⟨-, z⟩ | ⟨n0, f0, q, t⟩
  · exact absurd rfl (z n f)
  · simp only [sI, Sum.inl.injEq, Prod.mk.injEq, true_and] at q
    obtain ⟨rfl, q⟩ := q
    simp only [Sum.inr.injEq, Sum.inl.injEq] at q
    have e : f0 = f := funext fun j => by
      have z := congrArg Int64.toInt32 (congrFun q j)
      simpa using z.symm
    rw [← e]
    exact t
theorem st_kept {X : Cx} {s : State} {H H1 : Heap} {l l1 : List Loc} {a n : Nat} {f : Nat → Value} (hz : X.2.2.2.1 ≤ s.heap.size) (hS : va_S (AA X) s.heap H l) (hS1 : va_S (AA X) s.heap H1 l1) (t : va_T .int a n f (AA X) s H) : va_T .int a n f (AA X) s H1 :=
  t.kept (fun q _ h2 => by
    have h3 : q < s.heap.size := by
      rcases Nat.lt_or_ge q X.2.2.2.1 with z | z
      · omega
      · exact absurd z h2
    exact (hS1.2.1 q h3 h2).trans (hS.2.1 q h3 h2).symm)
theorem Rep.set {X : Cx} {s : State} {H H1 : Heap} {h : Hp} {ws : va_W} {k a : Nat} {e e1 : va_E} {l l1 : List Loc} (h3 : ∀ (a : Nat) (e : va_E), h a = some e → ((∃ k : Nat, ws[k]? = some (a, e)) ∧ ∀ n f, e ≠ sI n f) ∨ ∃ n f, e = sI n f ∧ va_T .int a n (fun j => .int (f j)) (AA X) s H) (hk : ws[k]? = some (a, e)) (he : ∀ n f, e1 ≠ sI n f) (hz : X.2.2.2.1 ≤ s.heap.size) (hS : va_S (AA X) s.heap H l) (hS1 : va_S (AA X) s.heap H1 l1) (hP : va_P X.2.1 vwCl (ws.set k (a, e1)) H1) (hD : va_D (AA X) (ws.set k (a, e1))) : Rep X s H1 (hu h a e1) := by
  refine ⟨_, hP, hD, fun b x q => ?_⟩
  have hlt : k < ws.length := (List.getElem?_eq_some_iff.mp hk).1
  by_cases hb : b = a
  · subst hb
    rw [hu_same] at q
    cases q
    exact Or.inl ⟨⟨k, List.getElem?_set_self hlt⟩, he⟩
  · rw [hu_ne hb] at q
    rcases h3 b x q with ⟨⟨j, hj⟩, hx⟩ | ⟨n, f, e1, e2⟩
    · refine Or.inl ⟨⟨j, ?_⟩, hx⟩
      rw [List.getElem?_set_ne]
      · exact hj
      · intro z
        subst z
        rw [hk] at hj
        cases hj
        exact hb rfl
    · exact Or.inr ⟨n, f, e1, st_kept hz hS hS1 e2⟩
theorem Rep.add {X : Cx} {s : State} {H H1 : Heap} {h : Hp} {ws : va_W} {a : Nat} {e1 : va_E} {l l1 : List Loc} (h3 : ∀ (a : Nat) (e : va_E), h a = some e → ((∃ k : Nat, ws[k]? = some (a, e)) ∧ ∀ n f, e ≠ sI n f) ∨ ∃ n f, e = sI n f ∧ va_T .int a n (fun j => .int (f j)) (AA X) s H) (he : ∀ n f, e1 ≠ sI n f) (hz : X.2.2.2.1 ≤ s.heap.size) (hS : va_S (AA X) s.heap H l) (hS1 : va_S (AA X) s.heap H1 l1) (hP : va_P X.2.1 vwCl (ws ++ [(a, e1)]) H1) (hD : va_D (AA X) (ws ++ [(a, e1)])) : Rep X s H1 (hu h a e1) ∧ h a = none := by
  have hl : (ws ++ [(a, e1)])[ws.length]? = some (a, e1) := by simp
  refine ⟨⟨_, hP, hD, fun b x q => ?_⟩, ?_⟩
  · by_cases hb : b = a
    · subst hb
      rw [hu_same] at q
      cases q
      exact Or.inl ⟨⟨ws.length, hl⟩, he⟩
    · rw [hu_ne hb] at q
      rcases h3 b x q with ⟨⟨j, hj⟩, hx⟩ | ⟨n, f, e1, e2⟩
      · exact Or.inl ⟨⟨j, by rw [List.getElem?_append_left (List.getElem?_eq_some_iff.mp hj).1]; exact hj⟩, hx⟩
      · exact Or.inr ⟨n, f, e1, st_kept hz hS hS1 e2⟩
  · cases hx : h a with
    | none => rfl
    | some x =>
      exfalso
      rcases h3 a x hx with ⟨⟨j, hj⟩, -⟩ | ⟨n, f, e2, e3⟩
      · have hj2 := (List.getElem?_eq_some_iff.mp hj).1
        have hj3 : (ws ++ [(a, e1)])[j]? = some (a, x) := by rw [List.getElem?_append_left hj2]; exact hj
        have z := hD.1 j ws.length _ _ hj3 hl rfl
        omega
      · obtain ⟨cell, -, -, -, -, -, -, z⟩ := e3
        exact z (hD.2 ws.length _ hl)
theorem oI_s {X : Cx} {m : Nat} {g : Nat → Int32} : ∀ n f, oI X m g ≠ sI n f := fun n f q => by simp [oI, sI] at q
theorem oC_s {X : Cx} {m : Nat} {g : Nat → Int32} : ∀ n f, oC X m g ≠ sI n f := fun n f q => by simp [oC, sI] at q
theorem oR_s {X : Cx} {k m : Nat} {g : Nat → Option Nat} : ∀ n f, oR X k m g ≠ sI n f := fun n f q => by simp [oR, sI] at q
theorem ob_s {ci : Nat} {fs : List Value} : ∀ n f, ob ci fs ≠ sI n f := fun n f q => by simp [ob, sI] at q
theorem in_tys0 {X : Cx} : (tysOf X)[0]? = some (X.2.2.1 0, .int) := rfl
end GH0
end
section
section GI
variable {X : Cx} {own : String} {b : ByteArray} {mx : Nat} {rt : Option FieldType} {nm : String} {R : Room} {Qf : List Frame → Array Value → State → State → Prop} {c n pc : Nat} {L : List (Nat × Value)} {st : List Value} {h : Hp}
theorem g_getf {idx ci kf a : Nat} {ds : String} {fin : Bool} {fs : List Value} {v : Value} (hd : decode b pc = .ok (.getfield idx, 3)) (hw : FLk own idx ci kf ds fin) (ha : h a = some (ob ci fs)) (hv : fs[kf]? = some v) (k : G X own b mx rt nm R Qf c n (pc + 3) L (v :: st) h) : G X own b mx rt nm R Qf c n pc L (.ref a :: st) h := by
  intro p ev s m args below meth cd H locs ls hI hR hS hl
  obtain ⟨hx, hb, -, hown, hts, -, -, -, -, hK⟩ := id hI
  obtain ⟨q, hq, hk, hqk, hmem⟩ := hw
  obtain ⟨ws, j, hP, -, -, he⟩ := hR.get ha ob_s
  exact va_get (D := X.2.1) (cl := vwCl) (tys := tysOf X) (C := q.1) (T := q.2.1) (N := q.2.2) hx hb hts (clsF ci q hq).1 hown hK.1 hP j he hq kf hk (hts _ (inA hmem rfl)) (fun x hx => by rw [congrArg Prod.fst hqk] at hx; exact hx) hv hd (k p ev s m args below meth cd H locs ls hI hR hS hl)
theorem g_putf {idx ci kf a : Nat} {ds : String} {fs : List Value} {v : Value} {ty : FieldType} (hd : decode b pc = .ok (.putfield idx, 3)) (hw : FLk own idx ci kf ds false) (hds : parseFieldDescriptor ds = some ty) (hn : narrow ty v = v) (hf : fits ty v = true) (ha : h a = some (ob ci fs)) (hlen : kf < fs.length) (k : G X own b mx rt nm R Qf c n (pc + 3) L st (hu h a (ob ci (fs.set kf v)))) : G X own b mx rt nm R Qf c n pc L (v :: .ref a :: st) h := by
  intro p ev s m args below meth cd H locs ls hI hR hS hl
  obtain ⟨hx, hb, -, hown, hts, -, -, -, hz, hK⟩ := id hI
  obtain ⟨q, hq, hk, hqk, hmem⟩ := hw
  obtain ⟨ws, j, hP, hD, h3, he⟩ := hR.get ha ob_s
  obtain ⟨hcw, ⟨ty0, hty0⟩, hnm⟩ := clsF ci q hq
  refine va_put (D := X.2.1) (cl := vwCl) (tys := tysOf X) (C := q.1) (T := q.2.1) (N := q.2.2) (ty := ty) hx hb hts hcw ty0 hty0 hnm hown hK.1 hP hD hS j he hq kf hk (hts _ (inA hmem rfl)) (fun x hx => by rw [congrArg Prod.fst hqk] at hx; exact hx) (by rw [hqk]) (by rw [hqk]; exact hds) hn hf hlen hd (fun H1 l1 hP1 hD1 hS1 => ?_)
  exact k p ev s m args below meth cd H1 l1 ls hI (Rep.set h3 he ob_s hz hS hS1 hP1 hD1) hS1 hl
theorem g_putF {idx ci kf a : Nat} {ds : String} {fs : List Value} {v : Value} {ty : FieldType} (hd : decode b pc = .ok (.putfield idx, 3)) (hw : FLk own idx ci kf ds true) (hds : parseFieldDescriptor ds = some ty) (hn : narrow ty v = v) (hf : fits ty v = true) (hnm0 : nm = "<init>") (hcl : ∀ q, vwCl[ci]? = some q → q.1 = own) (ha : h a = some (ob ci fs)) (hlen : kf < fs.length) (k : G X own b mx rt nm R Qf c n (pc + 3) L st (hu h a (ob ci (fs.set kf v)))) : G X own b mx rt nm R Qf c n pc L (v :: .ref a :: st) h := by
  intro p ev s m args below meth cd H locs ls hI hR hS hl
  obtain ⟨hx, hb, -, hown, hts, -, -, hname, hz, hK⟩ := id hI
  obtain ⟨q, hq, hk, hqk, hmem⟩ := hw
  obtain ⟨ws, j, hP, hD, h3, he⟩ := hR.get ha ob_s
  obtain ⟨hcw, ⟨ty0, hty0⟩, hnm⟩ := clsF ci q hq
  refine va_putF (D := X.2.1) (cl := vwCl) (tys := tysOf X) (C := q.1) (T := q.2.1) (N := q.2.2) (ty := ty) hx hb hts hcw ty0 hty0 hnm hown hK.1 hP hD hS j he hq kf hk (hts _ (inA hmem rfl)) (fun x hx => by rw [congrArg Prod.fst hqk] at hx; exact hx) (by rw [hqk]) (hname.trans hnm0) ((congrArg Prod.fst hqk).trans (hcl q hq)) (by rw [hqk]; exact hds) hn hf hlen hd (fun H1 l1 hP1 hD1 hS1 => ?_)
  exact k p ev s m args below meth cd H1 l1 ls hI (Rep.set h3 he ob_s hz hS hS1 hP1 hD1) hS1 hl
theorem g_alenI {a N : Nat} {f : Nat → Int32} (hd : decode b pc = .ok (.arraylength, 1)) (ha : h a = some (oI X N f)) (k : G X own b mx rt nm R Qf c n (pc + 1) L (.int (nI N) :: st) h) : G X own b mx rt nm R Qf c n pc L (.ref a :: st) h := by
  intro p ev s m args below meth cd H locs ls hI hR hS hl
  obtain ⟨hx, hb, -, hown, hts, -, -, -, hz, hK⟩ := id hI
  obtain ⟨ws, j, hP, hD, h3, he⟩ := hR.get ha oI_s
  exact va_alen hx hb hK.1 hP j 0 he rfl rfl hd (k p ev s m args below meth cd H locs ls hI hR hS hl)
theorem g_alenC {a N : Nat} {f : Nat → Int32} (hd : decode b pc = .ok (.arraylength, 1)) (ha : h a = some (oC X N f)) (k : G X own b mx rt nm R Qf c n (pc + 1) L (.int (nI N) :: st) h) : G X own b mx rt nm R Qf c n pc L (.ref a :: st) h := by
  intro p ev s m args below meth cd H locs ls hI hR hS hl
  obtain ⟨hx, hb, -, hown, hts, -, -, -, hz, hK⟩ := id hI
  obtain ⟨ws, j, hP, hD, h3, he⟩ := hR.get ha oC_s
  exact va_alen hx hb hK.1 hP j 1 he rfl rfl hd (k p ev s m args below meth cd H locs ls hI hR hS hl)
theorem g_alenR {a N t : Nat} {f : Nat → Option Nat} (hd : decode b pc = .ok (.arraylength, 1)) (ha : h a = some (oR X t N f)) (ht : t < 6) (k : G X own b mx rt nm R Qf c n (pc + 1) L (.int (nI N) :: st) h) : G X own b mx rt nm R Qf c n pc L (.ref a :: st) h := by
  intro p ev s m args below meth cd H locs ls hI hR hS hl
  obtain ⟨hx, hb, -, hown, hts, -, -, -, hz, hK⟩ := id hI
  obtain ⟨ws, j, hP, hD, h3, he⟩ := hR.get ha oR_s
  obtain ⟨ty, hty⟩ : ∃ ty, (tysOf X)[t]? = some (X.2.2.1 t, ty) := by
    rcases (show t = 0 ∨ t = 1 ∨ t = 2 ∨ t = 3 ∨ t = 4 ∨ t = 5 by omega) with rfl | rfl | rfl | rfl | rfl | rfl <;> exact ⟨_, rfl⟩
  exact va_alen hx hb hK.1 hP j t he hty rfl hd (k p ev s m args below meth cd H locs ls hI hR hS hl)
theorem rp_ns {X : Cx} {s : State} {H : Heap} {locs : List Loc} {a N : Nat} {f : Nat → Value} (hz : X.2.2.2.1 ≤ s.heap.size) (hS : va_S (AA X) s.heap H locs) (t : va_T .int a N f (AA X) s H) : va_T .int a N f (AA X) s s.heap := by
  obtain ⟨cell, h1, h2, h3, h4, h5, h6, h7⟩ := t
  refine ⟨cell, ?_, h2, h3, h4, h5, h6, h7⟩
  have h8 : a < X.2.2.2.1 := Nat.lt_of_not_le h7
  rw [← hS.2.1 a (by omega) h7]
  exact h1
theorem g_alenS {a N : Nat} {f : Nat → Int32} (hd : decode b pc = .ok (.arraylength, 1)) (ha : h a = some (sI N f)) (k : G X own b mx rt nm R Qf c n (pc + 1) L (.int (nI N) :: st) h) : G X own b mx rt nm R Qf c n pc L (.ref a :: st) h := by
  intro p ev s m args below meth cd H locs ls hI hR hS hl
  obtain ⟨hx, hb, -, hown, hts, -, -, -, hz, hK⟩ := id hI
  exact va_tlen hx hb (rp_ns hz hS (hR.gets ha)) hS rfl hd (k p ev s m args below meth cd H locs ls hI hR hS hl)
theorem g_iald {a N : Nat} {f : Nat → Int32} {i : Int32} (hd : decode b pc = .ok (.iaload, 1)) (ha : h a = some (oI X N f)) (hi : vp_in i N) (k : G X own b mx rt nm R Qf c n (pc + 1) L (.int (f i.toNatClampNeg) :: st) h) : G X own b mx rt nm R Qf c n pc L (.int i :: .ref a :: st) h := by
  intro p ev s m args below meth cd H locs ls hI hR hS hl
  obtain ⟨hx, hb, -, hown, hts, -, -, -, hz, hK⟩ := id hI
  obtain ⟨ws, j, hP, hD, h3, he⟩ := hR.get ha oI_s
  exact va_iald hx hb hK.1 hP j 0 he rfl hi hd (k p ev s m args below meth cd H locs ls hI hR hS hl)
theorem g_iaN {a N j : Nat} {f : Nat → Int32} {v : Int32} (hd : decode b pc = .ok (.iaload, 1)) (ha : h a = some (oI X N f)) (hj : j < N) (hN : N < 2 ^ 31) (hv : f j = v) (k : G X own b mx rt nm R Qf c n (pc + 1) L (.int v :: st) h) : G X own b mx rt nm R Qf c n pc L (.int (nI j) :: .ref a :: st) h := by
  refine g_iald hd ha (vp_in_nI hj hN) ?_
  rw [nI_clamp (by omega), hv]
  exact k
theorem g_ialdS {a N : Nat} {f : Nat → Int32} {i : Int32} (hd : decode b pc = .ok (.iaload, 1)) (ha : h a = some (sI N f)) (hi : vp_in i N) (k : G X own b mx rt nm R Qf c n (pc + 1) L (.int (f i.toNatClampNeg) :: st) h) : G X own b mx rt nm R Qf c n pc L (.int i :: .ref a :: st) h := by
  intro p ev s m args below meth cd H locs ls hI hR hS hl
  obtain ⟨hx, hb, -, hown, hts, -, -, -, hz, hK⟩ := id hI
  exact va_ti hx hb (rp_ns hz hS (hR.gets ha)) hS hi rfl hd (k p ev s m args below meth cd H locs ls hI hR hS hl)
theorem g_iaS {a N j : Nat} {f : Nat → Int32} {v : Int32} (hd : decode b pc = .ok (.iaload, 1)) (ha : h a = some (sI N f)) (hj : j < N) (hN : N < 2 ^ 31) (hv : f j = v) (k : G X own b mx rt nm R Qf c n (pc + 1) L (.int v :: st) h) : G X own b mx rt nm R Qf c n pc L (.int (nI j) :: .ref a :: st) h := by
  refine g_ialdS hd ha (vp_in_nI hj hN) ?_
  rw [nI_clamp (by omega), hv]
  exact k
theorem g_cald {a N : Nat} {f : Nat → Int32} {i : Int32} (hd : decode b pc = .ok (.caload, 1)) (ha : h a = some (oC X N f)) (hi : vp_in i N) (k : G X own b mx rt nm R Qf c n (pc + 1) L (.int (f i.toNatClampNeg) :: st) h) : G X own b mx rt nm R Qf c n pc L (.int i :: .ref a :: st) h := by
  intro p ev s m args below meth cd H locs ls hI hR hS hl
  obtain ⟨hx, hb, -, hown, hts, -, -, -, hz, hK⟩ := id hI
  obtain ⟨ws, j, hP, hD, h3, he⟩ := hR.get ha oC_s
  exact va_cald hx hb hK.1 hP j 1 he rfl hi hd (k p ev s m args below meth cd H locs ls hI hR hS hl)
end GI
end
section
section GJ
variable {X : Cx} {own : String} {b : ByteArray} {mx : Nat} {rt : Option FieldType} {nm : String} {R : Room} {Qf : List Frame → Array Value → State → State → Prop} {c n pc : Nat} {L : List (Nat × Value)} {st : List Value} {h : Hp}
theorem g_iast {a N : Nat} {f : Nat → Int32} {i x : Int32} (hd : decode b pc = .ok (.iastore, 1)) (ha : h a = some (oI X N f)) (hi : vp_in i N) (k : G X own b mx rt nm R Qf c n (pc + 1) L st (hu h a (oI X N (upd f i.toNatClampNeg x)))) : G X own b mx rt nm R Qf c n pc L (.int x :: .int i :: .ref a :: st) h := by
  intro p ev s m args below meth cd H locs ls hI hR hS hl
  obtain ⟨hx, hb, -, hown, hts, -, -, -, hz, hK⟩ := id hI
  obtain ⟨ws, j, hP, hD, h3, he⟩ := hR.get ha oI_s
  refine va_iast hx hb hK.1 hP hD hS j 0 he rfl hi hd (fun H1 l1 hP1 hD1 hS1 => ?_)
  exact k p ev s m args below meth cd H1 l1 ls hI (Rep.set h3 he oI_s hz hS hS1 hP1 hD1) hS1 hl
theorem g_isN {a N j : Nat} {f : Nat → Int32} {x : Int32} (hd : decode b pc = .ok (.iastore, 1)) (ha : h a = some (oI X N f)) (hj : j < N) (hN : N < 2 ^ 31) (k : G X own b mx rt nm R Qf c n (pc + 1) L st (hu h a (oI X N (upd f j x)))) : G X own b mx rt nm R Qf c n pc L (.int x :: .int (nI j) :: .ref a :: st) h := by
  refine g_iast hd ha (vp_in_nI hj hN) ?_
  rw [nI_clamp (by omega)]
  exact k
theorem g_cast {a N : Nat} {f : Nat → Int32} {i x : Int32} (hd : decode b pc = .ok (.castore, 1)) (ha : h a = some (oC X N f)) (hi : vp_in i N) (hv : vp_nar .char x = x) (k : G X own b mx rt nm R Qf c n (pc + 1) L st (hu h a (oC X N (upd f i.toNatClampNeg x)))) : G X own b mx rt nm R Qf c n pc L (.int x :: .int i :: .ref a :: st) h := by
  intro p ev s m args below meth cd H locs ls hI hR hS hl
  obtain ⟨hx, hb, -, hown, hts, -, -, -, hz, hK⟩ := id hI
  obtain ⟨ws, j, hP, hD, h3, he⟩ := hR.get ha oC_s
  refine va_cast hx hb hK.1 hP hD hS j 1 he rfl hi hd (fun H1 l1 hP1 hD1 hS1 => ?_)
  rw [hv] at hP1 hD1
  exact k p ev s m args below meth cd H1 l1 ls hI (Rep.set h3 he oC_s hz hS hS1 hP1 hD1) hS1 hl
theorem g_aald {a N t : Nat} {C : String} {f : Nat → Option Nat} {i : Int32} (hd : decode b pc = .ok (.aaload, 1)) (ha : h a = some (oR X t N f)) (ht : (tysOf X)[t]? = some (X.2.2.1 t, .object C)) (hi : vp_in i N) (k : G X own b mx rt nm R Qf c n (pc + 1) L (va_rf (f i.toNatClampNeg) :: st) h) : G X own b mx rt nm R Qf c n pc L (.int i :: .ref a :: st) h := by
  intro p ev s m args below meth cd H locs ls hI hR hS hl
  obtain ⟨hx, hb, -, hown, hts, -, -, -, hz, hK⟩ := id hI
  obtain ⟨ws, j, hP, hD, h3, he⟩ := hR.get ha oR_s
  exact va_aldq hx hb hK.1 hP j t he ht hi hd (k p ev s m args below meth cd H locs ls hI hR hS hl)
theorem g_aaN {a N t j v : Nat} {C : String} {f : Nat → Option Nat} (hd : decode b pc = .ok (.aaload, 1)) (ha : h a = some (oR X t N f)) (ht : (tysOf X)[t]? = some (X.2.2.1 t, .object C)) (hj : j < N) (hN : N < 2 ^ 31) (hv : f j = some v) (k : G X own b mx rt nm R Qf c n (pc + 1) L (.ref v :: st) h) : G X own b mx rt nm R Qf c n pc L (.int (nI j) :: .ref a :: st) h := by
  refine g_aald hd ha ht (vp_in_nI hj hN) ?_
  rw [nI_clamp (by omega), hv]
  exact k
theorem g_aast {a N t v ci : Nat} {q : vw_C} {fs : List Value} {f : Nat → Option Nat} {i : Int32} (hd : decode b pc = .ok (.aastore, 1)) (ha : h a = some (oR X t N f)) (ht : (tysOf X)[t]? = some (X.2.2.1 t, .object q.1)) (hv : h v = some (ob ci fs)) (hc : vwCl[ci]? = some q) (hi : vp_in i N) (k : G X own b mx rt nm R Qf c n (pc + 1) L st (hu h a (oR X t N (va_up f i.toNatClampNeg (some v))))) : G X own b mx rt nm R Qf c n pc L (.ref v :: .int i :: .ref a :: st) h := by
  intro p ev s m args below meth cd H locs ls hI hR hS hl
  obtain ⟨hx, hb, -, hown, hts, -, -, -, hz, hK⟩ := id hI
  obtain ⟨ws, hP, hD, h3⟩ := id hR
  rcases h3 a _ ha with ⟨⟨j, he⟩, -⟩ | ⟨n0, f0, z, -⟩
  · rcases h3 v _ hv with ⟨⟨j2, he2⟩, -⟩ | ⟨n0, f0, z, -⟩
    · refine va_astq hx hb hK.1 hP hD hS j t j2 ci he ht he2 hc hi hd (fun H1 l1 hP1 hD1 hS1 => ?_)
      exact k p ev s m args below meth cd H1 l1 ls hI (Rep.set h3 he oR_s hz hS hS1 hP1 hD1) hS1 hl
    · exact absurd z (ob_s _ _)
  · exact absurd z (oR_s _ _)
theorem g_asN {a N t j v ci : Nat} {q : vw_C} {fs : List Value} {f : Nat → Option Nat} (hd : decode b pc = .ok (.aastore, 1)) (ha : h a = some (oR X t N f)) (ht : (tysOf X)[t]? = some (X.2.2.1 t, .object q.1)) (hv : h v = some (ob ci fs)) (hc : vwCl[ci]? = some q) (hj : j < N) (hN : N < 2 ^ 31) (k : G X own b mx rt nm R Qf c n (pc + 1) L st (hu h a (oR X t N (va_up f j (some v))))) : G X own b mx rt nm R Qf c n pc L (.ref v :: .int (nI j) :: .ref a :: st) h := by
  refine g_aast hd ha ht hv hc (vp_in_nI hj hN) ?_
  rw [nI_clamp (by omega)]
  exact k
theorem g_gets {idx i : Nat} {nmf : String} (hd : decode b pc = .ok (.getstatic idx, 3)) (hw : Cond.fieldLink own idx "DarkVats$Settings" nmf "[I" ∈ lw_tbl) (hi : (i = 0 ∧ nmf = "LEAST") ∨ (i = 1 ∧ nmf = "MOST") ∨ (i = 2 ∧ nmf = "FIRST")) (k : G X own b mx rt nm R Qf c n (pc + 3) L (.ref (X.2.2.2.2 i) :: st) h) : G X own b mx rt nm R Qf c n pc L st h := by
  intro p ev s m args below meth cd H locs ls hI hR hS hl
  obtain ⟨hx, hb, -, hown, hts, -, -, -, hz, -, hZ0, hZ1, hZ2, -⟩ := id hI
  rcases hi with ⟨rfl, rfl⟩ | ⟨rfl, rfl⟩ | ⟨rfl, rfl⟩
  · exact va_gets hx hb hZ0 hS hown (hts _ (inA hw rfl)) (fun _ z => z) hd (k p ev s m args below meth cd H locs ls hI hR hS hl)
  · exact va_gets hx hb hZ1 hS hown (hts _ (inA hw rfl)) (fun _ z => z) hd (k p ev s m args below meth cd H locs ls hI hR hS hl)
  · exact va_gets hx hb hZ2 hS hown (hts _ (inA hw rfl)) (fun _ z => z) hd (k p ev s m args below meth cd H locs ls hI hR hS hl)
theorem g_objInit {idx a : Nat} (hd : decode b pc = .ok (.invokespecial idx, 3)) (h1 : Cond.methodLink own idx objectInit ∈ lw_tbl) (h2 : Cond.instanceMethod objectInit ∈ lw_tbl) (h3 : Cond.code objectInit ⟨#[0xb1]⟩ 1 none ∈ lw_tbl) (hf : 1 ≤ R.frames) (hlo : (st.map fun v => v.category).sum + 12 ≤ R.locals) (k : G X own b mx rt nm R Qf c n (pc + 3) L st h) : G X own b mx rt nm R Qf c n pc L (.ref a :: st) h := by
  intro p ev s m args below meth cd H locs ls hI hR hS hl
  obtain ⟨hx, hb, hml, hown, hts, -, -, -, hz, hK⟩ := id hI
  exact W.objInit hx hb hown (hts _ (inA h1 rfl)) (hts _ (inA h2 rfl)) (hts _ (inA h3 rfl)) rfl (by rw [hml]; exact hl.1) rfl hd hf (by show 2 * (F0 m pc ls _).monitorRoom + _ + 12 ≤ _; have z : (F0 m pc ls (Value.ref a :: st)).monitorRoom = 0 := rfl; omega) (k p ev s m args below meth cd H locs ls hI hR hS hl)
theorem g_new {idx ci : Nat} {q : vw_C} {fs : List Value} {ty : Nat → FieldType} (hd : decode b pc = .ok (.new idx, 3)) (hq : vwCl[ci]? = some q) (h1 : Cond.classLink own idx q.1 ∈ lw_tbl) (h2 : Cond.instantiable q.1 q.2.2 ∈ lw_tbl) (h3 : Cond.initialized q.1 ∈ lw_tbl) (hty : ∀ k, k < q.2.2 → parseFieldDescriptor (q.2.1 k).2.2.1 = some (ty k)) (hfs : ∀ j, j < q.2.2 → defaultValue (ty j) = vp_V fs j) (hc : c + 1 ≤ R.cells) (hn : n + q.2.2 ≤ R.slots) (k : ∀ a, h a = none → G X own b mx rt nm R Qf (c + 1) (n + q.2.2) (pc + 3) L (.ref a :: st) (hu h a (ob ci fs))) : G X own b mx rt nm R Qf c n pc L st h := by
  intro p ev s m args below meth cd H locs ls hI hR hS hl
  obtain ⟨hx, hb, hml, hown, hts, -, -, -, hz, hK⟩ := id hI
  obtain ⟨ws, hP, hD, h4⟩ := id hR
  refine va_new (D := X.2.1) (cl := vwCl) (tys := tysOf X) (C := q.1) (T := q.2.1) (N := q.2.2) hx hb hts (clsF ci q hq).1 ty hty hown (hts _ (inA h1 rfl)) (hts _ (inA h2 rfl)) (hts _ (inA h3 rfl)) hK.1 hP hD hS (fun a z => Nat.le_trans hz z) hq hfs hc hn hd (fun a H1 hP1 hD1 hS1 => ?_)
  obtain ⟨r1, r2⟩ := Rep.add h4 ob_s hz hS hS1 hP1 hD1
  exact k a r2 p ev s m args below meth cd H1 locs ls hI r1 hS1 hl
theorem ra_eq {X : Cx} {s : State} {cA : ClassId} {k : Nat} {ty : FieldType} (hn : ∃ nmx : String, ∀ cX, va_RA s cX ty → s.vm.findClass nmx = some cX) (h1 : va_RA s cA ty) (h2 : va_RA s (X.2.2.1 k) ty) : cA = X.2.2.1 k := by
  obtain ⟨nmx, hn⟩ := hn
  exact Option.some.inj ((hn _ h1).symm.trans (hn _ h2))
theorem g_newI {N : Nat} {z : Int32} (hd : decode b pc = .ok (.newarray .int, 2)) (hz0 : z = nI N) (hN : N < 100000) (hc : c + 1 ≤ R.cells) (hn : n + N ≤ R.slots) (k : ∀ a, h a = none → G X own b mx rt nm R Qf (c + 1) (n + N) (pc + 2) L (.ref a :: st) (hu h a (oI X N (fun _ => 0)))) : G X own b mx rt nm R Qf c n pc L (.int z :: st) h := by
  intro p ev s m args below meth cd H locs ls hI hR hS hl
  obtain ⟨hx, hb, hml, hown, hts, -, -, -, hz, hK⟩ := id hI
  obtain ⟨ws, hP, hD, h4⟩ := id hR
  subst hz0
  refine va_newa (atype := .int) (ty := .int) (a0 := (N, .inl (fun _ => 0))) (N' := N) hx hb (hts _ (inA kA_98 rfl)) rfl hK.1 hP hD hS (fun a z => Nat.le_trans hz z) (fun cA => rfl) (nI_pos (by omega)) (nI_clamp (by omega)) (by show N * 4 ≤ _; omega) hc hn hd (fun a cA H1 hK1 hP1 hD1 hS1 => ?_)
  have e : cA = X.2.2.1 0 := ra_eq (ty := .int) ⟨_, fun _ q => q⟩ (hK1.2 6 (cA, .int) rfl).2 (hK.1.2 0 (X.2.2.1 0, .int) rfl).2
  subst e
  obtain ⟨r1, r2⟩ := Rep.add (e1 := oI X N (fun _ => 0)) h4 oI_s hz hS hS1 hP1 hD1
  exact k a r2 p ev s m args below meth cd H1 locs ls hI r1 hS1 hl
theorem g_newC {N : Nat} {z : Int32} (hd : decode b pc = .ok (.newarray .char, 2)) (hz0 : z = nI N) (hN : N < 100000) (hc : c + 1 ≤ R.cells) (hn : n + N ≤ R.slots) (k : ∀ a, h a = none → G X own b mx rt nm R Qf (c + 1) (n + N) (pc + 2) L (.ref a :: st) (hu h a (oC X N (fun _ => 0)))) : G X own b mx rt nm R Qf c n pc L (.int z :: st) h := by
  intro p ev s m args below meth cd H locs ls hI hR hS hl
  obtain ⟨hx, hb, hml, hown, hts, -, -, -, hz, hK⟩ := id hI
  obtain ⟨ws, hP, hD, h4⟩ := id hR
  subst hz0
  refine va_newa (atype := .char) (ty := .char) (a0 := (N, .inl (fun _ => 0))) (N' := N) hx hb (hts _ (inA kA_268 rfl)) rfl hK.1 hP hD hS (fun a z => Nat.le_trans hz z) (fun cA => rfl) (nI_pos (by omega)) (nI_clamp (by omega)) (by show N * 2 ≤ _; omega) hc hn hd (fun a cA H1 hK1 hP1 hD1 hS1 => ?_)
  have e : cA = X.2.2.1 1 := ra_eq (ty := .char) ⟨_, fun _ q => q⟩ (hK1.2 6 (cA, .char) rfl).2 (hK.1.2 1 (X.2.2.1 1, .char) rfl).2
  subst e
  obtain ⟨r1, r2⟩ := Rep.add (e1 := oC X N (fun _ => 0)) h4 oC_s hz hS hS1 hP1 hD1
  exact k a r2 p ev s m args below meth cd H1 locs ls hI r1 hS1 hl
theorem g_newR {N idx t : Nat} {C : String} {z : Int32} (hd : decode b pc = .ok (.anewarray idx, 3)) (h1 : Cond.classLink own idx C ∈ lw_tbl) (h2 : ∀ U H, Kk X U H → va_AO C U) (ht : (tysOf X)[t]? = some (X.2.2.1 t, .object C)) (hz0 : z = nI N) (hN : N < 100000) (hc : c + 1 ≤ R.cells) (hn : n + N ≤ R.slots) (k : ∀ a, h a = none → G X own b mx rt nm R Qf (c + 1) (n + N) (pc + 3) L (.ref a :: st) (hu h a (oR X t N (fun _ => none)))) : G X own b mx rt nm R Qf c n pc L (.int z :: st) h := by
  intro p ev s m args below meth cd H locs ls hI hR hS hl
  obtain ⟨hx, hb, hml, hown, hts, -, -, -, hz, hK⟩ := id hI
  obtain ⟨ws, hP, hD, h4⟩ := id hR
  subst hz0
  refine va_newq (C := C) (N' := N) hx hb hown (hts _ (inA h1 rfl)) (h2 _ _ hK) hK.1 hP hD hS (fun a z => Nat.le_trans hz z) (nI_pos (by omega)) (nI_clamp (by omega)) (by omega) hc hn hd (fun a cA H1 hK1 hP1 hD1 hS1 => ?_)
  have e : cA = X.2.2.1 t := ra_eq (ty := .object C) ⟨_, fun _ q => q.choose_spec.choose_spec.2.2.2⟩ (hK1.2 6 (cA, .object C) rfl).2 (hK.1.2 t (X.2.2.1 t, .object C) ht).2
  subst e
  obtain ⟨r1, r2⟩ := Rep.add (e1 := oR X t N (fun _ => none)) h4 oR_s hz hS hS1 hP1 hD1
  exact k a r2 p ev s m args below meth cd H1 locs ls hI r1 hS1 hl
theorem g_run {p : Program} {e : Env} {s : State} {m : MethodId} {args : Array Value} {below : List Frame} {meth : Method} {cd : Code} {H : Heap} {locs : List Loc} {ls : Array Slot} {mc ms : Nat} {st0 rest : List Value} {a : Array Value} {P1 : Option Value → Hp → Prop} (hr : va_Run p X.1 e R s m args below meth cd H locs c n mc ms (F0 m pc ls st0) rest (Qc X P1 a) (AA X)) (hI : In X own b mx rt nm p s m args meth cd) (hS : va_S (AA X) s.heap H locs) (hl : lv_has ls mx L) (kk : ∀ v h1, P1 v h1 → G X own b mx rt nm R Qf (c + mc) (n + ms) (pc + 3) L (v.toList ++ rest) h1) : W p X.1 e R s m args below meth cd H locs c n (Qf below args s) (F0 m pc ls st0) := by
  intro T hT X0
  obtain ⟨v, st₀, t, T', L1, h0, X', hL, e1, e2, ⟨⟨v1, h1, hv, hp, hrep⟩, hz, hk⟩, stp⟩ := hr T hT X0
  cases hv
  rw [h0] at hz hk
  have hal : s.vm.Alike t.vm := by rw [← e2]; exact X'.warmed.alike
  obtain ⟨t2, a1, b1⟩ := kk v h1 hp p e s m args below meth cd T'.heap (locs ++ L1) ls hI (by rw [e1]; exact hrep.moved hal.symm) ⟨Nat.le_trans hS.1 (by rw [e1]; exact hz), fun q h1 h2 => by rw [e1, hk q (Nat.lt_of_lt_of_le h1 hS.1) h2]; exact hS.2.1 q h1 h2, fun q hq => by
      rcases List.mem_append.mp hq with h | h
      · exact hS.2.2 q h
      · exact hL q h⟩ hl T' rfl X'
  exact ⟨t2, stp t2 a1, b1⟩
theorem ct_pre {k mc ms : Nat} {av : List Value} {p : Program} {s : State} {m : MethodId} {args : Array Value} {meth : Method} {cd : Code} {H : Heap} {locs : List Loc} (hI : In X own b mx rt nm p s m args meth cd) (hR : Rep X s H h) (hS : va_S (AA X) s.heap H locs) : FrameBlind (va_Pc av (fun U => X.2.2.2.1 ≤ U.heap.size ∧ Rep X U U.heap h ∧ Kk X U U.heap)) ∧ ∀ U : State, U.heap = H → s.WarmedH U.vm → va_Pc av (fun U => X.2.2.2.1 ≤ U.heap.size ∧ Rep X U U.heap h ∧ Kk X U U.heap) av.toArray U := by
  obtain ⟨hx, hb, hml, hown, hts, -, -, -, hz, hK⟩ := id hI
  refine ⟨fun a U g mk q => ?_, fun U hU hW => ⟨rfl, ?_, ?_, ?_⟩⟩
  · obtain ⟨q1, q2, q3, q4⟩ := q
    exact ⟨q1, q2, q3.moved (Vm.Alike.refl U.vm), q4.call g mk a⟩
  · rw [hU]; exact Nat.le_trans hz hS.1
  · rw [hU]; exact hR.moved hW.alike
  · rw [hU]
    refine hK.warm hW (fun a h1 h2 => hS.2.1 a h1 h2)
theorem g_callV {Y : Mt} {idx k1 mc ms r ci N : Nat} {fs As rest st1 : List Value} {P1 : Option Value → Hp → Prop} (hd : decode b pc = .ok (.invokevirtual idx, 3)) (hl1 : Cond.methodLink own idx Y.1 ∈ lw_tbl) (hm : Mv Y N) (hct : Ct X Y k1 mc ms (.ref r :: As) h P1) (hr : h r = some (ob ci fs)) (hc : (vwCl[ci]?).map (fun q => q.1) = some Y.1.cls) (hN : As.length = N) (hst : st1 = As.reverse ++ .ref r :: rest) (hf : k1 + 1 ≤ R.frames ∧ 40 * k1 + 40 ≤ R.locals) (hcat : (rest.map fun v => v.category).sum ≤ 8) (hmc : c + mc ≤ R.cells ∧ n + ms ≤ R.slots) (kk : ∀ v h1, P1 v h1 → G X own b mx rt nm R Qf (c + mc) (n + ms) (pc + 3) L (v.toList ++ rest) h1) : G X own b mx rt nm R Qf c n pc L st1 h := by
  intro p ev s m args below meth cd H locs ls hI hR hS hl
  obtain ⟨hx, hb, hml, hown, hts, -, -, -, hz, hK⟩ := id hI
  obtain ⟨⟨m1, m2, m3, m4, m5, m6, m7⟩, m8, m9⟩ := hm
  obtain ⟨p1, p2⟩ := ct_pre (k := k1) (mc := mc) (ms := ms) (av := .ref r :: As) hI hR hS
  obtain ⟨ws, j, hP, hD, h3, he⟩ := hR.get hr ob_s
  have hcq : ∃ q, vwCl[ci]? = some q ∧ q.1 = Y.1.cls := by
    cases hq : vwCl[ci]? with
    | none => rw [hq] at hc; cases hc
    | some q => rw [hq] at hc; exact ⟨q, rfl, Option.some.inj hc⟩
  obtain ⟨q, hq, hqc⟩ := hcq
  have hrecv := va_recv hK.1 hP hq he
  rw [hqc] at hrecv
  exact g_run (va_runV (Ts := wsA) (own := own) (C := Y.1.cls) ⟨hx, hb, hml, hown, hts⟩ hct (cwV N hts (goodA_of (fun w hw => by
    rcases List.mem_append.mp hw with h | h
    · simp only [List.mem_cons, List.not_mem_nil, or_false] at h
      rcases h with rfl | rfl | rfl | rfl
      · exact inA hl1 rfl
      · exact inA m8 rfl
      · exact inA m9 rfl
      · exact inA m2 rfl
    · rcases List.mem_cons.mp h with rfl | h
      · exact inA m1 rfl
      · exact h)) rfl rfl rfl ⟨rfl, m4, m5, m6⟩ ⟨hf.1, by show 8 + (Y.2.2.1 + 11) + 40 * k1 ≤ _; omega⟩) ⟨p1, hrecv, p2⟩ rfl hN (hl.1.trans rfl) hst (lv_room hcat) hd hmc) hI hS hl kk
theorem g_callS {Y : Mt} {idx k1 mc ms N : Nat} {As rest st1 : List Value} {P1 : Option Value → Hp → Prop} (hd : decode b pc = .ok (.invokestatic idx, 3)) (hl1 : Cond.methodLink own idx Y.1 ∈ lw_tbl) (ho : Y.1.cls = own) (hm : Ms Y N) (hct : Ct X Y k1 mc ms As h P1) (hN : As.length = N) (hst : st1 = As.reverse ++ rest) (hf : k1 + 1 ≤ R.frames ∧ 40 * k1 + 40 ≤ R.locals) (hcat : (rest.map fun v => v.category).sum ≤ 8) (hmc : c + mc ≤ R.cells ∧ n + ms ≤ R.slots) (kk : ∀ v h1, P1 v h1 → G X own b mx rt nm R Qf (c + mc) (n + ms) (pc + 3) L (v.toList ++ rest) h1) : G X own b mx rt nm R Qf c n pc L st1 h := by
  intro p ev s m args below meth cd H locs ls hI hR hS hl
  obtain ⟨hx, hb, hml, hown, hts, -, -, -, hz, hK⟩ := id hI
  obtain ⟨⟨m1, m2, m3, m4, m5, m6, m7⟩, m8⟩ := hm
  obtain ⟨p1, p2⟩ := ct_pre (k := k1) (mc := mc) (ms := ms) (av := As) hI hR hS
  exact g_run (va_runS (Ts := wsA) (own := own) ⟨hx, hb, hml, hown, hts⟩ hct (cwS N hts (goodA_of (fun w hw => by
    rcases List.mem_append.mp hw with h | h
    · simp only [List.mem_cons, List.not_mem_nil, or_false] at h
      rcases h with rfl | rfl | rfl
      · exact inA hl1 rfl
      · exact inA m8 rfl
      · exact ho ▸ inA m2 rfl
    · rcases List.mem_cons.mp h with rfl | h
      · exact inA m1 rfl
      · exact h)) rfl rfl rfl ⟨ho, m4, m5, m6⟩ ⟨hf.1, by show 8 + (Y.2.2.1 + 11) + 40 * k1 ≤ _; omega⟩) ⟨p1, p2⟩ rfl hN (hl.1.trans rfl) hst (lv_room hcat) hd hmc) hI hS hl kk
theorem g_callN {Y : Mt} {idx k1 mc ms N : Nat} {host : String} {As rest st1 : List Value} {P1 : Option Value → Hp → Prop} (hd : decode b pc = .ok (.invokestatic idx, 3)) (hl1 : Cond.methodLinkNest own idx Y.1 host ∈ lw_tbl) (hm : Ms Y N) (hct : Ct X Y k1 mc ms As h P1) (hN : As.length = N) (hst : st1 = As.reverse ++ rest) (hf : k1 + 1 ≤ R.frames ∧ 40 * k1 + 40 ≤ R.locals) (hcat : (rest.map fun v => v.category).sum ≤ 8) (hmc : c + mc ≤ R.cells ∧ n + ms ≤ R.slots) (kk : ∀ v h1, P1 v h1 → G X own b mx rt nm R Qf (c + mc) (n + ms) (pc + 3) L (v.toList ++ rest) h1) : G X own b mx rt nm R Qf c n pc L st1 h := by
  intro p ev s m args below meth cd H locs ls hI hR hS hl
  obtain ⟨hx, hb, hml, hown, hts, -, -, -, hz, hK⟩ := id hI
  obtain ⟨⟨m1, m2, m3, m4, m5, m6, m7⟩, m8⟩ := hm
  obtain ⟨p1, p2⟩ := ct_pre (k := k1) (mc := mc) (ms := ms) (av := As) hI hR hS
  exact g_run (va_runSN (Ts := wsA) (own := own) ⟨hx, hb, hml, hown, hts⟩ hct ⟨va_cnB N hts (goodA_of (fun w hw => by
      rcases List.mem_cons.mp hw with rfl | h
      · exact inA m1 rfl
      · exact h)) rfl rfl rfl (hK.2.2.2.2.2.2.2.2 _ _ _ _ hl1) (hts _ (inA m2 rfl)) ⟨m4, m5, m6⟩ ⟨hf.1, by show 8 + (Y.2.2.1 + 11) + 40 * k1 ≤ _; omega⟩, hts _ (inA m8 rfl), trivial⟩ ⟨p1, p2⟩ rfl hN (hl.1.trans rfl) hst (lv_room hcat) hd hmc) hI hS hl kk
theorem g_callI {Y : Mt} {idx k1 mc ms r N : Nat} {As rest st1 : List Value} {P1 : Option Value → Hp → Prop} (hd : decode b pc = .ok (.invokespecial idx, 3)) (hl1 : Cond.methodLink own idx Y.1 ∈ lw_tbl) (hm : Mi Y N) (hct : Ct X Y k1 mc ms (.ref r :: As) h P1) (hN : As.length = N) (hst : st1 = As.reverse ++ .ref r :: rest) (hf : k1 + 1 ≤ R.frames ∧ 40 * k1 + 40 ≤ R.locals) (hcat : (rest.map fun v => v.category).sum ≤ 8) (hmc : c + mc ≤ R.cells ∧ n + ms ≤ R.slots) (kk : ∀ v h1, P1 v h1 → G X own b mx rt nm R Qf (c + mc) (n + ms) (pc + 3) L (v.toList ++ rest) h1) : G X own b mx rt nm R Qf c n pc L st1 h := by
  intro p ev s m args below meth cd H locs ls hI hR hS hl
  obtain ⟨hx, hb, hml, hown, hts, -, -, -, hz, hK⟩ := id hI
  obtain ⟨⟨m1, m2, m3, m4, m5, m6, m7⟩, m8, m9, m10⟩ := hm
  obtain ⟨p1, p2⟩ := ct_pre (k := k1) (mc := mc) (ms := ms) (av := .ref r :: As) hI hR hS
  exact g_run (va_runI (Ts := wsA) (own := own) (ws := wsY Y) ⟨hx, hb, hml, hown, hts⟩ hct (cwI N hts (goodA_of (fun w hw => by
      rcases List.mem_cons.mp hw with rfl | h
      · exact inA m1 rfl
      · exact h)) (bytes := Y.2.1) (maxL := Y.2.2.1) (by show Cond.code _ _ _ Y.2.2.2 :: wsA = _; rw [m10]) rfl rfl (hts _ (inA m2 rfl)) (hts _ (inA hl1 rfl)) (hts _ (inA m8 rfl)) m9 ⟨m4, m5, m6⟩ ⟨hf.1, by show 8 + (Y.2.2.1 + 11) + 40 * k1 ≤ _; omega⟩) ⟨p1, p2⟩ rfl hN (hl.1.trans rfl) hst (lv_room hcat) hd hmc) hI hS hl kk
theorem g_callIN {Y : Mt} {idx k1 mc ms r N : Nat} {host : String} {As rest st1 : List Value} {P1 : Option Value → Hp → Prop} (hd : decode b pc = .ok (.invokespecial idx, 3)) (hl1 : Cond.methodLinkNest own idx Y.1 host ∈ lw_tbl) (hm : Mi Y N) (hct : Ct X Y k1 mc ms (.ref r :: As) h P1) (hN : As.length = N) (hst : st1 = As.reverse ++ .ref r :: rest) (hf : k1 + 1 ≤ R.frames ∧ 40 * k1 + 40 ≤ R.locals) (hcat : (rest.map fun v => v.category).sum ≤ 8) (hmc : c + mc ≤ R.cells ∧ n + ms ≤ R.slots) (kk : ∀ v h1, P1 v h1 → G X own b mx rt nm R Qf (c + mc) (n + ms) (pc + 3) L (v.toList ++ rest) h1) : G X own b mx rt nm R Qf c n pc L st1 h := by
  intro p ev s m args below meth cd H locs ls hI hR hS hl
  obtain ⟨hx, hb, hml, hown, hts, -, -, -, hz, hK⟩ := id hI
  obtain ⟨⟨m1, m2, m3, m4, m5, m6, m7⟩, m8, m9, m10⟩ := hm
  obtain ⟨p1, p2⟩ := ct_pre (k := k1) (mc := mc) (ms := ms) (av := .ref r :: As) hI hR hS
  exact g_run (va_runIN (Ts := wsA) (own := own) (ws := wsY Y) ⟨hx, hb, hml, hown, hts⟩ hct ⟨va_cnB (bytes := Y.2.1) (maxL := Y.2.2.1) N hts (goodA_of (fun w hw => by
      rcases List.mem_cons.mp hw with rfl | h
      · exact inA m1 rfl
      · exact h)) (by show Cond.code _ _ _ Y.2.2.2 :: wsA = _; rw [m10]) rfl rfl (hK.2.2.2.2.2.2.2.2 _ _ _ _ hl1) (hts _ (inA m2 rfl)) ⟨m4, m5, m6⟩ ⟨hf.1, by show 8 + (Y.2.2.1 + 11) + 40 * k1 ≤ _; omega⟩, m9, hts _ (inA m8 rfl)⟩ ⟨p1, p2⟩ rfl hN (hl.1.trans rfl) hst (lv_room hcat) hd hmc) hI hS hl kk
end GJ
section GRet
variable {X : Cx} {own : String} {b : ByteArray} {mx : Nat} {rt : Option FieldType} {nm : String} {R : Room} {mc ms c n pc : Nat} {L : List (Nat × Value)} {h : Hp} {P : Option Value → Hp → Prop}
theorem g_iret {x : Int32} (hd : decode b pc = .ok (.ireturn, 1)) (hr : rt = some .int) (hc : c ≤ mc) (hn : n ≤ ms) (hp : P (some (.int x)) h) : G X own b mx rt nm R (Fm X P mc ms) c n pc L [.int x] h := by
  intro p ev s m args below meth cd H locs ls hI hR hS hl
  obtain ⟨hx, hb, hml, hown, hts, hrt, hlk, -, hz, hK⟩ := id hI
  exact W.widen hc hn (W.iret hx hb (hrt.trans hr) (fun t ht hW => ⟨⟨_, h, rfl, hp, by rw [ht]; exact hR.moved hW.alike⟩, hS.F ht⟩) hS.2.2 hd hlk)
theorem g_zret {x : Int32} {ty : FieldType} (hd : decode b pc = .ok (.ireturn, 1)) (hr : rt = some ty) (hx0 : narrow ty (.int x) = .int x) (hc : c ≤ mc) (hn : n ≤ ms) (hp : P (some (.int x)) h) : G X own b mx rt nm R (Fm X P mc ms) c n pc L [.int x] h := by
  intro p ev s m args below meth cd H locs ls hI hR hS hl
  obtain ⟨hx, hb, hml, hown, hts, hrt, hlk, -, hz, hK⟩ := id hI
  exact W.widen hc hn (W.zret hx hb (hrt.trans hr) hx0 (fun t ht hW => ⟨⟨_, h, rfl, hp, by rw [ht]; exact hR.moved hW.alike⟩, hS.F ht⟩) hS.2.2 hd hlk)
theorem g_fret {x : UInt32} (hd : decode b pc = .ok (.freturn, 1)) (hr : rt = some .float) (hc : c ≤ mc) (hn : n ≤ ms) (hp : P (some (.float x)) h) : G X own b mx rt nm R (Fm X P mc ms) c n pc L [.float x] h := by
  intro p ev s m args below meth cd H locs ls hI hR hS hl
  obtain ⟨hx, hb, hml, hown, hts, hrt, hlk, -, hz, hK⟩ := id hI
  exact W.widen hc hn (W.fret hx hb (hrt.trans hr) (fun t ht hW => ⟨⟨_, h, rfl, hp, by rw [ht]; exact hR.moved hW.alike⟩, hS.F ht⟩) hS.2.2 hd hlk)
theorem g_vret (hd : decode b pc = .ok (.return_, 1)) (hr : rt = none) (hc : c ≤ mc) (hn : n ≤ ms) (hp : P none h) : G X own b mx rt nm R (Fm X P mc ms) c n pc L [] h := by
  intro p ev s m args below meth cd H locs ls hI hR hS hl
  obtain ⟨hx, hb, hml, hown, hts, hrt, hlk, -, hz, hK⟩ := id hI
  exact W.widen hc hn (W.vret hx hb (hrt.trans hr) (fun t ht hW => ⟨⟨_, h, rfl, hp, by rw [ht]; exact hR.moved hW.alike⟩, hS.F ht⟩) hS.2.2 hd hlk)
theorem g_aret {v : Value} {C : String} (hd : decode b pc = .ok (.areturn, 1)) (hr : rt = some (.object C)) (hv : isRf v) (hc : c ≤ mc) (hn : n ≤ ms) (hp : P (some v) h) : G X own b mx rt nm R (Fm X P mc ms) c n pc L [v] h := by
  intro p ev s m args below meth cd H locs ls hI hR hS hl
  obtain ⟨hx, hb, hml, hown, hts, hrt, hlk, -, hz, hK⟩ := id hI
  exact W.widen hc hn (W.aret hx hb (hrt.trans hr) (Or.inl ⟨_, rfl⟩) hv (fun t ht hW => ⟨⟨_, h, rfl, hp, by rw [ht]; exact hR.moved hW.alike⟩, hS.F ht⟩) hS.2.2 hd hlk)
end GRet
end
section
section GC
variable {X : Cx} {own : String} {b : ByteArray} {mx : Nat} {rt : Option FieldType} {nm : String} {R : Room} {Qf : List Frame → Array Value → State → State → Prop} {c n pc : Nat} {L : List (Nat × Value)} {h : Hp}
/-- exact ends: the answer w and the cells h2; no answer and the cells h2 -/
def Ex (w : Value) (h2 : Hp) : Option Value → Hp → Prop := fun v h1 => v = some w ∧ h1 = h2
def Ev (h2 : Hp) : Option Value → Hp → Prop := fun v h1 => v = none ∧ h1 = h2
theorem Ex.i {x y : Int32} {h1 h2 : Hp} (a : x = y) (e : h1 = h2) : Ex (.int y) h2 (some (.int x)) h1 := ⟨by rw [a], e⟩
theorem Ex.f {x y : UInt32} {h1 h2 : Hp} (a : x = y) (e : h1 = h2) : Ex (.float y) h2 (some (.float x)) h1 := ⟨by rw [a], e⟩
theorem Ex.r {x y : Value} {h1 h2 : Hp} (a : x = y) (e : h1 = h2) : Ex y h2 (some x) h1 := ⟨by rw [a], e⟩
theorem g_cV0 {mc ms : Nat} {P1 : Option Value → Hp → Prop} {Y : Mt} {idx k1 r : Nat} {rest : List Value} {ci : Nat} {fs : List Value} (hd : decode b pc = .ok (.invokevirtual idx, 3)) (hl1 : Cond.methodLink own idx Y.1 ∈ lw_tbl) (hm : Mv Y 0) (hct : Ct X Y k1 mc ms [.ref r] h P1) (hr : h r = some (ob ci fs)) (hc : (vwCl[ci]?).map (fun q => q.1) = some Y.1.cls) (hf : k1 + 1 ≤ R.frames ∧ 40 * k1 + 40 ≤ R.locals) (hcat : (rest.map fun v => v.category).sum ≤ 8) (hmc : c + mc ≤ R.cells ∧ n + ms ≤ R.slots) (kk : ∀ v h1, P1 v h1 → G X own b mx rt nm R Qf (c + mc) (n + ms) (pc + 3) L (v.toList ++ rest) h1) : G X own b mx rt nm R Qf c n pc L (.ref r :: rest) h :=
  g_callV hd hl1 hm hct hr hc rfl rfl hf hcat hmc kk
theorem g_cV0x {w : Value} {h2 : Hp} {Y : Mt} {idx k1 r : Nat} {rest : List Value} {ci : Nat} {fs : List Value} (hd : decode b pc = .ok (.invokevirtual idx, 3)) (hl1 : Cond.methodLink own idx Y.1 ∈ lw_tbl) (hm : Mv Y 0) (hct : Ct X Y k1 0 0 [.ref r] h (Ex w h2)) (hr : h r = some (ob ci fs)) (hc : (vwCl[ci]?).map (fun q => q.1) = some Y.1.cls) (hf : k1 + 1 ≤ R.frames ∧ 40 * k1 + 40 ≤ R.locals) (hcat : (rest.map fun v => v.category).sum ≤ 8) (hmc : c ≤ R.cells ∧ n ≤ R.slots) (k : G X own b mx rt nm R Qf c n (pc + 3) L (w :: rest) h2) : G X own b mx rt nm R Qf c n pc L (.ref r :: rest) h :=
  g_callV hd hl1 hm hct hr hc rfl rfl hf hcat hmc (fun v h1 q => by obtain ⟨rfl, rfl⟩ := q; exact k)
theorem g_cV0v {h2 : Hp} {Y : Mt} {idx k1 r : Nat} {rest : List Value} {ci : Nat} {fs : List Value} (hd : decode b pc = .ok (.invokevirtual idx, 3)) (hl1 : Cond.methodLink own idx Y.1 ∈ lw_tbl) (hm : Mv Y 0) (hct : Ct X Y k1 0 0 [.ref r] h (Ev h2)) (hr : h r = some (ob ci fs)) (hc : (vwCl[ci]?).map (fun q => q.1) = some Y.1.cls) (hf : k1 + 1 ≤ R.frames ∧ 40 * k1 + 40 ≤ R.locals) (hcat : (rest.map fun v => v.category).sum ≤ 8) (hmc : c ≤ R.cells ∧ n ≤ R.slots) (k : G X own b mx rt nm R Qf c n (pc + 3) L rest h2) : G X own b mx rt nm R Qf c n pc L (.ref r :: rest) h :=
  g_callV hd hl1 hm hct hr hc rfl rfl hf hcat hmc (fun v h1 q => by obtain ⟨rfl, rfl⟩ := q; exact k)
theorem g_cS0 {mc ms : Nat} {P1 : Option Value → Hp → Prop} {Y : Mt} {idx k1 : Nat} {rest : List Value} (hd : decode b pc = .ok (.invokestatic idx, 3)) (hl1 : Cond.methodLink own idx Y.1 ∈ lw_tbl) (ho : Y.1.cls = own) (hm : Ms Y 0) (hct : Ct X Y k1 mc ms [] h P1) (hf : k1 + 1 ≤ R.frames ∧ 40 * k1 + 40 ≤ R.locals) (hcat : (rest.map fun v => v.category).sum ≤ 8) (hmc : c + mc ≤ R.cells ∧ n + ms ≤ R.slots) (kk : ∀ v h1, P1 v h1 → G X own b mx rt nm R Qf (c + mc) (n + ms) (pc + 3) L (v.toList ++ rest) h1) : G X own b mx rt nm R Qf c n pc L (rest) h :=
  g_callS hd hl1 ho hm hct rfl rfl hf hcat hmc kk
theorem g_cS0x {w : Value} {h2 : Hp} {Y : Mt} {idx k1 : Nat} {rest : List Value} (hd : decode b pc = .ok (.invokestatic idx, 3)) (hl1 : Cond.methodLink own idx Y.1 ∈ lw_tbl) (ho : Y.1.cls = own) (hm : Ms Y 0) (hct : Ct X Y k1 0 0 [] h (Ex w h2)) (hf : k1 + 1 ≤ R.frames ∧ 40 * k1 + 40 ≤ R.locals) (hcat : (rest.map fun v => v.category).sum ≤ 8) (hmc : c ≤ R.cells ∧ n ≤ R.slots) (k : G X own b mx rt nm R Qf c n (pc + 3) L (w :: rest) h2) : G X own b mx rt nm R Qf c n pc L (rest) h :=
  g_callS hd hl1 ho hm hct rfl rfl hf hcat hmc (fun v h1 q => by obtain ⟨rfl, rfl⟩ := q; exact k)
theorem g_cS0v {h2 : Hp} {Y : Mt} {idx k1 : Nat} {rest : List Value} (hd : decode b pc = .ok (.invokestatic idx, 3)) (hl1 : Cond.methodLink own idx Y.1 ∈ lw_tbl) (ho : Y.1.cls = own) (hm : Ms Y 0) (hct : Ct X Y k1 0 0 [] h (Ev h2)) (hf : k1 + 1 ≤ R.frames ∧ 40 * k1 + 40 ≤ R.locals) (hcat : (rest.map fun v => v.category).sum ≤ 8) (hmc : c ≤ R.cells ∧ n ≤ R.slots) (k : G X own b mx rt nm R Qf c n (pc + 3) L rest h2) : G X own b mx rt nm R Qf c n pc L (rest) h :=
  g_callS hd hl1 ho hm hct rfl rfl hf hcat hmc (fun v h1 q => by obtain ⟨rfl, rfl⟩ := q; exact k)
theorem g_cN0 {mc ms : Nat} {P1 : Option Value → Hp → Prop} {Y : Mt} {idx k1 : Nat} {host : String} {rest : List Value} (hd : decode b pc = .ok (.invokestatic idx, 3)) (hl1 : Cond.methodLinkNest own idx Y.1 host ∈ lw_tbl) (hm : Ms Y 0) (hct : Ct X Y k1 mc ms [] h P1) (hf : k1 + 1 ≤ R.frames ∧ 40 * k1 + 40 ≤ R.locals) (hcat : (rest.map fun v => v.category).sum ≤ 8) (hmc : c + mc ≤ R.cells ∧ n + ms ≤ R.slots) (kk : ∀ v h1, P1 v h1 → G X own b mx rt nm R Qf (c + mc) (n + ms) (pc + 3) L (v.toList ++ rest) h1) : G X own b mx rt nm R Qf c n pc L (rest) h :=
  g_callN hd hl1 hm hct rfl rfl hf hcat hmc kk
theorem g_cN0x {w : Value} {h2 : Hp} {Y : Mt} {idx k1 : Nat} {host : String} {rest : List Value} (hd : decode b pc = .ok (.invokestatic idx, 3)) (hl1 : Cond.methodLinkNest own idx Y.1 host ∈ lw_tbl) (hm : Ms Y 0) (hct : Ct X Y k1 0 0 [] h (Ex w h2)) (hf : k1 + 1 ≤ R.frames ∧ 40 * k1 + 40 ≤ R.locals) (hcat : (rest.map fun v => v.category).sum ≤ 8) (hmc : c ≤ R.cells ∧ n ≤ R.slots) (k : G X own b mx rt nm R Qf c n (pc + 3) L (w :: rest) h2) : G X own b mx rt nm R Qf c n pc L (rest) h :=
  g_callN hd hl1 hm hct rfl rfl hf hcat hmc (fun v h1 q => by obtain ⟨rfl, rfl⟩ := q; exact k)
theorem g_cN0v {h2 : Hp} {Y : Mt} {idx k1 : Nat} {host : String} {rest : List Value} (hd : decode b pc = .ok (.invokestatic idx, 3)) (hl1 : Cond.methodLinkNest own idx Y.1 host ∈ lw_tbl) (hm : Ms Y 0) (hct : Ct X Y k1 0 0 [] h (Ev h2)) (hf : k1 + 1 ≤ R.frames ∧ 40 * k1 + 40 ≤ R.locals) (hcat : (rest.map fun v => v.category).sum ≤ 8) (hmc : c ≤ R.cells ∧ n ≤ R.slots) (k : G X own b mx rt nm R Qf c n (pc + 3) L rest h2) : G X own b mx rt nm R Qf c n pc L (rest) h :=
  g_callN hd hl1 hm hct rfl rfl hf hcat hmc (fun v h1 q => by obtain ⟨rfl, rfl⟩ := q; exact k)
theorem g_cI0 {mc ms : Nat} {P1 : Option Value → Hp → Prop} {Y : Mt} {idx k1 r : Nat} {rest : List Value} (hd : decode b pc = .ok (.invokespecial idx, 3)) (hl1 : Cond.methodLink own idx Y.1 ∈ lw_tbl) (hm : Mi Y 0) (hct : Ct X Y k1 mc ms [.ref r] h P1) (hf : k1 + 1 ≤ R.frames ∧ 40 * k1 + 40 ≤ R.locals) (hcat : (rest.map fun v => v.category).sum ≤ 8) (hmc : c + mc ≤ R.cells ∧ n + ms ≤ R.slots) (kk : ∀ v h1, P1 v h1 → G X own b mx rt nm R Qf (c + mc) (n + ms) (pc + 3) L (v.toList ++ rest) h1) : G X own b mx rt nm R Qf c n pc L (.ref r :: rest) h :=
  g_callI hd hl1 hm hct rfl rfl hf hcat hmc kk
theorem g_cIN0 {mc ms : Nat} {P1 : Option Value → Hp → Prop} {Y : Mt} {idx k1 r : Nat} {host : String} {rest : List Value} (hd : decode b pc = .ok (.invokespecial idx, 3)) (hl1 : Cond.methodLinkNest own idx Y.1 host ∈ lw_tbl) (hm : Mi Y 0) (hct : Ct X Y k1 mc ms [.ref r] h P1) (hf : k1 + 1 ≤ R.frames ∧ 40 * k1 + 40 ≤ R.locals) (hcat : (rest.map fun v => v.category).sum ≤ 8) (hmc : c + mc ≤ R.cells ∧ n + ms ≤ R.slots) (kk : ∀ v h1, P1 v h1 → G X own b mx rt nm R Qf (c + mc) (n + ms) (pc + 3) L (v.toList ++ rest) h1) : G X own b mx rt nm R Qf c n pc L (.ref r :: rest) h :=
  g_callIN hd hl1 hm hct rfl rfl hf hcat hmc kk
theorem g_cV1 {mc ms : Nat} {P1 : Option Value → Hp → Prop} {Y : Mt} {idx k1 r : Nat} {v1 : Value} {rest : List Value} {ci : Nat} {fs : List Value} (hd : decode b pc = .ok (.invokevirtual idx, 3)) (hl1 : Cond.methodLink own idx Y.1 ∈ lw_tbl) (hm : Mv Y 1) (hct : Ct X Y k1 mc ms [.ref r, v1] h P1) (hr : h r = some (ob ci fs)) (hc : (vwCl[ci]?).map (fun q => q.1) = some Y.1.cls) (hf : k1 + 1 ≤ R.frames ∧ 40 * k1 + 40 ≤ R.locals) (hcat : (rest.map fun v => v.category).sum ≤ 8) (hmc : c + mc ≤ R.cells ∧ n + ms ≤ R.slots) (kk : ∀ v h1, P1 v h1 → G X own b mx rt nm R Qf (c + mc) (n + ms) (pc + 3) L (v.toList ++ rest) h1) : G X own b mx rt nm R Qf c n pc L (v1 :: .ref r :: rest) h :=
  g_callV hd hl1 hm hct hr hc rfl rfl hf hcat hmc kk
theorem g_cV1x {w : Value} {h2 : Hp} {Y : Mt} {idx k1 r : Nat} {v1 : Value} {rest : List Value} {ci : Nat} {fs : List Value} (hd : decode b pc = .ok (.invokevirtual idx, 3)) (hl1 : Cond.methodLink own idx Y.1 ∈ lw_tbl) (hm : Mv Y 1) (hct : Ct X Y k1 0 0 [.ref r, v1] h (Ex w h2)) (hr : h r = some (ob ci fs)) (hc : (vwCl[ci]?).map (fun q => q.1) = some Y.1.cls) (hf : k1 + 1 ≤ R.frames ∧ 40 * k1 + 40 ≤ R.locals) (hcat : (rest.map fun v => v.category).sum ≤ 8) (hmc : c ≤ R.cells ∧ n ≤ R.slots) (k : G X own b mx rt nm R Qf c n (pc + 3) L (w :: rest) h2) : G X own b mx rt nm R Qf c n pc L (v1 :: .ref r :: rest) h :=
  g_callV hd hl1 hm hct hr hc rfl rfl hf hcat hmc (fun v h1 q => by obtain ⟨rfl, rfl⟩ := q; exact k)
theorem g_cV1v {h2 : Hp} {Y : Mt} {idx k1 r : Nat} {v1 : Value} {rest : List Value} {ci : Nat} {fs : List Value} (hd : decode b pc = .ok (.invokevirtual idx, 3)) (hl1 : Cond.methodLink own idx Y.1 ∈ lw_tbl) (hm : Mv Y 1) (hct : Ct X Y k1 0 0 [.ref r, v1] h (Ev h2)) (hr : h r = some (ob ci fs)) (hc : (vwCl[ci]?).map (fun q => q.1) = some Y.1.cls) (hf : k1 + 1 ≤ R.frames ∧ 40 * k1 + 40 ≤ R.locals) (hcat : (rest.map fun v => v.category).sum ≤ 8) (hmc : c ≤ R.cells ∧ n ≤ R.slots) (k : G X own b mx rt nm R Qf c n (pc + 3) L rest h2) : G X own b mx rt nm R Qf c n pc L (v1 :: .ref r :: rest) h :=
  g_callV hd hl1 hm hct hr hc rfl rfl hf hcat hmc (fun v h1 q => by obtain ⟨rfl, rfl⟩ := q; exact k)
theorem g_cS1 {mc ms : Nat} {P1 : Option Value → Hp → Prop} {Y : Mt} {idx k1 : Nat} {v1 : Value} {rest : List Value} (hd : decode b pc = .ok (.invokestatic idx, 3)) (hl1 : Cond.methodLink own idx Y.1 ∈ lw_tbl) (ho : Y.1.cls = own) (hm : Ms Y 1) (hct : Ct X Y k1 mc ms [v1] h P1) (hf : k1 + 1 ≤ R.frames ∧ 40 * k1 + 40 ≤ R.locals) (hcat : (rest.map fun v => v.category).sum ≤ 8) (hmc : c + mc ≤ R.cells ∧ n + ms ≤ R.slots) (kk : ∀ v h1, P1 v h1 → G X own b mx rt nm R Qf (c + mc) (n + ms) (pc + 3) L (v.toList ++ rest) h1) : G X own b mx rt nm R Qf c n pc L (v1 :: rest) h :=
  g_callS hd hl1 ho hm hct rfl rfl hf hcat hmc kk
theorem g_cS1x {w : Value} {h2 : Hp} {Y : Mt} {idx k1 : Nat} {v1 : Value} {rest : List Value} (hd : decode b pc = .ok (.invokestatic idx, 3)) (hl1 : Cond.methodLink own idx Y.1 ∈ lw_tbl) (ho : Y.1.cls = own) (hm : Ms Y 1) (hct : Ct X Y k1 0 0 [v1] h (Ex w h2)) (hf : k1 + 1 ≤ R.frames ∧ 40 * k1 + 40 ≤ R.locals) (hcat : (rest.map fun v => v.category).sum ≤ 8) (hmc : c ≤ R.cells ∧ n ≤ R.slots) (k : G X own b mx rt nm R Qf c n (pc + 3) L (w :: rest) h2) : G X own b mx rt nm R Qf c n pc L (v1 :: rest) h :=
  g_callS hd hl1 ho hm hct rfl rfl hf hcat hmc (fun v h1 q => by obtain ⟨rfl, rfl⟩ := q; exact k)
theorem g_cS1v {h2 : Hp} {Y : Mt} {idx k1 : Nat} {v1 : Value} {rest : List Value} (hd : decode b pc = .ok (.invokestatic idx, 3)) (hl1 : Cond.methodLink own idx Y.1 ∈ lw_tbl) (ho : Y.1.cls = own) (hm : Ms Y 1) (hct : Ct X Y k1 0 0 [v1] h (Ev h2)) (hf : k1 + 1 ≤ R.frames ∧ 40 * k1 + 40 ≤ R.locals) (hcat : (rest.map fun v => v.category).sum ≤ 8) (hmc : c ≤ R.cells ∧ n ≤ R.slots) (k : G X own b mx rt nm R Qf c n (pc + 3) L rest h2) : G X own b mx rt nm R Qf c n pc L (v1 :: rest) h :=
  g_callS hd hl1 ho hm hct rfl rfl hf hcat hmc (fun v h1 q => by obtain ⟨rfl, rfl⟩ := q; exact k)
theorem g_cN1 {mc ms : Nat} {P1 : Option Value → Hp → Prop} {Y : Mt} {idx k1 : Nat} {v1 : Value} {host : String} {rest : List Value} (hd : decode b pc = .ok (.invokestatic idx, 3)) (hl1 : Cond.methodLinkNest own idx Y.1 host ∈ lw_tbl) (hm : Ms Y 1) (hct : Ct X Y k1 mc ms [v1] h P1) (hf : k1 + 1 ≤ R.frames ∧ 40 * k1 + 40 ≤ R.locals) (hcat : (rest.map fun v => v.category).sum ≤ 8) (hmc : c + mc ≤ R.cells ∧ n + ms ≤ R.slots) (kk : ∀ v h1, P1 v h1 → G X own b mx rt nm R Qf (c + mc) (n + ms) (pc + 3) L (v.toList ++ rest) h1) : G X own b mx rt nm R Qf c n pc L (v1 :: rest) h :=
  g_callN hd hl1 hm hct rfl rfl hf hcat hmc kk
theorem g_cN1x {w : Value} {h2 : Hp} {Y : Mt} {idx k1 : Nat} {v1 : Value} {host : String} {rest : List Value} (hd : decode b pc = .ok (.invokestatic idx, 3)) (hl1 : Cond.methodLinkNest own idx Y.1 host ∈ lw_tbl) (hm : Ms Y 1) (hct : Ct X Y k1 0 0 [v1] h (Ex w h2)) (hf : k1 + 1 ≤ R.frames ∧ 40 * k1 + 40 ≤ R.locals) (hcat : (rest.map fun v => v.category).sum ≤ 8) (hmc : c ≤ R.cells ∧ n ≤ R.slots) (k : G X own b mx rt nm R Qf c n (pc + 3) L (w :: rest) h2) : G X own b mx rt nm R Qf c n pc L (v1 :: rest) h :=
  g_callN hd hl1 hm hct rfl rfl hf hcat hmc (fun v h1 q => by obtain ⟨rfl, rfl⟩ := q; exact k)
theorem g_cN1v {h2 : Hp} {Y : Mt} {idx k1 : Nat} {v1 : Value} {host : String} {rest : List Value} (hd : decode b pc = .ok (.invokestatic idx, 3)) (hl1 : Cond.methodLinkNest own idx Y.1 host ∈ lw_tbl) (hm : Ms Y 1) (hct : Ct X Y k1 0 0 [v1] h (Ev h2)) (hf : k1 + 1 ≤ R.frames ∧ 40 * k1 + 40 ≤ R.locals) (hcat : (rest.map fun v => v.category).sum ≤ 8) (hmc : c ≤ R.cells ∧ n ≤ R.slots) (k : G X own b mx rt nm R Qf c n (pc + 3) L rest h2) : G X own b mx rt nm R Qf c n pc L (v1 :: rest) h :=
  g_callN hd hl1 hm hct rfl rfl hf hcat hmc (fun v h1 q => by obtain ⟨rfl, rfl⟩ := q; exact k)
theorem g_cI1 {mc ms : Nat} {P1 : Option Value → Hp → Prop} {Y : Mt} {idx k1 r : Nat} {v1 : Value} {rest : List Value} (hd : decode b pc = .ok (.invokespecial idx, 3)) (hl1 : Cond.methodLink own idx Y.1 ∈ lw_tbl) (hm : Mi Y 1) (hct : Ct X Y k1 mc ms [.ref r, v1] h P1) (hf : k1 + 1 ≤ R.frames ∧ 40 * k1 + 40 ≤ R.locals) (hcat : (rest.map fun v => v.category).sum ≤ 8) (hmc : c + mc ≤ R.cells ∧ n + ms ≤ R.slots) (kk : ∀ v h1, P1 v h1 → G X own b mx rt nm R Qf (c + mc) (n + ms) (pc + 3) L (v.toList ++ rest) h1) : G X own b mx rt nm R Qf c n pc L (v1 :: .ref r :: rest) h :=
  g_callI hd hl1 hm hct rfl rfl hf hcat hmc kk
theorem g_cIN1 {mc ms : Nat} {P1 : Option Value → Hp → Prop} {Y : Mt} {idx k1 r : Nat} {v1 : Value} {host : String} {rest : List Value} (hd : decode b pc = .ok (.invokespecial idx, 3)) (hl1 : Cond.methodLinkNest own idx Y.1 host ∈ lw_tbl) (hm : Mi Y 1) (hct : Ct X Y k1 mc ms [.ref r, v1] h P1) (hf : k1 + 1 ≤ R.frames ∧ 40 * k1 + 40 ≤ R.locals) (hcat : (rest.map fun v => v.category).sum ≤ 8) (hmc : c + mc ≤ R.cells ∧ n + ms ≤ R.slots) (kk : ∀ v h1, P1 v h1 → G X own b mx rt nm R Qf (c + mc) (n + ms) (pc + 3) L (v.toList ++ rest) h1) : G X own b mx rt nm R Qf c n pc L (v1 :: .ref r :: rest) h :=
  g_callIN hd hl1 hm hct rfl rfl hf hcat hmc kk
theorem g_cV2 {mc ms : Nat} {P1 : Option Value → Hp → Prop} {Y : Mt} {idx k1 r : Nat} {v1 v2 : Value} {rest : List Value} {ci : Nat} {fs : List Value} (hd : decode b pc = .ok (.invokevirtual idx, 3)) (hl1 : Cond.methodLink own idx Y.1 ∈ lw_tbl) (hm : Mv Y 2) (hct : Ct X Y k1 mc ms [.ref r, v1, v2] h P1) (hr : h r = some (ob ci fs)) (hc : (vwCl[ci]?).map (fun q => q.1) = some Y.1.cls) (hf : k1 + 1 ≤ R.frames ∧ 40 * k1 + 40 ≤ R.locals) (hcat : (rest.map fun v => v.category).sum ≤ 8) (hmc : c + mc ≤ R.cells ∧ n + ms ≤ R.slots) (kk : ∀ v h1, P1 v h1 → G X own b mx rt nm R Qf (c + mc) (n + ms) (pc + 3) L (v.toList ++ rest) h1) : G X own b mx rt nm R Qf c n pc L (v2 :: v1 :: .ref r :: rest) h :=
  g_callV hd hl1 hm hct hr hc rfl rfl hf hcat hmc kk
theorem g_cV2x {w : Value} {h2 : Hp} {Y : Mt} {idx k1 r : Nat} {v1 v2 : Value} {rest : List Value} {ci : Nat} {fs : List Value} (hd : decode b pc = .ok (.invokevirtual idx, 3)) (hl1 : Cond.methodLink own idx Y.1 ∈ lw_tbl) (hm : Mv Y 2) (hct : Ct X Y k1 0 0 [.ref r, v1, v2] h (Ex w h2)) (hr : h r = some (ob ci fs)) (hc : (vwCl[ci]?).map (fun q => q.1) = some Y.1.cls) (hf : k1 + 1 ≤ R.frames ∧ 40 * k1 + 40 ≤ R.locals) (hcat : (rest.map fun v => v.category).sum ≤ 8) (hmc : c ≤ R.cells ∧ n ≤ R.slots) (k : G X own b mx rt nm R Qf c n (pc + 3) L (w :: rest) h2) : G X own b mx rt nm R Qf c n pc L (v2 :: v1 :: .ref r :: rest) h :=
  g_callV hd hl1 hm hct hr hc rfl rfl hf hcat hmc (fun v h1 q => by obtain ⟨rfl, rfl⟩ := q; exact k)
theorem g_cV2v {h2 : Hp} {Y : Mt} {idx k1 r : Nat} {v1 v2 : Value} {rest : List Value} {ci : Nat} {fs : List Value} (hd : decode b pc = .ok (.invokevirtual idx, 3)) (hl1 : Cond.methodLink own idx Y.1 ∈ lw_tbl) (hm : Mv Y 2) (hct : Ct X Y k1 0 0 [.ref r, v1, v2] h (Ev h2)) (hr : h r = some (ob ci fs)) (hc : (vwCl[ci]?).map (fun q => q.1) = some Y.1.cls) (hf : k1 + 1 ≤ R.frames ∧ 40 * k1 + 40 ≤ R.locals) (hcat : (rest.map fun v => v.category).sum ≤ 8) (hmc : c ≤ R.cells ∧ n ≤ R.slots) (k : G X own b mx rt nm R Qf c n (pc + 3) L rest h2) : G X own b mx rt nm R Qf c n pc L (v2 :: v1 :: .ref r :: rest) h :=
  g_callV hd hl1 hm hct hr hc rfl rfl hf hcat hmc (fun v h1 q => by obtain ⟨rfl, rfl⟩ := q; exact k)
theorem g_cS2 {mc ms : Nat} {P1 : Option Value → Hp → Prop} {Y : Mt} {idx k1 : Nat} {v1 v2 : Value} {rest : List Value} (hd : decode b pc = .ok (.invokestatic idx, 3)) (hl1 : Cond.methodLink own idx Y.1 ∈ lw_tbl) (ho : Y.1.cls = own) (hm : Ms Y 2) (hct : Ct X Y k1 mc ms [v1, v2] h P1) (hf : k1 + 1 ≤ R.frames ∧ 40 * k1 + 40 ≤ R.locals) (hcat : (rest.map fun v => v.category).sum ≤ 8) (hmc : c + mc ≤ R.cells ∧ n + ms ≤ R.slots) (kk : ∀ v h1, P1 v h1 → G X own b mx rt nm R Qf (c + mc) (n + ms) (pc + 3) L (v.toList ++ rest) h1) : G X own b mx rt nm R Qf c n pc L (v2 :: v1 :: rest) h :=
  g_callS hd hl1 ho hm hct rfl rfl hf hcat hmc kk
theorem g_cS2x {w : Value} {h2 : Hp} {Y : Mt} {idx k1 : Nat} {v1 v2 : Value} {rest : List Value} (hd : decode b pc = .ok (.invokestatic idx, 3)) (hl1 : Cond.methodLink own idx Y.1 ∈ lw_tbl) (ho : Y.1.cls = own) (hm : Ms Y 2) (hct : Ct X Y k1 0 0 [v1, v2] h (Ex w h2)) (hf : k1 + 1 ≤ R.frames ∧ 40 * k1 + 40 ≤ R.locals) (hcat : (rest.map fun v => v.category).sum ≤ 8) (hmc : c ≤ R.cells ∧ n ≤ R.slots) (k : G X own b mx rt nm R Qf c n (pc + 3) L (w :: rest) h2) : G X own b mx rt nm R Qf c n pc L (v2 :: v1 :: rest) h :=
  g_callS hd hl1 ho hm hct rfl rfl hf hcat hmc (fun v h1 q => by obtain ⟨rfl, rfl⟩ := q; exact k)
theorem g_cS2v {h2 : Hp} {Y : Mt} {idx k1 : Nat} {v1 v2 : Value} {rest : List Value} (hd : decode b pc = .ok (.invokestatic idx, 3)) (hl1 : Cond.methodLink own idx Y.1 ∈ lw_tbl) (ho : Y.1.cls = own) (hm : Ms Y 2) (hct : Ct X Y k1 0 0 [v1, v2] h (Ev h2)) (hf : k1 + 1 ≤ R.frames ∧ 40 * k1 + 40 ≤ R.locals) (hcat : (rest.map fun v => v.category).sum ≤ 8) (hmc : c ≤ R.cells ∧ n ≤ R.slots) (k : G X own b mx rt nm R Qf c n (pc + 3) L rest h2) : G X own b mx rt nm R Qf c n pc L (v2 :: v1 :: rest) h :=
  g_callS hd hl1 ho hm hct rfl rfl hf hcat hmc (fun v h1 q => by obtain ⟨rfl, rfl⟩ := q; exact k)
theorem g_cN2 {mc ms : Nat} {P1 : Option Value → Hp → Prop} {Y : Mt} {idx k1 : Nat} {v1 v2 : Value} {host : String} {rest : List Value} (hd : decode b pc = .ok (.invokestatic idx, 3)) (hl1 : Cond.methodLinkNest own idx Y.1 host ∈ lw_tbl) (hm : Ms Y 2) (hct : Ct X Y k1 mc ms [v1, v2] h P1) (hf : k1 + 1 ≤ R.frames ∧ 40 * k1 + 40 ≤ R.locals) (hcat : (rest.map fun v => v.category).sum ≤ 8) (hmc : c + mc ≤ R.cells ∧ n + ms ≤ R.slots) (kk : ∀ v h1, P1 v h1 → G X own b mx rt nm R Qf (c + mc) (n + ms) (pc + 3) L (v.toList ++ rest) h1) : G X own b mx rt nm R Qf c n pc L (v2 :: v1 :: rest) h :=
  g_callN hd hl1 hm hct rfl rfl hf hcat hmc kk
theorem g_cN2x {w : Value} {h2 : Hp} {Y : Mt} {idx k1 : Nat} {v1 v2 : Value} {host : String} {rest : List Value} (hd : decode b pc = .ok (.invokestatic idx, 3)) (hl1 : Cond.methodLinkNest own idx Y.1 host ∈ lw_tbl) (hm : Ms Y 2) (hct : Ct X Y k1 0 0 [v1, v2] h (Ex w h2)) (hf : k1 + 1 ≤ R.frames ∧ 40 * k1 + 40 ≤ R.locals) (hcat : (rest.map fun v => v.category).sum ≤ 8) (hmc : c ≤ R.cells ∧ n ≤ R.slots) (k : G X own b mx rt nm R Qf c n (pc + 3) L (w :: rest) h2) : G X own b mx rt nm R Qf c n pc L (v2 :: v1 :: rest) h :=
  g_callN hd hl1 hm hct rfl rfl hf hcat hmc (fun v h1 q => by obtain ⟨rfl, rfl⟩ := q; exact k)
theorem g_cN2v {h2 : Hp} {Y : Mt} {idx k1 : Nat} {v1 v2 : Value} {host : String} {rest : List Value} (hd : decode b pc = .ok (.invokestatic idx, 3)) (hl1 : Cond.methodLinkNest own idx Y.1 host ∈ lw_tbl) (hm : Ms Y 2) (hct : Ct X Y k1 0 0 [v1, v2] h (Ev h2)) (hf : k1 + 1 ≤ R.frames ∧ 40 * k1 + 40 ≤ R.locals) (hcat : (rest.map fun v => v.category).sum ≤ 8) (hmc : c ≤ R.cells ∧ n ≤ R.slots) (k : G X own b mx rt nm R Qf c n (pc + 3) L rest h2) : G X own b mx rt nm R Qf c n pc L (v2 :: v1 :: rest) h :=
  g_callN hd hl1 hm hct rfl rfl hf hcat hmc (fun v h1 q => by obtain ⟨rfl, rfl⟩ := q; exact k)
theorem g_cI2 {mc ms : Nat} {P1 : Option Value → Hp → Prop} {Y : Mt} {idx k1 r : Nat} {v1 v2 : Value} {rest : List Value} (hd : decode b pc = .ok (.invokespecial idx, 3)) (hl1 : Cond.methodLink own idx Y.1 ∈ lw_tbl) (hm : Mi Y 2) (hct : Ct X Y k1 mc ms [.ref r, v1, v2] h P1) (hf : k1 + 1 ≤ R.frames ∧ 40 * k1 + 40 ≤ R.locals) (hcat : (rest.map fun v => v.category).sum ≤ 8) (hmc : c + mc ≤ R.cells ∧ n + ms ≤ R.slots) (kk : ∀ v h1, P1 v h1 → G X own b mx rt nm R Qf (c + mc) (n + ms) (pc + 3) L (v.toList ++ rest) h1) : G X own b mx rt nm R Qf c n pc L (v2 :: v1 :: .ref r :: rest) h :=
  g_callI hd hl1 hm hct rfl rfl hf hcat hmc kk
theorem g_cIN2 {mc ms : Nat} {P1 : Option Value → Hp → Prop} {Y : Mt} {idx k1 r : Nat} {v1 v2 : Value} {host : String} {rest : List Value} (hd : decode b pc = .ok (.invokespecial idx, 3)) (hl1 : Cond.methodLinkNest own idx Y.1 host ∈ lw_tbl) (hm : Mi Y 2) (hct : Ct X Y k1 mc ms [.ref r, v1, v2] h P1) (hf : k1 + 1 ≤ R.frames ∧ 40 * k1 + 40 ≤ R.locals) (hcat : (rest.map fun v => v.category).sum ≤ 8) (hmc : c + mc ≤ R.cells ∧ n + ms ≤ R.slots) (kk : ∀ v h1, P1 v h1 → G X own b mx rt nm R Qf (c + mc) (n + ms) (pc + 3) L (v.toList ++ rest) h1) : G X own b mx rt nm R Qf c n pc L (v2 :: v1 :: .ref r :: rest) h :=
  g_callIN hd hl1 hm hct rfl rfl hf hcat hmc kk
theorem g_cV3 {mc ms : Nat} {P1 : Option Value → Hp → Prop} {Y : Mt} {idx k1 r : Nat} {v1 v2 v3 : Value} {rest : List Value} {ci : Nat} {fs : List Value} (hd : decode b pc = .ok (.invokevirtual idx, 3)) (hl1 : Cond.methodLink own idx Y.1 ∈ lw_tbl) (hm : Mv Y 3) (hct : Ct X Y k1 mc ms [.ref r, v1, v2, v3] h P1) (hr : h r = some (ob ci fs)) (hc : (vwCl[ci]?).map (fun q => q.1) = some Y.1.cls) (hf : k1 + 1 ≤ R.frames ∧ 40 * k1 + 40 ≤ R.locals) (hcat : (rest.map fun v => v.category).sum ≤ 8) (hmc : c + mc ≤ R.cells ∧ n + ms ≤ R.slots) (kk : ∀ v h1, P1 v h1 → G X own b mx rt nm R Qf (c + mc) (n + ms) (pc + 3) L (v.toList ++ rest) h1) : G X own b mx rt nm R Qf c n pc L (v3 :: v2 :: v1 :: .ref r :: rest) h :=
  g_callV hd hl1 hm hct hr hc rfl rfl hf hcat hmc kk
theorem g_cV3x {w : Value} {h2 : Hp} {Y : Mt} {idx k1 r : Nat} {v1 v2 v3 : Value} {rest : List Value} {ci : Nat} {fs : List Value} (hd : decode b pc = .ok (.invokevirtual idx, 3)) (hl1 : Cond.methodLink own idx Y.1 ∈ lw_tbl) (hm : Mv Y 3) (hct : Ct X Y k1 0 0 [.ref r, v1, v2, v3] h (Ex w h2)) (hr : h r = some (ob ci fs)) (hc : (vwCl[ci]?).map (fun q => q.1) = some Y.1.cls) (hf : k1 + 1 ≤ R.frames ∧ 40 * k1 + 40 ≤ R.locals) (hcat : (rest.map fun v => v.category).sum ≤ 8) (hmc : c ≤ R.cells ∧ n ≤ R.slots) (k : G X own b mx rt nm R Qf c n (pc + 3) L (w :: rest) h2) : G X own b mx rt nm R Qf c n pc L (v3 :: v2 :: v1 :: .ref r :: rest) h :=
  g_callV hd hl1 hm hct hr hc rfl rfl hf hcat hmc (fun v h1 q => by obtain ⟨rfl, rfl⟩ := q; exact k)
theorem g_cV3v {h2 : Hp} {Y : Mt} {idx k1 r : Nat} {v1 v2 v3 : Value} {rest : List Value} {ci : Nat} {fs : List Value} (hd : decode b pc = .ok (.invokevirtual idx, 3)) (hl1 : Cond.methodLink own idx Y.1 ∈ lw_tbl) (hm : Mv Y 3) (hct : Ct X Y k1 0 0 [.ref r, v1, v2, v3] h (Ev h2)) (hr : h r = some (ob ci fs)) (hc : (vwCl[ci]?).map (fun q => q.1) = some Y.1.cls) (hf : k1 + 1 ≤ R.frames ∧ 40 * k1 + 40 ≤ R.locals) (hcat : (rest.map fun v => v.category).sum ≤ 8) (hmc : c ≤ R.cells ∧ n ≤ R.slots) (k : G X own b mx rt nm R Qf c n (pc + 3) L rest h2) : G X own b mx rt nm R Qf c n pc L (v3 :: v2 :: v1 :: .ref r :: rest) h :=
  g_callV hd hl1 hm hct hr hc rfl rfl hf hcat hmc (fun v h1 q => by obtain ⟨rfl, rfl⟩ := q; exact k)
theorem g_cS3 {mc ms : Nat} {P1 : Option Value → Hp → Prop} {Y : Mt} {idx k1 : Nat} {v1 v2 v3 : Value} {rest : List Value} (hd : decode b pc = .ok (.invokestatic idx, 3)) (hl1 : Cond.methodLink own idx Y.1 ∈ lw_tbl) (ho : Y.1.cls = own) (hm : Ms Y 3) (hct : Ct X Y k1 mc ms [v1, v2, v3] h P1) (hf : k1 + 1 ≤ R.frames ∧ 40 * k1 + 40 ≤ R.locals) (hcat : (rest.map fun v => v.category).sum ≤ 8) (hmc : c + mc ≤ R.cells ∧ n + ms ≤ R.slots) (kk : ∀ v h1, P1 v h1 → G X own b mx rt nm R Qf (c + mc) (n + ms) (pc + 3) L (v.toList ++ rest) h1) : G X own b mx rt nm R Qf c n pc L (v3 :: v2 :: v1 :: rest) h :=
  g_callS hd hl1 ho hm hct rfl rfl hf hcat hmc kk
theorem g_cS3x {w : Value} {h2 : Hp} {Y : Mt} {idx k1 : Nat} {v1 v2 v3 : Value} {rest : List Value} (hd : decode b pc = .ok (.invokestatic idx, 3)) (hl1 : Cond.methodLink own idx Y.1 ∈ lw_tbl) (ho : Y.1.cls = own) (hm : Ms Y 3) (hct : Ct X Y k1 0 0 [v1, v2, v3] h (Ex w h2)) (hf : k1 + 1 ≤ R.frames ∧ 40 * k1 + 40 ≤ R.locals) (hcat : (rest.map fun v => v.category).sum ≤ 8) (hmc : c ≤ R.cells ∧ n ≤ R.slots) (k : G X own b mx rt nm R Qf c n (pc + 3) L (w :: rest) h2) : G X own b mx rt nm R Qf c n pc L (v3 :: v2 :: v1 :: rest) h :=
  g_callS hd hl1 ho hm hct rfl rfl hf hcat hmc (fun v h1 q => by obtain ⟨rfl, rfl⟩ := q; exact k)
theorem g_cS3v {h2 : Hp} {Y : Mt} {idx k1 : Nat} {v1 v2 v3 : Value} {rest : List Value} (hd : decode b pc = .ok (.invokestatic idx, 3)) (hl1 : Cond.methodLink own idx Y.1 ∈ lw_tbl) (ho : Y.1.cls = own) (hm : Ms Y 3) (hct : Ct X Y k1 0 0 [v1, v2, v3] h (Ev h2)) (hf : k1 + 1 ≤ R.frames ∧ 40 * k1 + 40 ≤ R.locals) (hcat : (rest.map fun v => v.category).sum ≤ 8) (hmc : c ≤ R.cells ∧ n ≤ R.slots) (k : G X own b mx rt nm R Qf c n (pc + 3) L rest h2) : G X own b mx rt nm R Qf c n pc L (v3 :: v2 :: v1 :: rest) h :=
  g_callS hd hl1 ho hm hct rfl rfl hf hcat hmc (fun v h1 q => by obtain ⟨rfl, rfl⟩ := q; exact k)
theorem g_cN3 {mc ms : Nat} {P1 : Option Value → Hp → Prop} {Y : Mt} {idx k1 : Nat} {v1 v2 v3 : Value} {host : String} {rest : List Value} (hd : decode b pc = .ok (.invokestatic idx, 3)) (hl1 : Cond.methodLinkNest own idx Y.1 host ∈ lw_tbl) (hm : Ms Y 3) (hct : Ct X Y k1 mc ms [v1, v2, v3] h P1) (hf : k1 + 1 ≤ R.frames ∧ 40 * k1 + 40 ≤ R.locals) (hcat : (rest.map fun v => v.category).sum ≤ 8) (hmc : c + mc ≤ R.cells ∧ n + ms ≤ R.slots) (kk : ∀ v h1, P1 v h1 → G X own b mx rt nm R Qf (c + mc) (n + ms) (pc + 3) L (v.toList ++ rest) h1) : G X own b mx rt nm R Qf c n pc L (v3 :: v2 :: v1 :: rest) h :=
  g_callN hd hl1 hm hct rfl rfl hf hcat hmc kk
theorem g_cN3x {w : Value} {h2 : Hp} {Y : Mt} {idx k1 : Nat} {v1 v2 v3 : Value} {host : String} {rest : List Value} (hd : decode b pc = .ok (.invokestatic idx, 3)) (hl1 : Cond.methodLinkNest own idx Y.1 host ∈ lw_tbl) (hm : Ms Y 3) (hct : Ct X Y k1 0 0 [v1, v2, v3] h (Ex w h2)) (hf : k1 + 1 ≤ R.frames ∧ 40 * k1 + 40 ≤ R.locals) (hcat : (rest.map fun v => v.category).sum ≤ 8) (hmc : c ≤ R.cells ∧ n ≤ R.slots) (k : G X own b mx rt nm R Qf c n (pc + 3) L (w :: rest) h2) : G X own b mx rt nm R Qf c n pc L (v3 :: v2 :: v1 :: rest) h :=
  g_callN hd hl1 hm hct rfl rfl hf hcat hmc (fun v h1 q => by obtain ⟨rfl, rfl⟩ := q; exact k)
theorem g_cN3v {h2 : Hp} {Y : Mt} {idx k1 : Nat} {v1 v2 v3 : Value} {host : String} {rest : List Value} (hd : decode b pc = .ok (.invokestatic idx, 3)) (hl1 : Cond.methodLinkNest own idx Y.1 host ∈ lw_tbl) (hm : Ms Y 3) (hct : Ct X Y k1 0 0 [v1, v2, v3] h (Ev h2)) (hf : k1 + 1 ≤ R.frames ∧ 40 * k1 + 40 ≤ R.locals) (hcat : (rest.map fun v => v.category).sum ≤ 8) (hmc : c ≤ R.cells ∧ n ≤ R.slots) (k : G X own b mx rt nm R Qf c n (pc + 3) L rest h2) : G X own b mx rt nm R Qf c n pc L (v3 :: v2 :: v1 :: rest) h :=
  g_callN hd hl1 hm hct rfl rfl hf hcat hmc (fun v h1 q => by obtain ⟨rfl, rfl⟩ := q; exact k)
theorem g_cI3 {mc ms : Nat} {P1 : Option Value → Hp → Prop} {Y : Mt} {idx k1 r : Nat} {v1 v2 v3 : Value} {rest : List Value} (hd : decode b pc = .ok (.invokespecial idx, 3)) (hl1 : Cond.methodLink own idx Y.1 ∈ lw_tbl) (hm : Mi Y 3) (hct : Ct X Y k1 mc ms [.ref r, v1, v2, v3] h P1) (hf : k1 + 1 ≤ R.frames ∧ 40 * k1 + 40 ≤ R.locals) (hcat : (rest.map fun v => v.category).sum ≤ 8) (hmc : c + mc ≤ R.cells ∧ n + ms ≤ R.slots) (kk : ∀ v h1, P1 v h1 → G X own b mx rt nm R Qf (c + mc) (n + ms) (pc + 3) L (v.toList ++ rest) h1) : G X own b mx rt nm R Qf c n pc L (v3 :: v2 :: v1 :: .ref r :: rest) h :=
  g_callI hd hl1 hm hct rfl rfl hf hcat hmc kk
theorem g_cIN3 {mc ms : Nat} {P1 : Option Value → Hp → Prop} {Y : Mt} {idx k1 r : Nat} {v1 v2 v3 : Value} {host : String} {rest : List Value} (hd : decode b pc = .ok (.invokespecial idx, 3)) (hl1 : Cond.methodLinkNest own idx Y.1 host ∈ lw_tbl) (hm : Mi Y 3) (hct : Ct X Y k1 mc ms [.ref r, v1, v2, v3] h P1) (hf : k1 + 1 ≤ R.frames ∧ 40 * k1 + 40 ≤ R.locals) (hcat : (rest.map fun v => v.category).sum ≤ 8) (hmc : c + mc ≤ R.cells ∧ n + ms ≤ R.slots) (kk : ∀ v h1, P1 v h1 → G X own b mx rt nm R Qf (c + mc) (n + ms) (pc + 3) L (v.toList ++ rest) h1) : G X own b mx rt nm R Qf c n pc L (v3 :: v2 :: v1 :: .ref r :: rest) h :=
  g_callIN hd hl1 hm hct rfl rfl hf hcat hmc kk
theorem g_cV4 {mc ms : Nat} {P1 : Option Value → Hp → Prop} {Y : Mt} {idx k1 r : Nat} {v1 v2 v3 v4 : Value} {rest : List Value} {ci : Nat} {fs : List Value} (hd : decode b pc = .ok (.invokevirtual idx, 3)) (hl1 : Cond.methodLink own idx Y.1 ∈ lw_tbl) (hm : Mv Y 4) (hct : Ct X Y k1 mc ms [.ref r, v1, v2, v3, v4] h P1) (hr : h r = some (ob ci fs)) (hc : (vwCl[ci]?).map (fun q => q.1) = some Y.1.cls) (hf : k1 + 1 ≤ R.frames ∧ 40 * k1 + 40 ≤ R.locals) (hcat : (rest.map fun v => v.category).sum ≤ 8) (hmc : c + mc ≤ R.cells ∧ n + ms ≤ R.slots) (kk : ∀ v h1, P1 v h1 → G X own b mx rt nm R Qf (c + mc) (n + ms) (pc + 3) L (v.toList ++ rest) h1) : G X own b mx rt nm R Qf c n pc L (v4 :: v3 :: v2 :: v1 :: .ref r :: rest) h :=
  g_callV hd hl1 hm hct hr hc rfl rfl hf hcat hmc kk
theorem g_cV4x {w : Value} {h2 : Hp} {Y : Mt} {idx k1 r : Nat} {v1 v2 v3 v4 : Value} {rest : List Value} {ci : Nat} {fs : List Value} (hd : decode b pc = .ok (.invokevirtual idx, 3)) (hl1 : Cond.methodLink own idx Y.1 ∈ lw_tbl) (hm : Mv Y 4) (hct : Ct X Y k1 0 0 [.ref r, v1, v2, v3, v4] h (Ex w h2)) (hr : h r = some (ob ci fs)) (hc : (vwCl[ci]?).map (fun q => q.1) = some Y.1.cls) (hf : k1 + 1 ≤ R.frames ∧ 40 * k1 + 40 ≤ R.locals) (hcat : (rest.map fun v => v.category).sum ≤ 8) (hmc : c ≤ R.cells ∧ n ≤ R.slots) (k : G X own b mx rt nm R Qf c n (pc + 3) L (w :: rest) h2) : G X own b mx rt nm R Qf c n pc L (v4 :: v3 :: v2 :: v1 :: .ref r :: rest) h :=
  g_callV hd hl1 hm hct hr hc rfl rfl hf hcat hmc (fun v h1 q => by obtain ⟨rfl, rfl⟩ := q; exact k)
theorem g_cV4v {h2 : Hp} {Y : Mt} {idx k1 r : Nat} {v1 v2 v3 v4 : Value} {rest : List Value} {ci : Nat} {fs : List Value} (hd : decode b pc = .ok (.invokevirtual idx, 3)) (hl1 : Cond.methodLink own idx Y.1 ∈ lw_tbl) (hm : Mv Y 4) (hct : Ct X Y k1 0 0 [.ref r, v1, v2, v3, v4] h (Ev h2)) (hr : h r = some (ob ci fs)) (hc : (vwCl[ci]?).map (fun q => q.1) = some Y.1.cls) (hf : k1 + 1 ≤ R.frames ∧ 40 * k1 + 40 ≤ R.locals) (hcat : (rest.map fun v => v.category).sum ≤ 8) (hmc : c ≤ R.cells ∧ n ≤ R.slots) (k : G X own b mx rt nm R Qf c n (pc + 3) L rest h2) : G X own b mx rt nm R Qf c n pc L (v4 :: v3 :: v2 :: v1 :: .ref r :: rest) h :=
  g_callV hd hl1 hm hct hr hc rfl rfl hf hcat hmc (fun v h1 q => by obtain ⟨rfl, rfl⟩ := q; exact k)
theorem g_cS4 {mc ms : Nat} {P1 : Option Value → Hp → Prop} {Y : Mt} {idx k1 : Nat} {v1 v2 v3 v4 : Value} {rest : List Value} (hd : decode b pc = .ok (.invokestatic idx, 3)) (hl1 : Cond.methodLink own idx Y.1 ∈ lw_tbl) (ho : Y.1.cls = own) (hm : Ms Y 4) (hct : Ct X Y k1 mc ms [v1, v2, v3, v4] h P1) (hf : k1 + 1 ≤ R.frames ∧ 40 * k1 + 40 ≤ R.locals) (hcat : (rest.map fun v => v.category).sum ≤ 8) (hmc : c + mc ≤ R.cells ∧ n + ms ≤ R.slots) (kk : ∀ v h1, P1 v h1 → G X own b mx rt nm R Qf (c + mc) (n + ms) (pc + 3) L (v.toList ++ rest) h1) : G X own b mx rt nm R Qf c n pc L (v4 :: v3 :: v2 :: v1 :: rest) h :=
  g_callS hd hl1 ho hm hct rfl rfl hf hcat hmc kk
theorem g_cS4x {w : Value} {h2 : Hp} {Y : Mt} {idx k1 : Nat} {v1 v2 v3 v4 : Value} {rest : List Value} (hd : decode b pc = .ok (.invokestatic idx, 3)) (hl1 : Cond.methodLink own idx Y.1 ∈ lw_tbl) (ho : Y.1.cls = own) (hm : Ms Y 4) (hct : Ct X Y k1 0 0 [v1, v2, v3, v4] h (Ex w h2)) (hf : k1 + 1 ≤ R.frames ∧ 40 * k1 + 40 ≤ R.locals) (hcat : (rest.map fun v => v.category).sum ≤ 8) (hmc : c ≤ R.cells ∧ n ≤ R.slots) (k : G X own b mx rt nm R Qf c n (pc + 3) L (w :: rest) h2) : G X own b mx rt nm R Qf c n pc L (v4 :: v3 :: v2 :: v1 :: rest) h :=
  g_callS hd hl1 ho hm hct rfl rfl hf hcat hmc (fun v h1 q => by obtain ⟨rfl, rfl⟩ := q; exact k)
theorem g_cS4v {h2 : Hp} {Y : Mt} {idx k1 : Nat} {v1 v2 v3 v4 : Value} {rest : List Value} (hd : decode b pc = .ok (.invokestatic idx, 3)) (hl1 : Cond.methodLink own idx Y.1 ∈ lw_tbl) (ho : Y.1.cls = own) (hm : Ms Y 4) (hct : Ct X Y k1 0 0 [v1, v2, v3, v4] h (Ev h2)) (hf : k1 + 1 ≤ R.frames ∧ 40 * k1 + 40 ≤ R.locals) (hcat : (rest.map fun v => v.category).sum ≤ 8) (hmc : c ≤ R.cells ∧ n ≤ R.slots) (k : G X own b mx rt nm R Qf c n (pc + 3) L rest h2) : G X own b mx rt nm R Qf c n pc L (v4 :: v3 :: v2 :: v1 :: rest) h :=
  g_callS hd hl1 ho hm hct rfl rfl hf hcat hmc (fun v h1 q => by obtain ⟨rfl, rfl⟩ := q; exact k)
theorem g_cN4 {mc ms : Nat} {P1 : Option Value → Hp → Prop} {Y : Mt} {idx k1 : Nat} {v1 v2 v3 v4 : Value} {host : String} {rest : List Value} (hd : decode b pc = .ok (.invokestatic idx, 3)) (hl1 : Cond.methodLinkNest own idx Y.1 host ∈ lw_tbl) (hm : Ms Y 4) (hct : Ct X Y k1 mc ms [v1, v2, v3, v4] h P1) (hf : k1 + 1 ≤ R.frames ∧ 40 * k1 + 40 ≤ R.locals) (hcat : (rest.map fun v => v.category).sum ≤ 8) (hmc : c + mc ≤ R.cells ∧ n + ms ≤ R.slots) (kk : ∀ v h1, P1 v h1 → G X own b mx rt nm R Qf (c + mc) (n + ms) (pc + 3) L (v.toList ++ rest) h1) : G X own b mx rt nm R Qf c n pc L (v4 :: v3 :: v2 :: v1 :: rest) h :=
  g_callN hd hl1 hm hct rfl rfl hf hcat hmc kk
theorem g_cN4x {w : Value} {h2 : Hp} {Y : Mt} {idx k1 : Nat} {v1 v2 v3 v4 : Value} {host : String} {rest : List Value} (hd : decode b pc = .ok (.invokestatic idx, 3)) (hl1 : Cond.methodLinkNest own idx Y.1 host ∈ lw_tbl) (hm : Ms Y 4) (hct : Ct X Y k1 0 0 [v1, v2, v3, v4] h (Ex w h2)) (hf : k1 + 1 ≤ R.frames ∧ 40 * k1 + 40 ≤ R.locals) (hcat : (rest.map fun v => v.category).sum ≤ 8) (hmc : c ≤ R.cells ∧ n ≤ R.slots) (k : G X own b mx rt nm R Qf c n (pc + 3) L (w :: rest) h2) : G X own b mx rt nm R Qf c n pc L (v4 :: v3 :: v2 :: v1 :: rest) h :=
  g_callN hd hl1 hm hct rfl rfl hf hcat hmc (fun v h1 q => by obtain ⟨rfl, rfl⟩ := q; exact k)
theorem g_cN4v {h2 : Hp} {Y : Mt} {idx k1 : Nat} {v1 v2 v3 v4 : Value} {host : String} {rest : List Value} (hd : decode b pc = .ok (.invokestatic idx, 3)) (hl1 : Cond.methodLinkNest own idx Y.1 host ∈ lw_tbl) (hm : Ms Y 4) (hct : Ct X Y k1 0 0 [v1, v2, v3, v4] h (Ev h2)) (hf : k1 + 1 ≤ R.frames ∧ 40 * k1 + 40 ≤ R.locals) (hcat : (rest.map fun v => v.category).sum ≤ 8) (hmc : c ≤ R.cells ∧ n ≤ R.slots) (k : G X own b mx rt nm R Qf c n (pc + 3) L rest h2) : G X own b mx rt nm R Qf c n pc L (v4 :: v3 :: v2 :: v1 :: rest) h :=
  g_callN hd hl1 hm hct rfl rfl hf hcat hmc (fun v h1 q => by obtain ⟨rfl, rfl⟩ := q; exact k)
theorem g_cI4 {mc ms : Nat} {P1 : Option Value → Hp → Prop} {Y : Mt} {idx k1 r : Nat} {v1 v2 v3 v4 : Value} {rest : List Value} (hd : decode b pc = .ok (.invokespecial idx, 3)) (hl1 : Cond.methodLink own idx Y.1 ∈ lw_tbl) (hm : Mi Y 4) (hct : Ct X Y k1 mc ms [.ref r, v1, v2, v3, v4] h P1) (hf : k1 + 1 ≤ R.frames ∧ 40 * k1 + 40 ≤ R.locals) (hcat : (rest.map fun v => v.category).sum ≤ 8) (hmc : c + mc ≤ R.cells ∧ n + ms ≤ R.slots) (kk : ∀ v h1, P1 v h1 → G X own b mx rt nm R Qf (c + mc) (n + ms) (pc + 3) L (v.toList ++ rest) h1) : G X own b mx rt nm R Qf c n pc L (v4 :: v3 :: v2 :: v1 :: .ref r :: rest) h :=
  g_callI hd hl1 hm hct rfl rfl hf hcat hmc kk
theorem g_cIN4 {mc ms : Nat} {P1 : Option Value → Hp → Prop} {Y : Mt} {idx k1 r : Nat} {v1 v2 v3 v4 : Value} {host : String} {rest : List Value} (hd : decode b pc = .ok (.invokespecial idx, 3)) (hl1 : Cond.methodLinkNest own idx Y.1 host ∈ lw_tbl) (hm : Mi Y 4) (hct : Ct X Y k1 mc ms [.ref r, v1, v2, v3, v4] h P1) (hf : k1 + 1 ≤ R.frames ∧ 40 * k1 + 40 ≤ R.locals) (hcat : (rest.map fun v => v.category).sum ≤ 8) (hmc : c + mc ≤ R.cells ∧ n + ms ≤ R.slots) (kk : ∀ v h1, P1 v h1 → G X own b mx rt nm R Qf (c + mc) (n + ms) (pc + 3) L (v.toList ++ rest) h1) : G X own b mx rt nm R Qf c n pc L (v4 :: v3 :: v2 :: v1 :: .ref r :: rest) h :=
  g_callIN hd hl1 hm hct rfl rfl hf hcat hmc kk
theorem g_cV5 {mc ms : Nat} {P1 : Option Value → Hp → Prop} {Y : Mt} {idx k1 r : Nat} {v1 v2 v3 v4 v5 : Value} {rest : List Value} {ci : Nat} {fs : List Value} (hd : decode b pc = .ok (.invokevirtual idx, 3)) (hl1 : Cond.methodLink own idx Y.1 ∈ lw_tbl) (hm : Mv Y 5) (hct : Ct X Y k1 mc ms [.ref r, v1, v2, v3, v4, v5] h P1) (hr : h r = some (ob ci fs)) (hc : (vwCl[ci]?).map (fun q => q.1) = some Y.1.cls) (hf : k1 + 1 ≤ R.frames ∧ 40 * k1 + 40 ≤ R.locals) (hcat : (rest.map fun v => v.category).sum ≤ 8) (hmc : c + mc ≤ R.cells ∧ n + ms ≤ R.slots) (kk : ∀ v h1, P1 v h1 → G X own b mx rt nm R Qf (c + mc) (n + ms) (pc + 3) L (v.toList ++ rest) h1) : G X own b mx rt nm R Qf c n pc L (v5 :: v4 :: v3 :: v2 :: v1 :: .ref r :: rest) h :=
  g_callV hd hl1 hm hct hr hc rfl rfl hf hcat hmc kk
theorem g_cV5x {w : Value} {h2 : Hp} {Y : Mt} {idx k1 r : Nat} {v1 v2 v3 v4 v5 : Value} {rest : List Value} {ci : Nat} {fs : List Value} (hd : decode b pc = .ok (.invokevirtual idx, 3)) (hl1 : Cond.methodLink own idx Y.1 ∈ lw_tbl) (hm : Mv Y 5) (hct : Ct X Y k1 0 0 [.ref r, v1, v2, v3, v4, v5] h (Ex w h2)) (hr : h r = some (ob ci fs)) (hc : (vwCl[ci]?).map (fun q => q.1) = some Y.1.cls) (hf : k1 + 1 ≤ R.frames ∧ 40 * k1 + 40 ≤ R.locals) (hcat : (rest.map fun v => v.category).sum ≤ 8) (hmc : c ≤ R.cells ∧ n ≤ R.slots) (k : G X own b mx rt nm R Qf c n (pc + 3) L (w :: rest) h2) : G X own b mx rt nm R Qf c n pc L (v5 :: v4 :: v3 :: v2 :: v1 :: .ref r :: rest) h :=
  g_callV hd hl1 hm hct hr hc rfl rfl hf hcat hmc (fun v h1 q => by obtain ⟨rfl, rfl⟩ := q; exact k)
theorem g_cV5v {h2 : Hp} {Y : Mt} {idx k1 r : Nat} {v1 v2 v3 v4 v5 : Value} {rest : List Value} {ci : Nat} {fs : List Value} (hd : decode b pc = .ok (.invokevirtual idx, 3)) (hl1 : Cond.methodLink own idx Y.1 ∈ lw_tbl) (hm : Mv Y 5) (hct : Ct X Y k1 0 0 [.ref r, v1, v2, v3, v4, v5] h (Ev h2)) (hr : h r = some (ob ci fs)) (hc : (vwCl[ci]?).map (fun q => q.1) = some Y.1.cls) (hf : k1 + 1 ≤ R.frames ∧ 40 * k1 + 40 ≤ R.locals) (hcat : (rest.map fun v => v.category).sum ≤ 8) (hmc : c ≤ R.cells ∧ n ≤ R.slots) (k : G X own b mx rt nm R Qf c n (pc + 3) L rest h2) : G X own b mx rt nm R Qf c n pc L (v5 :: v4 :: v3 :: v2 :: v1 :: .ref r :: rest) h :=
  g_callV hd hl1 hm hct hr hc rfl rfl hf hcat hmc (fun v h1 q => by obtain ⟨rfl, rfl⟩ := q; exact k)
theorem g_cS5 {mc ms : Nat} {P1 : Option Value → Hp → Prop} {Y : Mt} {idx k1 : Nat} {v1 v2 v3 v4 v5 : Value} {rest : List Value} (hd : decode b pc = .ok (.invokestatic idx, 3)) (hl1 : Cond.methodLink own idx Y.1 ∈ lw_tbl) (ho : Y.1.cls = own) (hm : Ms Y 5) (hct : Ct X Y k1 mc ms [v1, v2, v3, v4, v5] h P1) (hf : k1 + 1 ≤ R.frames ∧ 40 * k1 + 40 ≤ R.locals) (hcat : (rest.map fun v => v.category).sum ≤ 8) (hmc : c + mc ≤ R.cells ∧ n + ms ≤ R.slots) (kk : ∀ v h1, P1 v h1 → G X own b mx rt nm R Qf (c + mc) (n + ms) (pc + 3) L (v.toList ++ rest) h1) : G X own b mx rt nm R Qf c n pc L (v5 :: v4 :: v3 :: v2 :: v1 :: rest) h :=
  g_callS hd hl1 ho hm hct rfl rfl hf hcat hmc kk
theorem g_cS5x {w : Value} {h2 : Hp} {Y : Mt} {idx k1 : Nat} {v1 v2 v3 v4 v5 : Value} {rest : List Value} (hd : decode b pc = .ok (.invokestatic idx, 3)) (hl1 : Cond.methodLink own idx Y.1 ∈ lw_tbl) (ho : Y.1.cls = own) (hm : Ms Y 5) (hct : Ct X Y k1 0 0 [v1, v2, v3, v4, v5] h (Ex w h2)) (hf : k1 + 1 ≤ R.frames ∧ 40 * k1 + 40 ≤ R.locals) (hcat : (rest.map fun v => v.category).sum ≤ 8) (hmc : c ≤ R.cells ∧ n ≤ R.slots) (k : G X own b mx rt nm R Qf c n (pc + 3) L (w :: rest) h2) : G X own b mx rt nm R Qf c n pc L (v5 :: v4 :: v3 :: v2 :: v1 :: rest) h :=
  g_callS hd hl1 ho hm hct rfl rfl hf hcat hmc (fun v h1 q => by obtain ⟨rfl, rfl⟩ := q; exact k)
theorem g_cS5v {h2 : Hp} {Y : Mt} {idx k1 : Nat} {v1 v2 v3 v4 v5 : Value} {rest : List Value} (hd : decode b pc = .ok (.invokestatic idx, 3)) (hl1 : Cond.methodLink own idx Y.1 ∈ lw_tbl) (ho : Y.1.cls = own) (hm : Ms Y 5) (hct : Ct X Y k1 0 0 [v1, v2, v3, v4, v5] h (Ev h2)) (hf : k1 + 1 ≤ R.frames ∧ 40 * k1 + 40 ≤ R.locals) (hcat : (rest.map fun v => v.category).sum ≤ 8) (hmc : c ≤ R.cells ∧ n ≤ R.slots) (k : G X own b mx rt nm R Qf c n (pc + 3) L rest h2) : G X own b mx rt nm R Qf c n pc L (v5 :: v4 :: v3 :: v2 :: v1 :: rest) h :=
  g_callS hd hl1 ho hm hct rfl rfl hf hcat hmc (fun v h1 q => by obtain ⟨rfl, rfl⟩ := q; exact k)
theorem g_cN5 {mc ms : Nat} {P1 : Option Value → Hp → Prop} {Y : Mt} {idx k1 : Nat} {v1 v2 v3 v4 v5 : Value} {host : String} {rest : List Value} (hd : decode b pc = .ok (.invokestatic idx, 3)) (hl1 : Cond.methodLinkNest own idx Y.1 host ∈ lw_tbl) (hm : Ms Y 5) (hct : Ct X Y k1 mc ms [v1, v2, v3, v4, v5] h P1) (hf : k1 + 1 ≤ R.frames ∧ 40 * k1 + 40 ≤ R.locals) (hcat : (rest.map fun v => v.category).sum ≤ 8) (hmc : c + mc ≤ R.cells ∧ n + ms ≤ R.slots) (kk : ∀ v h1, P1 v h1 → G X own b mx rt nm R Qf (c + mc) (n + ms) (pc + 3) L (v.toList ++ rest) h1) : G X own b mx rt nm R Qf c n pc L (v5 :: v4 :: v3 :: v2 :: v1 :: rest) h :=
  g_callN hd hl1 hm hct rfl rfl hf hcat hmc kk
theorem g_cN5x {w : Value} {h2 : Hp} {Y : Mt} {idx k1 : Nat} {v1 v2 v3 v4 v5 : Value} {host : String} {rest : List Value} (hd : decode b pc = .ok (.invokestatic idx, 3)) (hl1 : Cond.methodLinkNest own idx Y.1 host ∈ lw_tbl) (hm : Ms Y 5) (hct : Ct X Y k1 0 0 [v1, v2, v3, v4, v5] h (Ex w h2)) (hf : k1 + 1 ≤ R.frames ∧ 40 * k1 + 40 ≤ R.locals) (hcat : (rest.map fun v => v.category).sum ≤ 8) (hmc : c ≤ R.cells ∧ n ≤ R.slots) (k : G X own b mx rt nm R Qf c n (pc + 3) L (w :: rest) h2) : G X own b mx rt nm R Qf c n pc L (v5 :: v4 :: v3 :: v2 :: v1 :: rest) h :=
  g_callN hd hl1 hm hct rfl rfl hf hcat hmc (fun v h1 q => by obtain ⟨rfl, rfl⟩ := q; exact k)
theorem g_cN5v {h2 : Hp} {Y : Mt} {idx k1 : Nat} {v1 v2 v3 v4 v5 : Value} {host : String} {rest : List Value} (hd : decode b pc = .ok (.invokestatic idx, 3)) (hl1 : Cond.methodLinkNest own idx Y.1 host ∈ lw_tbl) (hm : Ms Y 5) (hct : Ct X Y k1 0 0 [v1, v2, v3, v4, v5] h (Ev h2)) (hf : k1 + 1 ≤ R.frames ∧ 40 * k1 + 40 ≤ R.locals) (hcat : (rest.map fun v => v.category).sum ≤ 8) (hmc : c ≤ R.cells ∧ n ≤ R.slots) (k : G X own b mx rt nm R Qf c n (pc + 3) L rest h2) : G X own b mx rt nm R Qf c n pc L (v5 :: v4 :: v3 :: v2 :: v1 :: rest) h :=
  g_callN hd hl1 hm hct rfl rfl hf hcat hmc (fun v h1 q => by obtain ⟨rfl, rfl⟩ := q; exact k)
theorem g_cI5 {mc ms : Nat} {P1 : Option Value → Hp → Prop} {Y : Mt} {idx k1 r : Nat} {v1 v2 v3 v4 v5 : Value} {rest : List Value} (hd : decode b pc = .ok (.invokespecial idx, 3)) (hl1 : Cond.methodLink own idx Y.1 ∈ lw_tbl) (hm : Mi Y 5) (hct : Ct X Y k1 mc ms [.ref r, v1, v2, v3, v4, v5] h P1) (hf : k1 + 1 ≤ R.frames ∧ 40 * k1 + 40 ≤ R.locals) (hcat : (rest.map fun v => v.category).sum ≤ 8) (hmc : c + mc ≤ R.cells ∧ n + ms ≤ R.slots) (kk : ∀ v h1, P1 v h1 → G X own b mx rt nm R Qf (c + mc) (n + ms) (pc + 3) L (v.toList ++ rest) h1) : G X own b mx rt nm R Qf c n pc L (v5 :: v4 :: v3 :: v2 :: v1 :: .ref r :: rest) h :=
  g_callI hd hl1 hm hct rfl rfl hf hcat hmc kk
theorem g_cIN5 {mc ms : Nat} {P1 : Option Value → Hp → Prop} {Y : Mt} {idx k1 r : Nat} {v1 v2 v3 v4 v5 : Value} {host : String} {rest : List Value} (hd : decode b pc = .ok (.invokespecial idx, 3)) (hl1 : Cond.methodLinkNest own idx Y.1 host ∈ lw_tbl) (hm : Mi Y 5) (hct : Ct X Y k1 mc ms [.ref r, v1, v2, v3, v4, v5] h P1) (hf : k1 + 1 ≤ R.frames ∧ 40 * k1 + 40 ≤ R.locals) (hcat : (rest.map fun v => v.category).sum ≤ 8) (hmc : c + mc ≤ R.cells ∧ n + ms ≤ R.slots) (kk : ∀ v h1, P1 v h1 → G X own b mx rt nm R Qf (c + mc) (n + ms) (pc + 3) L (v.toList ++ rest) h1) : G X own b mx rt nm R Qf c n pc L (v5 :: v4 :: v3 :: v2 :: v1 :: .ref r :: rest) h :=
  g_callIN hd hl1 hm hct rfl rfl hf hcat hmc kk
end GC
section GM
theorem vX0_init : Mi mX0_init 0 := ⟨⟨kX0_init_c, kX0_n, by decide +kernel, by decide +kernel, by decide +kernel, by decide +kernel, Nat.le_of_ble_eq_true rfl⟩, kX0_init_i, rfl, rfl⟩
theorem vX0_stateAt : Mv mX0_stateAt 1 := ⟨⟨kX0_stateAt_c, kX0_n, by decide +kernel, by decide +kernel, by decide +kernel, by decide +kernel, Nat.le_of_ble_eq_true rfl⟩, kX0_stateAt_i, kX0_stateAt_s⟩
theorem vX0_noteState : Mv mX0_noteState 1 := ⟨⟨kX0_noteState_c, kX0_n, by decide +kernel, by decide +kernel, by decide +kernel, by decide +kernel, Nat.le_of_ble_eq_true rfl⟩, kX0_noteState_i, kX0_noteState_s⟩
theorem vX0_keepNoted : Mv mX0_keepNoted 1 := ⟨⟨kX0_keepNoted_c, kX0_n, by decide +kernel, by decide +kernel, by decide +kernel, by decide +kernel, Nat.le_of_ble_eq_true rfl⟩, kX0_keepNoted_i, kX0_keepNoted_s⟩
theorem vX0_dropOldest : Mv mX0_dropOldest 0 := ⟨⟨kX0_dropOldest_c, kX0_n, by decide +kernel, by decide +kernel, by decide +kernel, by decide +kernel, Nat.le_of_ble_eq_true rfl⟩, kX0_dropOldest_i, kX0_dropOldest_s⟩
theorem vX0_stepBack : Mv mX0_stepBack 1 := ⟨⟨kX0_stepBack_c, kX0_n, by decide +kernel, by decide +kernel, by decide +kernel, by decide +kernel, Nat.le_of_ble_eq_true rfl⟩, kX0_stepBack_i, kX0_stepBack_s⟩
theorem vX1_init : Mi mX1_init 0 := ⟨⟨kX1_init_c, kX1_n, by decide +kernel, by decide +kernel, by decide +kernel, by decide +kernel, Nat.le_of_ble_eq_true rfl⟩, kX1_init_i, rfl, rfl⟩
theorem vX1_copyFrom : Mv mX1_copyFrom 1 := ⟨⟨kX1_copyFrom_c, kX1_n, by decide +kernel, by decide +kernel, by decide +kernel, by decide +kernel, Nat.le_of_ble_eq_true rfl⟩, kX1_copyFrom_i, kX1_copyFrom_s⟩
theorem vX1_copyVats : Mv mX1_copyVats 1 := ⟨⟨kX1_copyVats_c, kX1_n, by decide +kernel, by decide +kernel, by decide +kernel, by decide +kernel, Nat.le_of_ble_eq_true rfl⟩, kX1_copyVats_i, kX1_copyVats_s⟩
theorem vX1_copyLots : Mv mX1_copyLots 1 := ⟨⟨kX1_copyLots_c, kX1_n, by decide +kernel, by decide +kernel, by decide +kernel, by decide +kernel, Nat.le_of_ble_eq_true rfl⟩, kX1_copyLots_i, kX1_copyLots_s⟩
theorem vX1_copyOrders : Mv mX1_copyOrders 1 := ⟨⟨kX1_copyOrders_c, kX1_n, by decide +kernel, by decide +kernel, by decide +kernel, by decide +kernel, Nat.le_of_ble_eq_true rfl⟩, kX1_copyOrders_i, kX1_copyOrders_s⟩
theorem vX1_findVat : Mv mX1_findVat 1 := ⟨⟨kX1_findVat_c, kX1_n, by decide +kernel, by decide +kernel, by decide +kernel, by decide +kernel, Nat.le_of_ble_eq_true rfl⟩, kX1_findVat_i, kX1_findVat_s⟩
theorem vX1_findLot : Mv mX1_findLot 1 := ⟨⟨kX1_findLot_c, kX1_n, by decide +kernel, by decide +kernel, by decide +kernel, by decide +kernel, Nat.le_of_ble_eq_true rfl⟩, kX1_findLot_i, kX1_findLot_s⟩
theorem vX1_findOrder : Mv mX1_findOrder 1 := ⟨⟨kX1_findOrder_c, kX1_n, by decide +kernel, by decide +kernel, by decide +kernel, by decide +kernel, Nat.le_of_ble_eq_true rfl⟩, kX1_findOrder_i, kX1_findOrder_s⟩
theorem vX1_addVat : Mv mX1_addVat 2 := ⟨⟨kX1_addVat_c, kX1_n, by decide +kernel, by decide +kernel, by decide +kernel, by decide +kernel, Nat.le_of_ble_eq_true rfl⟩, kX1_addVat_i, kX1_addVat_s⟩
theorem vX1_weighInto : Mv mX1_weighInto 2 := ⟨⟨kX1_weighInto_c, kX1_n, by decide +kernel, by decide +kernel, by decide +kernel, by decide +kernel, Nat.le_of_ble_eq_true rfl⟩, kX1_weighInto_i, kX1_weighInto_s⟩
theorem vX1_drainVat : Mv mX1_drainVat 1 := ⟨⟨kX1_drainVat_c, kX1_n, by decide +kernel, by decide +kernel, by decide +kernel, by decide +kernel, Nat.le_of_ble_eq_true rfl⟩, kX1_drainVat_i, kX1_drainVat_s⟩
theorem vX1_addLot : Mv mX1_addLot 2 := ⟨⟨kX1_addLot_c, kX1_n, by decide +kernel, by decide +kernel, by decide +kernel, by decide +kernel, Nat.le_of_ble_eq_true rfl⟩, kX1_addLot_i, kX1_addLot_s⟩
theorem vX1_dipLot : Mv mX1_dipLot 2 := ⟨⟨kX1_dipLot_c, kX1_n, by decide +kernel, by decide +kernel, by decide +kernel, by decide +kernel, Nat.le_of_ble_eq_true rfl⟩, kX1_dipLot_i, kX1_dipLot_s⟩
theorem vX1_rinseLot : Mv mX1_rinseLot 1 := ⟨⟨kX1_rinseLot_c, kX1_n, by decide +kernel, by decide +kernel, by decide +kernel, by decide +kernel, Nat.le_of_ble_eq_true rfl⟩, kX1_rinseLot_i, kX1_rinseLot_s⟩
theorem vX1_hangLot : Mv mX1_hangLot 2 := ⟨⟨kX1_hangLot_c, kX1_n, by decide +kernel, by decide +kernel, by decide +kernel, by decide +kernel, Nat.le_of_ble_eq_true rfl⟩, kX1_hangLot_i, kX1_hangLot_s⟩
theorem vX1_takeDown : Mv mX1_takeDown 1 := ⟨⟨kX1_takeDown_c, kX1_n, by decide +kernel, by decide +kernel, by decide +kernel, by decide +kernel, Nat.le_of_ble_eq_true rfl⟩, kX1_takeDown_i, kX1_takeDown_s⟩
theorem vX1_addOrder : Mv mX1_addOrder 4 := ⟨⟨kX1_addOrder_c, kX1_n, by decide +kernel, by decide +kernel, by decide +kernel, by decide +kernel, Nat.le_of_ble_eq_true rfl⟩, kX1_addOrder_i, kX1_addOrder_s⟩
theorem vX1_isAskable : Ms mX1_isAskable 1 := ⟨⟨kX1_isAskable_c, kX1_n, by decide +kernel, by decide +kernel, by decide +kernel, by decide +kernel, Nat.le_of_ble_eq_true rfl⟩, kX1_isAskable_t⟩
theorem vX1_sellLot : Mv mX1_sellLot 2 := ⟨⟨kX1_sellLot_c, kX1_n, by decide +kernel, by decide +kernel, by decide +kernel, by decide +kernel, Nat.le_of_ble_eq_true rfl⟩, kX1_sellLot_i, kX1_sellLot_s⟩
theorem vX1_doWork : Mv mX1_doWork 3 := ⟨⟨kX1_doWork_c, kX1_n, by decide +kernel, by decide +kernel, by decide +kernel, by decide +kernel, Nat.le_of_ble_eq_true rfl⟩, kX1_doWork_i, kX1_doWork_s⟩
theorem vX1_vatsAheadOf : Mv mX1_vatsAheadOf 1 := ⟨⟨kX1_vatsAheadOf_c, kX1_n, by decide +kernel, by decide +kernel, by decide +kernel, by decide +kernel, Nat.le_of_ble_eq_true rfl⟩, kX1_vatsAheadOf_i, kX1_vatsAheadOf_s⟩
theorem vX1_lotsOnRack : Mv mX1_lotsOnRack 1 := ⟨⟨kX1_lotsOnRack_c, kX1_n, by decide +kernel, by decide +kernel, by decide +kernel, by decide +kernel, Nat.le_of_ble_eq_true rfl⟩, kX1_lotsOnRack_i, kX1_lotsOnRack_s⟩
theorem vX1_openOrders : Mv mX1_openOrders 0 := ⟨⟨kX1_openOrders_c, kX1_n, by decide +kernel, by decide +kernel, by decide +kernel, by decide +kernel, Nat.le_of_ble_eq_true rfl⟩, kX1_openOrders_i, kX1_openOrders_s⟩
theorem vX1_lotsThatFit : Mv mX1_lotsThatFit 1 := ⟨⟨kX1_lotsThatFit_c, kX1_n, by decide +kernel, by decide +kernel, by decide +kernel, by decide +kernel, Nat.le_of_ble_eq_true rfl⟩, kX1_lotsThatFit_i, kX1_lotsThatFit_s⟩
theorem vX1_nearestLot : Mv mX1_nearestLot 1 := ⟨⟨kX1_nearestLot_c, kX1_n, by decide +kernel, by decide +kernel, by decide +kernel, by decide +kernel, Nat.le_of_ble_eq_true rfl⟩, kX1_nearestLot_i, kX1_nearestLot_s⟩
theorem vX1_lotsNotFarAbove : Mv mX1_lotsNotFarAbove 2 := ⟨⟨kX1_lotsNotFarAbove_c, kX1_n, by decide +kernel, by decide +kernel, by decide +kernel, by decide +kernel, Nat.le_of_ble_eq_true rfl⟩, kX1_lotsNotFarAbove_i, kX1_lotsNotFarAbove_s⟩
theorem vX1_lotsCounted : Mv mX1_lotsCounted 1 := ⟨⟨kX1_lotsCounted_c, kX1_n, by decide +kernel, by decide +kernel, by decide +kernel, by decide +kernel, Nat.le_of_ble_eq_true rfl⟩, kX1_lotsCounted_i, kX1_lotsCounted_s⟩
theorem vX1_isCounted : Ms mX1_isCounted 2 := ⟨⟨kX1_isCounted_c, kX1_n, by decide +kernel, by decide +kernel, by decide +kernel, by decide +kernel, Nat.le_of_ble_eq_true rfl⟩, kX1_isCounted_t⟩
theorem vX1_grainsInVats : Mv mX1_grainsInVats 1 := ⟨⟨kX1_grainsInVats_c, kX1_n, by decide +kernel, by decide +kernel, by decide +kernel, by decide +kernel, Nat.le_of_ble_eq_true rfl⟩, kX1_grainsInVats_i, kX1_grainsInVats_s⟩
theorem vX1_fixedInHouse : Mv mX1_fixedInHouse 1 := ⟨⟨kX1_fixedInHouse_c, kX1_n, by decide +kernel, by decide +kernel, by decide +kernel, by decide +kernel, Nat.le_of_ble_eq_true rfl⟩, kX1_fixedInHouse_i, kX1_fixedInHouse_s⟩
theorem vX1_looseInHouse : Mv mX1_looseInHouse 1 := ⟨⟨kX1_looseInHouse_c, kX1_n, by decide +kernel, by decide +kernel, by decide +kernel, by decide +kernel, Nat.le_of_ble_eq_true rfl⟩, kX1_looseInHouse_i, kX1_looseInHouse_s⟩
theorem vX1_grainsSold : Mv mX1_grainsSold 1 := ⟨⟨kX1_grainsSold_c, kX1_n, by decide +kernel, by decide +kernel, by decide +kernel, by decide +kernel, Nat.le_of_ble_eq_true rfl⟩, kX1_grainsSold_i, kX1_grainsSold_s⟩
theorem vX2_init : Mi mX2_init 0 := ⟨⟨kX2_init_c, kX2_n, by decide +kernel, by decide +kernel, by decide +kernel, by decide +kernel, Nat.le_of_ble_eq_true rfl⟩, kX2_init_i, rfl, rfl⟩
theorem vX2_copyFrom : Mv mX2_copyFrom 1 := ⟨⟨kX2_copyFrom_c, kX2_n, by decide +kernel, by decide +kernel, by decide +kernel, by decide +kernel, Nat.le_of_ble_eq_true rfl⟩, kX2_copyFrom_i, kX2_copyFrom_s⟩
theorem vX2_isSold : Mv mX2_isSold 0 := ⟨⟨kX2_isSold_c, kX2_n, by decide +kernel, by decide +kernel, by decide +kernel, by decide +kernel, Nat.le_of_ble_eq_true rfl⟩, kX2_isSold_i, kX2_isSold_s⟩
theorem vX2_grainsOf : Mv mX2_grainsOf 1 := ⟨⟨kX2_grainsOf_c, kX2_n, by decide +kernel, by decide +kernel, by decide +kernel, by decide +kernel, Nat.le_of_ble_eq_true rfl⟩, kX2_grainsOf_i, kX2_grainsOf_s⟩
theorem vX2_shadeOf : Mv mX2_shadeOf 1 := ⟨⟨kX2_shadeOf_c, kX2_n, by decide +kernel, by decide +kernel, by decide +kernel, by decide +kernel, Nat.le_of_ble_eq_true rfl⟩, kX2_shadeOf_i, kX2_shadeOf_s⟩
theorem vX2_depth : Mv mX2_depth 0 := ⟨⟨kX2_depth_c, kX2_n, by decide +kernel, by decide +kernel, by decide +kernel, by decide +kernel, Nat.le_of_ble_eq_true rfl⟩, kX2_depth_i, kX2_depth_s⟩
theorem vX2_floatShade : Mv mX2_floatShade 1 := ⟨⟨kX2_floatShade_c, kX2_n, by decide +kernel, by decide +kernel, by decide +kernel, by decide +kernel, Nat.le_of_ble_eq_true rfl⟩, kX2_floatShade_i, kX2_floatShade_s⟩
theorem vX2_grainsTaken : Mv mX2_grainsTaken 3 := ⟨⟨kX2_grainsTaken_c, kX2_n, by decide +kernel, by decide +kernel, by decide +kernel, by decide +kernel, Nat.le_of_ble_eq_true rfl⟩, kX2_grainsTaken_i, kX2_grainsTaken_s⟩
theorem vX2_soakIn : Mv mX2_soakIn 2 := ⟨⟨kX2_soakIn_c, kX2_n, by decide +kernel, by decide +kernel, by decide +kernel, by decide +kernel, Nat.le_of_ble_eq_true rfl⟩, kX2_soakIn_i, kX2_soakIn_s⟩
theorem vX3_init : Mi mX3_init 0 := ⟨⟨kX3_init_c, kX3_n, by decide +kernel, by decide +kernel, by decide +kernel, by decide +kernel, Nat.le_of_ble_eq_true rfl⟩, kX3_init_i, rfl, rfl⟩
theorem vX3_copyFrom : Mv mX3_copyFrom 1 := ⟨⟨kX3_copyFrom_c, kX3_n, by decide +kernel, by decide +kernel, by decide +kernel, by decide +kernel, Nat.le_of_ble_eq_true rfl⟩, kX3_copyFrom_i, kX3_copyFrom_s⟩
theorem vX3_ask : Mv mX3_ask 4 := ⟨⟨kX3_ask_c, kX3_n, by decide +kernel, by decide +kernel, by decide +kernel, by decide +kernel, Nat.le_of_ble_eq_true rfl⟩, kX3_ask_i, kX3_ask_s⟩
theorem vX3_shadeFor : Mv mX3_shadeFor 1 := ⟨⟨kX3_shadeFor_c, kX3_n, by decide +kernel, by decide +kernel, by decide +kernel, by decide +kernel, Nat.le_of_ble_eq_true rfl⟩, kX3_shadeFor_i, kX3_shadeFor_s⟩
theorem vX3_isFittedBy : Mv mX3_isFittedBy 2 := ⟨⟨kX3_isFittedBy_c, kX3_n, by decide +kernel, by decide +kernel, by decide +kernel, by decide +kernel, Nat.le_of_ble_eq_true rfl⟩, kX3_isFittedBy_i, kX3_isFittedBy_s⟩
theorem vX3_distanceTo : Mv mX3_distanceTo 1 := ⟨⟨kX3_distanceTo_c, kX3_n, by decide +kernel, by decide +kernel, by decide +kernel, by decide +kernel, Nat.le_of_ble_eq_true rfl⟩, kX3_distanceTo_i, kX3_distanceTo_s⟩
theorem vX4_init : Mi mX4_init 0 := ⟨⟨kX4_init_c, kX4_n, by decide +kernel, by decide +kernel, by decide +kernel, by decide +kernel, Nat.le_of_ble_eq_true rfl⟩, kX4_init_i, rfl, rfl⟩
theorem vX4_vatOfDip : Mv mX4_vatOfDip 1 := ⟨⟨kX4_vatOfDip_c, kX4_n, by decide +kernel, by decide +kernel, by decide +kernel, by decide +kernel, Nat.le_of_ble_eq_true rfl⟩, kX4_vatOfDip_i, kX4_vatOfDip_s⟩
theorem vX4_lotBehind : Mv mX4_lotBehind 1 := ⟨⟨kX4_lotBehind_c, kX4_n, by decide +kernel, by decide +kernel, by decide +kernel, by decide +kernel, Nat.le_of_ble_eq_true rfl⟩, kX4_lotBehind_i, kX4_lotBehind_s⟩
theorem vX4_findPlan : Mv mX4_findPlan 3 := ⟨⟨kX4_findPlan_c, kX4_n, by decide +kernel, by decide +kernel, by decide +kernel, by decide +kernel, Nat.le_of_ble_eq_true rfl⟩, kX4_findPlan_i, kX4_findPlan_s⟩
theorem vX4_isReached : Ms mX4_isReached 5 := ⟨⟨kX4_isReached_c, kX4_n, by decide +kernel, by decide +kernel, by decide +kernel, by decide +kernel, Nat.le_of_ble_eq_true rfl⟩, kX4_isReached_t⟩
theorem vX5_init : Mi mX5_init 0 := ⟨⟨kX5_init_c, kX5_n, by decide +kernel, by decide +kernel, by decide +kernel, by decide +kernel, Nat.le_of_ble_eq_true rfl⟩, kX5_init_i, rfl, rfl⟩
theorem vX5_hasFault : Mv mX5_hasFault 0 := ⟨⟨kX5_hasFault_c, kX5_n, by decide +kernel, by decide +kernel, by decide +kernel, by decide +kernel, Nat.le_of_ble_eq_true rfl⟩, kX5_hasFault_i, kX5_hasFault_s⟩
theorem vX5_doAll : Mv mX5_doAll 2 := ⟨⟨kX5_doAll_c, kX5_n, by decide +kernel, by decide +kernel, by decide +kernel, by decide +kernel, Nat.le_of_ble_eq_true rfl⟩, kX5_doAll_i, kX5_doAll_s⟩
theorem vX5_noteFault : Mv mX5_noteFault 3 := ⟨⟨kX5_noteFault_c, kX5_n, by decide +kernel, by decide +kernel, by decide +kernel, by decide +kernel, Nat.le_of_ble_eq_true rfl⟩, kX5_noteFault_i, kX5_noteFault_s⟩
theorem vX5_readWork : Mv mX5_readWork 1 := ⟨⟨kX5_readWork_c, kX5_n, by decide +kernel, by decide +kernel, by decide +kernel, by decide +kernel, Nat.le_of_ble_eq_true rfl⟩, kX5_readWork_i, kX5_readWork_s⟩
theorem vX5_readNumber : Mv mX5_readNumber 1 := ⟨⟨kX5_readNumber_c, kX5_n, by decide +kernel, by decide +kernel, by decide +kernel, by decide +kernel, Nat.le_of_ble_eq_true rfl⟩, kX5_readNumber_i, kX5_readNumber_s⟩
theorem vX5_digitOf : Ms mX5_digitOf 1 := ⟨⟨kX5_digitOf_c, kX5_n, by decide +kernel, by decide +kernel, by decide +kernel, by decide +kernel, Nat.le_of_ble_eq_true rfl⟩, kX5_digitOf_t⟩
theorem vX5_passes : Mv mX5_passes 2 := ⟨⟨kX5_passes_c, kX5_n, by decide +kernel, by decide +kernel, by decide +kernel, by decide +kernel, Nat.le_of_ble_eq_true rfl⟩, kX5_passes_i, kX5_passes_s⟩
theorem vX6_init : Mi mX6_init 0 := ⟨⟨kX6_init_c, kX6_n, by decide +kernel, by decide +kernel, by decide +kernel, by decide +kernel, Nat.le_of_ble_eq_true rfl⟩, kX6_init_i, rfl, rfl⟩
theorem vX6_exists : Ms mX6_exists 1 := ⟨⟨kX6_exists_c, kX6_n, by decide +kernel, by decide +kernel, by decide +kernel, by decide +kernel, Nat.le_of_ble_eq_true rfl⟩, kX6_exists_t⟩
theorem vX6_valueOf : Mv mX6_valueOf 1 := ⟨⟨kX6_valueOf_c, kX6_n, by decide +kernel, by decide +kernel, by decide +kernel, by decide +kernel, Nat.le_of_ble_eq_true rfl⟩, kX6_valueOf_i, kX6_valueOf_s⟩
theorem vX6_copyFrom : Mv mX6_copyFrom 1 := ⟨⟨kX6_copyFrom_c, kX6_n, by decide +kernel, by decide +kernel, by decide +kernel, by decide +kernel, Nat.le_of_ble_eq_true rfl⟩, kX6_copyFrom_i, kX6_copyFrom_s⟩
theorem vX6_change : Mv mX6_change 2 := ⟨⟨kX6_change_c, kX6_n, by decide +kernel, by decide +kernel, by decide +kernel, by decide +kernel, Nat.le_of_ble_eq_true rfl⟩, kX6_change_i, kX6_change_s⟩
theorem vX7_init : Mi mX7_init 0 := ⟨⟨kX7_init_c, kX7_n, by decide +kernel, by decide +kernel, by decide +kernel, by decide +kernel, Nat.le_of_ble_eq_true rfl⟩, kX7_init_i, rfl, rfl⟩
theorem vX7_append : Mv mX7_append 1 := ⟨⟨kX7_append_c, kX7_n, by decide +kernel, by decide +kernel, by decide +kernel, by decide +kernel, Nat.le_of_ble_eq_true rfl⟩, kX7_append_i, kX7_append_s⟩
theorem vX7_makeEmpty : Mv mX7_makeEmpty 0 := ⟨⟨kX7_makeEmpty_c, kX7_n, by decide +kernel, by decide +kernel, by decide +kernel, by decide +kernel, Nat.le_of_ble_eq_true rfl⟩, kX7_makeEmpty_i, kX7_makeEmpty_s⟩
theorem vX7_signAt : Mv mX7_signAt 1 := ⟨⟨kX7_signAt_c, kX7_n, by decide +kernel, by decide +kernel, by decide +kernel, by decide +kernel, Nat.le_of_ble_eq_true rfl⟩, kX7_signAt_i, kX7_signAt_s⟩
theorem vX8_init : Mi mX8_init 0 := ⟨⟨kX8_init_c, kX8_n, by decide +kernel, by decide +kernel, by decide +kernel, by decide +kernel, Nat.le_of_ble_eq_true rfl⟩, kX8_init_i, rfl, rfl⟩
theorem vX8_copyFrom : Mv mX8_copyFrom 1 := ⟨⟨kX8_copyFrom_c, kX8_n, by decide +kernel, by decide +kernel, by decide +kernel, by decide +kernel, Nat.le_of_ble_eq_true rfl⟩, kX8_copyFrom_i, kX8_copyFrom_s⟩
theorem vX8_strength : Mv mX8_strength 0 := ⟨⟨kX8_strength_c, kX8_n, by decide +kernel, by decide +kernel, by decide +kernel, by decide +kernel, Nat.le_of_ble_eq_true rfl⟩, kX8_strength_i, kX8_strength_s⟩
theorem vX8_spoils : Mv mX8_spoils 1 := ⟨⟨kX8_spoils_c, kX8_n, by decide +kernel, by decide +kernel, by decide +kernel, by decide +kernel, Nat.le_of_ble_eq_true rfl⟩, kX8_spoils_i, kX8_spoils_s⟩
theorem vX8_isAheadOfLater : Mv mX8_isAheadOfLater 1 := ⟨⟨kX8_isAheadOfLater_c, kX8_n, by decide +kernel, by decide +kernel, by decide +kernel, by decide +kernel, Nat.le_of_ble_eq_true rfl⟩, kX8_isAheadOfLater_i, kX8_isAheadOfLater_s⟩
theorem vX9_init : Mi mX9_init 0 := ⟨⟨kX9_init_c, kX9_n, by decide +kernel, by decide +kernel, by decide +kernel, by decide +kernel, Nat.le_of_ble_eq_true rfl⟩, kX9_init_i, rfl, rfl⟩
theorem vX9_vat : Mv mX9_vat 2 := ⟨⟨kX9_vat_c, kX9_n, by decide +kernel, by decide +kernel, by decide +kernel, by decide +kernel, Nat.le_of_ble_eq_true rfl⟩, kX9_vat_i, kX9_vat_s⟩
theorem vX9_weigh : Mv mX9_weigh 2 := ⟨⟨kX9_weigh_c, kX9_n, by decide +kernel, by decide +kernel, by decide +kernel, by decide +kernel, Nat.le_of_ble_eq_true rfl⟩, kX9_weigh_i, kX9_weigh_s⟩
theorem vX9_drain : Mv mX9_drain 1 := ⟨⟨kX9_drain_c, kX9_n, by decide +kernel, by decide +kernel, by decide +kernel, by decide +kernel, Nat.le_of_ble_eq_true rfl⟩, kX9_drain_i, kX9_drain_s⟩
theorem vX9_vatOf : Mv mX9_vatOf 2 := ⟨⟨kX9_vatOf_c, kX9_n, by decide +kernel, by decide +kernel, by decide +kernel, by decide +kernel, Nat.le_of_ble_eq_true rfl⟩, kX9_vatOf_i, kX9_vatOf_s⟩
theorem vX9_vatAt : Mv mX9_vatAt 1 := ⟨⟨kX9_vatAt_c, kX9_n, by decide +kernel, by decide +kernel, by decide +kernel, by decide +kernel, Nat.le_of_ble_eq_true rfl⟩, kX9_vatAt_i, kX9_vatAt_s⟩
theorem vX9_lot : Mv mX9_lot 2 := ⟨⟨kX9_lot_c, kX9_n, by decide +kernel, by decide +kernel, by decide +kernel, by decide +kernel, Nat.le_of_ble_eq_true rfl⟩, kX9_lot_i, kX9_lot_s⟩
theorem vX9_dip : Mv mX9_dip 2 := ⟨⟨kX9_dip_c, kX9_n, by decide +kernel, by decide +kernel, by decide +kernel, by decide +kernel, Nat.le_of_ble_eq_true rfl⟩, kX9_dip_i, kX9_dip_s⟩
theorem vX9_rinse : Mv mX9_rinse 1 := ⟨⟨kX9_rinse_c, kX9_n, by decide +kernel, by decide +kernel, by decide +kernel, by decide +kernel, Nat.le_of_ble_eq_true rfl⟩, kX9_rinse_i, kX9_rinse_s⟩
theorem vX9_hang : Mv mX9_hang 2 := ⟨⟨kX9_hang_c, kX9_n, by decide +kernel, by decide +kernel, by decide +kernel, by decide +kernel, Nat.le_of_ble_eq_true rfl⟩, kX9_hang_i, kX9_hang_s⟩
theorem vX9_take : Mv mX9_take 1 := ⟨⟨kX9_take_c, kX9_n, by decide +kernel, by decide +kernel, by decide +kernel, by decide +kernel, Nat.le_of_ble_eq_true rfl⟩, kX9_take_i, kX9_take_s⟩
theorem vX9_lotOf : Mv mX9_lotOf 2 := ⟨⟨kX9_lotOf_c, kX9_n, by decide +kernel, by decide +kernel, by decide +kernel, by decide +kernel, Nat.le_of_ble_eq_true rfl⟩, kX9_lotOf_i, kX9_lotOf_s⟩
theorem vX9_shade : Mv mX9_shade 2 := ⟨⟨kX9_shade_c, kX9_n, by decide +kernel, by decide +kernel, by decide +kernel, by decide +kernel, Nat.le_of_ble_eq_true rfl⟩, kX9_shade_i, kX9_shade_s⟩
theorem vX9_shadeBits : Mv mX9_shadeBits 2 := ⟨⟨kX9_shadeBits_c, kX9_n, by decide +kernel, by decide +kernel, by decide +kernel, by decide +kernel, Nat.le_of_ble_eq_true rfl⟩, kX9_shadeBits_i, kX9_shadeBits_s⟩
theorem vX9_meanBits : Mv mX9_meanBits 1 := ⟨⟨kX9_meanBits_c, kX9_n, by decide +kernel, by decide +kernel, by decide +kernel, by decide +kernel, Nat.le_of_ble_eq_true rfl⟩, kX9_meanBits_i, kX9_meanBits_s⟩
theorem vX9_order : Mv mX9_order 4 := ⟨⟨kX9_order_c, kX9_n, by decide +kernel, by decide +kernel, by decide +kernel, by decide +kernel, Nat.le_of_ble_eq_true rfl⟩, kX9_order_i, kX9_order_s⟩
theorem vX9_sell : Mv mX9_sell 2 := ⟨⟨kX9_sell_c, kX9_n, by decide +kernel, by decide +kernel, by decide +kernel, by decide +kernel, Nat.le_of_ble_eq_true rfl⟩, kX9_sell_i, kX9_sell_s⟩
theorem vX9_orderOf : Mv mX9_orderOf 2 := ⟨⟨kX9_orderOf_c, kX9_n, by decide +kernel, by decide +kernel, by decide +kernel, by decide +kernel, Nat.le_of_ble_eq_true rfl⟩, kX9_orderOf_i, kX9_orderOf_s⟩
theorem vX9_match : Mv mX9_match 2 := ⟨⟨kX9_match_c, kX9_n, by decide +kernel, by decide +kernel, by decide +kernel, by decide +kernel, Nat.le_of_ble_eq_true rfl⟩, kX9_match_i, kX9_match_s⟩
theorem vX9_alike : Mv mX9_alike 1 := ⟨⟨kX9_alike_c, kX9_n, by decide +kernel, by decide +kernel, by decide +kernel, by decide +kernel, Nat.le_of_ble_eq_true rfl⟩, kX9_alike_i, kX9_alike_s⟩
theorem vX9_plan : Mv mX9_plan 3 := ⟨⟨kX9_plan_c, kX9_n, by decide +kernel, by decide +kernel, by decide +kernel, by decide +kernel, Nat.le_of_ble_eq_true rfl⟩, kX9_plan_i, kX9_plan_s⟩
theorem vX9_takes : Mv mX9_takes 3 := ⟨⟨kX9_takes_c, kX9_n, by decide +kernel, by decide +kernel, by decide +kernel, by decide +kernel, Nat.le_of_ble_eq_true rfl⟩, kX9_takes_i, kX9_takes_s⟩
theorem vX9_account : Mv mX9_account 2 := ⟨⟨kX9_account_c, kX9_n, by decide +kernel, by decide +kernel, by decide +kernel, by decide +kernel, Nat.le_of_ble_eq_true rfl⟩, kX9_account_i, kX9_account_s⟩
theorem vX9_count : Mv mX9_count 1 := ⟨⟨kX9_count_c, kX9_n, by decide +kernel, by decide +kernel, by decide +kernel, by decide +kernel, Nat.le_of_ble_eq_true rfl⟩, kX9_count_i, kX9_count_s⟩
theorem vX9_set : Mv mX9_set 2 := ⟨⟨kX9_set_c, kX9_n, by decide +kernel, by decide +kernel, by decide +kernel, by decide +kernel, Nat.le_of_ble_eq_true rfl⟩, kX9_set_i, kX9_set_s⟩
theorem vX9_undo : Mv mX9_undo 0 := ⟨⟨kX9_undo_c, kX9_n, by decide +kernel, by decide +kernel, by decide +kernel, by decide +kernel, Nat.le_of_ble_eq_true rfl⟩, kX9_undo_i, kX9_undo_s⟩
theorem vX9_type : Mv mX9_type 1 := ⟨⟨kX9_type_c, kX9_n, by decide +kernel, by decide +kernel, by decide +kernel, by decide +kernel, Nat.le_of_ble_eq_true rfl⟩, kX9_type_i, kX9_type_s⟩
theorem vX9_clearText : Mv mX9_clearText 0 := ⟨⟨kX9_clearText_c, kX9_n, by decide +kernel, by decide +kernel, by decide +kernel, by decide +kernel, Nat.le_of_ble_eq_true rfl⟩, kX9_clearText_i, kX9_clearText_s⟩
theorem vX9_fault : Mv mX9_fault 1 := ⟨⟨kX9_fault_c, kX9_n, by decide +kernel, by decide +kernel, by decide +kernel, by decide +kernel, Nat.le_of_ble_eq_true rfl⟩, kX9_fault_i, kX9_fault_s⟩
theorem vX9_play : Mv mX9_play 0 := ⟨⟨kX9_play_c, kX9_n, by decide +kernel, by decide +kernel, by decide +kernel, by decide +kernel, Nat.le_of_ble_eq_true rfl⟩, kX9_play_i, kX9_play_s⟩
theorem vX9_isDye : Ms mX9_isDye 1 := ⟨⟨kX9_isDye_c, kX9_n, by decide +kernel, by decide +kernel, by decide +kernel, by decide +kernel, Nat.le_of_ble_eq_true rfl⟩, kX9_isDye_t⟩
theorem vX9_oneIf : Ms mX9_oneIf 1 := ⟨⟨kX9_oneIf_c, kX9_n, by decide +kernel, by decide +kernel, by decide +kernel, by decide +kernel, Nat.le_of_ble_eq_true rfl⟩, kX9_oneIf_t⟩
theorem vX9_distance : Ms mX9_distance 2 := ⟨⟨kX9_distance_c, kX9_n, by decide +kernel, by decide +kernel, by decide +kernel, by decide +kernel, Nat.le_of_ble_eq_true rfl⟩, kX9_distance_t⟩
theorem vX9_cellAt : Ms mX9_cellAt 2 := ⟨⟨kX9_cellAt_c, kX9_n, by decide +kernel, by decide +kernel, by decide +kernel, by decide +kernel, Nat.le_of_ble_eq_true rfl⟩, kX9_cellAt_t⟩
theorem vX9_putAt : Ms mX9_putAt 3 := ⟨⟨kX9_putAt_c, kX9_n, by decide +kernel, by decide +kernel, by decide +kernel, by decide +kernel, Nat.le_of_ble_eq_true rfl⟩, kX9_putAt_t⟩
theorem vX9_addTo : Ms mX9_addTo 3 := ⟨⟨kX9_addTo_c, kX9_n, by decide +kernel, by decide +kernel, by decide +kernel, by decide +kernel, Nat.le_of_ble_eq_true rfl⟩, kX9_addTo_t⟩
theorem vX9_sumOf : Ms mX9_sumOf 1 := ⟨⟨kX9_sumOf_c, kX9_n, by decide +kernel, by decide +kernel, by decide +kernel, by decide +kernel, Nat.le_of_ble_eq_true rfl⟩, kX9_sumOf_t⟩
theorem vX9_copyRow : Ms mX9_copyRow 2 := ⟨⟨kX9_copyRow_c, kX9_n, by decide +kernel, by decide +kernel, by decide +kernel, by decide +kernel, Nat.le_of_ble_eq_true rfl⟩, kX9_copyRow_t⟩
theorem vX9_bitsOf : Ms mX9_bitsOf 1 := ⟨⟨kX9_bitsOf_c, kX9_n, by decide +kernel, by decide +kernel, by decide +kernel, by decide +kernel, Nat.le_of_ble_eq_true rfl⟩, kX9_bitsOf_t⟩
theorem vX10_init : Mi mX10_init 0 := ⟨⟨kX10_init_c, kX10_n, by decide +kernel, by decide +kernel, by decide +kernel, by decide +kernel, Nat.le_of_ble_eq_true rfl⟩, kX10_init_i, rfl, rfl⟩
theorem vX10_in : Ms mX10_in 3 := ⟨⟨kX10_in_c, kX10_n, by decide +kernel, by decide +kernel, by decide +kernel, by decide +kernel, Nat.le_of_ble_eq_true rfl⟩, kX10_in_t⟩
theorem vX10_isVat : Mv mX10_isVat 1 := ⟨⟨kX10_isVat_c, kX10_n, by decide +kernel, by decide +kernel, by decide +kernel, by decide +kernel, Nat.le_of_ble_eq_true rfl⟩, kX10_isVat_i, kX10_isVat_s⟩
theorem vX10_isLot : Mv mX10_isLot 1 := ⟨⟨kX10_isLot_c, kX10_n, by decide +kernel, by decide +kernel, by decide +kernel, by decide +kernel, Nat.le_of_ble_eq_true rfl⟩, kX10_isLot_i, kX10_isLot_s⟩
theorem vX10_isOrder : Mv mX10_isOrder 1 := ⟨⟨kX10_isOrder_c, kX10_n, by decide +kernel, by decide +kernel, by decide +kernel, by decide +kernel, Nat.le_of_ble_eq_true rfl⟩, kX10_isOrder_i, kX10_isOrder_s⟩
theorem vX10_isDye : Ms mX10_isDye 1 := ⟨⟨kX10_isDye_c, kX10_n, by decide +kernel, by decide +kernel, by decide +kernel, by decide +kernel, Nat.le_of_ble_eq_true rfl⟩, kX10_isDye_t⟩
theorem vX10_vatNumber : Mv mX10_vatNumber 2 := ⟨⟨kX10_vatNumber_c, kX10_n, by decide +kernel, by decide +kernel, by decide +kernel, by decide +kernel, Nat.le_of_ble_eq_true rfl⟩, kX10_vatNumber_i, kX10_vatNumber_s⟩
theorem vX10_lotNumber : Mv mX10_lotNumber 2 := ⟨⟨kX10_lotNumber_c, kX10_n, by decide +kernel, by decide +kernel, by decide +kernel, by decide +kernel, Nat.le_of_ble_eq_true rfl⟩, kX10_lotNumber_i, kX10_lotNumber_s⟩
theorem vX10_puts : Mv mX10_puts 3 := ⟨⟨kX10_puts_c, kX10_n, by decide +kernel, by decide +kernel, by decide +kernel, by decide +kernel, Nat.le_of_ble_eq_true rfl⟩, kX10_puts_i, kX10_puts_s⟩
theorem vX10_orderNumber : Mv mX10_orderNumber 2 := ⟨⟨kX10_orderNumber_c, kX10_n, by decide +kernel, by decide +kernel, by decide +kernel, by decide +kernel, Nat.le_of_ble_eq_true rfl⟩, kX10_orderNumber_i, kX10_orderNumber_s⟩
theorem vX10_isSold : Mv mX10_isSold 1 := ⟨⟨kX10_isSold_c, kX10_n, by decide +kernel, by decide +kernel, by decide +kernel, by decide +kernel, Nat.le_of_ble_eq_true rfl⟩, kX10_isSold_i, kX10_isSold_s⟩
theorem vX10_hangs : Mv mX10_hangs 1 := ⟨⟨kX10_hangs_c, kX10_n, by decide +kernel, by decide +kernel, by decide +kernel, by decide +kernel, Nat.le_of_ble_eq_true rfl⟩, kX10_hangs_i, kX10_hangs_s⟩
theorem vX10_notes : Mv mX10_notes 0 := ⟨⟨kX10_notes_c, kX10_n, by decide +kernel, by decide +kernel, by decide +kernel, by decide +kernel, Nat.le_of_ble_eq_true rfl⟩, kX10_notes_i, kX10_notes_s⟩
theorem vX10_asides : Mv mX10_asides 0 := ⟨⟨kX10_asides_c, kX10_n, by decide +kernel, by decide +kernel, by decide +kernel, by decide +kernel, Nat.le_of_ble_eq_true rfl⟩, kX10_asides_i, kX10_asides_s⟩
theorem vX10_backs : Mv mX10_backs 0 := ⟨⟨kX10_backs_c, kX10_n, by decide +kernel, by decide +kernel, by decide +kernel, by decide +kernel, Nat.le_of_ble_eq_true rfl⟩, kX10_backs_i, kX10_backs_s⟩
theorem vX10_done : Mv mX10_done 1 := ⟨⟨kX10_done_c, kX10_n, by decide +kernel, by decide +kernel, by decide +kernel, by decide +kernel, Nat.le_of_ble_eq_true rfl⟩, kX10_done_i, kX10_done_s⟩
theorem vX10_undo : Mv mX10_undo 0 := ⟨⟨kX10_undo_c, kX10_n, by decide +kernel, by decide +kernel, by decide +kernel, by decide +kernel, Nat.le_of_ble_eq_true rfl⟩, kX10_undo_i, kX10_undo_s⟩
theorem vX10_vat : Mv mX10_vat 2 := ⟨⟨kX10_vat_c, kX10_n, by decide +kernel, by decide +kernel, by decide +kernel, by decide +kernel, Nat.le_of_ble_eq_true rfl⟩, kX10_vat_i, kX10_vat_s⟩
theorem vX10_weigh : Mv mX10_weigh 2 := ⟨⟨kX10_weigh_c, kX10_n, by decide +kernel, by decide +kernel, by decide +kernel, by decide +kernel, Nat.le_of_ble_eq_true rfl⟩, kX10_weigh_i, kX10_weigh_s⟩
theorem vX10_drains : Mv mX10_drains 1 := ⟨⟨kX10_drains_c, kX10_n, by decide +kernel, by decide +kernel, by decide +kernel, by decide +kernel, Nat.le_of_ble_eq_true rfl⟩, kX10_drains_i, kX10_drains_s⟩
theorem vX10_drain : Mv mX10_drain 1 := ⟨⟨kX10_drain_c, kX10_n, by decide +kernel, by decide +kernel, by decide +kernel, by decide +kernel, Nat.le_of_ble_eq_true rfl⟩, kX10_drain_i, kX10_drain_s⟩
theorem vX10_vatOf : Mv mX10_vatOf 2 := ⟨⟨kX10_vatOf_c, kX10_n, by decide +kernel, by decide +kernel, by decide +kernel, by decide +kernel, Nat.le_of_ble_eq_true rfl⟩, kX10_vatOf_i, kX10_vatOf_s⟩
theorem vX10_isStronger : Mv mX10_isStronger 2 := ⟨⟨kX10_isStronger_c, kX10_n, by decide +kernel, by decide +kernel, by decide +kernel, by decide +kernel, Nat.le_of_ble_eq_true rfl⟩, kX10_isStronger_i, kX10_isStronger_s⟩
theorem vX10_vatAt : Mv mX10_vatAt 1 := ⟨⟨kX10_vatAt_c, kX10_n, by decide +kernel, by decide +kernel, by decide +kernel, by decide +kernel, Nat.le_of_ble_eq_true rfl⟩, kX10_vatAt_i, kX10_vatAt_s⟩
theorem vX10_grains : Mv mX10_grains 2 := ⟨⟨kX10_grains_c, kX10_n, by decide +kernel, by decide +kernel, by decide +kernel, by decide +kernel, Nat.le_of_ble_eq_true rfl⟩, kX10_grains_i, kX10_grains_s⟩
theorem vX10_shadeOf : Mv mX10_shadeOf 2 := ⟨⟨kX10_shadeOf_c, kX10_n, by decide +kernel, by decide +kernel, by decide +kernel, by decide +kernel, Nat.le_of_ble_eq_true rfl⟩, kX10_shadeOf_i, kX10_shadeOf_s⟩
theorem vX10_depth : Mv mX10_depth 1 := ⟨⟨kX10_depth_c, kX10_n, by decide +kernel, by decide +kernel, by decide +kernel, by decide +kernel, Nat.le_of_ble_eq_true rfl⟩, kX10_depth_i, kX10_depth_s⟩
theorem vX10_lot : Mv mX10_lot 2 := ⟨⟨kX10_lot_c, kX10_n, by decide +kernel, by decide +kernel, by decide +kernel, by decide +kernel, Nat.le_of_ble_eq_true rfl⟩, kX10_lot_i, kX10_lot_s⟩
theorem vX10_taken : Mv mX10_taken 3 := ⟨⟨kX10_taken_c, kX10_n, by decide +kernel, by decide +kernel, by decide +kernel, by decide +kernel, Nat.le_of_ble_eq_true rfl⟩, kX10_taken_i, kX10_taken_s⟩
theorem vX10_dyes : Mv mX10_dyes 2 := ⟨⟨kX10_dyes_c, kX10_n, by decide +kernel, by decide +kernel, by decide +kernel, by decide +kernel, Nat.le_of_ble_eq_true rfl⟩, kX10_dyes_i, kX10_dyes_s⟩
theorem vX10_dips : Mv mX10_dips 2 := ⟨⟨kX10_dips_c, kX10_n, by decide +kernel, by decide +kernel, by decide +kernel, by decide +kernel, Nat.le_of_ble_eq_true rfl⟩, kX10_dips_i, kX10_dips_s⟩
theorem vX10_dip : Mv mX10_dip 2 := ⟨⟨kX10_dip_c, kX10_n, by decide +kernel, by decide +kernel, by decide +kernel, by decide +kernel, Nat.le_of_ble_eq_true rfl⟩, kX10_dip_i, kX10_dip_s⟩
theorem vX10_rinses : Mv mX10_rinses 1 := ⟨⟨kX10_rinses_c, kX10_n, by decide +kernel, by decide +kernel, by decide +kernel, by decide +kernel, Nat.le_of_ble_eq_true rfl⟩, kX10_rinses_i, kX10_rinses_s⟩
theorem vX10_rinse : Mv mX10_rinse 1 := ⟨⟨kX10_rinse_c, kX10_n, by decide +kernel, by decide +kernel, by decide +kernel, by decide +kernel, Nat.le_of_ble_eq_true rfl⟩, kX10_rinse_i, kX10_rinse_s⟩
theorem vX10_hanging : Mv mX10_hanging 1 := ⟨⟨kX10_hanging_c, kX10_n, by decide +kernel, by decide +kernel, by decide +kernel, by decide +kernel, Nat.le_of_ble_eq_true rfl⟩, kX10_hanging_i, kX10_hanging_s⟩
theorem vX10_hangsOn : Mv mX10_hangsOn 2 := ⟨⟨kX10_hangsOn_c, kX10_n, by decide +kernel, by decide +kernel, by decide +kernel, by decide +kernel, Nat.le_of_ble_eq_true rfl⟩, kX10_hangsOn_i, kX10_hangsOn_s⟩
theorem vX10_hang : Mv mX10_hang 2 := ⟨⟨kX10_hang_c, kX10_n, by decide +kernel, by decide +kernel, by decide +kernel, by decide +kernel, Nat.le_of_ble_eq_true rfl⟩, kX10_hang_i, kX10_hang_s⟩
theorem vX10_takesDown : Mv mX10_takesDown 1 := ⟨⟨kX10_takesDown_c, kX10_n, by decide +kernel, by decide +kernel, by decide +kernel, by decide +kernel, Nat.le_of_ble_eq_true rfl⟩, kX10_takesDown_i, kX10_takesDown_s⟩
theorem vX10_take : Mv mX10_take 1 := ⟨⟨kX10_take_c, kX10_n, by decide +kernel, by decide +kernel, by decide +kernel, by decide +kernel, Nat.le_of_ble_eq_true rfl⟩, kX10_take_i, kX10_take_s⟩
theorem vX10_sum : Mv mX10_sum 2 := ⟨⟨kX10_sum_c, kX10_n, by decide +kernel, by decide +kernel, by decide +kernel, by decide +kernel, Nat.le_of_ble_eq_true rfl⟩, kX10_sum_i, kX10_sum_s⟩
theorem vX10_lotOf : Mv mX10_lotOf 2 := ⟨⟨kX10_lotOf_c, kX10_n, by decide +kernel, by decide +kernel, by decide +kernel, by decide +kernel, Nat.le_of_ble_eq_true rfl⟩, kX10_lotOf_i, kX10_lotOf_s⟩
theorem vX10_shade : Mv mX10_shade 2 := ⟨⟨kX10_shade_c, kX10_n, by decide +kernel, by decide +kernel, by decide +kernel, by decide +kernel, Nat.le_of_ble_eq_true rfl⟩, kX10_shade_i, kX10_shade_s⟩
theorem vX10_exact : Mv mX10_exact 2 := ⟨⟨kX10_exact_c, kX10_n, by decide +kernel, by decide +kernel, by decide +kernel, by decide +kernel, Nat.le_of_ble_eq_true rfl⟩, kX10_exact_i, kX10_exact_s⟩
theorem vX10_shadeBits : Mv mX10_shadeBits 2 := ⟨⟨kX10_shadeBits_c, kX10_n, by decide +kernel, by decide +kernel, by decide +kernel, by decide +kernel, Nat.le_of_ble_eq_true rfl⟩, kX10_shadeBits_i, kX10_shadeBits_s⟩
theorem vX10_meanBits : Mv mX10_meanBits 1 := ⟨⟨kX10_meanBits_c, kX10_n, by decide +kernel, by decide +kernel, by decide +kernel, by decide +kernel, Nat.le_of_ble_eq_true rfl⟩, kX10_meanBits_i, kX10_meanBits_s⟩
theorem vX10_unserved : Mv mX10_unserved 0 := ⟨⟨kX10_unserved_c, kX10_n, by decide +kernel, by decide +kernel, by decide +kernel, by decide +kernel, Nat.le_of_ble_eq_true rfl⟩, kX10_unserved_i, kX10_unserved_s⟩
theorem vX10_isShade : Ms mX10_isShade 1 := ⟨⟨kX10_isShade_c, kX10_n, by decide +kernel, by decide +kernel, by decide +kernel, by decide +kernel, Nat.le_of_ble_eq_true rfl⟩, kX10_isShade_t⟩
theorem vX10_order : Mv mX10_order 4 := ⟨⟨kX10_order_c, kX10_n, by decide +kernel, by decide +kernel, by decide +kernel, by decide +kernel, Nat.le_of_ble_eq_true rfl⟩, kX10_order_i, kX10_order_s⟩
theorem vX10_apart : Ms mX10_apart 2 := ⟨⟨kX10_apart_c, kX10_n, by decide +kernel, by decide +kernel, by decide +kernel, by decide +kernel, Nat.le_of_ble_eq_true rfl⟩, kX10_apart_t⟩
theorem vX10_fits : Mv mX10_fits 2 := ⟨⟨kX10_fits_c, kX10_n, by decide +kernel, by decide +kernel, by decide +kernel, by decide +kernel, Nat.le_of_ble_eq_true rfl⟩, kX10_fits_i, kX10_fits_s⟩
theorem vX10_sells : Mv mX10_sells 2 := ⟨⟨kX10_sells_c, kX10_n, by decide +kernel, by decide +kernel, by decide +kernel, by decide +kernel, Nat.le_of_ble_eq_true rfl⟩, kX10_sells_i, kX10_sells_s⟩
theorem vX10_sell : Mv mX10_sell 2 := ⟨⟨kX10_sell_c, kX10_n, by decide +kernel, by decide +kernel, by decide +kernel, by decide +kernel, Nat.le_of_ble_eq_true rfl⟩, kX10_sell_i, kX10_sell_s⟩
theorem vX10_fitting : Mv mX10_fitting 1 := ⟨⟨kX10_fitting_c, kX10_n, by decide +kernel, by decide +kernel, by decide +kernel, by decide +kernel, Nat.le_of_ble_eq_true rfl⟩, kX10_fitting_i, kX10_fitting_s⟩
theorem vX10_nearest : Mv mX10_nearest 1 := ⟨⟨kX10_nearest_c, kX10_n, by decide +kernel, by decide +kernel, by decide +kernel, by decide +kernel, Nat.le_of_ble_eq_true rfl⟩, kX10_nearest_i, kX10_nearest_s⟩
theorem vX10_orderOf : Mv mX10_orderOf 2 := ⟨⟨kX10_orderOf_c, kX10_n, by decide +kernel, by decide +kernel, by decide +kernel, by decide +kernel, Nat.le_of_ble_eq_true rfl⟩, kX10_orderOf_i, kX10_orderOf_s⟩
theorem vX10_match : Mv mX10_match 2 := ⟨⟨kX10_match_c, kX10_n, by decide +kernel, by decide +kernel, by decide +kernel, by decide +kernel, Nat.le_of_ble_eq_true rfl⟩, kX10_match_i, kX10_match_s⟩
theorem vX10_alike : Mv mX10_alike 1 := ⟨⟨kX10_alike_c, kX10_n, by decide +kernel, by decide +kernel, by decide +kernel, by decide +kernel, Nat.le_of_ble_eq_true rfl⟩, kX10_alike_i, kX10_alike_s⟩
theorem vX10_makesFit : Mv mX10_makesFit 4 := ⟨⟨kX10_makesFit_c, kX10_n, by decide +kernel, by decide +kernel, by decide +kernel, by decide +kernel, Nat.le_of_ble_eq_true rfl⟩, kX10_makesFit_i, kX10_makesFit_s⟩
theorem vX10_plans : Mv mX10_plans 2 := ⟨⟨kX10_plans_c, kX10_n, by decide +kernel, by decide +kernel, by decide +kernel, by decide +kernel, Nat.le_of_ble_eq_true rfl⟩, kX10_plans_i, kX10_plans_s⟩
theorem vX10_plan : Mv mX10_plan 3 := ⟨⟨kX10_plan_c, kX10_n, by decide +kernel, by decide +kernel, by decide +kernel, by decide +kernel, Nat.le_of_ble_eq_true rfl⟩, kX10_plan_i, kX10_plan_s⟩
theorem vX10_takes : Mv mX10_takes 3 := ⟨⟨kX10_takes_c, kX10_n, by decide +kernel, by decide +kernel, by decide +kernel, by decide +kernel, Nat.le_of_ble_eq_true rfl⟩, kX10_takes_i, kX10_takes_s⟩
theorem vX10_inVats : Mv mX10_inVats 1 := ⟨⟨kX10_inVats_c, kX10_n, by decide +kernel, by decide +kernel, by decide +kernel, by decide +kernel, Nat.le_of_ble_eq_true rfl⟩, kX10_inVats_i, kX10_inVats_s⟩
theorem vX10_inLots : Mv mX10_inLots 2 := ⟨⟨kX10_inLots_c, kX10_n, by decide +kernel, by decide +kernel, by decide +kernel, by decide +kernel, Nat.le_of_ble_eq_true rfl⟩, kX10_inLots_i, kX10_inLots_s⟩
theorem vX10_account : Mv mX10_account 2 := ⟨⟨kX10_account_c, kX10_n, by decide +kernel, by decide +kernel, by decide +kernel, by decide +kernel, Nat.le_of_ble_eq_true rfl⟩, kX10_account_i, kX10_account_s⟩
theorem vX10_inHouse : Mv mX10_inHouse 0 := ⟨⟨kX10_inHouse_c, kX10_n, by decide +kernel, by decide +kernel, by decide +kernel, by decide +kernel, Nat.le_of_ble_eq_true rfl⟩, kX10_inHouse_i, kX10_inHouse_s⟩
theorem vX10_count : Mv mX10_count 1 := ⟨⟨kX10_count_c, kX10_n, by decide +kernel, by decide +kernel, by decide +kernel, by decide +kernel, Nat.le_of_ble_eq_true rfl⟩, kX10_count_i, kX10_count_s⟩
theorem vX10_isSetting : Ms mX10_isSetting 2 := ⟨⟨kX10_isSetting_c, kX10_n, by decide +kernel, by decide +kernel, by decide +kernel, by decide +kernel, Nat.le_of_ble_eq_true rfl⟩, kX10_isSetting_t⟩
theorem vX10_set : Mv mX10_set 2 := ⟨⟨kX10_set_c, kX10_n, by decide +kernel, by decide +kernel, by decide +kernel, by decide +kernel, Nat.le_of_ble_eq_true rfl⟩, kX10_set_i, kX10_set_s⟩
theorem vX10_type : Mv mX10_type 1 := ⟨⟨kX10_type_c, kX10_n, by decide +kernel, by decide +kernel, by decide +kernel, by decide +kernel, Nat.le_of_ble_eq_true rfl⟩, kX10_type_i, kX10_type_s⟩
theorem vX10_clearText : Mv mX10_clearText 0 := ⟨⟨kX10_clearText_c, kX10_n, by decide +kernel, by decide +kernel, by decide +kernel, by decide +kernel, Nat.le_of_ble_eq_true rfl⟩, kX10_clearText_i, kX10_clearText_s⟩
theorem vX10_here : Mv mX10_here 0 := ⟨⟨kX10_here_c, kX10_n, by decide +kernel, by decide +kernel, by decide +kernel, by decide +kernel, Nat.le_of_ble_eq_true rfl⟩, kX10_here_i, kX10_here_s⟩
theorem vX10_sign : Mv mX10_sign 1 := ⟨⟨kX10_sign_c, kX10_n, by decide +kernel, by decide +kernel, by decide +kernel, by decide +kernel, Nat.le_of_ble_eq_true rfl⟩, kX10_sign_i, kX10_sign_s⟩
theorem vX10_number : Mv mX10_number 0 := ⟨⟨kX10_number_c, kX10_n, by decide +kernel, by decide +kernel, by decide +kernel, by decide +kernel, Nat.le_of_ble_eq_true rfl⟩, kX10_number_i, kX10_number_s⟩
theorem vX10_numbers : Ms mX10_numbers 1 := ⟨⟨kX10_numbers_c, kX10_n, by decide +kernel, by decide +kernel, by decide +kernel, by decide +kernel, Nat.le_of_ble_eq_true rfl⟩, kX10_numbers_t⟩
theorem vX10_reads : Mv mX10_reads 0 := ⟨⟨kX10_reads_c, kX10_n, by decide +kernel, by decide +kernel, by decide +kernel, by decide +kernel, Nat.le_of_ble_eq_true rfl⟩, kX10_reads_i, kX10_reads_s⟩
theorem vX10_does : Mv mX10_does 0 := ⟨⟨kX10_does_c, kX10_n, by decide +kernel, by decide +kernel, by decide +kernel, by decide +kernel, Nat.le_of_ble_eq_true rfl⟩, kX10_does_i, kX10_does_s⟩
theorem vX10_plays : Mv mX10_plays 0 := ⟨⟨kX10_plays_c, kX10_n, by decide +kernel, by decide +kernel, by decide +kernel, by decide +kernel, Nat.le_of_ble_eq_true rfl⟩, kX10_plays_i, kX10_plays_s⟩
theorem vX10_fault : Mv mX10_fault 1 := ⟨⟨kX10_fault_c, kX10_n, by decide +kernel, by decide +kernel, by decide +kernel, by decide +kernel, Nat.le_of_ble_eq_true rfl⟩, kX10_fault_i, kX10_fault_s⟩
theorem vX10_play : Mv mX10_play 0 := ⟨⟨kX10_play_c, kX10_n, by decide +kernel, by decide +kernel, by decide +kernel, by decide +kernel, Nat.le_of_ble_eq_true rfl⟩, kX10_play_i, kX10_play_s⟩
end GM
end
section
/-- numbers of an array beyond its length are nothing -/
def nr (n : Nat) (g : Nat → Int32) : Nat → Int32 := fun j => if j < n then g j else 0
theorem nr_lt {n j : Nat} {g : Nat → Int32} (h : j < n) : nr n g j = g j := if_pos h
theorem nr_up {n j : Nat} {g : Nat → Int32} {x : Int32} (h : j < n) : upd (nr n g) j x = nr n (upd g j x) := by
  funext i
  unfold upd nr
  by_cases e : i = j
  · subst e
    simp [h]
  · simp [e]
theorem nr_ext {n : Nat} {f g : Nat → Int32} (h : ∀ j, j < n → f j = g j) : nr n f = nr n g := by
  funext j
  unfold nr
  by_cases e : j < n
  · simp [e, h j e]
  · simp [e]
theorem hu_hu {h : Hp} {a : Nat} {e f : va_E} : hu (hu h a e) a f = hu h a f := by
  funext q
  unfold hu
  by_cases z : q = a <;> simp [z]
theorem hu_id {h : Hp} {a : Nat} {e : va_E} (z : h a = some e) : hu h a e = h := by
  funext q
  unfold hu
  by_cases w : q = a
  · subst w
    simp [z]
  · simp [w]
theorem ne_oo {X : Cx} {h : Hp} {a b ci n : Nat} {fs : List Value} {f : Nat → Int32} (h1 : h a = some (ob ci fs)) (h2 : h b = some (oI X n f)) : a ≠ b := by
  intro e
  subst e
  rw [h1] at h2
  simp [ob, oI] at h2
def sumI (g : Nat → Int32) : Nat → Int32
  | 0 => 0
  | k + 1 => sumI g k + g k
theorem up_ind {P : Nat → Prop} (N : Nat) (h : ∀ j, j ≤ N → (j < N → P (j + 1)) → P j) : ∀ j, j ≤ N → P j := by
  have k : ∀ d j, j + d = N → P j := by
    intro d
    induction d with
    | zero => exact fun j e => h j (by omega) (fun z => absurd z (by omega))
    | succ d ih => exact fun j e => h j (by omega) (fun _ => ih (j + 1) (by omega))
  exact fun j hj => k (N - j) j (by omega)
theorem c_ge {a b : Nat} (ha : a < 2 ^ 31) (hb : b < 2 ^ 31) (c : nI a ≤ nI b) : a ≤ b := (nI_leI ha hb).mp c
theorem c_nge {a b : Nat} (ha : a < 2 ^ 31) (hb : b < 2 ^ 31) (c : ¬ nI a ≤ nI b) : b < a := Nat.lt_of_not_le (fun z => c ((nI_leI ha hb).mpr z))
theorem c_neg {a : Nat} (ha : a < 2 ^ 31) : ¬ nI a < 0 := nI_pos ha
/-- booleans as ints -/
def bI (b : Bool) : Int32 := match b with
  | true => 1
  | false => 0
theorem bI_0 {b : Bool} (h : bI b = 0) : b = false := by cases b; rfl; exact absurd h (by decide)
theorem bI_1 {b : Bool} (h : ¬ bI b = 0) : b = true := by cases b; exact absurd rfl h; rfl
theorem bI_d0 (p : Prop) {i : Decidable p} (h : bI (decide p) = 0) : ¬ p := of_decide_eq_false (bI_0 h)
theorem bI_d1 (p : Prop) {i : Decidable p} (h : ¬ bI (decide p) = 0) : p := of_decide_eq_true (bI_1 h)
theorem bI_t {p : Prop} {i : Decidable p} (h : p) : (1 : Int32) = bI (decide p) := by rw [decide_eq_true h]; rfl
theorem bI_f {p : Prop} {i : Decidable p} (h : ¬ p) : (0 : Int32) = bI (decide p) := by rw [decide_eq_false h]; rfl
theorem bI_nz (b : Bool) : narrow .boolean (.int (bI b)) = .int (bI b) := by cases b <;> decide
theorem bz_n {x : Int32} (h : x = 0 ∨ x = 1) : narrow .boolean (.int x) = .int x := by rcases h with rfl | rfl <;> decide
theorem bz_f {x : Int32} (h : x = 0 ∨ x = 1) : fits .boolean (.int x) = true := by rcases h with rfl | rfl <;> decide
theorem i_lt {x y : Int32} : x < y ↔ x.toInt < y.toInt := Int32.lt_iff_toInt_lt
theorem i_le {x y : Int32} : x ≤ y ↔ x.toInt ≤ y.toInt := Int32.le_iff_toInt_le
theorem i_nI {n : Nat} (h : n < 1000) : (nI n).toInt = n := nI_toInt (by omega)
theorem i_sm {x : Int32} {n : Nat} (h0 : 0 ≤ x.toInt) (h1 : x.toInt < n) (hn : n < 2 ^ 31) : ∃ j : Nat, j < n ∧ x = nI j := vp_in_of (vp_in_iff.mpr ⟨h0, h1⟩) hn

set_option maxHeartbeats 4000000 in
set_option maxRecDepth 100000 in
theorem ct_X9_isDye (X : Cx) {h : Hp} {d : Int32}  : Ct X mX9_isDye 0 0 0 [.int d] h (Ex (.int (bI (decide (0 ≤ d ∧ d < 4)))) h) := by
  refine Ct.ofG vX9_isDye.1.2.2.1 (Nat.le_of_ble_eq_true rfl) ?_
  show G X RX9 cX9_isDye 1 (some .boolean) "isDye" (Rm 0 0 0) (Fm X (Ex (.int (bI (decide (0 ≤ d ∧ d < 4)))) h) 0 0) 0 0 0 [(0, .int d)] [] h
  refine g_iload_n dX9_isDye_0 (by rfl) ?_
  refine g_if_lt (tgt := 13) dX9_isDye_1 (by decide) (fun c1 => ?_) (fun c1 => ?_)
  · skip
    refine g_iconst (v := 0) dX9_isDye_13 (by decide) ?_
    refine g_zret dX9_isDye_14 rfl (by decide) (Nat.le_refl _) (Nat.le_refl _) ?_
    exact Ex.i (by first | exact bI_t ⟨by simpa using c1, by simpa using c2⟩ | exact bI_f (fun z => by have z1 := z.1; have z2 := z.2; simp only [i_lt, i_le] at *; omega)) rfl
  · skip
    refine g_iload_n dX9_isDye_4 (by rfl) ?_
    refine g_iconst (v := 4) dX9_isDye_5 (by decide) ?_
    refine g_icmp_ge (tgt := 13) dX9_isDye_6 (by decide) (fun c2 => ?_) (fun c2 => ?_)
    · skip
      refine g_iconst (v := 0) dX9_isDye_13 (by decide) ?_
      refine g_zret dX9_isDye_14 rfl (by decide) (Nat.le_refl _) (Nat.le_refl _) ?_
      exact Ex.i (by first | exact bI_t ⟨by simpa using c1, by simpa using c2⟩ | exact bI_f (fun z => by have z1 := z.1; have z2 := z.2; simp only [i_lt, i_le] at *; omega)) rfl
    · skip
      refine g_iconst (v := 1) dX9_isDye_9 (by decide) ?_
      refine g_goto (tgt := 14) dX9_isDye_10 (by decide) ?_
      refine g_zret dX9_isDye_14 rfl (by decide) (Nat.le_refl _) (Nat.le_refl _) ?_
      exact Ex.i (by first | exact bI_t ⟨by simpa using c1, by simpa using c2⟩ | exact bI_f (fun z => by have z1 := z.1; have z2 := z.2; simp only [i_lt, i_le] at *; omega)) rfl

set_option maxHeartbeats 4000000 in
set_option maxRecDepth 100000 in
theorem ct_X9_oneIf (X : Cx) {h : Hp} {x : Bool}  : Ct X mX9_oneIf 0 0 0 [.int (bI x)] h (Ex (.int (bI x)) h) := by
  refine Ct.ofG vX9_oneIf.1.2.2.1 (Nat.le_of_ble_eq_true rfl) ?_
  show G X RX9 cX9_oneIf 1 (some .int) "oneIf" (Rm 0 0 0) (Fm X (Ex (.int (bI x)) h) 0 0) 0 0 0 [(0, .int (bI x))] [] h
  refine g_iload_n dX9_oneIf_0 (by rfl) ?_
  refine g_if_eq (tgt := 8) dX9_oneIf_1 (by decide) (fun c1 => ?_) (fun c1 => ?_)
  · skip
    refine g_iconst (v := 0) dX9_oneIf_8 (by decide) ?_
    refine g_iret dX9_oneIf_9 rfl (Nat.le_refl _) (Nat.le_refl _) ?_
    exact Ex.i (by first | (rw [bI_0 c1]; rfl) | (rw [bI_1 c1]; rfl)) rfl
  · skip
    refine g_iconst (v := 1) dX9_oneIf_4 (by decide) ?_
    refine g_goto (tgt := 9) dX9_oneIf_5 (by decide) ?_
    refine g_iret dX9_oneIf_9 rfl (Nat.le_refl _) (Nat.le_refl _) ?_
    exact Ex.i (by first | (rw [bI_0 c1]; rfl) | (rw [bI_1 c1]; rfl)) rfl

set_option maxHeartbeats 4000000 in
set_option maxRecDepth 100000 in
theorem ct_X9_distance (X : Cx) {h : Hp} {x y : Int32}  : Ct X mX9_distance 0 0 0 [.int x, .int y] h (Ex (.int (if x < y then y - x else x - y)) h) := by
  refine Ct.ofG vX9_distance.1.2.2.1 (Nat.le_of_ble_eq_true rfl) ?_
  show G X RX9 cX9_distance 2 (some .int) "distance" (Rm 0 0 0) (Fm X (Ex (.int (if x < y then y - x else x - y)) h) 0 0) 0 0 0 [(0, .int x), (1, .int y)] [] h
  refine g_iload_n dX9_distance_0 (by rfl) ?_
  refine g_iload_n dX9_distance_1 (by rfl) ?_
  refine g_icmp_lt (tgt := 11) dX9_distance_2 (by decide) (fun c1 => ?_) (fun c1 => ?_)
  · skip
    refine g_iload_n dX9_distance_11 (by rfl) ?_
    refine g_iload_n dX9_distance_12 (by rfl) ?_
    refine g_isub dX9_distance_13 ?_
    refine g_iret dX9_distance_14 rfl (Nat.le_refl _) (Nat.le_refl _) ?_
    exact Ex.i (by simp [c1]) rfl
  · skip
    refine g_iload_n dX9_distance_5 (by rfl) ?_
    refine g_iload_n dX9_distance_6 (by rfl) ?_
    refine g_isub dX9_distance_7 ?_
    refine g_goto (tgt := 14) dX9_distance_8 (by decide) ?_
    refine g_iret dX9_distance_14 rfl (Nat.le_refl _) (Nat.le_refl _) ?_
    exact Ex.i (by simp [c1]) rfl

set_option maxHeartbeats 4000000 in
set_option maxRecDepth 100000 in
theorem ct_X9_cellAtI (X : Cx) {h : Hp} {a N j : Nat} {f : Nat → Int32}  (hj : j < N) (hN : N < 1000) (ha : h a = some (oI X N f)) : Ct X mX9_cellAt 0 0 0 [.ref a, .int (nI j)] h (Ex (.int (f j)) h) := by
  refine Ct.ofG vX9_cellAt.1.2.2.1 (Nat.le_of_ble_eq_true rfl) ?_
  show G X RX9 cX9_cellAt 2 (some .int) "cellAt" (Rm 0 0 0) (Fm X (Ex (.int (f j)) h) 0 0) 0 0 0 [(0, .ref a), (1, .int (nI j))] [] h
  refine g_iload_n dX9_cellAt_0 (by rfl) ?_
  refine g_if_lt (tgt := 16) dX9_cellAt_1 (by decide) (fun c1 => absurd c1 (c_neg (by omega))) (fun c1 => ?_)
  refine g_iload_n dX9_cellAt_4 (by rfl) ?_
  refine g_aload_n dX9_cellAt_5 (by rfl) (by first | exact isRf_r | exact isRf_n | exact isRf_o | assumption) ?_
  refine g_alenI dX9_cellAt_6 (by first | assumption | (repeat' (first | assumption | exact hu_same | exact Ne.symm (by assumption) | apply hu_n1))) ?_
  refine g_icmp_ge (tgt := 16) dX9_cellAt_7 (by decide) (fun c2 => absurd (c_ge (by omega) (by omega) c2) (by omega)) (fun c2 => ?_)
  refine g_aload_n dX9_cellAt_10 (by rfl) (by first | exact isRf_r | exact isRf_n | exact isRf_o | assumption) ?_
  refine g_iload_n dX9_cellAt_11 (by rfl) ?_
  refine g_iaN dX9_cellAt_12 (by first | assumption | (repeat' (first | assumption | exact hu_same | exact Ne.symm (by assumption) | apply hu_n1))) hj (by omega) (by rfl) ?_
  refine g_goto (tgt := 17) dX9_cellAt_13 (by decide) ?_
  refine g_iret dX9_cellAt_17 rfl (Nat.le_refl _) (Nat.le_refl _) ?_
  exact ⟨rfl, rfl⟩

set_option maxHeartbeats 4000000 in
set_option maxRecDepth 100000 in
theorem ct_X9_cellAtS (X : Cx) {h : Hp} {a N j : Nat} {f : Nat → Int32}  (hj : j < N) (hN : N < 1000) (ha : h a = some (sI N f)) : Ct X mX9_cellAt 0 0 0 [.ref a, .int (nI j)] h (Ex (.int (f j)) h) := by
  refine Ct.ofG vX9_cellAt.1.2.2.1 (Nat.le_of_ble_eq_true rfl) ?_
  show G X RX9 cX9_cellAt 2 (some .int) "cellAt" (Rm 0 0 0) (Fm X (Ex (.int (f j)) h) 0 0) 0 0 0 [(0, .ref a), (1, .int (nI j))] [] h
  refine g_iload_n dX9_cellAt_0 (by rfl) ?_
  refine g_if_lt (tgt := 16) dX9_cellAt_1 (by decide) (fun c1 => absurd c1 (c_neg (by omega))) (fun c1 => ?_)
  refine g_iload_n dX9_cellAt_4 (by rfl) ?_
  refine g_aload_n dX9_cellAt_5 (by rfl) (by first | exact isRf_r | exact isRf_n | exact isRf_o | assumption) ?_
  refine g_alenS dX9_cellAt_6 (by first | assumption | (repeat' (first | assumption | exact hu_same | exact Ne.symm (by assumption) | apply hu_n1))) ?_
  refine g_icmp_ge (tgt := 16) dX9_cellAt_7 (by decide) (fun c2 => absurd (c_ge (by omega) (by omega) c2) (by omega)) (fun c2 => ?_)
  refine g_aload_n dX9_cellAt_10 (by rfl) (by first | exact isRf_r | exact isRf_n | exact isRf_o | assumption) ?_
  refine g_iload_n dX9_cellAt_11 (by rfl) ?_
  refine g_iaS dX9_cellAt_12 (by first | assumption | (repeat' (first | assumption | exact hu_same | exact Ne.symm (by assumption) | apply hu_n1))) hj (by omega) (by rfl) ?_
  refine g_goto (tgt := 17) dX9_cellAt_13 (by decide) ?_
  refine g_iret dX9_cellAt_17 rfl (Nat.le_refl _) (Nat.le_refl _) ?_
  exact ⟨rfl, rfl⟩

set_option maxHeartbeats 4000000 in
set_option maxRecDepth 100000 in
theorem ct_X9_putAt (X : Cx) {h : Hp} {a N j : Nat} {x : Int32} {f : Nat → Int32}  (hj : j < N) (hN : N < 1000) (ha : h a = some (oI X N f)) : Ct X mX9_putAt 0 0 0 [.ref a, .int (nI j), .int x] h (Ev (hu h a (oI X N (upd f j x)))) := by
  refine Ct.ofG vX9_putAt.1.2.2.1 (Nat.le_of_ble_eq_true rfl) ?_
  show G X RX9 cX9_putAt 3 none "putAt" (Rm 0 0 0) (Fm X (Ev (hu h a (oI X N (upd f j x)))) 0 0) 0 0 0 [(0, .ref a), (1, .int (nI j)), (2, .int x)] [] h
  refine g_iload_n dX9_putAt_0 (by rfl) ?_
  refine g_if_lt (tgt := 14) dX9_putAt_1 (by decide) (fun c1 => absurd c1 (c_neg (by omega))) (fun c1 => ?_)
  refine g_iload_n dX9_putAt_4 (by rfl) ?_
  refine g_aload_n dX9_putAt_5 (by rfl) (by first | exact isRf_r | exact isRf_n | exact isRf_o | assumption) ?_
  refine g_alenI dX9_putAt_6 (by first | assumption | (repeat' (first | assumption | exact hu_same | exact Ne.symm (by assumption) | apply hu_n1))) ?_
  refine g_icmp_ge (tgt := 14) dX9_putAt_7 (by decide) (fun c2 => absurd (c_ge (by omega) (by omega) c2) (by omega)) (fun c2 => ?_)
  refine g_aload_n dX9_putAt_10 (by rfl) (by first | exact isRf_r | exact isRf_n | exact isRf_o | assumption) ?_
  refine g_iload_n dX9_putAt_11 (by rfl) ?_
  refine g_iload_n dX9_putAt_12 (by rfl) ?_
  refine g_isN dX9_putAt_13 (by first | assumption | (repeat' (first | assumption | exact hu_same | exact Ne.symm (by assumption) | apply hu_n1))) hj (by omega) ?_
  refine g_vret dX9_putAt_14 rfl (Nat.le_refl _) (Nat.le_refl _) ?_
  exact ⟨rfl, rfl⟩

set_option maxHeartbeats 4000000 in
set_option maxRecDepth 100000 in
theorem ct_X9_addTo (X : Cx) {h : Hp} {a N j : Nat} {x : Int32} {f : Nat → Int32}  (hj : j < N) (hN : N < 1000) (ha : h a = some (oI X N f)) : Ct X mX9_addTo 0 0 0 [.ref a, .int (nI j), .int x] h (Ev (hu h a (oI X N (upd f j (f j + x))))) := by
  refine Ct.ofG vX9_addTo.1.2.2.1 (Nat.le_of_ble_eq_true rfl) ?_
  show G X RX9 cX9_addTo 3 none "addTo" (Rm 0 0 0) (Fm X (Ev (hu h a (oI X N (upd f j (f j + x))))) 0 0) 0 0 0 [(0, .ref a), (1, .int (nI j)), (2, .int x)] [] h
  refine g_iload_n dX9_addTo_0 (by rfl) ?_
  refine g_if_lt (tgt := 17) dX9_addTo_1 (by decide) (fun c1 => absurd c1 (c_neg (by omega))) (fun c1 => ?_)
  refine g_iload_n dX9_addTo_4 (by rfl) ?_
  refine g_aload_n dX9_addTo_5 (by rfl) (by first | exact isRf_r | exact isRf_n | exact isRf_o | assumption) ?_
  refine g_alenI dX9_addTo_6 (by first | assumption | (repeat' (first | assumption | exact hu_same | exact Ne.symm (by assumption) | apply hu_n1))) ?_
  refine g_icmp_ge (tgt := 17) dX9_addTo_7 (by decide) (fun c2 => absurd (c_ge (by omega) (by omega) c2) (by omega)) (fun c2 => ?_)
  refine g_aload_n dX9_addTo_10 (by rfl) (by first | exact isRf_r | exact isRf_n | exact isRf_o | assumption) ?_
  refine g_iload_n dX9_addTo_11 (by rfl) ?_
  refine g_dup2 dX9_addTo_12 (by rfl) (by rfl) ?_
  refine g_iaN dX9_addTo_13 (by first | assumption | (repeat' (first | assumption | exact hu_same | exact Ne.symm (by assumption) | apply hu_n1))) hj (by omega) (by rfl) ?_
  refine g_iload_n dX9_addTo_14 (by rfl) ?_
  refine g_iadd dX9_addTo_15 ?_
  refine g_isN dX9_addTo_16 (by first | assumption | (repeat' (first | assumption | exact hu_same | exact Ne.symm (by assumption) | apply hu_n1))) hj (by omega) ?_
  refine g_vret dX9_addTo_17 rfl (Nat.le_refl _) (Nat.le_refl _) ?_
  exact ⟨rfl, rfl⟩

set_option maxHeartbeats 4000000 in
set_option maxRecDepth 100000 in
theorem ct_X9_sumOf (X : Cx) {h : Hp} {a N : Nat} {f : Nat → Int32}  (hN : N < 1000) (ha : h a = some (oI X N f)) : Ct X mX9_sumOf 0 0 0 [.ref a] h (Ex (.int (sumI f N)) h) := by
  refine Ct.ofG vX9_sumOf.1.2.2.1 (Nat.le_of_ble_eq_true rfl) ?_
  show G X RX9 cX9_sumOf 3 (some .int) "sumOf" (Rm 0 0 0) (Fm X (Ex (.int (sumI f N)) h) 0 0) 0 0 0 [(0, .ref a)] [] h
  refine g_iconst (v := 0) dX9_sumOf_0 (by decide) ?_
  refine g_istore_n (L1 := [(0, _), (1, _)]) dX9_sumOf_1 (by decide) (by rfl) ?_
  refine g_iconst (v := 0) dX9_sumOf_2 (by decide) ?_
  refine g_istore_n (L1 := [(0, _), (1, _), (2, _)]) dX9_sumOf_3 (by decide) (by rfl) ?_
  have loop4 : ∀ j, j ≤ N → G X RX9 cX9_sumOf 3 (some .int) "sumOf" (Rm 0 0 0) (Fm X (Ex (.int (sumI f N)) h) 0 0) 0 0 4 [(0, .ref a), (1, .int (sumI f j)), (2, .int (nI j))] [] h := by
    refine up_ind N (fun j hj ih => ?_)
    refine g_iload_n dX9_sumOf_4 (by rfl) ?_
    refine g_aload_n dX9_sumOf_5 (by rfl) (by first | exact isRf_r | exact isRf_n | exact isRf_o | assumption) ?_
    refine g_alenI dX9_sumOf_6 (by first | assumption | (repeat' (first | assumption | exact hu_same | exact Ne.symm (by assumption) | apply hu_n1))) ?_
    refine g_icmp_ge (tgt := 22) dX9_sumOf_7 (by decide) (fun c1 => ?_) (fun c1 => ?_)
    · skip
      have hje : j = N := Nat.le_antisymm hj (c_ge (by omega) (by omega) c1)
      subst hje
      refine g_iload_n dX9_sumOf_22 (by rfl) ?_
      refine g_iret dX9_sumOf_23 rfl (Nat.le_refl _) (Nat.le_refl _) ?_
      exact ⟨rfl, rfl⟩
    · skip
      have hlt : j < N := c_nge (by omega) (by omega) c1
      refine g_iload_n dX9_sumOf_10 (by rfl) ?_
      refine g_aload_n dX9_sumOf_11 (by rfl) (by first | exact isRf_r | exact isRf_n | exact isRf_o | assumption) ?_
      refine g_iload_n dX9_sumOf_12 (by rfl) ?_
      refine g_iaN dX9_sumOf_13 (by first | assumption | (repeat' (first | assumption | exact hu_same | exact Ne.symm (by assumption) | apply hu_n1))) hlt (by omega) (by rfl) ?_
      refine g_iadd dX9_sumOf_14 ?_
      refine g_istore_n (L1 := [(0, _), (1, _), (2, _)]) dX9_sumOf_15 (by decide) (by rfl) ?_
      refine g_iinc (v := nI (j + 1)) (L1 := [(0, _), (1, _), (2, _)]) dX9_sumOf_16 (by rfl) (nI_1 j) (by decide) (by rfl) ?_
      refine g_goto (tgt := 4) dX9_sumOf_19 (by decide) ?_
      exact ih hlt
  exact loop4 0 (Nat.zero_le _)

def mixf (g f : Nat → Int32) (j : Nat) : Nat → Int32 := fun i => if i < j then g i else f i
theorem mixf_0 {g f : Nat → Int32} : mixf g f 0 = f := by funext i; simp [mixf]
theorem mixf_s {g f : Nat → Int32} {j : Nat} : upd (mixf g f j) j (g j) = mixf g f (j + 1) := by
  funext i
  unfold upd mixf
  by_cases e : i = j
  · subst e
    simp
  · by_cases z : i < j
    · simp [z, e, Nat.lt_succ_of_lt z]
    · have : ¬ i < j + 1 := by omega
      simp [z, e, this]
theorem mixf_N {g f : Nat → Int32} {N : Nat} : mixf (nr N g) (nr N f) N = nr N g := by
  funext i
  unfold mixf nr
  by_cases z : i < N <;> simp [z]

set_option maxHeartbeats 4000000 in
set_option maxRecDepth 100000 in
theorem ct_X9_copyRow (X : Cx) {h : Hp} {a b N : Nat} {f g : Nat → Int32}  (hN : N < 1000) (hab : a ≠ b) (ha : h a = some (oI X N (nr N g))) (hb : h b = some (oI X N (nr N f))) : Ct X mX9_copyRow 0 0 0 [.ref a, .ref b] h (Ev (hu h b (oI X N (nr N g)))) := by
  refine Ct.ofG vX9_copyRow.1.2.2.1 (Nat.le_of_ble_eq_true rfl) ?_
  show G X RX9 cX9_copyRow 3 none "copyRow" (Rm 0 0 0) (Fm X (Ev (hu h b (oI X N (nr N g)))) 0 0) 0 0 0 [(0, .ref a), (1, .ref b)] [] h
  refine g_iconst (v := 0) dX9_copyRow_0 (by decide) ?_
  refine g_istore_n (L1 := [(0, _), (1, _), (2, _)]) dX9_copyRow_1 (by decide) (by rfl) ?_
  have loop2 : ∀ j, j ≤ N → ∀ h1, h1 = hu h b (oI X N (mixf (nr N g) (nr N f) j)) → G X RX9 cX9_copyRow 3 none "copyRow" (Rm 0 0 0) (Fm X (Ev (hu h b (oI X N (nr N g)))) 0 0) 0 0 2 [(0, .ref a), (1, .ref b), (2, .int (nI j))] [] h1 := by
    refine up_ind N (fun j hj ih => ?_)
    intro h1 e1
    have ha1 : h1 a = some (oI X N (nr N g)) := by rw [e1, hu_ne hab]; exact ha
    have hb1 : h1 b = some (oI X N (mixf (nr N g) (nr N f) j)) := by rw [e1]; exact hu_same
    refine g_iload_n dX9_copyRow_2 (by rfl) ?_
    refine g_aload_n dX9_copyRow_3 (by rfl) (by first | exact isRf_r | exact isRf_n | exact isRf_o | assumption) ?_
    refine g_alenI dX9_copyRow_4 (by first | assumption | (repeat' (first | assumption | exact hu_same | exact Ne.symm (by assumption) | apply hu_n1))) ?_
    refine g_icmp_ge (tgt := 26) dX9_copyRow_5 (by decide) (fun c1 => ?_) (fun c1 => ?_)
    · skip
      have hje : j = N := Nat.le_antisymm hj (c_ge (by omega) (by omega) c1)
      subst hje
      refine g_vret dX9_copyRow_26 rfl (Nat.le_refl _) (Nat.le_refl _) ?_
      exact ⟨rfl, by rw [e1, mixf_N]⟩
    · skip
      have hlt : j < N := c_nge (by omega) (by omega) c1
      refine g_iload_n dX9_copyRow_8 (by rfl) ?_
      refine g_aload_n dX9_copyRow_9 (by rfl) (by first | exact isRf_r | exact isRf_n | exact isRf_o | assumption) ?_
      refine g_alenI dX9_copyRow_10 (by first | assumption | (repeat' (first | assumption | exact hu_same | exact Ne.symm (by assumption) | apply hu_n1))) ?_
      refine g_icmp_ge (tgt := 26) dX9_copyRow_11 (by decide) (fun c2 => absurd (c_ge (by omega) (by omega) c2) (by omega)) (fun c2 => ?_)
      refine g_aload_n dX9_copyRow_14 (by rfl) (by first | exact isRf_r | exact isRf_n | exact isRf_o | assumption) ?_
      refine g_iload_n dX9_copyRow_15 (by rfl) ?_
      refine g_aload_n dX9_copyRow_16 (by rfl) (by first | exact isRf_r | exact isRf_n | exact isRf_o | assumption) ?_
      refine g_iload_n dX9_copyRow_17 (by rfl) ?_
      refine g_iaN dX9_copyRow_18 (by first | assumption | (repeat' (first | assumption | exact hu_same | exact Ne.symm (by assumption) | apply hu_n1))) hlt (by omega) (by rfl) ?_
      refine g_isN dX9_copyRow_19 (by first | assumption | (repeat' (first | assumption | exact hu_same | exact Ne.symm (by assumption) | apply hu_n1))) hlt (by omega) ?_
      refine g_iinc (v := nI (j + 1)) (L1 := [(0, _), (1, _), (2, _)]) dX9_copyRow_20 (by rfl) (nI_1 j) (by decide) (by rfl) ?_
      refine g_goto (tgt := 2) dX9_copyRow_23 (by decide) ?_
      exact ih hlt _ (by rw [e1, hu_hu, mixf_s])
  exact loop2 0 (Nat.zero_le _) h (by rw [mixf_0, hu_id hb])

def SetAt (X : Cx) (h : Hp) (s v : Nat) (r : Nat → Int32) : Prop := h s = some (ob 6 [.ref v]) ∧ h v = some (oI X 7 (nr 7 r))
def leastF : Nat → Int32 := fun i => [1, 0, 10, 100, 0, 0, 0].getD i 0
def mostF : Nat → Int32 := fun i => [100, 50, 1000, 20000, 2000, 50, 20000].getD i 0
def firstF : Nat → Int32 := fun i => [20, 5, 200, 8000, 150, 10, 2000].getD i 0
def StatAt (X : Cx) (h : Hp) : Prop := h (X.2.2.2.2 0) = some (sI 7 leastF) ∧ h (X.2.2.2.2 1) = some (sI 7 mostF) ∧ h (X.2.2.2.2 2) = some (sI 7 firstF)

set_option maxHeartbeats 4000000 in
set_option maxRecDepth 100000 in
theorem ct_X6_valueOf (X : Cx) {h : Hp} {s v j : Nat} {r : Nat → Int32}  (hj : j < 7) (hs : SetAt X h s v r) : Ct X mX6_valueOf 0 0 0 [.ref s, .int (nI j)] h (Ex (.int (r j)) h) := by
  obtain ⟨hs, hv⟩ := hs
  refine Ct.ofG vX6_valueOf.1.2.2.1 (Nat.le_of_ble_eq_true rfl) ?_
  show G X RX6 cX6_valueOf 2 (some .int) "valueOf" (Rm 0 0 0) (Fm X (Ex (.int (r j)) h) 0 0) 0 0 0 [(0, .ref s), (1, .int (nI j))] [] h
  refine g_iload_n dX6_valueOf_0 (by rfl) ?_
  refine g_if_lt (tgt := 22) dX6_valueOf_1 (by decide) (fun c1 => absurd c1 (c_neg (by omega))) (fun c1 => ?_)
  refine g_iload_n dX6_valueOf_4 (by rfl) ?_
  refine g_aload_n dX6_valueOf_5 (by rfl) (by first | exact isRf_r | exact isRf_n | exact isRf_o | assumption) ?_
  refine g_getf dX6_valueOf_6 fX6_9 (by first | assumption | (repeat' (first | assumption | exact hu_same | exact Ne.symm (by assumption) | apply hu_n1))) (by rfl) ?_
  refine g_alenI dX6_valueOf_9 (by first | assumption | (repeat' (first | assumption | exact hu_same | exact Ne.symm (by assumption) | apply hu_n1))) ?_
  refine g_icmp_ge (tgt := 22) dX6_valueOf_10 (by decide) (fun c2 => absurd (c_ge (by omega) (by omega) c2) (by omega)) (fun c2 => ?_)
  refine g_aload_n dX6_valueOf_13 (by rfl) (by first | exact isRf_r | exact isRf_n | exact isRf_o | assumption) ?_
  refine g_getf dX6_valueOf_14 fX6_9 (by first | assumption | (repeat' (first | assumption | exact hu_same | exact Ne.symm (by assumption) | apply hu_n1))) (by rfl) ?_
  refine g_iload_n dX6_valueOf_17 (by rfl) ?_
  refine g_iaN dX6_valueOf_18 (by first | assumption | (repeat' (first | assumption | exact hu_same | exact Ne.symm (by assumption) | apply hu_n1))) hj (by omega) (by rfl) ?_
  refine g_goto (tgt := 23) dX6_valueOf_19 (by decide) ?_
  refine g_iret dX6_valueOf_23 rfl (Nat.le_refl _) (Nat.le_refl _) ?_
  exact Ex.i (nr_lt hj) rfl

set_option maxHeartbeats 4000000 in
set_option maxRecDepth 100000 in
theorem ct_X6_exists (X : Cx) {h : Hp} {d : Int32}  (hs : StatAt X h) : Ct X mX6_exists 0 0 0 [.int d] h (Ex (.int (bI (decide (0 ≤ d ∧ d < 7)))) h) := by
  obtain ⟨hs0, hs1, hs2⟩ := hs
  refine Ct.ofG vX6_exists.1.2.2.1 (Nat.le_of_ble_eq_true rfl) ?_
  show G X RX6 cX6_exists 1 (some .boolean) "exists" (Rm 0 0 0) (Fm X (Ex (.int (bI (decide (0 ≤ d ∧ d < 7)))) h) 0 0) 0 0 0 [(0, .int d)] [] h
  refine g_iload_n dX6_exists_0 (by rfl) ?_
  refine g_if_lt (tgt := 16) dX6_exists_1 (by decide) (fun c1 => ?_) (fun c1 => ?_)
  · skip
    refine g_iconst (v := 0) dX6_exists_16 (by decide) ?_
    refine g_zret dX6_exists_17 rfl (by decide) (Nat.le_refl _) (Nat.le_refl _) ?_
    exact Ex.i (by first | exact bI_t ⟨by simpa using c1, by simpa using c2⟩ | exact bI_f (fun z => by have z1 := z.1; have z2 := z.2; simp only [i_lt, i_le] at *; omega)) rfl
  · skip
    refine g_iload_n dX6_exists_4 (by rfl) ?_
    refine g_gets (i := 2) dX6_exists_5 fX6_15 (by decide) ?_
    refine g_alenS dX6_exists_8 (by first | assumption | (repeat' (first | assumption | exact hu_same | exact Ne.symm (by assumption) | apply hu_n1))) ?_
    refine g_icmp_ge (tgt := 16) dX6_exists_9 (by decide) (fun c2 => ?_) (fun c2 => ?_)
    · skip
      have c2 : (7 : Int32) ≤ d := c2
      refine g_iconst (v := 0) dX6_exists_16 (by decide) ?_
      refine g_zret dX6_exists_17 rfl (by decide) (Nat.le_refl _) (Nat.le_refl _) ?_
      exact Ex.i (by first | exact bI_t ⟨by simpa using c1, by simpa using c2⟩ | exact bI_f (fun z => by have z1 := z.1; have z2 := z.2; simp only [i_lt, i_le] at *; omega)) rfl
    · skip
      have c2 : ¬ (7 : Int32) ≤ d := c2
      refine g_iconst (v := 1) dX6_exists_12 (by decide) ?_
      refine g_goto (tgt := 17) dX6_exists_13 (by decide) ?_
      refine g_zret dX6_exists_17 rfl (by decide) (Nat.le_refl _) (Nat.le_refl _) ?_
      exact Ex.i (by first | exact bI_t ⟨by simpa using c1, by simpa using c2⟩ | exact bI_f (fun z => by have z1 := z.1; have z2 := z.2; simp only [i_lt, i_le] at *; omega)) rfl
end
