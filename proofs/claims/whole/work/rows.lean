section
-- ===== PART A: goes FIRST, ahead of the names: the tables' words, and 'selects' of the private methods out of them =====
/-- a private method of a class that the tables say can be made, by its rows of tables_1 -/
def lw_okq (q : MethodName × Nat) : Prop := (q.1.cls ≠ "java/lang/invoke/MethodHandle" ∧ q.1.cls ≠ "java/lang/invoke/VarHandle") ∧ Cond.instantiable q.1.cls q.2 ∈ tables_1 ∧ Cond.privateMethod q.1 ∈ tables_1 ∧ Cond.instanceMethod q.1 ∈ tables_1
theorem lw_p0 : lw_okq (⟨"MachineTables", "isFull", "()Z"⟩, 5) := ⟨⟨by decide +kernel, by decide +kernel⟩, List.mem_of_getElem? (i := 24) (by decide +kernel), List.mem_of_getElem? (i := 95) (by decide +kernel), List.mem_of_getElem? (i := 96) (by decide +kernel)⟩
theorem lw_p1 : lw_okq (⟨"MachineTables", "add", "(II)LMachineTables$Machine;"⟩, 5) := ⟨⟨by decide +kernel, by decide +kernel⟩, List.mem_of_getElem? (i := 24) (by decide +kernel), List.mem_of_getElem? (i := 99) (by decide +kernel), List.mem_of_getElem? (i := 100) (by decide +kernel)⟩
theorem lw_p2 : lw_okq (⟨"MachineTables", "find", "(I)LMachineTables$Machine;"⟩, 5) := ⟨⟨by decide +kernel, by decide +kernel⟩, List.mem_of_getElem? (i := 24) (by decide +kernel), List.mem_of_getElem? (i := 145) (by decide +kernel), List.mem_of_getElem? (i := 146) (by decide +kernel)⟩
theorem lw_p3 : lw_okq (⟨"java/lang/Throwable", "fillInStackTrace", "(I)Ljava/lang/Throwable;"⟩, 6) := ⟨⟨by decide +kernel, by decide +kernel⟩, List.mem_of_getElem? (i := 222) (by decide +kernel), List.mem_of_getElem? (i := 220) (by decide +kernel), List.mem_of_getElem? (i := 221) (by decide +kernel)⟩
theorem lw_p4 : lw_okq (⟨"MachineTables$Machine", "splitSets", "()Z"⟩, 7) := ⟨⟨by decide +kernel, by decide +kernel⟩, List.mem_of_getElem? (i := 102) (by decide +kernel), List.mem_of_getElem? (i := 491) (by decide +kernel), List.mem_of_getElem? (i := 492) (by decide +kernel)⟩
theorem lw_p5 : lw_okq (⟨"MachineTables$Machine", "leastThatAgrees", "(I)I"⟩, 7) := ⟨⟨by decide +kernel, by decide +kernel⟩, List.mem_of_getElem? (i := 102) (by decide +kernel), List.mem_of_getElem? (i := 495) (by decide +kernel), List.mem_of_getElem? (i := 496) (by decide +kernel)⟩
theorem lw_p6 : lw_okq (⟨"MachineTables$Machine", "isAgreed", "(II)Z"⟩, 7) := ⟨⟨by decide +kernel, by decide +kernel⟩, List.mem_of_getElem? (i := 102) (by decide +kernel), List.mem_of_getElem? (i := 499) (by decide +kernel), List.mem_of_getElem? (i := 500) (by decide +kernel)⟩
theorem lw_p7 : lw_okq (⟨"MachineTables", "numberSets", "(LMachineTables$Machine;)V"⟩, 5) := ⟨⟨by decide +kernel, by decide +kernel⟩, List.mem_of_getElem? (i := 24) (by decide +kernel), List.mem_of_getElem? (i := 522) (by decide +kernel), List.mem_of_getElem? (i := 523) (by decide +kernel)⟩
theorem lw_p8 : lw_okq (⟨"MachineTables", "findSmall", "(I)LMachineTables$Machine;"⟩, 5) := ⟨⟨by decide +kernel, by decide +kernel⟩, List.mem_of_getElem? (i := 24) (by decide +kernel), List.mem_of_getElem? (i := 555) (by decide +kernel), List.mem_of_getElem? (i := 556) (by decide +kernel)⟩
theorem lw_p9 : lw_okq (⟨"MachineTables", "seekReset", "(LMachineTables$Machine;)I"⟩, 5) := ⟨⟨by decide +kernel, by decide +kernel⟩, List.mem_of_getElem? (i := 24) (by decide +kernel), List.mem_of_getElem? (i := 559) (by decide +kernel), List.mem_of_getElem? (i := 560) (by decide +kernel)⟩
theorem lw_p10 : lw_okq (⟨"MachineTables", "tell", "(I)I"⟩, 5) := ⟨⟨by decide +kernel, by decide +kernel⟩, List.mem_of_getElem? (i := 24) (by decide +kernel), List.mem_of_getElem? (i := 573) (by decide +kernel), List.mem_of_getElem? (i := 574) (by decide +kernel)⟩
theorem lw_p11 : lw_okq (⟨"MachineTables", "seekWitness", "(LMachineTables$Machine;ILMachineTables$Machine;I)I"⟩, 5) := ⟨⟨by decide +kernel, by decide +kernel⟩, List.mem_of_getElem? (i := 24) (by decide +kernel), List.mem_of_getElem? (i := 605) (by decide +kernel), List.mem_of_getElem? (i := 606) (by decide +kernel)⟩
theorem lw_p12 : lw_okq (⟨"MachineTables", "seekHomed", "(LMachineTables$Machine;)I"⟩, 5) := ⟨⟨by decide +kernel, by decide +kernel⟩, List.mem_of_getElem? (i := 24) (by decide +kernel), List.mem_of_getElem? (i := 627) (by decide +kernel), List.mem_of_getElem? (i := 628) (by decide +kernel)⟩
theorem lw_p13 : lw_okq (⟨"MachineTables$Families", "put", "(I)V"⟩, 4) := ⟨⟨by decide +kernel, by decide +kernel⟩, List.mem_of_getElem? (i := 55) (by decide +kernel), List.mem_of_getElem? (i := 636) (by decide +kernel), List.mem_of_getElem? (i := 637) (by decide +kernel)⟩
theorem lw_p14 : lw_okq (⟨"MachineTables$Families", "liesInOne", "(I)Z"⟩, 4) := ⟨⟨by decide +kernel, by decide +kernel⟩, List.mem_of_getElem? (i := 55) (by decide +kernel), List.mem_of_getElem? (i := 640) (by decide +kernel), List.mem_of_getElem? (i := 641) (by decide +kernel)⟩
theorem lw_p15 : lw_okq (⟨"MachineTables$Families", "leaveOutThoseIn", "(I)V"⟩, 4) := ⟨⟨by decide +kernel, by decide +kernel⟩, List.mem_of_getElem? (i := 55) (by decide +kernel), List.mem_of_getElem? (i := 644) (by decide +kernel), List.mem_of_getElem? (i := 645) (by decide +kernel)⟩
def lw_privs_1 : List (MethodName × Nat) := [(⟨"MachineTables", "isFull", "()Z"⟩, 5), (⟨"MachineTables", "add", "(II)LMachineTables$Machine;"⟩, 5), (⟨"MachineTables", "find", "(I)LMachineTables$Machine;"⟩, 5), (⟨"java/lang/Throwable", "fillInStackTrace", "(I)Ljava/lang/Throwable;"⟩, 6), (⟨"MachineTables$Machine", "splitSets", "()Z"⟩, 7), (⟨"MachineTables$Machine", "leastThatAgrees", "(I)I"⟩, 7), (⟨"MachineTables$Machine", "isAgreed", "(II)Z"⟩, 7), (⟨"MachineTables", "numberSets", "(LMachineTables$Machine;)V"⟩, 5), (⟨"MachineTables", "findSmall", "(I)LMachineTables$Machine;"⟩, 5), (⟨"MachineTables", "seekReset", "(LMachineTables$Machine;)I"⟩, 5), (⟨"MachineTables", "tell", "(I)I"⟩, 5), (⟨"MachineTables", "seekWitness", "(LMachineTables$Machine;ILMachineTables$Machine;I)I"⟩, 5), (⟨"MachineTables", "seekHomed", "(LMachineTables$Machine;)I"⟩, 5), (⟨"MachineTables$Families", "put", "(I)V"⟩, 4), (⟨"MachineTables$Families", "liesInOne", "(I)Z"⟩, 4), (⟨"MachineTables$Families", "leaveOutThoseIn", "(I)V"⟩, 4)]
theorem lw_r1 : ∀ q ∈ lw_privs_1, lw_okq q := List.forall_mem_cons.mpr ⟨lw_p0, List.forall_mem_cons.mpr ⟨lw_p1, List.forall_mem_cons.mpr ⟨lw_p2, List.forall_mem_cons.mpr ⟨lw_p3, List.forall_mem_cons.mpr ⟨lw_p4, List.forall_mem_cons.mpr ⟨lw_p5, List.forall_mem_cons.mpr ⟨lw_p6, List.forall_mem_cons.mpr ⟨lw_p7, List.forall_mem_cons.mpr ⟨lw_p8, List.forall_mem_cons.mpr ⟨lw_p9, List.forall_mem_cons.mpr ⟨lw_p10, List.forall_mem_cons.mpr ⟨lw_p11, List.forall_mem_cons.mpr ⟨lw_p12, List.forall_mem_cons.mpr ⟨lw_p13, List.forall_mem_cons.mpr ⟨lw_p14, List.forall_mem_cons.mpr ⟨lw_p15, fun _ h => absurd h List.not_mem_nil⟩⟩⟩⟩⟩⟩⟩⟩⟩⟩⟩⟩⟩⟩⟩⟩
theorem lw_p16 : lw_okq (⟨"MachineTables$Families", "putParted", "(LMachineTables$Machine;II)V"⟩, 4) := ⟨⟨by decide +kernel, by decide +kernel⟩, List.mem_of_getElem? (i := 55) (by decide +kernel), List.mem_of_getElem? (i := 661) (by decide +kernel), List.mem_of_getElem? (i := 662) (by decide +kernel)⟩
theorem lw_p17 : lw_okq (⟨"MachineTables$Families", "openOneIs", "(I)Z"⟩, 4) := ⟨⟨by decide +kernel, by decide +kernel⟩, List.mem_of_getElem? (i := 55) (by decide +kernel), List.mem_of_getElem? (i := 674) (by decide +kernel), List.mem_of_getElem? (i := 675) (by decide +kernel)⟩
theorem lw_p18 : lw_okq (⟨"MachineTables", "numberPairs", "(LMachineTables$Machine;LMachineTables$Machine;)Z"⟩, 5) := ⟨⟨by decide +kernel, by decide +kernel⟩, List.mem_of_getElem? (i := 24) (by decide +kernel), List.mem_of_getElem? (i := 701) (by decide +kernel), List.mem_of_getElem? (i := 702) (by decide +kernel)⟩
theorem lw_p19 : lw_okq (⟨"MachineTablesModel", "newMachine", "(II)I"⟩, 19) := ⟨⟨by decide +kernel, by decide +kernel⟩, List.mem_of_getElem? (i := 733) (by decide +kernel), List.mem_of_getElem? (i := 809) (by decide +kernel), List.mem_of_getElem? (i := 810) (by decide +kernel)⟩
theorem lw_p20 : lw_okq (⟨"MachineTablesModel", "isState", "(II)Z"⟩, 19) := ⟨⟨by decide +kernel, by decide +kernel⟩, List.mem_of_getElem? (i := 733) (by decide +kernel), List.mem_of_getElem? (i := 817) (by decide +kernel), List.mem_of_getElem? (i := 818) (by decide +kernel)⟩
theorem lw_p21 : lw_okq (⟨"MachineTablesModel", "isMachine", "(I)Z"⟩, 19) := ⟨⟨by decide +kernel, by decide +kernel⟩, List.mem_of_getElem? (i := 733) (by decide +kernel), List.mem_of_getElem? (i := 821) (by decide +kernel), List.mem_of_getElem? (i := 822) (by decide +kernel)⟩
theorem lw_p22 : lw_okq (⟨"MachineTablesModel", "mark", "(I)V"⟩, 19) := ⟨⟨by decide +kernel, by decide +kernel⟩, List.mem_of_getElem? (i := 733) (by decide +kernel), List.mem_of_getElem? (i := 833) (by decide +kernel), List.mem_of_getElem? (i := 834) (by decide +kernel)⟩
theorem lw_p23 : lw_okq (⟨"MachineTablesModel", "isApart", "(III)Z"⟩, 19) := ⟨⟨by decide +kernel, by decide +kernel⟩, List.mem_of_getElem? (i := 733) (by decide +kernel), List.mem_of_getElem? (i := 837) (by decide +kernel), List.mem_of_getElem? (i := 838) (by decide +kernel)⟩
theorem lw_p24 : lw_okq (⟨"MachineTablesModel", "firstLike", "(I)I"⟩, 19) := ⟨⟨by decide +kernel, by decide +kernel⟩, List.mem_of_getElem? (i := 733) (by decide +kernel), List.mem_of_getElem? (i := 841) (by decide +kernel), List.mem_of_getElem? (i := 842) (by decide +kernel)⟩
theorem lw_p25 : lw_okq (⟨"MachineTablesModel", "begin", "(I)V"⟩, 19) := ⟨⟨by decide +kernel, by decide +kernel⟩, List.mem_of_getElem? (i := 733) (by decide +kernel), List.mem_of_getElem? (i := 853) (by decide +kernel), List.mem_of_getElem? (i := 854) (by decide +kernel)⟩
theorem lw_p26 : lw_okq (⟨"MachineTablesModel", "come", "(III)V"⟩, 19) := ⟨⟨by decide +kernel, by decide +kernel⟩, List.mem_of_getElem? (i := 733) (by decide +kernel), List.mem_of_getElem? (i := 857) (by decide +kernel), List.mem_of_getElem? (i := 858) (by decide +kernel)⟩
theorem lw_p27 : lw_okq (⟨"MachineTablesModel", "tell", "(II)V"⟩, 19) := ⟨⟨by decide +kernel, by decide +kernel⟩, List.mem_of_getElem? (i := 733) (by decide +kernel), List.mem_of_getElem? (i := 861) (by decide +kernel), List.mem_of_getElem? (i := 862) (by decide +kernel)⟩
theorem lw_p28 : lw_okq (⟨"MachineTablesModel", "findParts", "(I)V"⟩, 19) := ⟨⟨by decide +kernel, by decide +kernel⟩, List.mem_of_getElem? (i := 733) (by decide +kernel), List.mem_of_getElem? (i := 869) (by decide +kernel), List.mem_of_getElem? (i := 870) (by decide +kernel)⟩
theorem lw_p29 : lw_okq (⟨"MachineTablesModel", "partOf", "(I)I"⟩, 19) := ⟨⟨by decide +kernel, by decide +kernel⟩, List.mem_of_getElem? (i := 733) (by decide +kernel), List.mem_of_getElem? (i := 873) (by decide +kernel), List.mem_of_getElem? (i := 874) (by decide +kernel)⟩
theorem lw_p30 : lw_okq (⟨"MachineTablesModel", "moved", "(III)I"⟩, 19) := ⟨⟨by decide +kernel, by decide +kernel⟩, List.mem_of_getElem? (i := 733) (by decide +kernel), List.mem_of_getElem? (i := 888) (by decide +kernel), List.mem_of_getElem? (i := 889) (by decide +kernel)⟩
theorem lw_p31 : lw_okq (⟨"MachineTablesModel", "put", "(II)V"⟩, 19) := ⟨⟨by decide +kernel, by decide +kernel⟩, List.mem_of_getElem? (i := 733) (by decide +kernel), List.mem_of_getElem? (i := 896) (by decide +kernel), List.mem_of_getElem? (i := 897) (by decide +kernel)⟩
def lw_privs_2 : List (MethodName × Nat) := [(⟨"MachineTables$Families", "putParted", "(LMachineTables$Machine;II)V"⟩, 4), (⟨"MachineTables$Families", "openOneIs", "(I)Z"⟩, 4), (⟨"MachineTables", "numberPairs", "(LMachineTables$Machine;LMachineTables$Machine;)Z"⟩, 5), (⟨"MachineTablesModel", "newMachine", "(II)I"⟩, 19), (⟨"MachineTablesModel", "isState", "(II)Z"⟩, 19), (⟨"MachineTablesModel", "isMachine", "(I)Z"⟩, 19), (⟨"MachineTablesModel", "mark", "(I)V"⟩, 19), (⟨"MachineTablesModel", "isApart", "(III)Z"⟩, 19), (⟨"MachineTablesModel", "firstLike", "(I)I"⟩, 19), (⟨"MachineTablesModel", "begin", "(I)V"⟩, 19), (⟨"MachineTablesModel", "come", "(III)V"⟩, 19), (⟨"MachineTablesModel", "tell", "(II)V"⟩, 19), (⟨"MachineTablesModel", "findParts", "(I)V"⟩, 19), (⟨"MachineTablesModel", "partOf", "(I)I"⟩, 19), (⟨"MachineTablesModel", "moved", "(III)I"⟩, 19), (⟨"MachineTablesModel", "put", "(II)V"⟩, 19)]
theorem lw_r2 : ∀ q ∈ lw_privs_2, lw_okq q := List.forall_mem_cons.mpr ⟨lw_p16, List.forall_mem_cons.mpr ⟨lw_p17, List.forall_mem_cons.mpr ⟨lw_p18, List.forall_mem_cons.mpr ⟨lw_p19, List.forall_mem_cons.mpr ⟨lw_p20, List.forall_mem_cons.mpr ⟨lw_p21, List.forall_mem_cons.mpr ⟨lw_p22, List.forall_mem_cons.mpr ⟨lw_p23, List.forall_mem_cons.mpr ⟨lw_p24, List.forall_mem_cons.mpr ⟨lw_p25, List.forall_mem_cons.mpr ⟨lw_p26, List.forall_mem_cons.mpr ⟨lw_p27, List.forall_mem_cons.mpr ⟨lw_p28, List.forall_mem_cons.mpr ⟨lw_p29, List.forall_mem_cons.mpr ⟨lw_p30, List.forall_mem_cons.mpr ⟨lw_p31, fun _ h => absurd h List.not_mem_nil⟩⟩⟩⟩⟩⟩⟩⟩⟩⟩⟩⟩⟩⟩⟩⟩
theorem lw_p32 : lw_okq (⟨"MachineTablesModel", "isHome", "(I)Z"⟩, 19) := ⟨⟨by decide +kernel, by decide +kernel⟩, List.mem_of_getElem? (i := 733) (by decide +kernel), List.mem_of_getElem? (i := 900) (by decide +kernel), List.mem_of_getElem? (i := 901) (by decide +kernel)⟩
theorem lw_p33 : lw_okq (⟨"MachineTablesModel", "told", "(I)I"⟩, 19) := ⟨⟨by decide +kernel, by decide +kernel⟩, List.mem_of_getElem? (i := 733) (by decide +kernel), List.mem_of_getElem? (i := 904) (by decide +kernel), List.mem_of_getElem? (i := 905) (by decide +kernel)⟩
theorem lw_p34 : lw_okq (⟨"MachineTablesModel", "lead", "(IIII)V"⟩, 19) := ⟨⟨by decide +kernel, by decide +kernel⟩, List.mem_of_getElem? (i := 733) (by decide +kernel), List.mem_of_getElem? (i := 908) (by decide +kernel), List.mem_of_getElem? (i := 909) (by decide +kernel)⟩
theorem lw_p35 : lw_okq (⟨"MachineTablesModel", "isTried", "(I)Z"⟩, 19) := ⟨⟨by decide +kernel, by decide +kernel⟩, List.mem_of_getElem? (i := 733) (by decide +kernel), List.mem_of_getElem? (i := 912) (by decide +kernel), List.mem_of_getElem? (i := 913) (by decide +kernel)⟩
theorem lw_p36 : lw_okq (⟨"MachineTablesModel", "raise", "()I"⟩, 19) := ⟨⟨by decide +kernel, by decide +kernel⟩, List.mem_of_getElem? (i := 733) (by decide +kernel), List.mem_of_getElem? (i := 916) (by decide +kernel), List.mem_of_getElem? (i := 917) (by decide +kernel)⟩
theorem lw_p37 : lw_okq (⟨"MachineTablesModel", "chains", "(II)Z"⟩, 19) := ⟨⟨by decide +kernel, by decide +kernel⟩, List.mem_of_getElem? (i := 733) (by decide +kernel), List.mem_of_getElem? (i := 924) (by decide +kernel), List.mem_of_getElem? (i := 925) (by decide +kernel)⟩
theorem lw_p38 : lw_okq (⟨"MachineTablesModel", "placeOf", "(I)I"⟩, 19) := ⟨⟨by decide +kernel, by decide +kernel⟩, List.mem_of_getElem? (i := 733) (by decide +kernel), List.mem_of_getElem? (i := 928) (by decide +kernel), List.mem_of_getElem? (i := 929) (by decide +kernel)⟩
def lw_privs_3 : List (MethodName × Nat) := [(⟨"MachineTablesModel", "isHome", "(I)Z"⟩, 19), (⟨"MachineTablesModel", "told", "(I)I"⟩, 19), (⟨"MachineTablesModel", "lead", "(IIII)V"⟩, 19), (⟨"MachineTablesModel", "isTried", "(I)Z"⟩, 19), (⟨"MachineTablesModel", "raise", "()I"⟩, 19), (⟨"MachineTablesModel", "chains", "(II)Z"⟩, 19), (⟨"MachineTablesModel", "placeOf", "(I)I"⟩, 19)]
theorem lw_r3 : ∀ q ∈ lw_privs_3, lw_okq q := List.forall_mem_cons.mpr ⟨lw_p32, List.forall_mem_cons.mpr ⟨lw_p33, List.forall_mem_cons.mpr ⟨lw_p34, List.forall_mem_cons.mpr ⟨lw_p35, List.forall_mem_cons.mpr ⟨lw_p36, List.forall_mem_cons.mpr ⟨lw_p37, List.forall_mem_cons.mpr ⟨lw_p38, fun _ h => absurd h List.not_mem_nil⟩⟩⟩⟩⟩⟩⟩
def lw_privs : List (MethodName × Nat) := lw_privs_1 ++ (lw_privs_2 ++ (lw_privs_3))
def lw_tbl : List Cond := k2_sels lw_privs ++ tables_1
theorem lw_privs_ok : ∀ q ∈ lw_privs, lw_okq q := by
  show ∀ q ∈ lw_privs_1 ++ (lw_privs_2 ++ (lw_privs_3)), lw_okq q
  exact List.forall_mem_append.mpr ⟨lw_r1, List.forall_mem_append.mpr ⟨lw_r2, lw_r3⟩⟩
end
section
/-! ===== names: classes, fields, methods, codes ===== -/
def R_MT : String := "MachineTables"
def R_Fa : String := "MachineTables$Families"
def R_Ma : String := "MachineTables$Machine"
def R_Se : String := "MachineTables$Search"
def R_Mo : String := "MachineTablesModel"
def R_La : String := "MachineTablesLaw"
def R_Ar : String := "java/util/Arrays"
def R_In : String := "java/lang/Integer"
def R_Sy : String := "java/lang/System"
def R_Ob : String := "java/lang/Object"
def R_XI : String := "java/lang/IllegalArgumentException"
def R_XA : String := "java/lang/ArithmeticException"
def R_XN : String := "java/util/NoSuchElementException"
def R_XR : String := "java/lang/RuntimeException"
def R_XE : String := "java/lang/Exception"
def R_XT : String := "java/lang/Throwable"
def T_Fa : u_T := fun k => match k with
  | 0 => ("MachineTables$Families", "sets", "[I", true)
  | 1 => ("MachineTables$Families", "sizes", "[I", true)
  | 2 => ("MachineTables$Families", "byOutput", "[I", true)
  | _ => ("MachineTables$Families", "count", "I", false)
def t_Fa : Nat → FieldType := fun k => match k with
  | 0 => .array .int
  | 1 => .array .int
  | 2 => .array .int
  | _ => .int
def T_Ma : u_T := fun k => match k with
  | 0 => ("MachineTables$Machine", "next", "[I", true)
  | 1 => ("MachineTables$Machine", "output", "[I", true)
  | 2 => ("MachineTables$Machine", "leastOf", "[I", true)
  | 3 => ("MachineTables$Machine", "finer", "[I", true)
  | 4 => ("MachineTables$Machine", "states", "I", false)
  | 5 => ("MachineTables$Machine", "inputs", "I", false)
  | _ => ("MachineTables$Machine", "isSettled", "Z", false)
def t_Ma : Nat → FieldType := fun k => match k with
  | 0 => .array .int
  | 1 => .array .int
  | 2 => .array .int
  | 3 => .array .int
  | 4 => .int
  | 5 => .int
  | _ => .boolean
def T_Se : u_T := fun k => match k with
  | 0 => ("MachineTables$Search", "numbers", "[I", true)
  | 1 => ("MachineTables$Search", "places", "[I", true)
  | 2 => ("MachineTables$Search", "steps", "[I", true)
  | _ => ("MachineTables$Search", "count", "I", false)
def t_Se : Nat → FieldType := fun k => match k with
  | 0 => .array .int
  | 1 => .array .int
  | 2 => .array .int
  | _ => .int
def T_MT : u_T := fun k => match k with
  | 0 => ("MachineTables", "machines", "[LMachineTables$Machine;", true)
  | 1 => ("MachineTables", "search", "LMachineTables$Search;", true)
  | 2 => ("MachineTables", "families", "LMachineTables$Families;", true)
  | 3 => ("MachineTables", "count", "I", false)
  | _ => ("MachineTables", "word", "[I", false)
def t_MT : Nat → FieldType := fun k => match k with
  | 0 => .array (.object "MachineTables$Machine")
  | 1 => .object "MachineTables$Search"
  | 2 => .object "MachineTables$Families"
  | 3 => .int
  | _ => .array .int
def T_Mo : u_T := fun k => match k with
  | 0 => ("MachineTablesModel", "thrown", "I", false)
  | 1 => ("MachineTablesModel", "machines", "I", false)
  | 2 => ("MachineTablesModel", "states", "[I", true)
  | 3 => ("MachineTablesModel", "inputs", "[I", true)
  | 4 => ("MachineTablesModel", "next", "[I", true)
  | 5 => ("MachineTablesModel", "output", "[I", true)
  | 6 => ("MachineTablesModel", "length", "I", false)
  | 7 => ("MachineTablesModel", "word", "[I", true)
  | 8 => ("MachineTablesModel", "apart", "[Z", true)
  | 9 => ("MachineTablesModel", "found", "I", false)
  | 10 => ("MachineTablesModel", "seen", "[I", true)
  | 11 => ("MachineTablesModel", "from", "[I", true)
  | 12 => ("MachineTablesModel", "by", "[I", true)
  | 13 => ("MachineTablesModel", "isSeen", "[Z", true)
  | 14 => ("MachineTablesModel", "tries", "I", false)
  | 15 => ("MachineTablesModel", "many", "[I", true)
  | 16 => ("MachineTablesModel", "sets", "[I", true)
  | 17 => ("MachineTablesModel", "triedFrom", "[I", true)
  | _ => ("MachineTablesModel", "triedBy", "[I", true)
def t_Mo : Nat → FieldType := fun k => match k with
  | 0 => .int
  | 1 => .int
  | 2 => .array .int
  | 3 => .array .int
  | 4 => .array .int
  | 5 => .array .int
  | 6 => .int
  | 7 => .array .int
  | 8 => .array .boolean
  | 9 => .int
  | 10 => .array .int
  | 11 => .array .int
  | 12 => .array .int
  | 13 => .array .boolean
  | 14 => .int
  | 15 => .array .int
  | 16 => .array .int
  | 17 => .array .int
  | _ => .array .int
def T_XI : u_T := fun k => match k with
  | 0 => ("java/lang/Throwable", "cause", "Ljava/lang/Throwable;", false)
  | 1 => ("java/lang/Throwable", "stackTrace", "[Ljava/lang/StackTraceElement;", false)
  | 2 => ("java/lang/Throwable", "suppressedExceptions", "Ljava/util/List;", false)
  | 3 => ("java/lang/Throwable", "detailMessage", "Ljava/lang/String;", false)
  | 4 => ("java/lang/Throwable", "backtrace", "Ljava/lang/Object;", false)
  | _ => ("java/lang/Throwable", "depth", "I", false)
def t_XI : Nat → FieldType := fun k => match k with
  | 0 => .object "java/lang/Throwable"
  | 1 => .array (.object "java/lang/StackTraceElement")
  | 2 => .object "java/util/List"
  | 3 => .object "java/lang/String"
  | 4 => .object "java/lang/Object"
  | _ => .int
def T_XA : u_T := fun k => match k with
  | 0 => ("java/lang/Throwable", "cause", "Ljava/lang/Throwable;", false)
  | 1 => ("java/lang/Throwable", "stackTrace", "[Ljava/lang/StackTraceElement;", false)
  | 2 => ("java/lang/Throwable", "suppressedExceptions", "Ljava/util/List;", false)
  | 3 => ("java/lang/Throwable", "detailMessage", "Ljava/lang/String;", false)
  | 4 => ("java/lang/Throwable", "backtrace", "Ljava/lang/Object;", false)
  | _ => ("java/lang/Throwable", "depth", "I", false)
def t_XA : Nat → FieldType := fun k => match k with
  | 0 => .object "java/lang/Throwable"
  | 1 => .array (.object "java/lang/StackTraceElement")
  | 2 => .object "java/util/List"
  | 3 => .object "java/lang/String"
  | 4 => .object "java/lang/Object"
  | _ => .int
def T_XN : u_T := fun k => match k with
  | 0 => ("java/lang/Throwable", "cause", "Ljava/lang/Throwable;", false)
  | 1 => ("java/lang/Throwable", "stackTrace", "[Ljava/lang/StackTraceElement;", false)
  | 2 => ("java/lang/Throwable", "suppressedExceptions", "Ljava/util/List;", false)
  | 3 => ("java/lang/Throwable", "detailMessage", "Ljava/lang/String;", false)
  | 4 => ("java/lang/Throwable", "backtrace", "Ljava/lang/Object;", false)
  | _ => ("java/lang/Throwable", "depth", "I", false)
def t_XN : Nat → FieldType := fun k => match k with
  | 0 => .object "java/lang/Throwable"
  | 1 => .array (.object "java/lang/StackTraceElement")
  | 2 => .object "java/util/List"
  | 3 => .object "java/lang/String"
  | 4 => .object "java/lang/Object"
  | _ => .int
def y_MT_init : MethodName := ⟨"MachineTables", "<init>", "()V"⟩
def y_Se_init : MethodName := ⟨"MachineTables$Search", "<init>", "()V"⟩
def y_Fa_init : MethodName := ⟨"MachineTables$Families", "<init>", "()V"⟩
def y_MT_machine : MethodName := ⟨"MachineTables", "machine", "(II)I"⟩
def y_MT_isFull : MethodName := ⟨"MachineTables", "isFull", "()Z"⟩
def y_MT_add : MethodName := ⟨"MachineTables", "add", "(II)LMachineTables$Machine;"⟩
def y_Ma_init : MethodName := ⟨"MachineTables$Machine", "<init>", "()V"⟩
def y_Ma_begin : MethodName := ⟨"MachineTables$Machine", "begin", "(II)V"⟩
def y_Ma_setArrow : MethodName := ⟨"MachineTables$Machine", "setArrow", "(IIII)V"⟩
def y_MT_arrow : MethodName := ⟨"MachineTables", "arrow", "(IIIII)Z"⟩
def y_MT_find : MethodName := ⟨"MachineTables", "find", "(I)LMachineTables$Machine;"⟩
def y_Ma_hasState : MethodName := ⟨"MachineTables$Machine", "hasState", "(I)Z"⟩
def y_Ma_hasInput : MethodName := ⟨"MachineTables$Machine", "hasInput", "(I)Z"⟩
def y_MT_look : MethodName := ⟨"MachineTables", "look", "(IIII)I"⟩
def y_Ma_nextOf : MethodName := ⟨"MachineTables$Machine", "nextOf", "(II)I"⟩
def y_Ma_outputOf : MethodName := ⟨"MachineTables$Machine", "outputOf", "(II)I"⟩
def y_MT_classes : MethodName := ⟨"MachineTables", "classes", "(I)I"⟩
def y_Ma_settle : MethodName := ⟨"MachineTables$Machine", "settle", "()V"⟩
def y_Ar_fill : MethodName := ⟨"java/util/Arrays", "fill", "([IIII)V"⟩
def y_Ar_rangeCheck : MethodName := ⟨"java/util/Arrays", "rangeCheck", "(III)V"⟩
def y_XT_fillInStackTrace : MethodName := ⟨"java/lang/Throwable", "fillInStackTrace", "(I)Ljava/lang/Throwable;"⟩
def y_XT_fillInStackTrace2 : MethodName := ⟨"java/lang/Throwable", "fillInStackTrace", "()Ljava/lang/Throwable;"⟩
def y_XT_init : MethodName := ⟨"java/lang/Throwable", "<init>", "()V"⟩
def y_Ob_clone : MethodName := ⟨"java/lang/Object", "clone", "()Ljava/lang/Object;"⟩
def y_None_clone : MethodName := ⟨"[B", "clone", "()Ljava/lang/Object;"⟩
def y_Sy_arraycopy : MethodName := ⟨"java/lang/System", "arraycopy", "(Ljava/lang/Object;ILjava/lang/Object;II)V"⟩
def y_XI_init : MethodName := ⟨"java/lang/IllegalArgumentException", "<init>", "(Ljava/lang/String;)V"⟩
def y_XR_init : MethodName := ⟨"java/lang/RuntimeException", "<init>", "(Ljava/lang/String;)V"⟩
def y_XE_init : MethodName := ⟨"java/lang/Exception", "<init>", "(Ljava/lang/String;)V"⟩
def y_XT_init2 : MethodName := ⟨"java/lang/Throwable", "<init>", "(Ljava/lang/String;)V"⟩
def y_Ma_splitSets : MethodName := ⟨"MachineTables$Machine", "splitSets", "()Z"⟩
def y_Ma_leastThatAgrees : MethodName := ⟨"MachineTables$Machine", "leastThatAgrees", "(I)I"⟩
def y_Ma_isAgreed : MethodName := ⟨"MachineTables$Machine", "isAgreed", "(II)Z"⟩
def y_Ma_countSets : MethodName := ⟨"MachineTables$Machine", "countSets", "()I"⟩
def y_MT_like : MethodName := ⟨"MachineTables", "like", "(II)I"⟩
def y_Ma_leastLike : MethodName := ⟨"MachineTables$Machine", "leastLike", "(I)I"⟩
def y_MT_least : MethodName := ⟨"MachineTables", "least", "(I)I"⟩
def y_MT_numberSets : MethodName := ⟨"MachineTables", "numberSets", "(LMachineTables$Machine;)V"⟩
def y_Se_begin : MethodName := ⟨"MachineTables$Search", "begin", "(I)V"⟩
def y_Se_reach : MethodName := ⟨"MachineTables$Search", "reach", "(III)V"⟩
def y_Se_note : MethodName := ⟨"MachineTables$Search", "note", "(II)I"⟩
def y_Se_placeAt : MethodName := ⟨"MachineTables$Search", "placeAt", "(I)I"⟩
def y_Se_numberOf : MethodName := ⟨"MachineTables$Search", "numberOf", "(I)I"⟩
def y_MT_part : MethodName := ⟨"MachineTables", "part", "(II)I"⟩
def y_MT_reset : MethodName := ⟨"MachineTables", "reset", "(I)I"⟩
def y_MT_findSmall : MethodName := ⟨"MachineTables", "findSmall", "(I)LMachineTables$Machine;"⟩
def y_MT_seekReset : MethodName := ⟨"MachineTables", "seekReset", "(LMachineTables$Machine;)I"⟩
def y_In_bitCount : MethodName := ⟨"java/lang/Integer", "bitCount", "(I)I"⟩
def y_Ma_reachedFrom : MethodName := ⟨"MachineTables$Machine", "reachedFrom", "(II)I"⟩
def y_MT_tell : MethodName := ⟨"MachineTables", "tell", "(I)I"⟩
def y_Se_wordTo : MethodName := ⟨"MachineTables$Search", "wordTo", "(I)[I"⟩
def y_MT_along : MethodName := ⟨"MachineTables", "along", "(II)I"⟩
def y_MT_clear : MethodName := ⟨"MachineTables", "clear", "()V"⟩
def y_MT_total : MethodName := ⟨"MachineTables", "total", "(I)I"⟩
def y_La_alike : MethodName := ⟨"MachineTablesLaw", "alike", "(LMachineTables;IIII[J)I"⟩
def y_MT_alike : MethodName := ⟨"MachineTables", "alike", "(IIII)Z"⟩
def y_MT_seekWitness : MethodName := ⟨"MachineTables", "seekWitness", "(LMachineTables$Machine;ILMachineTables$Machine;I)I"⟩
def y_MT_pairOf : MethodName := ⟨"MachineTables", "pairOf", "(II)I"⟩
def y_MT_firstOf : MethodName := ⟨"MachineTables", "firstOf", "(I)I"⟩
def y_MT_secondOf : MethodName := ⟨"MachineTables", "secondOf", "(I)I"⟩
def y_La_home : MethodName := ⟨"MachineTablesLaw", "home", "(LMachineTables;I[J)I"⟩
def y_MT_home : MethodName := ⟨"MachineTables", "home", "(I)I"⟩
def y_MT_seekHomed : MethodName := ⟨"MachineTables", "seekHomed", "(LMachineTables$Machine;)I"⟩
def y_Fa_begin : MethodName := ⟨"MachineTables$Families", "begin", "(LMachineTables$Machine;)V"⟩
def y_Fa_put : MethodName := ⟨"MachineTables$Families", "put", "(I)V"⟩
def y_Fa_liesInOne : MethodName := ⟨"MachineTables$Families", "liesInOne", "(I)Z"⟩
def y_Fa_leaveOutThoseIn : MethodName := ⟨"MachineTables$Families", "leaveOutThoseIn", "(I)V"⟩
def y_Fa_openOneIsSingles : MethodName := ⟨"MachineTables$Families", "openOneIsSingles", "()Z"⟩
def y_Fa_keepOpenOne : MethodName := ⟨"MachineTables$Families", "keepOpenOne", "()V"⟩
def y_Fa_follow : MethodName := ⟨"MachineTables$Families", "follow", "(LMachineTables$Machine;II)V"⟩
def y_Fa_putParted : MethodName := ⟨"MachineTables$Families", "putParted", "(LMachineTables$Machine;II)V"⟩
def y_Ar_fill2 : MethodName := ⟨"java/util/Arrays", "fill", "([II)V"⟩
def y_Fa_openOneIsKnown : MethodName := ⟨"MachineTables$Families", "openOneIsKnown", "()Z"⟩
def y_Fa_openOneIs : MethodName := ⟨"MachineTables$Families", "openOneIs", "(I)Z"⟩
def y_XA_init : MethodName := ⟨"java/lang/ArithmeticException", "<init>", "(Ljava/lang/String;)V"⟩
def y_La_chain : MethodName := ⟨"MachineTablesLaw", "chain", "(LMachineTables;II[J)I"⟩
def y_MT_chain : MethodName := ⟨"MachineTables", "chain", "(II)I"⟩
def y_MT_numberPairs : MethodName := ⟨"MachineTables", "numberPairs", "(LMachineTables$Machine;LMachineTables$Machine;)Z"⟩
def y_MT_pairBehind : MethodName := ⟨"MachineTables", "pairBehind", "(LMachineTables$Machine;LMachineTables$Machine;II)I"⟩
def y_La_letter : MethodName := ⟨"MachineTablesLaw", "letter", "(LMachineTables;I[J)I"⟩
def y_MT_letter : MethodName := ⟨"MachineTables", "letter", "(I)I"⟩
def y_XN_init : MethodName := ⟨"java/util/NoSuchElementException", "<init>", "(Ljava/lang/String;)V"⟩
def y_Mo_init : MethodName := ⟨"MachineTablesModel", "<init>", "()V"⟩
def y_Mo_thrown : MethodName := ⟨"MachineTablesModel", "thrown", "()I"⟩
def y_Mo_machine : MethodName := ⟨"MachineTablesModel", "machine", "(II)I"⟩
def y_Mo_in : MethodName := ⟨"MachineTablesModel", "in", "(III)Z"⟩
def y_Mo_newMachine : MethodName := ⟨"MachineTablesModel", "newMachine", "(II)I"⟩
def y_Mo_arrow : MethodName := ⟨"MachineTablesModel", "arrow", "(IIIII)Z"⟩
def y_Mo_isState : MethodName := ⟨"MachineTablesModel", "isState", "(II)Z"⟩
def y_Mo_isMachine : MethodName := ⟨"MachineTablesModel", "isMachine", "(I)Z"⟩
def y_Mo_look : MethodName := ⟨"MachineTablesModel", "look", "(IIII)I"⟩
def y_Mo_classes : MethodName := ⟨"MachineTablesModel", "classes", "(I)I"⟩
def y_Mo_mark : MethodName := ⟨"MachineTablesModel", "mark", "(I)V"⟩
def y_Mo_isApart : MethodName := ⟨"MachineTablesModel", "isApart", "(III)Z"⟩
def y_Mo_firstLike : MethodName := ⟨"MachineTablesModel", "firstLike", "(I)I"⟩
def y_Mo_like : MethodName := ⟨"MachineTablesModel", "like", "(II)I"⟩
def y_Mo_alike : MethodName := ⟨"MachineTablesModel", "alike", "(IIII)Z"⟩
def y_Mo_begin : MethodName := ⟨"MachineTablesModel", "begin", "(I)V"⟩
def y_Mo_come : MethodName := ⟨"MachineTablesModel", "come", "(III)V"⟩
def y_Mo_tell : MethodName := ⟨"MachineTablesModel", "tell", "(II)V"⟩
def y_Mo_least : MethodName := ⟨"MachineTablesModel", "least", "(I)I"⟩
def y_Mo_findParts : MethodName := ⟨"MachineTablesModel", "findParts", "(I)V"⟩
def y_Mo_partOf : MethodName := ⟨"MachineTablesModel", "partOf", "(I)I"⟩
def y_Mo_part : MethodName := ⟨"MachineTablesModel", "part", "(II)I"⟩
def y_Mo_reset : MethodName := ⟨"MachineTablesModel", "reset", "(I)I"⟩
def y_Mo_ones : MethodName := ⟨"MachineTablesModel", "ones", "(I)I"⟩
def y_Mo_moved : MethodName := ⟨"MachineTablesModel", "moved", "(III)I"⟩
def y_Mo_home : MethodName := ⟨"MachineTablesModel", "home", "(I)I"⟩
def y_Mo_put : MethodName := ⟨"MachineTablesModel", "put", "(II)V"⟩
def y_Mo_isHome : MethodName := ⟨"MachineTablesModel", "isHome", "(I)Z"⟩
def y_Mo_told : MethodName := ⟨"MachineTablesModel", "told", "(I)I"⟩
def y_Mo_lead : MethodName := ⟨"MachineTablesModel", "lead", "(IIII)V"⟩
def y_Mo_isTried : MethodName := ⟨"MachineTablesModel", "isTried", "(I)Z"⟩
def y_Mo_raise : MethodName := ⟨"MachineTablesModel", "raise", "()I"⟩
def y_Mo_chain : MethodName := ⟨"MachineTablesModel", "chain", "(II)I"⟩
def y_Mo_chains : MethodName := ⟨"MachineTablesModel", "chains", "(II)Z"⟩
def y_Mo_placeOf : MethodName := ⟨"MachineTablesModel", "placeOf", "(I)I"⟩
def y_Mo_letter : MethodName := ⟨"MachineTablesModel", "letter", "(I)I"⟩
def y_Mo_along : MethodName := ⟨"MachineTablesModel", "along", "(II)I"⟩
def y_Mo_clear : MethodName := ⟨"MachineTablesModel", "clear", "()V"⟩
def y_Mo_total : MethodName := ⟨"MachineTablesModel", "total", "(I)I"⟩
abbrev CL : List vw_C := [(R_Fa, T_Fa, 4), (R_Ma, T_Ma, 7), (R_Se, T_Se, 4), (R_MT, T_MT, 5), (R_Mo, T_Mo, 19), (R_XI, T_XI, 6), (R_XA, T_XA, 6), (R_XN, T_XN, 6)]
/-- the array classes: 0 int, 1 boolean, 2 Machine, 3 long -/
abbrev TY (g : Nat → ClassId) : List (ClassId × FieldType) := [(g 0, .int), (g 1, .boolean), (g 2, .object "MachineTables$Machine"), (g 3, .long)]
abbrev b_MT_init : ByteArray := prog_1_method_1_code
abbrev b_Se_init : ByteArray := prog_4_method_1_code
abbrev b_Fa_init : ByteArray := prog_2_method_1_code
abbrev b_MT_machine : ByteArray := prog_1_method_2_code
abbrev b_MT_isFull : ByteArray := prog_1_method_17_code
abbrev b_MT_add : ByteArray := prog_1_method_20_code
abbrev b_Ma_init : ByteArray := prog_3_method_1_code
abbrev b_Ma_begin : ByteArray := prog_3_method_2_code
abbrev b_Ma_setArrow : ByteArray := prog_3_method_7_code
abbrev b_MT_arrow : ByteArray := prog_1_method_3_code
abbrev b_MT_find : ByteArray := prog_1_method_18_code
abbrev b_Ma_hasState : ByteArray := prog_3_method_3_code
abbrev b_Ma_hasInput : ByteArray := prog_3_method_4_code
abbrev b_MT_look : ByteArray := prog_1_method_4_code
abbrev b_Ma_nextOf : ByteArray := prog_3_method_5_code
abbrev b_Ma_outputOf : ByteArray := prog_3_method_6_code
abbrev b_MT_classes : ByteArray := prog_1_method_5_code
abbrev b_Ma_settle : ByteArray := prog_3_method_11_code
abbrev b_Ar_fill : ByteArray := prog_21_method_104_code
abbrev b_Ar_rangeCheck : ByteArray := prog_21_method_30_code
abbrev b_XT_init : ByteArray := prog_20_method_1_code
abbrev b_XT_fillInStackTrace2 : ByteArray := prog_20_method_18_code
abbrev b_XI_init : ByteArray := prog_11_method_2_code
abbrev b_XR_init : ByteArray := prog_14_method_2_code
abbrev b_XE_init : ByteArray := prog_10_method_2_code
abbrev b_XT_init2 : ByteArray := prog_20_method_2_code
abbrev b_Ma_splitSets : ByteArray := prog_3_method_12_code
abbrev b_Ma_leastThatAgrees : ByteArray := prog_3_method_13_code
abbrev b_Ma_isAgreed : ByteArray := prog_3_method_14_code
abbrev b_Ma_countSets : ByteArray := prog_3_method_10_code
abbrev b_MT_like : ByteArray := prog_1_method_6_code
abbrev b_Ma_leastLike : ByteArray := prog_3_method_9_code
abbrev b_MT_least : ByteArray := prog_1_method_8_code
abbrev b_MT_numberSets : ByteArray := prog_1_method_23_code
abbrev b_Se_begin : ByteArray := prog_4_method_2_code
abbrev b_Se_reach : ByteArray := prog_4_method_3_code
abbrev b_Se_note : ByteArray := prog_4_method_4_code
abbrev b_Se_placeAt : ByteArray := prog_4_method_5_code
abbrev b_Se_numberOf : ByteArray := prog_4_method_6_code
abbrev b_MT_part : ByteArray := prog_1_method_9_code
abbrev b_MT_reset : ByteArray := prog_1_method_10_code
abbrev b_MT_findSmall : ByteArray := prog_1_method_19_code
abbrev b_MT_seekReset : ByteArray := prog_1_method_24_code
abbrev b_In_bitCount : ByteArray := prog_12_method_49_code
abbrev b_Ma_reachedFrom : ByteArray := prog_3_method_8_code
abbrev b_MT_tell : ByteArray := prog_1_method_21_code
abbrev b_Se_wordTo : ByteArray := prog_4_method_7_code
abbrev b_MT_along : ByteArray := prog_1_method_14_code
abbrev b_MT_clear : ByteArray := prog_1_method_15_code
abbrev b_MT_total : ByteArray := prog_1_method_16_code
abbrev b_La_alike : ByteArray := method_3_code
abbrev b_MT_alike : ByteArray := prog_1_method_7_code
abbrev b_MT_seekWitness : ByteArray := prog_1_method_22_code
abbrev b_MT_pairOf : ByteArray := prog_1_method_28_code
abbrev b_MT_firstOf : ByteArray := prog_1_method_29_code
abbrev b_MT_secondOf : ByteArray := prog_1_method_30_code
abbrev b_La_home : ByteArray := method_4_code
abbrev b_MT_home : ByteArray := prog_1_method_11_code
abbrev b_MT_seekHomed : ByteArray := prog_1_method_25_code
abbrev b_Fa_begin : ByteArray := prog_2_method_2_code
abbrev b_Fa_put : ByteArray := prog_2_method_6_code
abbrev b_Fa_liesInOne : ByteArray := prog_2_method_7_code
abbrev b_Fa_leaveOutThoseIn : ByteArray := prog_2_method_8_code
abbrev b_Fa_openOneIsSingles : ByteArray := prog_2_method_9_code
abbrev b_Fa_keepOpenOne : ByteArray := prog_2_method_3_code
abbrev b_Fa_follow : ByteArray := prog_2_method_4_code
abbrev b_Fa_putParted : ByteArray := prog_2_method_5_code
abbrev b_Ar_fill2 : ByteArray := prog_21_method_103_code
abbrev b_Fa_openOneIsKnown : ByteArray := prog_2_method_10_code
abbrev b_Fa_openOneIs : ByteArray := prog_2_method_11_code
abbrev b_XA_init : ByteArray := prog_8_method_2_code
abbrev b_La_chain : ByteArray := method_5_code
abbrev b_MT_chain : ByteArray := prog_1_method_12_code
abbrev b_MT_numberPairs : ByteArray := prog_1_method_26_code
abbrev b_MT_pairBehind : ByteArray := prog_1_method_27_code
abbrev b_La_letter : ByteArray := method_6_code
abbrev b_MT_letter : ByteArray := prog_1_method_13_code
abbrev b_XN_init : ByteArray := prog_22_method_4_code
abbrev b_Mo_init : ByteArray := prog_6_method_1_code
abbrev b_Mo_thrown : ByteArray := prog_6_method_2_code
abbrev b_Mo_machine : ByteArray := prog_6_method_8_code
abbrev b_Mo_in : ByteArray := prog_6_method_4_code
abbrev b_Mo_newMachine : ByteArray := prog_6_method_7_code
abbrev b_Mo_arrow : ByteArray := prog_6_method_9_code
abbrev b_Mo_isState : ByteArray := prog_6_method_6_code
abbrev b_Mo_isMachine : ByteArray := prog_6_method_5_code
abbrev b_Mo_look : ByteArray := prog_6_method_10_code
abbrev b_Mo_classes : ByteArray := prog_6_method_14_code
abbrev b_Mo_mark : ByteArray := prog_6_method_12_code
abbrev b_Mo_isApart : ByteArray := prog_6_method_11_code
abbrev b_Mo_firstLike : ByteArray := prog_6_method_13_code
abbrev b_Mo_like : ByteArray := prog_6_method_15_code
abbrev b_Mo_alike : ByteArray := prog_6_method_19_code
abbrev b_Mo_begin : ByteArray := prog_6_method_16_code
abbrev b_Mo_come : ByteArray := prog_6_method_17_code
abbrev b_Mo_tell : ByteArray := prog_6_method_18_code
abbrev b_Mo_least : ByteArray := prog_6_method_22_code
abbrev b_Mo_findParts : ByteArray := prog_6_method_20_code
abbrev b_Mo_partOf : ByteArray := prog_6_method_21_code
abbrev b_Mo_part : ByteArray := prog_6_method_23_code
abbrev b_Mo_reset : ByteArray := prog_6_method_26_code
abbrev b_Mo_ones : ByteArray := prog_6_method_24_code
abbrev b_Mo_moved : ByteArray := prog_6_method_25_code
abbrev b_Mo_home : ByteArray := prog_6_method_32_code
abbrev b_Mo_put : ByteArray := prog_6_method_27_code
abbrev b_Mo_isHome : ByteArray := prog_6_method_29_code
abbrev b_Mo_told : ByteArray := prog_6_method_31_code
abbrev b_Mo_lead : ByteArray := prog_6_method_28_code
abbrev b_Mo_isTried : ByteArray := prog_6_method_30_code
abbrev b_Mo_raise : ByteArray := prog_6_method_3_code
abbrev b_Mo_chain : ByteArray := prog_6_method_35_code
abbrev b_Mo_chains : ByteArray := prog_6_method_33_code
abbrev b_Mo_placeOf : ByteArray := prog_6_method_34_code
abbrev b_Mo_letter : ByteArray := prog_6_method_36_code
abbrev b_Mo_along : ByteArray := prog_6_method_37_code
abbrev b_Mo_clear : ByteArray := prog_6_method_38_code
abbrev b_Mo_total : ByteArray := prog_6_method_39_code
abbrev b_La_law : ByteArray := code
abbrev NW : List Cond := [Cond.arrayOver (FieldType.object "MachineTables$Machine"), Cond.fieldLinkNest "MachineTables" 101 "MachineTables$Search" "count" "I" "MachineTables", Cond.fieldLinkNest "MachineTables" 185 "MachineTables$Families" "count" "I" "MachineTables", Cond.fieldLinkNest "MachineTables$Families" 25 "MachineTables$Machine" "states" "I" "MachineTables", Cond.fieldLinkNest "MachineTables" 102 "MachineTables$Machine" "states" "I" "MachineTables", Cond.fieldLinkNest "MachineTables" 85 "MachineTables$Machine" "inputs" "I" "MachineTables"]
end
section
/-! ===== the words that all contracts share ===== -/
def B0 : List Cond := [Cond.initialized "MachineTablesLaw", Cond.initialized "MachineTables", Cond.initialized "MachineTables$Search", Cond.initialized "MachineTables$Families", Cond.initialized "MachineTablesModel", Cond.initialized "MachineTables$Machine", Cond.initialized "java/util/Arrays", Cond.initialized "java/lang/Throwable", Cond.initialized "java/lang/Exception", Cond.initialized "java/lang/RuntimeException", Cond.initialized "java/lang/IllegalArgumentException", Cond.initialized "java/lang/System", Cond.initialized "java/lang/Integer", Cond.initialized "java/lang/ArithmeticException", Cond.initialized "java/util/NoSuchElementException", Cond.classLink "MachineTablesLaw" 8 "MachineTables", Cond.instantiable "MachineTables" 5, Cond.methodLink "MachineTablesLaw" 30 y_MT_init, Cond.instanceMethod y_MT_init, Cond.code y_MT_init prog_1_method_1_code 1 (Option.none : Option Jvm.ClassFile.FieldType), Cond.methodLink "MachineTables" 3 objectInit, Cond.instanceMethod objectInit, Cond.code objectInit object_method_1_code 1 (Option.none : Option Jvm.ClassFile.FieldType), Cond.classLink "MachineTables" 9 "MachineTables$Machine", Cond.classLink "MachineTables" 15 "MachineTables$Search", Cond.instantiable "MachineTables$Search" 4, Cond.methodLink "MachineTables" 17 y_Se_init, Cond.instanceMethod y_Se_init, Cond.code y_Se_init prog_4_method_1_code 1 (Option.none : Option Jvm.ClassFile.FieldType), Cond.methodLink "MachineTables$Search" 3 objectInit, Cond.fieldLink "MachineTables$Search" 9 "MachineTables$Search" "numbers" "[I", Cond.fieldLink "MachineTables$Search" 15 "MachineTables$Search" "places" "[I", Cond.fieldLink "MachineTables$Search" 18 "MachineTables$Search" "steps" "[I", Cond.fieldLink "MachineTables$Search" 27 "MachineTables$Search" "count" "I", Cond.laysFinal "MachineTables$Search" "MachineTables$Search" "numbers" "[I", Cond.soleField "MachineTables$Search" "numbers", Cond.laysFinal "MachineTables$Search" "MachineTables$Search" "places" "[I", Cond.soleField "MachineTables$Search" "places", Cond.laysFinal "MachineTables$Search" "MachineTables$Search" "steps" "[I", Cond.soleField "MachineTables$Search" "steps"]
def B1 : List Cond := [Cond.lays "MachineTables$Search" "MachineTables$Search" "count" "I", Cond.soleField "MachineTables$Search" "count", Cond.superclass "MachineTables$Search" "java/lang/Object", Cond.arrayClass FieldType.int, Cond.classLink "MachineTables" 22 "MachineTables$Families", Cond.instantiable "MachineTables$Families" 4, Cond.methodLink "MachineTables" 24 y_Fa_init, Cond.instanceMethod y_Fa_init, Cond.code y_Fa_init prog_2_method_1_code 1 (Option.none : Option Jvm.ClassFile.FieldType), Cond.methodLink "MachineTables$Families" 3 objectInit, Cond.fieldLink "MachineTables$Families" 9 "MachineTables$Families" "sets" "[I", Cond.fieldLink "MachineTables$Families" 15 "MachineTables$Families" "sizes" "[I", Cond.fieldLink "MachineTables$Families" 18 "MachineTables$Families" "byOutput" "[I", Cond.fieldLink "MachineTables$Families" 21 "MachineTables$Families" "count" "I", Cond.laysFinal "MachineTables$Families" "MachineTables$Families" "sets" "[I", Cond.soleField "MachineTables$Families" "sets", Cond.laysFinal "MachineTables$Families" "MachineTables$Families" "sizes" "[I", Cond.soleField "MachineTables$Families" "sizes", Cond.laysFinal "MachineTables$Families" "MachineTables$Families" "byOutput" "[I", Cond.soleField "MachineTables$Families" "byOutput", Cond.lays "MachineTables$Families" "MachineTables$Families" "count" "I", Cond.soleField "MachineTables$Families" "count", Cond.superclass "MachineTables$Families" "java/lang/Object", Cond.fieldLink "MachineTables" 11 "MachineTables" "machines" "[LMachineTables$Machine;", Cond.fieldLink "MachineTables" 18 "MachineTables" "search" "LMachineTables$Search;", Cond.fieldLink "MachineTables" 25 "MachineTables" "families" "LMachineTables$Families;", Cond.fieldLink "MachineTables" 29 "MachineTables" "count" "I", Cond.fieldLink "MachineTables" 33 "MachineTables" "word" "[I", Cond.laysFinal "MachineTables" "MachineTables" "machines" "[LMachineTables$Machine;", Cond.soleField "MachineTables" "machines", Cond.laysFinal "MachineTables" "MachineTables" "search" "LMachineTables$Search;", Cond.soleField "MachineTables" "search", Cond.laysFinal "MachineTables" "MachineTables" "families" "LMachineTables$Families;", Cond.soleField "MachineTables" "families", Cond.lays "MachineTables" "MachineTables" "count" "I", Cond.soleField "MachineTables" "count", Cond.lays "MachineTables" "MachineTables" "word" "[I", Cond.soleField "MachineTables" "word", Cond.superclass "MachineTables" "java/lang/Object", Cond.methodLink "MachineTablesLaw" 34 y_MT_machine]
def B2 : List Cond := [Cond.instanceMethod y_MT_machine, Cond.selects "MachineTables" y_MT_machine y_MT_machine, Cond.code y_MT_machine prog_1_method_2_code 3 (some FieldType.int), Cond.methodLink "MachineTables" 37 y_MT_isFull, Cond.instanceMethod y_MT_isFull, Cond.code y_MT_isFull prog_1_method_17_code 1 (some FieldType.boolean), Cond.methodLink "MachineTables" 41 y_MT_add, Cond.instanceMethod y_MT_add, Cond.code y_MT_add prog_1_method_20_code 4 (some (FieldType.object "MachineTables$Machine")), Cond.instantiable "MachineTables$Machine" 7, Cond.methodLink "MachineTables" 147 y_Ma_init, Cond.instanceMethod y_Ma_init, Cond.code y_Ma_init prog_3_method_1_code 1 (Option.none : Option Jvm.ClassFile.FieldType), Cond.methodLink "MachineTables$Machine" 3 objectInit, Cond.fieldLink "MachineTables$Machine" 9 "MachineTables$Machine" "next" "[I", Cond.fieldLink "MachineTables$Machine" 15 "MachineTables$Machine" "output" "[I", Cond.fieldLink "MachineTables$Machine" 18 "MachineTables$Machine" "leastOf" "[I", Cond.fieldLink "MachineTables$Machine" 21 "MachineTables$Machine" "finer" "[I", Cond.fieldLink "MachineTables$Machine" 24 "MachineTables$Machine" "states" "I", Cond.fieldLink "MachineTables$Machine" 28 "MachineTables$Machine" "inputs" "I", Cond.fieldLink "MachineTables$Machine" 35 "MachineTables$Machine" "isSettled" "Z", Cond.laysFinal "MachineTables$Machine" "MachineTables$Machine" "next" "[I", Cond.soleField "MachineTables$Machine" "next", Cond.laysFinal "MachineTables$Machine" "MachineTables$Machine" "output" "[I", Cond.soleField "MachineTables$Machine" "output", Cond.laysFinal "MachineTables$Machine" "MachineTables$Machine" "leastOf" "[I", Cond.soleField "MachineTables$Machine" "leastOf", Cond.laysFinal "MachineTables$Machine" "MachineTables$Machine" "finer" "[I", Cond.soleField "MachineTables$Machine" "finer", Cond.lays "MachineTables$Machine" "MachineTables$Machine" "states" "I", Cond.soleField "MachineTables$Machine" "states", Cond.lays "MachineTables$Machine" "MachineTables$Machine" "inputs" "I", Cond.soleField "MachineTables$Machine" "inputs", Cond.lays "MachineTables$Machine" "MachineTables$Machine" "isSettled" "Z", Cond.soleField "MachineTables$Machine" "isSettled", Cond.superclass "MachineTables$Machine" "java/lang/Object", Cond.methodLink "MachineTables" 148 y_Ma_begin, Cond.instanceMethod y_Ma_begin, Cond.selects "MachineTables$Machine" y_Ma_begin y_Ma_begin, Cond.code y_Ma_begin prog_3_method_2_code 5 (Option.none : Option Jvm.ClassFile.FieldType)]
def B3 : List Cond := [Cond.methodLink "MachineTables$Machine" 31 y_Ma_setArrow, Cond.instanceMethod y_Ma_setArrow, Cond.selects "MachineTables$Machine" y_Ma_setArrow y_Ma_setArrow, Cond.code y_Ma_setArrow prog_3_method_7_code 5 (Option.none : Option Jvm.ClassFile.FieldType), Cond.methodLink "MachineTablesLaw" 38 y_MT_arrow, Cond.instanceMethod y_MT_arrow, Cond.selects "MachineTables" y_MT_arrow y_MT_arrow, Cond.code y_MT_arrow prog_1_method_3_code 7 (some FieldType.boolean), Cond.methodLink "MachineTables" 45 y_MT_find, Cond.instanceMethod y_MT_find, Cond.code y_MT_find prog_1_method_18_code 2 (some (FieldType.object "MachineTables$Machine")), Cond.methodLink "MachineTables" 49 y_Ma_hasState, Cond.instanceMethod y_Ma_hasState, Cond.selects "MachineTables$Machine" y_Ma_hasState y_Ma_hasState, Cond.code y_Ma_hasState prog_3_method_3_code 2 (some FieldType.boolean), Cond.methodLink "MachineTables" 53 y_Ma_hasInput, Cond.instanceMethod y_Ma_hasInput, Cond.selects "MachineTables$Machine" y_Ma_hasInput y_Ma_hasInput, Cond.code y_Ma_hasInput prog_3_method_4_code 2 (some FieldType.boolean), Cond.methodLink "MachineTables" 56 y_Ma_setArrow, Cond.methodLink "MachineTablesLaw" 43 y_MT_look, Cond.instanceMethod y_MT_look, Cond.selects "MachineTables" y_MT_look y_MT_look, Cond.code y_MT_look prog_1_method_4_code 6 (some FieldType.int), Cond.methodLink "MachineTables" 60 y_Ma_nextOf, Cond.instanceMethod y_Ma_nextOf, Cond.selects "MachineTables$Machine" y_Ma_nextOf y_Ma_nextOf, Cond.code y_Ma_nextOf prog_3_method_5_code 3 (some FieldType.int), Cond.methodLink "MachineTables" 64 y_Ma_outputOf, Cond.instanceMethod y_Ma_outputOf, Cond.selects "MachineTables$Machine" y_Ma_outputOf y_Ma_outputOf, Cond.code y_Ma_outputOf prog_3_method_6_code 3 (some FieldType.int), Cond.methodLink "MachineTablesLaw" 48 y_MT_classes, Cond.instanceMethod y_MT_classes, Cond.selects "MachineTables" y_MT_classes y_MT_classes, Cond.code y_MT_classes prog_1_method_5_code 3 (some FieldType.int), Cond.methodLink "MachineTables" 67 y_Ma_settle, Cond.instanceMethod y_Ma_settle, Cond.selects "MachineTables$Machine" y_Ma_settle y_Ma_settle, Cond.code y_Ma_settle prog_3_method_11_code 3 (Option.none : Option Jvm.ClassFile.FieldType)]
def B4 : List Cond := [Cond.methodLink "MachineTables$Machine" 43 y_Ar_fill, Cond.static y_Ar_fill, Cond.code y_Ar_fill prog_21_method_104_code 5 (Option.none : Option Jvm.ClassFile.FieldType), Cond.methodLink "java/util/Arrays" 13 y_Ar_rangeCheck, Cond.static y_Ar_rangeCheck, Cond.code y_Ar_rangeCheck prog_21_method_30_code 3 (Option.none : Option Jvm.ClassFile.FieldType), Cond.instantiable "java/lang/IllegalArgumentException" 6, Cond.selects "java/lang/IllegalArgumentException" y_XT_fillInStackTrace y_XT_fillInStackTrace, Cond.selects "java/lang/IllegalArgumentException" y_XT_fillInStackTrace2 y_XT_fillInStackTrace2, Cond.lays "java/lang/IllegalArgumentException" "java/lang/Throwable" "cause" "Ljava/lang/Throwable;", Cond.lays "java/lang/Throwable" "java/lang/Throwable" "cause" "Ljava/lang/Throwable;", Cond.lays "java/lang/IllegalArgumentException" "java/lang/Throwable" "stackTrace" "[Ljava/lang/StackTraceElement;", Cond.lays "java/lang/Throwable" "java/lang/Throwable" "stackTrace" "[Ljava/lang/StackTraceElement;", Cond.lays "java/lang/IllegalArgumentException" "java/lang/Throwable" "suppressedExceptions" "Ljava/util/List;", Cond.lays "java/lang/Throwable" "java/lang/Throwable" "suppressedExceptions" "Ljava/util/List;", Cond.lays "java/lang/IllegalArgumentException" "java/lang/Throwable" "detailMessage" "Ljava/lang/String;", Cond.lays "java/lang/Throwable" "java/lang/Throwable" "detailMessage" "Ljava/lang/String;", Cond.lays "java/lang/IllegalArgumentException" "java/lang/Throwable" "backtrace" "Ljava/lang/Object;", Cond.lays "java/lang/Throwable" "java/lang/Throwable" "backtrace" "Ljava/lang/Object;", Cond.fieldLink "java/lang/Throwable" 198 "java/lang/Throwable" "backtrace" "Ljava/lang/Object;", Cond.superclass "java/lang/Throwable" "java/lang/Object", Cond.instanceMethod y_XT_init, Cond.code y_XT_init prog_20_method_1_code 1 (Option.none : Option Jvm.ClassFile.FieldType), Cond.methodLink "java/lang/Throwable" 1 objectInit, Cond.fieldLink "java/lang/Throwable" 13 "java/lang/Throwable" "UNASSIGNED_STACK" "[Ljava/lang/StackTraceElement;", Cond.fieldLink "java/lang/Throwable" 20 "java/lang/Throwable" "SUPPRESSED_SENTINEL" "Ljava/util/List;", Cond.methodLink "java/lang/Throwable" 27 y_XT_fillInStackTrace2, Cond.instanceMethod y_XT_fillInStackTrace2, Cond.sameMethod "java/lang/Throwable" "java/lang/Throwable" "fillInStackTrace" "()Ljava/lang/Throwable;", Cond.selects "java/lang/ArithmeticException" y_XT_fillInStackTrace2 y_XT_fillInStackTrace2, Cond.selects "java/util/NoSuchElementException" y_XT_fillInStackTrace2 y_XT_fillInStackTrace2, Cond.codeSync y_XT_fillInStackTrace2 prog_20_method_18_code 1 (some (FieldType.object "java/lang/Throwable")), Cond.methodLink "java/lang/Throwable" 202 y_XT_fillInStackTrace, Cond.instanceMethod y_XT_fillInStackTrace, Cond.instantiable "java/lang/Throwable" 6, Cond.native y_XT_fillInStackTrace, Cond.arrayClass FieldType.byte, Cond.sameMethod "[B" "java/lang/Object" "clone" "()Ljava/lang/Object;", Cond.native y_Ob_clone, Cond.instanceMethod y_Ob_clone]
def B5 : List Cond := [Cond.selects "[B" y_None_clone y_Ob_clone, Cond.static y_Sy_arraycopy, Cond.native y_Sy_arraycopy, Cond.fieldLink "java/lang/Integer" 83 "java/lang/Integer" "DigitOnes" "[B", Cond.fieldLink "java/lang/Integer" 87 "java/lang/Integer" "DigitTens" "[B", Cond.instanceMethod y_XI_init, Cond.code y_XI_init prog_11_method_2_code 2 (Option.none : Option Jvm.ClassFile.FieldType), Cond.methodLink "java/lang/IllegalArgumentException" 7 y_XR_init, Cond.instanceMethod y_XR_init, Cond.code y_XR_init prog_14_method_2_code 2 (Option.none : Option Jvm.ClassFile.FieldType), Cond.methodLink "java/lang/RuntimeException" 7 y_XE_init, Cond.instanceMethod y_XE_init, Cond.code y_XE_init prog_10_method_2_code 2 (Option.none : Option Jvm.ClassFile.FieldType), Cond.methodLink "java/lang/Exception" 7 y_XT_init2, Cond.instanceMethod y_XT_init2, Cond.code y_XT_init2 prog_20_method_2_code 2 (Option.none : Option Jvm.ClassFile.FieldType), Cond.fieldLink "java/lang/Throwable" 31 "java/lang/Throwable" "detailMessage" "Ljava/lang/String;", Cond.fieldLink "java/lang/Throwable" 7 "java/lang/Throwable" "cause" "Ljava/lang/Throwable;", Cond.fieldLink "java/lang/Throwable" 17 "java/lang/Throwable" "stackTrace" "[Ljava/lang/StackTraceElement;", Cond.fieldLink "java/lang/Throwable" 24 "java/lang/Throwable" "suppressedExceptions" "Ljava/util/List;", Cond.soleField "java/lang/Throwable" "backtrace", Cond.soleField "java/lang/Throwable" "detailMessage", Cond.soleField "java/lang/Throwable" "cause", Cond.soleField "java/lang/Throwable" "stackTrace", Cond.lays "java/lang/IllegalArgumentException" "java/lang/Throwable" "depth" "I", Cond.soleField "java/lang/Throwable" "depth", Cond.soleField "java/lang/Throwable" "suppressedExceptions", Cond.superclass "java/lang/IllegalArgumentException" "java/lang/RuntimeException", Cond.methodLink "MachineTables$Machine" 49 y_Ma_splitSets, Cond.instanceMethod y_Ma_splitSets, Cond.code y_Ma_splitSets prog_3_method_12_code 3 (some FieldType.boolean), Cond.methodLink "MachineTables$Machine" 53 y_Ma_leastThatAgrees, Cond.instanceMethod y_Ma_leastThatAgrees, Cond.code y_Ma_leastThatAgrees prog_3_method_13_code 3 (some FieldType.int), Cond.methodLink "MachineTables$Machine" 63 y_Ma_isAgreed, Cond.instanceMethod y_Ma_isAgreed, Cond.code y_Ma_isAgreed prog_3_method_14_code 4 (some FieldType.boolean), Cond.methodLink "MachineTables$Machine" 67 y_Ma_outputOf, Cond.methodLink "MachineTables$Machine" 39 y_Ma_nextOf, Cond.methodLink "MachineTables$Machine" 57 y_Sy_arraycopy]
def B6 : List Cond := [Cond.methodLink "MachineTables" 70 y_Ma_countSets, Cond.instanceMethod y_Ma_countSets, Cond.selects "MachineTables$Machine" y_Ma_countSets y_Ma_countSets, Cond.code y_Ma_countSets prog_3_method_10_code 3 (some FieldType.int), Cond.methodLink "MachineTablesLaw" 52 y_MT_like, Cond.instanceMethod y_MT_like, Cond.selects "MachineTables" y_MT_like y_MT_like, Cond.code y_MT_like prog_1_method_6_code 4 (some FieldType.int), Cond.methodLink "MachineTables" 74 y_Ma_leastLike, Cond.instanceMethod y_Ma_leastLike, Cond.selects "MachineTables$Machine" y_Ma_leastLike y_Ma_leastLike, Cond.code y_Ma_leastLike prog_3_method_9_code 2 (some FieldType.int), Cond.methodLink "MachineTablesLaw" 66 y_MT_least, Cond.instanceMethod y_MT_least, Cond.selects "MachineTables" y_MT_least y_MT_least, Cond.code y_MT_least prog_1_method_8_code 8 (some FieldType.int), Cond.methodLink "MachineTables" 97 y_MT_numberSets, Cond.instanceMethod y_MT_numberSets, Cond.code y_MT_numberSets prog_1_method_23_code 5 (Option.none : Option Jvm.ClassFile.FieldType), Cond.methodLink "MachineTables" 156 y_Se_begin, Cond.instanceMethod y_Se_begin, Cond.selects "MachineTables$Search" y_Se_begin y_Se_begin, Cond.code y_Se_begin prog_4_method_2_code 2 (Option.none : Option Jvm.ClassFile.FieldType), Cond.methodLink "MachineTables$Search" 21 y_Ar_fill, Cond.methodLink "MachineTables" 162 y_Se_reach, Cond.instanceMethod y_Se_reach, Cond.selects "MachineTables$Search" y_Se_reach y_Se_reach, Cond.code y_Se_reach prog_4_method_3_code 4 (Option.none : Option Jvm.ClassFile.FieldType), Cond.methodLink "MachineTables$Search" 31 y_Se_note, Cond.instanceMethod y_Se_note, Cond.selects "MachineTables$Search" y_Se_note y_Se_note, Cond.code y_Se_note prog_4_method_4_code 3 (some FieldType.int), Cond.methodLink "MachineTables" 105 y_Se_placeAt, Cond.instanceMethod y_Se_placeAt, Cond.selects "MachineTables$Search" y_Se_placeAt y_Se_placeAt, Cond.code y_Se_placeAt prog_4_method_5_code 2 (some FieldType.int), Cond.methodLink "MachineTables" 108 y_Se_numberOf, Cond.instanceMethod y_Se_numberOf, Cond.selects "MachineTables$Search" y_Se_numberOf y_Se_numberOf, Cond.code y_Se_numberOf prog_4_method_6_code 2 (some FieldType.int)]
def B7 : List Cond := [Cond.methodLink "MachineTablesLaw" 70 y_MT_part, Cond.instanceMethod y_MT_part, Cond.selects "MachineTables" y_MT_part y_MT_part, Cond.code y_MT_part prog_1_method_9_code 4 (some FieldType.int), Cond.methodLink "MachineTablesLaw" 74 y_MT_reset, Cond.instanceMethod y_MT_reset, Cond.selects "MachineTables" y_MT_reset y_MT_reset, Cond.code y_MT_reset prog_1_method_10_code 4 (some FieldType.int), Cond.methodLink "MachineTables" 111 y_MT_findSmall, Cond.instanceMethod y_MT_findSmall, Cond.code y_MT_findSmall prog_1_method_19_code 3 (some (FieldType.object "MachineTables$Machine")), Cond.methodLink "MachineTables" 114 y_MT_seekReset, Cond.instanceMethod y_MT_seekReset, Cond.code y_MT_seekReset prog_1_method_24_code 5 (some FieldType.int), Cond.methodLink "MachineTables" 169 y_In_bitCount, Cond.static y_In_bitCount, Cond.code y_In_bitCount prog_12_method_49_code 1 (some FieldType.int), Cond.constant "java/lang/Integer" 265 (1431655765 : Int32), Cond.constant "java/lang/Integer" 266 (858993459 : Int32), Cond.constant "java/lang/Integer" 267 (252645135 : Int32), Cond.methodLink "MachineTables" 174 y_Ma_reachedFrom, Cond.instanceMethod y_Ma_reachedFrom, Cond.selects "MachineTables$Machine" y_Ma_reachedFrom y_Ma_reachedFrom, Cond.code y_Ma_reachedFrom prog_3_method_8_code 5 (some FieldType.int), Cond.methodLink "MachineTables" 94 y_MT_tell, Cond.instanceMethod y_MT_tell, Cond.code y_MT_tell prog_1_method_21_code 2 (some FieldType.int), Cond.methodLink "MachineTables" 152 y_Se_wordTo, Cond.instanceMethod y_Se_wordTo, Cond.selects "MachineTables$Search" y_Se_wordTo y_Se_wordTo, Cond.code y_Se_wordTo prog_4_method_7_code 6 (some (FieldType.array FieldType.int)), Cond.methodLink "MachineTablesLaw" 89 y_MT_along, Cond.instanceMethod y_MT_along, Cond.selects "MachineTables" y_MT_along y_MT_along, Cond.code y_MT_along prog_1_method_14_code 6 (some FieldType.int), Cond.methodLink "MachineTablesLaw" 93 y_MT_clear, Cond.instanceMethod y_MT_clear, Cond.selects "MachineTables" y_MT_clear y_MT_clear, Cond.code y_MT_clear prog_1_method_15_code 1 (Option.none : Option Jvm.ClassFile.FieldType), Cond.methodLink "MachineTablesLaw" 97 y_MT_total]
def B8 : List Cond := [Cond.instanceMethod y_MT_total, Cond.selects "MachineTables" y_MT_total y_MT_total, Cond.code y_MT_total prog_1_method_16_code 4 (some FieldType.int), Cond.methodLink "MachineTablesLaw" 56 y_La_alike, Cond.static y_La_alike, Cond.codeWith y_La_alike method_3_code 7 (some FieldType.int) [(0, 21, 24, 13)], Cond.classLink "MachineTablesLaw" 13 "java/lang/IllegalArgumentException", Cond.methodLink "MachineTablesLaw" 7 y_MT_alike, Cond.instanceMethod y_MT_alike, Cond.selects "MachineTables" y_MT_alike y_MT_alike, Cond.code y_MT_alike prog_1_method_7_code 8 (some FieldType.boolean), Cond.classLink "MachineTables" 78 "java/lang/IllegalArgumentException", Cond.methodLink "MachineTables" 82 y_XI_init, Cond.methodLink "MachineTables" 90 y_MT_seekWitness, Cond.instanceMethod y_MT_seekWitness, Cond.code y_MT_seekWitness prog_1_method_22_code 9 (some FieldType.int), Cond.methodLink "MachineTables" 159 y_MT_pairOf, Cond.static y_MT_pairOf, Cond.code y_MT_pairOf prog_1_method_28_code 2 (some FieldType.int), Cond.methodLink "MachineTables" 132 y_MT_firstOf, Cond.static y_MT_firstOf, Cond.code y_MT_firstOf prog_1_method_29_code 1 (some FieldType.int), Cond.methodLink "MachineTables" 139 y_MT_secondOf, Cond.static y_MT_secondOf, Cond.code y_MT_secondOf prog_1_method_30_code 1 (some FieldType.int), Cond.methodLink "MachineTables" 166 y_Se_note, Cond.methodLink "MachineTablesLaw" 78 y_La_home, Cond.static y_La_home, Cond.codeWith y_La_home method_4_code 4 (some FieldType.int) [(0, 9, 12, 19)], Cond.classLink "MachineTablesLaw" 19 "java/lang/ArithmeticException", Cond.methodLink "MachineTablesLaw" 15 y_MT_home, Cond.instanceMethod y_MT_home, Cond.selects "MachineTables" y_MT_home y_MT_home, Cond.code y_MT_home prog_1_method_11_code 4 (some FieldType.int), Cond.methodLink "MachineTables" 118 y_MT_seekHomed, Cond.instanceMethod y_MT_seekHomed, Cond.code y_MT_seekHomed prog_1_method_25_code 5 (some FieldType.int), Cond.methodLink "MachineTables" 177 y_Fa_begin, Cond.instanceMethod y_Fa_begin, Cond.selects "MachineTables$Families" y_Fa_begin y_Fa_begin]
def B9 : List Cond := [Cond.code y_Fa_begin prog_2_method_2_code 4 (Option.none : Option Jvm.ClassFile.FieldType), Cond.methodLink "MachineTables$Families" 30 y_Ma_leastLike, Cond.methodLink "MachineTables$Families" 34 y_Fa_put, Cond.instanceMethod y_Fa_put, Cond.code y_Fa_put prog_2_method_6_code 4 (Option.none : Option Jvm.ClassFile.FieldType), Cond.methodLink "MachineTables$Families" 55 y_Fa_liesInOne, Cond.instanceMethod y_Fa_liesInOne, Cond.code y_Fa_liesInOne prog_2_method_7_code 3 (some FieldType.boolean), Cond.methodLink "MachineTables$Families" 59 y_Fa_leaveOutThoseIn, Cond.instanceMethod y_Fa_leaveOutThoseIn, Cond.code y_Fa_leaveOutThoseIn prog_2_method_8_code 6 (Option.none : Option Jvm.ClassFile.FieldType), Cond.methodLink "MachineTables" 179 y_Fa_openOneIsSingles, Cond.instanceMethod y_Fa_openOneIsSingles, Cond.selects "MachineTables$Families" y_Fa_openOneIsSingles y_Fa_openOneIsSingles, Cond.code y_Fa_openOneIsSingles prog_2_method_9_code 2 (some FieldType.boolean), Cond.methodLink "MachineTables$Families" 62 y_In_bitCount, Cond.methodLink "MachineTables" 182 y_Fa_keepOpenOne, Cond.instanceMethod y_Fa_keepOpenOne, Cond.selects "MachineTables$Families" y_Fa_keepOpenOne y_Fa_keepOpenOne, Cond.code y_Fa_keepOpenOne prog_2_method_3_code 1 (Option.none : Option Jvm.ClassFile.FieldType), Cond.methodLink "MachineTables" 186 y_Fa_follow, Cond.instanceMethod y_Fa_follow, Cond.selects "MachineTables$Families" y_Fa_follow y_Fa_follow, Cond.code y_Fa_follow prog_2_method_4_code 5 (Option.none : Option Jvm.ClassFile.FieldType), Cond.methodLink "MachineTables$Families" 38 y_Fa_putParted, Cond.instanceMethod y_Fa_putParted, Cond.code y_Fa_putParted prog_2_method_5_code 5 (Option.none : Option Jvm.ClassFile.FieldType), Cond.methodLink "MachineTables$Families" 42 y_Ar_fill2, Cond.static y_Ar_fill2, Cond.code y_Ar_fill2 prog_21_method_103_code 4 (Option.none : Option Jvm.ClassFile.FieldType), Cond.methodLink "MachineTables$Families" 48 y_Ma_outputOf, Cond.methodLink "MachineTables$Families" 52 y_Ma_nextOf, Cond.methodLink "MachineTables" 190 y_Fa_openOneIsKnown, Cond.instanceMethod y_Fa_openOneIsKnown, Cond.selects "MachineTables$Families" y_Fa_openOneIsKnown y_Fa_openOneIsKnown, Cond.code y_Fa_openOneIsKnown prog_2_method_10_code 2 (some FieldType.boolean), Cond.methodLink "MachineTables$Families" 67 y_Fa_openOneIs, Cond.instanceMethod y_Fa_openOneIs, Cond.code y_Fa_openOneIs prog_2_method_11_code 3 (some FieldType.boolean), Cond.classLink "MachineTables" 121 "java/lang/ArithmeticException"]
def B10 : List Cond := [Cond.instantiable "java/lang/ArithmeticException" 6, Cond.selects "java/lang/ArithmeticException" y_XT_fillInStackTrace y_XT_fillInStackTrace, Cond.lays "java/lang/ArithmeticException" "java/lang/Throwable" "cause" "Ljava/lang/Throwable;", Cond.lays "java/lang/ArithmeticException" "java/lang/Throwable" "stackTrace" "[Ljava/lang/StackTraceElement;", Cond.lays "java/lang/ArithmeticException" "java/lang/Throwable" "suppressedExceptions" "Ljava/util/List;", Cond.lays "java/lang/ArithmeticException" "java/lang/Throwable" "detailMessage" "Ljava/lang/String;", Cond.lays "java/lang/ArithmeticException" "java/lang/Throwable" "backtrace" "Ljava/lang/Object;", Cond.methodLink "MachineTables" 125 y_XA_init, Cond.instanceMethod y_XA_init, Cond.code y_XA_init prog_8_method_2_code 2 (Option.none : Option Jvm.ClassFile.FieldType), Cond.methodLink "java/lang/ArithmeticException" 7 y_XR_init, Cond.lays "java/lang/ArithmeticException" "java/lang/Throwable" "depth" "I", Cond.superclass "java/lang/ArithmeticException" "java/lang/RuntimeException", Cond.methodLink "MachineTablesLaw" 82 y_La_chain, Cond.static y_La_chain, Cond.codeWith y_La_chain method_5_code 5 (some FieldType.int) [(0, 10, 13, 19)], Cond.methodLink "MachineTablesLaw" 21 y_MT_chain, Cond.instanceMethod y_MT_chain, Cond.selects "MachineTables" y_MT_chain y_MT_chain, Cond.code y_MT_chain prog_1_method_12_code 11 (some FieldType.int), Cond.methodLink "MachineTables" 126 y_MT_numberPairs, Cond.instanceMethod y_MT_numberPairs, Cond.code y_MT_numberPairs prog_1_method_26_code 6 (some FieldType.boolean), Cond.methodLink "MachineTables" 135 y_MT_pairBehind, Cond.static y_MT_pairBehind, Cond.code y_MT_pairBehind prog_1_method_27_code 5 (some FieldType.int), Cond.methodLink "MachineTablesLaw" 86 y_La_letter, Cond.static y_La_letter, Cond.codeWith y_La_letter method_6_code 4 (some FieldType.int) [(0, 9, 12, 28)], Cond.classLink "MachineTablesLaw" 28 "java/util/NoSuchElementException", Cond.methodLink "MachineTablesLaw" 25 y_MT_letter, Cond.instanceMethod y_MT_letter, Cond.selects "MachineTables" y_MT_letter y_MT_letter, Cond.code y_MT_letter prog_1_method_13_code 2 (some FieldType.int), Cond.classLink "MachineTables" 142 "java/util/NoSuchElementException", Cond.instantiable "java/util/NoSuchElementException" 6, Cond.selects "java/util/NoSuchElementException" y_XT_fillInStackTrace y_XT_fillInStackTrace, Cond.lays "java/util/NoSuchElementException" "java/lang/Throwable" "cause" "Ljava/lang/Throwable;", Cond.lays "java/util/NoSuchElementException" "java/lang/Throwable" "stackTrace" "[Ljava/lang/StackTraceElement;", Cond.lays "java/util/NoSuchElementException" "java/lang/Throwable" "suppressedExceptions" "Ljava/util/List;"]
def B11 : List Cond := [Cond.lays "java/util/NoSuchElementException" "java/lang/Throwable" "detailMessage" "Ljava/lang/String;", Cond.lays "java/util/NoSuchElementException" "java/lang/Throwable" "backtrace" "Ljava/lang/Object;", Cond.methodLink "MachineTables" 146 y_XN_init, Cond.instanceMethod y_XN_init, Cond.code y_XN_init prog_22_method_4_code 2 (Option.none : Option Jvm.ClassFile.FieldType), Cond.methodLink "java/util/NoSuchElementException" 13 y_XR_init, Cond.lays "java/util/NoSuchElementException" "java/lang/Throwable" "depth" "I", Cond.superclass "java/util/NoSuchElementException" "java/lang/RuntimeException", Cond.classLink "MachineTablesLaw" 31 "MachineTablesModel", Cond.instantiable "MachineTablesModel" 19, Cond.methodLink "MachineTablesLaw" 33 y_Mo_init, Cond.instanceMethod y_Mo_init, Cond.code y_Mo_init prog_6_method_1_code 1 (Option.none : Option Jvm.ClassFile.FieldType), Cond.methodLink "MachineTablesModel" 1 objectInit, Cond.fieldLink "MachineTablesModel" 53 "MachineTablesModel" "thrown" "I", Cond.fieldLink "MachineTablesModel" 57 "MachineTablesModel" "machines" "I", Cond.fieldLink "MachineTablesModel" 7 "MachineTablesModel" "states" "[I", Cond.fieldLink "MachineTablesModel" 13 "MachineTablesModel" "inputs" "[I", Cond.fieldLink "MachineTablesModel" 16 "MachineTablesModel" "next" "[I", Cond.fieldLink "MachineTablesModel" 19 "MachineTablesModel" "output" "[I", Cond.fieldLink "MachineTablesModel" 94 "MachineTablesModel" "length" "I", Cond.fieldLink "MachineTablesModel" 22 "MachineTablesModel" "word" "[I", Cond.fieldLink "MachineTablesModel" 25 "MachineTablesModel" "apart" "[Z", Cond.fieldLink "MachineTablesModel" 87 "MachineTablesModel" "found" "I", Cond.fieldLink "MachineTablesModel" 29 "MachineTablesModel" "seen" "[I", Cond.fieldLink "MachineTablesModel" 32 "MachineTablesModel" "from" "[I", Cond.fieldLink "MachineTablesModel" 35 "MachineTablesModel" "by" "[I", Cond.fieldLink "MachineTablesModel" 38 "MachineTablesModel" "isSeen" "[Z", Cond.fieldLink "MachineTablesModel" 126 "MachineTablesModel" "tries" "I", Cond.fieldLink "MachineTablesModel" 41 "MachineTablesModel" "many" "[I", Cond.fieldLink "MachineTablesModel" 44 "MachineTablesModel" "sets" "[I", Cond.fieldLink "MachineTablesModel" 47 "MachineTablesModel" "triedFrom" "[I", Cond.fieldLink "MachineTablesModel" 50 "MachineTablesModel" "triedBy" "[I", Cond.lays "MachineTablesModel" "MachineTablesModel" "thrown" "I", Cond.soleField "MachineTablesModel" "thrown", Cond.lays "MachineTablesModel" "MachineTablesModel" "machines" "I", Cond.soleField "MachineTablesModel" "machines", Cond.laysFinal "MachineTablesModel" "MachineTablesModel" "states" "[I", Cond.soleField "MachineTablesModel" "states", Cond.laysFinal "MachineTablesModel" "MachineTablesModel" "inputs" "[I"]
def B12 : List Cond := [Cond.soleField "MachineTablesModel" "inputs", Cond.laysFinal "MachineTablesModel" "MachineTablesModel" "next" "[I", Cond.soleField "MachineTablesModel" "next", Cond.laysFinal "MachineTablesModel" "MachineTablesModel" "output" "[I", Cond.soleField "MachineTablesModel" "output", Cond.lays "MachineTablesModel" "MachineTablesModel" "length" "I", Cond.soleField "MachineTablesModel" "length", Cond.laysFinal "MachineTablesModel" "MachineTablesModel" "word" "[I", Cond.soleField "MachineTablesModel" "word", Cond.laysFinal "MachineTablesModel" "MachineTablesModel" "apart" "[Z", Cond.soleField "MachineTablesModel" "apart", Cond.lays "MachineTablesModel" "MachineTablesModel" "found" "I", Cond.soleField "MachineTablesModel" "found", Cond.laysFinal "MachineTablesModel" "MachineTablesModel" "seen" "[I", Cond.soleField "MachineTablesModel" "seen", Cond.laysFinal "MachineTablesModel" "MachineTablesModel" "from" "[I", Cond.soleField "MachineTablesModel" "from", Cond.laysFinal "MachineTablesModel" "MachineTablesModel" "by" "[I", Cond.soleField "MachineTablesModel" "by", Cond.laysFinal "MachineTablesModel" "MachineTablesModel" "isSeen" "[Z", Cond.soleField "MachineTablesModel" "isSeen", Cond.lays "MachineTablesModel" "MachineTablesModel" "tries" "I", Cond.soleField "MachineTablesModel" "tries", Cond.laysFinal "MachineTablesModel" "MachineTablesModel" "many" "[I", Cond.soleField "MachineTablesModel" "many", Cond.laysFinal "MachineTablesModel" "MachineTablesModel" "sets" "[I", Cond.soleField "MachineTablesModel" "sets", Cond.laysFinal "MachineTablesModel" "MachineTablesModel" "triedFrom" "[I", Cond.soleField "MachineTablesModel" "triedFrom", Cond.laysFinal "MachineTablesModel" "MachineTablesModel" "triedBy" "[I", Cond.soleField "MachineTablesModel" "triedBy", Cond.superclass "MachineTablesModel" "java/lang/Object", Cond.arrayClass FieldType.boolean, Cond.methodLink "MachineTablesLaw" 62 y_Mo_thrown, Cond.instanceMethod y_Mo_thrown, Cond.selects "MachineTablesModel" y_Mo_thrown y_Mo_thrown, Cond.code y_Mo_thrown prog_6_method_2_code 1 (some FieldType.int), Cond.methodLink "MachineTablesLaw" 37 y_Mo_machine, Cond.instanceMethod y_Mo_machine, Cond.selects "MachineTablesModel" y_Mo_machine y_Mo_machine]
def B13 : List Cond := [Cond.code y_Mo_machine prog_6_method_8_code 3 (some FieldType.int), Cond.methodLink "MachineTablesModel" 60 y_Mo_in, Cond.static y_Mo_in, Cond.code y_Mo_in prog_6_method_4_code 3 (some FieldType.boolean), Cond.methodLink "MachineTablesModel" 68 y_Mo_newMachine, Cond.instanceMethod y_Mo_newMachine, Cond.code y_Mo_newMachine prog_6_method_7_code 5 (some FieldType.int), Cond.methodLink "MachineTablesLaw" 42 y_Mo_arrow, Cond.instanceMethod y_Mo_arrow, Cond.selects "MachineTablesModel" y_Mo_arrow y_Mo_arrow, Cond.code y_Mo_arrow prog_6_method_9_code 6 (some FieldType.boolean), Cond.methodLink "MachineTablesModel" 72 y_Mo_isState, Cond.instanceMethod y_Mo_isState, Cond.code y_Mo_isState prog_6_method_6_code 3 (some FieldType.boolean), Cond.methodLink "MachineTablesModel" 64 y_Mo_isMachine, Cond.instanceMethod y_Mo_isMachine, Cond.code y_Mo_isMachine prog_6_method_5_code 2 (some FieldType.boolean), Cond.methodLink "MachineTablesLaw" 47 y_Mo_look, Cond.instanceMethod y_Mo_look, Cond.selects "MachineTablesModel" y_Mo_look y_Mo_look, Cond.code y_Mo_look prog_6_method_10_code 5 (some FieldType.int), Cond.methodLink "MachineTablesLaw" 51 y_Mo_classes, Cond.instanceMethod y_Mo_classes, Cond.selects "MachineTablesModel" y_Mo_classes y_Mo_classes, Cond.code y_Mo_classes prog_6_method_14_code 4 (some FieldType.int), Cond.methodLink "MachineTablesModel" 79 y_Mo_mark, Cond.instanceMethod y_Mo_mark, Cond.code y_Mo_mark prog_6_method_12_code 5 (Option.none : Option Jvm.ClassFile.FieldType), Cond.methodLink "MachineTablesModel" 76 y_Mo_isApart, Cond.instanceMethod y_Mo_isApart, Cond.code y_Mo_isApart prog_6_method_11_code 7 (some FieldType.boolean), Cond.methodLink "MachineTablesModel" 83 y_Mo_firstLike, Cond.instanceMethod y_Mo_firstLike, Cond.code y_Mo_firstLike prog_6_method_13_code 3 (some FieldType.int), Cond.methodLink "MachineTablesLaw" 55 y_Mo_like, Cond.instanceMethod y_Mo_like, Cond.selects "MachineTablesModel" y_Mo_like y_Mo_like, Cond.code y_Mo_like prog_6_method_15_code 3 (some FieldType.int), Cond.methodLink "MachineTablesLaw" 61 y_Mo_alike, Cond.instanceMethod y_Mo_alike]
def B14 : List Cond := [Cond.selects "MachineTablesModel" y_Mo_alike y_Mo_alike, Cond.code y_Mo_alike prog_6_method_19_code 9 (some FieldType.boolean), Cond.methodLink "MachineTablesModel" 97 y_Mo_begin, Cond.instanceMethod y_Mo_begin, Cond.code y_Mo_begin prog_6_method_16_code 3 (Option.none : Option Jvm.ClassFile.FieldType), Cond.methodLink "MachineTablesModel" 90 y_Mo_come, Cond.instanceMethod y_Mo_come, Cond.code y_Mo_come prog_6_method_17_code 4 (Option.none : Option Jvm.ClassFile.FieldType), Cond.methodLink "MachineTablesModel" 100 y_Mo_tell, Cond.instanceMethod y_Mo_tell, Cond.code y_Mo_tell prog_6_method_18_code 5 (Option.none : Option Jvm.ClassFile.FieldType), Cond.methodLink "MachineTablesLaw" 69 y_Mo_least, Cond.instanceMethod y_Mo_least, Cond.selects "MachineTablesModel" y_Mo_least y_Mo_least, Cond.code y_Mo_least prog_6_method_22_code 5 (some FieldType.int), Cond.methodLink "MachineTablesModel" 104 y_Mo_findParts, Cond.instanceMethod y_Mo_findParts, Cond.code y_Mo_findParts prog_6_method_20_code 4 (Option.none : Option Jvm.ClassFile.FieldType), Cond.methodLink "MachineTablesModel" 107 y_Mo_partOf, Cond.instanceMethod y_Mo_partOf, Cond.code y_Mo_partOf prog_6_method_21_code 4 (some FieldType.int), Cond.methodLink "MachineTablesLaw" 73 y_Mo_part, Cond.instanceMethod y_Mo_part, Cond.selects "MachineTablesModel" y_Mo_part y_Mo_part, Cond.code y_Mo_part prog_6_method_23_code 3 (some FieldType.int), Cond.methodLink "MachineTablesLaw" 77 y_Mo_reset, Cond.instanceMethod y_Mo_reset, Cond.selects "MachineTablesModel" y_Mo_reset y_Mo_reset, Cond.code y_Mo_reset prog_6_method_26_code 4 (some FieldType.int), Cond.methodLink "MachineTablesModel" 110 y_Mo_ones, Cond.static y_Mo_ones, Cond.code y_Mo_ones prog_6_method_24_code 3 (some FieldType.int), Cond.methodLink "MachineTablesModel" 113 y_Mo_moved, Cond.instanceMethod y_Mo_moved, Cond.code y_Mo_moved prog_6_method_25_code 6 (some FieldType.int), Cond.methodLink "MachineTablesLaw" 81 y_Mo_home, Cond.instanceMethod y_Mo_home, Cond.selects "MachineTablesModel" y_Mo_home y_Mo_home, Cond.code y_Mo_home prog_6_method_32_code 5 (some FieldType.int), Cond.methodLink "MachineTablesModel" 117 y_Mo_put]
def B15 : List Cond := [Cond.instanceMethod y_Mo_put, Cond.code y_Mo_put prog_6_method_27_code 6 (Option.none : Option Jvm.ClassFile.FieldType), Cond.methodLink "MachineTablesModel" 120 y_Mo_isHome, Cond.instanceMethod y_Mo_isHome, Cond.code y_Mo_isHome prog_6_method_29_code 3 (some FieldType.boolean), Cond.methodLink "MachineTablesModel" 123 y_Mo_told, Cond.instanceMethod y_Mo_told, Cond.code y_Mo_told prog_6_method_31_code 4 (some FieldType.int), Cond.methodLink "MachineTablesModel" 129 y_Mo_lead, Cond.instanceMethod y_Mo_lead, Cond.code y_Mo_lead prog_6_method_28_code 10 (Option.none : Option Jvm.ClassFile.FieldType), Cond.methodLink "MachineTablesModel" 133 y_Mo_isTried, Cond.instanceMethod y_Mo_isTried, Cond.code y_Mo_isTried prog_6_method_30_code 5 (some FieldType.boolean), Cond.methodLink "MachineTablesModel" 136 y_Mo_raise, Cond.instanceMethod y_Mo_raise, Cond.code y_Mo_raise prog_6_method_3_code 1 (some FieldType.int), Cond.methodLink "MachineTablesLaw" 85 y_Mo_chain, Cond.instanceMethod y_Mo_chain, Cond.selects "MachineTablesModel" y_Mo_chain y_Mo_chain, Cond.code y_Mo_chain prog_6_method_35_code 8 (some FieldType.int), Cond.methodLink "MachineTablesModel" 140 y_Mo_chains, Cond.instanceMethod y_Mo_chains, Cond.code y_Mo_chains prog_6_method_33_code 6 (some FieldType.boolean), Cond.methodLink "MachineTablesModel" 143 y_Mo_placeOf, Cond.instanceMethod y_Mo_placeOf, Cond.code y_Mo_placeOf prog_6_method_34_code 3 (some FieldType.int), Cond.methodLink "MachineTablesLaw" 88 y_Mo_letter, Cond.instanceMethod y_Mo_letter, Cond.selects "MachineTablesModel" y_Mo_letter y_Mo_letter, Cond.code y_Mo_letter prog_6_method_36_code 2 (some FieldType.int), Cond.methodLink "MachineTablesLaw" 92 y_Mo_along, Cond.instanceMethod y_Mo_along, Cond.selects "MachineTablesModel" y_Mo_along y_Mo_along, Cond.code y_Mo_along prog_6_method_37_code 5 (some FieldType.int), Cond.methodLink "MachineTablesLaw" 96 y_Mo_clear, Cond.instanceMethod y_Mo_clear, Cond.selects "MachineTablesModel" y_Mo_clear y_Mo_clear, Cond.code y_Mo_clear prog_6_method_38_code 1 (Option.none : Option Jvm.ClassFile.FieldType), Cond.methodLink "MachineTablesLaw" 100 y_Mo_total]
def B16 : List Cond := [Cond.instanceMethod y_Mo_total, Cond.selects "MachineTablesModel" y_Mo_total y_Mo_total, Cond.code y_Mo_total prog_6_method_39_code 2 (some FieldType.int), Cond.arrayClass FieldType.long, Cond.sameMethod "java/lang/Throwable" "java/lang/Throwable" "fillInStackTrace" "(I)Ljava/lang/Throwable;", Cond.selects "MachineTables" y_MT_isFull y_MT_isFull, Cond.selects "MachineTables" y_MT_add y_MT_add, Cond.selects "MachineTables" y_MT_find y_MT_find, Cond.selects "java/lang/Throwable" y_XT_fillInStackTrace y_XT_fillInStackTrace, Cond.selects "MachineTables$Machine" y_Ma_splitSets y_Ma_splitSets, Cond.selects "MachineTables$Machine" y_Ma_leastThatAgrees y_Ma_leastThatAgrees, Cond.selects "MachineTables$Machine" y_Ma_isAgreed y_Ma_isAgreed, Cond.selects "MachineTables" y_MT_numberSets y_MT_numberSets, Cond.selects "MachineTables" y_MT_findSmall y_MT_findSmall, Cond.selects "MachineTables" y_MT_seekReset y_MT_seekReset, Cond.selects "MachineTables" y_MT_tell y_MT_tell, Cond.selects "MachineTables" y_MT_seekWitness y_MT_seekWitness, Cond.selects "MachineTables" y_MT_seekHomed y_MT_seekHomed, Cond.selects "MachineTables$Families" y_Fa_put y_Fa_put, Cond.selects "MachineTables$Families" y_Fa_liesInOne y_Fa_liesInOne, Cond.selects "MachineTables$Families" y_Fa_leaveOutThoseIn y_Fa_leaveOutThoseIn, Cond.selects "MachineTables$Families" y_Fa_putParted y_Fa_putParted, Cond.selects "MachineTables$Families" y_Fa_openOneIs y_Fa_openOneIs, Cond.selects "MachineTables" y_MT_numberPairs y_MT_numberPairs, Cond.selects "MachineTablesModel" y_Mo_newMachine y_Mo_newMachine, Cond.selects "MachineTablesModel" y_Mo_isState y_Mo_isState, Cond.selects "MachineTablesModel" y_Mo_isMachine y_Mo_isMachine, Cond.selects "MachineTablesModel" y_Mo_mark y_Mo_mark, Cond.selects "MachineTablesModel" y_Mo_isApart y_Mo_isApart, Cond.selects "MachineTablesModel" y_Mo_firstLike y_Mo_firstLike, Cond.selects "MachineTablesModel" y_Mo_begin y_Mo_begin, Cond.selects "MachineTablesModel" y_Mo_come y_Mo_come, Cond.selects "MachineTablesModel" y_Mo_tell y_Mo_tell, Cond.selects "MachineTablesModel" y_Mo_findParts y_Mo_findParts, Cond.selects "MachineTablesModel" y_Mo_partOf y_Mo_partOf, Cond.selects "MachineTablesModel" y_Mo_moved y_Mo_moved, Cond.selects "MachineTablesModel" y_Mo_put y_Mo_put, Cond.selects "MachineTablesModel" y_Mo_isHome y_Mo_isHome, Cond.selects "MachineTablesModel" y_Mo_told y_Mo_told, Cond.selects "MachineTablesModel" y_Mo_lead y_Mo_lead]
def B17 : List Cond := [Cond.selects "MachineTablesModel" y_Mo_isTried y_Mo_isTried, Cond.selects "MachineTablesModel" y_Mo_raise y_Mo_raise, Cond.selects "MachineTablesModel" y_Mo_chains y_Mo_chains, Cond.selects "MachineTablesModel" y_Mo_placeOf y_Mo_placeOf]
def BIG : List Cond := B0 ++ (B1 ++ (B2 ++ (B3 ++ (B4 ++ (B5 ++ (B6 ++ (B7 ++ (B8 ++ (B9 ++ (B10 ++ (B11 ++ (B12 ++ (B13 ++ (B14 ++ (B15 ++ (B16 ++ (B17)))))))))))))))))
theorem inB0 : ∀ w ∈ B0, w ∈ BIG := fun _ h => (List.mem_append_left _ h)
theorem okB0 : B0.all goodWord = true := by decide +kernel
theorem inB1 : ∀ w ∈ B1, w ∈ BIG := fun _ h => (List.mem_append_right _ (List.mem_append_left _ h))
theorem okB1 : B1.all goodWord = true := by decide +kernel
theorem inB2 : ∀ w ∈ B2, w ∈ BIG := fun _ h => (List.mem_append_right _ (List.mem_append_right _ (List.mem_append_left _ h)))
theorem okB2 : B2.all goodWord = true := by decide +kernel
theorem inB3 : ∀ w ∈ B3, w ∈ BIG := fun _ h => (List.mem_append_right _ (List.mem_append_right _ (List.mem_append_right _ (List.mem_append_left _ h))))
theorem okB3 : B3.all goodWord = true := by decide +kernel
theorem inB4 : ∀ w ∈ B4, w ∈ BIG := fun _ h => (List.mem_append_right _ (List.mem_append_right _ (List.mem_append_right _ (List.mem_append_right _ (List.mem_append_left _ h)))))
theorem okB4 : B4.all goodWord = true := by decide +kernel
theorem inB5 : ∀ w ∈ B5, w ∈ BIG := fun _ h => (List.mem_append_right _ (List.mem_append_right _ (List.mem_append_right _ (List.mem_append_right _ (List.mem_append_right _ (List.mem_append_left _ h))))))
theorem okB5 : B5.all goodWord = true := by decide +kernel
theorem inB6 : ∀ w ∈ B6, w ∈ BIG := fun _ h => (List.mem_append_right _ (List.mem_append_right _ (List.mem_append_right _ (List.mem_append_right _ (List.mem_append_right _ (List.mem_append_right _ (List.mem_append_left _ h)))))))
theorem okB6 : B6.all goodWord = true := by decide +kernel
theorem inB7 : ∀ w ∈ B7, w ∈ BIG := fun _ h => (List.mem_append_right _ (List.mem_append_right _ (List.mem_append_right _ (List.mem_append_right _ (List.mem_append_right _ (List.mem_append_right _ (List.mem_append_right _ (List.mem_append_left _ h))))))))
theorem okB7 : B7.all goodWord = true := by decide +kernel
theorem inB8 : ∀ w ∈ B8, w ∈ BIG := fun _ h => (List.mem_append_right _ (List.mem_append_right _ (List.mem_append_right _ (List.mem_append_right _ (List.mem_append_right _ (List.mem_append_right _ (List.mem_append_right _ (List.mem_append_right _ (List.mem_append_left _ h)))))))))
theorem okB8 : B8.all goodWord = true := by decide +kernel
theorem inB9 : ∀ w ∈ B9, w ∈ BIG := fun _ h => (List.mem_append_right _ (List.mem_append_right _ (List.mem_append_right _ (List.mem_append_right _ (List.mem_append_right _ (List.mem_append_right _ (List.mem_append_right _ (List.mem_append_right _ (List.mem_append_right _ (List.mem_append_left _ h))))))))))
theorem okB9 : B9.all goodWord = true := by decide +kernel
theorem inB10 : ∀ w ∈ B10, w ∈ BIG := fun _ h => (List.mem_append_right _ (List.mem_append_right _ (List.mem_append_right _ (List.mem_append_right _ (List.mem_append_right _ (List.mem_append_right _ (List.mem_append_right _ (List.mem_append_right _ (List.mem_append_right _ (List.mem_append_right _ (List.mem_append_left _ h)))))))))))
theorem okB10 : B10.all goodWord = true := by decide +kernel
theorem inB11 : ∀ w ∈ B11, w ∈ BIG := fun _ h => (List.mem_append_right _ (List.mem_append_right _ (List.mem_append_right _ (List.mem_append_right _ (List.mem_append_right _ (List.mem_append_right _ (List.mem_append_right _ (List.mem_append_right _ (List.mem_append_right _ (List.mem_append_right _ (List.mem_append_right _ (List.mem_append_left _ h))))))))))))
theorem okB11 : B11.all goodWord = true := by decide +kernel
theorem inB12 : ∀ w ∈ B12, w ∈ BIG := fun _ h => (List.mem_append_right _ (List.mem_append_right _ (List.mem_append_right _ (List.mem_append_right _ (List.mem_append_right _ (List.mem_append_right _ (List.mem_append_right _ (List.mem_append_right _ (List.mem_append_right _ (List.mem_append_right _ (List.mem_append_right _ (List.mem_append_right _ (List.mem_append_left _ h)))))))))))))
theorem okB12 : B12.all goodWord = true := by decide +kernel
theorem inB13 : ∀ w ∈ B13, w ∈ BIG := fun _ h => (List.mem_append_right _ (List.mem_append_right _ (List.mem_append_right _ (List.mem_append_right _ (List.mem_append_right _ (List.mem_append_right _ (List.mem_append_right _ (List.mem_append_right _ (List.mem_append_right _ (List.mem_append_right _ (List.mem_append_right _ (List.mem_append_right _ (List.mem_append_right _ (List.mem_append_left _ h))))))))))))))
theorem okB13 : B13.all goodWord = true := by decide +kernel
theorem inB14 : ∀ w ∈ B14, w ∈ BIG := fun _ h => (List.mem_append_right _ (List.mem_append_right _ (List.mem_append_right _ (List.mem_append_right _ (List.mem_append_right _ (List.mem_append_right _ (List.mem_append_right _ (List.mem_append_right _ (List.mem_append_right _ (List.mem_append_right _ (List.mem_append_right _ (List.mem_append_right _ (List.mem_append_right _ (List.mem_append_right _ (List.mem_append_left _ h)))))))))))))))
theorem okB14 : B14.all goodWord = true := by decide +kernel
theorem inB15 : ∀ w ∈ B15, w ∈ BIG := fun _ h => (List.mem_append_right _ (List.mem_append_right _ (List.mem_append_right _ (List.mem_append_right _ (List.mem_append_right _ (List.mem_append_right _ (List.mem_append_right _ (List.mem_append_right _ (List.mem_append_right _ (List.mem_append_right _ (List.mem_append_right _ (List.mem_append_right _ (List.mem_append_right _ (List.mem_append_right _ (List.mem_append_right _ (List.mem_append_left _ h))))))))))))))))
theorem okB15 : B15.all goodWord = true := by decide +kernel
theorem inB16 : ∀ w ∈ B16, w ∈ BIG := fun _ h => (List.mem_append_right _ (List.mem_append_right _ (List.mem_append_right _ (List.mem_append_right _ (List.mem_append_right _ (List.mem_append_right _ (List.mem_append_right _ (List.mem_append_right _ (List.mem_append_right _ (List.mem_append_right _ (List.mem_append_right _ (List.mem_append_right _ (List.mem_append_right _ (List.mem_append_right _ (List.mem_append_right _ (List.mem_append_right _ (List.mem_append_left _ h)))))))))))))))))
theorem okB16 : B16.all goodWord = true := by decide +kernel
theorem inB17 : ∀ w ∈ B17, w ∈ BIG := fun _ h => (List.mem_append_right _ (List.mem_append_right _ (List.mem_append_right _ (List.mem_append_right _ (List.mem_append_right _ (List.mem_append_right _ (List.mem_append_right _ (List.mem_append_right _ (List.mem_append_right _ (List.mem_append_right _ (List.mem_append_right _ (List.mem_append_right _ (List.mem_append_right _ (List.mem_append_right _ (List.mem_append_right _ (List.mem_append_right _ (List.mem_append_right _ h)))))))))))))))))
theorem okB17 : B17.all goodWord = true := by decide +kernel
theorem BIG_all : BIG.all goodWord = true := by
  simp only [BIG, List.all_append, okB0, okB1, okB2, okB3, okB4, okB5, okB6, okB7, okB8, okB9, okB10, okB11, okB12, okB13, okB14, okB15, okB16, okB17, Bool.and_self]
theorem BIG_ok : ∀ w ∈ BIG, w ∈ BIG ∧ ((w.onTables && w.keeps) = true ∨ ∃ ty, w = .arrayClass ty) := fun w h => ⟨h, good_of_word (List.all_eq_true.mp BIG_all w h)⟩
theorem kz_La : Cond.initialized "MachineTablesLaw" ∈ BIG := inB0 _ (List.mem_of_getElem? (i := 0) rfl)
theorem kz_MT : Cond.initialized "MachineTables" ∈ BIG := inB0 _ (List.mem_of_getElem? (i := 1) rfl)
theorem kz_Se : Cond.initialized "MachineTables$Search" ∈ BIG := inB0 _ (List.mem_of_getElem? (i := 2) rfl)
theorem kz_Fa : Cond.initialized "MachineTables$Families" ∈ BIG := inB0 _ (List.mem_of_getElem? (i := 3) rfl)
theorem kz_Mo : Cond.initialized "MachineTablesModel" ∈ BIG := inB0 _ (List.mem_of_getElem? (i := 4) rfl)
theorem kz_Ma : Cond.initialized "MachineTables$Machine" ∈ BIG := inB0 _ (List.mem_of_getElem? (i := 5) rfl)
theorem kz_Ar : Cond.initialized "java/util/Arrays" ∈ BIG := inB0 _ (List.mem_of_getElem? (i := 6) rfl)
theorem kz_XT : Cond.initialized "java/lang/Throwable" ∈ BIG := inB0 _ (List.mem_of_getElem? (i := 7) rfl)
theorem kz_XE : Cond.initialized "java/lang/Exception" ∈ BIG := inB0 _ (List.mem_of_getElem? (i := 8) rfl)
theorem kz_XR : Cond.initialized "java/lang/RuntimeException" ∈ BIG := inB0 _ (List.mem_of_getElem? (i := 9) rfl)
theorem kz_XI : Cond.initialized "java/lang/IllegalArgumentException" ∈ BIG := inB0 _ (List.mem_of_getElem? (i := 10) rfl)
theorem kz_Sy : Cond.initialized "java/lang/System" ∈ BIG := inB0 _ (List.mem_of_getElem? (i := 11) rfl)
theorem kz_In : Cond.initialized "java/lang/Integer" ∈ BIG := inB0 _ (List.mem_of_getElem? (i := 12) rfl)
theorem kz_XA : Cond.initialized "java/lang/ArithmeticException" ∈ BIG := inB0 _ (List.mem_of_getElem? (i := 13) rfl)
theorem kz_XN : Cond.initialized "java/util/NoSuchElementException" ∈ BIG := inB0 _ (List.mem_of_getElem? (i := 14) rfl)
theorem k_La_8 : Cond.classLink "MachineTablesLaw" 8 "MachineTables" ∈ BIG := inB0 _ (List.mem_of_getElem? (i := 15) rfl)
theorem kt_MT : Cond.instantiable "MachineTables" 5 ∈ BIG := inB0 _ (List.mem_of_getElem? (i := 16) rfl)
theorem k_La_30 : Cond.methodLink "MachineTablesLaw" 30 y_MT_init ∈ BIG := inB0 _ (List.mem_of_getElem? (i := 17) rfl)
theorem ki_MT_init : Cond.instanceMethod y_MT_init ∈ BIG := inB0 _ (List.mem_of_getElem? (i := 18) rfl)
theorem kc_MT_init : Cond.code y_MT_init prog_1_method_1_code 1 (Option.none : Option Jvm.ClassFile.FieldType) ∈ BIG := inB0 _ (List.mem_of_getElem? (i := 19) rfl)
theorem k_MT_3 : Cond.methodLink "MachineTables" 3 objectInit ∈ BIG := inB0 _ (List.mem_of_getElem? (i := 20) rfl)
theorem ki_Ob_init : Cond.instanceMethod objectInit ∈ BIG := inB0 _ (List.mem_of_getElem? (i := 21) rfl)
theorem kc_Ob_init : Cond.code objectInit object_method_1_code 1 (Option.none : Option Jvm.ClassFile.FieldType) ∈ BIG := inB0 _ (List.mem_of_getElem? (i := 22) rfl)
theorem k_MT_9 : Cond.classLink "MachineTables" 9 "MachineTables$Machine" ∈ BIG := inB0 _ (List.mem_of_getElem? (i := 23) rfl)
theorem k_MT_15 : Cond.classLink "MachineTables" 15 "MachineTables$Search" ∈ BIG := inB0 _ (List.mem_of_getElem? (i := 24) rfl)
theorem kt_Se : Cond.instantiable "MachineTables$Search" 4 ∈ BIG := inB0 _ (List.mem_of_getElem? (i := 25) rfl)
theorem k_MT_17 : Cond.methodLink "MachineTables" 17 y_Se_init ∈ BIG := inB0 _ (List.mem_of_getElem? (i := 26) rfl)
theorem ki_Se_init : Cond.instanceMethod y_Se_init ∈ BIG := inB0 _ (List.mem_of_getElem? (i := 27) rfl)
theorem kc_Se_init : Cond.code y_Se_init prog_4_method_1_code 1 (Option.none : Option Jvm.ClassFile.FieldType) ∈ BIG := inB0 _ (List.mem_of_getElem? (i := 28) rfl)
theorem k_Se_3 : Cond.methodLink "MachineTables$Search" 3 objectInit ∈ BIG := inB0 _ (List.mem_of_getElem? (i := 29) rfl)
theorem k_Se_9 : Cond.fieldLink "MachineTables$Search" 9 "MachineTables$Search" "numbers" "[I" ∈ BIG := inB0 _ (List.mem_of_getElem? (i := 30) rfl)
theorem k_Se_15 : Cond.fieldLink "MachineTables$Search" 15 "MachineTables$Search" "places" "[I" ∈ BIG := inB0 _ (List.mem_of_getElem? (i := 31) rfl)
theorem k_Se_18 : Cond.fieldLink "MachineTables$Search" 18 "MachineTables$Search" "steps" "[I" ∈ BIG := inB0 _ (List.mem_of_getElem? (i := 32) rfl)
theorem k_Se_27 : Cond.fieldLink "MachineTables$Search" 27 "MachineTables$Search" "count" "I" ∈ BIG := inB0 _ (List.mem_of_getElem? (i := 33) rfl)
theorem ka_int : Cond.arrayClass FieldType.int ∈ BIG := inB1 _ (List.mem_of_getElem? (i := 3) rfl)
theorem k_MT_22 : Cond.classLink "MachineTables" 22 "MachineTables$Families" ∈ BIG := inB1 _ (List.mem_of_getElem? (i := 4) rfl)
theorem kt_Fa : Cond.instantiable "MachineTables$Families" 4 ∈ BIG := inB1 _ (List.mem_of_getElem? (i := 5) rfl)
theorem k_MT_24 : Cond.methodLink "MachineTables" 24 y_Fa_init ∈ BIG := inB1 _ (List.mem_of_getElem? (i := 6) rfl)
theorem ki_Fa_init : Cond.instanceMethod y_Fa_init ∈ BIG := inB1 _ (List.mem_of_getElem? (i := 7) rfl)
theorem kc_Fa_init : Cond.code y_Fa_init prog_2_method_1_code 1 (Option.none : Option Jvm.ClassFile.FieldType) ∈ BIG := inB1 _ (List.mem_of_getElem? (i := 8) rfl)
theorem k_Fa_3 : Cond.methodLink "MachineTables$Families" 3 objectInit ∈ BIG := inB1 _ (List.mem_of_getElem? (i := 9) rfl)
theorem k_Fa_9 : Cond.fieldLink "MachineTables$Families" 9 "MachineTables$Families" "sets" "[I" ∈ BIG := inB1 _ (List.mem_of_getElem? (i := 10) rfl)
theorem k_Fa_15 : Cond.fieldLink "MachineTables$Families" 15 "MachineTables$Families" "sizes" "[I" ∈ BIG := inB1 _ (List.mem_of_getElem? (i := 11) rfl)
theorem k_Fa_18 : Cond.fieldLink "MachineTables$Families" 18 "MachineTables$Families" "byOutput" "[I" ∈ BIG := inB1 _ (List.mem_of_getElem? (i := 12) rfl)
theorem k_Fa_21 : Cond.fieldLink "MachineTables$Families" 21 "MachineTables$Families" "count" "I" ∈ BIG := inB1 _ (List.mem_of_getElem? (i := 13) rfl)
theorem k_MT_11 : Cond.fieldLink "MachineTables" 11 "MachineTables" "machines" "[LMachineTables$Machine;" ∈ BIG := inB1 _ (List.mem_of_getElem? (i := 23) rfl)
theorem k_MT_18 : Cond.fieldLink "MachineTables" 18 "MachineTables" "search" "LMachineTables$Search;" ∈ BIG := inB1 _ (List.mem_of_getElem? (i := 24) rfl)
theorem k_MT_25 : Cond.fieldLink "MachineTables" 25 "MachineTables" "families" "LMachineTables$Families;" ∈ BIG := inB1 _ (List.mem_of_getElem? (i := 25) rfl)
theorem k_MT_29 : Cond.fieldLink "MachineTables" 29 "MachineTables" "count" "I" ∈ BIG := inB1 _ (List.mem_of_getElem? (i := 26) rfl)
theorem k_MT_33 : Cond.fieldLink "MachineTables" 33 "MachineTables" "word" "[I" ∈ BIG := inB1 _ (List.mem_of_getElem? (i := 27) rfl)
theorem k_La_34 : Cond.methodLink "MachineTablesLaw" 34 y_MT_machine ∈ BIG := inB1 _ (List.mem_of_getElem? (i := 39) rfl)
theorem ki_MT_machine : Cond.instanceMethod y_MT_machine ∈ BIG := inB2 _ (List.mem_of_getElem? (i := 0) rfl)
theorem kl_MT_machine : Cond.selects "MachineTables" y_MT_machine y_MT_machine ∈ BIG := inB2 _ (List.mem_of_getElem? (i := 1) rfl)
theorem kc_MT_machine : Cond.code y_MT_machine prog_1_method_2_code 3 (some FieldType.int) ∈ BIG := inB2 _ (List.mem_of_getElem? (i := 2) rfl)
theorem k_MT_37 : Cond.methodLink "MachineTables" 37 y_MT_isFull ∈ BIG := inB2 _ (List.mem_of_getElem? (i := 3) rfl)
theorem ki_MT_isFull : Cond.instanceMethod y_MT_isFull ∈ BIG := inB2 _ (List.mem_of_getElem? (i := 4) rfl)
theorem kc_MT_isFull : Cond.code y_MT_isFull prog_1_method_17_code 1 (some FieldType.boolean) ∈ BIG := inB2 _ (List.mem_of_getElem? (i := 5) rfl)
theorem k_MT_41 : Cond.methodLink "MachineTables" 41 y_MT_add ∈ BIG := inB2 _ (List.mem_of_getElem? (i := 6) rfl)
theorem ki_MT_add : Cond.instanceMethod y_MT_add ∈ BIG := inB2 _ (List.mem_of_getElem? (i := 7) rfl)
theorem kc_MT_add : Cond.code y_MT_add prog_1_method_20_code 4 (some (FieldType.object "MachineTables$Machine")) ∈ BIG := inB2 _ (List.mem_of_getElem? (i := 8) rfl)
theorem kt_Ma : Cond.instantiable "MachineTables$Machine" 7 ∈ BIG := inB2 _ (List.mem_of_getElem? (i := 9) rfl)
theorem k_MT_147 : Cond.methodLink "MachineTables" 147 y_Ma_init ∈ BIG := inB2 _ (List.mem_of_getElem? (i := 10) rfl)
theorem ki_Ma_init : Cond.instanceMethod y_Ma_init ∈ BIG := inB2 _ (List.mem_of_getElem? (i := 11) rfl)
theorem kc_Ma_init : Cond.code y_Ma_init prog_3_method_1_code 1 (Option.none : Option Jvm.ClassFile.FieldType) ∈ BIG := inB2 _ (List.mem_of_getElem? (i := 12) rfl)
theorem k_Ma_3 : Cond.methodLink "MachineTables$Machine" 3 objectInit ∈ BIG := inB2 _ (List.mem_of_getElem? (i := 13) rfl)
theorem k_Ma_9 : Cond.fieldLink "MachineTables$Machine" 9 "MachineTables$Machine" "next" "[I" ∈ BIG := inB2 _ (List.mem_of_getElem? (i := 14) rfl)
theorem k_Ma_15 : Cond.fieldLink "MachineTables$Machine" 15 "MachineTables$Machine" "output" "[I" ∈ BIG := inB2 _ (List.mem_of_getElem? (i := 15) rfl)
theorem k_Ma_18 : Cond.fieldLink "MachineTables$Machine" 18 "MachineTables$Machine" "leastOf" "[I" ∈ BIG := inB2 _ (List.mem_of_getElem? (i := 16) rfl)
theorem k_Ma_21 : Cond.fieldLink "MachineTables$Machine" 21 "MachineTables$Machine" "finer" "[I" ∈ BIG := inB2 _ (List.mem_of_getElem? (i := 17) rfl)
theorem k_Ma_24 : Cond.fieldLink "MachineTables$Machine" 24 "MachineTables$Machine" "states" "I" ∈ BIG := inB2 _ (List.mem_of_getElem? (i := 18) rfl)
theorem k_Ma_28 : Cond.fieldLink "MachineTables$Machine" 28 "MachineTables$Machine" "inputs" "I" ∈ BIG := inB2 _ (List.mem_of_getElem? (i := 19) rfl)
theorem k_Ma_35 : Cond.fieldLink "MachineTables$Machine" 35 "MachineTables$Machine" "isSettled" "Z" ∈ BIG := inB2 _ (List.mem_of_getElem? (i := 20) rfl)
theorem k_MT_148 : Cond.methodLink "MachineTables" 148 y_Ma_begin ∈ BIG := inB2 _ (List.mem_of_getElem? (i := 36) rfl)
theorem ki_Ma_begin : Cond.instanceMethod y_Ma_begin ∈ BIG := inB2 _ (List.mem_of_getElem? (i := 37) rfl)
theorem kl_Ma_begin : Cond.selects "MachineTables$Machine" y_Ma_begin y_Ma_begin ∈ BIG := inB2 _ (List.mem_of_getElem? (i := 38) rfl)
theorem kc_Ma_begin : Cond.code y_Ma_begin prog_3_method_2_code 5 (Option.none : Option Jvm.ClassFile.FieldType) ∈ BIG := inB2 _ (List.mem_of_getElem? (i := 39) rfl)
theorem k_Ma_31 : Cond.methodLink "MachineTables$Machine" 31 y_Ma_setArrow ∈ BIG := inB3 _ (List.mem_of_getElem? (i := 0) rfl)
theorem ki_Ma_setArrow : Cond.instanceMethod y_Ma_setArrow ∈ BIG := inB3 _ (List.mem_of_getElem? (i := 1) rfl)
theorem kl_Ma_setArrow : Cond.selects "MachineTables$Machine" y_Ma_setArrow y_Ma_setArrow ∈ BIG := inB3 _ (List.mem_of_getElem? (i := 2) rfl)
theorem kc_Ma_setArrow : Cond.code y_Ma_setArrow prog_3_method_7_code 5 (Option.none : Option Jvm.ClassFile.FieldType) ∈ BIG := inB3 _ (List.mem_of_getElem? (i := 3) rfl)
theorem k_La_38 : Cond.methodLink "MachineTablesLaw" 38 y_MT_arrow ∈ BIG := inB3 _ (List.mem_of_getElem? (i := 4) rfl)
theorem ki_MT_arrow : Cond.instanceMethod y_MT_arrow ∈ BIG := inB3 _ (List.mem_of_getElem? (i := 5) rfl)
theorem kl_MT_arrow : Cond.selects "MachineTables" y_MT_arrow y_MT_arrow ∈ BIG := inB3 _ (List.mem_of_getElem? (i := 6) rfl)
theorem kc_MT_arrow : Cond.code y_MT_arrow prog_1_method_3_code 7 (some FieldType.boolean) ∈ BIG := inB3 _ (List.mem_of_getElem? (i := 7) rfl)
theorem k_MT_45 : Cond.methodLink "MachineTables" 45 y_MT_find ∈ BIG := inB3 _ (List.mem_of_getElem? (i := 8) rfl)
theorem ki_MT_find : Cond.instanceMethod y_MT_find ∈ BIG := inB3 _ (List.mem_of_getElem? (i := 9) rfl)
theorem kc_MT_find : Cond.code y_MT_find prog_1_method_18_code 2 (some (FieldType.object "MachineTables$Machine")) ∈ BIG := inB3 _ (List.mem_of_getElem? (i := 10) rfl)
theorem k_MT_49 : Cond.methodLink "MachineTables" 49 y_Ma_hasState ∈ BIG := inB3 _ (List.mem_of_getElem? (i := 11) rfl)
theorem ki_Ma_hasState : Cond.instanceMethod y_Ma_hasState ∈ BIG := inB3 _ (List.mem_of_getElem? (i := 12) rfl)
theorem kl_Ma_hasState : Cond.selects "MachineTables$Machine" y_Ma_hasState y_Ma_hasState ∈ BIG := inB3 _ (List.mem_of_getElem? (i := 13) rfl)
theorem kc_Ma_hasState : Cond.code y_Ma_hasState prog_3_method_3_code 2 (some FieldType.boolean) ∈ BIG := inB3 _ (List.mem_of_getElem? (i := 14) rfl)
theorem k_MT_53 : Cond.methodLink "MachineTables" 53 y_Ma_hasInput ∈ BIG := inB3 _ (List.mem_of_getElem? (i := 15) rfl)
theorem ki_Ma_hasInput : Cond.instanceMethod y_Ma_hasInput ∈ BIG := inB3 _ (List.mem_of_getElem? (i := 16) rfl)
theorem kl_Ma_hasInput : Cond.selects "MachineTables$Machine" y_Ma_hasInput y_Ma_hasInput ∈ BIG := inB3 _ (List.mem_of_getElem? (i := 17) rfl)
theorem kc_Ma_hasInput : Cond.code y_Ma_hasInput prog_3_method_4_code 2 (some FieldType.boolean) ∈ BIG := inB3 _ (List.mem_of_getElem? (i := 18) rfl)
theorem k_MT_56 : Cond.methodLink "MachineTables" 56 y_Ma_setArrow ∈ BIG := inB3 _ (List.mem_of_getElem? (i := 19) rfl)
theorem k_La_43 : Cond.methodLink "MachineTablesLaw" 43 y_MT_look ∈ BIG := inB3 _ (List.mem_of_getElem? (i := 20) rfl)
theorem ki_MT_look : Cond.instanceMethod y_MT_look ∈ BIG := inB3 _ (List.mem_of_getElem? (i := 21) rfl)
theorem kl_MT_look : Cond.selects "MachineTables" y_MT_look y_MT_look ∈ BIG := inB3 _ (List.mem_of_getElem? (i := 22) rfl)
theorem kc_MT_look : Cond.code y_MT_look prog_1_method_4_code 6 (some FieldType.int) ∈ BIG := inB3 _ (List.mem_of_getElem? (i := 23) rfl)
theorem k_MT_60 : Cond.methodLink "MachineTables" 60 y_Ma_nextOf ∈ BIG := inB3 _ (List.mem_of_getElem? (i := 24) rfl)
theorem ki_Ma_nextOf : Cond.instanceMethod y_Ma_nextOf ∈ BIG := inB3 _ (List.mem_of_getElem? (i := 25) rfl)
theorem kl_Ma_nextOf : Cond.selects "MachineTables$Machine" y_Ma_nextOf y_Ma_nextOf ∈ BIG := inB3 _ (List.mem_of_getElem? (i := 26) rfl)
theorem kc_Ma_nextOf : Cond.code y_Ma_nextOf prog_3_method_5_code 3 (some FieldType.int) ∈ BIG := inB3 _ (List.mem_of_getElem? (i := 27) rfl)
theorem k_MT_64 : Cond.methodLink "MachineTables" 64 y_Ma_outputOf ∈ BIG := inB3 _ (List.mem_of_getElem? (i := 28) rfl)
theorem ki_Ma_outputOf : Cond.instanceMethod y_Ma_outputOf ∈ BIG := inB3 _ (List.mem_of_getElem? (i := 29) rfl)
theorem kl_Ma_outputOf : Cond.selects "MachineTables$Machine" y_Ma_outputOf y_Ma_outputOf ∈ BIG := inB3 _ (List.mem_of_getElem? (i := 30) rfl)
theorem kc_Ma_outputOf : Cond.code y_Ma_outputOf prog_3_method_6_code 3 (some FieldType.int) ∈ BIG := inB3 _ (List.mem_of_getElem? (i := 31) rfl)
theorem k_La_48 : Cond.methodLink "MachineTablesLaw" 48 y_MT_classes ∈ BIG := inB3 _ (List.mem_of_getElem? (i := 32) rfl)
theorem ki_MT_classes : Cond.instanceMethod y_MT_classes ∈ BIG := inB3 _ (List.mem_of_getElem? (i := 33) rfl)
theorem kl_MT_classes : Cond.selects "MachineTables" y_MT_classes y_MT_classes ∈ BIG := inB3 _ (List.mem_of_getElem? (i := 34) rfl)
theorem kc_MT_classes : Cond.code y_MT_classes prog_1_method_5_code 3 (some FieldType.int) ∈ BIG := inB3 _ (List.mem_of_getElem? (i := 35) rfl)
theorem k_MT_67 : Cond.methodLink "MachineTables" 67 y_Ma_settle ∈ BIG := inB3 _ (List.mem_of_getElem? (i := 36) rfl)
theorem ki_Ma_settle : Cond.instanceMethod y_Ma_settle ∈ BIG := inB3 _ (List.mem_of_getElem? (i := 37) rfl)
theorem kl_Ma_settle : Cond.selects "MachineTables$Machine" y_Ma_settle y_Ma_settle ∈ BIG := inB3 _ (List.mem_of_getElem? (i := 38) rfl)
theorem kc_Ma_settle : Cond.code y_Ma_settle prog_3_method_11_code 3 (Option.none : Option Jvm.ClassFile.FieldType) ∈ BIG := inB3 _ (List.mem_of_getElem? (i := 39) rfl)
theorem k_Ma_43 : Cond.methodLink "MachineTables$Machine" 43 y_Ar_fill ∈ BIG := inB4 _ (List.mem_of_getElem? (i := 0) rfl)
theorem ks_Ar_fill : Cond.static y_Ar_fill ∈ BIG := inB4 _ (List.mem_of_getElem? (i := 1) rfl)
theorem kc_Ar_fill : Cond.code y_Ar_fill prog_21_method_104_code 5 (Option.none : Option Jvm.ClassFile.FieldType) ∈ BIG := inB4 _ (List.mem_of_getElem? (i := 2) rfl)
theorem k_Ar_13 : Cond.methodLink "java/util/Arrays" 13 y_Ar_rangeCheck ∈ BIG := inB4 _ (List.mem_of_getElem? (i := 3) rfl)
theorem ks_Ar_rangeCheck : Cond.static y_Ar_rangeCheck ∈ BIG := inB4 _ (List.mem_of_getElem? (i := 4) rfl)
theorem kc_Ar_rangeCheck : Cond.code y_Ar_rangeCheck prog_21_method_30_code 3 (Option.none : Option Jvm.ClassFile.FieldType) ∈ BIG := inB4 _ (List.mem_of_getElem? (i := 5) rfl)
theorem kt_XI : Cond.instantiable "java/lang/IllegalArgumentException" 6 ∈ BIG := inB4 _ (List.mem_of_getElem? (i := 6) rfl)
theorem kl_XT_fillInStackTrace_XI : Cond.selects "java/lang/IllegalArgumentException" y_XT_fillInStackTrace y_XT_fillInStackTrace ∈ BIG := inB4 _ (List.mem_of_getElem? (i := 7) rfl)
theorem kl_XT_fillInStackTrace2_XI : Cond.selects "java/lang/IllegalArgumentException" y_XT_fillInStackTrace2 y_XT_fillInStackTrace2 ∈ BIG := inB4 _ (List.mem_of_getElem? (i := 8) rfl)
theorem k_XT_198 : Cond.fieldLink "java/lang/Throwable" 198 "java/lang/Throwable" "backtrace" "Ljava/lang/Object;" ∈ BIG := inB4 _ (List.mem_of_getElem? (i := 19) rfl)
theorem ki_XT_init : Cond.instanceMethod y_XT_init ∈ BIG := inB4 _ (List.mem_of_getElem? (i := 21) rfl)
theorem kc_XT_init : Cond.code y_XT_init prog_20_method_1_code 1 (Option.none : Option Jvm.ClassFile.FieldType) ∈ BIG := inB4 _ (List.mem_of_getElem? (i := 22) rfl)
theorem k_XT_1 : Cond.methodLink "java/lang/Throwable" 1 objectInit ∈ BIG := inB4 _ (List.mem_of_getElem? (i := 23) rfl)
theorem k_XT_13 : Cond.fieldLink "java/lang/Throwable" 13 "java/lang/Throwable" "UNASSIGNED_STACK" "[Ljava/lang/StackTraceElement;" ∈ BIG := inB4 _ (List.mem_of_getElem? (i := 24) rfl)
theorem k_XT_20 : Cond.fieldLink "java/lang/Throwable" 20 "java/lang/Throwable" "SUPPRESSED_SENTINEL" "Ljava/util/List;" ∈ BIG := inB4 _ (List.mem_of_getElem? (i := 25) rfl)
theorem k_XT_27 : Cond.methodLink "java/lang/Throwable" 27 y_XT_fillInStackTrace2 ∈ BIG := inB4 _ (List.mem_of_getElem? (i := 26) rfl)
theorem ki_XT_fillInStackTrace2 : Cond.instanceMethod y_XT_fillInStackTrace2 ∈ BIG := inB4 _ (List.mem_of_getElem? (i := 27) rfl)
theorem kl_XT_fillInStackTrace2_XA : Cond.selects "java/lang/ArithmeticException" y_XT_fillInStackTrace2 y_XT_fillInStackTrace2 ∈ BIG := inB4 _ (List.mem_of_getElem? (i := 29) rfl)
theorem kl_XT_fillInStackTrace2_XN : Cond.selects "java/util/NoSuchElementException" y_XT_fillInStackTrace2 y_XT_fillInStackTrace2 ∈ BIG := inB4 _ (List.mem_of_getElem? (i := 30) rfl)
theorem kc_XT_fillInStackTrace2 : Cond.codeSync y_XT_fillInStackTrace2 prog_20_method_18_code 1 (some (FieldType.object "java/lang/Throwable")) ∈ BIG := inB4 _ (List.mem_of_getElem? (i := 31) rfl)
theorem k_XT_202 : Cond.methodLink "java/lang/Throwable" 202 y_XT_fillInStackTrace ∈ BIG := inB4 _ (List.mem_of_getElem? (i := 32) rfl)
theorem ki_XT_fillInStackTrace : Cond.instanceMethod y_XT_fillInStackTrace ∈ BIG := inB4 _ (List.mem_of_getElem? (i := 33) rfl)
theorem kt_XT : Cond.instantiable "java/lang/Throwable" 6 ∈ BIG := inB4 _ (List.mem_of_getElem? (i := 34) rfl)
theorem kn_XT_fillInStackTrace : Cond.native y_XT_fillInStackTrace ∈ BIG := inB4 _ (List.mem_of_getElem? (i := 35) rfl)
theorem ka_byte : Cond.arrayClass FieldType.byte ∈ BIG := inB4 _ (List.mem_of_getElem? (i := 36) rfl)
theorem kn_Ob_clone : Cond.native y_Ob_clone ∈ BIG := inB4 _ (List.mem_of_getElem? (i := 38) rfl)
theorem ki_Ob_clone : Cond.instanceMethod y_Ob_clone ∈ BIG := inB4 _ (List.mem_of_getElem? (i := 39) rfl)
theorem kl_None_clone_None : Cond.selects "[B" y_None_clone y_Ob_clone ∈ BIG := inB5 _ (List.mem_of_getElem? (i := 0) rfl)
theorem ks_Sy_arraycopy : Cond.static y_Sy_arraycopy ∈ BIG := inB5 _ (List.mem_of_getElem? (i := 1) rfl)
theorem kn_Sy_arraycopy : Cond.native y_Sy_arraycopy ∈ BIG := inB5 _ (List.mem_of_getElem? (i := 2) rfl)
theorem k_In_83 : Cond.fieldLink "java/lang/Integer" 83 "java/lang/Integer" "DigitOnes" "[B" ∈ BIG := inB5 _ (List.mem_of_getElem? (i := 3) rfl)
theorem k_In_87 : Cond.fieldLink "java/lang/Integer" 87 "java/lang/Integer" "DigitTens" "[B" ∈ BIG := inB5 _ (List.mem_of_getElem? (i := 4) rfl)
theorem ki_XI_init : Cond.instanceMethod y_XI_init ∈ BIG := inB5 _ (List.mem_of_getElem? (i := 5) rfl)
theorem kc_XI_init : Cond.code y_XI_init prog_11_method_2_code 2 (Option.none : Option Jvm.ClassFile.FieldType) ∈ BIG := inB5 _ (List.mem_of_getElem? (i := 6) rfl)
theorem k_XI_7 : Cond.methodLink "java/lang/IllegalArgumentException" 7 y_XR_init ∈ BIG := inB5 _ (List.mem_of_getElem? (i := 7) rfl)
theorem ki_XR_init : Cond.instanceMethod y_XR_init ∈ BIG := inB5 _ (List.mem_of_getElem? (i := 8) rfl)
theorem kc_XR_init : Cond.code y_XR_init prog_14_method_2_code 2 (Option.none : Option Jvm.ClassFile.FieldType) ∈ BIG := inB5 _ (List.mem_of_getElem? (i := 9) rfl)
theorem k_XR_7 : Cond.methodLink "java/lang/RuntimeException" 7 y_XE_init ∈ BIG := inB5 _ (List.mem_of_getElem? (i := 10) rfl)
theorem ki_XE_init : Cond.instanceMethod y_XE_init ∈ BIG := inB5 _ (List.mem_of_getElem? (i := 11) rfl)
theorem kc_XE_init : Cond.code y_XE_init prog_10_method_2_code 2 (Option.none : Option Jvm.ClassFile.FieldType) ∈ BIG := inB5 _ (List.mem_of_getElem? (i := 12) rfl)
theorem k_XE_7 : Cond.methodLink "java/lang/Exception" 7 y_XT_init2 ∈ BIG := inB5 _ (List.mem_of_getElem? (i := 13) rfl)
theorem ki_XT_init2 : Cond.instanceMethod y_XT_init2 ∈ BIG := inB5 _ (List.mem_of_getElem? (i := 14) rfl)
theorem kc_XT_init2 : Cond.code y_XT_init2 prog_20_method_2_code 2 (Option.none : Option Jvm.ClassFile.FieldType) ∈ BIG := inB5 _ (List.mem_of_getElem? (i := 15) rfl)
theorem k_XT_31 : Cond.fieldLink "java/lang/Throwable" 31 "java/lang/Throwable" "detailMessage" "Ljava/lang/String;" ∈ BIG := inB5 _ (List.mem_of_getElem? (i := 16) rfl)
theorem k_XT_7 : Cond.fieldLink "java/lang/Throwable" 7 "java/lang/Throwable" "cause" "Ljava/lang/Throwable;" ∈ BIG := inB5 _ (List.mem_of_getElem? (i := 17) rfl)
theorem k_XT_17 : Cond.fieldLink "java/lang/Throwable" 17 "java/lang/Throwable" "stackTrace" "[Ljava/lang/StackTraceElement;" ∈ BIG := inB5 _ (List.mem_of_getElem? (i := 18) rfl)
theorem k_XT_24 : Cond.fieldLink "java/lang/Throwable" 24 "java/lang/Throwable" "suppressedExceptions" "Ljava/util/List;" ∈ BIG := inB5 _ (List.mem_of_getElem? (i := 19) rfl)
theorem k_Ma_49 : Cond.methodLink "MachineTables$Machine" 49 y_Ma_splitSets ∈ BIG := inB5 _ (List.mem_of_getElem? (i := 28) rfl)
theorem ki_Ma_splitSets : Cond.instanceMethod y_Ma_splitSets ∈ BIG := inB5 _ (List.mem_of_getElem? (i := 29) rfl)
theorem kc_Ma_splitSets : Cond.code y_Ma_splitSets prog_3_method_12_code 3 (some FieldType.boolean) ∈ BIG := inB5 _ (List.mem_of_getElem? (i := 30) rfl)
theorem k_Ma_53 : Cond.methodLink "MachineTables$Machine" 53 y_Ma_leastThatAgrees ∈ BIG := inB5 _ (List.mem_of_getElem? (i := 31) rfl)
theorem ki_Ma_leastThatAgrees : Cond.instanceMethod y_Ma_leastThatAgrees ∈ BIG := inB5 _ (List.mem_of_getElem? (i := 32) rfl)
theorem kc_Ma_leastThatAgrees : Cond.code y_Ma_leastThatAgrees prog_3_method_13_code 3 (some FieldType.int) ∈ BIG := inB5 _ (List.mem_of_getElem? (i := 33) rfl)
theorem k_Ma_63 : Cond.methodLink "MachineTables$Machine" 63 y_Ma_isAgreed ∈ BIG := inB5 _ (List.mem_of_getElem? (i := 34) rfl)
theorem ki_Ma_isAgreed : Cond.instanceMethod y_Ma_isAgreed ∈ BIG := inB5 _ (List.mem_of_getElem? (i := 35) rfl)
theorem kc_Ma_isAgreed : Cond.code y_Ma_isAgreed prog_3_method_14_code 4 (some FieldType.boolean) ∈ BIG := inB5 _ (List.mem_of_getElem? (i := 36) rfl)
theorem k_Ma_67 : Cond.methodLink "MachineTables$Machine" 67 y_Ma_outputOf ∈ BIG := inB5 _ (List.mem_of_getElem? (i := 37) rfl)
theorem k_Ma_39 : Cond.methodLink "MachineTables$Machine" 39 y_Ma_nextOf ∈ BIG := inB5 _ (List.mem_of_getElem? (i := 38) rfl)
theorem k_Ma_57 : Cond.methodLink "MachineTables$Machine" 57 y_Sy_arraycopy ∈ BIG := inB5 _ (List.mem_of_getElem? (i := 39) rfl)
theorem k_MT_70 : Cond.methodLink "MachineTables" 70 y_Ma_countSets ∈ BIG := inB6 _ (List.mem_of_getElem? (i := 0) rfl)
theorem ki_Ma_countSets : Cond.instanceMethod y_Ma_countSets ∈ BIG := inB6 _ (List.mem_of_getElem? (i := 1) rfl)
theorem kl_Ma_countSets : Cond.selects "MachineTables$Machine" y_Ma_countSets y_Ma_countSets ∈ BIG := inB6 _ (List.mem_of_getElem? (i := 2) rfl)
theorem kc_Ma_countSets : Cond.code y_Ma_countSets prog_3_method_10_code 3 (some FieldType.int) ∈ BIG := inB6 _ (List.mem_of_getElem? (i := 3) rfl)
theorem k_La_52 : Cond.methodLink "MachineTablesLaw" 52 y_MT_like ∈ BIG := inB6 _ (List.mem_of_getElem? (i := 4) rfl)
theorem ki_MT_like : Cond.instanceMethod y_MT_like ∈ BIG := inB6 _ (List.mem_of_getElem? (i := 5) rfl)
theorem kl_MT_like : Cond.selects "MachineTables" y_MT_like y_MT_like ∈ BIG := inB6 _ (List.mem_of_getElem? (i := 6) rfl)
theorem kc_MT_like : Cond.code y_MT_like prog_1_method_6_code 4 (some FieldType.int) ∈ BIG := inB6 _ (List.mem_of_getElem? (i := 7) rfl)
theorem k_MT_74 : Cond.methodLink "MachineTables" 74 y_Ma_leastLike ∈ BIG := inB6 _ (List.mem_of_getElem? (i := 8) rfl)
theorem ki_Ma_leastLike : Cond.instanceMethod y_Ma_leastLike ∈ BIG := inB6 _ (List.mem_of_getElem? (i := 9) rfl)
theorem kl_Ma_leastLike : Cond.selects "MachineTables$Machine" y_Ma_leastLike y_Ma_leastLike ∈ BIG := inB6 _ (List.mem_of_getElem? (i := 10) rfl)
theorem kc_Ma_leastLike : Cond.code y_Ma_leastLike prog_3_method_9_code 2 (some FieldType.int) ∈ BIG := inB6 _ (List.mem_of_getElem? (i := 11) rfl)
theorem k_La_66 : Cond.methodLink "MachineTablesLaw" 66 y_MT_least ∈ BIG := inB6 _ (List.mem_of_getElem? (i := 12) rfl)
theorem ki_MT_least : Cond.instanceMethod y_MT_least ∈ BIG := inB6 _ (List.mem_of_getElem? (i := 13) rfl)
theorem kl_MT_least : Cond.selects "MachineTables" y_MT_least y_MT_least ∈ BIG := inB6 _ (List.mem_of_getElem? (i := 14) rfl)
theorem kc_MT_least : Cond.code y_MT_least prog_1_method_8_code 8 (some FieldType.int) ∈ BIG := inB6 _ (List.mem_of_getElem? (i := 15) rfl)
theorem k_MT_97 : Cond.methodLink "MachineTables" 97 y_MT_numberSets ∈ BIG := inB6 _ (List.mem_of_getElem? (i := 16) rfl)
theorem ki_MT_numberSets : Cond.instanceMethod y_MT_numberSets ∈ BIG := inB6 _ (List.mem_of_getElem? (i := 17) rfl)
theorem kc_MT_numberSets : Cond.code y_MT_numberSets prog_1_method_23_code 5 (Option.none : Option Jvm.ClassFile.FieldType) ∈ BIG := inB6 _ (List.mem_of_getElem? (i := 18) rfl)
theorem k_MT_156 : Cond.methodLink "MachineTables" 156 y_Se_begin ∈ BIG := inB6 _ (List.mem_of_getElem? (i := 19) rfl)
theorem ki_Se_begin : Cond.instanceMethod y_Se_begin ∈ BIG := inB6 _ (List.mem_of_getElem? (i := 20) rfl)
theorem kl_Se_begin : Cond.selects "MachineTables$Search" y_Se_begin y_Se_begin ∈ BIG := inB6 _ (List.mem_of_getElem? (i := 21) rfl)
theorem kc_Se_begin : Cond.code y_Se_begin prog_4_method_2_code 2 (Option.none : Option Jvm.ClassFile.FieldType) ∈ BIG := inB6 _ (List.mem_of_getElem? (i := 22) rfl)
theorem k_Se_21 : Cond.methodLink "MachineTables$Search" 21 y_Ar_fill ∈ BIG := inB6 _ (List.mem_of_getElem? (i := 23) rfl)
theorem k_MT_162 : Cond.methodLink "MachineTables" 162 y_Se_reach ∈ BIG := inB6 _ (List.mem_of_getElem? (i := 24) rfl)
theorem ki_Se_reach : Cond.instanceMethod y_Se_reach ∈ BIG := inB6 _ (List.mem_of_getElem? (i := 25) rfl)
theorem kl_Se_reach : Cond.selects "MachineTables$Search" y_Se_reach y_Se_reach ∈ BIG := inB6 _ (List.mem_of_getElem? (i := 26) rfl)
theorem kc_Se_reach : Cond.code y_Se_reach prog_4_method_3_code 4 (Option.none : Option Jvm.ClassFile.FieldType) ∈ BIG := inB6 _ (List.mem_of_getElem? (i := 27) rfl)
theorem k_Se_31 : Cond.methodLink "MachineTables$Search" 31 y_Se_note ∈ BIG := inB6 _ (List.mem_of_getElem? (i := 28) rfl)
theorem ki_Se_note : Cond.instanceMethod y_Se_note ∈ BIG := inB6 _ (List.mem_of_getElem? (i := 29) rfl)
theorem kl_Se_note : Cond.selects "MachineTables$Search" y_Se_note y_Se_note ∈ BIG := inB6 _ (List.mem_of_getElem? (i := 30) rfl)
theorem kc_Se_note : Cond.code y_Se_note prog_4_method_4_code 3 (some FieldType.int) ∈ BIG := inB6 _ (List.mem_of_getElem? (i := 31) rfl)
theorem k_MT_105 : Cond.methodLink "MachineTables" 105 y_Se_placeAt ∈ BIG := inB6 _ (List.mem_of_getElem? (i := 32) rfl)
theorem ki_Se_placeAt : Cond.instanceMethod y_Se_placeAt ∈ BIG := inB6 _ (List.mem_of_getElem? (i := 33) rfl)
theorem kl_Se_placeAt : Cond.selects "MachineTables$Search" y_Se_placeAt y_Se_placeAt ∈ BIG := inB6 _ (List.mem_of_getElem? (i := 34) rfl)
theorem kc_Se_placeAt : Cond.code y_Se_placeAt prog_4_method_5_code 2 (some FieldType.int) ∈ BIG := inB6 _ (List.mem_of_getElem? (i := 35) rfl)
theorem k_MT_108 : Cond.methodLink "MachineTables" 108 y_Se_numberOf ∈ BIG := inB6 _ (List.mem_of_getElem? (i := 36) rfl)
theorem ki_Se_numberOf : Cond.instanceMethod y_Se_numberOf ∈ BIG := inB6 _ (List.mem_of_getElem? (i := 37) rfl)
theorem kl_Se_numberOf : Cond.selects "MachineTables$Search" y_Se_numberOf y_Se_numberOf ∈ BIG := inB6 _ (List.mem_of_getElem? (i := 38) rfl)
theorem kc_Se_numberOf : Cond.code y_Se_numberOf prog_4_method_6_code 2 (some FieldType.int) ∈ BIG := inB6 _ (List.mem_of_getElem? (i := 39) rfl)
theorem k_La_70 : Cond.methodLink "MachineTablesLaw" 70 y_MT_part ∈ BIG := inB7 _ (List.mem_of_getElem? (i := 0) rfl)
theorem ki_MT_part : Cond.instanceMethod y_MT_part ∈ BIG := inB7 _ (List.mem_of_getElem? (i := 1) rfl)
theorem kl_MT_part : Cond.selects "MachineTables" y_MT_part y_MT_part ∈ BIG := inB7 _ (List.mem_of_getElem? (i := 2) rfl)
theorem kc_MT_part : Cond.code y_MT_part prog_1_method_9_code 4 (some FieldType.int) ∈ BIG := inB7 _ (List.mem_of_getElem? (i := 3) rfl)
theorem k_La_74 : Cond.methodLink "MachineTablesLaw" 74 y_MT_reset ∈ BIG := inB7 _ (List.mem_of_getElem? (i := 4) rfl)
theorem ki_MT_reset : Cond.instanceMethod y_MT_reset ∈ BIG := inB7 _ (List.mem_of_getElem? (i := 5) rfl)
theorem kl_MT_reset : Cond.selects "MachineTables" y_MT_reset y_MT_reset ∈ BIG := inB7 _ (List.mem_of_getElem? (i := 6) rfl)
theorem kc_MT_reset : Cond.code y_MT_reset prog_1_method_10_code 4 (some FieldType.int) ∈ BIG := inB7 _ (List.mem_of_getElem? (i := 7) rfl)
theorem k_MT_111 : Cond.methodLink "MachineTables" 111 y_MT_findSmall ∈ BIG := inB7 _ (List.mem_of_getElem? (i := 8) rfl)
theorem ki_MT_findSmall : Cond.instanceMethod y_MT_findSmall ∈ BIG := inB7 _ (List.mem_of_getElem? (i := 9) rfl)
theorem kc_MT_findSmall : Cond.code y_MT_findSmall prog_1_method_19_code 3 (some (FieldType.object "MachineTables$Machine")) ∈ BIG := inB7 _ (List.mem_of_getElem? (i := 10) rfl)
theorem k_MT_114 : Cond.methodLink "MachineTables" 114 y_MT_seekReset ∈ BIG := inB7 _ (List.mem_of_getElem? (i := 11) rfl)
theorem ki_MT_seekReset : Cond.instanceMethod y_MT_seekReset ∈ BIG := inB7 _ (List.mem_of_getElem? (i := 12) rfl)
theorem kc_MT_seekReset : Cond.code y_MT_seekReset prog_1_method_24_code 5 (some FieldType.int) ∈ BIG := inB7 _ (List.mem_of_getElem? (i := 13) rfl)
theorem k_MT_169 : Cond.methodLink "MachineTables" 169 y_In_bitCount ∈ BIG := inB7 _ (List.mem_of_getElem? (i := 14) rfl)
theorem ks_In_bitCount : Cond.static y_In_bitCount ∈ BIG := inB7 _ (List.mem_of_getElem? (i := 15) rfl)
theorem kc_In_bitCount : Cond.code y_In_bitCount prog_12_method_49_code 1 (some FieldType.int) ∈ BIG := inB7 _ (List.mem_of_getElem? (i := 16) rfl)
theorem k_In_265 : Cond.constant "java/lang/Integer" 265 (1431655765 : Int32) ∈ BIG := inB7 _ (List.mem_of_getElem? (i := 17) rfl)
theorem k_In_266 : Cond.constant "java/lang/Integer" 266 (858993459 : Int32) ∈ BIG := inB7 _ (List.mem_of_getElem? (i := 18) rfl)
theorem k_In_267 : Cond.constant "java/lang/Integer" 267 (252645135 : Int32) ∈ BIG := inB7 _ (List.mem_of_getElem? (i := 19) rfl)
theorem k_MT_174 : Cond.methodLink "MachineTables" 174 y_Ma_reachedFrom ∈ BIG := inB7 _ (List.mem_of_getElem? (i := 20) rfl)
theorem ki_Ma_reachedFrom : Cond.instanceMethod y_Ma_reachedFrom ∈ BIG := inB7 _ (List.mem_of_getElem? (i := 21) rfl)
theorem kl_Ma_reachedFrom : Cond.selects "MachineTables$Machine" y_Ma_reachedFrom y_Ma_reachedFrom ∈ BIG := inB7 _ (List.mem_of_getElem? (i := 22) rfl)
theorem kc_Ma_reachedFrom : Cond.code y_Ma_reachedFrom prog_3_method_8_code 5 (some FieldType.int) ∈ BIG := inB7 _ (List.mem_of_getElem? (i := 23) rfl)
theorem k_MT_94 : Cond.methodLink "MachineTables" 94 y_MT_tell ∈ BIG := inB7 _ (List.mem_of_getElem? (i := 24) rfl)
theorem ki_MT_tell : Cond.instanceMethod y_MT_tell ∈ BIG := inB7 _ (List.mem_of_getElem? (i := 25) rfl)
theorem kc_MT_tell : Cond.code y_MT_tell prog_1_method_21_code 2 (some FieldType.int) ∈ BIG := inB7 _ (List.mem_of_getElem? (i := 26) rfl)
theorem k_MT_152 : Cond.methodLink "MachineTables" 152 y_Se_wordTo ∈ BIG := inB7 _ (List.mem_of_getElem? (i := 27) rfl)
theorem ki_Se_wordTo : Cond.instanceMethod y_Se_wordTo ∈ BIG := inB7 _ (List.mem_of_getElem? (i := 28) rfl)
theorem kl_Se_wordTo : Cond.selects "MachineTables$Search" y_Se_wordTo y_Se_wordTo ∈ BIG := inB7 _ (List.mem_of_getElem? (i := 29) rfl)
theorem kc_Se_wordTo : Cond.code y_Se_wordTo prog_4_method_7_code 6 (some (FieldType.array FieldType.int)) ∈ BIG := inB7 _ (List.mem_of_getElem? (i := 30) rfl)
theorem k_La_89 : Cond.methodLink "MachineTablesLaw" 89 y_MT_along ∈ BIG := inB7 _ (List.mem_of_getElem? (i := 31) rfl)
theorem ki_MT_along : Cond.instanceMethod y_MT_along ∈ BIG := inB7 _ (List.mem_of_getElem? (i := 32) rfl)
theorem kl_MT_along : Cond.selects "MachineTables" y_MT_along y_MT_along ∈ BIG := inB7 _ (List.mem_of_getElem? (i := 33) rfl)
theorem kc_MT_along : Cond.code y_MT_along prog_1_method_14_code 6 (some FieldType.int) ∈ BIG := inB7 _ (List.mem_of_getElem? (i := 34) rfl)
theorem k_La_93 : Cond.methodLink "MachineTablesLaw" 93 y_MT_clear ∈ BIG := inB7 _ (List.mem_of_getElem? (i := 35) rfl)
theorem ki_MT_clear : Cond.instanceMethod y_MT_clear ∈ BIG := inB7 _ (List.mem_of_getElem? (i := 36) rfl)
theorem kl_MT_clear : Cond.selects "MachineTables" y_MT_clear y_MT_clear ∈ BIG := inB7 _ (List.mem_of_getElem? (i := 37) rfl)
theorem kc_MT_clear : Cond.code y_MT_clear prog_1_method_15_code 1 (Option.none : Option Jvm.ClassFile.FieldType) ∈ BIG := inB7 _ (List.mem_of_getElem? (i := 38) rfl)
theorem k_La_97 : Cond.methodLink "MachineTablesLaw" 97 y_MT_total ∈ BIG := inB7 _ (List.mem_of_getElem? (i := 39) rfl)
theorem ki_MT_total : Cond.instanceMethod y_MT_total ∈ BIG := inB8 _ (List.mem_of_getElem? (i := 0) rfl)
theorem kl_MT_total : Cond.selects "MachineTables" y_MT_total y_MT_total ∈ BIG := inB8 _ (List.mem_of_getElem? (i := 1) rfl)
theorem kc_MT_total : Cond.code y_MT_total prog_1_method_16_code 4 (some FieldType.int) ∈ BIG := inB8 _ (List.mem_of_getElem? (i := 2) rfl)
theorem k_La_56 : Cond.methodLink "MachineTablesLaw" 56 y_La_alike ∈ BIG := inB8 _ (List.mem_of_getElem? (i := 3) rfl)
theorem ks_La_alike : Cond.static y_La_alike ∈ BIG := inB8 _ (List.mem_of_getElem? (i := 4) rfl)
theorem kc_La_alike : Cond.codeWith y_La_alike method_3_code 7 (some FieldType.int) [(0, 21, 24, 13)] ∈ BIG := inB8 _ (List.mem_of_getElem? (i := 5) rfl)
theorem k_La_13 : Cond.classLink "MachineTablesLaw" 13 "java/lang/IllegalArgumentException" ∈ BIG := inB8 _ (List.mem_of_getElem? (i := 6) rfl)
theorem k_La_7 : Cond.methodLink "MachineTablesLaw" 7 y_MT_alike ∈ BIG := inB8 _ (List.mem_of_getElem? (i := 7) rfl)
theorem ki_MT_alike : Cond.instanceMethod y_MT_alike ∈ BIG := inB8 _ (List.mem_of_getElem? (i := 8) rfl)
theorem kl_MT_alike : Cond.selects "MachineTables" y_MT_alike y_MT_alike ∈ BIG := inB8 _ (List.mem_of_getElem? (i := 9) rfl)
theorem kc_MT_alike : Cond.code y_MT_alike prog_1_method_7_code 8 (some FieldType.boolean) ∈ BIG := inB8 _ (List.mem_of_getElem? (i := 10) rfl)
theorem k_MT_78 : Cond.classLink "MachineTables" 78 "java/lang/IllegalArgumentException" ∈ BIG := inB8 _ (List.mem_of_getElem? (i := 11) rfl)
theorem k_MT_82 : Cond.methodLink "MachineTables" 82 y_XI_init ∈ BIG := inB8 _ (List.mem_of_getElem? (i := 12) rfl)
theorem k_MT_90 : Cond.methodLink "MachineTables" 90 y_MT_seekWitness ∈ BIG := inB8 _ (List.mem_of_getElem? (i := 13) rfl)
theorem ki_MT_seekWitness : Cond.instanceMethod y_MT_seekWitness ∈ BIG := inB8 _ (List.mem_of_getElem? (i := 14) rfl)
theorem kc_MT_seekWitness : Cond.code y_MT_seekWitness prog_1_method_22_code 9 (some FieldType.int) ∈ BIG := inB8 _ (List.mem_of_getElem? (i := 15) rfl)
theorem k_MT_159 : Cond.methodLink "MachineTables" 159 y_MT_pairOf ∈ BIG := inB8 _ (List.mem_of_getElem? (i := 16) rfl)
theorem ks_MT_pairOf : Cond.static y_MT_pairOf ∈ BIG := inB8 _ (List.mem_of_getElem? (i := 17) rfl)
theorem kc_MT_pairOf : Cond.code y_MT_pairOf prog_1_method_28_code 2 (some FieldType.int) ∈ BIG := inB8 _ (List.mem_of_getElem? (i := 18) rfl)
theorem k_MT_132 : Cond.methodLink "MachineTables" 132 y_MT_firstOf ∈ BIG := inB8 _ (List.mem_of_getElem? (i := 19) rfl)
theorem ks_MT_firstOf : Cond.static y_MT_firstOf ∈ BIG := inB8 _ (List.mem_of_getElem? (i := 20) rfl)
theorem kc_MT_firstOf : Cond.code y_MT_firstOf prog_1_method_29_code 1 (some FieldType.int) ∈ BIG := inB8 _ (List.mem_of_getElem? (i := 21) rfl)
theorem k_MT_139 : Cond.methodLink "MachineTables" 139 y_MT_secondOf ∈ BIG := inB8 _ (List.mem_of_getElem? (i := 22) rfl)
theorem ks_MT_secondOf : Cond.static y_MT_secondOf ∈ BIG := inB8 _ (List.mem_of_getElem? (i := 23) rfl)
theorem kc_MT_secondOf : Cond.code y_MT_secondOf prog_1_method_30_code 1 (some FieldType.int) ∈ BIG := inB8 _ (List.mem_of_getElem? (i := 24) rfl)
theorem k_MT_166 : Cond.methodLink "MachineTables" 166 y_Se_note ∈ BIG := inB8 _ (List.mem_of_getElem? (i := 25) rfl)
theorem k_La_78 : Cond.methodLink "MachineTablesLaw" 78 y_La_home ∈ BIG := inB8 _ (List.mem_of_getElem? (i := 26) rfl)
theorem ks_La_home : Cond.static y_La_home ∈ BIG := inB8 _ (List.mem_of_getElem? (i := 27) rfl)
theorem kc_La_home : Cond.codeWith y_La_home method_4_code 4 (some FieldType.int) [(0, 9, 12, 19)] ∈ BIG := inB8 _ (List.mem_of_getElem? (i := 28) rfl)
theorem k_La_19 : Cond.classLink "MachineTablesLaw" 19 "java/lang/ArithmeticException" ∈ BIG := inB8 _ (List.mem_of_getElem? (i := 29) rfl)
theorem k_La_15 : Cond.methodLink "MachineTablesLaw" 15 y_MT_home ∈ BIG := inB8 _ (List.mem_of_getElem? (i := 30) rfl)
theorem ki_MT_home : Cond.instanceMethod y_MT_home ∈ BIG := inB8 _ (List.mem_of_getElem? (i := 31) rfl)
theorem kl_MT_home : Cond.selects "MachineTables" y_MT_home y_MT_home ∈ BIG := inB8 _ (List.mem_of_getElem? (i := 32) rfl)
theorem kc_MT_home : Cond.code y_MT_home prog_1_method_11_code 4 (some FieldType.int) ∈ BIG := inB8 _ (List.mem_of_getElem? (i := 33) rfl)
theorem k_MT_118 : Cond.methodLink "MachineTables" 118 y_MT_seekHomed ∈ BIG := inB8 _ (List.mem_of_getElem? (i := 34) rfl)
theorem ki_MT_seekHomed : Cond.instanceMethod y_MT_seekHomed ∈ BIG := inB8 _ (List.mem_of_getElem? (i := 35) rfl)
theorem kc_MT_seekHomed : Cond.code y_MT_seekHomed prog_1_method_25_code 5 (some FieldType.int) ∈ BIG := inB8 _ (List.mem_of_getElem? (i := 36) rfl)
theorem k_MT_177 : Cond.methodLink "MachineTables" 177 y_Fa_begin ∈ BIG := inB8 _ (List.mem_of_getElem? (i := 37) rfl)
theorem ki_Fa_begin : Cond.instanceMethod y_Fa_begin ∈ BIG := inB8 _ (List.mem_of_getElem? (i := 38) rfl)
theorem kl_Fa_begin : Cond.selects "MachineTables$Families" y_Fa_begin y_Fa_begin ∈ BIG := inB8 _ (List.mem_of_getElem? (i := 39) rfl)
theorem kc_Fa_begin : Cond.code y_Fa_begin prog_2_method_2_code 4 (Option.none : Option Jvm.ClassFile.FieldType) ∈ BIG := inB9 _ (List.mem_of_getElem? (i := 0) rfl)
theorem k_Fa_30 : Cond.methodLink "MachineTables$Families" 30 y_Ma_leastLike ∈ BIG := inB9 _ (List.mem_of_getElem? (i := 1) rfl)
theorem k_Fa_34 : Cond.methodLink "MachineTables$Families" 34 y_Fa_put ∈ BIG := inB9 _ (List.mem_of_getElem? (i := 2) rfl)
theorem ki_Fa_put : Cond.instanceMethod y_Fa_put ∈ BIG := inB9 _ (List.mem_of_getElem? (i := 3) rfl)
theorem kc_Fa_put : Cond.code y_Fa_put prog_2_method_6_code 4 (Option.none : Option Jvm.ClassFile.FieldType) ∈ BIG := inB9 _ (List.mem_of_getElem? (i := 4) rfl)
theorem k_Fa_55 : Cond.methodLink "MachineTables$Families" 55 y_Fa_liesInOne ∈ BIG := inB9 _ (List.mem_of_getElem? (i := 5) rfl)
theorem ki_Fa_liesInOne : Cond.instanceMethod y_Fa_liesInOne ∈ BIG := inB9 _ (List.mem_of_getElem? (i := 6) rfl)
theorem kc_Fa_liesInOne : Cond.code y_Fa_liesInOne prog_2_method_7_code 3 (some FieldType.boolean) ∈ BIG := inB9 _ (List.mem_of_getElem? (i := 7) rfl)
theorem k_Fa_59 : Cond.methodLink "MachineTables$Families" 59 y_Fa_leaveOutThoseIn ∈ BIG := inB9 _ (List.mem_of_getElem? (i := 8) rfl)
theorem ki_Fa_leaveOutThoseIn : Cond.instanceMethod y_Fa_leaveOutThoseIn ∈ BIG := inB9 _ (List.mem_of_getElem? (i := 9) rfl)
theorem kc_Fa_leaveOutThoseIn : Cond.code y_Fa_leaveOutThoseIn prog_2_method_8_code 6 (Option.none : Option Jvm.ClassFile.FieldType) ∈ BIG := inB9 _ (List.mem_of_getElem? (i := 10) rfl)
theorem k_MT_179 : Cond.methodLink "MachineTables" 179 y_Fa_openOneIsSingles ∈ BIG := inB9 _ (List.mem_of_getElem? (i := 11) rfl)
theorem ki_Fa_openOneIsSingles : Cond.instanceMethod y_Fa_openOneIsSingles ∈ BIG := inB9 _ (List.mem_of_getElem? (i := 12) rfl)
theorem kl_Fa_openOneIsSingles : Cond.selects "MachineTables$Families" y_Fa_openOneIsSingles y_Fa_openOneIsSingles ∈ BIG := inB9 _ (List.mem_of_getElem? (i := 13) rfl)
theorem kc_Fa_openOneIsSingles : Cond.code y_Fa_openOneIsSingles prog_2_method_9_code 2 (some FieldType.boolean) ∈ BIG := inB9 _ (List.mem_of_getElem? (i := 14) rfl)
theorem k_Fa_62 : Cond.methodLink "MachineTables$Families" 62 y_In_bitCount ∈ BIG := inB9 _ (List.mem_of_getElem? (i := 15) rfl)
theorem k_MT_182 : Cond.methodLink "MachineTables" 182 y_Fa_keepOpenOne ∈ BIG := inB9 _ (List.mem_of_getElem? (i := 16) rfl)
theorem ki_Fa_keepOpenOne : Cond.instanceMethod y_Fa_keepOpenOne ∈ BIG := inB9 _ (List.mem_of_getElem? (i := 17) rfl)
theorem kl_Fa_keepOpenOne : Cond.selects "MachineTables$Families" y_Fa_keepOpenOne y_Fa_keepOpenOne ∈ BIG := inB9 _ (List.mem_of_getElem? (i := 18) rfl)
theorem kc_Fa_keepOpenOne : Cond.code y_Fa_keepOpenOne prog_2_method_3_code 1 (Option.none : Option Jvm.ClassFile.FieldType) ∈ BIG := inB9 _ (List.mem_of_getElem? (i := 19) rfl)
theorem k_MT_186 : Cond.methodLink "MachineTables" 186 y_Fa_follow ∈ BIG := inB9 _ (List.mem_of_getElem? (i := 20) rfl)
theorem ki_Fa_follow : Cond.instanceMethod y_Fa_follow ∈ BIG := inB9 _ (List.mem_of_getElem? (i := 21) rfl)
theorem kl_Fa_follow : Cond.selects "MachineTables$Families" y_Fa_follow y_Fa_follow ∈ BIG := inB9 _ (List.mem_of_getElem? (i := 22) rfl)
theorem kc_Fa_follow : Cond.code y_Fa_follow prog_2_method_4_code 5 (Option.none : Option Jvm.ClassFile.FieldType) ∈ BIG := inB9 _ (List.mem_of_getElem? (i := 23) rfl)
theorem k_Fa_38 : Cond.methodLink "MachineTables$Families" 38 y_Fa_putParted ∈ BIG := inB9 _ (List.mem_of_getElem? (i := 24) rfl)
theorem ki_Fa_putParted : Cond.instanceMethod y_Fa_putParted ∈ BIG := inB9 _ (List.mem_of_getElem? (i := 25) rfl)
theorem kc_Fa_putParted : Cond.code y_Fa_putParted prog_2_method_5_code 5 (Option.none : Option Jvm.ClassFile.FieldType) ∈ BIG := inB9 _ (List.mem_of_getElem? (i := 26) rfl)
theorem k_Fa_42 : Cond.methodLink "MachineTables$Families" 42 y_Ar_fill2 ∈ BIG := inB9 _ (List.mem_of_getElem? (i := 27) rfl)
theorem ks_Ar_fill2 : Cond.static y_Ar_fill2 ∈ BIG := inB9 _ (List.mem_of_getElem? (i := 28) rfl)
theorem kc_Ar_fill2 : Cond.code y_Ar_fill2 prog_21_method_103_code 4 (Option.none : Option Jvm.ClassFile.FieldType) ∈ BIG := inB9 _ (List.mem_of_getElem? (i := 29) rfl)
theorem k_Fa_48 : Cond.methodLink "MachineTables$Families" 48 y_Ma_outputOf ∈ BIG := inB9 _ (List.mem_of_getElem? (i := 30) rfl)
theorem k_Fa_52 : Cond.methodLink "MachineTables$Families" 52 y_Ma_nextOf ∈ BIG := inB9 _ (List.mem_of_getElem? (i := 31) rfl)
theorem k_MT_190 : Cond.methodLink "MachineTables" 190 y_Fa_openOneIsKnown ∈ BIG := inB9 _ (List.mem_of_getElem? (i := 32) rfl)
theorem ki_Fa_openOneIsKnown : Cond.instanceMethod y_Fa_openOneIsKnown ∈ BIG := inB9 _ (List.mem_of_getElem? (i := 33) rfl)
theorem kl_Fa_openOneIsKnown : Cond.selects "MachineTables$Families" y_Fa_openOneIsKnown y_Fa_openOneIsKnown ∈ BIG := inB9 _ (List.mem_of_getElem? (i := 34) rfl)
theorem kc_Fa_openOneIsKnown : Cond.code y_Fa_openOneIsKnown prog_2_method_10_code 2 (some FieldType.boolean) ∈ BIG := inB9 _ (List.mem_of_getElem? (i := 35) rfl)
theorem k_Fa_67 : Cond.methodLink "MachineTables$Families" 67 y_Fa_openOneIs ∈ BIG := inB9 _ (List.mem_of_getElem? (i := 36) rfl)
theorem ki_Fa_openOneIs : Cond.instanceMethod y_Fa_openOneIs ∈ BIG := inB9 _ (List.mem_of_getElem? (i := 37) rfl)
theorem kc_Fa_openOneIs : Cond.code y_Fa_openOneIs prog_2_method_11_code 3 (some FieldType.boolean) ∈ BIG := inB9 _ (List.mem_of_getElem? (i := 38) rfl)
theorem k_MT_121 : Cond.classLink "MachineTables" 121 "java/lang/ArithmeticException" ∈ BIG := inB9 _ (List.mem_of_getElem? (i := 39) rfl)
theorem kt_XA : Cond.instantiable "java/lang/ArithmeticException" 6 ∈ BIG := inB10 _ (List.mem_of_getElem? (i := 0) rfl)
theorem kl_XT_fillInStackTrace_XA : Cond.selects "java/lang/ArithmeticException" y_XT_fillInStackTrace y_XT_fillInStackTrace ∈ BIG := inB10 _ (List.mem_of_getElem? (i := 1) rfl)
theorem k_MT_125 : Cond.methodLink "MachineTables" 125 y_XA_init ∈ BIG := inB10 _ (List.mem_of_getElem? (i := 7) rfl)
theorem ki_XA_init : Cond.instanceMethod y_XA_init ∈ BIG := inB10 _ (List.mem_of_getElem? (i := 8) rfl)
theorem kc_XA_init : Cond.code y_XA_init prog_8_method_2_code 2 (Option.none : Option Jvm.ClassFile.FieldType) ∈ BIG := inB10 _ (List.mem_of_getElem? (i := 9) rfl)
theorem k_XA_7 : Cond.methodLink "java/lang/ArithmeticException" 7 y_XR_init ∈ BIG := inB10 _ (List.mem_of_getElem? (i := 10) rfl)
theorem k_La_82 : Cond.methodLink "MachineTablesLaw" 82 y_La_chain ∈ BIG := inB10 _ (List.mem_of_getElem? (i := 13) rfl)
theorem ks_La_chain : Cond.static y_La_chain ∈ BIG := inB10 _ (List.mem_of_getElem? (i := 14) rfl)
theorem kc_La_chain : Cond.codeWith y_La_chain method_5_code 5 (some FieldType.int) [(0, 10, 13, 19)] ∈ BIG := inB10 _ (List.mem_of_getElem? (i := 15) rfl)
theorem k_La_21 : Cond.methodLink "MachineTablesLaw" 21 y_MT_chain ∈ BIG := inB10 _ (List.mem_of_getElem? (i := 16) rfl)
theorem ki_MT_chain : Cond.instanceMethod y_MT_chain ∈ BIG := inB10 _ (List.mem_of_getElem? (i := 17) rfl)
theorem kl_MT_chain : Cond.selects "MachineTables" y_MT_chain y_MT_chain ∈ BIG := inB10 _ (List.mem_of_getElem? (i := 18) rfl)
theorem kc_MT_chain : Cond.code y_MT_chain prog_1_method_12_code 11 (some FieldType.int) ∈ BIG := inB10 _ (List.mem_of_getElem? (i := 19) rfl)
theorem k_MT_126 : Cond.methodLink "MachineTables" 126 y_MT_numberPairs ∈ BIG := inB10 _ (List.mem_of_getElem? (i := 20) rfl)
theorem ki_MT_numberPairs : Cond.instanceMethod y_MT_numberPairs ∈ BIG := inB10 _ (List.mem_of_getElem? (i := 21) rfl)
theorem kc_MT_numberPairs : Cond.code y_MT_numberPairs prog_1_method_26_code 6 (some FieldType.boolean) ∈ BIG := inB10 _ (List.mem_of_getElem? (i := 22) rfl)
theorem k_MT_135 : Cond.methodLink "MachineTables" 135 y_MT_pairBehind ∈ BIG := inB10 _ (List.mem_of_getElem? (i := 23) rfl)
theorem ks_MT_pairBehind : Cond.static y_MT_pairBehind ∈ BIG := inB10 _ (List.mem_of_getElem? (i := 24) rfl)
theorem kc_MT_pairBehind : Cond.code y_MT_pairBehind prog_1_method_27_code 5 (some FieldType.int) ∈ BIG := inB10 _ (List.mem_of_getElem? (i := 25) rfl)
theorem k_La_86 : Cond.methodLink "MachineTablesLaw" 86 y_La_letter ∈ BIG := inB10 _ (List.mem_of_getElem? (i := 26) rfl)
theorem ks_La_letter : Cond.static y_La_letter ∈ BIG := inB10 _ (List.mem_of_getElem? (i := 27) rfl)
theorem kc_La_letter : Cond.codeWith y_La_letter method_6_code 4 (some FieldType.int) [(0, 9, 12, 28)] ∈ BIG := inB10 _ (List.mem_of_getElem? (i := 28) rfl)
theorem k_La_28 : Cond.classLink "MachineTablesLaw" 28 "java/util/NoSuchElementException" ∈ BIG := inB10 _ (List.mem_of_getElem? (i := 29) rfl)
theorem k_La_25 : Cond.methodLink "MachineTablesLaw" 25 y_MT_letter ∈ BIG := inB10 _ (List.mem_of_getElem? (i := 30) rfl)
theorem ki_MT_letter : Cond.instanceMethod y_MT_letter ∈ BIG := inB10 _ (List.mem_of_getElem? (i := 31) rfl)
theorem kl_MT_letter : Cond.selects "MachineTables" y_MT_letter y_MT_letter ∈ BIG := inB10 _ (List.mem_of_getElem? (i := 32) rfl)
theorem kc_MT_letter : Cond.code y_MT_letter prog_1_method_13_code 2 (some FieldType.int) ∈ BIG := inB10 _ (List.mem_of_getElem? (i := 33) rfl)
theorem k_MT_142 : Cond.classLink "MachineTables" 142 "java/util/NoSuchElementException" ∈ BIG := inB10 _ (List.mem_of_getElem? (i := 34) rfl)
theorem kt_XN : Cond.instantiable "java/util/NoSuchElementException" 6 ∈ BIG := inB10 _ (List.mem_of_getElem? (i := 35) rfl)
theorem kl_XT_fillInStackTrace_XN : Cond.selects "java/util/NoSuchElementException" y_XT_fillInStackTrace y_XT_fillInStackTrace ∈ BIG := inB10 _ (List.mem_of_getElem? (i := 36) rfl)
theorem k_MT_146 : Cond.methodLink "MachineTables" 146 y_XN_init ∈ BIG := inB11 _ (List.mem_of_getElem? (i := 2) rfl)
theorem ki_XN_init : Cond.instanceMethod y_XN_init ∈ BIG := inB11 _ (List.mem_of_getElem? (i := 3) rfl)
theorem kc_XN_init : Cond.code y_XN_init prog_22_method_4_code 2 (Option.none : Option Jvm.ClassFile.FieldType) ∈ BIG := inB11 _ (List.mem_of_getElem? (i := 4) rfl)
theorem k_XN_13 : Cond.methodLink "java/util/NoSuchElementException" 13 y_XR_init ∈ BIG := inB11 _ (List.mem_of_getElem? (i := 5) rfl)
theorem k_La_31 : Cond.classLink "MachineTablesLaw" 31 "MachineTablesModel" ∈ BIG := inB11 _ (List.mem_of_getElem? (i := 8) rfl)
theorem kt_Mo : Cond.instantiable "MachineTablesModel" 19 ∈ BIG := inB11 _ (List.mem_of_getElem? (i := 9) rfl)
theorem k_La_33 : Cond.methodLink "MachineTablesLaw" 33 y_Mo_init ∈ BIG := inB11 _ (List.mem_of_getElem? (i := 10) rfl)
theorem ki_Mo_init : Cond.instanceMethod y_Mo_init ∈ BIG := inB11 _ (List.mem_of_getElem? (i := 11) rfl)
theorem kc_Mo_init : Cond.code y_Mo_init prog_6_method_1_code 1 (Option.none : Option Jvm.ClassFile.FieldType) ∈ BIG := inB11 _ (List.mem_of_getElem? (i := 12) rfl)
theorem k_Mo_1 : Cond.methodLink "MachineTablesModel" 1 objectInit ∈ BIG := inB11 _ (List.mem_of_getElem? (i := 13) rfl)
theorem k_Mo_53 : Cond.fieldLink "MachineTablesModel" 53 "MachineTablesModel" "thrown" "I" ∈ BIG := inB11 _ (List.mem_of_getElem? (i := 14) rfl)
theorem k_Mo_57 : Cond.fieldLink "MachineTablesModel" 57 "MachineTablesModel" "machines" "I" ∈ BIG := inB11 _ (List.mem_of_getElem? (i := 15) rfl)
theorem k_Mo_7 : Cond.fieldLink "MachineTablesModel" 7 "MachineTablesModel" "states" "[I" ∈ BIG := inB11 _ (List.mem_of_getElem? (i := 16) rfl)
theorem k_Mo_13 : Cond.fieldLink "MachineTablesModel" 13 "MachineTablesModel" "inputs" "[I" ∈ BIG := inB11 _ (List.mem_of_getElem? (i := 17) rfl)
theorem k_Mo_16 : Cond.fieldLink "MachineTablesModel" 16 "MachineTablesModel" "next" "[I" ∈ BIG := inB11 _ (List.mem_of_getElem? (i := 18) rfl)
theorem k_Mo_19 : Cond.fieldLink "MachineTablesModel" 19 "MachineTablesModel" "output" "[I" ∈ BIG := inB11 _ (List.mem_of_getElem? (i := 19) rfl)
theorem k_Mo_94 : Cond.fieldLink "MachineTablesModel" 94 "MachineTablesModel" "length" "I" ∈ BIG := inB11 _ (List.mem_of_getElem? (i := 20) rfl)
theorem k_Mo_22 : Cond.fieldLink "MachineTablesModel" 22 "MachineTablesModel" "word" "[I" ∈ BIG := inB11 _ (List.mem_of_getElem? (i := 21) rfl)
theorem k_Mo_25 : Cond.fieldLink "MachineTablesModel" 25 "MachineTablesModel" "apart" "[Z" ∈ BIG := inB11 _ (List.mem_of_getElem? (i := 22) rfl)
theorem k_Mo_87 : Cond.fieldLink "MachineTablesModel" 87 "MachineTablesModel" "found" "I" ∈ BIG := inB11 _ (List.mem_of_getElem? (i := 23) rfl)
theorem k_Mo_29 : Cond.fieldLink "MachineTablesModel" 29 "MachineTablesModel" "seen" "[I" ∈ BIG := inB11 _ (List.mem_of_getElem? (i := 24) rfl)
theorem k_Mo_32 : Cond.fieldLink "MachineTablesModel" 32 "MachineTablesModel" "from" "[I" ∈ BIG := inB11 _ (List.mem_of_getElem? (i := 25) rfl)
theorem k_Mo_35 : Cond.fieldLink "MachineTablesModel" 35 "MachineTablesModel" "by" "[I" ∈ BIG := inB11 _ (List.mem_of_getElem? (i := 26) rfl)
theorem k_Mo_38 : Cond.fieldLink "MachineTablesModel" 38 "MachineTablesModel" "isSeen" "[Z" ∈ BIG := inB11 _ (List.mem_of_getElem? (i := 27) rfl)
theorem k_Mo_126 : Cond.fieldLink "MachineTablesModel" 126 "MachineTablesModel" "tries" "I" ∈ BIG := inB11 _ (List.mem_of_getElem? (i := 28) rfl)
theorem k_Mo_41 : Cond.fieldLink "MachineTablesModel" 41 "MachineTablesModel" "many" "[I" ∈ BIG := inB11 _ (List.mem_of_getElem? (i := 29) rfl)
theorem k_Mo_44 : Cond.fieldLink "MachineTablesModel" 44 "MachineTablesModel" "sets" "[I" ∈ BIG := inB11 _ (List.mem_of_getElem? (i := 30) rfl)
theorem k_Mo_47 : Cond.fieldLink "MachineTablesModel" 47 "MachineTablesModel" "triedFrom" "[I" ∈ BIG := inB11 _ (List.mem_of_getElem? (i := 31) rfl)
theorem k_Mo_50 : Cond.fieldLink "MachineTablesModel" 50 "MachineTablesModel" "triedBy" "[I" ∈ BIG := inB11 _ (List.mem_of_getElem? (i := 32) rfl)
theorem ka_boolean : Cond.arrayClass FieldType.boolean ∈ BIG := inB12 _ (List.mem_of_getElem? (i := 32) rfl)
theorem k_La_62 : Cond.methodLink "MachineTablesLaw" 62 y_Mo_thrown ∈ BIG := inB12 _ (List.mem_of_getElem? (i := 33) rfl)
theorem ki_Mo_thrown : Cond.instanceMethod y_Mo_thrown ∈ BIG := inB12 _ (List.mem_of_getElem? (i := 34) rfl)
theorem kl_Mo_thrown : Cond.selects "MachineTablesModel" y_Mo_thrown y_Mo_thrown ∈ BIG := inB12 _ (List.mem_of_getElem? (i := 35) rfl)
theorem kc_Mo_thrown : Cond.code y_Mo_thrown prog_6_method_2_code 1 (some FieldType.int) ∈ BIG := inB12 _ (List.mem_of_getElem? (i := 36) rfl)
theorem k_La_37 : Cond.methodLink "MachineTablesLaw" 37 y_Mo_machine ∈ BIG := inB12 _ (List.mem_of_getElem? (i := 37) rfl)
theorem ki_Mo_machine : Cond.instanceMethod y_Mo_machine ∈ BIG := inB12 _ (List.mem_of_getElem? (i := 38) rfl)
theorem kl_Mo_machine : Cond.selects "MachineTablesModel" y_Mo_machine y_Mo_machine ∈ BIG := inB12 _ (List.mem_of_getElem? (i := 39) rfl)
theorem kc_Mo_machine : Cond.code y_Mo_machine prog_6_method_8_code 3 (some FieldType.int) ∈ BIG := inB13 _ (List.mem_of_getElem? (i := 0) rfl)
theorem k_Mo_60 : Cond.methodLink "MachineTablesModel" 60 y_Mo_in ∈ BIG := inB13 _ (List.mem_of_getElem? (i := 1) rfl)
theorem ks_Mo_in : Cond.static y_Mo_in ∈ BIG := inB13 _ (List.mem_of_getElem? (i := 2) rfl)
theorem kc_Mo_in : Cond.code y_Mo_in prog_6_method_4_code 3 (some FieldType.boolean) ∈ BIG := inB13 _ (List.mem_of_getElem? (i := 3) rfl)
theorem k_Mo_68 : Cond.methodLink "MachineTablesModel" 68 y_Mo_newMachine ∈ BIG := inB13 _ (List.mem_of_getElem? (i := 4) rfl)
theorem ki_Mo_newMachine : Cond.instanceMethod y_Mo_newMachine ∈ BIG := inB13 _ (List.mem_of_getElem? (i := 5) rfl)
theorem kc_Mo_newMachine : Cond.code y_Mo_newMachine prog_6_method_7_code 5 (some FieldType.int) ∈ BIG := inB13 _ (List.mem_of_getElem? (i := 6) rfl)
theorem k_La_42 : Cond.methodLink "MachineTablesLaw" 42 y_Mo_arrow ∈ BIG := inB13 _ (List.mem_of_getElem? (i := 7) rfl)
theorem ki_Mo_arrow : Cond.instanceMethod y_Mo_arrow ∈ BIG := inB13 _ (List.mem_of_getElem? (i := 8) rfl)
theorem kl_Mo_arrow : Cond.selects "MachineTablesModel" y_Mo_arrow y_Mo_arrow ∈ BIG := inB13 _ (List.mem_of_getElem? (i := 9) rfl)
theorem kc_Mo_arrow : Cond.code y_Mo_arrow prog_6_method_9_code 6 (some FieldType.boolean) ∈ BIG := inB13 _ (List.mem_of_getElem? (i := 10) rfl)
theorem k_Mo_72 : Cond.methodLink "MachineTablesModel" 72 y_Mo_isState ∈ BIG := inB13 _ (List.mem_of_getElem? (i := 11) rfl)
theorem ki_Mo_isState : Cond.instanceMethod y_Mo_isState ∈ BIG := inB13 _ (List.mem_of_getElem? (i := 12) rfl)
theorem kc_Mo_isState : Cond.code y_Mo_isState prog_6_method_6_code 3 (some FieldType.boolean) ∈ BIG := inB13 _ (List.mem_of_getElem? (i := 13) rfl)
theorem k_Mo_64 : Cond.methodLink "MachineTablesModel" 64 y_Mo_isMachine ∈ BIG := inB13 _ (List.mem_of_getElem? (i := 14) rfl)
theorem ki_Mo_isMachine : Cond.instanceMethod y_Mo_isMachine ∈ BIG := inB13 _ (List.mem_of_getElem? (i := 15) rfl)
theorem kc_Mo_isMachine : Cond.code y_Mo_isMachine prog_6_method_5_code 2 (some FieldType.boolean) ∈ BIG := inB13 _ (List.mem_of_getElem? (i := 16) rfl)
theorem k_La_47 : Cond.methodLink "MachineTablesLaw" 47 y_Mo_look ∈ BIG := inB13 _ (List.mem_of_getElem? (i := 17) rfl)
theorem ki_Mo_look : Cond.instanceMethod y_Mo_look ∈ BIG := inB13 _ (List.mem_of_getElem? (i := 18) rfl)
theorem kl_Mo_look : Cond.selects "MachineTablesModel" y_Mo_look y_Mo_look ∈ BIG := inB13 _ (List.mem_of_getElem? (i := 19) rfl)
theorem kc_Mo_look : Cond.code y_Mo_look prog_6_method_10_code 5 (some FieldType.int) ∈ BIG := inB13 _ (List.mem_of_getElem? (i := 20) rfl)
theorem k_La_51 : Cond.methodLink "MachineTablesLaw" 51 y_Mo_classes ∈ BIG := inB13 _ (List.mem_of_getElem? (i := 21) rfl)
theorem ki_Mo_classes : Cond.instanceMethod y_Mo_classes ∈ BIG := inB13 _ (List.mem_of_getElem? (i := 22) rfl)
theorem kl_Mo_classes : Cond.selects "MachineTablesModel" y_Mo_classes y_Mo_classes ∈ BIG := inB13 _ (List.mem_of_getElem? (i := 23) rfl)
theorem kc_Mo_classes : Cond.code y_Mo_classes prog_6_method_14_code 4 (some FieldType.int) ∈ BIG := inB13 _ (List.mem_of_getElem? (i := 24) rfl)
theorem k_Mo_79 : Cond.methodLink "MachineTablesModel" 79 y_Mo_mark ∈ BIG := inB13 _ (List.mem_of_getElem? (i := 25) rfl)
theorem ki_Mo_mark : Cond.instanceMethod y_Mo_mark ∈ BIG := inB13 _ (List.mem_of_getElem? (i := 26) rfl)
theorem kc_Mo_mark : Cond.code y_Mo_mark prog_6_method_12_code 5 (Option.none : Option Jvm.ClassFile.FieldType) ∈ BIG := inB13 _ (List.mem_of_getElem? (i := 27) rfl)
theorem k_Mo_76 : Cond.methodLink "MachineTablesModel" 76 y_Mo_isApart ∈ BIG := inB13 _ (List.mem_of_getElem? (i := 28) rfl)
theorem ki_Mo_isApart : Cond.instanceMethod y_Mo_isApart ∈ BIG := inB13 _ (List.mem_of_getElem? (i := 29) rfl)
theorem kc_Mo_isApart : Cond.code y_Mo_isApart prog_6_method_11_code 7 (some FieldType.boolean) ∈ BIG := inB13 _ (List.mem_of_getElem? (i := 30) rfl)
theorem k_Mo_83 : Cond.methodLink "MachineTablesModel" 83 y_Mo_firstLike ∈ BIG := inB13 _ (List.mem_of_getElem? (i := 31) rfl)
theorem ki_Mo_firstLike : Cond.instanceMethod y_Mo_firstLike ∈ BIG := inB13 _ (List.mem_of_getElem? (i := 32) rfl)
theorem kc_Mo_firstLike : Cond.code y_Mo_firstLike prog_6_method_13_code 3 (some FieldType.int) ∈ BIG := inB13 _ (List.mem_of_getElem? (i := 33) rfl)
theorem k_La_55 : Cond.methodLink "MachineTablesLaw" 55 y_Mo_like ∈ BIG := inB13 _ (List.mem_of_getElem? (i := 34) rfl)
theorem ki_Mo_like : Cond.instanceMethod y_Mo_like ∈ BIG := inB13 _ (List.mem_of_getElem? (i := 35) rfl)
theorem kl_Mo_like : Cond.selects "MachineTablesModel" y_Mo_like y_Mo_like ∈ BIG := inB13 _ (List.mem_of_getElem? (i := 36) rfl)
theorem kc_Mo_like : Cond.code y_Mo_like prog_6_method_15_code 3 (some FieldType.int) ∈ BIG := inB13 _ (List.mem_of_getElem? (i := 37) rfl)
theorem k_La_61 : Cond.methodLink "MachineTablesLaw" 61 y_Mo_alike ∈ BIG := inB13 _ (List.mem_of_getElem? (i := 38) rfl)
theorem ki_Mo_alike : Cond.instanceMethod y_Mo_alike ∈ BIG := inB13 _ (List.mem_of_getElem? (i := 39) rfl)
theorem kl_Mo_alike : Cond.selects "MachineTablesModel" y_Mo_alike y_Mo_alike ∈ BIG := inB14 _ (List.mem_of_getElem? (i := 0) rfl)
theorem kc_Mo_alike : Cond.code y_Mo_alike prog_6_method_19_code 9 (some FieldType.boolean) ∈ BIG := inB14 _ (List.mem_of_getElem? (i := 1) rfl)
theorem k_Mo_97 : Cond.methodLink "MachineTablesModel" 97 y_Mo_begin ∈ BIG := inB14 _ (List.mem_of_getElem? (i := 2) rfl)
theorem ki_Mo_begin : Cond.instanceMethod y_Mo_begin ∈ BIG := inB14 _ (List.mem_of_getElem? (i := 3) rfl)
theorem kc_Mo_begin : Cond.code y_Mo_begin prog_6_method_16_code 3 (Option.none : Option Jvm.ClassFile.FieldType) ∈ BIG := inB14 _ (List.mem_of_getElem? (i := 4) rfl)
theorem k_Mo_90 : Cond.methodLink "MachineTablesModel" 90 y_Mo_come ∈ BIG := inB14 _ (List.mem_of_getElem? (i := 5) rfl)
theorem ki_Mo_come : Cond.instanceMethod y_Mo_come ∈ BIG := inB14 _ (List.mem_of_getElem? (i := 6) rfl)
theorem kc_Mo_come : Cond.code y_Mo_come prog_6_method_17_code 4 (Option.none : Option Jvm.ClassFile.FieldType) ∈ BIG := inB14 _ (List.mem_of_getElem? (i := 7) rfl)
theorem k_Mo_100 : Cond.methodLink "MachineTablesModel" 100 y_Mo_tell ∈ BIG := inB14 _ (List.mem_of_getElem? (i := 8) rfl)
theorem ki_Mo_tell : Cond.instanceMethod y_Mo_tell ∈ BIG := inB14 _ (List.mem_of_getElem? (i := 9) rfl)
theorem kc_Mo_tell : Cond.code y_Mo_tell prog_6_method_18_code 5 (Option.none : Option Jvm.ClassFile.FieldType) ∈ BIG := inB14 _ (List.mem_of_getElem? (i := 10) rfl)
theorem k_La_69 : Cond.methodLink "MachineTablesLaw" 69 y_Mo_least ∈ BIG := inB14 _ (List.mem_of_getElem? (i := 11) rfl)
theorem ki_Mo_least : Cond.instanceMethod y_Mo_least ∈ BIG := inB14 _ (List.mem_of_getElem? (i := 12) rfl)
theorem kl_Mo_least : Cond.selects "MachineTablesModel" y_Mo_least y_Mo_least ∈ BIG := inB14 _ (List.mem_of_getElem? (i := 13) rfl)
theorem kc_Mo_least : Cond.code y_Mo_least prog_6_method_22_code 5 (some FieldType.int) ∈ BIG := inB14 _ (List.mem_of_getElem? (i := 14) rfl)
theorem k_Mo_104 : Cond.methodLink "MachineTablesModel" 104 y_Mo_findParts ∈ BIG := inB14 _ (List.mem_of_getElem? (i := 15) rfl)
theorem ki_Mo_findParts : Cond.instanceMethod y_Mo_findParts ∈ BIG := inB14 _ (List.mem_of_getElem? (i := 16) rfl)
theorem kc_Mo_findParts : Cond.code y_Mo_findParts prog_6_method_20_code 4 (Option.none : Option Jvm.ClassFile.FieldType) ∈ BIG := inB14 _ (List.mem_of_getElem? (i := 17) rfl)
theorem k_Mo_107 : Cond.methodLink "MachineTablesModel" 107 y_Mo_partOf ∈ BIG := inB14 _ (List.mem_of_getElem? (i := 18) rfl)
theorem ki_Mo_partOf : Cond.instanceMethod y_Mo_partOf ∈ BIG := inB14 _ (List.mem_of_getElem? (i := 19) rfl)
theorem kc_Mo_partOf : Cond.code y_Mo_partOf prog_6_method_21_code 4 (some FieldType.int) ∈ BIG := inB14 _ (List.mem_of_getElem? (i := 20) rfl)
theorem k_La_73 : Cond.methodLink "MachineTablesLaw" 73 y_Mo_part ∈ BIG := inB14 _ (List.mem_of_getElem? (i := 21) rfl)
theorem ki_Mo_part : Cond.instanceMethod y_Mo_part ∈ BIG := inB14 _ (List.mem_of_getElem? (i := 22) rfl)
theorem kl_Mo_part : Cond.selects "MachineTablesModel" y_Mo_part y_Mo_part ∈ BIG := inB14 _ (List.mem_of_getElem? (i := 23) rfl)
theorem kc_Mo_part : Cond.code y_Mo_part prog_6_method_23_code 3 (some FieldType.int) ∈ BIG := inB14 _ (List.mem_of_getElem? (i := 24) rfl)
theorem k_La_77 : Cond.methodLink "MachineTablesLaw" 77 y_Mo_reset ∈ BIG := inB14 _ (List.mem_of_getElem? (i := 25) rfl)
theorem ki_Mo_reset : Cond.instanceMethod y_Mo_reset ∈ BIG := inB14 _ (List.mem_of_getElem? (i := 26) rfl)
theorem kl_Mo_reset : Cond.selects "MachineTablesModel" y_Mo_reset y_Mo_reset ∈ BIG := inB14 _ (List.mem_of_getElem? (i := 27) rfl)
theorem kc_Mo_reset : Cond.code y_Mo_reset prog_6_method_26_code 4 (some FieldType.int) ∈ BIG := inB14 _ (List.mem_of_getElem? (i := 28) rfl)
theorem k_Mo_110 : Cond.methodLink "MachineTablesModel" 110 y_Mo_ones ∈ BIG := inB14 _ (List.mem_of_getElem? (i := 29) rfl)
theorem ks_Mo_ones : Cond.static y_Mo_ones ∈ BIG := inB14 _ (List.mem_of_getElem? (i := 30) rfl)
theorem kc_Mo_ones : Cond.code y_Mo_ones prog_6_method_24_code 3 (some FieldType.int) ∈ BIG := inB14 _ (List.mem_of_getElem? (i := 31) rfl)
theorem k_Mo_113 : Cond.methodLink "MachineTablesModel" 113 y_Mo_moved ∈ BIG := inB14 _ (List.mem_of_getElem? (i := 32) rfl)
theorem ki_Mo_moved : Cond.instanceMethod y_Mo_moved ∈ BIG := inB14 _ (List.mem_of_getElem? (i := 33) rfl)
theorem kc_Mo_moved : Cond.code y_Mo_moved prog_6_method_25_code 6 (some FieldType.int) ∈ BIG := inB14 _ (List.mem_of_getElem? (i := 34) rfl)
theorem k_La_81 : Cond.methodLink "MachineTablesLaw" 81 y_Mo_home ∈ BIG := inB14 _ (List.mem_of_getElem? (i := 35) rfl)
theorem ki_Mo_home : Cond.instanceMethod y_Mo_home ∈ BIG := inB14 _ (List.mem_of_getElem? (i := 36) rfl)
theorem kl_Mo_home : Cond.selects "MachineTablesModel" y_Mo_home y_Mo_home ∈ BIG := inB14 _ (List.mem_of_getElem? (i := 37) rfl)
theorem kc_Mo_home : Cond.code y_Mo_home prog_6_method_32_code 5 (some FieldType.int) ∈ BIG := inB14 _ (List.mem_of_getElem? (i := 38) rfl)
theorem k_Mo_117 : Cond.methodLink "MachineTablesModel" 117 y_Mo_put ∈ BIG := inB14 _ (List.mem_of_getElem? (i := 39) rfl)
theorem ki_Mo_put : Cond.instanceMethod y_Mo_put ∈ BIG := inB15 _ (List.mem_of_getElem? (i := 0) rfl)
theorem kc_Mo_put : Cond.code y_Mo_put prog_6_method_27_code 6 (Option.none : Option Jvm.ClassFile.FieldType) ∈ BIG := inB15 _ (List.mem_of_getElem? (i := 1) rfl)
theorem k_Mo_120 : Cond.methodLink "MachineTablesModel" 120 y_Mo_isHome ∈ BIG := inB15 _ (List.mem_of_getElem? (i := 2) rfl)
theorem ki_Mo_isHome : Cond.instanceMethod y_Mo_isHome ∈ BIG := inB15 _ (List.mem_of_getElem? (i := 3) rfl)
theorem kc_Mo_isHome : Cond.code y_Mo_isHome prog_6_method_29_code 3 (some FieldType.boolean) ∈ BIG := inB15 _ (List.mem_of_getElem? (i := 4) rfl)
theorem k_Mo_123 : Cond.methodLink "MachineTablesModel" 123 y_Mo_told ∈ BIG := inB15 _ (List.mem_of_getElem? (i := 5) rfl)
theorem ki_Mo_told : Cond.instanceMethod y_Mo_told ∈ BIG := inB15 _ (List.mem_of_getElem? (i := 6) rfl)
theorem kc_Mo_told : Cond.code y_Mo_told prog_6_method_31_code 4 (some FieldType.int) ∈ BIG := inB15 _ (List.mem_of_getElem? (i := 7) rfl)
theorem k_Mo_129 : Cond.methodLink "MachineTablesModel" 129 y_Mo_lead ∈ BIG := inB15 _ (List.mem_of_getElem? (i := 8) rfl)
theorem ki_Mo_lead : Cond.instanceMethod y_Mo_lead ∈ BIG := inB15 _ (List.mem_of_getElem? (i := 9) rfl)
theorem kc_Mo_lead : Cond.code y_Mo_lead prog_6_method_28_code 10 (Option.none : Option Jvm.ClassFile.FieldType) ∈ BIG := inB15 _ (List.mem_of_getElem? (i := 10) rfl)
theorem k_Mo_133 : Cond.methodLink "MachineTablesModel" 133 y_Mo_isTried ∈ BIG := inB15 _ (List.mem_of_getElem? (i := 11) rfl)
theorem ki_Mo_isTried : Cond.instanceMethod y_Mo_isTried ∈ BIG := inB15 _ (List.mem_of_getElem? (i := 12) rfl)
theorem kc_Mo_isTried : Cond.code y_Mo_isTried prog_6_method_30_code 5 (some FieldType.boolean) ∈ BIG := inB15 _ (List.mem_of_getElem? (i := 13) rfl)
theorem k_Mo_136 : Cond.methodLink "MachineTablesModel" 136 y_Mo_raise ∈ BIG := inB15 _ (List.mem_of_getElem? (i := 14) rfl)
theorem ki_Mo_raise : Cond.instanceMethod y_Mo_raise ∈ BIG := inB15 _ (List.mem_of_getElem? (i := 15) rfl)
theorem kc_Mo_raise : Cond.code y_Mo_raise prog_6_method_3_code 1 (some FieldType.int) ∈ BIG := inB15 _ (List.mem_of_getElem? (i := 16) rfl)
theorem k_La_85 : Cond.methodLink "MachineTablesLaw" 85 y_Mo_chain ∈ BIG := inB15 _ (List.mem_of_getElem? (i := 17) rfl)
theorem ki_Mo_chain : Cond.instanceMethod y_Mo_chain ∈ BIG := inB15 _ (List.mem_of_getElem? (i := 18) rfl)
theorem kl_Mo_chain : Cond.selects "MachineTablesModel" y_Mo_chain y_Mo_chain ∈ BIG := inB15 _ (List.mem_of_getElem? (i := 19) rfl)
theorem kc_Mo_chain : Cond.code y_Mo_chain prog_6_method_35_code 8 (some FieldType.int) ∈ BIG := inB15 _ (List.mem_of_getElem? (i := 20) rfl)
theorem k_Mo_140 : Cond.methodLink "MachineTablesModel" 140 y_Mo_chains ∈ BIG := inB15 _ (List.mem_of_getElem? (i := 21) rfl)
theorem ki_Mo_chains : Cond.instanceMethod y_Mo_chains ∈ BIG := inB15 _ (List.mem_of_getElem? (i := 22) rfl)
theorem kc_Mo_chains : Cond.code y_Mo_chains prog_6_method_33_code 6 (some FieldType.boolean) ∈ BIG := inB15 _ (List.mem_of_getElem? (i := 23) rfl)
theorem k_Mo_143 : Cond.methodLink "MachineTablesModel" 143 y_Mo_placeOf ∈ BIG := inB15 _ (List.mem_of_getElem? (i := 24) rfl)
theorem ki_Mo_placeOf : Cond.instanceMethod y_Mo_placeOf ∈ BIG := inB15 _ (List.mem_of_getElem? (i := 25) rfl)
theorem kc_Mo_placeOf : Cond.code y_Mo_placeOf prog_6_method_34_code 3 (some FieldType.int) ∈ BIG := inB15 _ (List.mem_of_getElem? (i := 26) rfl)
theorem k_La_88 : Cond.methodLink "MachineTablesLaw" 88 y_Mo_letter ∈ BIG := inB15 _ (List.mem_of_getElem? (i := 27) rfl)
theorem ki_Mo_letter : Cond.instanceMethod y_Mo_letter ∈ BIG := inB15 _ (List.mem_of_getElem? (i := 28) rfl)
theorem kl_Mo_letter : Cond.selects "MachineTablesModel" y_Mo_letter y_Mo_letter ∈ BIG := inB15 _ (List.mem_of_getElem? (i := 29) rfl)
theorem kc_Mo_letter : Cond.code y_Mo_letter prog_6_method_36_code 2 (some FieldType.int) ∈ BIG := inB15 _ (List.mem_of_getElem? (i := 30) rfl)
theorem k_La_92 : Cond.methodLink "MachineTablesLaw" 92 y_Mo_along ∈ BIG := inB15 _ (List.mem_of_getElem? (i := 31) rfl)
theorem ki_Mo_along : Cond.instanceMethod y_Mo_along ∈ BIG := inB15 _ (List.mem_of_getElem? (i := 32) rfl)
theorem kl_Mo_along : Cond.selects "MachineTablesModel" y_Mo_along y_Mo_along ∈ BIG := inB15 _ (List.mem_of_getElem? (i := 33) rfl)
theorem kc_Mo_along : Cond.code y_Mo_along prog_6_method_37_code 5 (some FieldType.int) ∈ BIG := inB15 _ (List.mem_of_getElem? (i := 34) rfl)
theorem k_La_96 : Cond.methodLink "MachineTablesLaw" 96 y_Mo_clear ∈ BIG := inB15 _ (List.mem_of_getElem? (i := 35) rfl)
theorem ki_Mo_clear : Cond.instanceMethod y_Mo_clear ∈ BIG := inB15 _ (List.mem_of_getElem? (i := 36) rfl)
theorem kl_Mo_clear : Cond.selects "MachineTablesModel" y_Mo_clear y_Mo_clear ∈ BIG := inB15 _ (List.mem_of_getElem? (i := 37) rfl)
theorem kc_Mo_clear : Cond.code y_Mo_clear prog_6_method_38_code 1 (Option.none : Option Jvm.ClassFile.FieldType) ∈ BIG := inB15 _ (List.mem_of_getElem? (i := 38) rfl)
theorem k_La_100 : Cond.methodLink "MachineTablesLaw" 100 y_Mo_total ∈ BIG := inB15 _ (List.mem_of_getElem? (i := 39) rfl)
theorem ki_Mo_total : Cond.instanceMethod y_Mo_total ∈ BIG := inB16 _ (List.mem_of_getElem? (i := 0) rfl)
theorem kl_Mo_total : Cond.selects "MachineTablesModel" y_Mo_total y_Mo_total ∈ BIG := inB16 _ (List.mem_of_getElem? (i := 1) rfl)
theorem kc_Mo_total : Cond.code y_Mo_total prog_6_method_39_code 2 (some FieldType.int) ∈ BIG := inB16 _ (List.mem_of_getElem? (i := 2) rfl)
theorem ka_long : Cond.arrayClass FieldType.long ∈ BIG := inB16 _ (List.mem_of_getElem? (i := 3) rfl)
theorem kl_MT_isFull : Cond.selects "MachineTables" y_MT_isFull y_MT_isFull ∈ BIG := inB16 _ (List.mem_of_getElem? (i := 5) rfl)
theorem kl_MT_add : Cond.selects "MachineTables" y_MT_add y_MT_add ∈ BIG := inB16 _ (List.mem_of_getElem? (i := 6) rfl)
theorem kl_MT_find : Cond.selects "MachineTables" y_MT_find y_MT_find ∈ BIG := inB16 _ (List.mem_of_getElem? (i := 7) rfl)
theorem kl_XT_fillInStackTrace : Cond.selects "java/lang/Throwable" y_XT_fillInStackTrace y_XT_fillInStackTrace ∈ BIG := inB16 _ (List.mem_of_getElem? (i := 8) rfl)
theorem kl_Ma_splitSets : Cond.selects "MachineTables$Machine" y_Ma_splitSets y_Ma_splitSets ∈ BIG := inB16 _ (List.mem_of_getElem? (i := 9) rfl)
theorem kl_Ma_leastThatAgrees : Cond.selects "MachineTables$Machine" y_Ma_leastThatAgrees y_Ma_leastThatAgrees ∈ BIG := inB16 _ (List.mem_of_getElem? (i := 10) rfl)
theorem kl_Ma_isAgreed : Cond.selects "MachineTables$Machine" y_Ma_isAgreed y_Ma_isAgreed ∈ BIG := inB16 _ (List.mem_of_getElem? (i := 11) rfl)
theorem kl_MT_numberSets : Cond.selects "MachineTables" y_MT_numberSets y_MT_numberSets ∈ BIG := inB16 _ (List.mem_of_getElem? (i := 12) rfl)
theorem kl_MT_findSmall : Cond.selects "MachineTables" y_MT_findSmall y_MT_findSmall ∈ BIG := inB16 _ (List.mem_of_getElem? (i := 13) rfl)
theorem kl_MT_seekReset : Cond.selects "MachineTables" y_MT_seekReset y_MT_seekReset ∈ BIG := inB16 _ (List.mem_of_getElem? (i := 14) rfl)
theorem kl_MT_tell : Cond.selects "MachineTables" y_MT_tell y_MT_tell ∈ BIG := inB16 _ (List.mem_of_getElem? (i := 15) rfl)
theorem kl_MT_seekWitness : Cond.selects "MachineTables" y_MT_seekWitness y_MT_seekWitness ∈ BIG := inB16 _ (List.mem_of_getElem? (i := 16) rfl)
theorem kl_MT_seekHomed : Cond.selects "MachineTables" y_MT_seekHomed y_MT_seekHomed ∈ BIG := inB16 _ (List.mem_of_getElem? (i := 17) rfl)
theorem kl_Fa_put : Cond.selects "MachineTables$Families" y_Fa_put y_Fa_put ∈ BIG := inB16 _ (List.mem_of_getElem? (i := 18) rfl)
theorem kl_Fa_liesInOne : Cond.selects "MachineTables$Families" y_Fa_liesInOne y_Fa_liesInOne ∈ BIG := inB16 _ (List.mem_of_getElem? (i := 19) rfl)
theorem kl_Fa_leaveOutThoseIn : Cond.selects "MachineTables$Families" y_Fa_leaveOutThoseIn y_Fa_leaveOutThoseIn ∈ BIG := inB16 _ (List.mem_of_getElem? (i := 20) rfl)
theorem kl_Fa_putParted : Cond.selects "MachineTables$Families" y_Fa_putParted y_Fa_putParted ∈ BIG := inB16 _ (List.mem_of_getElem? (i := 21) rfl)
theorem kl_Fa_openOneIs : Cond.selects "MachineTables$Families" y_Fa_openOneIs y_Fa_openOneIs ∈ BIG := inB16 _ (List.mem_of_getElem? (i := 22) rfl)
theorem kl_MT_numberPairs : Cond.selects "MachineTables" y_MT_numberPairs y_MT_numberPairs ∈ BIG := inB16 _ (List.mem_of_getElem? (i := 23) rfl)
theorem kl_Mo_newMachine : Cond.selects "MachineTablesModel" y_Mo_newMachine y_Mo_newMachine ∈ BIG := inB16 _ (List.mem_of_getElem? (i := 24) rfl)
theorem kl_Mo_isState : Cond.selects "MachineTablesModel" y_Mo_isState y_Mo_isState ∈ BIG := inB16 _ (List.mem_of_getElem? (i := 25) rfl)
theorem kl_Mo_isMachine : Cond.selects "MachineTablesModel" y_Mo_isMachine y_Mo_isMachine ∈ BIG := inB16 _ (List.mem_of_getElem? (i := 26) rfl)
theorem kl_Mo_mark : Cond.selects "MachineTablesModel" y_Mo_mark y_Mo_mark ∈ BIG := inB16 _ (List.mem_of_getElem? (i := 27) rfl)
theorem kl_Mo_isApart : Cond.selects "MachineTablesModel" y_Mo_isApart y_Mo_isApart ∈ BIG := inB16 _ (List.mem_of_getElem? (i := 28) rfl)
theorem kl_Mo_firstLike : Cond.selects "MachineTablesModel" y_Mo_firstLike y_Mo_firstLike ∈ BIG := inB16 _ (List.mem_of_getElem? (i := 29) rfl)
theorem kl_Mo_begin : Cond.selects "MachineTablesModel" y_Mo_begin y_Mo_begin ∈ BIG := inB16 _ (List.mem_of_getElem? (i := 30) rfl)
theorem kl_Mo_come : Cond.selects "MachineTablesModel" y_Mo_come y_Mo_come ∈ BIG := inB16 _ (List.mem_of_getElem? (i := 31) rfl)
theorem kl_Mo_tell : Cond.selects "MachineTablesModel" y_Mo_tell y_Mo_tell ∈ BIG := inB16 _ (List.mem_of_getElem? (i := 32) rfl)
theorem kl_Mo_findParts : Cond.selects "MachineTablesModel" y_Mo_findParts y_Mo_findParts ∈ BIG := inB16 _ (List.mem_of_getElem? (i := 33) rfl)
theorem kl_Mo_partOf : Cond.selects "MachineTablesModel" y_Mo_partOf y_Mo_partOf ∈ BIG := inB16 _ (List.mem_of_getElem? (i := 34) rfl)
theorem kl_Mo_moved : Cond.selects "MachineTablesModel" y_Mo_moved y_Mo_moved ∈ BIG := inB16 _ (List.mem_of_getElem? (i := 35) rfl)
theorem kl_Mo_put : Cond.selects "MachineTablesModel" y_Mo_put y_Mo_put ∈ BIG := inB16 _ (List.mem_of_getElem? (i := 36) rfl)
theorem kl_Mo_isHome : Cond.selects "MachineTablesModel" y_Mo_isHome y_Mo_isHome ∈ BIG := inB16 _ (List.mem_of_getElem? (i := 37) rfl)
theorem kl_Mo_told : Cond.selects "MachineTablesModel" y_Mo_told y_Mo_told ∈ BIG := inB16 _ (List.mem_of_getElem? (i := 38) rfl)
theorem kl_Mo_lead : Cond.selects "MachineTablesModel" y_Mo_lead y_Mo_lead ∈ BIG := inB16 _ (List.mem_of_getElem? (i := 39) rfl)
theorem kl_Mo_isTried : Cond.selects "MachineTablesModel" y_Mo_isTried y_Mo_isTried ∈ BIG := inB17 _ (List.mem_of_getElem? (i := 0) rfl)
theorem kl_Mo_raise : Cond.selects "MachineTablesModel" y_Mo_raise y_Mo_raise ∈ BIG := inB17 _ (List.mem_of_getElem? (i := 1) rfl)
theorem kl_Mo_chains : Cond.selects "MachineTablesModel" y_Mo_chains y_Mo_chains ∈ BIG := inB17 _ (List.mem_of_getElem? (i := 2) rfl)
theorem kl_Mo_placeOf : Cond.selects "MachineTablesModel" y_Mo_placeOf y_Mo_placeOf ∈ BIG := inB17 _ (List.mem_of_getElem? (i := 3) rfl)
theorem uw_Fa : ∀ w ∈ u_ws R_Fa T_Fa 4, w ∈ BIG := by decide +kernel
theorem uw_Ma : ∀ w ∈ u_ws R_Ma T_Ma 7, w ∈ BIG := by decide +kernel
theorem uw_Se : ∀ w ∈ u_ws R_Se T_Se 4, w ∈ BIG := by decide +kernel
theorem uw_MT : ∀ w ∈ u_ws R_MT T_MT 5, w ∈ BIG := by decide +kernel
theorem uw_Mo : ∀ w ∈ u_ws R_Mo T_Mo 19, w ∈ BIG := by decide +kernel
theorem uw_XI : ∀ w ∈ u_ws R_XI T_XI 6, w ∈ BIG := by decide +kernel
theorem uw_XA : ∀ w ∈ u_ws R_XA T_XA 6, w ∈ BIG := by decide +kernel
theorem uw_XN : ∀ w ∈ u_ws R_XN T_XN 6, w ∈ BIG := by decide +kernel
end
section
theorem d_Ma_init_0 : decode b_Ma_init 0 = .ok (.aload_n 0, 1) := by decide +kernel
theorem d_Ma_init_1 : decode b_Ma_init 1 = .ok (.invokespecial 3, 3) := by decide +kernel
theorem d_Ma_init_4 : decode b_Ma_init 4 = .ok (.aload_n 0, 1) := by decide +kernel
theorem d_Ma_init_5 : decode b_Ma_init 5 = .ok (.sipush (160), 3) := by decide +kernel
theorem d_Ma_init_8 : decode b_Ma_init 8 = .ok (.newarray .int, 2) := by decide +kernel
theorem d_Ma_init_10 : decode b_Ma_init 10 = .ok (.putfield 9, 3) := by decide +kernel
theorem d_Ma_init_13 : decode b_Ma_init 13 = .ok (.aload_n 0, 1) := by decide +kernel
theorem d_Ma_init_14 : decode b_Ma_init 14 = .ok (.sipush (160), 3) := by decide +kernel
theorem d_Ma_init_17 : decode b_Ma_init 17 = .ok (.newarray .int, 2) := by decide +kernel
theorem d_Ma_init_19 : decode b_Ma_init 19 = .ok (.putfield 15, 3) := by decide +kernel
theorem d_Ma_init_22 : decode b_Ma_init 22 = .ok (.aload_n 0, 1) := by decide +kernel
theorem d_Ma_init_23 : decode b_Ma_init 23 = .ok (.bipush (40), 2) := by decide +kernel
theorem d_Ma_init_25 : decode b_Ma_init 25 = .ok (.newarray .int, 2) := by decide +kernel
theorem d_Ma_init_27 : decode b_Ma_init 27 = .ok (.putfield 18, 3) := by decide +kernel
theorem d_Ma_init_30 : decode b_Ma_init 30 = .ok (.aload_n 0, 1) := by decide +kernel
theorem d_Ma_init_31 : decode b_Ma_init 31 = .ok (.bipush (40), 2) := by decide +kernel
theorem d_Ma_init_33 : decode b_Ma_init 33 = .ok (.newarray .int, 2) := by decide +kernel
theorem d_Ma_init_35 : decode b_Ma_init 35 = .ok (.putfield 21, 3) := by decide +kernel
theorem d_Ma_init_38 : decode b_Ma_init 38 = .ok (.return_, 1) := by decide +kernel
theorem d_Ma_begin_0 : decode b_Ma_begin 0 = .ok (.aload_n 0, 1) := by decide +kernel
theorem d_Ma_begin_1 : decode b_Ma_begin 1 = .ok (.iload_n 1, 1) := by decide +kernel
theorem d_Ma_begin_2 : decode b_Ma_begin 2 = .ok (.putfield 24, 3) := by decide +kernel
theorem d_Ma_begin_5 : decode b_Ma_begin 5 = .ok (.aload_n 0, 1) := by decide +kernel
theorem d_Ma_begin_6 : decode b_Ma_begin 6 = .ok (.iload_n 2, 1) := by decide +kernel
theorem d_Ma_begin_7 : decode b_Ma_begin 7 = .ok (.putfield 28, 3) := by decide +kernel
theorem d_Ma_begin_10 : decode b_Ma_begin 10 = .ok (.iconst 0, 1) := by decide +kernel
theorem d_Ma_begin_11 : decode b_Ma_begin 11 = .ok (.istore_n 3, 1) := by decide +kernel
theorem d_Ma_begin_12 : decode b_Ma_begin 12 = .ok (.iload_n 3, 1) := by decide +kernel
theorem d_Ma_begin_13 : decode b_Ma_begin 13 = .ok (.aload_n 0, 1) := by decide +kernel
theorem d_Ma_begin_14 : decode b_Ma_begin 14 = .ok (.getfield 24, 3) := by decide +kernel
theorem d_Ma_begin_17 : decode b_Ma_begin 17 = .ok (.if_icmp .ge (36), 3) := by decide +kernel
theorem d_Ma_begin_20 : decode b_Ma_begin 20 = .ok (.iconst 0, 1) := by decide +kernel
theorem d_Ma_begin_21 : decode b_Ma_begin 21 = .ok (.istore 4, 2) := by decide +kernel
theorem d_Ma_begin_23 : decode b_Ma_begin 23 = .ok (.iload 4, 2) := by decide +kernel
theorem d_Ma_begin_25 : decode b_Ma_begin 25 = .ok (.aload_n 0, 1) := by decide +kernel
theorem d_Ma_begin_26 : decode b_Ma_begin 26 = .ok (.getfield 28, 3) := by decide +kernel
theorem d_Ma_begin_29 : decode b_Ma_begin 29 = .ok (.if_icmp .ge (18), 3) := by decide +kernel
theorem d_Ma_begin_32 : decode b_Ma_begin 32 = .ok (.aload_n 0, 1) := by decide +kernel
theorem d_Ma_begin_33 : decode b_Ma_begin 33 = .ok (.iload_n 3, 1) := by decide +kernel
theorem d_Ma_begin_34 : decode b_Ma_begin 34 = .ok (.iload 4, 2) := by decide +kernel
theorem d_Ma_begin_36 : decode b_Ma_begin 36 = .ok (.iload_n 3, 1) := by decide +kernel
theorem d_Ma_begin_37 : decode b_Ma_begin 37 = .ok (.iconst 0, 1) := by decide +kernel
theorem d_Ma_begin_38 : decode b_Ma_begin 38 = .ok (.invokevirtual 31, 3) := by decide +kernel
theorem d_Ma_begin_41 : decode b_Ma_begin 41 = .ok (.iinc 4 (1), 3) := by decide +kernel
theorem d_Ma_begin_44 : decode b_Ma_begin 44 = .ok (.goto (-21), 3) := by decide +kernel
theorem d_Ma_begin_47 : decode b_Ma_begin 47 = .ok (.iinc 3 (1), 3) := by decide +kernel
theorem d_Ma_begin_50 : decode b_Ma_begin 50 = .ok (.goto (-38), 3) := by decide +kernel
theorem d_Ma_begin_53 : decode b_Ma_begin 53 = .ok (.return_, 1) := by decide +kernel
theorem d_Ma_hasState_0 : decode b_Ma_hasState 0 = .ok (.iload_n 1, 1) := by decide +kernel
theorem d_Ma_hasState_1 : decode b_Ma_hasState 1 = .ok (.ifCond .lt (15), 3) := by decide +kernel
theorem d_Ma_hasState_4 : decode b_Ma_hasState 4 = .ok (.iload_n 1, 1) := by decide +kernel
theorem d_Ma_hasState_5 : decode b_Ma_hasState 5 = .ok (.aload_n 0, 1) := by decide +kernel
theorem d_Ma_hasState_6 : decode b_Ma_hasState 6 = .ok (.getfield 24, 3) := by decide +kernel
theorem d_Ma_hasState_9 : decode b_Ma_hasState 9 = .ok (.if_icmp .ge (7), 3) := by decide +kernel
theorem d_Ma_hasState_12 : decode b_Ma_hasState 12 = .ok (.iconst 1, 1) := by decide +kernel
theorem d_Ma_hasState_13 : decode b_Ma_hasState 13 = .ok (.goto (4), 3) := by decide +kernel
theorem d_Ma_hasState_16 : decode b_Ma_hasState 16 = .ok (.iconst 0, 1) := by decide +kernel
theorem d_Ma_hasState_17 : decode b_Ma_hasState 17 = .ok (.ireturn, 1) := by decide +kernel
theorem d_Ma_hasInput_0 : decode b_Ma_hasInput 0 = .ok (.iload_n 1, 1) := by decide +kernel
theorem d_Ma_hasInput_1 : decode b_Ma_hasInput 1 = .ok (.ifCond .lt (15), 3) := by decide +kernel
theorem d_Ma_hasInput_4 : decode b_Ma_hasInput 4 = .ok (.iload_n 1, 1) := by decide +kernel
theorem d_Ma_hasInput_5 : decode b_Ma_hasInput 5 = .ok (.aload_n 0, 1) := by decide +kernel
theorem d_Ma_hasInput_6 : decode b_Ma_hasInput 6 = .ok (.getfield 28, 3) := by decide +kernel
theorem d_Ma_hasInput_9 : decode b_Ma_hasInput 9 = .ok (.if_icmp .ge (7), 3) := by decide +kernel
theorem d_Ma_hasInput_12 : decode b_Ma_hasInput 12 = .ok (.iconst 1, 1) := by decide +kernel
theorem d_Ma_hasInput_13 : decode b_Ma_hasInput 13 = .ok (.goto (4), 3) := by decide +kernel
theorem d_Ma_hasInput_16 : decode b_Ma_hasInput 16 = .ok (.iconst 0, 1) := by decide +kernel
theorem d_Ma_hasInput_17 : decode b_Ma_hasInput 17 = .ok (.ireturn, 1) := by decide +kernel
theorem d_Ma_nextOf_0 : decode b_Ma_nextOf 0 = .ok (.aload_n 0, 1) := by decide +kernel
theorem d_Ma_nextOf_1 : decode b_Ma_nextOf 1 = .ok (.getfield 9, 3) := by decide +kernel
theorem d_Ma_nextOf_4 : decode b_Ma_nextOf 4 = .ok (.iload_n 1, 1) := by decide +kernel
theorem d_Ma_nextOf_5 : decode b_Ma_nextOf 5 = .ok (.iconst 4, 1) := by decide +kernel
theorem d_Ma_nextOf_6 : decode b_Ma_nextOf 6 = .ok (.imul, 1) := by decide +kernel
theorem d_Ma_nextOf_7 : decode b_Ma_nextOf 7 = .ok (.iload_n 2, 1) := by decide +kernel
theorem d_Ma_nextOf_8 : decode b_Ma_nextOf 8 = .ok (.iadd, 1) := by decide +kernel
theorem d_Ma_nextOf_9 : decode b_Ma_nextOf 9 = .ok (.iaload, 1) := by decide +kernel
theorem d_Ma_nextOf_10 : decode b_Ma_nextOf 10 = .ok (.ireturn, 1) := by decide +kernel
theorem d_Ma_outputOf_0 : decode b_Ma_outputOf 0 = .ok (.aload_n 0, 1) := by decide +kernel
theorem d_Ma_outputOf_1 : decode b_Ma_outputOf 1 = .ok (.getfield 15, 3) := by decide +kernel
theorem d_Ma_outputOf_4 : decode b_Ma_outputOf 4 = .ok (.iload_n 1, 1) := by decide +kernel
theorem d_Ma_outputOf_5 : decode b_Ma_outputOf 5 = .ok (.iconst 4, 1) := by decide +kernel
theorem d_Ma_outputOf_6 : decode b_Ma_outputOf 6 = .ok (.imul, 1) := by decide +kernel
theorem d_Ma_outputOf_7 : decode b_Ma_outputOf 7 = .ok (.iload_n 2, 1) := by decide +kernel
theorem d_Ma_outputOf_8 : decode b_Ma_outputOf 8 = .ok (.iadd, 1) := by decide +kernel
theorem d_Ma_outputOf_9 : decode b_Ma_outputOf 9 = .ok (.iaload, 1) := by decide +kernel
theorem d_Ma_outputOf_10 : decode b_Ma_outputOf 10 = .ok (.ireturn, 1) := by decide +kernel
theorem d_Ma_setArrow_0 : decode b_Ma_setArrow 0 = .ok (.aload_n 0, 1) := by decide +kernel
theorem d_Ma_setArrow_1 : decode b_Ma_setArrow 1 = .ok (.getfield 9, 3) := by decide +kernel
theorem d_Ma_setArrow_4 : decode b_Ma_setArrow 4 = .ok (.iload_n 1, 1) := by decide +kernel
theorem d_Ma_setArrow_5 : decode b_Ma_setArrow 5 = .ok (.iconst 4, 1) := by decide +kernel
theorem d_Ma_setArrow_6 : decode b_Ma_setArrow 6 = .ok (.imul, 1) := by decide +kernel
theorem d_Ma_setArrow_7 : decode b_Ma_setArrow 7 = .ok (.iload_n 2, 1) := by decide +kernel
theorem d_Ma_setArrow_8 : decode b_Ma_setArrow 8 = .ok (.iadd, 1) := by decide +kernel
theorem d_Ma_setArrow_9 : decode b_Ma_setArrow 9 = .ok (.iload_n 3, 1) := by decide +kernel
theorem d_Ma_setArrow_10 : decode b_Ma_setArrow 10 = .ok (.iastore, 1) := by decide +kernel
theorem d_Ma_setArrow_11 : decode b_Ma_setArrow 11 = .ok (.aload_n 0, 1) := by decide +kernel
theorem d_Ma_setArrow_12 : decode b_Ma_setArrow 12 = .ok (.getfield 15, 3) := by decide +kernel
theorem d_Ma_setArrow_15 : decode b_Ma_setArrow 15 = .ok (.iload_n 1, 1) := by decide +kernel
theorem d_Ma_setArrow_16 : decode b_Ma_setArrow 16 = .ok (.iconst 4, 1) := by decide +kernel
theorem d_Ma_setArrow_17 : decode b_Ma_setArrow 17 = .ok (.imul, 1) := by decide +kernel
theorem d_Ma_setArrow_18 : decode b_Ma_setArrow 18 = .ok (.iload_n 2, 1) := by decide +kernel
theorem d_Ma_setArrow_19 : decode b_Ma_setArrow 19 = .ok (.iadd, 1) := by decide +kernel
theorem d_Ma_setArrow_20 : decode b_Ma_setArrow 20 = .ok (.iload 4, 2) := by decide +kernel
theorem d_Ma_setArrow_22 : decode b_Ma_setArrow 22 = .ok (.iastore, 1) := by decide +kernel
theorem d_Ma_setArrow_23 : decode b_Ma_setArrow 23 = .ok (.aload_n 0, 1) := by decide +kernel
theorem d_Ma_setArrow_24 : decode b_Ma_setArrow 24 = .ok (.iconst 0, 1) := by decide +kernel
theorem d_Ma_setArrow_25 : decode b_Ma_setArrow 25 = .ok (.putfield 35, 3) := by decide +kernel
theorem d_Ma_setArrow_28 : decode b_Ma_setArrow 28 = .ok (.return_, 1) := by decide +kernel
theorem d_Ma_reachedFrom_0 : decode b_Ma_reachedFrom 0 = .ok (.iconst 0, 1) := by decide +kernel
theorem d_Ma_reachedFrom_1 : decode b_Ma_reachedFrom 1 = .ok (.istore_n 3, 1) := by decide +kernel
theorem d_Ma_reachedFrom_2 : decode b_Ma_reachedFrom 2 = .ok (.iconst 0, 1) := by decide +kernel
theorem d_Ma_reachedFrom_3 : decode b_Ma_reachedFrom 3 = .ok (.istore 4, 2) := by decide +kernel
theorem d_Ma_reachedFrom_5 : decode b_Ma_reachedFrom 5 = .ok (.iload 4, 2) := by decide +kernel
theorem d_Ma_reachedFrom_7 : decode b_Ma_reachedFrom 7 = .ok (.aload_n 0, 1) := by decide +kernel
theorem d_Ma_reachedFrom_8 : decode b_Ma_reachedFrom 8 = .ok (.getfield 24, 3) := by decide +kernel
theorem d_Ma_reachedFrom_11 : decode b_Ma_reachedFrom 11 = .ok (.if_icmp .ge (30), 3) := by decide +kernel
theorem d_Ma_reachedFrom_14 : decode b_Ma_reachedFrom 14 = .ok (.iload_n 1, 1) := by decide +kernel
theorem d_Ma_reachedFrom_15 : decode b_Ma_reachedFrom 15 = .ok (.iload 4, 2) := by decide +kernel
theorem d_Ma_reachedFrom_17 : decode b_Ma_reachedFrom 17 = .ok (.ishr, 1) := by decide +kernel
theorem d_Ma_reachedFrom_18 : decode b_Ma_reachedFrom 18 = .ok (.iconst 1, 1) := by decide +kernel
theorem d_Ma_reachedFrom_19 : decode b_Ma_reachedFrom 19 = .ok (.iand, 1) := by decide +kernel
theorem d_Ma_reachedFrom_20 : decode b_Ma_reachedFrom 20 = .ok (.ifCond .eq (15), 3) := by decide +kernel
theorem d_Ma_reachedFrom_23 : decode b_Ma_reachedFrom 23 = .ok (.iload_n 3, 1) := by decide +kernel
theorem d_Ma_reachedFrom_24 : decode b_Ma_reachedFrom 24 = .ok (.iconst 1, 1) := by decide +kernel
theorem d_Ma_reachedFrom_25 : decode b_Ma_reachedFrom 25 = .ok (.aload_n 0, 1) := by decide +kernel
theorem d_Ma_reachedFrom_26 : decode b_Ma_reachedFrom 26 = .ok (.iload 4, 2) := by decide +kernel
theorem d_Ma_reachedFrom_28 : decode b_Ma_reachedFrom 28 = .ok (.iload_n 2, 1) := by decide +kernel
theorem d_Ma_reachedFrom_29 : decode b_Ma_reachedFrom 29 = .ok (.invokevirtual 39, 3) := by decide +kernel
theorem d_Ma_reachedFrom_32 : decode b_Ma_reachedFrom 32 = .ok (.ishl, 1) := by decide +kernel
theorem d_Ma_reachedFrom_33 : decode b_Ma_reachedFrom 33 = .ok (.ior, 1) := by decide +kernel
theorem d_Ma_reachedFrom_34 : decode b_Ma_reachedFrom 34 = .ok (.istore_n 3, 1) := by decide +kernel
theorem d_Ma_reachedFrom_35 : decode b_Ma_reachedFrom 35 = .ok (.iinc 4 (1), 3) := by decide +kernel
theorem d_Ma_reachedFrom_38 : decode b_Ma_reachedFrom 38 = .ok (.goto (-33), 3) := by decide +kernel
theorem d_Ma_reachedFrom_41 : decode b_Ma_reachedFrom 41 = .ok (.iload_n 3, 1) := by decide +kernel
theorem d_Ma_reachedFrom_42 : decode b_Ma_reachedFrom 42 = .ok (.ireturn, 1) := by decide +kernel
theorem d_Ma_leastLike_0 : decode b_Ma_leastLike 0 = .ok (.aload_n 0, 1) := by decide +kernel
theorem d_Ma_leastLike_1 : decode b_Ma_leastLike 1 = .ok (.getfield 18, 3) := by decide +kernel
theorem d_Ma_leastLike_4 : decode b_Ma_leastLike 4 = .ok (.iload_n 1, 1) := by decide +kernel
theorem d_Ma_leastLike_5 : decode b_Ma_leastLike 5 = .ok (.iaload, 1) := by decide +kernel
theorem d_Ma_leastLike_6 : decode b_Ma_leastLike 6 = .ok (.ireturn, 1) := by decide +kernel
theorem d_Ma_countSets_0 : decode b_Ma_countSets 0 = .ok (.iconst 0, 1) := by decide +kernel
theorem d_Ma_countSets_1 : decode b_Ma_countSets 1 = .ok (.istore_n 1, 1) := by decide +kernel
theorem d_Ma_countSets_2 : decode b_Ma_countSets 2 = .ok (.iconst 0, 1) := by decide +kernel
theorem d_Ma_countSets_3 : decode b_Ma_countSets 3 = .ok (.istore_n 2, 1) := by decide +kernel
theorem d_Ma_countSets_4 : decode b_Ma_countSets 4 = .ok (.iload_n 2, 1) := by decide +kernel
theorem d_Ma_countSets_5 : decode b_Ma_countSets 5 = .ok (.aload_n 0, 1) := by decide +kernel
theorem d_Ma_countSets_6 : decode b_Ma_countSets 6 = .ok (.getfield 24, 3) := by decide +kernel
theorem d_Ma_countSets_9 : decode b_Ma_countSets 9 = .ok (.if_icmp .ge (22), 3) := by decide +kernel
theorem d_Ma_countSets_12 : decode b_Ma_countSets 12 = .ok (.aload_n 0, 1) := by decide +kernel
theorem d_Ma_countSets_13 : decode b_Ma_countSets 13 = .ok (.getfield 18, 3) := by decide +kernel
theorem d_Ma_countSets_16 : decode b_Ma_countSets 16 = .ok (.iload_n 2, 1) := by decide +kernel
theorem d_Ma_countSets_17 : decode b_Ma_countSets 17 = .ok (.iaload, 1) := by decide +kernel
theorem d_Ma_countSets_18 : decode b_Ma_countSets 18 = .ok (.iload_n 2, 1) := by decide +kernel
theorem d_Ma_countSets_19 : decode b_Ma_countSets 19 = .ok (.if_icmp .ne (6), 3) := by decide +kernel
theorem d_Ma_countSets_22 : decode b_Ma_countSets 22 = .ok (.iinc 1 (1), 3) := by decide +kernel
theorem d_Ma_countSets_25 : decode b_Ma_countSets 25 = .ok (.iinc 2 (1), 3) := by decide +kernel
theorem d_Ma_countSets_28 : decode b_Ma_countSets 28 = .ok (.goto (-24), 3) := by decide +kernel
theorem d_Ma_countSets_31 : decode b_Ma_countSets 31 = .ok (.iload_n 1, 1) := by decide +kernel
theorem d_Ma_countSets_32 : decode b_Ma_countSets 32 = .ok (.ireturn, 1) := by decide +kernel
theorem d_Ma_settle_0 : decode b_Ma_settle 0 = .ok (.aload_n 0, 1) := by decide +kernel
theorem d_Ma_settle_1 : decode b_Ma_settle 1 = .ok (.getfield 35, 3) := by decide +kernel
theorem d_Ma_settle_4 : decode b_Ma_settle 4 = .ok (.ifCond .eq (4), 3) := by decide +kernel
theorem d_Ma_settle_7 : decode b_Ma_settle 7 = .ok (.return_, 1) := by decide +kernel
theorem d_Ma_settle_8 : decode b_Ma_settle 8 = .ok (.aload_n 0, 1) := by decide +kernel
theorem d_Ma_settle_9 : decode b_Ma_settle 9 = .ok (.getfield 18, 3) := by decide +kernel
theorem d_Ma_settle_12 : decode b_Ma_settle 12 = .ok (.iconst 0, 1) := by decide +kernel
theorem d_Ma_settle_13 : decode b_Ma_settle 13 = .ok (.aload_n 0, 1) := by decide +kernel
theorem d_Ma_settle_14 : decode b_Ma_settle 14 = .ok (.getfield 24, 3) := by decide +kernel
theorem d_Ma_settle_17 : decode b_Ma_settle 17 = .ok (.iconst 0, 1) := by decide +kernel
theorem d_Ma_settle_18 : decode b_Ma_settle 18 = .ok (.invokestatic 43, 3) := by decide +kernel
theorem d_Ma_settle_21 : decode b_Ma_settle 21 = .ok (.iconst 1, 1) := by decide +kernel
theorem d_Ma_settle_22 : decode b_Ma_settle 22 = .ok (.istore_n 1, 1) := by decide +kernel
theorem d_Ma_settle_23 : decode b_Ma_settle 23 = .ok (.iconst 0, 1) := by decide +kernel
theorem d_Ma_settle_24 : decode b_Ma_settle 24 = .ok (.istore_n 2, 1) := by decide +kernel
theorem d_Ma_settle_25 : decode b_Ma_settle 25 = .ok (.iload_n 2, 1) := by decide +kernel
theorem d_Ma_settle_26 : decode b_Ma_settle 26 = .ok (.aload_n 0, 1) := by decide +kernel
theorem d_Ma_settle_27 : decode b_Ma_settle 27 = .ok (.getfield 24, 3) := by decide +kernel
theorem d_Ma_settle_30 : decode b_Ma_settle 30 = .ok (.if_icmp .ge (18), 3) := by decide +kernel
theorem d_Ma_settle_33 : decode b_Ma_settle 33 = .ok (.iload_n 1, 1) := by decide +kernel
theorem d_Ma_settle_34 : decode b_Ma_settle 34 = .ok (.ifCond .eq (14), 3) := by decide +kernel
theorem d_Ma_settle_37 : decode b_Ma_settle 37 = .ok (.aload_n 0, 1) := by decide +kernel
theorem d_Ma_settle_38 : decode b_Ma_settle 38 = .ok (.invokevirtual 49, 3) := by decide +kernel
theorem d_Ma_settle_41 : decode b_Ma_settle 41 = .ok (.istore_n 1, 1) := by decide +kernel
theorem d_Ma_settle_42 : decode b_Ma_settle 42 = .ok (.iinc 2 (1), 3) := by decide +kernel
theorem d_Ma_settle_45 : decode b_Ma_settle 45 = .ok (.goto (-20), 3) := by decide +kernel
theorem d_Ma_settle_48 : decode b_Ma_settle 48 = .ok (.aload_n 0, 1) := by decide +kernel
theorem d_Ma_settle_49 : decode b_Ma_settle 49 = .ok (.iconst 1, 1) := by decide +kernel
theorem d_Ma_settle_50 : decode b_Ma_settle 50 = .ok (.putfield 35, 3) := by decide +kernel
theorem d_Ma_settle_53 : decode b_Ma_settle 53 = .ok (.return_, 1) := by decide +kernel
theorem d_Ma_splitSets_0 : decode b_Ma_splitSets 0 = .ok (.iconst 0, 1) := by decide +kernel
theorem d_Ma_splitSets_1 : decode b_Ma_splitSets 1 = .ok (.istore_n 1, 1) := by decide +kernel
theorem d_Ma_splitSets_2 : decode b_Ma_splitSets 2 = .ok (.iconst 0, 1) := by decide +kernel
theorem d_Ma_splitSets_3 : decode b_Ma_splitSets 3 = .ok (.istore_n 2, 1) := by decide +kernel
theorem d_Ma_splitSets_4 : decode b_Ma_splitSets 4 = .ok (.iload_n 2, 1) := by decide +kernel
theorem d_Ma_splitSets_5 : decode b_Ma_splitSets 5 = .ok (.aload_n 0, 1) := by decide +kernel
theorem d_Ma_splitSets_6 : decode b_Ma_splitSets 6 = .ok (.getfield 24, 3) := by decide +kernel
theorem d_Ma_splitSets_9 : decode b_Ma_splitSets 9 = .ok (.if_icmp .ge (43), 3) := by decide +kernel
theorem d_Ma_splitSets_12 : decode b_Ma_splitSets 12 = .ok (.aload_n 0, 1) := by decide +kernel
theorem d_Ma_splitSets_13 : decode b_Ma_splitSets 13 = .ok (.getfield 21, 3) := by decide +kernel
theorem d_Ma_splitSets_16 : decode b_Ma_splitSets 16 = .ok (.iload_n 2, 1) := by decide +kernel
end
section
/-! ===== MY BASE: a walk over one pool of cells (L, f), locals by place ===== -/
/-- launch, the numbers of the classes and slots, the array classes, the first address that is ours -/
abbrev GT : Type := Launch × va_G × (Nat → ClassId) × Nat
/-- what stays along a walk: program, env, start, method id, arguments, frames below, method, code, goal -/
abbrev XT : Type := Program × Env × State × MethodId × Array Value × List Frame × Method × Code × (State → Prop)
abbrev gB (G : GT) : Nat → Prop := fun q => G.2.2.2 ≤ q
def vl_has (ls : Array Slot) (nL : Nat) (lv : List (Option Value)) : Prop := ls.size = nL ∧ lv_wf ls ∧ ∀ (i : Nat) (v : Value), lv[i]? = some (some v) → v.category = 1 ∧ ls[i]? = some (.val v)
def gP (G : GT) (L : List Nat) (f : Nat → va_E) (H : Heap) : Prop := va_P G.2.1 CL (va_pl L f) H ∧ va_D (gB G) (va_pl L f)
/-- the classes, the array classes, the nest words at a state -/
def gK (G : GT) (U : State) : Prop := va_K G.2.1 CL (TY G.2.2.1) U ∧ ∀ w ∈ NW, va_Nw w U
def V (G : GT) (R : Room) (nL : Nat) (x : XT) (L : List Nat) (f : Nat → va_E) (k n : Nat) (lv : List (Option Value)) (pc : Nat) (st : List Value) : Prop :=
  ∀ (H : Heap) (locs : List Loc) (ls : Array Slot), gP G L f H → va_S (gB G) x.2.2.1.heap H locs → vl_has ls nL lv → W x.1 G.1 x.2.1 R x.2.2.1 x.2.2.2.1 x.2.2.2.2.1 x.2.2.2.2.2.1 x.2.2.2.2.2.2.1 x.2.2.2.2.2.2.2.1 H locs k n x.2.2.2.2.2.2.2.2 (F0 x.2.2.2.1 pc ls st)
/-- what is known of a walk: the machine, the bytes, the words, the classes -/
def KX (G : GT) (nL : Nat) (x : XT) (cc : ByteArray) (own : String) : Prop :=
  x.1.tables.exec = Jvm.exec ∧ x.2.2.2.2.2.2.2.1.code = cc ∧ x.2.2.2.2.2.2.2.1.maxLocals = nL ∧ x.2.2.1.vm.findClass own = some x.2.2.2.1.cls ∧ (∀ w ∈ BIG, w.before x.2.2.2.2.1 x.2.2.1 = true) ∧ gK G x.2.2.1 ∧ G.2.2.2 ≤ x.2.2.1.heap.size ∧ x.2.2.2.2.2.2.1.locks = false
def cPre (G : GT) (as : List Value) (L : List Nat) (f : Nat → va_E) : Array Value → State → Prop := fun v U => v = as.toArray ∧ G.2.2.2 ≤ U.heap.size ∧ gP G L f U.heap ∧ gK G U
def cPost (G : GT) (Post : Option Value → List Nat → (Nat → va_E) → Prop) : Array Value → State → Outcome → State → Prop := fun _ st oc t => (∃ (v : Option Value) (L' : List Nat) (f' : Nat → va_E), oc = .returned v ∧ Post v L' f' ∧ gP G L' f' t.heap) ∧ va_F (gB G) st t
/-- a method's contract over the pool -/
def Con (G : GT) (y : MethodName) (ws : List Cond) (fr lo mc ms : Nat) (as : List Value) (L : List Nat) (f : Nat → va_E) (Post : Option Value → List Nat → (Nat → va_E) → Prop) : Prop :=
  Met G.1 y ws { frames := fr, cells := mc, slots := ms, locals := lo } (cPre G as L f) (cPost G Post) mc ms (gB G)
/-- the walk's goal is a contract's -/
def RX (G : GT) (x : XT) (Post : Option Value → List Nat → (Nat → va_E) → Prop) (mc ms : Nat) (ret : Option FieldType) : Prop :=
  x.2.2.2.2.2.2.2.2 = MQ x.2.2.2.2.2.1 (cPost G Post) x.2.2.2.2.1 x.2.2.1 mc ms (gB G) ∧ x.2.2.2.2.2.2.1.sig.returnType = ret
def vl_pl (lv : List (Option Value)) : List (Nat × Value) := (List.range lv.length).filterMap (fun i => match lv[i]? with | some (some v) => some (i, v) | _ => none)
theorem vl_pl_mem {lv : List (Option Value)} {j : Nat} {w : Value} : (j, w) ∈ vl_pl lv ↔ lv[j]? = some (some w) := by
  unfold vl_pl
  rw [List.mem_filterMap]
  constructor
  · rintro ⟨i, -, h⟩
    split at h
    · rename_i v hv
      cases h
      exact hv
    · cases h
  · intro h
    refine ⟨j, List.mem_range.mpr ?_, ?_⟩
    · exact (List.getElem?_eq_some_iff.mp h).1
    · rw [h]
theorem vl_has.lv {ls : Array Slot} {nL : Nat} {lv : List (Option Value)} (h : vl_has ls nL lv) : lv_has ls nL (vl_pl lv) := ⟨h.1, h.2.1, fun q hq => (h.2.2 q.1 q.2 (vl_pl_mem.mp hq)).2⟩
theorem vl_has.put {ls ls' : Array Slot} {nL i : Nat} {lv : List (Option Value)} {v : Value} (h : vl_has ls nL lv) (hv : v.category = 1) (h' : lv_has ls' nL ((i, v) :: (vl_pl lv).filter (fun q => !(q.1 == i) && !(q.1 + 1 == i && q.2.category == 2)))) : vl_has ls' nL (lv.set i (some v)) := by
  refine ⟨h'.1, h'.2.1, fun j w hj => ?_⟩
  rw [List.getElem?_set] at hj
  by_cases e : i = j
  · subst e
    rw [if_pos rfl] at hj
    split at hj
    · cases hj
      exact ⟨hv, h'.2.2 (i, v) List.mem_cons_self⟩
    · cases hj
  · rw [if_neg e] at hj
    have hc := (h.2.2 j w hj).1
    refine ⟨hc, h'.2.2 (j, w) (List.mem_cons_of_mem _ (List.mem_filter.mpr ⟨vl_pl_mem.mpr hj, ?_⟩))⟩
    have e1 : (j == i) = false := by simpa using fun h => e h.symm
    simp [e1, hc]
section VROWS
variable {G : GT} {R : Room} {nL : Nat} {x : XT} {cc : ByteArray} {own : String} {L : List Nat} {f : Nat → va_E} {k n : Nat} {lv : List (Option Value)} {pc : Nat} {rest : List Value}
theorem v_iconst (hx : KX G nL x cc own) {z : Int} {v : Int32} (hd : decode cc pc = .ok (.iconst z, 1)) (hv : Int32.ofInt z = v) (kk : V G R nL x L f k n lv (pc + 1) (.int v :: rest)) : V G R nL x L f k n lv pc (rest) := fun H locs ls hP hS hl => lv_iconst hx.1 hx.2.1 hd hv (kk H locs ls hP hS hl)
theorem v_bipush (hx : KX G nL x cc own) {z : Int} {v : Int32} (hd : decode cc pc = .ok (.bipush z, 2)) (hv : (Int8.ofInt z).toInt32 = v) (kk : V G R nL x L f k n lv (pc + 2) (.int v :: rest)) : V G R nL x L f k n lv pc (rest) := fun H locs ls hP hS hl => lv_bipush hx.1 hx.2.1 hd hv (kk H locs ls hP hS hl)
theorem v_sipush (hx : KX G nL x cc own) {z : Int} {v : Int32} (hd : decode cc pc = .ok (.sipush z, 3)) (hv : (Int16.ofInt z).toInt32 = v) (kk : V G R nL x L f k n lv (pc + 3) (.int v :: rest)) : V G R nL x L f k n lv pc (rest) := fun H locs ls hP hS hl => lv_sipush hx.1 hx.2.1 hd hv (kk H locs ls hP hS hl)
theorem v_null (hx : KX G nL x cc own)  (hd : decode cc pc = .ok (.aconst_null, 1))  (kk : V G R nL x L f k n lv (pc + 1) (.null :: rest)) : V G R nL x L f k n lv pc (rest) := fun H locs ls hP hS hl => lv_null hx.1 hx.2.1 hd (kk H locs ls hP hS hl)
theorem v_iload_n (hx : KX G nL x cc own) {j : Fin 4} {i : Nat} {v : Int32} (hd : decode cc pc = .ok (.iload_n j, 1)) (hi : (j : Nat) = i) (hv : lv[i]? = some (some (.int v))) (kk : V G R nL x L f k n lv (pc + 1) (.int v :: rest)) : V G R nL x L f k n lv pc (rest) := fun H locs ls hP hS hl => lv_iload_n hx.1 hx.2.1 hd hi (hl.2.2 i _ hv).2 (kk H locs ls hP hS hl)
theorem v_iload (hx : KX G nL x cc own) {i : Nat} {v : Int32} (hd : decode cc pc = .ok (.iload i, 2)) (hv : lv[i]? = some (some (.int v))) (kk : V G R nL x L f k n lv (pc + 2) (.int v :: rest)) : V G R nL x L f k n lv pc (rest) := fun H locs ls hP hS hl => lv_iload hx.1 hx.2.1 hd (hl.2.2 i _ hv).2 (kk H locs ls hP hS hl)
theorem v_aload_n (hx : KX G nL x cc own) {j : Fin 4} {i : Nat} {v : Nat} (hd : decode cc pc = .ok (.aload_n j, 1)) (hi : (j : Nat) = i) (hv : lv[i]? = some (some (.ref v))) (kk : V G R nL x L f k n lv (pc + 1) (.ref v :: rest)) : V G R nL x L f k n lv pc (rest) := fun H locs ls hP hS hl => lv_aload_n hx.1 hx.2.1 hd hi (hl.2.2 i _ hv).2 (kk H locs ls hP hS hl)
theorem v_aload (hx : KX G nL x cc own) {i : Nat} {v : Nat} (hd : decode cc pc = .ok (.aload i, 2)) (hv : lv[i]? = some (some (.ref v))) (kk : V G R nL x L f k n lv (pc + 2) (.ref v :: rest)) : V G R nL x L f k n lv pc (rest) := fun H locs ls hP hS hl => lv_aload hx.1 hx.2.1 hd (hl.2.2 i _ hv).2 (kk H locs ls hP hS hl)
theorem v_aload_nN (hx : KX G nL x cc own) {j : Fin 4} {i : Nat} (hd : decode cc pc = .ok (.aload_n j, 1)) (hi : (j : Nat) = i) (hv : lv[i]? = some (some .null)) (kk : V G R nL x L f k n lv (pc + 1) (.null :: rest)) : V G R nL x L f k n lv pc (rest) := fun H locs ls hP hS hl => lv_aload_nN hx.1 hx.2.1 hd hi (hl.2.2 i _ hv).2 (kk H locs ls hP hS hl)
theorem v_aloadN (hx : KX G nL x cc own) {i : Nat} (hd : decode cc pc = .ok (.aload i, 2)) (hv : lv[i]? = some (some .null)) (kk : V G R nL x L f k n lv (pc + 2) (.null :: rest)) : V G R nL x L f k n lv pc (rest) := fun H locs ls hP hS hl => lv_aloadN hx.1 hx.2.1 hd (hl.2.2 i _ hv).2 (kk H locs ls hP hS hl)
theorem v_istore_n (hx : KX G nL x cc own) {j : Fin 4} {i : Nat} {v : Int32} (hd : decode cc pc = .ok (.istore_n j, 1)) (hi : (j : Nat) = i) (hn : i < nL) {lv' : List (Option Value)} (he : lv.set i (some (.int v)) = lv') (kk : V G R nL x L f k n lv' (pc + 1) rest) : V G R nL x L f k n lv pc (.int v :: rest) := fun H locs ls hP hS hl => lv_istore_n hx.1 hx.2.1 hd hi hl.lv hn rfl (fun ls' hl' => kk H locs ls' hP hS (he ▸ hl.put rfl hl'))
theorem v_istore (hx : KX G nL x cc own) {i : Nat} {v : Int32} (hd : decode cc pc = .ok (.istore i, 2)) (hn : i < nL) {lv' : List (Option Value)} (he : lv.set i (some (.int v)) = lv') (kk : V G R nL x L f k n lv' (pc + 2) rest) : V G R nL x L f k n lv pc (.int v :: rest) := fun H locs ls hP hS hl => lv_istore hx.1 hx.2.1 hd hl.lv hn rfl (fun ls' hl' => kk H locs ls' hP hS (he ▸ hl.put rfl hl'))
theorem v_astore_n (hx : KX G nL x cc own) {j : Fin 4} {i : Nat} {v : Nat} (hd : decode cc pc = .ok (.astore_n j, 1)) (hi : (j : Nat) = i) (hn : i < nL) {lv' : List (Option Value)} (he : lv.set i (some (.ref v)) = lv') (kk : V G R nL x L f k n lv' (pc + 1) rest) : V G R nL x L f k n lv pc (.ref v :: rest) := fun H locs ls hP hS hl => lv_astore_n hx.1 hx.2.1 hd hi hl.lv hn rfl (fun ls' hl' => kk H locs ls' hP hS (he ▸ hl.put rfl hl'))
theorem v_astore (hx : KX G nL x cc own) {i : Nat} {v : Nat} (hd : decode cc pc = .ok (.astore i, 2)) (hn : i < nL) {lv' : List (Option Value)} (he : lv.set i (some (.ref v)) = lv') (kk : V G R nL x L f k n lv' (pc + 2) rest) : V G R nL x L f k n lv pc (.ref v :: rest) := fun H locs ls hP hS hl => lv_astore hx.1 hx.2.1 hd hl.lv hn rfl (fun ls' hl' => kk H locs ls' hP hS (he ▸ hl.put rfl hl'))
theorem v_astore_nN (hx : KX G nL x cc own) {j : Fin 4} {i : Nat} (hd : decode cc pc = .ok (.astore_n j, 1)) (hi : (j : Nat) = i) (hn : i < nL) {lv' : List (Option Value)} (he : lv.set i (some .null) = lv') (kk : V G R nL x L f k n lv' (pc + 1) rest) : V G R nL x L f k n lv pc (.null :: rest) := fun H locs ls hP hS hl => lv_astore_nN hx.1 hx.2.1 hd hi hl.lv hn rfl (fun ls' hl' => kk H locs ls' hP hS (he ▸ hl.put rfl hl'))
theorem v_astoreN (hx : KX G nL x cc own) {i : Nat} (hd : decode cc pc = .ok (.astore i, 2)) (hn : i < nL) {lv' : List (Option Value)} (he : lv.set i (some .null) = lv') (kk : V G R nL x L f k n lv' (pc + 2) rest) : V G R nL x L f k n lv pc (.null :: rest) := fun H locs ls hP hS hl => lv_astoreN hx.1 hx.2.1 hd hl.lv hn rfl (fun ls' hl' => kk H locs ls' hP hS (he ▸ hl.put rfl hl'))
theorem v_iinc (hx : KX G nL x cc own) {i : Nat} {z : Int} {a v : Int32} (hd : decode cc pc = .ok (.iinc i z, 3)) (ha : lv[i]? = some (some (.int a))) (hv : a + Int32.ofInt z = v) (hn : i < nL) {lv' : List (Option Value)} (he : lv.set i (some (.int v)) = lv') (kk : V G R nL x L f k n lv' (pc + 3) rest) : V G R nL x L f k n lv pc rest := by
  intro H locs ls hP hS hl
  obtain ⟨q, hq⟩ := List.mem_iff_getElem?.mp (vl_pl_mem.mpr ha)
  exact lv_iinc hx.1 hx.2.1 hd hl.lv hq hv hn rfl (fun ls' hl' => kk H locs ls' hP hS (he ▸ hl.put rfl hl'))
theorem v_iadd (hx : KX G nL x cc own) {a b v : Int32} (hd : decode cc pc = .ok (.iadd, 1)) (hv : a + b = v) (kk : V G R nL x L f k n lv (pc + 1) (.int v :: rest)) : V G R nL x L f k n lv pc (.int b :: .int a :: rest) := fun H locs ls hP hS hl => lv_iadd hx.1 hx.2.1 hd (hv ▸ kk H locs ls hP hS hl)
theorem v_isub (hx : KX G nL x cc own) {a b v : Int32} (hd : decode cc pc = .ok (.isub, 1)) (hv : a - b = v) (kk : V G R nL x L f k n lv (pc + 1) (.int v :: rest)) : V G R nL x L f k n lv pc (.int b :: .int a :: rest) := fun H locs ls hP hS hl => lv_isub hx.1 hx.2.1 hd (hv ▸ kk H locs ls hP hS hl)
theorem v_imul (hx : KX G nL x cc own) {a b v : Int32} (hd : decode cc pc = .ok (.imul, 1)) (hv : a * b = v) (kk : V G R nL x L f k n lv (pc + 1) (.int v :: rest)) : V G R nL x L f k n lv pc (.int b :: .int a :: rest) := fun H locs ls hP hS hl => lv_imul hx.1 hx.2.1 hd (hv ▸ kk H locs ls hP hS hl)
theorem v_iand (hx : KX G nL x cc own) {a b v : Int32} (hd : decode cc pc = .ok (.iand, 1)) (hv : a &&& b = v) (kk : V G R nL x L f k n lv (pc + 1) (.int v :: rest)) : V G R nL x L f k n lv pc (.int b :: .int a :: rest) := fun H locs ls hP hS hl => lv_iand hx.1 hx.2.1 hd (hv ▸ kk H locs ls hP hS hl)
theorem v_ior (hx : KX G nL x cc own) {a b v : Int32} (hd : decode cc pc = .ok (.ior, 1)) (hv : a ||| b = v) (kk : V G R nL x L f k n lv (pc + 1) (.int v :: rest)) : V G R nL x L f k n lv pc (.int b :: .int a :: rest) := fun H locs ls hP hS hl => lv_ior hx.1 hx.2.1 hd (hv ▸ kk H locs ls hP hS hl)
theorem v_ixor (hx : KX G nL x cc own) {a b v : Int32} (hd : decode cc pc = .ok (.ixor, 1)) (hv : a ^^^ b = v) (kk : V G R nL x L f k n lv (pc + 1) (.int v :: rest)) : V G R nL x L f k n lv pc (.int b :: .int a :: rest) := fun H locs ls hP hS hl => lv_ixor hx.1 hx.2.1 hd (hv ▸ kk H locs ls hP hS hl)
theorem v_ishl (hx : KX G nL x cc own) {a b v : Int32} (hd : decode cc pc = .ok (.ishl, 1)) (hv : a <<< (b &&& 31) = v) (kk : V G R nL x L f k n lv (pc + 1) (.int v :: rest)) : V G R nL x L f k n lv pc (.int b :: .int a :: rest) := fun H locs ls hP hS hl => lv_ishl hx.1 hx.2.1 hd (hv ▸ kk H locs ls hP hS hl)
theorem v_ishr (hx : KX G nL x cc own) {a b v : Int32} (hd : decode cc pc = .ok (.ishr, 1)) (hv : a >>> (b &&& 31) = v) (kk : V G R nL x L f k n lv (pc + 1) (.int v :: rest)) : V G R nL x L f k n lv pc (.int b :: .int a :: rest) := fun H locs ls hP hS hl => lv_ishr hx.1 hx.2.1 hd (hv ▸ kk H locs ls hP hS hl)
theorem v_idiv (hx : KX G nL x cc own) {a b v : Int32} (hd : decode cc pc = .ok (.idiv, 1)) (hne : ¬ b = 0) (hv : a / b = v) (kk : V G R nL x L f k n lv (pc + 1) (.int v :: rest)) : V G R nL x L f k n lv pc (.int b :: .int a :: rest) := fun H locs ls hP hS hl => lv_idiv hx.1 hx.2.1 hd hne (hv ▸ kk H locs ls hP hS hl)
theorem v_irem (hx : KX G nL x cc own) {a b v : Int32} (hd : decode cc pc = .ok (.irem, 1)) (hne : ¬ b = 0) (hv : a - a / b * b = v) (kk : V G R nL x L f k n lv (pc + 1) (.int v :: rest)) : V G R nL x L f k n lv pc (.int b :: .int a :: rest) := fun H locs ls hP hS hl => lv_irem hx.1 hx.2.1 hd hne (hv ▸ kk H locs ls hP hS hl)
theorem v_ineg (hx : KX G nL x cc own) {a v : Int32} (hd : decode cc pc = .ok (.ineg, 1)) (hv : -a = v) (kk : V G R nL x L f k n lv (pc + 1) (.int v :: rest)) : V G R nL x L f k n lv pc (.int a :: rest) := fun H locs ls hP hS hl => lv_ineg hx.1 hx.2.1 hd (hv ▸ kk H locs ls hP hS hl)
theorem v_iushr (hx : KX G nL x cc own) {a b v : Int32} (hd : decode cc pc = .ok (.iushr, 1)) (hv : (a.toUInt32 >>> (b.toUInt32 &&& Int32.toUInt32 31)).toInt32 = v) (kk : V G R nL x L f k n lv (pc + 1) (.int v :: rest)) : V G R nL x L f k n lv pc (.int b :: .int a :: rest) := fun H locs ls hP hS hl => lv_iushr hx.1 hx.2.1 hd hv (kk H locs ls hP hS hl)
theorem v_i2l (hx : KX G nL x cc own) {a : Int32} {v : Int64} (hd : decode cc pc = .ok (.i2l, 1)) (hv : a.toInt64 = v) (kk : V G R nL x L f k n lv (pc + 1) (.long v :: rest)) : V G R nL x L f k n lv pc (.int a :: rest) := fun H locs ls hP hS hl => lv_i2l hx.1 hx.2.1 hd hv (kk H locs ls hP hS hl)
theorem v_lconst (hx : KX G nL x cc own) {z : Fin 2} {v : Int64} (hd : decode cc pc = .ok (.lconst z, 1)) (hv : Int64.ofNat (z : Nat) = v) (kk : V G R nL x L f k n lv (pc + 1) (.long v :: rest)) : V G R nL x L f k n lv pc rest := fun H locs ls hP hS hl => lv_lconst hx.1 hx.2.1 hd hv (kk H locs ls hP hS hl)
theorem n_iadd (hx : KX G nL x cc own) {a b : Nat} (hd : decode cc pc = .ok (.iadd, 1))  (kk : V G R nL x L f k n lv (pc + 1) (.int (nI (a + b)) :: rest)) : V G R nL x L f k n lv pc (.int (nI b) :: .int (nI a) :: rest) := v_iadd hx hd (nI_add a b) kk
theorem n_imul (hx : KX G nL x cc own) {a b : Nat} (hd : decode cc pc = .ok (.imul, 1))  (kk : V G R nL x L f k n lv (pc + 1) (.int (nI (a * b)) :: rest)) : V G R nL x L f k n lv pc (.int (nI b) :: .int (nI a) :: rest) := v_imul hx hd (pk_mul a b) kk
theorem n_isub (hx : KX G nL x cc own) {a b : Nat} (hd : decode cc pc = .ok (.isub, 1)) (h : b ≤ a) (kk : V G R nL x L f k n lv (pc + 1) (.int (nI (a - b)) :: rest)) : V G R nL x L f k n lv pc (.int (nI b) :: .int (nI a) :: rest) := v_isub hx hd (pk_sub h) kk
theorem n_idiv (hx : KX G nL x cc own) {a b : Nat} (hd : decode cc pc = .ok (.idiv, 1)) (ha : a < 2 ^ 31) (h0 : 0 < b) (hb : b < 2 ^ 31) (kk : V G R nL x L f k n lv (pc + 1) (.int (nI (a / b)) :: rest)) : V G R nL x L f k n lv pc (.int (nI b) :: .int (nI a) :: rest) := v_idiv hx hd (nI_ne0 h0 hb) (pk_div ha h0 hb) kk
theorem n_irem (hx : KX G nL x cc own) {a b : Nat} (hd : decode cc pc = .ok (.irem, 1)) (ha : a < 2 ^ 31) (h0 : 0 < b) (hb : b < 2 ^ 31) (kk : V G R nL x L f k n lv (pc + 1) (.int (nI (a % b)) :: rest)) : V G R nL x L f k n lv pc (.int (nI b) :: .int (nI a) :: rest) := v_irem hx hd (nI_ne0 h0 hb) (pk_rem ha h0 hb) kk
theorem n_iinc (hx : KX G nL x cc own) {i : Nat} {a : Nat} (hd : decode cc pc = .ok (.iinc i 1, 3)) (ha : lv[i]? = some (some (.int (nI a)))) (hn : i < nL) {lv' : List (Option Value)} (he : lv.set i (some (.int (nI (a + 1)))) = lv') (kk : V G R nL x L f k n lv' (pc + 3) rest) : V G R nL x L f k n lv pc rest := v_iinc hx hd ha (nI_1 a) hn he kk
theorem v_dup (hx : KX G nL x cc own) {a : Value} (hd : decode cc pc = .ok (.dup, 1)) (ha : a.category = 1) (kk : V G R nL x L f k n lv (pc + 1) (a :: a :: rest)) : V G R nL x L f k n lv pc (a :: rest) := fun H locs ls hP hS hl => lv_dup hx.1 hx.2.1 hd ha (kk H locs ls hP hS hl)
theorem v_pop (hx : KX G nL x cc own) {a : Value} (hd : decode cc pc = .ok (.pop, 1)) (ha : a.category = 1) (kk : V G R nL x L f k n lv (pc + 1) (rest)) : V G R nL x L f k n lv pc (a :: rest) := fun H locs ls hP hS hl => lv_pop hx.1 hx.2.1 hd ha (kk H locs ls hP hS hl)
theorem v_dup_x1 (hx : KX G nL x cc own) {a b : Value} (hd : decode cc pc = .ok (.dup_x1, 1)) (ha : a.category = 1) (hb : b.category = 1) (kk : V G R nL x L f k n lv (pc + 1) (a :: b :: a :: rest)) : V G R nL x L f k n lv pc (a :: b :: rest) := fun H locs ls hP hS hl => lv_dup_x1 hx.1 hx.2.1 hd ha hb (kk H locs ls hP hS hl)
theorem v_dup_x2 (hx : KX G nL x cc own) {a b d : Value} (hd : decode cc pc = .ok (.dup_x2, 1)) (ha : a.category = 1) (hb : b.category = 1) (hc : d.category = 1) (kk : V G R nL x L f k n lv (pc + 1) (a :: b :: d :: a :: rest)) : V G R nL x L f k n lv pc (a :: b :: d :: rest) := fun H locs ls hP hS hl => lv_dup_x2 hx.1 hx.2.1 hd ha hb hc (kk H locs ls hP hS hl)
theorem v_dup2 (hx : KX G nL x cc own) {a b : Value} (hd : decode cc pc = .ok (.dup2, 1)) (ha : a.category = 1) (hb : b.category = 1) (kk : V G R nL x L f k n lv (pc + 1) (a :: b :: a :: b :: rest)) : V G R nL x L f k n lv pc (a :: b :: rest) := fun H locs ls hP hS hl => lv_dup2_11 hx.1 hx.2.1 hd ha hb (kk H locs ls hP hS hl)
theorem v_if_eq (hx : KX G nL x cc own) {a : Int32} {off : Int} {tgt : Nat} (hd : decode cc pc = .ok (.ifCond .eq off, 3)) (ht : (pc : Int) + off = (tgt : Int)) (kt : a = 0 → V G R nL x L f k n lv tgt rest) (kf : ¬ a = 0 → V G R nL x L f k n lv (pc + 3) rest) : V G R nL x L f k n lv pc (.int a :: rest) := fun H locs ls hP hS hl => lv_if_eq hx.1 hx.2.1 hd ht (fun h => kt h H locs ls hP hS hl) (fun h => kf h H locs ls hP hS hl)
theorem v_icmp_eq (hx : KX G nL x cc own) {a b : Int32} {off : Int} {tgt : Nat} (hd : decode cc pc = .ok (.if_icmp .eq off, 3)) (ht : (pc : Int) + off = (tgt : Int)) (kt : a = b → V G R nL x L f k n lv tgt rest) (kf : ¬ a = b → V G R nL x L f k n lv (pc + 3) rest) : V G R nL x L f k n lv pc (.int b :: .int a :: rest) := fun H locs ls hP hS hl => lv_icmp_eq hx.1 hx.2.1 hd ht (fun h => kt h H locs ls hP hS hl) (fun h => kf h H locs ls hP hS hl)
theorem v_if_ne (hx : KX G nL x cc own) {a : Int32} {off : Int} {tgt : Nat} (hd : decode cc pc = .ok (.ifCond .ne off, 3)) (ht : (pc : Int) + off = (tgt : Int)) (kt : ¬ a = 0 → V G R nL x L f k n lv tgt rest) (kf : a = 0 → V G R nL x L f k n lv (pc + 3) rest) : V G R nL x L f k n lv pc (.int a :: rest) := fun H locs ls hP hS hl => lv_if_ne hx.1 hx.2.1 hd ht (fun h => kt h H locs ls hP hS hl) (fun h => kf h H locs ls hP hS hl)
theorem v_icmp_ne (hx : KX G nL x cc own) {a b : Int32} {off : Int} {tgt : Nat} (hd : decode cc pc = .ok (.if_icmp .ne off, 3)) (ht : (pc : Int) + off = (tgt : Int)) (kt : ¬ a = b → V G R nL x L f k n lv tgt rest) (kf : a = b → V G R nL x L f k n lv (pc + 3) rest) : V G R nL x L f k n lv pc (.int b :: .int a :: rest) := fun H locs ls hP hS hl => lv_icmp_ne hx.1 hx.2.1 hd ht (fun h => kt h H locs ls hP hS hl) (fun h => kf h H locs ls hP hS hl)
theorem v_if_lt (hx : KX G nL x cc own) {a : Int32} {off : Int} {tgt : Nat} (hd : decode cc pc = .ok (.ifCond .lt off, 3)) (ht : (pc : Int) + off = (tgt : Int)) (kt : a < 0 → V G R nL x L f k n lv tgt rest) (kf : ¬ a < 0 → V G R nL x L f k n lv (pc + 3) rest) : V G R nL x L f k n lv pc (.int a :: rest) := fun H locs ls hP hS hl => lv_if_lt hx.1 hx.2.1 hd ht (fun h => kt h H locs ls hP hS hl) (fun h => kf h H locs ls hP hS hl)
theorem v_icmp_lt (hx : KX G nL x cc own) {a b : Int32} {off : Int} {tgt : Nat} (hd : decode cc pc = .ok (.if_icmp .lt off, 3)) (ht : (pc : Int) + off = (tgt : Int)) (kt : a < b → V G R nL x L f k n lv tgt rest) (kf : ¬ a < b → V G R nL x L f k n lv (pc + 3) rest) : V G R nL x L f k n lv pc (.int b :: .int a :: rest) := fun H locs ls hP hS hl => lv_icmp_lt hx.1 hx.2.1 hd ht (fun h => kt h H locs ls hP hS hl) (fun h => kf h H locs ls hP hS hl)
theorem v_if_ge (hx : KX G nL x cc own) {a : Int32} {off : Int} {tgt : Nat} (hd : decode cc pc = .ok (.ifCond .ge off, 3)) (ht : (pc : Int) + off = (tgt : Int)) (kt : 0 ≤ a → V G R nL x L f k n lv tgt rest) (kf : ¬ 0 ≤ a → V G R nL x L f k n lv (pc + 3) rest) : V G R nL x L f k n lv pc (.int a :: rest) := fun H locs ls hP hS hl => lv_if_ge hx.1 hx.2.1 hd ht (fun h => kt h H locs ls hP hS hl) (fun h => kf h H locs ls hP hS hl)
theorem v_icmp_ge (hx : KX G nL x cc own) {a b : Int32} {off : Int} {tgt : Nat} (hd : decode cc pc = .ok (.if_icmp .ge off, 3)) (ht : (pc : Int) + off = (tgt : Int)) (kt : b ≤ a → V G R nL x L f k n lv tgt rest) (kf : ¬ b ≤ a → V G R nL x L f k n lv (pc + 3) rest) : V G R nL x L f k n lv pc (.int b :: .int a :: rest) := fun H locs ls hP hS hl => lv_icmp_ge hx.1 hx.2.1 hd ht (fun h => kt h H locs ls hP hS hl) (fun h => kf h H locs ls hP hS hl)
theorem v_if_gt (hx : KX G nL x cc own) {a : Int32} {off : Int} {tgt : Nat} (hd : decode cc pc = .ok (.ifCond .gt off, 3)) (ht : (pc : Int) + off = (tgt : Int)) (kt : 0 < a → V G R nL x L f k n lv tgt rest) (kf : ¬ 0 < a → V G R nL x L f k n lv (pc + 3) rest) : V G R nL x L f k n lv pc (.int a :: rest) := fun H locs ls hP hS hl => lv_if_gt hx.1 hx.2.1 hd ht (fun h => kt h H locs ls hP hS hl) (fun h => kf h H locs ls hP hS hl)
theorem v_icmp_gt (hx : KX G nL x cc own) {a b : Int32} {off : Int} {tgt : Nat} (hd : decode cc pc = .ok (.if_icmp .gt off, 3)) (ht : (pc : Int) + off = (tgt : Int)) (kt : b < a → V G R nL x L f k n lv tgt rest) (kf : ¬ b < a → V G R nL x L f k n lv (pc + 3) rest) : V G R nL x L f k n lv pc (.int b :: .int a :: rest) := fun H locs ls hP hS hl => lv_icmp_gt hx.1 hx.2.1 hd ht (fun h => kt h H locs ls hP hS hl) (fun h => kf h H locs ls hP hS hl)
theorem v_if_le (hx : KX G nL x cc own) {a : Int32} {off : Int} {tgt : Nat} (hd : decode cc pc = .ok (.ifCond .le off, 3)) (ht : (pc : Int) + off = (tgt : Int)) (kt : a ≤ 0 → V G R nL x L f k n lv tgt rest) (kf : ¬ a ≤ 0 → V G R nL x L f k n lv (pc + 3) rest) : V G R nL x L f k n lv pc (.int a :: rest) := fun H locs ls hP hS hl => lv_if_le hx.1 hx.2.1 hd ht (fun h => kt h H locs ls hP hS hl) (fun h => kf h H locs ls hP hS hl)
theorem v_icmp_le (hx : KX G nL x cc own) {a b : Int32} {off : Int} {tgt : Nat} (hd : decode cc pc = .ok (.if_icmp .le off, 3)) (ht : (pc : Int) + off = (tgt : Int)) (kt : a ≤ b → V G R nL x L f k n lv tgt rest) (kf : ¬ a ≤ b → V G R nL x L f k n lv (pc + 3) rest) : V G R nL x L f k n lv pc (.int b :: .int a :: rest) := fun H locs ls hP hS hl => lv_icmp_le hx.1 hx.2.1 hd ht (fun h => kt h H locs ls hP hS hl) (fun h => kf h H locs ls hP hS hl)
theorem n_icmp_eq (hx : KX G nL x cc own) {a b : Nat} {off : Int} {tgt : Nat} (hd : decode cc pc = .ok (.if_icmp .eq off, 3)) (ht : (pc : Int) + off = (tgt : Int)) (ha : a < 2 ^ 31) (hb : b < 2 ^ 31) (kt : a = b → V G R nL x L f k n lv tgt rest) (kf : a ≠ b → V G R nL x L f k n lv (pc + 3) rest) : V G R nL x L f k n lv pc (.int (nI b) :: .int (nI a) :: rest) := v_icmp_eq hx hd ht (fun h => kt ((nI_eq ha hb).mp h)) (fun h => kf (fun e => h ((nI_eq ha hb).mpr e)))
theorem n_icmp_ne (hx : KX G nL x cc own) {a b : Nat} {off : Int} {tgt : Nat} (hd : decode cc pc = .ok (.if_icmp .ne off, 3)) (ht : (pc : Int) + off = (tgt : Int)) (ha : a < 2 ^ 31) (hb : b < 2 ^ 31) (kt : a ≠ b → V G R nL x L f k n lv tgt rest) (kf : a = b → V G R nL x L f k n lv (pc + 3) rest) : V G R nL x L f k n lv pc (.int (nI b) :: .int (nI a) :: rest) := v_icmp_ne hx hd ht (fun h => kt (fun e => h ((nI_eq ha hb).mpr e))) (fun h => kf ((nI_eq ha hb).mp h))
theorem n_icmp_lt (hx : KX G nL x cc own) {a b : Nat} {off : Int} {tgt : Nat} (hd : decode cc pc = .ok (.if_icmp .lt off, 3)) (ht : (pc : Int) + off = (tgt : Int)) (ha : a < 2 ^ 31) (hb : b < 2 ^ 31) (kt : a < b → V G R nL x L f k n lv tgt rest) (kf : b ≤ a → V G R nL x L f k n lv (pc + 3) rest) : V G R nL x L f k n lv pc (.int (nI b) :: .int (nI a) :: rest) := v_icmp_lt hx hd ht (fun h => kt ((nI_ltI ha hb).mp h)) (fun h => kf (Nat.le_of_not_lt (fun e => h ((nI_ltI ha hb).mpr e))))
theorem n_icmp_ge (hx : KX G nL x cc own) {a b : Nat} {off : Int} {tgt : Nat} (hd : decode cc pc = .ok (.if_icmp .ge off, 3)) (ht : (pc : Int) + off = (tgt : Int)) (ha : a < 2 ^ 31) (hb : b < 2 ^ 31) (kt : b ≤ a → V G R nL x L f k n lv tgt rest) (kf : a < b → V G R nL x L f k n lv (pc + 3) rest) : V G R nL x L f k n lv pc (.int (nI b) :: .int (nI a) :: rest) := v_icmp_ge hx hd ht (fun h => kt ((nI_leI hb ha).mp h)) (fun h => kf (Nat.lt_of_not_le (fun e => h ((nI_leI hb ha).mpr e))))
theorem n_icmp_gt (hx : KX G nL x cc own) {a b : Nat} {off : Int} {tgt : Nat} (hd : decode cc pc = .ok (.if_icmp .gt off, 3)) (ht : (pc : Int) + off = (tgt : Int)) (ha : a < 2 ^ 31) (hb : b < 2 ^ 31) (kt : b < a → V G R nL x L f k n lv tgt rest) (kf : a ≤ b → V G R nL x L f k n lv (pc + 3) rest) : V G R nL x L f k n lv pc (.int (nI b) :: .int (nI a) :: rest) := v_icmp_gt hx hd ht (fun h => kt ((nI_ltI hb ha).mp h)) (fun h => kf (Nat.le_of_not_lt (fun e => h ((nI_ltI hb ha).mpr e))))
theorem n_icmp_le (hx : KX G nL x cc own) {a b : Nat} {off : Int} {tgt : Nat} (hd : decode cc pc = .ok (.if_icmp .le off, 3)) (ht : (pc : Int) + off = (tgt : Int)) (ha : a < 2 ^ 31) (hb : b < 2 ^ 31) (kt : a ≤ b → V G R nL x L f k n lv tgt rest) (kf : b < a → V G R nL x L f k n lv (pc + 3) rest) : V G R nL x L f k n lv pc (.int (nI b) :: .int (nI a) :: rest) := v_icmp_le hx hd ht (fun h => kt ((nI_leI ha hb).mp h)) (fun h => kf (Nat.lt_of_not_le (fun e => h ((nI_leI ha hb).mpr e))))
theorem n_if_eq (hx : KX G nL x cc own) {a : Nat} {off : Int} {tgt : Nat} (hd : decode cc pc = .ok (.ifCond .eq off, 3)) (ht : (pc : Int) + off = (tgt : Int)) (ha : a < 2 ^ 31) (kt : a = 0 → V G R nL x L f k n lv tgt rest) (kf : 0 < a → V G R nL x L f k n lv (pc + 3) rest) : V G R nL x L f k n lv pc (.int (nI a) :: rest) := v_if_eq hx hd ht (fun h => kt (Nat.eq_zero_of_not_pos (fun e => nI_ne0 e ha h))) (fun h => kf (Nat.pos_of_ne_zero (fun e => h (e ▸ nI_0))))
theorem n_if_ne (hx : KX G nL x cc own) {a : Nat} {off : Int} {tgt : Nat} (hd : decode cc pc = .ok (.ifCond .ne off, 3)) (ht : (pc : Int) + off = (tgt : Int)) (ha : a < 2 ^ 31) (kt : 0 < a → V G R nL x L f k n lv tgt rest) (kf : a = 0 → V G R nL x L f k n lv (pc + 3) rest) : V G R nL x L f k n lv pc (.int (nI a) :: rest) := v_if_ne hx hd ht (fun h => kt (Nat.pos_of_ne_zero (fun e => h (e ▸ nI_0)))) (fun h => kf (Nat.eq_zero_of_not_pos (fun e => nI_ne0 e ha h)))
theorem n_if_lt (hx : KX G nL x cc own) {a : Nat} {off : Int} {tgt : Nat} (hd : decode cc pc = .ok (.ifCond .lt off, 3)) (ht : (pc : Int) + off = (tgt : Int)) (ha : a < 2 ^ 31) (kf : V G R nL x L f k n lv (pc + 3) rest) : V G R nL x L f k n lv pc (.int (nI a) :: rest) := v_if_lt hx hd ht (fun h => absurd h (nI_pos ha)) (fun _ => kf)
theorem n_if_ge (hx : KX G nL x cc own) {a : Nat} {off : Int} {tgt : Nat} (hd : decode cc pc = .ok (.ifCond .ge off, 3)) (ht : (pc : Int) + off = (tgt : Int)) (ha : a < 2 ^ 31) (kt : V G R nL x L f k n lv tgt rest) : V G R nL x L f k n lv pc (.int (nI a) :: rest) := v_if_ge hx hd ht (fun _ => kt) (fun h => absurd (nI_pos' ha) h)
theorem n_if_gt (hx : KX G nL x cc own) {a : Nat} {off : Int} {tgt : Nat} (hd : decode cc pc = .ok (.ifCond .gt off, 3)) (ht : (pc : Int) + off = (tgt : Int)) (ha : a < 2 ^ 31) (kt : 0 < a → V G R nL x L f k n lv tgt rest) (kf : a = 0 → V G R nL x L f k n lv (pc + 3) rest) : V G R nL x L f k n lv pc (.int (nI a) :: rest) := v_if_gt hx hd ht (fun h => kt (Nat.pos_of_ne_zero (fun e => by subst e; rw [nI_0] at h; exact absurd h (by decide)))) (fun h => kf (Nat.eq_zero_of_not_pos (fun e => h (by have := nI_lt e ha; rwa [nI_0] at this))))
theorem n_if_le (hx : KX G nL x cc own) {a : Nat} {off : Int} {tgt : Nat} (hd : decode cc pc = .ok (.ifCond .le off, 3)) (ht : (pc : Int) + off = (tgt : Int)) (ha : a < 2 ^ 31) (kt : a = 0 → V G R nL x L f k n lv tgt rest) (kf : 0 < a → V G R nL x L f k n lv (pc + 3) rest) : V G R nL x L f k n lv pc (.int (nI a) :: rest) := v_if_le hx hd ht (fun h => kt (Nat.eq_zero_of_not_pos (fun e => nI_nle e ha h))) (fun h => kf (Nat.pos_of_ne_zero (fun e => by subst e; rw [nI_0] at h; exact absurd (by decide) h)))
theorem v_goto (hx : KX G nL x cc own) {off : Int} {tgt : Nat} (hd : decode cc pc = .ok (.goto off, 3)) (ht : (pc : Int) + off = (tgt : Int)) (kk : V G R nL x L f k n lv tgt rest) : V G R nL x L f k n lv pc rest := fun H locs ls hP hS hl => lv_goto hx.1 hx.2.1 hd ht (kk H locs ls hP hS hl)
theorem v_ifnull (hx : KX G nL x cc own) {a : Nat} {off : Int} (hd : decode cc pc = .ok (.ifnull off, 3)) (kk : V G R nL x L f k n lv (pc + 3) rest) : V G R nL x L f k n lv pc (.ref a :: rest) := fun H locs ls hP hS hl => lv_ifnull hx.1 hx.2.1 hd (kk H locs ls hP hS hl)
theorem v_ifnonnull (hx : KX G nL x cc own) {a : Nat} {off : Int} {tgt : Nat} (hd : decode cc pc = .ok (.ifnonnull off, 3)) (ht : (pc : Int) + off = (tgt : Int)) (kk : V G R nL x L f k n lv tgt rest) : V G R nL x L f k n lv pc (.ref a :: rest) := fun H locs ls hP hS hl => lv_ifnonnull hx.1 hx.2.1 hd ht (kk H locs ls hP hS hl)
theorem v_ifnullN (hx : KX G nL x cc own) {off : Int} {tgt : Nat} (hd : decode cc pc = .ok (.ifnull off, 3)) (ht : (pc : Int) + off = (tgt : Int)) (kk : V G R nL x L f k n lv tgt rest) : V G R nL x L f k n lv pc (.null :: rest) := fun H locs ls hP hS hl => lv_ifnullN hx.1 hx.2.1 hd ht (kk H locs ls hP hS hl)
theorem v_ifnonnullN (hx : KX G nL x cc own) {off : Int} (hd : decode cc pc = .ok (.ifnonnull off, 3)) (kk : V G R nL x L f k n lv (pc + 3) rest) : V G R nL x L f k n lv pc (.null :: rest) := fun H locs ls hP hS hl => lv_ifnonnullN hx.1 hx.2.1 hd (kk H locs ls hP hS hl)
theorem v_widen {k' n' : Nat} (h1 : k ≤ k') (h2 : n ≤ n') {lv : List (Option Value)} (kk : V G R nL x L f k' n' lv pc rest) : V G R nL x L f k n lv pc rest := fun H locs ls hP hS hl => W.widen h1 h2 (kk H locs ls hP hS hl)
end VROWS
theorem gP.pos {G : GT} {L : List Nat} {f : Nat → va_E} {H : Heap} {a : Nat} (ha : a ∈ L) : ∃ q : Nat, (va_pl L f)[q]? = some (a, f a) := va_pl_get (X := []) ha
theorem gP.set {G : GT} {L : List Nat} {f : Nat → va_E} {H H1 : Heap} {a q : Nat} {e : va_E} (hP : gP G L f H) (ha : a ∈ L) (hq : (va_pl L f)[q]? = some (a, f a)) (h1 : va_P G.2.1 CL ((va_pl L f).set q (a, e)) H1) (h2 : va_D (gB G) ((va_pl L f).set q (a, e))) : gP G L (va_up f a e) H1 := by
  have e1 : (va_pl L f).set q (a, e) = va_pl L (va_up f a e) := va_pl_set (X := []) hP.2 ha hq
  rw [e1] at h1 h2
  exact ⟨h1, h2⟩
theorem gP.push {G : GT} {L : List Nat} {f : Nat → va_E} {H1 : Heap} {q : Nat} {e : va_E} (h1 : va_P G.2.1 CL (va_pl L f ++ [(q, e)]) H1) (h2 : va_D (gB G) (va_pl L f ++ [(q, e)])) : q ∉ L ∧ gP G (L ++ [q]) (va_up f q e) H1 := by
  have h : q ∉ L := va_pl_fresh2 (X := []) h2
  have e1 := va_pl_push (f := f) (e := e) h
  rw [e1] at h1 h2
  exact ⟨h, h1, h2⟩
theorem KX.hA {G : GT} {nL : Nat} {x : XT} {cc : ByteArray} {own : String} (hx : KX G nL x cc own) : ∀ q, x.2.2.1.heap.size ≤ q → gB G q := fun _ h => Nat.le_trans hx.2.2.2.2.2.2.1 h
section VHEAP
variable {G : GT} {R : Room} {nL : Nat} {x : XT} {cc : ByteArray} {own : String} {L : List Nat} {f : Nat → va_E} {k n : Nat} {lv : List (Option Value)} {pc : Nat} {rest : List Value}
/-- class number ci of CL is C with fields T, N of them, of types ty; its words are among BIG -/
def CF (ci : Nat) (C : String) (T : u_T) (N : Nat) (ty : Nat → FieldType) : Prop := CL[ci]? = some (C, T, N) ∧ (∀ w ∈ u_ws C T N, w ∈ BIG) ∧ (∀ k, k < N → parseFieldDescriptor (T k).2.2.1 = some (ty k)) ∧ (∀ a, a < N → ∀ b, b < N → a ≠ b → (T a).2.1 ≠ (T b).2.1)
theorem v_get (hx : KX G nL x cc own) {C : String} {T : u_T} {N ci index a : Nat} {ty : Nat → FieldType} {fs : List Value} {v : Value} (hC : CF ci C T N ty) (j : Nat) (hj : j < N) (hlink : Cond.fieldLink own index (T j).1 (T j).2.1 (T j).2.2.1 ∈ BIG) (hd : decode cc pc = .ok (.getfield index, 3)) (ha : a ∈ L) (hf : f a = .inr (ci, fs)) (hv : fs[j]? = some v) (kk : V G R nL x L f k n lv (pc + 3) (v :: rest)) : V G R nL x L f k n lv pc (.ref a :: rest) := by
  intro H locs ls hP hS hl
  obtain ⟨q0, hq⟩ := gP.pos (G := G) (f := f) (H := H) ha
  rw [hf] at hq
  exact va_get hx.1 hx.2.1 hx.2.2.2.2.1 hC.2.1 hx.2.2.2.1 hx.2.2.2.2.2.1.1 hP.1 q0 hq hC.1 j hj (hx.2.2.2.2.1 _ hlink) (fun _ h => h) hv hd (kk H locs ls hP hS hl)
theorem v_getN (hx : KX G nL x cc own) {C host : String} {T : u_T} {N ci index a : Nat} {ty : Nat → FieldType} {fs : List Value} {v : Value} (hC : CF ci C T N ty) (j : Nat) (hj : j < N) (hlink : Cond.fieldLinkNest own index (T j).1 (T j).2.1 (T j).2.2.1 host ∈ NW) (hd : decode cc pc = .ok (.getfield index, 3)) (ha : a ∈ L) (hf : f a = .inr (ci, fs)) (hv : fs[j]? = some v) (kk : V G R nL x L f k n lv (pc + 3) (v :: rest)) : V G R nL x L f k n lv pc (.ref a :: rest) := by
  intro H locs ls hP hS hl
  obtain ⟨q0, hq⟩ := gP.pos (G := G) (f := f) (H := H) ha
  rw [hf] at hq
  exact va_getN hx.1 hx.2.1 hx.2.2.2.2.1 hC.2.1 hx.2.2.2.1 hx.2.2.2.2.2.1.1 hP.1 q0 hq hC.1 j hj (va_Nw.use rfl (hx.2.2.2.2.2.1.2 _ hlink)) (fun _ h => h) hv hd (kk H locs ls hP hS hl)
theorem v_put (hx : KX G nL x cc own) {C : String} {T : u_T} {N ci index a : Nat} {ty : Nat → FieldType} {fs : List Value} {v : Value} (hC : CF ci C T N ty) (j : Nat) (hj : j < N) (hlink : Cond.fieldLink own index (T j).1 (T j).2.1 (T j).2.2.1 ∈ BIG) (hfin : (T j).2.2.2 = false) (hn : narrow (ty j) v = v) (hfit : fits (ty j) v = true) (hd : decode cc pc = .ok (.putfield index, 3)) (ha : a ∈ L) (hf : f a = .inr (ci, fs)) (hl0 : j < fs.length) (kk : V G R nL x L (va_up f a (.inr (ci, fs.set j v))) k n lv (pc + 3) rest) : V G R nL x L f k n lv pc (v :: .ref a :: rest) := by
  intro H locs ls hP hS hl
  obtain ⟨q0, hq⟩ := gP.pos (G := G) (f := f) (H := H) ha
  have hq' := hq
  rw [hf] at hq'
  exact va_put hx.1 hx.2.1 hx.2.2.2.2.1 hC.2.1 ty hC.2.2.1 hC.2.2.2 hx.2.2.2.1 hx.2.2.2.2.2.1.1 hP.1 hP.2 hS q0 hq' hC.1 j hj (hx.2.2.2.2.1 _ hlink) (fun _ h => h) hfin (hC.2.2.1 j hj) hn hfit hl0 hd (fun H1 locs1 h1 h2 h3 => kk H1 locs1 ls (hP.set ha hq h1 h2) h3 hl)
theorem v_putN (hx : KX G nL x cc own) {C host : String} {T : u_T} {N ci index a : Nat} {ty : Nat → FieldType} {fs : List Value} {v : Value} (hC : CF ci C T N ty) (j : Nat) (hj : j < N) (hlink : Cond.fieldLinkNest own index (T j).1 (T j).2.1 (T j).2.2.1 host ∈ NW) (hfin : (T j).2.2.2 = false) (hn : narrow (ty j) v = v) (hfit : fits (ty j) v = true) (hd : decode cc pc = .ok (.putfield index, 3)) (ha : a ∈ L) (hf : f a = .inr (ci, fs)) (hl0 : j < fs.length) (kk : V G R nL x L (va_up f a (.inr (ci, fs.set j v))) k n lv (pc + 3) rest) : V G R nL x L f k n lv pc (v :: .ref a :: rest) := by
  intro H locs ls hP hS hl
  obtain ⟨q0, hq⟩ := gP.pos (G := G) (f := f) (H := H) ha
  have hq' := hq
  rw [hf] at hq'
  exact va_putN hx.1 hx.2.1 hx.2.2.2.2.1 hC.2.1 ty hC.2.2.1 hC.2.2.2 hx.2.2.2.1 hx.2.2.2.2.2.1.1 hP.1 hP.2 hS q0 hq' hC.1 j hj (va_Nw.use rfl (hx.2.2.2.2.2.1.2 _ hlink)) (fun _ h => h) hfin (hC.2.2.1 j hj) hn hfit hl0 hd (fun H1 locs1 h1 h2 h3 => kk H1 locs1 ls (hP.set ha hq h1 h2) h3 hl)
theorem v_putF (hx : KX G nL x cc own) {C : String} {T : u_T} {N ci index a : Nat} {ty : Nat → FieldType} {fs : List Value} {v : Value} (hC : CF ci C T N ty) (j : Nat) (hj : j < N) (hlink : Cond.fieldLink own index (T j).1 (T j).2.1 (T j).2.2.1 ∈ BIG) (hfin : (T j).2.2.2 = true) (hin : x.2.2.2.2.2.2.1.name = "<init>") (ho : (T j).1 = own) (hn : narrow (ty j) v = v) (hfit : fits (ty j) v = true) (hd : decode cc pc = .ok (.putfield index, 3)) (ha : a ∈ L) (hf : f a = .inr (ci, fs)) (hl0 : j < fs.length) (kk : V G R nL x L (va_up f a (.inr (ci, fs.set j v))) k n lv (pc + 3) rest) : V G R nL x L f k n lv pc (v :: .ref a :: rest) := by
  intro H locs ls hP hS hl
  obtain ⟨q0, hq⟩ := gP.pos (G := G) (f := f) (H := H) ha
  have hq' := hq
  rw [hf] at hq'
  exact va_putF hx.1 hx.2.1 hx.2.2.2.2.1 hC.2.1 ty hC.2.2.1 hC.2.2.2 hx.2.2.2.1 hx.2.2.2.2.2.1.1 hP.1 hP.2 hS q0 hq' hC.1 j hj (hx.2.2.2.2.1 _ hlink) (fun _ h => h) hfin hin ho (hC.2.2.1 j hj) hn hfit hl0 hd (fun H1 locs1 h1 h2 h3 => kk H1 locs1 ls (hP.set ha hq h1 h2) h3 hl)
/-- int arrays: class G.2.2.1 0 -/
theorem v_iald (hx : KX G nL x cc own) {a N : Nat} {h : Nat → Int32} {i : Int32} (hd : decode cc pc = .ok (.iaload, 1)) (ha : a ∈ L) (hf : f a = .inl (G.2.2.1 0, N, .inl h)) (hin : vp_in i N) (kk : V G R nL x L f k n lv (pc + 1) (.int (h i.toNatClampNeg) :: rest)) : V G R nL x L f k n lv pc (.int i :: .ref a :: rest) := by
  intro H locs ls hP hS hl
  obtain ⟨q0, hq⟩ := gP.pos (G := G) (f := f) (H := H) ha
  rw [hf] at hq
  exact va_iald hx.1 hx.2.1 hx.2.2.2.2.2.1.1 hP.1 q0 0 hq rfl hin hd (kk H locs ls hP hS hl)
theorem n_iald (hx : KX G nL x cc own) {a N : Nat} {h : Nat → Int32} {i : Nat} (hd : decode cc pc = .ok (.iaload, 1)) (ha : a ∈ L) (hf : f a = .inl (G.2.2.1 0, N, .inl h)) (hi : i < N) (hN : N < 2 ^ 31) (kk : V G R nL x L f k n lv (pc + 1) (.int (h i) :: rest)) : V G R nL x L f k n lv pc (.int (nI i) :: .ref a :: rest) := by
  refine v_iald hx hd ha hf (vp_in_nI hi hN) ?_
  rw [nI_clamp (Nat.lt_trans hi hN)]
  exact kk
theorem v_iast (hx : KX G nL x cc own) {a N : Nat} {h : Nat → Int32} {i v : Int32} (hd : decode cc pc = .ok (.iastore, 1)) (ha : a ∈ L) (hf : f a = .inl (G.2.2.1 0, N, .inl h)) (hin : vp_in i N) (kk : V G R nL x L (va_up f a (.inl (G.2.2.1 0, N, .inl (upd h i.toNatClampNeg v)))) k n lv (pc + 1) rest) : V G R nL x L f k n lv pc (.int v :: .int i :: .ref a :: rest) := by
  intro H locs ls hP hS hl
  obtain ⟨q0, hq⟩ := gP.pos (G := G) (f := f) (H := H) ha
  have hq' := hq
  rw [hf] at hq'
  exact va_iast hx.1 hx.2.1 hx.2.2.2.2.2.1.1 hP.1 hP.2 hS q0 0 hq' rfl hin hd (fun H1 locs1 h1 h2 h3 => kk H1 locs1 ls (hP.set ha hq h1 h2) h3 hl)
theorem n_iast (hx : KX G nL x cc own) {a N : Nat} {h : Nat → Int32} {i : Nat} {v : Int32} (hd : decode cc pc = .ok (.iastore, 1)) (ha : a ∈ L) (hf : f a = .inl (G.2.2.1 0, N, .inl h)) (hi : i < N) (hN : N < 2 ^ 31) (kk : V G R nL x L (va_up f a (.inl (G.2.2.1 0, N, .inl (upd h i v)))) k n lv (pc + 1) rest) : V G R nL x L f k n lv pc (.int v :: .int (nI i) :: .ref a :: rest) := by
  refine v_iast hx hd ha hf (vp_in_nI hi hN) ?_
  rw [nI_clamp (Nat.lt_trans hi hN)]
  exact kk
theorem v_alen (hx : KX G nL x cc own) {a N : Nat} {h : Nat → Int32} (hd : decode cc pc = .ok (.arraylength, 1)) (ha : a ∈ L) (hf : f a = .inl (G.2.2.1 0, N, .inl h)) (kk : V G R nL x L f k n lv (pc + 1) (.int (nI N) :: rest)) : V G R nL x L f k n lv pc (.ref a :: rest) := by
  intro H locs ls hP hS hl
  obtain ⟨q0, hq⟩ := gP.pos (G := G) (f := f) (H := H) ha
  rw [hf] at hq
  exact va_alen hx.1 hx.2.1 hx.2.2.2.2.2.1.1 hP.1 q0 0 hq (ty := .int) rfl rfl hd (kk H locs ls hP hS hl)
theorem v_newa (hx : KX G nL x cc own) {N : Nat} (hw : Cond.arrayClass .int ∈ BIG) (hd : decode cc pc = .ok (.newarray .int, 2)) (hN : N < 2 ^ 26) (hk : k + 1 ≤ R.cells) (hs : n + N ≤ R.slots) (kk : ∀ q, q ∉ L → V G R nL x (L ++ [q]) (va_up f q (.inl (G.2.2.1 0, N, .inl (fun _ => 0)))) (k + 1) (n + N) lv (pc + 2) (.ref q :: rest)) : V G R nL x L f k n lv pc (.int (nI N) :: rest) := by
  intro H locs ls hP hS hl
  refine va_newa (atype := .int) (ty := .int) (N' := N) (a0 := (N, .inl (fun _ => 0))) hx.1 hx.2.1 (hx.2.2.2.2.1 _ hw) rfl hx.2.2.2.2.2.1.1 hP.1 hP.2 hS hx.hA (fun _ => rfl) (nI_pos (by omega)) (nI_clamp (by omega)) (by show N * 4 ≤ 536870912; omega) hk hs hd (fun q cA H1 h0 h1 h2 h3 => ?_)
  have e1 : x.2.2.1.vm.findClass ("[" ++ FieldType.toString .int) = some cA := (h0.2 (TY G.2.2.1).length (cA, .int) (by simp)).2
  have e2 : x.2.2.1.vm.findClass ("[" ++ FieldType.toString .int) = some (G.2.2.1 0) := (hx.2.2.2.2.2.1.1.2 0 (G.2.2.1 0, .int) rfl).2
  have e3 : cA = G.2.2.1 0 := Option.some.inj (e1.symm.trans e2)
  subst e3
  obtain ⟨g1, g2⟩ := gP.push h1 h2
  exact kk q g1 H1 locs ls g2 h3 hl
theorem v_new (hx : KX G nL x cc own) {C : String} {T : u_T} {N ci index : Nat} {ty : Nat → FieldType} (hC : CF ci C T N ty) {fs : List Value} (hfs : ∀ j, j < N → defaultValue (ty j) = vp_V fs j) (h1 : Cond.classLink own index C ∈ BIG) (h2 : Cond.instantiable C N ∈ BIG) (h3 : Cond.initialized C ∈ BIG) (hd : decode cc pc = .ok (.new index, 3)) (hk : k + 1 ≤ R.cells) (hs : n + N ≤ R.slots) (kk : ∀ q, q ∉ L → V G R nL x (L ++ [q]) (va_up f q (.inr (ci, fs))) (k + 1) (n + N) lv (pc + 3) (.ref q :: rest)) : V G R nL x L f k n lv pc rest := by
  intro H locs ls hP hS hl
  refine va_new (ci := ci) (fs := fs) (C := C) (T := T) (N := N) hx.1 hx.2.1 hx.2.2.2.2.1 hC.2.1 ty hC.2.2.1 hx.2.2.2.1 (hx.2.2.2.2.1 _ h1) (hx.2.2.2.2.1 _ h2) (hx.2.2.2.2.1 _ h3) hx.2.2.2.2.2.1.1 hP.1 hP.2 hS hx.hA hC.1 hfs hk hs hd (fun q H1 p1 p2 p3 => ?_)
  obtain ⟨g1, g2⟩ := gP.push p1 p2
  exact kk q g1 H1 locs ls g2 p3 hl
end VHEAP
/-- the words that move along a run: nest links, casts, arrays over a class -/
def nwOK : Cond → Bool
  | .fieldLinkNest .. => true
  | .methodLinkNest .. => true
  | .castable .. => true
  | .declares .. => true
  | .arrayOver (.object _) => true
  | _ => false
theorem nw_moved {w : Cond} (h : nwOK w = true) {s U : State} (hW : s.WarmedH U.vm) (hz : va_Nw w s) : va_Nw w U := by
  unfold nwOK at h
  split at h
  · exact hz.warmF hW
  · exact hz.warmM hW
  · exact hz.warmC hW
  · exact hz.warmD hW
  · exact va_AO.moved hW.alike hz
  · cases h
theorem nw_same {w : Cond} (h : nwOK w = true) {u U : State} (e : u.vm = U.vm) (hz : va_Nw w u) : va_Nw w U := by
  unfold nwOK at h
  split at h
  · exact va_Nw.same rfl e hz
  · exact va_Nw.same rfl e hz
  · exact va_Nw.same rfl e hz
  · exact va_Nw.same rfl e hz
  · exact va_AO.moved (by rw [e]; exact Vm.Alike.refl _) hz
  · cases h
theorem NW_ok : ∀ w ∈ NW, nwOK w = true := by decide +kernel
theorem gK.moved {G : GT} {s U : State} (h : gK G s) (hW : s.WarmedH U.vm) : gK G U := ⟨va_K.moved hW.alike h.1, fun w hw => nw_moved (NW_ok w hw) hW (h.2 w hw)⟩
theorem gK.same {G : GT} {u U : State} (h : gK G u) (e : u.vm = U.vm) : gK G U := ⟨va_K.moved (by rw [e]; exact Vm.Alike.refl _) h.1, fun w hw => nw_same (NW_ok w hw) e (h.2 w hw)⟩
theorem cPre_blind {G : GT} {as : List Value} {L : List Nat} {f : Nat → va_E} : FrameBlind (cPre G as L f) := fun _ _ _ _ h => ⟨h.1, h.2.1, h.2.2.1, h.2.2.2.same rfl⟩
theorem big_good {y : MethodName} {b : ByteArray} {mL : Nat} {ret : Option FieldType} (h : Cond.code y b mL ret ∈ BIG) : GoodIn BIG (.code y b mL ret :: BIG) := fun w hw => by
  rcases List.mem_cons.mp hw with rfl | hw
  · exact BIG_ok _ h
  · exact BIG_ok _ hw
/-- what is known of a method that is called: its code, its class is initialised, how many parameters -/
def CY (y : MethodName) (b : ByteArray) (mL : Nat) (ret : Option FieldType) (np : Nat) : Prop := Cond.code y b mL ret ∈ BIG ∧ Cond.initialized y.cls ∈ BIG ∧ (y.cls ≠ "java/lang/invoke/MethodHandle" ∧ y.cls ≠ "java/lang/invoke/VarHandle" ∧ (parseMethodDescriptor y.desc).map (fun d => d.parameters.length) = some np)
section VCALL
variable {G : GT} {R : Room} {nL : Nat} {x : XT} {cc : ByteArray} {own : String} {L : List Nat} {f : Nat → va_E} {k n : Nat} {lv : List (Option Value)} {pc : Nat} {rest st0 : List Value}
theorem v_run {mc ms : Nat} {Post : Option Value → List Nat → (Nat → va_E) → Prop} {a : Array Value} (hr : ∀ (H : Heap) (locs : List Loc) (ls : Array Slot), gP G L f H → x.2.2.1.heap.size ≤ H.size → ls.size = nL → va_Run x.1 G.1 x.2.1 R x.2.2.1 x.2.2.2.1 x.2.2.2.2.1 x.2.2.2.2.2.1 x.2.2.2.2.2.2.1 x.2.2.2.2.2.2.2.1 H locs k n mc ms (F0 x.2.2.2.1 pc ls st0) rest (cPost G Post a) (gB G))
    (kk : ∀ (v : Option Value) (L' : List Nat) (f' : Nat → va_E), Post v L' f' → V G R nL x L' f' (k + mc) (n + ms) lv (pc + 3) (v.toList ++ rest)) : V G R nL x L f k n lv pc st0 := by
  intro H locs ls hP hS hl T hT X
  obtain ⟨v, st₀, t, T', L1, h0, X', hL, e1, e2, ⟨⟨v', L', f', hv, hp, hg⟩, hz, hk⟩, st⟩ := hr H locs ls hP hS.1 hl.1 T hT X
  cases hv
  rw [h0] at hz hk
  obtain ⟨t2, a1, b1⟩ := kk v L' f' hp T'.heap (locs ++ L1) ls (by rw [e1]; exact hg)
    ⟨Nat.le_trans hS.1 (by rw [e1]; exact hz), fun q h1 h2 => by rw [e1, hk q (Nat.lt_of_lt_of_le h1 hS.1) h2]; exact hS.2.1 q h1 h2, fun q hq => by
      rcases List.mem_append.mp hq with h | h
      · exact hS.2.2 q h
      · exact hL q h⟩ hl T' rfl X'
  exact ⟨t2, st t2 a1, b1⟩
theorem vx_pre (hx : KX G nL x cc own) {as : List Value} {H : Heap} (hP : gP G L f H) (hz : x.2.2.1.heap.size ≤ H.size) : PreS x.2.2.1 H (cPre G as L f) as := ⟨cPre_blind, fun U hU hW => ⟨rfl, by rw [hU]; exact Nat.le_trans hx.2.2.2.2.2.2.1 hz, by rw [hU]; exact hP, hx.2.2.2.2.2.1.moved hW⟩⟩
theorem vx_recv (hx : KX G nL x cc own) {b ci : Nat} {fs : List Value} {q : vw_C} {H : Heap} (hP : gP G L f H) (hb : b ∈ L) (hf : f b = .inr (ci, fs)) (hc : CL[ci]? = some q) : ∃ cell : Cell, H[b]? = some cell ∧ cell.vm.isStatics = false ∧ x.2.2.1.vm.findClass q.1 = some cell.cls := by
  obtain ⟨q0, hq⟩ := gP.pos (G := G) (f := f) (H := H) hb
  rw [hf] at hq
  exact va_recv hx.2.2.2.2.2.1.1 hP.1 hc hq
theorem v_callS (hx : KX G nL x cc own) {y : MethodName} {b : ByteArray} {mL np fr lo mc ms index : Nat} {ret : Option FieldType} {as : List Value} {Post : Option Value → List Nat → (Nat → va_E) → Prop} (hM : Con G y (.code y b mL ret :: BIG) fr lo mc ms as L f Post) (hY : CY y b mL ret np) (hlink : Cond.methodLink own index y ∈ BIG) (hst : Cond.static y ∈ BIG) (hd : decode cc pc = .ok (.invokestatic index, 3)) (hR : fr + 1 ≤ R.frames ∧ 8 + (mL + 11) + lo ≤ R.locals) (hf : k + mc ≤ R.cells ∧ n + ms ≤ R.slots) (hnp : as.length = np) (hstk : st0 = as.reverse ++ rest) (hro : (rest.map fun v => v.category).sum ≤ 8)
    (kk : ∀ (v : Option Value) (L' : List Nat) (f' : Nat → va_E), Post v L' f' → V G R nL x L' f' (k + mc) (n + ms) lv (pc + 3) (v.toList ++ rest)) : V G R nL x L f k n lv pc st0 :=
  v_run (fun H locs ls hP hz hs => va_runS (As := as) ⟨hx.1, hx.2.1, hx.2.2.1, hx.2.2.2.1, hx.2.2.2.2.1⟩ hM ⟨callB_of np hx.2.2.2.2.1 (big_good hY.1) rfl rfl rfl (hx.2.2.2.2.1 _ hY.2.1) (hx.2.2.2.2.1 _ hlink) hY.2.2 hR, hx.2.2.2.2.1 _ hst⟩ (vx_pre hx hP hz) rfl hnp hs hstk (lv_room hro) hd hf) kk
theorem v_callSN (hx : KX G nL x cc own) {y : MethodName} {b : ByteArray} {mL np fr lo mc ms index : Nat} {ret : Option FieldType} {host : String} {as : List Value} {Post : Option Value → List Nat → (Nat → va_E) → Prop} (hM : Con G y (.code y b mL ret :: BIG) fr lo mc ms as L f Post) (hY : CY y b mL ret np) (hlink : Cond.methodLinkNest own index y host ∈ NW) (hst : Cond.static y ∈ BIG) (hd : decode cc pc = .ok (.invokestatic index, 3)) (hR : fr + 1 ≤ R.frames ∧ 8 + (mL + 11) + lo ≤ R.locals) (hf : k + mc ≤ R.cells ∧ n + ms ≤ R.slots) (hnp : as.length = np) (hstk : st0 = as.reverse ++ rest) (hro : (rest.map fun v => v.category).sum ≤ 8)
    (kk : ∀ (v : Option Value) (L' : List Nat) (f' : Nat → va_E), Post v L' f' → V G R nL x L' f' (k + mc) (n + ms) lv (pc + 3) (v.toList ++ rest)) : V G R nL x L f k n lv pc st0 :=
  v_run (fun H locs ls hP hz hs => va_runSN (As := as) ⟨hx.1, hx.2.1, hx.2.2.1, hx.2.2.2.1, hx.2.2.2.2.1⟩ hM ⟨va_cnB np hx.2.2.2.2.1 (big_good hY.1) rfl rfl rfl (hx.2.2.2.2.2.1.2 _ hlink) (hx.2.2.2.2.1 _ hY.2.1) hY.2.2 hR, hx.2.2.2.2.1 _ hst, trivial⟩ (vx_pre hx hP hz) rfl hnp hs hstk (lv_room hro) hd hf) kk
theorem v_callV (hx : KX G nL x cc own) {y : MethodName} {b : ByteArray} {mL np fr lo mc ms index o ci : Nat} {ret : Option FieldType} {as fs : List Value} {q : vw_C} {Post : Option Value → List Nat → (Nat → va_E) → Prop} (hM : Con G y (.code y b mL ret :: BIG) fr lo mc ms (.ref o :: as) L f Post) (hY : CY y b mL ret np) (hlink : Cond.methodLink own index y ∈ BIG) (hin : Cond.instanceMethod y ∈ BIG) (hsel : Cond.selects q.1 y y ∈ BIG) (hd : decode cc pc = .ok (.invokevirtual index, 3)) (hR : fr + 1 ≤ R.frames ∧ 8 + (mL + 11) + lo ≤ R.locals) (hc : CL[ci]? = some q) (ho : o ∈ L) (hfo : f o = .inr (ci, fs)) (hf : k + mc ≤ R.cells ∧ n + ms ≤ R.slots) (hnp : as.length = np) (hstk : st0 = as.reverse ++ .ref o :: rest) (hro : (rest.map fun v => v.category).sum ≤ 8)
    (kk : ∀ (v : Option Value) (L' : List Nat) (f' : Nat → va_E), Post v L' f' → V G R nL x L' f' (k + mc) (n + ms) lv (pc + 3) (v.toList ++ rest)) : V G R nL x L f k n lv pc st0 :=
  v_run (fun H locs ls hP hz hs => va_runV (As := as) ⟨hx.1, hx.2.1, hx.2.2.1, hx.2.2.2.1, hx.2.2.2.2.1⟩ hM ⟨callB_of np hx.2.2.2.2.1 (big_good hY.1) rfl rfl rfl (hx.2.2.2.2.1 _ hY.2.1) (hx.2.2.2.2.1 _ hlink) hY.2.2 hR, hx.2.2.2.2.1 _ hin, hx.2.2.2.2.1 _ hsel⟩ ⟨(vx_pre hx hP hz).1, vx_recv hx hP ho hfo hc, (vx_pre hx hP hz).2⟩ rfl hnp hs hstk (lv_room hro) hd hf) kk
theorem v_callVN (hx : KX G nL x cc own) {y : MethodName} {b : ByteArray} {mL np fr lo mc ms index o ci : Nat} {ret : Option FieldType} {host : String} {as fs : List Value} {q : vw_C} {Post : Option Value → List Nat → (Nat → va_E) → Prop} (hM : Con G y (.code y b mL ret :: BIG) fr lo mc ms (.ref o :: as) L f Post) (hY : CY y b mL ret np) (hlink : Cond.methodLinkNest own index y host ∈ NW) (hin : Cond.instanceMethod y ∈ BIG) (hsel : Cond.selects q.1 y y ∈ BIG) (hd : decode cc pc = .ok (.invokevirtual index, 3)) (hR : fr + 1 ≤ R.frames ∧ 8 + (mL + 11) + lo ≤ R.locals) (hc : CL[ci]? = some q) (ho : o ∈ L) (hfo : f o = .inr (ci, fs)) (hf : k + mc ≤ R.cells ∧ n + ms ≤ R.slots) (hnp : as.length = np) (hstk : st0 = as.reverse ++ .ref o :: rest) (hro : (rest.map fun v => v.category).sum ≤ 8)
    (kk : ∀ (v : Option Value) (L' : List Nat) (f' : Nat → va_E), Post v L' f' → V G R nL x L' f' (k + mc) (n + ms) lv (pc + 3) (v.toList ++ rest)) : V G R nL x L f k n lv pc st0 :=
  v_run (fun H locs ls hP hz hs => va_runVN (As := as) ⟨hx.1, hx.2.1, hx.2.2.1, hx.2.2.2.1, hx.2.2.2.2.1⟩ hM ⟨va_cnB np hx.2.2.2.2.1 (big_good hY.1) rfl rfl rfl (hx.2.2.2.2.2.1.2 _ hlink) (hx.2.2.2.2.1 _ hY.2.1) hY.2.2 hR, hx.2.2.2.2.1 _ hin, hx.2.2.2.2.1 _ hsel⟩ ⟨(vx_pre hx hP hz).1, vx_recv hx hP ho hfo hc, (vx_pre hx hP hz).2⟩ rfl hnp hs hstk (lv_room hro) hd hf) kk
theorem v_callI (hx : KX G nL x cc own) {y : MethodName} {b : ByteArray} {mL np fr lo mc ms index o : Nat} {as : List Value} {Post : Option Value → List Nat → (Nat → va_E) → Prop} (hM : Con G y (.code y b mL none :: BIG) fr lo mc ms (.ref o :: as) L f Post) (hY : CY y b mL none np) (hlink : Cond.methodLink own index y ∈ BIG) (hin : Cond.instanceMethod y ∈ BIG) (hy1 : y.name = "<init>") (hd : decode cc pc = .ok (.invokespecial index, 3)) (hR : fr + 1 ≤ R.frames ∧ 8 + (mL + 11) + lo ≤ R.locals) (hf : k + mc ≤ R.cells ∧ n + ms ≤ R.slots) (hnp : as.length = np) (hstk : st0 = as.reverse ++ .ref o :: rest) (hro : (rest.map fun v => v.category).sum ≤ 8)
    (kk : ∀ (v : Option Value) (L' : List Nat) (f' : Nat → va_E), Post v L' f' → V G R nL x L' f' (k + mc) (n + ms) lv (pc + 3) (v.toList ++ rest)) : V G R nL x L f k n lv pc st0 :=
  v_run (fun H locs ls hP hz hs => va_runI (As := as) ⟨hx.1, hx.2.1, hx.2.2.1, hx.2.2.2.1, hx.2.2.2.2.1⟩ hM ⟨callB_of np hx.2.2.2.2.1 (big_good hY.1) rfl rfl rfl (hx.2.2.2.2.1 _ hY.2.1) (hx.2.2.2.2.1 _ hlink) hY.2.2 hR, hy1, hx.2.2.2.2.1 _ hin⟩ (vx_pre hx hP hz) rfl hnp hs hstk (lv_room hro) hd hf) kk
theorem v_callIN (hx : KX G nL x cc own) {y : MethodName} {b : ByteArray} {mL np fr lo mc ms index o : Nat} {host : String} {as : List Value} {Post : Option Value → List Nat → (Nat → va_E) → Prop} (hM : Con G y (.code y b mL none :: BIG) fr lo mc ms (.ref o :: as) L f Post) (hY : CY y b mL none np) (hlink : Cond.methodLinkNest own index y host ∈ NW) (hin : Cond.instanceMethod y ∈ BIG) (hy1 : y.name = "<init>") (hd : decode cc pc = .ok (.invokespecial index, 3)) (hR : fr + 1 ≤ R.frames ∧ 8 + (mL + 11) + lo ≤ R.locals) (hf : k + mc ≤ R.cells ∧ n + ms ≤ R.slots) (hnp : as.length = np) (hstk : st0 = as.reverse ++ .ref o :: rest) (hro : (rest.map fun v => v.category).sum ≤ 8)
    (kk : ∀ (v : Option Value) (L' : List Nat) (f' : Nat → va_E), Post v L' f' → V G R nL x L' f' (k + mc) (n + ms) lv (pc + 3) (v.toList ++ rest)) : V G R nL x L f k n lv pc st0 :=
  v_run (fun H locs ls hP hz hs => va_runIN (As := as) ⟨hx.1, hx.2.1, hx.2.2.1, hx.2.2.2.1, hx.2.2.2.2.1⟩ hM ⟨va_cnB np hx.2.2.2.2.1 (big_good hY.1) rfl rfl rfl (hx.2.2.2.2.2.1.2 _ hlink) (hx.2.2.2.2.1 _ hY.2.1) hY.2.2 hR, hy1, hx.2.2.2.2.1 _ hin⟩ (vx_pre hx hP hz) rfl hnp hs hstk (lv_room hro) hd hf) kk
/-- Object's constructor -/
theorem v_objInit (hx : KX G nL x cc own) {o index : Nat} (h1 : Cond.methodLink own index objectInit ∈ BIG) (h2 : Cond.instanceMethod objectInit ∈ BIG) (h3 : Cond.code objectInit ⟨#[0xb1]⟩ 1 none ∈ BIG) (hd : decode cc pc = .ok (.invokespecial index, 3)) (hR : 1 ≤ R.frames ∧ 12 ≤ R.locals) (kk : V G R nL x L f k n lv (pc + 3) []) : V G R nL x L f k n lv pc [.ref o] := by
  intro H locs ls hP hS hl
  exact W.objInit hx.1 hx.2.1 hx.2.2.2.1 (hx.2.2.2.2.1 _ h1) (hx.2.2.2.2.1 _ h2) (hx.2.2.2.2.1 _ h3) rfl (by rw [hx.2.2.1]; exact hl.1) rfl hd hR.1 hR.2 (kk H locs ls hP hS hl)
theorem v_iret (hx : KX G nL x cc own) {Post : Option Value → List Nat → (Nat → va_E) → Prop} {v : Int32} (hr : RX G x Post k n (some .int)) (hd : decode cc pc = .ok (.ireturn, 1)) (hp : Post (some (.int v)) L f) : V G R nL x L f k n lv pc [.int v] := by
  intro H locs ls hP hS hl
  rw [hr.1]
  exact W.iret hx.1 hx.2.1 hr.2 (fun t ht _ => ⟨⟨some (.int v), L, f, rfl, hp, by rw [ht]; exact hP⟩, hS.F ht⟩) hS.2.2 hd hx.2.2.2.2.2.2.2
theorem v_zret (hx : KX G nL x cc own) {Post : Option Value → List Nat → (Nat → va_E) → Prop} {v : Int32} (hr : RX G x Post k n (some .boolean)) (hd : decode cc pc = .ok (.ireturn, 1)) (hv : narrow .boolean (.int v) = .int v) (hp : Post (some (.int v)) L f) : V G R nL x L f k n lv pc [.int v] := by
  intro H locs ls hP hS hl
  rw [hr.1]
  exact W.zret hx.1 hx.2.1 hr.2 hv (fun t ht _ => ⟨⟨some (.int v), L, f, rfl, hp, by rw [ht]; exact hP⟩, hS.F ht⟩) hS.2.2 hd hx.2.2.2.2.2.2.2
theorem v_vret (hx : KX G nL x cc own) {Post : Option Value → List Nat → (Nat → va_E) → Prop} (hr : RX G x Post k n none) (hd : decode cc pc = .ok (.return_, 1)) (hp : Post none L f) : V G R nL x L f k n lv pc [] := by
  intro H locs ls hP hS hl
  rw [hr.1]
  exact W.vret hx.1 hx.2.1 hr.2 (fun t ht _ => ⟨⟨none, L, f, rfl, hp, by rw [ht]; exact hP⟩, hS.F ht⟩) hS.2.2 hd hx.2.2.2.2.2.2.2
theorem v_aret (hx : KX G nL x cc own) {Post : Option Value → List Nat → (Nat → va_E) → Prop} {v : Value} {rt : FieldType} (hr : RX G x Post k n (some rt)) (hrt : (∃ n, rt = .object n) ∨ ∃ t, rt = .array t) (hv : v = .null ∨ ∃ a, v = .ref a) (hd : decode cc pc = .ok (.areturn, 1)) (hp : Post (some v) L f) : V G R nL x L f k n lv pc [v] := by
  intro H locs ls hP hS hl
  rw [hr.1]
  exact W.aret hx.1 hx.2.1 hr.2 hrt hv (fun t ht _ => ⟨⟨some v, L, f, rfl, hp, by rw [ht]; exact hP⟩, hS.F ht⟩) hS.2.2 hd hx.2.2.2.2.2.2.2
end VCALL
theorem lv_args_at : ∀ (as : List Value) (o i : Nat) (v : Value), (∀ w ∈ as, w.category = 1) → as[i]? = some v → (o + i, v) ∈ lv_args o as
  | [], _, _, _, _, h => by simp at h
  | a :: as, o, i, v, hc, h => by
    have ha : ¬ a.category = 2 := by rw [hc a List.mem_cons_self]; decide
    simp only [lv_args, if_neg ha]
    cases i with
    | zero => simp at h; subst h; exact List.mem_cons_self
    | succ i =>
      have h2 : as[i]? = some v := by simpa using h
      have := lv_args_at as (o + 1) i v (fun w hw => hc w (List.mem_cons_of_mem _ hw)) h2
      rw [show o + (i + 1) = o + 1 + i by omega]
      exact List.mem_cons_of_mem _ this
def lvE (as : List Value) (nL : Nat) : List (Option Value) := as.map some ++ List.replicate (nL - as.length) none
theorem lvE_has {as : List Value} {nL : Nat} (hc : ∀ w ∈ as, w.category = 1) (h : (lg_sl as).length ≤ nL) : vl_has ((lg_sl as ++ List.replicate (nL - (lg_sl as).length) Slot.unset).toArray) nL (lvE as nL) := by
  have hl := lv_entry as h
  refine ⟨hl.1, hl.2.1, fun i v hi => ?_⟩
  have hi2 : as[i]? = some v := by
    unfold lvE at hi
    rw [List.getElem?_append] at hi
    split at hi
    · rename_i h1
      rw [List.getElem?_map] at hi
      cases h2 : as[i]? with
      | none => rw [h2] at hi; cases hi
      | some w => rw [h2] at hi; simp at hi; rw [hi]
    · rw [List.getElem?_replicate] at hi
      split at hi <;> cases hi
  refine ⟨hc v (List.mem_of_getElem? hi2), ?_⟩
  have := hl.2.2 (0 + i, v) (lv_args_at as 0 i v hc hi2)
  rw [Nat.zero_add] at this
  exact this
/-- a contract by a walk from the entry -/
theorem con_of {G : GT} {y : MethodName} {fr lo mc ms mL : Nat} {as : List Value} {L : List Nat} {f : Nat → va_E} {Post : Option Value → List Nat → (Nat → va_E) → Prop} {cc : ByteArray} {ret : Option FieldType} {lv : List (Option Value)} (hy : plainName y.cls = true) (hc : ∀ w ∈ as, w.category = 1) (h : (lg_sl as).length ≤ mL) (hlv : lvE as mL = lv)
    (body : ∀ x : XT, KX G mL x cc y.cls → RX G x Post mc ms ret → x.2.2.2.2.2.2.1.name = y.name → V G { frames := fr, cells := mc, slots := ms, locals := lo } mL x L f 0 0 lv 0 []) : Con G y (.code y cc mL ret :: BIG) fr lo mc ms as L f Post := by
  refine Met.ofW (cc := cc) (maxL := mL) (ret := ret) hy rfl ?_
  intro p e s m args below meth c s₁ B hml hv
  obtain ⟨rfl, hbase, hP, hK⟩ := hv
  have hts := atoms_spec (ws := .code y cc mL ret :: BIG) B.pre
  have hown : s.vm.findClass y.cls = some m.cls := findClass_of_methodNamed B.named
  have hV := body (p, e, s, m, as.toArray, below, meth, c, MQ below (cPost G Post) as.toArray s mc ms (gB G)) ⟨B.exec, B.bytes, hml, hown, fun w h => hts w (List.mem_cons_of_mem _ h), hK, hbase, B.notSynchronized⟩ ⟨rfl, B.returns⟩ (name_of_methodNamed B.named B.method).1
  subst hlv
  rw [lg_entry_eq]
  exact hV s.heap [] _ hP va_S.rf (lvE_has hc h)
end
