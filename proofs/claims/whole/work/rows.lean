section
-- ===== PART A: goes FIRST, ahead of the names: the tables' words, and 'selects' of the private methods out of them =====
/-- a private method of a class that the tables say can be made, by its rows of tables_1 -/
def lw_okq (q : MethodName × Nat) : Prop := (q.1.cls ≠ "java/lang/invoke/MethodHandle" ∧ q.1.cls ≠ "java/lang/invoke/VarHandle") ∧ Cond.instantiable q.1.cls q.2 ∈ tables_1 ∧ Cond.privateMethod q.1 ∈ tables_1 ∧ Cond.instanceMethod q.1 ∈ tables_1
theorem lw_p0 : lw_okq (⟨"MachineTables", "isFull", "()Z"⟩, 5) := ⟨⟨by decide +kernel, by decide +kernel⟩, List.mem_of_getElem? (i := 24) (by decide +kernel), List.mem_of_getElem? (i := 95) (by decide +kernel), List.mem_of_getElem? (i := 96) (by decide +kernel)⟩
theorem lw_p1 : lw_okq (⟨"MachineTables", "add", "(II)LMachineTables$Machine;"⟩, 5) := ⟨⟨by decide +kernel, by decide +kernel⟩, List.mem_of_getElem? (i := 24) (by decide +kernel), List.mem_of_getElem? (i := 99) (by decide +kernel), List.mem_of_getElem? (i := 100) (by decide +kernel)⟩
theorem lw_p2 : lw_okq (⟨"MachineTables", "find", "(I)LMachineTables$Machine;"⟩, 5) := ⟨⟨by decide +kernel, by decide +kernel⟩, List.mem_of_getElem? (i := 24) (by decide +kernel), List.mem_of_getElem? (i := 145) (by decide +kernel), List.mem_of_getElem? (i := 146) (by decide +kernel)⟩
theorem lw_p3 : lw_okq (⟨"java/lang/Throwable", "fillInStackTrace", "(I)Ljava/lang/Throwable;"⟩, 6) := ⟨⟨by decide +kernel, by decide +kernel⟩, List.mem_of_getElem? (i := 222) (by decide +kernel), List.mem_of_getElem? (i := 220) (by decide +kernel), List.mem_of_getElem? (i := 221) (by decide +kernel)⟩
theorem lw_p4 : lw_okq (⟨"MachineTables$Machine", "splitSets", "()Z"⟩, 7) := ⟨⟨by decide +kernel, by decide +kernel⟩, List.mem_of_getElem? (i := 102) (by decide +kernel), List.mem_of_getElem? (i := 491) (by decide +kernel), List.mem_of_getElem? (i := 492) (by decide +kernel)⟩
theorem lw_p5 : lw_okq (⟨"MachineTables$Machine", "leastThatAgrees", "(I)I"⟩, 7) := ⟨⟨by decide +kernel, by decide +kernel⟩, List.mem_of_getElem? (i := 102) (by decide +kernel), List.mem_of_getElem? (i := 495) (by decide +kernel), List.mem_of_getElem? (i := 496) (by decide +kernel)⟩
theorem lw_p6 : lw_okq (⟨"MachineTables$Machine", "isAgreed", "(II)Z"⟩, 7) := ⟨⟨by decide +kernel, by decide +kernel⟩, List.mem_of_getElem? (i := 102) (by decide +kernel), List.mem_of_getElem? (i := 499) (by decide +kernel), List.mem_of_getElem? (i := 500) (by decide +kernel)⟩
theorem lw_p7 : lw_okq (⟨"MachineTables", "numberSets", "(LMachineTables$Machine;)V"⟩, 5) := ⟨⟨by decide +kernel, by decide +kernel⟩, List.mem_of_getElem? (i := 24) (by decide +kernel), List.mem_of_getElem? (i := 522) (by decide +kernel), List.mem_of_getElem? (i := 523) (by decide +kernel)⟩
theorem lw_p8 : lw_okq (⟨"MachineTables", "findSmall", "(I)LMachineTables$Machine;"⟩, 5) := ⟨⟨by decide +kernel, by decide +kernel⟩, List.mem_of_getElem? (i := 24) (by decide +kernel), List.mem_of_getElem? (i := 555) (by decide +kernel), List.mem_of_getElem? (i := 556) (by decide +kernel)⟩
theorem lw_p9 : lw_okq (⟨"MachineTables", "seekReset", "(LMachineTables$Machine;)I"⟩, 5) := ⟨⟨by decide +kernel, by decide +kernel⟩, List.mem_of_getElem? (i := 24) (by decide +kernel), List.mem_of_getElem? (i := 559) (by decide +kernel), List.mem_of_getElem? (i := 560) (by decide +kernel)⟩
theorem lw_p10 : lw_okq (⟨"MachineTables", "tell", "(I)I"⟩, 5) := ⟨⟨by decide +kernel, by decide +kernel⟩, List.mem_of_getElem? (i := 24) (by decide +kernel), List.mem_of_getElem? (i := 573) (by decide +kernel), List.mem_of_getElem? (i := 574) (by decide +kernel)⟩
theorem lw_p11 : lw_okq (⟨"MachineTables", "seekWitness", "(LMachineTables$Machine;ILMachineTables$Machine;I)I"⟩, 5) := ⟨⟨by decide +kernel, by decide +kernel⟩, List.mem_of_getElem? (i := 24) (by decide +kernel), List.mem_of_getElem? (i := 605) (by decide +kernel), List.mem_of_getElem? (i := 606) (by decide +kernel)⟩
theorem lw_p12 : lw_okq (⟨"MachineTables", "seekHomed", "(LMachineTables$Machine;)I"⟩, 5) := ⟨⟨by decide +kernel, by decide +kernel⟩, List.mem_of_getElem? (i := 24) (by decide +kernel), List.mem_of_getElem? (i := 627) (by decide +kernel), List.mem_of_getElem? (i := 628) (by decide +kernel)⟩
theorem lw_p13 : lw_okq (⟨"MachineTables$Families", "put", "(I)V"⟩, 4) := ⟨⟨by decide +kernel, by decide +kernel⟩, List.mem_of_getElem? (i := 55) (by decide +kernel), List.mem_of_getElem? (i := 636) (by decide +kernel), List.mem_of_getElem? (i := 637) (by decide +kernel)⟩
theorem lw_p14 : lw_okq (⟨"MachineTables$Families", "liesInOne", "(I)Z"⟩, 4) := ⟨⟨by decide +kernel, by decide +kernel⟩, List.mem_of_getElem? (i := 55) (by decide +kernel), List.mem_of_getElem? (i := 640) (by decide +kernel), List.mem_of_getElem? (i := 641) (by decide +kernel)⟩
theorem lw_p15 : lw_okq (⟨"MachineTables$Families", "leaveOutThoseIn", "(I)V"⟩, 4) := ⟨⟨by decide +kernel, by decide +kernel⟩, List.mem_of_getElem? (i := 55) (by decide +kernel), List.mem_of_getElem? (i := 644) (by decide +kernel), List.mem_of_getElem? (i := 645) (by decide +kernel)⟩
def lw_privs_1 : List (MethodName × Nat) := [(⟨"MachineTables", "isFull", "()Z"⟩, 5), (⟨"MachineTables", "add", "(II)LMachineTables$Machine;"⟩, 5), (⟨"MachineTables", "find", "(I)LMachineTables$Machine;"⟩, 5), (⟨"java/lang/Throwable", "fillInStackTrace", "(I)Ljava/lang/Throwable;"⟩, 6), (⟨"MachineTables$Machine", "splitSets", "()Z"⟩, 7), (⟨"MachineTables$Machine", "leastThatAgrees", "(I)I"⟩, 7), (⟨"MachineTables$Machine", "isAgreed", "(II)Z"⟩, 7), (⟨"MachineTables", "numberSets", "(LMachineTables$Machine;)V"⟩, 5), (⟨"MachineTables", "findSmall", "(I)LMachineTables$Machine;"⟩, 5), (⟨"MachineTables", "seekReset", "(LMachineTables$Machine;)I"⟩, 5), (⟨"MachineTables", "tell", "(I)I"⟩, 5), (⟨"MachineTables", "seekWitness", "(LMachineTables$Machine;ILMachineTables$Machine;I)I"⟩, 5), (⟨"MachineTables", "seekHomed", "(LMachineTables$Machine;)I"⟩, 5), (⟨"MachineTables$Families", "put", "(I)V"⟩, 4), (⟨"MachineTables$Families", "liesInOne", "(I)Z"⟩, 4), (⟨"MachineTables$Families", "leaveOutThoseIn", "(I)V"⟩, 4)]
theorem lw_r1 : ∀ q ∈ lw_privs_1, lw_okq q := List.forall_mem_cons.mpr ⟨lw_p0, List.forall_mem_cons.mpr ⟨lw_p1, List.forall_mem_cons.mpr ⟨lw_p2, List.forall_mem_cons.mpr ⟨lw_p3, List.forall_mem_cons.mpr ⟨lw_p4, List.forall_mem_cons.mpr ⟨lw_p5, List.forall_mem_cons.mpr ⟨lw_p6, List.forall_mem_cons.mpr ⟨lw_p7, List.forall_mem_cons.mpr ⟨lw_p8, List.forall_mem_cons.mpr ⟨lw_p9, List.forall_mem_cons.mpr ⟨lw_p10, List.forall_mem_cons.mpr ⟨lw_p11, List.forall_mem_cons.mpr ⟨lw_p12, List.forall_mem_cons.mpr ⟨lw_p13, List.forall_mem_cons.mpr ⟨lw_p14, List.forall_mem_cons.mpr ⟨lw_p15, fun _ h => absurd h List.not_mem_nil⟩⟩⟩⟩⟩⟩⟩⟩⟩⟩⟩⟩⟩⟩⟩⟩
theorem lw_p16 : lw_okq (⟨"MachineTables$Families", "putParted", "(LMachineTables$Machine;II)V"⟩, 4) := ⟨⟨by decide +kernel, by decide +kernel⟩, List.mem_of_getElem? (i := 55) (by decide +kernel), List.mem_of_getElem? (i := 661) (by decide +kernel), List.mem_of_getElem? (i := 662) (by decide +kernel)⟩
theorem lw_p17 : lw_okq (⟨"MachineTables$Families", "openOneIs", "(I)Z"⟩, 4) := ⟨⟨by decide +kernel, by decide +kernel⟩, List.mem_of_getElem? (i := 55) (by decide +kernel), List.mem_of_getElem? (i := 674) (by decide +kernel), List.mem_of_getElem? (i := 675) (by decide +kernel)⟩
theorem lw_p18 : lw_okq (⟨"MachineTables", "numberPairs", "(LMachineTables$Machine;LMachineTables$Machine;)Z"⟩, 5) := ⟨⟨by decide +kernel, by decide +kernel⟩, List.mem_of_getElem? (i := 24) (by decide +kernel), List.mem_of_getElem? (i := 701) (by decide +kernel), List.mem_of_getElem? (i := 702) (by decide +kernel)⟩
theorem lw_p19 : lw_okq (⟨"MachineTablesModel", "newMachine", "(II)I"⟩, 19) := ⟨⟨by decide +kernel, by decide +kernel⟩, List.mem_of_getElem? (i := 733) (by decide +kernel), List.mem_of_getElem? (i := 809) (by decide +kernel), List.mem_of_getElem? (i := 810) (by decide +kernel)⟩
theorem lw_p20 : lw_okq (⟨"MachineTablesModel", "isState", "(II)Z"⟩, 19) := ⟨⟨by decide +kernel, by decide +kernel⟩, List.mem_of_getElem? (i := 733) (by decide +kernel), List.mem_of_getElem? (i := 817) (by decide +kernel), List.mem_of_getElem? (i := 818) (by decide +kernel)⟩
theorem lw_p21 : lw_okq (⟨"MachineTablesModel", "isMachine", "(I)Z"⟩, 19) := ⟨⟨by decide +kernel, by decide +kernel⟩, List.mem_of_getElem? (i := 733) (by decide +kernel), List.mem_of_getElem? (i := 821) (by decide +kernel), List.mem_of_getElem? (i := 822) (by decide +kernel)⟩
theorem lw_p22 : lw_okq (⟨"MachineTablesModel", "mark", "(I)V"⟩, 19) := ⟨⟨by decide +kernel, by decide +kernel⟩, List.mem_of_getElem? (i := 733) (by decide +kernel), List.mem_of_getElem? (i := 833) (by decide +kernel), List.mem_of_getElem? (i := 834) (by decide +kernel)⟩
theorem lw_p23 : lw_okq (⟨"MachineTablesModel", "isApart", "(III)Z"⟩, 19) := ⟨⟨by decide +kernel, by decide +kernel⟩, List.mem_of_getElem? (i := 733) (by decide +kernel), List.mem_of_getElem? (i := 837) (by decide +kernel), List.mem_of_getElem? (i := 838) (by decide +kernel)⟩
theorem lw_p24 : lw_okq (⟨"MachineTablesModel", "firstLike", "(I)I"⟩, 19) := ⟨⟨by decide +kernel, by decide +kernel⟩, List.mem_of_getElem? (i := 733) (by decide +kernel), List.mem_of_getElem? (i := 841) (by decide +kernel), List.mem_of_getElem? (i := 842) (by decide +kernel)⟩
theorem lw_p25 : lw_okq (⟨"MachineTablesModel", "begin", "(I)V"⟩, 19) := ⟨⟨by decide +kernel, by decide +kernel⟩, List.mem_of_getElem? (i := 733) (by decide +kernel), List.mem_of_getElem? (i := 853) (by decide +kernel), List.mem_of_getElem? (i := 854) (by decide +kernel)⟩
theorem lw_p26 : lw_okq (⟨"MachineTablesModel", "come", "(III)V"⟩, 19) := ⟨⟨by decide +kernel, by decide +kernel⟩, List.mem_of_getElem? (i := 733) (by decide +kernel), List.mem_of_getElem? (i := 857) (by decide +kernel), List.mem_of_getElem? (i := 858) (by decide +kernel)⟩
theorem lw_p27 : lw_okq (⟨"MachineTablesModel", "tell", "(II)V"⟩, 19) := ⟨⟨by decide +kernel, by decide +kernel⟩, List.mem_of_getElem? (i := 733) (by decide +kernel), List.mem_of_getElem? (i := 861) (by decide +kernel), List.mem_of_getElem? (i := 862) (by decide +kernel)⟩
theorem lw_p28 : lw_okq (⟨"MachineTablesModel", "findParts", "(I)V"⟩, 19) := ⟨⟨by decide +kernel, by decide +kernel⟩, List.mem_of_getElem? (i := 733) (by decide +kernel), List.mem_of_getElem? (i := 869) (by decide +kernel), List.mem_of_getElem? (i := 870) (by decide +kernel)⟩
theorem lw_p29 : lw_okq (⟨"MachineTablesModel", "partOf", "(I)I"⟩, 19) := ⟨⟨by decide +kernel, by decide +kernel⟩, List.mem_of_getElem? (i := 733) (by decide +kernel), List.mem_of_getElem? (i := 873) (by decide +kernel), List.mem_of_getElem? (i := 874) (by decide +kernel)⟩
theorem lw_p30 : lw_okq (⟨"MachineTablesModel", "moved", "(III)I"⟩, 19) := ⟨⟨by decide +kernel, by decide +kernel⟩, List.mem_of_getElem? (i := 733) (by decide +kernel), List.mem_of_getElem? (i := 888) (by decide +kernel), List.mem_of_getElem? (i := 889) (by decide +kernel)⟩
theorem lw_p31 : lw_okq (⟨"MachineTablesModel", "put", "(II)V"⟩, 19) := ⟨⟨by decide +kernel, by decide +kernel⟩, List.mem_of_getElem? (i := 733) (by decide +kernel), List.mem_of_getElem? (i := 896) (by decide +kernel), List.mem_of_getElem? (i := 897) (by decide +kernel)⟩
def lw_privs_2 : List (MethodName × Nat) := [(⟨"MachineTables$Families", "putParted", "(LMachineTables$Machine;II)V"⟩, 4), (⟨"MachineTables$Families", "openOneIs", "(I)Z"⟩, 4), (⟨"MachineTables", "numberPairs", "(LMachineTables$Machine;LMachineTables$Machine;)Z"⟩, 5), (⟨"MachineTablesModel", "newMachine", "(II)I"⟩, 19), (⟨"MachineTablesModel", "isState", "(II)Z"⟩, 19), (⟨"MachineTablesModel", "isMachine", "(I)Z"⟩, 19), (⟨"MachineTablesModel", "mark", "(I)V"⟩, 19), (⟨"MachineTablesModel", "isApart", "(III)Z"⟩, 19), (⟨"MachineTablesModel", "firstLike", "(I)I"⟩, 19), (⟨"MachineTablesModel", "begin", "(I)V"⟩, 19), (⟨"MachineTablesModel", "come", "(III)V"⟩, 19), (⟨"MachineTablesModel", "tell", "(II)V"⟩, 19), (⟨"MachineTablesModel", "findParts", "(I)V"⟩, 19), (⟨"MachineTablesModel", "partOf", "(I)I"⟩, 19), (⟨"MachineTablesModel", "moved", "(III)I"⟩, 19), (⟨"MachineTablesModel", "put", "(II)V"⟩, 19)]
theorem lw_r2 : ∀ q ∈ lw_privs_2, lw_okq q := List.forall_mem_cons.mpr ⟨lw_p16, List.forall_mem_cons.mpr ⟨lw_p17, List.forall_mem_cons.mpr ⟨lw_p18, List.forall_mem_cons.mpr ⟨lw_p19, List.forall_mem_cons.mpr ⟨lw_p20, List.forall_mem_cons.mpr ⟨lw_p21, List.forall_mem_cons.mpr ⟨lw_p22, List.forall_mem_cons.mpr ⟨lw_p23, List.forall_mem_cons.mpr ⟨lw_p24, List.forall_mem_cons.mpr ⟨lw_p25, List.forall_mem_cons.mpr ⟨lw_p26, List.forall_mem_cons.mpr ⟨lw_p27, List.forall_mem_cons.mpr ⟨lw_p28, List.forall_mem_cons.mpr ⟨lw_p29, List.forall_mem_cons.mpr ⟨lw_p30, List.forall_mem_cons.mpr ⟨lw_p31, fun _ h => absurd h List.not_mem_nil⟩⟩⟩⟩⟩⟩⟩⟩⟩⟩⟩⟩⟩⟩⟩⟩
theorem lw_p32 : lw_okq (⟨"MachineTablesModel", "isHome", "(I)Z"⟩, 19) := ⟨⟨by decide +kernel, by decide +kernel⟩, List.mem_of_getElem? (i := 733) (by decide +kernel), List.mem_of_getElem? (i := 900) (by decide +kernel), List.mem_of_getElem? (i := 901) (by decide +kernel)⟩
theorem lw_p33 : lw_okq (⟨"MachineTablesModel", "told", "(I)I"⟩, 19) := ⟨⟨by decide +kernel, by decide +kernel⟩, List.mem_of_getElem? (i := 733) (by decide +kernel), List.mem_of_getElem? (i := 904) (by decide +kernel), List.mem_of_getElem? (i := 905) (by decide +kernel)⟩
theorem lw_p34 : lw_okq (⟨"MachineTablesModel", "lead", "(IIII)V"⟩, 19) := ⟨⟨by decide +kernel, by decide +kernel⟩, List.mem_of_getElem? (i := 733) (by decide +kernel), List.mem_of_getElem? (i := 908) (by decide +kernel), List.mem_of_getElem? (i := 909) (by decide +kernel)⟩
theorem lw_p35 : lw_okq (⟨"MachineTablesModel", "isTried", "(I)Z"⟩, 19) := ⟨⟨by decide +kernel, by decide +kernel⟩, List.mem_of_getElem? (i := 733) (by decide +kernel), List.mem_of_getElem? (i := 912) (by decide +kernel), List.mem_of_getElem? (i := 913) (by decide +kernel)⟩
theorem lw_p36 : lw_okq (⟨"MachineTablesModel", "raise", "()I"⟩, 19) := ⟨⟨by decide +kernel, by decide +kernel⟩, List.mem_of_getElem? (i := 733) (by decide +kernel), List.mem_of_getElem? (i := 916) (by decide +kernel), List.mem_of_getElem? (i := 917) (by decide +kernel)⟩
theorem lw_p37 : lw_okq (⟨"MachineTablesModel", "chains", "(II)Z"⟩, 19) := ⟨⟨by decide +kernel, by decide +kernel⟩, List.mem_of_getElem? (i := 733) (by decide +kernel), List.mem_of_getElem? (i := 924) (by decide +kernel), List.mem_of_getElem? (i := 925) (by decide +kernel)⟩
theorem lw_p38 : lw_okq (⟨"MachineTablesModel", "placeOf", "(I)I"⟩, 19) := ⟨⟨by decide +kernel, by decide +kernel⟩, List.mem_of_getElem? (i := 733) (by decide +kernel), List.mem_of_getElem? (i := 928) (by decide +kernel), List.mem_of_getElem? (i := 929) (by decide +kernel)⟩
def lw_privs_3 : List (MethodName × Nat) := [(⟨"MachineTablesModel", "isHome", "(I)Z"⟩, 19), (⟨"MachineTablesModel", "told", "(I)I"⟩, 19), (⟨"MachineTablesModel", "lead", "(IIII)V"⟩, 19), (⟨"MachineTablesModel", "isTried", "(I)Z"⟩, 19), (⟨"MachineTablesModel", "raise", "()I"⟩, 19), (⟨"MachineTablesModel", "chains", "(II)Z"⟩, 19), (⟨"MachineTablesModel", "placeOf", "(I)I"⟩, 19)]
theorem lw_r3 : ∀ q ∈ lw_privs_3, lw_okq q := List.forall_mem_cons.mpr ⟨lw_p32, List.forall_mem_cons.mpr ⟨lw_p33, List.forall_mem_cons.mpr ⟨lw_p34, List.forall_mem_cons.mpr ⟨lw_p35, List.forall_mem_cons.mpr ⟨lw_p36, List.forall_mem_cons.mpr ⟨lw_p37, List.forall_mem_cons.mpr ⟨lw_p38, fun _ h => absurd h List.not_mem_nil⟩⟩⟩⟩⟩⟩⟩
def lw_privs : List (MethodName × Nat) := lw_privs_1 ++ (lw_privs_2 ++ (lw_privs_3))
def lw_tbl : List Cond := k2_sels lw_privs ++ tables_1
theorem lw_privs_ok : ∀ q ∈ lw_privs, lw_okq q := by
  show ∀ q ∈ lw_privs_1 ++ (lw_privs_2 ++ (lw_privs_3)), lw_okq q
  exact List.forall_mem_append.mpr ⟨lw_r1, List.forall_mem_append.mpr ⟨lw_r2, lw_r3⟩⟩
end
section
/-! ===== names: classes, fields, methods, codes ===== -/
def R_MT : String := "MachineTables"
def R_Fa : String := "MachineTables$Families"
def R_Ma : String := "MachineTables$Machine"
def R_Se : String := "MachineTables$Search"
def R_Mo : String := "MachineTablesModel"
def R_La : String := "MachineTablesLaw"
def R_Ar : String := "java/util/Arrays"
def R_In : String := "java/lang/Integer"
def R_Sy : String := "java/lang/System"
def R_Ob : String := "java/lang/Object"
def R_XI : String := "java/lang/IllegalArgumentException"
def R_XA : String := "java/lang/ArithmeticException"
def R_XN : String := "java/util/NoSuchElementException"
def R_XR : String := "java/lang/RuntimeException"
def R_XE : String := "java/lang/Exception"
def R_XT : String := "java/lang/Throwable"
def T_Fa : u_T := fun k => match k with
  | 0 => ("MachineTables$Families", "sets", "[I", true)
  | 1 => ("MachineTables$Families", "sizes", "[I", true)
  | 2 => ("MachineTables$Families", "byOutput", "[I", true)
  | _ => ("MachineTables$Families", "count", "I", false)
def t_Fa : Nat → FieldType := fun k => match k with
  | 0 => .array .int
  | 1 => .array .int
  | 2 => .array .int
  | _ => .int
def T_Ma : u_T := fun k => match k with
  | 0 => ("MachineTables$Machine", "next", "[I", true)
  | 1 => ("MachineTables$Machine", "output", "[I", true)
  | 2 => ("MachineTables$Machine", "leastOf", "[I", true)
  | 3 => ("MachineTables$Machine", "finer", "[I", true)
  | 4 => ("MachineTables$Machine", "states", "I", false)
  | 5 => ("MachineTables$Machine", "inputs", "I", false)
  | _ => ("MachineTables$Machine", "isSettled", "Z", false)
def t_Ma : Nat → FieldType := fun k => match k with
  | 0 => .array .int
  | 1 => .array .int
  | 2 => .array .int
  | 3 => .array .int
  | 4 => .int
  | 5 => .int
  | _ => .boolean
def T_Se : u_T := fun k => match k with
  | 0 => ("MachineTables$Search", "numbers", "[I", true)
  | 1 => ("MachineTables$Search", "places", "[I", true)
  | 2 => ("MachineTables$Search", "steps", "[I", true)
  | _ => ("MachineTables$Search", "count", "I", false)
def t_Se : Nat → FieldType := fun k => match k with
  | 0 => .array .int
  | 1 => .array .int
  | 2 => .array .int
  | _ => .int
def T_MT : u_T := fun k => match k with
  | 0 => ("MachineTables", "machines", "[LMachineTables$Machine;", true)
  | 1 => ("MachineTables", "search", "LMachineTables$Search;", true)
  | 2 => ("MachineTables", "families", "LMachineTables$Families;", true)
  | 3 => ("MachineTables", "count", "I", false)
  | _ => ("MachineTables", "word", "[I", false)
def t_MT : Nat → FieldType := fun k => match k with
  | 0 => .array (.object "MachineTables$Machine")
  | 1 => .object "MachineTables$Search"
  | 2 => .object "MachineTables$Families"
  | 3 => .int
  | _ => .array .int
def T_Mo : u_T := fun k => match k with
  | 0 => ("MachineTablesModel", "thrown", "I", false)
  | 1 => ("MachineTablesModel", "machines", "I", false)
  | 2 => ("MachineTablesModel", "states", "[I", true)
  | 3 => ("MachineTablesModel", "inputs", "[I", true)
  | 4 => ("MachineTablesModel", "next", "[I", true)
  | 5 => ("MachineTablesModel", "output", "[I", true)
  | 6 => ("MachineTablesModel", "length", "I", false)
  | 7 => ("MachineTablesModel", "word", "[I", true)
  | 8 => ("MachineTablesModel", "apart", "[Z", true)
  | 9 => ("MachineTablesModel", "found", "I", false)
  | 10 => ("MachineTablesModel", "seen", "[I", true)
  | 11 => ("MachineTablesModel", "from", "[I", true)
  | 12 => ("MachineTablesModel", "by", "[I", true)
  | 13 => ("MachineTablesModel", "isSeen", "[Z", true)
  | 14 => ("MachineTablesModel", "tries", "I", false)
  | 15 => ("MachineTablesModel", "many", "[I", true)
  | 16 => ("MachineTablesModel", "sets", "[I", true)
  | 17 => ("MachineTablesModel", "triedFrom", "[I", true)
  | _ => ("MachineTablesModel", "triedBy", "[I", true)
def t_Mo : Nat → FieldType := fun k => match k with
  | 0 => .int
  | 1 => .int
  | 2 => .array .int
  | 3 => .array .int
  | 4 => .array .int
  | 5 => .array .int
  | 6 => .int
  | 7 => .array .int
  | 8 => .array .boolean
  | 9 => .int
  | 10 => .array .int
  | 11 => .array .int
  | 12 => .array .int
  | 13 => .array .boolean
  | 14 => .int
  | 15 => .array .int
  | 16 => .array .int
  | 17 => .array .int
  | _ => .array .int
def T_XI : u_T := fun k => match k with
  | 0 => ("java/lang/Throwable", "cause", "Ljava/lang/Throwable;", false)
  | 1 => ("java/lang/Throwable", "stackTrace", "[Ljava/lang/StackTraceElement;", false)
  | 2 => ("java/lang/Throwable", "suppressedExceptions", "Ljava/util/List;", false)
  | 3 => ("java/lang/Throwable", "detailMessage", "Ljava/lang/String;", false)
  | 4 => ("java/lang/Throwable", "backtrace", "Ljava/lang/Object;", false)
  | _ => ("java/lang/Throwable", "depth", "I", false)
def t_XI : Nat → FieldType := fun k => match k with
  | 0 => .object "java/lang/Throwable"
  | 1 => .array (.object "java/lang/StackTraceElement")
  | 2 => .object "java/util/List"
  | 3 => .object "java/lang/String"
  | 4 => .object "java/lang/Object"
  | _ => .int
def T_XA : u_T := fun k => match k with
  | 0 => ("java/lang/Throwable", "cause", "Ljava/lang/Throwable;", false)
  | 1 => ("java/lang/Throwable", "stackTrace", "[Ljava/lang/StackTraceElement;", false)
  | 2 => ("java/lang/Throwable", "suppressedExceptions", "Ljava/util/List;", false)
  | 3 => ("java/lang/Throwable", "detailMessage", "Ljava/lang/String;", false)
  | 4 => ("java/lang/Throwable", "backtrace", "Ljava/lang/Object;", false)
  | _ => ("java/lang/Throwable", "depth", "I", false)
def t_XA : Nat → FieldType := fun k => match k with
  | 0 => .object "java/lang/Throwable"
  | 1 => .array (.object "java/lang/StackTraceElement")
  | 2 => .object "java/util/List"
  | 3 => .object "java/lang/String"
  | 4 => .object "java/lang/Object"
  | _ => .int
def T_XN : u_T := fun k => match k with
  | 0 => ("java/lang/Throwable", "cause", "Ljava/lang/Throwable;", false)
  | 1 => ("java/lang/Throwable", "stackTrace", "[Ljava/lang/StackTraceElement;", false)
  | 2 => ("java/lang/Throwable", "suppressedExceptions", "Ljava/util/List;", false)
  | 3 => ("java/lang/Throwable", "detailMessage", "Ljava/lang/String;", false)
  | 4 => ("java/lang/Throwable", "backtrace", "Ljava/lang/Object;", false)
  | _ => ("java/lang/Throwable", "depth", "I", false)
def t_XN : Nat → FieldType := fun k => match k with
  | 0 => .object "java/lang/Throwable"
  | 1 => .array (.object "java/lang/StackTraceElement")
  | 2 => .object "java/util/List"
  | 3 => .object "java/lang/String"
  | 4 => .object "java/lang/Object"
  | _ => .int
def y_MT_init : MethodName := ⟨"MachineTables", "<init>", "()V"⟩
def y_Se_init : MethodName := ⟨"MachineTables$Search", "<init>", "()V"⟩
def y_Fa_init : MethodName := ⟨"MachineTables$Families", "<init>", "()V"⟩
def y_MT_machine : MethodName := ⟨"MachineTables", "machine", "(II)I"⟩
def y_MT_isFull : MethodName := ⟨"MachineTables", "isFull", "()Z"⟩
def y_MT_add : MethodName := ⟨"MachineTables", "add", "(II)LMachineTables$Machine;"⟩
def y_Ma_init : MethodName := ⟨"MachineTables$Machine", "<init>", "()V"⟩
def y_Ma_begin : MethodName := ⟨"MachineTables$Machine", "begin", "(II)V"⟩
def y_Ma_setArrow : MethodName := ⟨"MachineTables$Machine", "setArrow", "(IIII)V"⟩
def y_MT_arrow : MethodName := ⟨"MachineTables", "arrow", "(IIIII)Z"⟩
def y_MT_find : MethodName := ⟨"MachineTables", "find", "(I)LMachineTables$Machine;"⟩
def y_Ma_hasState : MethodName := ⟨"MachineTables$Machine", "hasState", "(I)Z"⟩
def y_Ma_hasInput : MethodName := ⟨"MachineTables$Machine", "hasInput", "(I)Z"⟩
def y_MT_look : MethodName := ⟨"MachineTables", "look", "(IIII)I"⟩
def y_Ma_nextOf : MethodName := ⟨"MachineTables$Machine", "nextOf", "(II)I"⟩
def y_Ma_outputOf : MethodName := ⟨"MachineTables$Machine", "outputOf", "(II)I"⟩
def y_MT_classes : MethodName := ⟨"MachineTables", "classes", "(I)I"⟩
def y_Ma_settle : MethodName := ⟨"MachineTables$Machine", "settle", "()V"⟩
def y_Ar_fill : MethodName := ⟨"java/util/Arrays", "fill", "([IIII)V"⟩
def y_Ar_rangeCheck : MethodName := ⟨"java/util/Arrays", "rangeCheck", "(III)V"⟩
def y_XT_fillInStackTrace : MethodName := ⟨"java/lang/Throwable", "fillInStackTrace", "(I)Ljava/lang/Throwable;"⟩
def y_XT_fillInStackTrace2 : MethodName := ⟨"java/lang/Throwable", "fillInStackTrace", "()Ljava/lang/Throwable;"⟩
def y_XT_init : MethodName := ⟨"java/lang/Throwable", "<init>", "()V"⟩
def y_Ob_clone : MethodName := ⟨"java/lang/Object", "clone", "()Ljava/lang/Object;"⟩
def y_None_clone : MethodName := ⟨"[B", "clone", "()Ljava/lang/Object;"⟩
def y_Sy_arraycopy : MethodName := ⟨"java/lang/System", "arraycopy", "(Ljava/lang/Object;ILjava/lang/Object;II)V"⟩
def y_XI_init : MethodName := ⟨"java/lang/IllegalArgumentException", "<init>", "(Ljava/lang/String;)V"⟩
def y_XR_init : MethodName := ⟨"java/lang/RuntimeException", "<init>", "(Ljava/lang/String;)V"⟩
def y_XE_init : MethodName := ⟨"java/lang/Exception", "<init>", "(Ljava/lang/String;)V"⟩
def y_XT_init2 : MethodName := ⟨"java/lang/Throwable", "<init>", "(Ljava/lang/String;)V"⟩
def y_Ma_splitSets : MethodName := ⟨"MachineTables$Machine", "splitSets", "()Z"⟩
def y_Ma_leastThatAgrees : MethodName := ⟨"MachineTables$Machine", "leastThatAgrees", "(I)I"⟩
def y_Ma_isAgreed : MethodName := ⟨"MachineTables$Machine", "isAgreed", "(II)Z"⟩
def y_Ma_countSets : MethodName := ⟨"MachineTables$Machine", "countSets", "()I"⟩
def y_MT_like : MethodName := ⟨"MachineTables", "like", "(II)I"⟩
def y_Ma_leastLike : MethodName := ⟨"MachineTables$Machine", "leastLike", "(I)I"⟩
def y_MT_least : MethodName := ⟨"MachineTables", "least", "(I)I"⟩
def y_MT_numberSets : MethodName := ⟨"MachineTables", "numberSets", "(LMachineTables$Machine;)V"⟩
def y_Se_begin : MethodName := ⟨"MachineTables$Search", "begin", "(I)V"⟩
def y_Se_reach : MethodName := ⟨"MachineTables$Search", "reach", "(III)V"⟩
def y_Se_note : MethodName := ⟨"MachineTables$Search", "note", "(II)I"⟩
def y_Se_placeAt : MethodName := ⟨"MachineTables$Search", "placeAt", "(I)I"⟩
def y_Se_numberOf : MethodName := ⟨"MachineTables$Search", "numberOf", "(I)I"⟩
def y_MT_part : MethodName := ⟨"MachineTables", "part", "(II)I"⟩
def y_MT_reset : MethodName := ⟨"MachineTables", "reset", "(I)I"⟩
def y_MT_findSmall : MethodName := ⟨"MachineTables", "findSmall", "(I)LMachineTables$Machine;"⟩
def y_MT_seekReset : MethodName := ⟨"MachineTables", "seekReset", "(LMachineTables$Machine;)I"⟩
def y_In_bitCount : MethodName := ⟨"java/lang/Integer", "bitCount", "(I)I"⟩
def y_Ma_reachedFrom : MethodName := ⟨"MachineTables$Machine", "reachedFrom", "(II)I"⟩
def y_MT_tell : MethodName := ⟨"MachineTables", "tell", "(I)I"⟩
def y_Se_wordTo : MethodName := ⟨"MachineTables$Search", "wordTo", "(I)[I"⟩
def y_MT_along : MethodName := ⟨"MachineTables", "along", "(II)I"⟩
def y_MT_clear : MethodName := ⟨"MachineTables", "clear", "()V"⟩
def y_MT_total : MethodName := ⟨"MachineTables", "total", "(I)I"⟩
def y_La_alike : MethodName := ⟨"MachineTablesLaw", "alike", "(LMachineTables;IIII[J)I"⟩
def y_MT_alike : MethodName := ⟨"MachineTables", "alike", "(IIII)Z"⟩
def y_MT_seekWitness : MethodName := ⟨"MachineTables", "seekWitness", "(LMachineTables$Machine;ILMachineTables$Machine;I)I"⟩
def y_MT_pairOf : MethodName := ⟨"MachineTables", "pairOf", "(II)I"⟩
def y_MT_firstOf : MethodName := ⟨"MachineTables", "firstOf", "(I)I"⟩
def y_MT_secondOf : MethodName := ⟨"MachineTables", "secondOf", "(I)I"⟩
def y_La_home : MethodName := ⟨"MachineTablesLaw", "home", "(LMachineTables;I[J)I"⟩
def y_MT_home : MethodName := ⟨"MachineTables", "home", "(I)I"⟩
def y_MT_seekHomed : MethodName := ⟨"MachineTables", "seekHomed", "(LMachineTables$Machine;)I"⟩
def y_Fa_begin : MethodName := ⟨"MachineTables$Families", "begin", "(LMachineTables$Machine;)V"⟩
def y_Fa_put : MethodName := ⟨"MachineTables$Families", "put", "(I)V"⟩
def y_Fa_liesInOne : MethodName := ⟨"MachineTables$Families", "liesInOne", "(I)Z"⟩
def y_Fa_leaveOutThoseIn : MethodName := ⟨"MachineTables$Families", "leaveOutThoseIn", "(I)V"⟩
def y_Fa_openOneIsSingles : MethodName := ⟨"MachineTables$Families", "openOneIsSingles", "()Z"⟩
def y_Fa_keepOpenOne : MethodName := ⟨"MachineTables$Families", "keepOpenOne", "()V"⟩
def y_Fa_follow : MethodName := ⟨"MachineTables$Families", "follow", "(LMachineTables$Machine;II)V"⟩
def y_Fa_putParted : MethodName := ⟨"MachineTables$Families", "putParted", "(LMachineTables$Machine;II)V"⟩
def y_Ar_fill2 : MethodName := ⟨"java/util/Arrays", "fill", "([II)V"⟩
def y_Fa_openOneIsKnown : MethodName := ⟨"MachineTables$Families", "openOneIsKnown", "()Z"⟩
def y_Fa_openOneIs : MethodName := ⟨"MachineTables$Families", "openOneIs", "(I)Z"⟩
def y_XA_init : MethodName := ⟨"java/lang/ArithmeticException", "<init>", "(Ljava/lang/String;)V"⟩
def y_La_chain : MethodName := ⟨"MachineTablesLaw", "chain", "(LMachineTables;II[J)I"⟩
def y_MT_chain : MethodName := ⟨"MachineTables", "chain", "(II)I"⟩
def y_MT_numberPairs : MethodName := ⟨"MachineTables", "numberPairs", "(LMachineTables$Machine;LMachineTables$Machine;)Z"⟩
def y_MT_pairBehind : MethodName := ⟨"MachineTables", "pairBehind", "(LMachineTables$Machine;LMachineTables$Machine;II)I"⟩
def y_La_letter : MethodName := ⟨"MachineTablesLaw", "letter", "(LMachineTables;I[J)I"⟩
def y_MT_letter : MethodName := ⟨"MachineTables", "letter", "(I)I"⟩
def y_XN_init : MethodName := ⟨"java/util/NoSuchElementException", "<init>", "(Ljava/lang/String;)V"⟩
def y_Mo_init : MethodName := ⟨"MachineTablesModel", "<init>", "()V"⟩
def y_Mo_thrown : MethodName := ⟨"MachineTablesModel", "thrown", "()I"⟩
def y_Mo_machine : MethodName := ⟨"MachineTablesModel", "machine", "(II)I"⟩
def y_Mo_in : MethodName := ⟨"MachineTablesModel", "in", "(III)Z"⟩
def y_Mo_newMachine : MethodName := ⟨"MachineTablesModel", "newMachine", "(II)I"⟩
def y_Mo_arrow : MethodName := ⟨"MachineTablesModel", "arrow", "(IIIII)Z"⟩
def y_Mo_isState : MethodName := ⟨"MachineTablesModel", "isState", "(II)Z"⟩
def y_Mo_isMachine : MethodName := ⟨"MachineTablesModel", "isMachine", "(I)Z"⟩
def y_Mo_look : MethodName := ⟨"MachineTablesModel", "look", "(IIII)I"⟩
def y_Mo_classes : MethodName := ⟨"MachineTablesModel", "classes", "(I)I"⟩
def y_Mo_mark : MethodName := ⟨"MachineTablesModel", "mark", "(I)V"⟩
def y_Mo_isApart : MethodName := ⟨"MachineTablesModel", "isApart", "(III)Z"⟩
def y_Mo_firstLike : MethodName := ⟨"MachineTablesModel", "firstLike", "(I)I"⟩
def y_Mo_like : MethodName := ⟨"MachineTablesModel", "like", "(II)I"⟩
def y_Mo_alike : MethodName := ⟨"MachineTablesModel", "alike", "(IIII)Z"⟩
def y_Mo_begin : MethodName := ⟨"MachineTablesModel", "begin", "(I)V"⟩
def y_Mo_come : MethodName := ⟨"MachineTablesModel", "come", "(III)V"⟩
def y_Mo_tell : MethodName := ⟨"MachineTablesModel", "tell", "(II)V"⟩
def y_Mo_least : MethodName := ⟨"MachineTablesModel", "least", "(I)I"⟩
def y_Mo_findParts : MethodName := ⟨"MachineTablesModel", "findParts", "(I)V"⟩
def y_Mo_partOf : MethodName := ⟨"MachineTablesModel", "partOf", "(I)I"⟩
def y_Mo_part : MethodName := ⟨"MachineTablesModel", "part", "(II)I"⟩
def y_Mo_reset : MethodName := ⟨"MachineTablesModel", "reset", "(I)I"⟩
def y_Mo_ones : MethodName := ⟨"MachineTablesModel", "ones", "(I)I"⟩
def y_Mo_moved : MethodName := ⟨"MachineTablesModel", "moved", "(III)I"⟩
def y_Mo_home : MethodName := ⟨"MachineTablesModel", "home", "(I)I"⟩
def y_Mo_put : MethodName := ⟨"MachineTablesModel", "put", "(II)V"⟩
def y_Mo_isHome : MethodName := ⟨"MachineTablesModel", "isHome", "(I)Z"⟩
def y_Mo_told : MethodName := ⟨"MachineTablesModel", "told", "(I)I"⟩
def y_Mo_lead : MethodName := ⟨"MachineTablesModel", "lead", "(IIII)V"⟩
def y_Mo_isTried : MethodName := ⟨"MachineTablesModel", "isTried", "(I)Z"⟩
def y_Mo_raise : MethodName := ⟨"MachineTablesModel", "raise", "()I"⟩
def y_Mo_chain : MethodName := ⟨"MachineTablesModel", "chain", "(II)I"⟩
def y_Mo_chains : MethodName := ⟨"MachineTablesModel", "chains", "(II)Z"⟩
def y_Mo_placeOf : MethodName := ⟨"MachineTablesModel", "placeOf", "(I)I"⟩
def y_Mo_letter : MethodName := ⟨"MachineTablesModel", "letter", "(I)I"⟩
def y_Mo_along : MethodName := ⟨"MachineTablesModel", "along", "(II)I"⟩
def y_Mo_clear : MethodName := ⟨"MachineTablesModel", "clear", "()V"⟩
def y_Mo_total : MethodName := ⟨"MachineTablesModel", "total", "(I)I"⟩
abbrev CL : List vw_C := [(R_Fa, T_Fa, 4), (R_Ma, T_Ma, 7), (R_Se, T_Se, 4), (R_MT, T_MT, 5), (R_Mo, T_Mo, 19), (R_XI, T_XI, 6), (R_XA, T_XA, 6), (R_XN, T_XN, 6)]
/-- the array classes: 0 int, 1 boolean, 2 Machine, 3 long -/
abbrev TY (g : Nat → ClassId) : List (ClassId × FieldType) := [(g 0, .int), (g 1, .boolean), (g 2, .object "MachineTables$Machine"), (g 3, .long)]
abbrev b_MT_init : ByteArray := prog_1_method_1_code
abbrev b_Se_init : ByteArray := prog_4_method_1_code
abbrev b_Fa_init : ByteArray := prog_2_method_1_code
abbrev b_MT_machine : ByteArray := prog_1_method_2_code
abbrev b_MT_isFull : ByteArray := prog_1_method_17_code
abbrev b_MT_add : ByteArray := prog_1_method_20_code
abbrev b_Ma_init : ByteArray := prog_3_method_1_code
abbrev b_Ma_begin : ByteArray := prog_3_method_2_code
abbrev b_Ma_setArrow : ByteArray := prog_3_method_7_code
abbrev b_MT_arrow : ByteArray := prog_1_method_3_code
abbrev b_MT_find : ByteArray := prog_1_method_18_code
abbrev b_Ma_hasState : ByteArray := prog_3_method_3_code
abbrev b_Ma_hasInput : ByteArray := prog_3_method_4_code
abbrev b_MT_look : ByteArray := prog_1_method_4_code
abbrev b_Ma_nextOf : ByteArray := prog_3_method_5_code
abbrev b_Ma_outputOf : ByteArray := prog_3_method_6_code
abbrev b_MT_classes : ByteArray := prog_1_method_5_code
abbrev b_Ma_settle : ByteArray := prog_3_method_11_code
abbrev b_Ar_fill : ByteArray := prog_21_method_104_code
abbrev b_Ar_rangeCheck : ByteArray := prog_21_method_30_code
abbrev b_XT_init : ByteArray := prog_20_method_1_code
abbrev b_XT_fillInStackTrace2 : ByteArray := prog_20_method_18_code
abbrev b_XI_init : ByteArray := prog_11_method_2_code
abbrev b_XR_init : ByteArray := prog_14_method_2_code
abbrev b_XE_init : ByteArray := prog_10_method_2_code
abbrev b_XT_init2 : ByteArray := prog_20_method_2_code
abbrev b_Ma_splitSets : ByteArray := prog_3_method_12_code
abbrev b_Ma_leastThatAgrees : ByteArray := prog_3_method_13_code
abbrev b_Ma_isAgreed : ByteArray := prog_3_method_14_code
abbrev b_Ma_countSets : ByteArray := prog_3_method_10_code
abbrev b_MT_like : ByteArray := prog_1_method_6_code
abbrev b_Ma_leastLike : ByteArray := prog_3_method_9_code
abbrev b_MT_least : ByteArray := prog_1_method_8_code
abbrev b_MT_numberSets : ByteArray := prog_1_method_23_code
abbrev b_Se_begin : ByteArray := prog_4_method_2_code
abbrev b_Se_reach : ByteArray := prog_4_method_3_code
abbrev b_Se_note : ByteArray := prog_4_method_4_code
abbrev b_Se_placeAt : ByteArray := prog_4_method_5_code
abbrev b_Se_numberOf : ByteArray := prog_4_method_6_code
abbrev b_MT_part : ByteArray := prog_1_method_9_code
abbrev b_MT_reset : ByteArray := prog_1_method_10_code
abbrev b_MT_findSmall : ByteArray := prog_1_method_19_code
abbrev b_MT_seekReset : ByteArray := prog_1_method_24_code
abbrev b_In_bitCount : ByteArray := prog_12_method_49_code
abbrev b_Ma_reachedFrom : ByteArray := prog_3_method_8_code
abbrev b_MT_tell : ByteArray := prog_1_method_21_code
abbrev b_Se_wordTo : ByteArray := prog_4_method_7_code
abbrev b_MT_along : ByteArray := prog_1_method_14_code
abbrev b_MT_clear : ByteArray := prog_1_method_15_code
abbrev b_MT_total : ByteArray := prog_1_method_16_code
abbrev b_La_alike : ByteArray := method_3_code
abbrev b_MT_alike : ByteArray := prog_1_method_7_code
abbrev b_MT_seekWitness : ByteArray := prog_1_method_22_code
abbrev b_MT_pairOf : ByteArray := prog_1_method_28_code
abbrev b_MT_firstOf : ByteArray := prog_1_method_29_code
abbrev b_MT_secondOf : ByteArray := prog_1_method_30_code
abbrev b_La_home : ByteArray := method_4_code
abbrev b_MT_home : ByteArray := prog_1_method_11_code
abbrev b_MT_seekHomed : ByteArray := prog_1_method_25_code
abbrev b_Fa_begin : ByteArray := prog_2_method_2_code
abbrev b_Fa_put : ByteArray := prog_2_method_6_code
abbrev b_Fa_liesInOne : ByteArray := prog_2_method_7_code
abbrev b_Fa_leaveOutThoseIn : ByteArray := prog_2_method_8_code
abbrev b_Fa_openOneIsSingles : ByteArray := prog_2_method_9_code
abbrev b_Fa_keepOpenOne : ByteArray := prog_2_method_3_code
abbrev b_Fa_follow : ByteArray := prog_2_method_4_code
abbrev b_Fa_putParted : ByteArray := prog_2_method_5_code
abbrev b_Ar_fill2 : ByteArray := prog_21_method_103_code
abbrev b_Fa_openOneIsKnown : ByteArray := prog_2_method_10_code
abbrev b_Fa_openOneIs : ByteArray := prog_2_method_11_code
abbrev b_XA_init : ByteArray := prog_8_method_2_code
abbrev b_La_chain : ByteArray := method_5_code
abbrev b_MT_chain : ByteArray := prog_1_method_12_code
abbrev b_MT_numberPairs : ByteArray := prog_1_method_26_code
abbrev b_MT_pairBehind : ByteArray := prog_1_method_27_code
abbrev b_La_letter : ByteArray := method_6_code
abbrev b_MT_letter : ByteArray := prog_1_method_13_code
abbrev b_XN_init : ByteArray := prog_22_method_4_code
abbrev b_Mo_init : ByteArray := prog_6_method_1_code
abbrev b_Mo_thrown : ByteArray := prog_6_method_2_code
abbrev b_Mo_machine : ByteArray := prog_6_method_8_code
abbrev b_Mo_in : ByteArray := prog_6_method_4_code
abbrev b_Mo_newMachine : ByteArray := prog_6_method_7_code
abbrev b_Mo_arrow : ByteArray := prog_6_method_9_code
abbrev b_Mo_isState : ByteArray := prog_6_method_6_code
abbrev b_Mo_isMachine : ByteArray := prog_6_method_5_code
abbrev b_Mo_look : ByteArray := prog_6_method_10_code
abbrev b_Mo_classes : ByteArray := prog_6_method_14_code
abbrev b_Mo_mark : ByteArray := prog_6_method_12_code
abbrev b_Mo_isApart : ByteArray := prog_6_method_11_code
abbrev b_Mo_firstLike : ByteArray := prog_6_method_13_code
abbrev b_Mo_like : ByteArray := prog_6_method_15_code
abbrev b_Mo_alike : ByteArray := prog_6_method_19_code
abbrev b_Mo_begin : ByteArray := prog_6_method_16_code
abbrev b_Mo_come : ByteArray := prog_6_method_17_code
abbrev b_Mo_tell : ByteArray := prog_6_method_18_code
abbrev b_Mo_least : ByteArray := prog_6_method_22_code
abbrev b_Mo_findParts : ByteArray := prog_6_method_20_code
abbrev b_Mo_partOf : ByteArray := prog_6_method_21_code
abbrev b_Mo_part : ByteArray := prog_6_method_23_code
abbrev b_Mo_reset : ByteArray := prog_6_method_26_code
abbrev b_Mo_ones : ByteArray := prog_6_method_24_code
abbrev b_Mo_moved : ByteArray := prog_6_method_25_code
abbrev b_Mo_home : ByteArray := prog_6_method_32_code
abbrev b_Mo_put : ByteArray := prog_6_method_27_code
abbrev b_Mo_isHome : ByteArray := prog_6_method_29_code
abbrev b_Mo_told : ByteArray := prog_6_method_31_code
abbrev b_Mo_lead : ByteArray := prog_6_method_28_code
abbrev b_Mo_isTried : ByteArray := prog_6_method_30_code
abbrev b_Mo_raise : ByteArray := prog_6_method_3_code
abbrev b_Mo_chain : ByteArray := prog_6_method_35_code
abbrev b_Mo_chains : ByteArray := prog_6_method_33_code
abbrev b_Mo_placeOf : ByteArray := prog_6_method_34_code
abbrev b_Mo_letter : ByteArray := prog_6_method_36_code
abbrev b_Mo_along : ByteArray := prog_6_method_37_code
abbrev b_Mo_clear : ByteArray := prog_6_method_38_code
abbrev b_Mo_total : ByteArray := prog_6_method_39_code
abbrev b_La_law : ByteArray := code
abbrev NW : List Cond := [Cond.arrayOver (FieldType.object "MachineTables$Machine"), Cond.fieldLinkNest "MachineTables" 101 "MachineTables$Search" "count" "I" "MachineTables", Cond.fieldLinkNest "MachineTables" 185 "MachineTables$Families" "count" "I" "MachineTables", Cond.fieldLinkNest "MachineTables$Families" 25 "MachineTables$Machine" "states" "I" "MachineTables", Cond.fieldLinkNest "MachineTables" 102 "MachineTables$Machine" "states" "I" "MachineTables", Cond.fieldLinkNest "MachineTables" 85 "MachineTables$Machine" "inputs" "I" "MachineTables"]
end
section
/-! ===== the words that all contracts share ===== -/
def B0 : List Cond := [Cond.initialized "MachineTablesLaw", Cond.initialized "MachineTables", Cond.initialized "MachineTables$Search", Cond.initialized "MachineTables$Families", Cond.initialized "MachineTablesModel", Cond.initialized "MachineTables$Machine", Cond.initialized "java/util/Arrays", Cond.initialized "java/lang/Throwable", Cond.initialized "java/lang/Exception", Cond.initialized "java/lang/RuntimeException", Cond.initialized "java/lang/IllegalArgumentException", Cond.initialized "java/lang/System", Cond.initialized "java/lang/Integer", Cond.initialized "java/lang/ArithmeticException", Cond.initialized "java/util/NoSuchElementException", Cond.classLink "MachineTablesLaw" 8 "MachineTables", Cond.instantiable "MachineTables" 5, Cond.methodLink "MachineTablesLaw" 30 y_MT_init, Cond.instanceMethod y_MT_init, Cond.code y_MT_init prog_1_method_1_code 1 (Option.none : Option Jvm.ClassFile.FieldType), Cond.methodLink "MachineTables" 3 objectInit, Cond.instanceMethod objectInit, Cond.code objectInit object_method_1_code 1 (Option.none : Option Jvm.ClassFile.FieldType), Cond.classLink "MachineTables" 9 "MachineTables$Machine", Cond.classLink "MachineTables" 15 "MachineTables$Search", Cond.instantiable "MachineTables$Search" 4, Cond.methodLink "MachineTables" 17 y_Se_init, Cond.instanceMethod y_Se_init, Cond.code y_Se_init prog_4_method_1_code 1 (Option.none : Option Jvm.ClassFile.FieldType), Cond.methodLink "MachineTables$Search" 3 objectInit, Cond.fieldLink "MachineTables$Search" 9 "MachineTables$Search" "numbers" "[I", Cond.fieldLink "MachineTables$Search" 15 "MachineTables$Search" "places" "[I", Cond.fieldLink "MachineTables$Search" 18 "MachineTables$Search" "steps" "[I", Cond.fieldLink "MachineTables$Search" 27 "MachineTables$Search" "count" "I", Cond.laysFinal "MachineTables$Search" "MachineTables$Search" "numbers" "[I", Cond.soleField "MachineTables$Search" "numbers", Cond.laysFinal "MachineTables$Search" "MachineTables$Search" "places" "[I", Cond.soleField "MachineTables$Search" "places", Cond.laysFinal "MachineTables$Search" "MachineTables$Search" "steps" "[I", Cond.soleField "MachineTables$Search" "steps"]
def B1 : List Cond := [Cond.lays "MachineTables$Search" "MachineTables$Search" "count" "I", Cond.soleField "MachineTables$Search" "count", Cond.superclass "MachineTables$Search" "java/lang/Object", Cond.arrayClass FieldType.int, Cond.classLink "MachineTables" 22 "MachineTables$Families", Cond.instantiable "MachineTables$Families" 4, Cond.methodLink "MachineTables" 24 y_Fa_init, Cond.instanceMethod y_Fa_init, Cond.code y_Fa_init prog_2_method_1_code 1 (Option.none : Option Jvm.ClassFile.FieldType), Cond.methodLink "MachineTables$Families" 3 objectInit, Cond.fieldLink "MachineTables$Families" 9 "MachineTables$Families" "sets" "[I", Cond.fieldLink "MachineTables$Families" 15 "MachineTables$Families" "sizes" "[I", Cond.fieldLink "MachineTables$Families" 18 "MachineTables$Families" "byOutput" "[I", Cond.fieldLink "MachineTables$Families" 21 "MachineTables$Families" "count" "I", Cond.laysFinal "MachineTables$Families" "MachineTables$Families" "sets" "[I", Cond.soleField "MachineTables$Families" "sets", Cond.laysFinal "MachineTables$Families" "MachineTables$Families" "sizes" "[I", Cond.soleField "MachineTables$Families" "sizes", Cond.laysFinal "MachineTables$Families" "MachineTables$Families" "byOutput" "[I", Cond.soleField "MachineTables$Families" "byOutput", Cond.lays "MachineTables$Families" "MachineTables$Families" "count" "I", Cond.soleField "MachineTables$Families" "count", Cond.superclass "MachineTables$Families" "java/lang/Object", Cond.fieldLink "MachineTables" 11 "MachineTables" "machines" "[LMachineTables$Machine;", Cond.fieldLink "MachineTables" 18 "MachineTables" "search" "LMachineTables$Search;", Cond.fieldLink "MachineTables" 25 "MachineTables" "families" "LMachineTables$Families;", Cond.fieldLink "MachineTables" 29 "MachineTables" "count" "I", Cond.fieldLink "MachineTables" 33 "MachineTables" "word" "[I", Cond.laysFinal "MachineTables" "MachineTables" "machines" "[LMachineTables$Machine;", Cond.soleField "MachineTables" "machines", Cond.laysFinal "MachineTables" "MachineTables" "search" "LMachineTables$Search;", Cond.soleField "MachineTables" "search", Cond.laysFinal "MachineTables" "MachineTables" "families" "LMachineTables$Families;", Cond.soleField "MachineTables" "families", Cond.lays "MachineTables" "MachineTables" "count" "I", Cond.soleField "MachineTables" "count", Cond.lays "MachineTables" "MachineTables" "word" "[I", Cond.soleField "MachineTables" "word", Cond.superclass "MachineTables" "java/lang/Object", Cond.methodLink "MachineTablesLaw" 34 y_MT_machine]
def B2 : List Cond := [Cond.instanceMethod y_MT_machine, Cond.selects "MachineTables" y_MT_machine y_MT_machine, Cond.code y_MT_machine prog_1_method_2_code 3 (some FieldType.int), Cond.methodLink "MachineTables" 37 y_MT_isFull, Cond.instanceMethod y_MT_isFull, Cond.code y_MT_isFull prog_1_method_17_code 1 (some FieldType.boolean), Cond.methodLink "MachineTables" 41 y_MT_add, Cond.instanceMethod y_MT_add, Cond.code y_MT_add prog_1_method_20_code 4 (some (FieldType.object "MachineTables$Machine")), Cond.instantiable "MachineTables$Machine" 7, Cond.methodLink "MachineTables" 147 y_Ma_init, Cond.instanceMethod y_Ma_init, Cond.code y_Ma_init prog_3_method_1_code 1 (Option.none : Option Jvm.ClassFile.FieldType), Cond.methodLink "MachineTables$Machine" 3 objectInit, Cond.fieldLink "MachineTables$Machine" 9 "MachineTables$Machine" "next" "[I", Cond.fieldLink "MachineTables$Machine" 15 "MachineTables$Machine" "output" "[I", Cond.fieldLink "MachineTables$Machine" 18 "MachineTables$Machine" "leastOf" "[I", Cond.fieldLink "MachineTables$Machine" 21 "MachineTables$Machine" "finer" "[I", Cond.fieldLink "MachineTables$Machine" 24 "MachineTables$Machine" "states" "I", Cond.fieldLink "MachineTables$Machine" 28 "MachineTables$Machine" "inputs" "I", Cond.fieldLink "MachineTables$Machine" 35 "MachineTables$Machine" "isSettled" "Z", Cond.laysFinal "MachineTables$Machine" "MachineTables$Machine" "next" "[I", Cond.soleField "MachineTables$Machine" "next", Cond.laysFinal "MachineTables$Machine" "MachineTables$Machine" "output" "[I", Cond.soleField "MachineTables$Machine" "output", Cond.laysFinal "MachineTables$Machine" "MachineTables$Machine" "leastOf" "[I", Cond.soleField "MachineTables$Machine" "leastOf", Cond.laysFinal "MachineTables$Machine" "MachineTables$Machine" "finer" "[I", Cond.soleField "MachineTables$Machine" "finer", Cond.lays "MachineTables$Machine" "MachineTables$Machine" "states" "I", Cond.soleField "MachineTables$Machine" "states", Cond.lays "MachineTables$Machine" "MachineTables$Machine" "inputs" "I", Cond.soleField "MachineTables$Machine" "inputs", Cond.lays "MachineTables$Machine" "MachineTables$Machine" "isSettled" "Z", Cond.soleField "MachineTables$Machine" "isSettled", Cond.superclass "MachineTables$Machine" "java/lang/Object", Cond.methodLink "MachineTables" 148 y_Ma_begin, Cond.instanceMethod y_Ma_begin, Cond.selects "MachineTables$Machine" y_Ma_begin y_Ma_begin, Cond.code y_Ma_begin prog_3_method_2_code 5 (Option.none : Option Jvm.ClassFile.FieldType)]
def B3 : List Cond := [Cond.methodLink "MachineTables$Machine" 31 y_Ma_setArrow, Cond.instanceMethod y_Ma_setArrow, Cond.selects "MachineTables$Machine" y_Ma_setArrow y_Ma_setArrow, Cond.code y_Ma_setArrow prog_3_method_7_code 5 (Option.none : Option Jvm.ClassFile.FieldType), Cond.methodLink "MachineTablesLaw" 38 y_MT_arrow, Cond.instanceMethod y_MT_arrow, Cond.selects "MachineTables" y_MT_arrow y_MT_arrow, Cond.code y_MT_arrow prog_1_method_3_code 7 (some FieldType.boolean), Cond.methodLink "MachineTables" 45 y_MT_find, Cond.instanceMethod y_MT_find, Cond.code y_MT_find prog_1_method_18_code 2 (some (FieldType.object "MachineTables$Machine")), Cond.methodLink "MachineTables" 49 y_Ma_hasState, Cond.instanceMethod y_Ma_hasState, Cond.selects "MachineTables$Machine" y_Ma_hasState y_Ma_hasState, Cond.code y_Ma_hasState prog_3_method_3_code 2 (some FieldType.boolean), Cond.methodLink "MachineTables" 53 y_Ma_hasInput, Cond.instanceMethod y_Ma_hasInput, Cond.selects "MachineTables$Machine" y_Ma_hasInput y_Ma_hasInput, Cond.code y_Ma_hasInput prog_3_method_4_code 2 (some FieldType.boolean), Cond.methodLink "MachineTables" 56 y_Ma_setArrow, Cond.methodLink "MachineTablesLaw" 43 y_MT_look, Cond.instanceMethod y_MT_look, Cond.selects "MachineTables" y_MT_look y_MT_look, Cond.code y_MT_look prog_1_method_4_code 6 (some FieldType.int), Cond.methodLink "MachineTables" 60 y_Ma_nextOf, Cond.instanceMethod y_Ma_nextOf, Cond.selects "MachineTables$Machine" y_Ma_nextOf y_Ma_nextOf, Cond.code y_Ma_nextOf prog_3_method_5_code 3 (some FieldType.int), Cond.methodLink "MachineTables" 64 y_Ma_outputOf, Cond.instanceMethod y_Ma_outputOf, Cond.selects "MachineTables$Machine" y_Ma_outputOf y_Ma_outputOf, Cond.code y_Ma_outputOf prog_3_method_6_code 3 (some FieldType.int), Cond.methodLink "MachineTablesLaw" 48 y_MT_classes, Cond.instanceMethod y_MT_classes, Cond.selects "MachineTables" y_MT_classes y_MT_classes, Cond.code y_MT_classes prog_1_method_5_code 3 (some FieldType.int), Cond.methodLink "MachineTables" 67 y_Ma_settle, Cond.instanceMethod y_Ma_settle, Cond.selects "MachineTables$Machine" y_Ma_settle y_Ma_settle, Cond.code y_Ma_settle prog_3_method_11_code 3 (Option.none : Option Jvm.ClassFile.FieldType)]
def B4 : List Cond := [Cond.methodLink "MachineTables$Machine" 43 y_Ar_fill, Cond.static y_Ar_fill, Cond.code y_Ar_fill prog_21_method_104_code 5 (Option.none : Option Jvm.ClassFile.FieldType), Cond.methodLink "java/util/Arrays" 13 y_Ar_rangeCheck, Cond.static y_Ar_rangeCheck, Cond.code y_Ar_rangeCheck prog_21_method_30_code 3 (Option.none : Option Jvm.ClassFile.FieldType), Cond.instantiable "java/lang/IllegalArgumentException" 6, Cond.selects "java/lang/IllegalArgumentException" y_XT_fillInStackTrace y_XT_fillInStackTrace, Cond.selects "java/lang/IllegalArgumentException" y_XT_fillInStackTrace2 y_XT_fillInStackTrace2, Cond.lays "java/lang/IllegalArgumentException" "java/lang/Throwable" "cause" "Ljava/lang/Throwable;", Cond.lays "java/lang/Throwable" "java/lang/Throwable" "cause" "Ljava/lang/Throwable;", Cond.lays "java/lang/IllegalArgumentException" "java/lang/Throwable" "stackTrace" "[Ljava/lang/StackTraceElement;", Cond.lays "java/lang/Throwable" "java/lang/Throwable" "stackTrace" "[Ljava/lang/StackTraceElement;", Cond.lays "java/lang/IllegalArgumentException" "java/lang/Throwable" "suppressedExceptions" "Ljava/util/List;", Cond.lays "java/lang/Throwable" "java/lang/Throwable" "suppressedExceptions" "Ljava/util/List;", Cond.lays "java/lang/IllegalArgumentException" "java/lang/Throwable" "detailMessage" "Ljava/lang/String;", Cond.lays "java/lang/Throwable" "java/lang/Throwable" "detailMessage" "Ljava/lang/String;", Cond.lays "java/lang/IllegalArgumentException" "java/lang/Throwable" "backtrace" "Ljava/lang/Object;", Cond.lays "java/lang/Throwable" "java/lang/Throwable" "backtrace" "Ljava/lang/Object;", Cond.fieldLink "java/lang/Throwable" 198 "java/lang/Throwable" "backtrace" "Ljava/lang/Object;", Cond.superclass "java/lang/Throwable" "java/lang/Object", Cond.instanceMethod y_XT_init, Cond.code y_XT_init prog_20_method_1_code 1 (Option.none : Option Jvm.ClassFile.FieldType), Cond.methodLink "java/lang/Throwable" 1 objectInit, Cond.fieldLink "java/lang/Throwable" 13 "java/lang/Throwable" "UNASSIGNED_STACK" "[Ljava/lang/StackTraceElement;", Cond.fieldLink "java/lang/Throwable" 20 "java/lang/Throwable" "SUPPRESSED_SENTINEL" "Ljava/util/List;", Cond.methodLink "java/lang/Throwable" 27 y_XT_fillInStackTrace2, Cond.instanceMethod y_XT_fillInStackTrace2, Cond.sameMethod "java/lang/Throwable" "java/lang/Throwable" "fillInStackTrace" "()Ljava/lang/Throwable;", Cond.selects "java/lang/ArithmeticException" y_XT_fillInStackTrace2 y_XT_fillInStackTrace2, Cond.selects "java/util/NoSuchElementException" y_XT_fillInStackTrace2 y_XT_fillInStackTrace2, Cond.codeSync y_XT_fillInStackTrace2 prog_20_method_18_code 1 (some (FieldType.object "java/lang/Throwable")), Cond.methodLink "java/lang/Throwable" 202 y_XT_fillInStackTrace, Cond.instanceMethod y_XT_fillInStackTrace, Cond.instantiable "java/lang/Throwable" 6, Cond.native y_XT_fillInStackTrace, Cond.arrayClass FieldType.byte, Cond.sameMethod "[B" "java/lang/Object" "clone" "()Ljava/lang/Object;", Cond.native y_Ob_clone, Cond.instanceMethod y_Ob_clone]
def B5 : List Cond := [Cond.selects "[B" y_None_clone y_Ob_clone, Cond.static y_Sy_arraycopy, Cond.native y_Sy_arraycopy, Cond.fieldLink "java/lang/Integer" 83 "java/lang/Integer" "DigitOnes" "[B", Cond.fieldLink "java/lang/Integer" 87 "java/lang/Integer" "DigitTens" "[B", Cond.instanceMethod y_XI_init, Cond.code y_XI_init prog_11_method_2_code 2 (Option.none : Option Jvm.ClassFile.FieldType), Cond.methodLink "java/lang/IllegalArgumentException" 7 y_XR_init, Cond.instanceMethod y_XR_init, Cond.code y_XR_init prog_14_method_2_code 2 (Option.none : Option Jvm.ClassFile.FieldType), Cond.methodLink "java/lang/RuntimeException" 7 y_XE_init, Cond.instanceMethod y_XE_init, Cond.code y_XE_init prog_10_method_2_code 2 (Option.none : Option Jvm.ClassFile.FieldType), Cond.methodLink "java/lang/Exception" 7 y_XT_init2, Cond.instanceMethod y_XT_init2, Cond.code y_XT_init2 prog_20_method_2_code 2 (Option.none : Option Jvm.ClassFile.FieldType), Cond.fieldLink "java/lang/Throwable" 31 "java/lang/Throwable" "detailMessage" "Ljava/lang/String;", Cond.fieldLink "java/lang/Throwable" 7 "java/lang/Throwable" "cause" "Ljava/lang/Throwable;", Cond.fieldLink "java/lang/Throwable" 17 "java/lang/Throwable" "stackTrace" "[Ljava/lang/StackTraceElement;", Cond.fieldLink "java/lang/Throwable" 24 "java/lang/Throwable" "suppressedExceptions" "Ljava/util/List;", Cond.soleField "java/lang/Throwable" "backtrace", Cond.soleField "java/lang/Throwable" "detailMessage", Cond.soleField "java/lang/Throwable" "cause", Cond.soleField "java/lang/Throwable" "stackTrace", Cond.lays "java/lang/IllegalArgumentException" "java/lang/Throwable" "depth" "I", Cond.soleField "java/lang/Throwable" "depth", Cond.soleField "java/lang/Throwable" "suppressedExceptions", Cond.superclass "java/lang/IllegalArgumentException" "java/lang/RuntimeException", Cond.methodLink "MachineTables$Machine" 49 y_Ma_splitSets, Cond.instanceMethod y_Ma_splitSets, Cond.code y_Ma_splitSets prog_3_method_12_code 3 (some FieldType.boolean), Cond.methodLink "MachineTables$Machine" 53 y_Ma_leastThatAgrees, Cond.instanceMethod y_Ma_leastThatAgrees, Cond.code y_Ma_leastThatAgrees prog_3_method_13_code 3 (some FieldType.int), Cond.methodLink "MachineTables$Machine" 63 y_Ma_isAgreed, Cond.instanceMethod y_Ma_isAgreed, Cond.code y_Ma_isAgreed prog_3_method_14_code 4 (some FieldType.boolean), Cond.methodLink "MachineTables$Machine" 67 y_Ma_outputOf, Cond.methodLink "MachineTables$Machine" 39 y_Ma_nextOf, Cond.methodLink "MachineTables$Machine" 57 y_Sy_arraycopy]
def B6 : List Cond := [Cond.methodLink "MachineTables" 70 y_Ma_countSets, Cond.instanceMethod y_Ma_countSets, Cond.selects "MachineTables$Machine" y_Ma_countSets y_Ma_countSets, Cond.code y_Ma_countSets prog_3_method_10_code 3 (some FieldType.int), Cond.methodLink "MachineTablesLaw" 52 y_MT_like, Cond.instanceMethod y_MT_like, Cond.selects "MachineTables" y_MT_like y_MT_like, Cond.code y_MT_like prog_1_method_6_code 4 (some FieldType.int), Cond.methodLink "MachineTables" 74 y_Ma_leastLike, Cond.instanceMethod y_Ma_leastLike, Cond.selects "MachineTables$Machine" y_Ma_leastLike y_Ma_leastLike, Cond.code y_Ma_leastLike prog_3_method_9_code 2 (some FieldType.int), Cond.methodLink "MachineTablesLaw" 66 y_MT_least, Cond.instanceMethod y_MT_least, Cond.selects "MachineTables" y_MT_least y_MT_least, Cond.code y_MT_least prog_1_method_8_code 8 (some FieldType.int), Cond.methodLink "MachineTables" 97 y_MT_numberSets, Cond.instanceMethod y_MT_numberSets, Cond.code y_MT_numberSets prog_1_method_23_code 5 (Option.none : Option Jvm.ClassFile.FieldType), Cond.methodLink "MachineTables" 156 y_Se_begin, Cond.instanceMethod y_Se_begin, Cond.selects "MachineTables$Search" y_Se_begin y_Se_begin, Cond.code y_Se_begin prog_4_method_2_code 2 (Option.none : Option Jvm.ClassFile.FieldType), Cond.methodLink "MachineTables$Search" 21 y_Ar_fill, Cond.methodLink "MachineTables" 162 y_Se_reach, Cond.instanceMethod y_Se_reach, Cond.selects "MachineTables$Search" y_Se_reach y_Se_reach, Cond.code y_Se_reach prog_4_method_3_code 4 (Option.none : Option Jvm.ClassFile.FieldType), Cond.methodLink "MachineTables$Search" 31 y_Se_note, Cond.instanceMethod y_Se_note, Cond.selects "MachineTables$Search" y_Se_note y_Se_note, Cond.code y_Se_note prog_4_method_4_code 3 (some FieldType.int), Cond.methodLink "MachineTables" 105 y_Se_placeAt, Cond.instanceMethod y_Se_placeAt, Cond.selects "MachineTables$Search" y_Se_placeAt y_Se_placeAt, Cond.code y_Se_placeAt prog_4_method_5_code 2 (some FieldType.int), Cond.methodLink "MachineTables" 108 y_Se_numberOf, Cond.instanceMethod y_Se_numberOf, Cond.selects "MachineTables$Search" y_Se_numberOf y_Se_numberOf, Cond.code y_Se_numberOf prog_4_method_6_code 2 (some FieldType.int)]
def B7 : List Cond := [Cond.methodLink "MachineTablesLaw" 70 y_MT_part, Cond.instanceMethod y_MT_part, Cond.selects "MachineTables" y_MT_part y_MT_part, Cond.code y_MT_part prog_1_method_9_code 4 (some FieldType.int), Cond.methodLink "MachineTablesLaw" 74 y_MT_reset, Cond.instanceMethod y_MT_reset, Cond.selects "MachineTables" y_MT_reset y_MT_reset, Cond.code y_MT_reset prog_1_method_10_code 4 (some FieldType.int), Cond.methodLink "MachineTables" 111 y_MT_findSmall, Cond.instanceMethod y_MT_findSmall, Cond.code y_MT_findSmall prog_1_method_19_code 3 (some (FieldType.object "MachineTables$Machine")), Cond.methodLink "MachineTables" 114 y_MT_seekReset, Cond.instanceMethod y_MT_seekReset, Cond.code y_MT_seekReset prog_1_method_24_code 5 (some FieldType.int), Cond.methodLink "MachineTables" 169 y_In_bitCount, Cond.static y_In_bitCount, Cond.code y_In_bitCount prog_12_method_49_code 1 (some FieldType.int), Cond.constant "java/lang/Integer" 265 (1431655765 : Int32), Cond.constant "java/lang/Integer" 266 (858993459 : Int32), Cond.constant "java/lang/Integer" 267 (252645135 : Int32), Cond.methodLink "MachineTables" 174 y_Ma_reachedFrom, Cond.instanceMethod y_Ma_reachedFrom, Cond.selects "MachineTables$Machine" y_Ma_reachedFrom y_Ma_reachedFrom, Cond.code y_Ma_reachedFrom prog_3_method_8_code 5 (some FieldType.int), Cond.methodLink "MachineTables" 94 y_MT_tell, Cond.instanceMethod y_MT_tell, Cond.code y_MT_tell prog_1_method_21_code 2 (some FieldType.int), Cond.methodLink "MachineTables" 152 y_Se_wordTo, Cond.instanceMethod y_Se_wordTo, Cond.selects "MachineTables$Search" y_Se_wordTo y_Se_wordTo, Cond.code y_Se_wordTo prog_4_method_7_code 6 (some (FieldType.array FieldType.int)), Cond.methodLink "MachineTablesLaw" 89 y_MT_along, Cond.instanceMethod y_MT_along, Cond.selects "MachineTables" y_MT_along y_MT_along, Cond.code y_MT_along prog_1_method_14_code 6 (some FieldType.int), Cond.methodLink "MachineTablesLaw" 93 y_MT_clear, Cond.instanceMethod y_MT_clear, Cond.selects "MachineTables" y_MT_clear y_MT_clear, Cond.code y_MT_clear prog_1_method_15_code 1 (Option.none : Option Jvm.ClassFile.FieldType), Cond.methodLink "MachineTablesLaw" 97 y_MT_total]
def B8 : List Cond := [Cond.instanceMethod y_MT_total, Cond.selects "MachineTables" y_MT_total y_MT_total, Cond.code y_MT_total prog_1_method_16_code 4 (some FieldType.int), Cond.methodLink "MachineTablesLaw" 56 y_La_alike, Cond.static y_La_alike, Cond.codeWith y_La_alike method_3_code 7 (some FieldType.int) [(0, 21, 24, 13)], Cond.classLink "MachineTablesLaw" 13 "java/lang/IllegalArgumentException", Cond.methodLink "MachineTablesLaw" 7 y_MT_alike, Cond.instanceMethod y_MT_alike, Cond.selects "MachineTables" y_MT_alike y_MT_alike, Cond.code y_MT_alike prog_1_method_7_code 8 (some FieldType.boolean), Cond.classLink "MachineTables" 78 "java/lang/IllegalArgumentException", Cond.methodLink "MachineTables" 82 y_XI_init, Cond.methodLink "MachineTables" 90 y_MT_seekWitness, Cond.instanceMethod y_MT_seekWitness, Cond.code y_MT_seekWitness prog_1_method_22_code 9 (some FieldType.int), Cond.methodLink "MachineTables" 159 y_MT_pairOf, Cond.static y_MT_pairOf, Cond.code y_MT_pairOf prog_1_method_28_code 2 (some FieldType.int), Cond.methodLink "MachineTables" 132 y_MT_firstOf, Cond.static y_MT_firstOf, Cond.code y_MT_firstOf prog_1_method_29_code 1 (some FieldType.int), Cond.methodLink "MachineTables" 139 y_MT_secondOf, Cond.static y_MT_secondOf, Cond.code y_MT_secondOf prog_1_method_30_code 1 (some FieldType.int), Cond.methodLink "MachineTables" 166 y_Se_note, Cond.methodLink "MachineTablesLaw" 78 y_La_home, Cond.static y_La_home, Cond.codeWith y_La_home method_4_code 4 (some FieldType.int) [(0, 9, 12, 19)], Cond.classLink "MachineTablesLaw" 19 "java/lang/ArithmeticException", Cond.methodLink "MachineTablesLaw" 15 y_MT_home, Cond.instanceMethod y_MT_home, Cond.selects "MachineTables" y_MT_home y_MT_home, Cond.code y_MT_home prog_1_method_11_code 4 (some FieldType.int), Cond.methodLink "MachineTables" 118 y_MT_seekHomed, Cond.instanceMethod y_MT_seekHomed, Cond.code y_MT_seekHomed prog_1_method_25_code 5 (some FieldType.int), Cond.methodLink "MachineTables" 177 y_Fa_begin, Cond.instanceMethod y_Fa_begin, Cond.selects "MachineTables$Families" y_Fa_begin y_Fa_begin]
def B9 : List Cond := [Cond.code y_Fa_begin prog_2_method_2_code 4 (Option.none : Option Jvm.ClassFile.FieldType), Cond.methodLink "MachineTables$Families" 30 y_Ma_leastLike, Cond.methodLink "MachineTables$Families" 34 y_Fa_put, Cond.instanceMethod y_Fa_put, Cond.code y_Fa_put prog_2_method_6_code 4 (Option.none : Option Jvm.ClassFile.FieldType), Cond.methodLink "MachineTables$Families" 55 y_Fa_liesInOne, Cond.instanceMethod y_Fa_liesInOne, Cond.code y_Fa_liesInOne prog_2_method_7_code 3 (some FieldType.boolean), Cond.methodLink "MachineTables$Families" 59 y_Fa_leaveOutThoseIn, Cond.instanceMethod y_Fa_leaveOutThoseIn, Cond.code y_Fa_leaveOutThoseIn prog_2_method_8_code 6 (Option.none : Option Jvm.ClassFile.FieldType), Cond.methodLink "MachineTables" 179 y_Fa_openOneIsSingles, Cond.instanceMethod y_Fa_openOneIsSingles, Cond.selects "MachineTables$Families" y_Fa_openOneIsSingles y_Fa_openOneIsSingles, Cond.code y_Fa_openOneIsSingles prog_2_method_9_code 2 (some FieldType.boolean), Cond.methodLink "MachineTables$Families" 62 y_In_bitCount, Cond.methodLink "MachineTables" 182 y_Fa_keepOpenOne, Cond.instanceMethod y_Fa_keepOpenOne, Cond.selects "MachineTables$Families" y_Fa_keepOpenOne y_Fa_keepOpenOne, Cond.code y_Fa_keepOpenOne prog_2_method_3_code 1 (Option.none : Option Jvm.ClassFile.FieldType), Cond.methodLink "MachineTables" 186 y_Fa_follow, Cond.instanceMethod y_Fa_follow, Cond.selects "MachineTables$Families" y_Fa_follow y_Fa_follow, Cond.code y_Fa_follow prog_2_method_4_code 5 (Option.none : Option Jvm.ClassFile.FieldType), Cond.methodLink "MachineTables$Families" 38 y_Fa_putParted, Cond.instanceMethod y_Fa_putParted, Cond.code y_Fa_putParted prog_2_method_5_code 5 (Option.none : Option Jvm.ClassFile.FieldType), Cond.methodLink "MachineTables$Families" 42 y_Ar_fill2, Cond.static y_Ar_fill2, Cond.code y_Ar_fill2 prog_21_method_103_code 4 (Option.none : Option Jvm.ClassFile.FieldType), Cond.methodLink "MachineTables$Families" 48 y_Ma_outputOf, Cond.methodLink "MachineTables$Families" 52 y_Ma_nextOf, Cond.methodLink "MachineTables" 190 y_Fa_openOneIsKnown, Cond.instanceMethod y_Fa_openOneIsKnown, Cond.selects "MachineTables$Families" y_Fa_openOneIsKnown y_Fa_openOneIsKnown, Cond.code y_Fa_openOneIsKnown prog_2_method_10_code 2 (some FieldType.boolean), Cond.methodLink "MachineTables$Families" 67 y_Fa_openOneIs, Cond.instanceMethod y_Fa_openOneIs, Cond.code y_Fa_openOneIs prog_2_method_11_code 3 (some FieldType.boolean), Cond.classLink "MachineTables" 121 "java/lang/ArithmeticException"]
def B10 : List Cond := [Cond.instantiable "java/lang/ArithmeticException" 6, Cond.selects "java/lang/ArithmeticException" y_XT_fillInStackTrace y_XT_fillInStackTrace, Cond.lays "java/lang/ArithmeticException" "java/lang/Throwable" "cause" "Ljava/lang/Throwable;", Cond.lays "java/lang/ArithmeticException" "java/lang/Throwable" "stackTrace" "[Ljava/lang/StackTraceElement;", Cond.lays "java/lang/ArithmeticException" "java/lang/Throwable" "suppressedExceptions" "Ljava/util/List;", Cond.lays "java/lang/ArithmeticException" "java/lang/Throwable" "detailMessage" "Ljava/lang/String;", Cond.lays "java/lang/ArithmeticException" "java/lang/Throwable" "backtrace" "Ljava/lang/Object;", Cond.methodLink "MachineTables" 125 y_XA_init, Cond.instanceMethod y_XA_init, Cond.code y_XA_init prog_8_method_2_code 2 (Option.none : Option Jvm.ClassFile.FieldType), Cond.methodLink "java/lang/ArithmeticException" 7 y_XR_init, Cond.lays "java/lang/ArithmeticException" "java/lang/Throwable" "depth" "I", Cond.superclass "java/lang/ArithmeticException" "java/lang/RuntimeException", Cond.methodLink "MachineTablesLaw" 82 y_La_chain, Cond.static y_La_chain, Cond.codeWith y_La_chain method_5_code 5 (some FieldType.int) [(0, 10, 13, 19)], Cond.methodLink "MachineTablesLaw" 21 y_MT_chain, Cond.instanceMethod y_MT_chain, Cond.selects "MachineTables" y_MT_chain y_MT_chain, Cond.code y_MT_chain prog_1_method_12_code 11 (some FieldType.int), Cond.methodLink "MachineTables" 126 y_MT_numberPairs, Cond.instanceMethod y_MT_numberPairs, Cond.code y_MT_numberPairs prog_1_method_26_code 6 (some FieldType.boolean), Cond.methodLink "MachineTables" 135 y_MT_pairBehind, Cond.static y_MT_pairBehind, Cond.code y_MT_pairBehind prog_1_method_27_code 5 (some FieldType.int), Cond.methodLink "MachineTablesLaw" 86 y_La_letter, Cond.static y_La_letter, Cond.codeWith y_La_letter method_6_code 4 (some FieldType.int) [(0, 9, 12, 28)], Cond.classLink "MachineTablesLaw" 28 "java/util/NoSuchElementException", Cond.methodLink "MachineTablesLaw" 25 y_MT_letter, Cond.instanceMethod y_MT_letter, Cond.selects "MachineTables" y_MT_letter y_MT_letter, Cond.code y_MT_letter prog_1_method_13_code 2 (some FieldType.int), Cond.classLink "MachineTables" 142 "java/util/NoSuchElementException", Cond.instantiable "java/util/NoSuchElementException" 6, Cond.selects "java/util/NoSuchElementException" y_XT_fillInStackTrace y_XT_fillInStackTrace, Cond.lays "java/util/NoSuchElementException" "java/lang/Throwable" "cause" "Ljava/lang/Throwable;", Cond.lays "java/util/NoSuchElementException" "java/lang/Throwable" "stackTrace" "[Ljava/lang/StackTraceElement;", Cond.lays "java/util/NoSuchElementException" "java/lang/Throwable" "suppressedExceptions" "Ljava/util/List;"]
def B11 : List Cond := [Cond.lays "java/util/NoSuchElementException" "java/lang/Throwable" "detailMessage" "Ljava/lang/String;", Cond.lays "java/util/NoSuchElementException" "java/lang/Throwable" "backtrace" "Ljava/lang/Object;", Cond.methodLink "MachineTables" 146 y_XN_init, Cond.instanceMethod y_XN_init, Cond.code y_XN_init prog_22_method_4_code 2 (Option.none : Option Jvm.ClassFile.FieldType), Cond.methodLink "java/util/NoSuchElementException" 13 y_XR_init, Cond.lays "java/util/NoSuchElementException" "java/lang/Throwable" "depth" "I", Cond.superclass "java/util/NoSuchElementException" "java/lang/RuntimeException", Cond.classLink "MachineTablesLaw" 31 "MachineTablesModel", Cond.instantiable "MachineTablesModel" 19, Cond.methodLink "MachineTablesLaw" 33 y_Mo_init, Cond.instanceMethod y_Mo_init, Cond.code y_Mo_init prog_6_method_1_code 1 (Option.none : Option Jvm.ClassFile.FieldType), Cond.methodLink "MachineTablesModel" 1 objectInit, Cond.fieldLink "MachineTablesModel" 53 "MachineTablesModel" "thrown" "I", Cond.fieldLink "MachineTablesModel" 57 "MachineTablesModel" "machines" "I", Cond.fieldLink "MachineTablesModel" 7 "MachineTablesModel" "states" "[I", Cond.fieldLink "MachineTablesModel" 13 "MachineTablesModel" "inputs" "[I", Cond.fieldLink "MachineTablesModel" 16 "MachineTablesModel" "next" "[I", Cond.fieldLink "MachineTablesModel" 19 "MachineTablesModel" "output" "[I", Cond.fieldLink "MachineTablesModel" 94 "MachineTablesModel" "length" "I", Cond.fieldLink "MachineTablesModel" 22 "MachineTablesModel" "word" "[I", Cond.fieldLink "MachineTablesModel" 25 "MachineTablesModel" "apart" "[Z", Cond.fieldLink "MachineTablesModel" 87 "MachineTablesModel" "found" "I", Cond.fieldLink "MachineTablesModel" 29 "MachineTablesModel" "seen" "[I", Cond.fieldLink "MachineTablesModel" 32 "MachineTablesModel" "from" "[I", Cond.fieldLink "MachineTablesModel" 35 "MachineTablesModel" "by" "[I", Cond.fieldLink "MachineTablesModel" 38 "MachineTablesModel" "isSeen" "[Z", Cond.fieldLink "MachineTablesModel" 126 "MachineTablesModel" "tries" "I", Cond.fieldLink "MachineTablesModel" 41 "MachineTablesModel" "many" "[I", Cond.fieldLink "MachineTablesModel" 44 "MachineTablesModel" "sets" "[I", Cond.fieldLink "MachineTablesModel" 47 "MachineTablesModel" "triedFrom" "[I", Cond.fieldLink "MachineTablesModel" 50 "MachineTablesModel" "triedBy" "[I", Cond.lays "MachineTablesModel" "MachineTablesModel" "thrown" "I", Cond.soleField "MachineTablesModel" "thrown", Cond.lays "MachineTablesModel" "MachineTablesModel" "machines" "I", Cond.soleField "MachineTablesModel" "machines", Cond.laysFinal "MachineTablesModel" "MachineTablesModel" "states" "[I", Cond.soleField "MachineTablesModel" "states", Cond.laysFinal "MachineTablesModel" "MachineTablesModel" "inputs" "[I"]
def B12 : List Cond := [Cond.soleField "MachineTablesModel" "inputs", Cond.laysFinal "MachineTablesModel" "MachineTablesModel" "next" "[I", Cond.soleField "MachineTablesModel" "next", Cond.laysFinal "MachineTablesModel" "MachineTablesModel" "output" "[I", Cond.soleField "MachineTablesModel" "output", Cond.lays "MachineTablesModel" "MachineTablesModel" "length" "I", Cond.soleField "MachineTablesModel" "length", Cond.laysFinal "MachineTablesModel" "MachineTablesModel" "word" "[I", Cond.soleField "MachineTablesModel" "word", Cond.laysFinal "MachineTablesModel" "MachineTablesModel" "apart" "[Z", Cond.soleField "MachineTablesModel" "apart", Cond.lays "MachineTablesModel" "MachineTablesModel" "found" "I", Cond.soleField "MachineTablesModel" "found", Cond.laysFinal "MachineTablesModel" "MachineTablesModel" "seen" "[I", Cond.soleField "MachineTablesModel" "seen", Cond.laysFinal "MachineTablesModel" "MachineTablesModel" "from" "[I", Cond.soleField "MachineTablesModel" "from", Cond.laysFinal "MachineTablesModel" "MachineTablesModel" "by" "[I", Cond.soleField "MachineTablesModel" "by", Cond.laysFinal "MachineTablesModel" "MachineTablesModel" "isSeen" "[Z", Cond.soleField "MachineTablesModel" "isSeen", Cond.lays "MachineTablesModel" "MachineTablesModel" "tries" "I", Cond.soleField "MachineTablesModel" "tries", Cond.laysFinal "MachineTablesModel" "MachineTablesModel" "many" "[I", Cond.soleField "MachineTablesModel" "many", Cond.laysFinal "MachineTablesModel" "MachineTablesModel" "sets" "[I", Cond.soleField "MachineTablesModel" "sets", Cond.laysFinal "MachineTablesModel" "MachineTablesModel" "triedFrom" "[I", Cond.soleField "MachineTablesModel" "triedFrom", Cond.laysFinal "MachineTablesModel" "MachineTablesModel" "triedBy" "[I", Cond.soleField "MachineTablesModel" "triedBy", Cond.superclass "MachineTablesModel" "java/lang/Object", Cond.arrayClass FieldType.boolean, Cond.methodLink "MachineTablesLaw" 62 y_Mo_thrown, Cond.instanceMethod y_Mo_thrown, Cond.selects "MachineTablesModel" y_Mo_thrown y_Mo_thrown, Cond.code y_Mo_thrown prog_6_method_2_code 1 (some FieldType.int), Cond.methodLink "MachineTablesLaw" 37 y_Mo_machine, Cond.instanceMethod y_Mo_machine, Cond.selects "MachineTablesModel" y_Mo_machine y_Mo_machine]
def B13 : List Cond := [Cond.code y_Mo_machine prog_6_method_8_code 3 (some FieldType.int), Cond.methodLink "MachineTablesModel" 60 y_Mo_in, Cond.static y_Mo_in, Cond.code y_Mo_in prog_6_method_4_code 3 (some FieldType.boolean), Cond.methodLink "MachineTablesModel" 68 y_Mo_newMachine, Cond.instanceMethod y_Mo_newMachine, Cond.code y_Mo_newMachine prog_6_method_7_code 5 (some FieldType.int), Cond.methodLink "MachineTablesLaw" 42 y_Mo_arrow, Cond.instanceMethod y_Mo_arrow, Cond.selects "MachineTablesModel" y_Mo_arrow y_Mo_arrow, Cond.code y_Mo_arrow prog_6_method_9_code 6 (some FieldType.boolean), Cond.methodLink "MachineTablesModel" 72 y_Mo_isState, Cond.instanceMethod y_Mo_isState, Cond.code y_Mo_isState prog_6_method_6_code 3 (some FieldType.boolean), Cond.methodLink "MachineTablesModel" 64 y_Mo_isMachine, Cond.instanceMethod y_Mo_isMachine, Cond.code y_Mo_isMachine prog_6_method_5_code 2 (some FieldType.boolean), Cond.methodLink "MachineTablesLaw" 47 y_Mo_look, Cond.instanceMethod y_Mo_look, Cond.selects "MachineTablesModel" y_Mo_look y_Mo_look, Cond.code y_Mo_look prog_6_method_10_code 5 (some FieldType.int), Cond.methodLink "MachineTablesLaw" 51 y_Mo_classes, Cond.instanceMethod y_Mo_classes, Cond.selects "MachineTablesModel" y_Mo_classes y_Mo_classes, Cond.code y_Mo_classes prog_6_method_14_code 4 (some FieldType.int), Cond.methodLink "MachineTablesModel" 79 y_Mo_mark, Cond.instanceMethod y_Mo_mark, Cond.code y_Mo_mark prog_6_method_12_code 5 (Option.none : Option Jvm.ClassFile.FieldType), Cond.methodLink "MachineTablesModel" 76 y_Mo_isApart, Cond.instanceMethod y_Mo_isApart, Cond.code y_Mo_isApart prog_6_method_11_code 7 (some FieldType.boolean), Cond.methodLink "MachineTablesModel" 83 y_Mo_firstLike, Cond.instanceMethod y_Mo_firstLike, Cond.code y_Mo_firstLike prog_6_method_13_code 3 (some FieldType.int), Cond.methodLink "MachineTablesLaw" 55 y_Mo_like, Cond.instanceMethod y_Mo_like, Cond.selects "MachineTablesModel" y_Mo_like y_Mo_like, Cond.code y_Mo_like prog_6_method_15_code 3 (some FieldType.int), Cond.methodLink "MachineTablesLaw" 61 y_Mo_alike, Cond.instanceMethod y_Mo_alike]
def B14 : List Cond := [Cond.selects "MachineTablesModel" y_Mo_alike y_Mo_alike, Cond.code y_Mo_alike prog_6_method_19_code 9 (some FieldType.boolean), Cond.methodLink "MachineTablesModel" 97 y_Mo_begin, Cond.instanceMethod y_Mo_begin, Cond.code y_Mo_begin prog_6_method_16_code 3 (Option.none : Option Jvm.ClassFile.FieldType), Cond.methodLink "MachineTablesModel" 90 y_Mo_come, Cond.instanceMethod y_Mo_come, Cond.code y_Mo_come prog_6_method_17_code 4 (Option.none : Option Jvm.ClassFile.FieldType), Cond.methodLink "MachineTablesModel" 100 y_Mo_tell, Cond.instanceMethod y_Mo_tell, Cond.code y_Mo_tell prog_6_method_18_code 5 (Option.none : Option Jvm.ClassFile.FieldType), Cond.methodLink "MachineTablesLaw" 69 y_Mo_least, Cond.instanceMethod y_Mo_least, Cond.selects "MachineTablesModel" y_Mo_least y_Mo_least, Cond.code y_Mo_least prog_6_method_22_code 5 (some FieldType.int), Cond.methodLink "MachineTablesModel" 104 y_Mo_findParts, Cond.instanceMethod y_Mo_findParts, Cond.code y_Mo_findParts prog_6_method_20_code 4 (Option.none : Option Jvm.ClassFile.FieldType), Cond.methodLink "MachineTablesModel" 107 y_Mo_partOf, Cond.instanceMethod y_Mo_partOf, Cond.code y_Mo_partOf prog_6_method_21_code 4 (some FieldType.int), Cond.methodLink "MachineTablesLaw" 73 y_Mo_part, Cond.instanceMethod y_Mo_part, Cond.selects "MachineTablesModel" y_Mo_part y_Mo_part, Cond.code y_Mo_part prog_6_method_23_code 3 (some FieldType.int), Cond.methodLink "MachineTablesLaw" 77 y_Mo_reset, Cond.instanceMethod y_Mo_reset, Cond.selects "MachineTablesModel" y_Mo_reset y_Mo_reset, Cond.code y_Mo_reset prog_6_method_26_code 4 (some FieldType.int), Cond.methodLink "MachineTablesModel" 110 y_Mo_ones, Cond.static y_Mo_ones, Cond.code y_Mo_ones prog_6_method_24_code 3 (some FieldType.int), Cond.methodLink "MachineTablesModel" 113 y_Mo_moved, Cond.instanceMethod y_Mo_moved, Cond.code y_Mo_moved prog_6_method_25_code 6 (some FieldType.int), Cond.methodLink "MachineTablesLaw" 81 y_Mo_home, Cond.instanceMethod y_Mo_home, Cond.selects "MachineTablesModel" y_Mo_home y_Mo_home, Cond.code y_Mo_home prog_6_method_32_code 5 (some FieldType.int), Cond.methodLink "MachineTablesModel" 117 y_Mo_put]
def B15 : List Cond := [Cond.instanceMethod y_Mo_put, Cond.code y_Mo_put prog_6_method_27_code 6 (Option.none : Option Jvm.ClassFile.FieldType), Cond.methodLink "MachineTablesModel" 120 y_Mo_isHome, Cond.instanceMethod y_Mo_isHome, Cond.code y_Mo_isHome prog_6_method_29_code 3 (some FieldType.boolean), Cond.methodLink "MachineTablesModel" 123 y_Mo_told, Cond.instanceMethod y_Mo_told, Cond.code y_Mo_told prog_6_method_31_code 4 (some FieldType.int), Cond.methodLink "MachineTablesModel" 129 y_Mo_lead, Cond.instanceMethod y_Mo_lead, Cond.code y_Mo_lead prog_6_method_28_code 10 (Option.none : Option Jvm.ClassFile.FieldType), Cond.methodLink "MachineTablesModel" 133 y_Mo_isTried, Cond.instanceMethod y_Mo_isTried, Cond.code y_Mo_isTried prog_6_method_30_code 5 (some FieldType.boolean), Cond.methodLink "MachineTablesModel" 136 y_Mo_raise, Cond.instanceMethod y_Mo_raise, Cond.code y_Mo_raise prog_6_method_3_code 1 (some FieldType.int), Cond.methodLink "MachineTablesLaw" 85 y_Mo_chain, Cond.instanceMethod y_Mo_chain, Cond.selects "MachineTablesModel" y_Mo_chain y_Mo_chain, Cond.code y_Mo_chain prog_6_method_35_code 8 (some FieldType.int), Cond.methodLink "MachineTablesModel" 140 y_Mo_chains, Cond.instanceMethod y_Mo_chains, Cond.code y_Mo_chains prog_6_method_33_code 6 (some FieldType.boolean), Cond.methodLink "MachineTablesModel" 143 y_Mo_placeOf, Cond.instanceMethod y_Mo_placeOf, Cond.code y_Mo_placeOf prog_6_method_34_code 3 (some FieldType.int), Cond.methodLink "MachineTablesLaw" 88 y_Mo_letter, Cond.instanceMethod y_Mo_letter, Cond.selects "MachineTablesModel" y_Mo_letter y_Mo_letter, Cond.code y_Mo_letter prog_6_method_36_code 2 (some FieldType.int), Cond.methodLink "MachineTablesLaw" 92 y_Mo_along, Cond.instanceMethod y_Mo_along, Cond.selects "MachineTablesModel" y_Mo_along y_Mo_along, Cond.code y_Mo_along prog_6_method_37_code 5 (some FieldType.int), Cond.methodLink "MachineTablesLaw" 96 y_Mo_clear, Cond.instanceMethod y_Mo_clear, Cond.selects "MachineTablesModel" y_Mo_clear y_Mo_clear, Cond.code y_Mo_clear prog_6_method_38_code 1 (Option.none : Option Jvm.ClassFile.FieldType), Cond.methodLink "MachineTablesLaw" 100 y_Mo_total]
def B16 : List Cond := [Cond.instanceMethod y_Mo_total, Cond.selects "MachineTablesModel" y_Mo_total y_Mo_total, Cond.code y_Mo_total prog_6_method_39_code 2 (some FieldType.int), Cond.arrayClass FieldType.long, Cond.sameMethod "java/lang/Throwable" "java/lang/Throwable" "fillInStackTrace" "(I)Ljava/lang/Throwable;", Cond.selects "MachineTables" y_MT_isFull y_MT_isFull, Cond.selects "MachineTables" y_MT_add y_MT_add, Cond.selects "MachineTables" y_MT_find y_MT_find, Cond.selects "java/lang/Throwable" y_XT_fillInStackTrace y_XT_fillInStackTrace, Cond.selects "MachineTables$Machine" y_Ma_splitSets y_Ma_splitSets, Cond.selects "MachineTables$Machine" y_Ma_leastThatAgrees y_Ma_leastThatAgrees, Cond.selects "MachineTables$Machine" y_Ma_isAgreed y_Ma_isAgreed, Cond.selects "MachineTables" y_MT_numberSets y_MT_numberSets, Cond.selects "MachineTables" y_MT_findSmall y_MT_findSmall, Cond.selects "MachineTables" y_MT_seekReset y_MT_seekReset, Cond.selects "MachineTables" y_MT_tell y_MT_tell, Cond.selects "MachineTables" y_MT_seekWitness y_MT_seekWitness, Cond.selects "MachineTables" y_MT_seekHomed y_MT_seekHomed, Cond.selects "MachineTables$Families" y_Fa_put y_Fa_put, Cond.selects "MachineTables$Families" y_Fa_liesInOne y_Fa_liesInOne, Cond.selects "MachineTables$Families" y_Fa_leaveOutThoseIn y_Fa_leaveOutThoseIn, Cond.selects "MachineTables$Families" y_Fa_putParted y_Fa_putParted, Cond.selects "MachineTables$Families" y_Fa_openOneIs y_Fa_openOneIs, Cond.selects "MachineTables" y_MT_numberPairs y_MT_numberPairs, Cond.selects "MachineTablesModel" y_Mo_newMachine y_Mo_newMachine, Cond.selects "MachineTablesModel" y_Mo_isState y_Mo_isState, Cond.selects "MachineTablesModel" y_Mo_isMachine y_Mo_isMachine, Cond.selects "MachineTablesModel" y_Mo_mark y_Mo_mark, Cond.selects "MachineTablesModel" y_Mo_isApart y_Mo_isApart, Cond.selects "MachineTablesModel" y_Mo_firstLike y_Mo_firstLike, Cond.selects "MachineTablesModel" y_Mo_begin y_Mo_begin, Cond.selects "MachineTablesModel" y_Mo_come y_Mo_come, Cond.selects "MachineTablesModel" y_Mo_tell y_Mo_tell, Cond.selects "MachineTablesModel" y_Mo_findParts y_Mo_findParts, Cond.selects "MachineTablesModel" y_Mo_partOf y_Mo_partOf, Cond.selects "MachineTablesModel" y_Mo_moved y_Mo_moved, Cond.selects "MachineTablesModel" y_Mo_put y_Mo_put, Cond.selects "MachineTablesModel" y_Mo_isHome y_Mo_isHome, Cond.selects "MachineTablesModel" y_Mo_told y_Mo_told, Cond.selects "MachineTablesModel" y_Mo_lead y_Mo_lead]
def B17 : List Cond := [Cond.selects "MachineTablesModel" y_Mo_isTried y_Mo_isTried, Cond.selects "MachineTablesModel" y_Mo_raise y_Mo_raise, Cond.selects "MachineTablesModel" y_Mo_chains y_Mo_chains, Cond.selects "MachineTablesModel" y_Mo_placeOf y_Mo_placeOf]
def BIG : List Cond := B0 ++ (B1 ++ (B2 ++ (B3 ++ (B4 ++ (B5 ++ (B6 ++ (B7 ++ (B8 ++ (B9 ++ (B10 ++ (B11 ++ (B12 ++ (B13 ++ (B14 ++ (B15 ++ (B16 ++ (B17)))))))))))))))))
theorem inB0 : ∀ w ∈ B0, w ∈ BIG := fun _ h => (List.mem_append_left _ h)
theorem okB0 : B0.all goodWord = true := by decide +kernel
theorem inB1 : ∀ w ∈ B1, w ∈ BIG := fun _ h => (List.mem_append_right _ (List.mem_append_left _ h))
theorem okB1 : B1.all goodWord = true := by decide +kernel
theorem inB2 : ∀ w ∈ B2, w ∈ BIG := fun _ h => (List.mem_append_right _ (List.mem_append_right _ (List.mem_append_left _ h)))
theorem okB2 : B2.all goodWord = true := by decide +kernel
theorem inB3 : ∀ w ∈ B3, w ∈ BIG := fun _ h => (List.mem_append_right _ (List.mem_append_right _ (List.mem_append_right _ (List.mem_append_left _ h))))
theorem okB3 : B3.all goodWord = true := by decide +kernel
theorem inB4 : ∀ w ∈ B4, w ∈ BIG := fun _ h => (List.mem_append_right _ (List.mem_append_right _ (List.mem_append_right _ (List.mem_append_right _ (List.mem_append_left _ h)))))
theorem okB4 : B4.all goodWord = true := by decide +kernel
theorem inB5 : ∀ w ∈ B5, w ∈ BIG := fun _ h => (List.mem_append_right _ (List.mem_append_right _ (List.mem_append_right _ (List.mem_append_right _ (List.mem_append_right _ (List.mem_append_left _ h))))))
theorem okB5 : B5.all goodWord = true := by decide +kernel
theorem inB6 : ∀ w ∈ B6, w ∈ BIG := fun _ h => (List.mem_append_right _ (List.mem_append_right _ (List.mem_append_right _ (List.mem_append_right _ (List.mem_append_right _ (List.mem_append_right _ (List.mem_append_left _ h)))))))
theorem okB6 : B6.all goodWord = true := by decide +kernel
theorem inB7 : ∀ w ∈ B7, w ∈ BIG := fun _ h => (List.mem_append_right _ (List.mem_append_right _ (List.mem_append_right _ (List.mem_append_right _ (List.mem_append_right _ (List.mem_append_right _ (List.mem_append_right _ (List.mem_append_left _ h))))))))
theorem okB7 : B7.all goodWord = true := by decide +kernel
theorem inB8 : ∀ w ∈ B8, w ∈ BIG := fun _ h => (List.mem_append_right _ (List.mem_append_right _ (List.mem_append_right _ (List.mem_append_right _ (List.mem_append_right _ (List.mem_append_right _ (List.mem_append_right _ (List.mem_append_right _ (List.mem_append_left _ h)))))))))
theorem okB8 : B8.all goodWord = true := by decide +kernel
theorem inB9 : ∀ w ∈ B9, w ∈ BIG := fun _ h => (List.mem_append_right _ (List.mem_append_right _ (List.mem_append_right _ (List.mem_append_right _ (List.mem_append_right _ (List.mem_append_right _ (List.mem_append_right _ (List.mem_append_right _ (List.mem_append_right _ (List.mem_append_left _ h))))))))))
theorem okB9 : B9.all goodWord = true := by decide +kernel
theorem inB10 : ∀ w ∈ B10, w ∈ BIG := fun _ h => (List.mem_append_right _ (List.mem_append_right _ (List.mem_append_right _ (List.mem_append_right _ (List.mem_append_right _ (List.mem_append_right _ (List.mem_append_right _ (List.mem_append_right _ (List.mem_append_right _ (List.mem_append_right _ (List.mem_append_left _ h)))))))))))
theorem okB10 : B10.all goodWord = true := by decide +kernel
theorem inB11 : ∀ w ∈ B11, w ∈ BIG := fun _ h => (List.mem_append_right _ (List.mem_append_right _ (List.mem_append_right _ (List.mem_append_right _ (List.mem_append_right _ (List.mem_append_right _ (List.mem_append_right _ (List.mem_append_right _ (List.mem_append_right _ (List.mem_append_right _ (List.mem_append_right _ (List.mem_append_left _ h))))))))))))
theorem okB11 : B11.all goodWord = true := by decide +kernel
theorem inB12 : ∀ w ∈ B12, w ∈ BIG := fun _ h => (List.mem_append_right _ (List.mem_append_right _ (List.mem_append_right _ (List.mem_append_right _ (List.mem_append_right _ (List.mem_append_right _ (List.mem_append_right _ (List.mem_append_right _ (List.mem_append_right _ (List.mem_append_right _ (List.mem_append_right _ (List.mem_append_right _ (List.mem_append_left _ h)))))))))))))
theorem okB12 : B12.all goodWord = true := by decide +kernel
theorem inB13 : ∀ w ∈ B13, w ∈ BIG := fun _ h => (List.mem_append_right _ (List.mem_append_right _ (List.mem_append_right _ (List.mem_append_right _ (List.mem_append_right _ (List.mem_append_right _ (List.mem_append_right _ (List.mem_append_right _ (List.mem_append_right _ (List.mem_append_right _ (List.mem_append_right _ (List.mem_append_right _ (List.mem_append_right _ (List.mem_append_left _ h))))))))))))))
theorem okB13 : B13.all goodWord = true := by decide +kernel
theorem inB14 : ∀ w ∈ B14, w ∈ BIG := fun _ h => (List.mem_append_right _ (List.mem_append_right _ (List.mem_append_right _ (List.mem_append_right _ (List.mem_append_right _ (List.mem_append_right _ (List.mem_append_right _ (List.mem_append_right _ (List.mem_append_right _ (List.mem_append_right _ (List.mem_append_right _ (List.mem_append_right _ (List.mem_append_right _ (List.mem_append_right _ (List.mem_append_left _ h)))))))))))))))
theorem okB14 : B14.all goodWord = true := by decide +kernel
theorem inB15 : ∀ w ∈ B15, w ∈ BIG := fun _ h => (List.mem_append_right _ (List.mem_append_right _ (List.mem_append_right _ (List.mem_append_right _ (List.mem_append_right _ (List.mem_append_right _ (List.mem_append_right _ (List.mem_append_right _ (List.mem_append_right _ (List.mem_append_right _ (List.mem_append_right _ (List.mem_append_right _ (List.mem_append_right _ (List.mem_append_right _ (List.mem_append_right _ (List.mem_append_left _ h))))))))))))))))
theorem okB15 : B15.all goodWord = true := by decide +kernel
theorem inB16 : ∀ w ∈ B16, w ∈ BIG := fun _ h => (List.mem_append_right _ (List.mem_append_right _ (List.mem_append_right _ (List.mem_append_right _ (List.mem_append_right _ (List.mem_append_right _ (List.mem_append_right _ (List.mem_append_right _ (List.mem_append_right _ (List.mem_append_right _ (List.mem_append_right _ (List.mem_append_right _ (List.mem_append_right _ (List.mem_append_right _ (List.mem_append_right _ (List.mem_append_right _ (List.mem_append_left _ h)))))))))))))))))
theorem okB16 : B16.all goodWord = true := by decide +kernel
theorem inB17 : ∀ w ∈ B17, w ∈ BIG := fun _ h => (List.mem_append_right _ (List.mem_append_right _ (List.mem_append_right _ (List.mem_append_right _ (List.mem_append_right _ (List.mem_append_right _ (List.mem_append_right _ (List.mem_append_right _ (List.mem_append_right _ (List.mem_append_right _ (List.mem_append_right _ (List.mem_append_right _ (List.mem_append_right _ (List.mem_append_right _ (List.mem_append_right _ (List.mem_append_right _ (List.mem_append_right _ h)))))))))))))))))
theorem okB17 : B17.all goodWord = true := by decide +kernel
theorem BIG_all : BIG.all goodWord = true := by
  simp only [BIG, List.all_append, okB0, okB1, okB2, okB3, okB4, okB5, okB6, okB7, okB8, okB9, okB10, okB11, okB12, okB13, okB14, okB15, okB16, okB17, Bool.and_self]
theorem BIG_ok : ∀ w ∈ BIG, w ∈ BIG ∧ ((w.onTables && w.keeps) = true ∨ ∃ ty, w = .arrayClass ty) := fun w h => ⟨h, good_of_word (List.all_eq_true.mp BIG_all w h)⟩
theorem kz_La : Cond.initialized "MachineTablesLaw" ∈ BIG := inB0 _ (List.mem_of_getElem? (i := 0) rfl)
theorem kz_MT : Cond.initialized "MachineTables" ∈ BIG := inB0 _ (List.mem_of_getElem? (i := 1) rfl)
theorem kz_Se : Cond.initialized "MachineTables$Search" ∈ BIG := inB0 _ (List.mem_of_getElem? (i := 2) rfl)
theorem kz_Fa : Cond.initialized "MachineTables$Families" ∈ BIG := inB0 _ (List.mem_of_getElem? (i := 3) rfl)
theorem kz_Mo : Cond.initialized "MachineTablesModel" ∈ BIG := inB0 _ (List.mem_of_getElem? (i := 4) rfl)
theorem kz_Ma : Cond.initialized "MachineTables$Machine" ∈ BIG := inB0 _ (List.mem_of_getElem? (i := 5) rfl)
theorem kz_Ar : Cond.initialized "java/util/Arrays" ∈ BIG := inB0 _ (List.mem_of_getElem? (i := 6) rfl)
theorem kz_XT : Cond.initialized "java/lang/Throwable" ∈ BIG := inB0 _ (List.mem_of_getElem? (i := 7) rfl)
theorem kz_XE : Cond.initialized "java/lang/Exception" ∈ BIG := inB0 _ (List.mem_of_getElem? (i := 8) rfl)
theorem kz_XR : Cond.initialized "java/lang/RuntimeException" ∈ BIG := inB0 _ (List.mem_of_getElem? (i := 9) rfl)
theorem kz_XI : Cond.initialized "java/lang/IllegalArgumentException" ∈ BIG := inB0 _ (List.mem_of_getElem? (i := 10) rfl)
theorem kz_Sy : Cond.initialized "java/lang/System" ∈ BIG := inB0 _ (List.mem_of_getElem? (i := 11) rfl)
theorem kz_In : Cond.initialized "java/lang/Integer" ∈ BIG := inB0 _ (List.mem_of_getElem? (i := 12) rfl)
theorem kz_XA : Cond.initialized "java/lang/ArithmeticException" ∈ BIG := inB0 _ (List.mem_of_getElem? (i := 13) rfl)
theorem kz_XN : Cond.initialized "java/util/NoSuchElementException" ∈ BIG := inB0 _ (List.mem_of_getElem? (i := 14) rfl)
theorem k_La_8 : Cond.classLink "MachineTablesLaw" 8 "MachineTables" ∈ BIG := inB0 _ (List.mem_of_getElem? (i := 15) rfl)
theorem kt_MT : Cond.instantiable "MachineTables" 5 ∈ BIG := inB0 _ (List.mem_of_getElem? (i := 16) rfl)
theorem k_La_30 : Cond.methodLink "MachineTablesLaw" 30 y_MT_init ∈ BIG := inB0 _ (List.mem_of_getElem? (i := 17) rfl)
theorem ki_MT_init : Cond.instanceMethod y_MT_init ∈ BIG := inB0 _ (List.mem_of_getElem? (i := 18) rfl)
theorem kc_MT_init : Cond.code y_MT_init prog_1_method_1_code 1 (Option.none : Option Jvm.ClassFile.FieldType) ∈ BIG := inB0 _ (List.mem_of_getElem? (i := 19) rfl)
theorem k_MT_3 : Cond.methodLink "MachineTables" 3 objectInit ∈ BIG := inB0 _ (List.mem_of_getElem? (i := 20) rfl)
theorem ki_Ob_init : Cond.instanceMethod objectInit ∈ BIG := inB0 _ (List.mem_of_getElem? (i := 21) rfl)
theorem kc_Ob_init : Cond.code objectInit object_method_1_code 1 (Option.none : Option Jvm.ClassFile.FieldType) ∈ BIG := inB0 _ (List.mem_of_getElem? (i := 22) rfl)
theorem k_MT_9 : Cond.classLink "MachineTables" 9 "MachineTables$Machine" ∈ BIG := inB0 _ (List.mem_of_getElem? (i := 23) rfl)
theorem k_MT_15 : Cond.classLink "MachineTables" 15 "MachineTables$Search" ∈ BIG := inB0 _ (List.mem_of_getElem? (i := 24) rfl)
theorem kt_Se : Cond.instantiable "MachineTables$Search" 4 ∈ BIG := inB0 _ (List.mem_of_getElem? (i := 25) rfl)
theorem k_MT_17 : Cond.methodLink "MachineTables" 17 y_Se_init ∈ BIG := inB0 _ (List.mem_of_getElem? (i := 26) rfl)
theorem ki_Se_init : Cond.instanceMethod y_Se_init ∈ BIG := inB0 _ (List.mem_of_getElem? (i := 27) rfl)
theorem kc_Se_init : Cond.code y_Se_init prog_4_method_1_code 1 (Option.none : Option Jvm.ClassFile.FieldType) ∈ BIG := inB0 _ (List.mem_of_getElem? (i := 28) rfl)
theorem k_Se_3 : Cond.methodLink "MachineTables$Search" 3 objectInit ∈ BIG := inB0 _ (List.mem_of_getElem? (i := 29) rfl)
theorem k_Se_9 : Cond.fieldLink "MachineTables$Search" 9 "MachineTables$Search" "numbers" "[I" ∈ BIG := inB0 _ (List.mem_of_getElem? (i := 30) rfl)
theorem k_Se_15 : Cond.fieldLink "MachineTables$Search" 15 "MachineTables$Search" "places" "[I" ∈ BIG := inB0 _ (List.mem_of_getElem? (i := 31) rfl)
theorem k_Se_18 : Cond.fieldLink "MachineTables$Search" 18 "MachineTables$Search" "steps" "[I" ∈ BIG := inB0 _ (List.mem_of_getElem? (i := 32) rfl)
theorem k_Se_27 : Cond.fieldLink "MachineTables$Search" 27 "MachineTables$Search" "count" "I" ∈ BIG := inB0 _ (List.mem_of_getElem? (i := 33) rfl)
theorem ka_int : Cond.arrayClass FieldType.int ∈ BIG := inB1 _ (List.mem_of_getElem? (i := 3) rfl)
theorem k_MT_22 : Cond.classLink "MachineTables" 22 "MachineTables$Families" ∈ BIG := inB1 _ (List.mem_of_getElem? (i := 4) rfl)
theorem kt_Fa : Cond.instantiable "MachineTables$Families" 4 ∈ BIG := inB1 _ (List.mem_of_getElem? (i := 5) rfl)
theorem k_MT_24 : Cond.methodLink "MachineTables" 24 y_Fa_init ∈ BIG := inB1 _ (List.mem_of_getElem? (i := 6) rfl)
theorem ki_Fa_init : Cond.instanceMethod y_Fa_init ∈ BIG := inB1 _ (List.mem_of_getElem? (i := 7) rfl)
theorem kc_Fa_init : Cond.code y_Fa_init prog_2_method_1_code 1 (Option.none : Option Jvm.ClassFile.FieldType) ∈ BIG := inB1 _ (List.mem_of_getElem? (i := 8) rfl)
theorem k_Fa_3 : Cond.methodLink "MachineTables$Families" 3 objectInit ∈ BIG := inB1 _ (List.mem_of_getElem? (i := 9) rfl)
theorem k_Fa_9 : Cond.fieldLink "MachineTables$Families" 9 "MachineTables$Families" "sets" "[I" ∈ BIG := inB1 _ (List.mem_of_getElem? (i := 10) rfl)
theorem k_Fa_15 : Cond.fieldLink "MachineTables$Families" 15 "MachineTables$Families" "sizes" "[I" ∈ BIG := inB1 _ (List.mem_of_getElem? (i := 11) rfl)
theorem k_Fa_18 : Cond.fieldLink "MachineTables$Families" 18 "MachineTables$Families" "byOutput" "[I" ∈ BIG := inB1 _ (List.mem_of_getElem? (i := 12) rfl)
theorem k_Fa_21 : Cond.fieldLink "MachineTables$Families" 21 "MachineTables$Families" "count" "I" ∈ BIG := inB1 _ (List.mem_of_getElem? (i := 13) rfl)
theorem k_MT_11 : Cond.fieldLink "MachineTables" 11 "MachineTables" "machines" "[LMachineTables$Machine;" ∈ BIG := inB1 _ (List.mem_of_getElem? (i := 23) rfl)
theorem k_MT_18 : Cond.fieldLink "MachineTables" 18 "MachineTables" "search" "LMachineTables$Search;" ∈ BIG := inB1 _ (List.mem_of_getElem? (i := 24) rfl)
theorem k_MT_25 : Cond.fieldLink "MachineTables" 25 "MachineTables" "families" "LMachineTables$Families;" ∈ BIG := inB1 _ (List.mem_of_getElem? (i := 25) rfl)
theorem k_MT_29 : Cond.fieldLink "MachineTables" 29 "MachineTables" "count" "I" ∈ BIG := inB1 _ (List.mem_of_getElem? (i := 26) rfl)
theorem k_MT_33 : Cond.fieldLink "MachineTables" 33 "MachineTables" "word" "[I" ∈ BIG := inB1 _ (List.mem_of_getElem? (i := 27) rfl)
theorem k_La_34 : Cond.methodLink "MachineTablesLaw" 34 y_MT_machine ∈ BIG := inB1 _ (List.mem_of_getElem? (i := 39) rfl)
theorem ki_MT_machine : Cond.instanceMethod y_MT_machine ∈ BIG := inB2 _ (List.mem_of_getElem? (i := 0) rfl)
theorem kl_MT_machine : Cond.selects "MachineTables" y_MT_machine y_MT_machine ∈ BIG := inB2 _ (List.mem_of_getElem? (i := 1) rfl)
theorem kc_MT_machine : Cond.code y_MT_machine prog_1_method_2_code 3 (some FieldType.int) ∈ BIG := inB2 _ (List.mem_of_getElem? (i := 2) rfl)
theorem k_MT_37 : Cond.methodLink "MachineTables" 37 y_MT_isFull ∈ BIG := inB2 _ (List.mem_of_getElem? (i := 3) rfl)
theorem ki_MT_isFull : Cond.instanceMethod y_MT_isFull ∈ BIG := inB2 _ (List.mem_of_getElem? (i := 4) rfl)
theorem kc_MT_isFull : Cond.code y_MT_isFull prog_1_method_17_code 1 (some FieldType.boolean) ∈ BIG := inB2 _ (List.mem_of_getElem? (i := 5) rfl)
theorem k_MT_41 : Cond.methodLink "MachineTables" 41 y_MT_add ∈ BIG := inB2 _ (List.mem_of_getElem? (i := 6) rfl)
theorem ki_MT_add : Cond.instanceMethod y_MT_add ∈ BIG := inB2 _ (List.mem_of_getElem? (i := 7) rfl)
theorem kc_MT_add : Cond.code y_MT_add prog_1_method_20_code 4 (some (FieldType.object "MachineTables$Machine")) ∈ BIG := inB2 _ (List.mem_of_getElem? (i := 8) rfl)
theorem kt_Ma : Cond.instantiable "MachineTables$Machine" 7 ∈ BIG := inB2 _ (List.mem_of_getElem? (i := 9) rfl)
theorem k_MT_147 : Cond.methodLink "MachineTables" 147 y_Ma_init ∈ BIG := inB2 _ (List.mem_of_getElem? (i := 10) rfl)
theorem ki_Ma_init : Cond.instanceMethod y_Ma_init ∈ BIG := inB2 _ (List.mem_of_getElem? (i := 11) rfl)
theorem kc_Ma_init : Cond.code y_Ma_init prog_3_method_1_code 1 (Option.none : Option Jvm.ClassFile.FieldType) ∈ BIG := inB2 _ (List.mem_of_getElem? (i := 12) rfl)
theorem k_Ma_3 : Cond.methodLink "MachineTables$Machine" 3 objectInit ∈ BIG := inB2 _ (List.mem_of_getElem? (i := 13) rfl)
theorem k_Ma_9 : Cond.fieldLink "MachineTables$Machine" 9 "MachineTables$Machine" "next" "[I" ∈ BIG := inB2 _ (List.mem_of_getElem? (i := 14) rfl)
theorem k_Ma_15 : Cond.fieldLink "MachineTables$Machine" 15 "MachineTables$Machine" "output" "[I" ∈ BIG := inB2 _ (List.mem_of_getElem? (i := 15) rfl)
theorem k_Ma_18 : Cond.fieldLink "MachineTables$Machine" 18 "MachineTables$Machine" "leastOf" "[I" ∈ BIG := inB2 _ (List.mem_of_getElem? (i := 16) rfl)
theorem k_Ma_21 : Cond.fieldLink "MachineTables$Machine" 21 "MachineTables$Machine" "finer" "[I" ∈ BIG := inB2 _ (List.mem_of_getElem? (i := 17) rfl)
theorem k_Ma_24 : Cond.fieldLink "MachineTables$Machine" 24 "MachineTables$Machine" "states" "I" ∈ BIG := inB2 _ (List.mem_of_getElem? (i := 18) rfl)
theorem k_Ma_28 : Cond.fieldLink "MachineTables$Machine" 28 "MachineTables$Machine" "inputs" "I" ∈ BIG := inB2 _ (List.mem_of_getElem? (i := 19) rfl)
theorem k_Ma_35 : Cond.fieldLink "MachineTables$Machine" 35 "MachineTables$Machine" "isSettled" "Z" ∈ BIG := inB2 _ (List.mem_of_getElem? (i := 20) rfl)
theorem k_MT_148 : Cond.methodLink "MachineTables" 148 y_Ma_begin ∈ BIG := inB2 _ (List.mem_of_getElem? (i := 36) rfl)
theorem ki_Ma_begin : Cond.instanceMethod y_Ma_begin ∈ BIG := inB2 _ (List.mem_of_getElem? (i := 37) rfl)
theorem kl_Ma_begin : Cond.selects "MachineTables$Machine" y_Ma_begin y_Ma_begin ∈ BIG := inB2 _ (List.mem_of_getElem? (i := 38) rfl)
theorem kc_Ma_begin : Cond.code y_Ma_begin prog_3_method_2_code 5 (Option.none : Option Jvm.ClassFile.FieldType) ∈ BIG := inB2 _ (List.mem_of_getElem? (i := 39) rfl)
theorem k_Ma_31 : Cond.methodLink "MachineTables$Machine" 31 y_Ma_setArrow ∈ BIG := inB3 _ (List.mem_of_getElem? (i := 0) rfl)
theorem ki_Ma_setArrow : Cond.instanceMethod y_Ma_setArrow ∈ BIG := inB3 _ (List.mem_of_getElem? (i := 1) rfl)
theorem kl_Ma_setArrow : Cond.selects "MachineTables$Machine" y_Ma_setArrow y_Ma_setArrow ∈ BIG := inB3 _ (List.mem_of_getElem? (i := 2) rfl)
theorem kc_Ma_setArrow : Cond.code y_Ma_setArrow prog_3_method_7_code 5 (Option.none : Option Jvm.ClassFile.FieldType) ∈ BIG := inB3 _ (List.mem_of_getElem? (i := 3) rfl)
theorem k_La_38 : Cond.methodLink "MachineTablesLaw" 38 y_MT_arrow ∈ BIG := inB3 _ (List.mem_of_getElem? (i := 4) rfl)
theorem ki_MT_arrow : Cond.instanceMethod y_MT_arrow ∈ BIG := inB3 _ (List.mem_of_getElem? (i := 5) rfl)
theorem kl_MT_arrow : Cond.selects "MachineTables" y_MT_arrow y_MT_arrow ∈ BIG := inB3 _ (List.mem_of_getElem? (i := 6) rfl)
theorem kc_MT_arrow : Cond.code y_MT_arrow prog_1_method_3_code 7 (some FieldType.boolean) ∈ BIG := inB3 _ (List.mem_of_getElem? (i := 7) rfl)
theorem k_MT_45 : Cond.methodLink "MachineTables" 45 y_MT_find ∈ BIG := inB3 _ (List.mem_of_getElem? (i := 8) rfl)
theorem ki_MT_find : Cond.instanceMethod y_MT_find ∈ BIG := inB3 _ (List.mem_of_getElem? (i := 9) rfl)
theorem kc_MT_find : Cond.code y_MT_find prog_1_method_18_code 2 (some (FieldType.object "MachineTables$Machine")) ∈ BIG := inB3 _ (List.mem_of_getElem? (i := 10) rfl)
theorem k_MT_49 : Cond.methodLink "MachineTables" 49 y_Ma_hasState ∈ BIG := inB3 _ (List.mem_of_getElem? (i := 11) rfl)
theorem ki_Ma_hasState : Cond.instanceMethod y_Ma_hasState ∈ BIG := inB3 _ (List.mem_of_getElem? (i := 12) rfl)
theorem kl_Ma_hasState : Cond.selects "MachineTables$Machine" y_Ma_hasState y_Ma_hasState ∈ BIG := inB3 _ (List.mem_of_getElem? (i := 13) rfl)
theorem kc_Ma_hasState : Cond.code y_Ma_hasState prog_3_method_3_code 2 (some FieldType.boolean) ∈ BIG := inB3 _ (List.mem_of_getElem? (i := 14) rfl)
theorem k_MT_53 : Cond.methodLink "MachineTables" 53 y_Ma_hasInput ∈ BIG := inB3 _ (List.mem_of_getElem? (i := 15) rfl)
theorem ki_Ma_hasInput : Cond.instanceMethod y_Ma_hasInput ∈ BIG := inB3 _ (List.mem_of_getElem? (i := 16) rfl)
theorem kl_Ma_hasInput : Cond.selects "MachineTables$Machine" y_Ma_hasInput y_Ma_hasInput ∈ BIG := inB3 _ (List.mem_of_getElem? (i := 17) rfl)
theorem kc_Ma_hasInput : Cond.code y_Ma_hasInput prog_3_method_4_code 2 (some FieldType.boolean) ∈ BIG := inB3 _ (List.mem_of_getElem? (i := 18) rfl)
theorem k_MT_56 : Cond.methodLink "MachineTables" 56 y_Ma_setArrow ∈ BIG := inB3 _ (List.mem_of_getElem? (i := 19) rfl)
theorem k_La_43 : Cond.methodLink "MachineTablesLaw" 43 y_MT_look ∈ BIG := inB3 _ (List.mem_of_getElem? (i := 20) rfl)
theorem ki_MT_look : Cond.instanceMethod y_MT_look ∈ BIG := inB3 _ (List.mem_of_getElem? (i := 21) rfl)
theorem kl_MT_look : Cond.selects "MachineTables" y_MT_look y_MT_look ∈ BIG := inB3 _ (List.mem_of_getElem? (i := 22) rfl)
theorem kc_MT_look : Cond.code y_MT_look prog_1_method_4_code 6 (some FieldType.int) ∈ BIG := inB3 _ (List.mem_of_getElem? (i := 23) rfl)
theorem k_MT_60 : Cond.methodLink "MachineTables" 60 y_Ma_nextOf ∈ BIG := inB3 _ (List.mem_of_getElem? (i := 24) rfl)
theorem ki_Ma_nextOf : Cond.instanceMethod y_Ma_nextOf ∈ BIG := inB3 _ (List.mem_of_getElem? (i := 25) rfl)
theorem kl_Ma_nextOf : Cond.selects "MachineTables$Machine" y_Ma_nextOf y_Ma_nextOf ∈ BIG := inB3 _ (List.mem_of_getElem? (i := 26) rfl)
theorem kc_Ma_nextOf : Cond.code y_Ma_nextOf prog_3_method_5_code 3 (some FieldType.int) ∈ BIG := inB3 _ (List.mem_of_getElem? (i := 27) rfl)
theorem k_MT_64 : Cond.methodLink "MachineTables" 64 y_Ma_outputOf ∈ BIG := inB3 _ (List.mem_of_getElem? (i := 28) rfl)
theorem ki_Ma_outputOf : Cond.instanceMethod y_Ma_outputOf ∈ BIG := inB3 _ (List.mem_of_getElem? (i := 29) rfl)
theorem kl_Ma_outputOf : Cond.selects "MachineTables$Machine" y_Ma_outputOf y_Ma_outputOf ∈ BIG := inB3 _ (List.mem_of_getElem? (i := 30) rfl)
theorem kc_Ma_outputOf : Cond.code y_Ma_outputOf prog_3_method_6_code 3 (some FieldType.int) ∈ BIG := inB3 _ (List.mem_of_getElem? (i := 31) rfl)
theorem k_La_48 : Cond.methodLink "MachineTablesLaw" 48 y_MT_classes ∈ BIG := inB3 _ (List.mem_of_getElem? (i := 32) rfl)
theorem ki_MT_classes : Cond.instanceMethod y_MT_classes ∈ BIG := inB3 _ (List.mem_of_getElem? (i := 33) rfl)
theorem kl_MT_classes : Cond.selects "MachineTables" y_MT_classes y_MT_classes ∈ BIG := inB3 _ (List.mem_of_getElem? (i := 34) rfl)
theorem kc_MT_classes : Cond.code y_MT_classes prog_1_method_5_code 3 (some FieldType.int) ∈ BIG := inB3 _ (List.mem_of_getElem? (i := 35) rfl)
theorem k_MT_67 : Cond.methodLink "MachineTables" 67 y_Ma_settle ∈ BIG := inB3 _ (List.mem_of_getElem? (i := 36) rfl)
theorem ki_Ma_settle : Cond.instanceMethod y_Ma_settle ∈ BIG := inB3 _ (List.mem_of_getElem? (i := 37) rfl)
theorem kl_Ma_settle : Cond.selects "MachineTables$Machine" y_Ma_settle y_Ma_settle ∈ BIG := inB3 _ (List.mem_of_getElem? (i := 38) rfl)
theorem kc_Ma_settle : Cond.code y_Ma_settle prog_3_method_11_code 3 (Option.none : Option Jvm.ClassFile.FieldType) ∈ BIG := inB3 _ (List.mem_of_getElem? (i := 39) rfl)
theorem k_Ma_43 : Cond.methodLink "MachineTables$Machine" 43 y_Ar_fill ∈ BIG := inB4 _ (List.mem_of_getElem? (i := 0) rfl)
theorem ks_Ar_fill : Cond.static y_Ar_fill ∈ BIG := inB4 _ (List.mem_of_getElem? (i := 1) rfl)
theorem kc_Ar_fill : Cond.code y_Ar_fill prog_21_method_104_code 5 (Option.none : Option Jvm.ClassFile.FieldType) ∈ BIG := inB4 _ (List.mem_of_getElem? (i := 2) rfl)
theorem k_Ar_13 : Cond.methodLink "java/util/Arrays" 13 y_Ar_rangeCheck ∈ BIG := inB4 _ (List.mem_of_getElem? (i := 3) rfl)
theorem ks_Ar_rangeCheck : Cond.static y_Ar_rangeCheck ∈ BIG := inB4 _ (List.mem_of_getElem? (i := 4) rfl)
theorem kc_Ar_rangeCheck : Cond.code y_Ar_rangeCheck prog_21_method_30_code 3 (Option.none : Option Jvm.ClassFile.FieldType) ∈ BIG := inB4 _ (List.mem_of_getElem? (i := 5) rfl)
theorem kt_XI : Cond.instantiable "java/lang/IllegalArgumentException" 6 ∈ BIG := inB4 _ (List.mem_of_getElem? (i := 6) rfl)
theorem kl_XT_fillInStackTrace_XI : Cond.selects "java/lang/IllegalArgumentException" y_XT_fillInStackTrace y_XT_fillInStackTrace ∈ BIG := inB4 _ (List.mem_of_getElem? (i := 7) rfl)
theorem kl_XT_fillInStackTrace2_XI : Cond.selects "java/lang/IllegalArgumentException" y_XT_fillInStackTrace2 y_XT_fillInStackTrace2 ∈ BIG := inB4 _ (List.mem_of_getElem? (i := 8) rfl)
theorem k_XT_198 : Cond.fieldLink "java/lang/Throwable" 198 "java/lang/Throwable" "backtrace" "Ljava/lang/Object;" ∈ BIG := inB4 _ (List.mem_of_getElem? (i := 19) rfl)
theorem ki_XT_init : Cond.instanceMethod y_XT_init ∈ BIG := inB4 _ (List.mem_of_getElem? (i := 21) rfl)
theorem kc_XT_init : Cond.code y_XT_init prog_20_method_1_code 1 (Option.none : Option Jvm.ClassFile.FieldType) ∈ BIG := inB4 _ (List.mem_of_getElem? (i := 22) rfl)
theorem k_XT_1 : Cond.methodLink "java/lang/Throwable" 1 objectInit ∈ BIG := inB4 _ (List.mem_of_getElem? (i := 23) rfl)
theorem k_XT_13 : Cond.fieldLink "java/lang/Throwable" 13 "java/lang/Throwable" "UNASSIGNED_STACK" "[Ljava/lang/StackTraceElement;" ∈ BIG := inB4 _ (List.mem_of_getElem? (i := 24) rfl)
theorem k_XT_20 : Cond.fieldLink "java/lang/Throwable" 20 "java/lang/Throwable" "SUPPRESSED_SENTINEL" "Ljava/util/List;" ∈ BIG := inB4 _ (List.mem_of_getElem? (i := 25) rfl)
theorem k_XT_27 : Cond.methodLink "java/lang/Throwable" 27 y_XT_fillInStackTrace2 ∈ BIG := inB4 _ (List.mem_of_getElem? (i := 26) rfl)
theorem ki_XT_fillInStackTrace2 : Cond.instanceMethod y_XT_fillInStackTrace2 ∈ BIG := inB4 _ (List.mem_of_getElem? (i := 27) rfl)
theorem kl_XT_fillInStackTrace2_XA : Cond.selects "java/lang/ArithmeticException" y_XT_fillInStackTrace2 y_XT_fillInStackTrace2 ∈ BIG := inB4 _ (List.mem_of_getElem? (i := 29) rfl)
theorem kl_XT_fillInStackTrace2_XN : Cond.selects "java/util/NoSuchElementException" y_XT_fillInStackTrace2 y_XT_fillInStackTrace2 ∈ BIG := inB4 _ (List.mem_of_getElem? (i := 30) rfl)
theorem kc_XT_fillInStackTrace2 : Cond.codeSync y_XT_fillInStackTrace2 prog_20_method_18_code 1 (some (FieldType.object "java/lang/Throwable")) ∈ BIG := inB4 _ (List.mem_of_getElem? (i := 31) rfl)
theorem k_XT_202 : Cond.methodLink "java/lang/Throwable" 202 y_XT_fillInStackTrace ∈ BIG := inB4 _ (List.mem_of_getElem? (i := 32) rfl)
theorem ki_XT_fillInStackTrace : Cond.instanceMethod y_XT_fillInStackTrace ∈ BIG := inB4 _ (List.mem_of_getElem? (i := 33) rfl)
theorem kt_XT : Cond.instantiable "java/lang/Throwable" 6 ∈ BIG := inB4 _ (List.mem_of_getElem? (i := 34) rfl)
theorem kn_XT_fillInStackTrace : Cond.native y_XT_fillInStackTrace ∈ BIG := inB4 _ (List.mem_of_getElem? (i := 35) rfl)
theorem ka_byte : Cond.arrayClass FieldType.byte ∈ BIG := inB4 _ (List.mem_of_getElem? (i := 36) rfl)
theorem kn_Ob_clone : Cond.native y_Ob_clone ∈ BIG := inB4 _ (List.mem_of_getElem? (i := 38) rfl)
theorem ki_Ob_clone : Cond.instanceMethod y_Ob_clone ∈ BIG := inB4 _ (List.mem_of_getElem? (i := 39) rfl)
theorem kl_None_clone_None : Cond.selects "[B" y_None_clone y_Ob_clone ∈ BIG := inB5 _ (List.mem_of_getElem? (i := 0) rfl)
theorem ks_Sy_arraycopy : Cond.static y_Sy_arraycopy ∈ BIG := inB5 _ (List.mem_of_getElem? (i := 1) rfl)
theorem kn_Sy_arraycopy : Cond.native y_Sy_arraycopy ∈ BIG := inB5 _ (List.mem_of_getElem? (i := 2) rfl)
theorem k_In_83 : Cond.fieldLink "java/lang/Integer" 83 "java/lang/Integer" "DigitOnes" "[B" ∈ BIG := inB5 _ (List.mem_of_getElem? (i := 3) rfl)
theorem k_In_87 : Cond.fieldLink "java/lang/Integer" 87 "java/lang/Integer" "DigitTens" "[B" ∈ BIG := inB5 _ (List.mem_of_getElem? (i := 4) rfl)
theorem ki_XI_init : Cond.instanceMethod y_XI_init ∈ BIG := inB5 _ (List.mem_of_getElem? (i := 5) rfl)
theorem kc_XI_init : Cond.code y_XI_init prog_11_method_2_code 2 (Option.none : Option Jvm.ClassFile.FieldType) ∈ BIG := inB5 _ (List.mem_of_getElem? (i := 6) rfl)
theorem k_XI_7 : Cond.methodLink "java/lang/IllegalArgumentException" 7 y_XR_init ∈ BIG := inB5 _ (List.mem_of_getElem? (i := 7) rfl)
theorem ki_XR_init : Cond.instanceMethod y_XR_init ∈ BIG := inB5 _ (List.mem_of_getElem? (i := 8) rfl)
theorem kc_XR_init : Cond.code y_XR_init prog_14_method_2_code 2 (Option.none : Option Jvm.ClassFile.FieldType) ∈ BIG := inB5 _ (List.mem_of_getElem? (i := 9) rfl)
theorem k_XR_7 : Cond.methodLink "java/lang/RuntimeException" 7 y_XE_init ∈ BIG := inB5 _ (List.mem_of_getElem? (i := 10) rfl)
theorem ki_XE_init : Cond.instanceMethod y_XE_init ∈ BIG := inB5 _ (List.mem_of_getElem? (i := 11) rfl)
theorem kc_XE_init : Cond.code y_XE_init prog_10_method_2_code 2 (Option.none : Option Jvm.ClassFile.FieldType) ∈ BIG := inB5 _ (List.mem_of_getElem? (i := 12) rfl)
theorem k_XE_7 : Cond.methodLink "java/lang/Exception" 7 y_XT_init2 ∈ BIG := inB5 _ (List.mem_of_getElem? (i := 13) rfl)
theorem ki_XT_init2 : Cond.instanceMethod y_XT_init2 ∈ BIG := inB5 _ (List.mem_of_getElem? (i := 14) rfl)
theorem kc_XT_init2 : Cond.code y_XT_init2 prog_20_method_2_code 2 (Option.none : Option Jvm.ClassFile.FieldType) ∈ BIG := inB5 _ (List.mem_of_getElem? (i := 15) rfl)
theorem k_XT_31 : Cond.fieldLink "java/lang/Throwable" 31 "java/lang/Throwable" "detailMessage" "Ljava/lang/String;" ∈ BIG := inB5 _ (List.mem_of_getElem? (i := 16) rfl)
theorem k_XT_7 : Cond.fieldLink "java/lang/Throwable" 7 "java/lang/Throwable" "cause" "Ljava/lang/Throwable;" ∈ BIG := inB5 _ (List.mem_of_getElem? (i := 17) rfl)
theorem k_XT_17 : Cond.fieldLink "java/lang/Throwable" 17 "java/lang/Throwable" "stackTrace" "[Ljava/lang/StackTraceElement;" ∈ BIG := inB5 _ (List.mem_of_getElem? (i := 18) rfl)
theorem k_XT_24 : Cond.fieldLink "java/lang/Throwable" 24 "java/lang/Throwable" "suppressedExceptions" "Ljava/util/List;" ∈ BIG := inB5 _ (List.mem_of_getElem? (i := 19) rfl)
theorem k_Ma_49 : Cond.methodLink "MachineTables$Machine" 49 y_Ma_splitSets ∈ BIG := inB5 _ (List.mem_of_getElem? (i := 28) rfl)
theorem ki_Ma_splitSets : Cond.instanceMethod y_Ma_splitSets ∈ BIG := inB5 _ (List.mem_of_getElem? (i := 29) rfl)
theorem kc_Ma_splitSets : Cond.code y_Ma_splitSets prog_3_method_12_code 3 (some FieldType.boolean) ∈ BIG := inB5 _ (List.mem_of_getElem? (i := 30) rfl)
theorem k_Ma_53 : Cond.methodLink "MachineTables$Machine" 53 y_Ma_leastThatAgrees ∈ BIG := inB5 _ (List.mem_of_getElem? (i := 31) rfl)
theorem ki_Ma_leastThatAgrees : Cond.instanceMethod y_Ma_leastThatAgrees ∈ BIG := inB5 _ (List.mem_of_getElem? (i := 32) rfl)
theorem kc_Ma_leastThatAgrees : Cond.code y_Ma_leastThatAgrees prog_3_method_13_code 3 (some FieldType.int) ∈ BIG := inB5 _ (List.mem_of_getElem? (i := 33) rfl)
theorem k_Ma_63 : Cond.methodLink "MachineTables$Machine" 63 y_Ma_isAgreed ∈ BIG := inB5 _ (List.mem_of_getElem? (i := 34) rfl)
theorem ki_Ma_isAgreed : Cond.instanceMethod y_Ma_isAgreed ∈ BIG := inB5 _ (List.mem_of_getElem? (i := 35) rfl)
theorem kc_Ma_isAgreed : Cond.code y_Ma_isAgreed prog_3_method_14_code 4 (some FieldType.boolean) ∈ BIG := inB5 _ (List.mem_of_getElem? (i := 36) rfl)
theorem k_Ma_67 : Cond.methodLink "MachineTables$Machine" 67 y_Ma_outputOf ∈ BIG := inB5 _ (List.mem_of_getElem? (i := 37) rfl)
theorem k_Ma_39 : Cond.methodLink "MachineTables$Machine" 39 y_Ma_nextOf ∈ BIG := inB5 _ (List.mem_of_getElem? (i := 38) rfl)
theorem k_Ma_57 : Cond.methodLink "MachineTables$Machine" 57 y_Sy_arraycopy ∈ BIG := inB5 _ (List.mem_of_getElem? (i := 39) rfl)
theorem k_MT_70 : Cond.methodLink "MachineTables" 70 y_Ma_countSets ∈ BIG := inB6 _ (List.mem_of_getElem? (i := 0) rfl)
theorem ki_Ma_countSets : Cond.instanceMethod y_Ma_countSets ∈ BIG := inB6 _ (List.mem_of_getElem? (i := 1) rfl)
theorem kl_Ma_countSets : Cond.selects "MachineTables$Machine" y_Ma_countSets y_Ma_countSets ∈ BIG := inB6 _ (List.mem_of_getElem? (i := 2) rfl)
theorem kc_Ma_countSets : Cond.code y_Ma_countSets prog_3_method_10_code 3 (some FieldType.int) ∈ BIG := inB6 _ (List.mem_of_getElem? (i := 3) rfl)
theorem k_La_52 : Cond.methodLink "MachineTablesLaw" 52 y_MT_like ∈ BIG := inB6 _ (List.mem_of_getElem? (i := 4) rfl)
theorem ki_MT_like : Cond.instanceMethod y_MT_like ∈ BIG := inB6 _ (List.mem_of_getElem? (i := 5) rfl)
theorem kl_MT_like : Cond.selects "MachineTables" y_MT_like y_MT_like ∈ BIG := inB6 _ (List.mem_of_getElem? (i := 6) rfl)
theorem kc_MT_like : Cond.code y_MT_like prog_1_method_6_code 4 (some FieldType.int) ∈ BIG := inB6 _ (List.mem_of_getElem? (i := 7) rfl)
theorem k_MT_74 : Cond.methodLink "MachineTables" 74 y_Ma_leastLike ∈ BIG := inB6 _ (List.mem_of_getElem? (i := 8) rfl)
theorem ki_Ma_leastLike : Cond.instanceMethod y_Ma_leastLike ∈ BIG := inB6 _ (List.mem_of_getElem? (i := 9) rfl)
theorem kl_Ma_leastLike : Cond.selects "MachineTables$Machine" y_Ma_leastLike y_Ma_leastLike ∈ BIG := inB6 _ (List.mem_of_getElem? (i := 10) rfl)
theorem kc_Ma_leastLike : Cond.code y_Ma_leastLike prog_3_method_9_code 2 (some FieldType.int) ∈ BIG := inB6 _ (List.mem_of_getElem? (i := 11) rfl)
theorem k_La_66 : Cond.methodLink "MachineTablesLaw" 66 y_MT_least ∈ BIG := inB6 _ (List.mem_of_getElem? (i := 12) rfl)
theorem ki_MT_least : Cond.instanceMethod y_MT_least ∈ BIG := inB6 _ (List.mem_of_getElem? (i := 13) rfl)
theorem kl_MT_least : Cond.selects "MachineTables" y_MT_least y_MT_least ∈ BIG := inB6 _ (List.mem_of_getElem? (i := 14) rfl)
theorem kc_MT_least : Cond.code y_MT_least prog_1_method_8_code 8 (some FieldType.int) ∈ BIG := inB6 _ (List.mem_of_getElem? (i := 15) rfl)
theorem k_MT_97 : Cond.methodLink "MachineTables" 97 y_MT_numberSets ∈ BIG := inB6 _ (List.mem_of_getElem? (i := 16) rfl)
theorem ki_MT_numberSets : Cond.instanceMethod y_MT_numberSets ∈ BIG := inB6 _ (List.mem_of_getElem? (i := 17) rfl)
theorem kc_MT_numberSets : Cond.code y_MT_numberSets prog_1_method_23_code 5 (Option.none : Option Jvm.ClassFile.FieldType) ∈ BIG := inB6 _ (List.mem_of_getElem? (i := 18) rfl)
theorem k_MT_156 : Cond.methodLink "MachineTables" 156 y_Se_begin ∈ BIG := inB6 _ (List.mem_of_getElem? (i := 19) rfl)
theorem ki_Se_begin : Cond.instanceMethod y_Se_begin ∈ BIG := inB6 _ (List.mem_of_getElem? (i := 20) rfl)
theorem kl_Se_begin : Cond.selects "MachineTables$Search" y_Se_begin y_Se_begin ∈ BIG := inB6 _ (List.mem_of_getElem? (i := 21) rfl)
theorem kc_Se_begin : Cond.code y_Se_begin prog_4_method_2_code 2 (Option.none : Option Jvm.ClassFile.FieldType) ∈ BIG := inB6 _ (List.mem_of_getElem? (i := 22) rfl)
theorem k_Se_21 : Cond.methodLink "MachineTables$Search" 21 y_Ar_fill ∈ BIG := inB6 _ (List.mem_of_getElem? (i := 23) rfl)
theorem k_MT_162 : Cond.methodLink "MachineTables" 162 y_Se_reach ∈ BIG := inB6 _ (List.mem_of_getElem? (i := 24) rfl)
theorem ki_Se_reach : Cond.instanceMethod y_Se_reach ∈ BIG := inB6 _ (List.mem_of_getElem? (i := 25) rfl)
theorem kl_Se_reach : Cond.selects "MachineTables$Search" y_Se_reach y_Se_reach ∈ BIG := inB6 _ (List.mem_of_getElem? (i := 26) rfl)
theorem kc_Se_reach : Cond.code y_Se_reach prog_4_method_3_code 4 (Option.none : Option Jvm.ClassFile.FieldType) ∈ BIG := inB6 _ (List.mem_of_getElem? (i := 27) rfl)
theorem k_Se_31 : Cond.methodLink "MachineTables$Search" 31 y_Se_note ∈ BIG := inB6 _ (List.mem_of_getElem? (i := 28) rfl)
theorem ki_Se_note : Cond.instanceMethod y_Se_note ∈ BIG := inB6 _ (List.mem_of_getElem? (i := 29) rfl)
theorem kl_Se_note : Cond.selects "MachineTables$Search" y_Se_note y_Se_note ∈ BIG := inB6 _ (List.mem_of_getElem? (i := 30) rfl)
theorem kc_Se_note : Cond.code y_Se_note prog_4_method_4_code 3 (some FieldType.int) ∈ BIG := inB6 _ (List.mem_of_getElem? (i := 31) rfl)
theorem k_MT_105 : Cond.methodLink "MachineTables" 105 y_Se_placeAt ∈ BIG := inB6 _ (List.mem_of_getElem? (i := 32) rfl)
theorem ki_Se_placeAt : Cond.instanceMethod y_Se_placeAt ∈ BIG := inB6 _ (List.mem_of_getElem? (i := 33) rfl)
theorem kl_Se_placeAt : Cond.selects "MachineTables$Search" y_Se_placeAt y_Se_placeAt ∈ BIG := inB6 _ (List.mem_of_getElem? (i := 34) rfl)
theorem kc_Se_placeAt : Cond.code y_Se_placeAt prog_4_method_5_code 2 (some FieldType.int) ∈ BIG := inB6 _ (List.mem_of_getElem? (i := 35) rfl)
theorem k_MT_108 : Cond.methodLink "MachineTables" 108 y_Se_numberOf ∈ BIG := inB6 _ (List.mem_of_getElem? (i := 36) rfl)
theorem ki_Se_numberOf : Cond.instanceMethod y_Se_numberOf ∈ BIG := inB6 _ (List.mem_of_getElem? (i := 37) rfl)
theorem kl_Se_numberOf : Cond.selects "MachineTables$Search" y_Se_numberOf y_Se_numberOf ∈ BIG := inB6 _ (List.mem_of_getElem? (i := 38) rfl)
theorem kc_Se_numberOf : Cond.code y_Se_numberOf prog_4_method_6_code 2 (some FieldType.int) ∈ BIG := inB6 _ (List.mem_of_getElem? (i := 39) rfl)
theorem k_La_70 : Cond.methodLink "MachineTablesLaw" 70 y_MT_part ∈ BIG := inB7 _ (List.mem_of_getElem? (i := 0) rfl)
theorem ki_MT_part : Cond.instanceMethod y_MT_part ∈ BIG := inB7 _ (List.mem_of_getElem? (i := 1) rfl)
theorem kl_MT_part : Cond.selects "MachineTables" y_MT_part y_MT_part ∈ BIG := inB7 _ (List.mem_of_getElem? (i := 2) rfl)
theorem kc_MT_part : Cond.code y_MT_part prog_1_method_9_code 4 (some FieldType.int) ∈ BIG := inB7 _ (List.mem_of_getElem? (i := 3) rfl)
theorem k_La_74 : Cond.methodLink "MachineTablesLaw" 74 y_MT_reset ∈ BIG := inB7 _ (List.mem_of_getElem? (i := 4) rfl)
theorem ki_MT_reset : Cond.instanceMethod y_MT_reset ∈ BIG := inB7 _ (List.mem_of_getElem? (i := 5) rfl)
theorem kl_MT_reset : Cond.selects "MachineTables" y_MT_reset y_MT_reset ∈ BIG := inB7 _ (List.mem_of_getElem? (i := 6) rfl)
theorem kc_MT_reset : Cond.code y_MT_reset prog_1_method_10_code 4 (some FieldType.int) ∈ BIG := inB7 _ (List.mem_of_getElem? (i := 7) rfl)
theorem k_MT_111 : Cond.methodLink "MachineTables" 111 y_MT_findSmall ∈ BIG := inB7 _ (List.mem_of_getElem? (i := 8) rfl)
theorem ki_MT_findSmall : Cond.instanceMethod y_MT_findSmall ∈ BIG := inB7 _ (List.mem_of_getElem? (i := 9) rfl)
theorem kc_MT_findSmall : Cond.code y_MT_findSmall prog_1_method_19_code 3 (some (FieldType.object "MachineTables$Machine")) ∈ BIG := inB7 _ (List.mem_of_getElem? (i := 10) rfl)
theorem k_MT_114 : Cond.methodLink "MachineTables" 114 y_MT_seekReset ∈ BIG := inB7 _ (List.mem_of_getElem? (i := 11) rfl)
theorem ki_MT_seekReset : Cond.instanceMethod y_MT_seekReset ∈ BIG := inB7 _ (List.mem_of_getElem? (i := 12) rfl)
theorem kc_MT_seekReset : Cond.code y_MT_seekReset prog_1_method_24_code 5 (some FieldType.int) ∈ BIG := inB7 _ (List.mem_of_getElem? (i := 13) rfl)
theorem k_MT_169 : Cond.methodLink "MachineTables" 169 y_In_bitCount ∈ BIG := inB7 _ (List.mem_of_getElem? (i := 14) rfl)
theorem ks_In_bitCount : Cond.static y_In_bitCount ∈ BIG := inB7 _ (List.mem_of_getElem? (i := 15) rfl)
theorem kc_In_bitCount : Cond.code y_In_bitCount prog_12_method_49_code 1 (some FieldType.int) ∈ BIG := inB7 _ (List.mem_of_getElem? (i := 16) rfl)
theorem k_In_265 : Cond.constant "java/lang/Integer" 265 (1431655765 : Int32) ∈ BIG := inB7 _ (List.mem_of_getElem? (i := 17) rfl)
theorem k_In_266 : Cond.constant "java/lang/Integer" 266 (858993459 : Int32) ∈ BIG := inB7 _ (List.mem_of_getElem? (i := 18) rfl)
theorem k_In_267 : Cond.constant "java/lang/Integer" 267 (252645135 : Int32) ∈ BIG := inB7 _ (List.mem_of_getElem? (i := 19) rfl)
theorem k_MT_174 : Cond.methodLink "MachineTables" 174 y_Ma_reachedFrom ∈ BIG := inB7 _ (List.mem_of_getElem? (i := 20) rfl)
theorem ki_Ma_reachedFrom : Cond.instanceMethod y_Ma_reachedFrom ∈ BIG := inB7 _ (List.mem_of_getElem? (i := 21) rfl)
theorem kl_Ma_reachedFrom : Cond.selects "MachineTables$Machine" y_Ma_reachedFrom y_Ma_reachedFrom ∈ BIG := inB7 _ (List.mem_of_getElem? (i := 22) rfl)
theorem kc_Ma_reachedFrom : Cond.code y_Ma_reachedFrom prog_3_method_8_code 5 (some FieldType.int) ∈ BIG := inB7 _ (List.mem_of_getElem? (i := 23) rfl)
theorem k_MT_94 : Cond.methodLink "MachineTables" 94 y_MT_tell ∈ BIG := inB7 _ (List.mem_of_getElem? (i := 24) rfl)
theorem ki_MT_tell : Cond.instanceMethod y_MT_tell ∈ BIG := inB7 _ (List.mem_of_getElem? (i := 25) rfl)
theorem kc_MT_tell : Cond.code y_MT_tell prog_1_method_21_code 2 (some FieldType.int) ∈ BIG := inB7 _ (List.mem_of_getElem? (i := 26) rfl)
theorem k_MT_152 : Cond.methodLink "MachineTables" 152 y_Se_wordTo ∈ BIG := inB7 _ (List.mem_of_getElem? (i := 27) rfl)
theorem ki_Se_wordTo : Cond.instanceMethod y_Se_wordTo ∈ BIG := inB7 _ (List.mem_of_getElem? (i := 28) rfl)
theorem kl_Se_wordTo : Cond.selects "MachineTables$Search" y_Se_wordTo y_Se_wordTo ∈ BIG := inB7 _ (List.mem_of_getElem? (i := 29) rfl)
theorem kc_Se_wordTo : Cond.code y_Se_wordTo prog_4_method_7_code 6 (some (FieldType.array FieldType.int)) ∈ BIG := inB7 _ (List.mem_of_getElem? (i := 30) rfl)
theorem k_La_89 : Cond.methodLink "MachineTablesLaw" 89 y_MT_along ∈ BIG := inB7 _ (List.mem_of_getElem? (i := 31) rfl)
theorem ki_MT_along : Cond.instanceMethod y_MT_along ∈ BIG := inB7 _ (List.mem_of_getElem? (i := 32) rfl)
theorem kl_MT_along : Cond.selects "MachineTables" y_MT_along y_MT_along ∈ BIG := inB7 _ (List.mem_of_getElem? (i := 33) rfl)
theorem kc_MT_along : Cond.code y_MT_along prog_1_method_14_code 6 (some FieldType.int) ∈ BIG := inB7 _ (List.mem_of_getElem? (i := 34) rfl)
theorem k_La_93 : Cond.methodLink "MachineTablesLaw" 93 y_MT_clear ∈ BIG := inB7 _ (List.mem_of_getElem? (i := 35) rfl)
theorem ki_MT_clear : Cond.instanceMethod y_MT_clear ∈ BIG := inB7 _ (List.mem_of_getElem? (i := 36) rfl)
theorem kl_MT_clear : Cond.selects "MachineTables" y_MT_clear y_MT_clear ∈ BIG := inB7 _ (List.mem_of_getElem? (i := 37) rfl)
theorem kc_MT_clear : Cond.code y_MT_clear prog_1_method_15_code 1 (Option.none : Option Jvm.ClassFile.FieldType) ∈ BIG := inB7 _ (List.mem_of_getElem? (i := 38) rfl)
theorem k_La_97 : Cond.methodLink "MachineTablesLaw" 97 y_MT_total ∈ BIG := inB7 _ (List.mem_of_getElem? (i := 39) rfl)
theorem ki_MT_total : Cond.instanceMethod y_MT_total ∈ BIG := inB8 _ (List.mem_of_getElem? (i := 0) rfl)
theorem kl_MT_total : Cond.selects "MachineTables" y_MT_total y_MT_total ∈ BIG := inB8 _ (List.mem_of_getElem? (i := 1) rfl)
theorem kc_MT_total : Cond.code y_MT_total prog_1_method_16_code 4 (some FieldType.int) ∈ BIG := inB8 _ (List.mem_of_getElem? (i := 2) rfl)
theorem k_La_56 : Cond.methodLink "MachineTablesLaw" 56 y_La_alike ∈ BIG := inB8 _ (List.mem_of_getElem? (i := 3) rfl)
theorem ks_La_alike : Cond.static y_La_alike ∈ BIG := inB8 _ (List.mem_of_getElem? (i := 4) rfl)
theorem kc_La_alike : Cond.codeWith y_La_alike method_3_code 7 (some FieldType.int) [(0, 21, 24, 13)] ∈ BIG := inB8 _ (List.mem_of_getElem? (i := 5) rfl)
theorem k_La_13 : Cond.classLink "MachineTablesLaw" 13 "java/lang/IllegalArgumentException" ∈ BIG := inB8 _ (List.mem_of_getElem? (i := 6) rfl)
theorem k_La_7 : Cond.methodLink "MachineTablesLaw" 7 y_MT_alike ∈ BIG := inB8 _ (List.mem_of_getElem? (i := 7) rfl)
theorem ki_MT_alike : Cond.instanceMethod y_MT_alike ∈ BIG := inB8 _ (List.mem_of_getElem? (i := 8) rfl)
theorem kl_MT_alike : Cond.selects "MachineTables" y_MT_alike y_MT_alike ∈ BIG := inB8 _ (List.mem_of_getElem? (i := 9) rfl)
theorem kc_MT_alike : Cond.code y_MT_alike prog_1_method_7_code 8 (some FieldType.boolean) ∈ BIG := inB8 _ (List.mem_of_getElem? (i := 10) rfl)
theorem k_MT_78 : Cond.classLink "MachineTables" 78 "java/lang/IllegalArgumentException" ∈ BIG := inB8 _ (List.mem_of_getElem? (i := 11) rfl)
theorem k_MT_82 : Cond.methodLink "MachineTables" 82 y_XI_init ∈ BIG := inB8 _ (List.mem_of_getElem? (i := 12) rfl)
theorem k_MT_90 : Cond.methodLink "MachineTables" 90 y_MT_seekWitness ∈ BIG := inB8 _ (List.mem_of_getElem? (i := 13) rfl)
theorem ki_MT_seekWitness : Cond.instanceMethod y_MT_seekWitness ∈ BIG := inB8 _ (List.mem_of_getElem? (i := 14) rfl)
theorem kc_MT_seekWitness : Cond.code y_MT_seekWitness prog_1_method_22_code 9 (some FieldType.int) ∈ BIG := inB8 _ (List.mem_of_getElem? (i := 15) rfl)
theorem k_MT_159 : Cond.methodLink "MachineTables" 159 y_MT_pairOf ∈ BIG := inB8 _ (List.mem_of_getElem? (i := 16) rfl)
theorem ks_MT_pairOf : Cond.static y_MT_pairOf ∈ BIG := inB8 _ (List.mem_of_getElem? (i := 17) rfl)
theorem kc_MT_pairOf : Cond.code y_MT_pairOf prog_1_method_28_code 2 (some FieldType.int) ∈ BIG := inB8 _ (List.mem_of_getElem? (i := 18) rfl)
theorem k_MT_132 : Cond.methodLink "MachineTables" 132 y_MT_firstOf ∈ BIG := inB8 _ (List.mem_of_getElem? (i := 19) rfl)
theorem ks_MT_firstOf : Cond.static y_MT_firstOf ∈ BIG := inB8 _ (List.mem_of_getElem? (i := 20) rfl)
theorem kc_MT_firstOf : Cond.code y_MT_firstOf prog_1_method_29_code 1 (some FieldType.int) ∈ BIG := inB8 _ (List.mem_of_getElem? (i := 21) rfl)
theorem k_MT_139 : Cond.methodLink "MachineTables" 139 y_MT_secondOf ∈ BIG := inB8 _ (List.mem_of_getElem? (i := 22) rfl)
theorem ks_MT_secondOf : Cond.static y_MT_secondOf ∈ BIG := inB8 _ (List.mem_of_getElem? (i := 23) rfl)
theorem kc_MT_secondOf : Cond.code y_MT_secondOf prog_1_method_30_code 1 (some FieldType.int) ∈ BIG := inB8 _ (List.mem_of_getElem? (i := 24) rfl)
theorem k_MT_166 : Cond.methodLink "MachineTables" 166 y_Se_note ∈ BIG := inB8 _ (List.mem_of_getElem? (i := 25) rfl)
theorem k_La_78 : Cond.methodLink "MachineTablesLaw" 78 y_La_home ∈ BIG := inB8 _ (List.mem_of_getElem? (i := 26) rfl)
theorem ks_La_home : Cond.static y_La_home ∈ BIG := inB8 _ (List.mem_of_getElem? (i := 27) rfl)
theorem kc_La_home : Cond.codeWith y_La_home method_4_code 4 (some FieldType.int) [(0, 9, 12, 19)] ∈ BIG := inB8 _ (List.mem_of_getElem? (i := 28) rfl)
theorem k_La_19 : Cond.classLink "MachineTablesLaw" 19 "java/lang/ArithmeticException" ∈ BIG := inB8 _ (List.mem_of_getElem? (i := 29) rfl)
theorem k_La_15 : Cond.methodLink "MachineTablesLaw" 15 y_MT_home ∈ BIG := inB8 _ (List.mem_of_getElem? (i := 30) rfl)
theorem ki_MT_home : Cond.instanceMethod y_MT_home ∈ BIG := inB8 _ (List.mem_of_getElem? (i := 31) rfl)
theorem kl_MT_home : Cond.selects "MachineTables" y_MT_home y_MT_home ∈ BIG := inB8 _ (List.mem_of_getElem? (i := 32) rfl)
theorem kc_MT_home : Cond.code y_MT_home prog_1_method_11_code 4 (some FieldType.int) ∈ BIG := inB8 _ (List.mem_of_getElem? (i := 33) rfl)
theorem k_MT_118 : Cond.methodLink "MachineTables" 118 y_MT_seekHomed ∈ BIG := inB8 _ (List.mem_of_getElem? (i := 34) rfl)
theorem ki_MT_seekHomed : Cond.instanceMethod y_MT_seekHomed ∈ BIG := inB8 _ (List.mem_of_getElem? (i := 35) rfl)
theorem kc_MT_seekHomed : Cond.code y_MT_seekHomed prog_1_method_25_code 5 (some FieldType.int) ∈ BIG := inB8 _ (List.mem_of_getElem? (i := 36) rfl)
theorem k_MT_177 : Cond.methodLink "MachineTables" 177 y_Fa_begin ∈ BIG := inB8 _ (List.mem_of_getElem? (i := 37) rfl)
theorem ki_Fa_begin : Cond.instanceMethod y_Fa_begin ∈ BIG := inB8 _ (List.mem_of_getElem? (i := 38) rfl)
theorem kl_Fa_begin : Cond.selects "MachineTables$Families" y_Fa_begin y_Fa_begin ∈ BIG := inB8 _ (List.mem_of_getElem? (i := 39) rfl)
theorem kc_Fa_begin : Cond.code y_Fa_begin prog_2_method_2_code 4 (Option.none : Option Jvm.ClassFile.FieldType) ∈ BIG := inB9 _ (List.mem_of_getElem? (i := 0) rfl)
theorem k_Fa_30 : Cond.methodLink "MachineTables$Families" 30 y_Ma_leastLike ∈ BIG := inB9 _ (List.mem_of_getElem? (i := 1) rfl)
theorem k_Fa_34 : Cond.methodLink "MachineTables$Families" 34 y_Fa_put ∈ BIG := inB9 _ (List.mem_of_getElem? (i := 2) rfl)
theorem ki_Fa_put : Cond.instanceMethod y_Fa_put ∈ BIG := inB9 _ (List.mem_of_getElem? (i := 3) rfl)
theorem kc_Fa_put : Cond.code y_Fa_put prog_2_method_6_code 4 (Option.none : Option Jvm.ClassFile.FieldType) ∈ BIG := inB9 _ (List.mem_of_getElem? (i := 4) rfl)
theorem k_Fa_55 : Cond.methodLink "MachineTables$Families" 55 y_Fa_liesInOne ∈ BIG := inB9 _ (List.mem_of_getElem? (i := 5) rfl)
theorem ki_Fa_liesInOne : Cond.instanceMethod y_Fa_liesInOne ∈ BIG := inB9 _ (List.mem_of_getElem? (i := 6) rfl)
theorem kc_Fa_liesInOne : Cond.code y_Fa_liesInOne prog_2_method_7_code 3 (some FieldType.boolean) ∈ BIG := inB9 _ (List.mem_of_getElem? (i := 7) rfl)
theorem k_Fa_59 : Cond.methodLink "MachineTables$Families" 59 y_Fa_leaveOutThoseIn ∈ BIG := inB9 _ (List.mem_of_getElem? (i := 8) rfl)
theorem ki_Fa_leaveOutThoseIn : Cond.instanceMethod y_Fa_leaveOutThoseIn ∈ BIG := inB9 _ (List.mem_of_getElem? (i := 9) rfl)
theorem kc_Fa_leaveOutThoseIn : Cond.code y_Fa_leaveOutThoseIn prog_2_method_8_code 6 (Option.none : Option Jvm.ClassFile.FieldType) ∈ BIG := inB9 _ (List.mem_of_getElem? (i := 10) rfl)
theorem k_MT_179 : Cond.methodLink "MachineTables" 179 y_Fa_openOneIsSingles ∈ BIG := inB9 _ (List.mem_of_getElem? (i := 11) rfl)
theorem ki_Fa_openOneIsSingles : Cond.instanceMethod y_Fa_openOneIsSingles ∈ BIG := inB9 _ (List.mem_of_getElem? (i := 12) rfl)
theorem kl_Fa_openOneIsSingles : Cond.selects "MachineTables$Families" y_Fa_openOneIsSingles y_Fa_openOneIsSingles ∈ BIG := inB9 _ (List.mem_of_getElem? (i := 13) rfl)
theorem kc_Fa_openOneIsSingles : Cond.code y_Fa_openOneIsSingles prog_2_method_9_code 2 (some FieldType.boolean) ∈ BIG := inB9 _ (List.mem_of_getElem? (i := 14) rfl)
theorem k_Fa_62 : Cond.methodLink "MachineTables$Families" 62 y_In_bitCount ∈ BIG := inB9 _ (List.mem_of_getElem? (i := 15) rfl)
theorem k_MT_182 : Cond.methodLink "MachineTables" 182 y_Fa_keepOpenOne ∈ BIG := inB9 _ (List.mem_of_getElem? (i := 16) rfl)
theorem ki_Fa_keepOpenOne : Cond.instanceMethod y_Fa_keepOpenOne ∈ BIG := inB9 _ (List.mem_of_getElem? (i := 17) rfl)
theorem kl_Fa_keepOpenOne : Cond.selects "MachineTables$Families" y_Fa_keepOpenOne y_Fa_keepOpenOne ∈ BIG := inB9 _ (List.mem_of_getElem? (i := 18) rfl)
theorem kc_Fa_keepOpenOne : Cond.code y_Fa_keepOpenOne prog_2_method_3_code 1 (Option.none : Option Jvm.ClassFile.FieldType) ∈ BIG := inB9 _ (List.mem_of_getElem? (i := 19) rfl)
theorem k_MT_186 : Cond.methodLink "MachineTables" 186 y_Fa_follow ∈ BIG := inB9 _ (List.mem_of_getElem? (i := 20) rfl)
theorem ki_Fa_follow : Cond.instanceMethod y_Fa_follow ∈ BIG := inB9 _ (List.mem_of_getElem? (i := 21) rfl)
theorem kl_Fa_follow : Cond.selects "MachineTables$Families" y_Fa_follow y_Fa_follow ∈ BIG := inB9 _ (List.mem_of_getElem? (i := 22) rfl)
theorem kc_Fa_follow : Cond.code y_Fa_follow prog_2_method_4_code 5 (Option.none : Option Jvm.ClassFile.FieldType) ∈ BIG := inB9 _ (List.mem_of_getElem? (i := 23) rfl)
theorem k_Fa_38 : Cond.methodLink "MachineTables$Families" 38 y_Fa_putParted ∈ BIG := inB9 _ (List.mem_of_getElem? (i := 24) rfl)
theorem ki_Fa_putParted : Cond.instanceMethod y_Fa_putParted ∈ BIG := inB9 _ (List.mem_of_getElem? (i := 25) rfl)
theorem kc_Fa_putParted : Cond.code y_Fa_putParted prog_2_method_5_code 5 (Option.none : Option Jvm.ClassFile.FieldType) ∈ BIG := inB9 _ (List.mem_of_getElem? (i := 26) rfl)
theorem k_Fa_42 : Cond.methodLink "MachineTables$Families" 42 y_Ar_fill2 ∈ BIG := inB9 _ (List.mem_of_getElem? (i := 27) rfl)
theorem ks_Ar_fill2 : Cond.static y_Ar_fill2 ∈ BIG := inB9 _ (List.mem_of_getElem? (i := 28) rfl)
theorem kc_Ar_fill2 : Cond.code y_Ar_fill2 prog_21_method_103_code 4 (Option.none : Option Jvm.ClassFile.FieldType) ∈ BIG := inB9 _ (List.mem_of_getElem? (i := 29) rfl)
theorem k_Fa_48 : Cond.methodLink "MachineTables$Families" 48 y_Ma_outputOf ∈ BIG := inB9 _ (List.mem_of_getElem? (i := 30) rfl)
theorem k_Fa_52 : Cond.methodLink "MachineTables$Families" 52 y_Ma_nextOf ∈ BIG := inB9 _ (List.mem_of_getElem? (i := 31) rfl)
theorem k_MT_190 : Cond.methodLink "MachineTables" 190 y_Fa_openOneIsKnown ∈ BIG := inB9 _ (List.mem_of_getElem? (i := 32) rfl)
theorem ki_Fa_openOneIsKnown : Cond.instanceMethod y_Fa_openOneIsKnown ∈ BIG := inB9 _ (List.mem_of_getElem? (i := 33) rfl)
theorem kl_Fa_openOneIsKnown : Cond.selects "MachineTables$Families" y_Fa_openOneIsKnown y_Fa_openOneIsKnown ∈ BIG := inB9 _ (List.mem_of_getElem? (i := 34) rfl)
theorem kc_Fa_openOneIsKnown : Cond.code y_Fa_openOneIsKnown prog_2_method_10_code 2 (some FieldType.boolean) ∈ BIG := inB9 _ (List.mem_of_getElem? (i := 35) rfl)
theorem k_Fa_67 : Cond.methodLink "MachineTables$Families" 67 y_Fa_openOneIs ∈ BIG := inB9 _ (List.mem_of_getElem? (i := 36) rfl)
theorem ki_Fa_openOneIs : Cond.instanceMethod y_Fa_openOneIs ∈ BIG := inB9 _ (List.mem_of_getElem? (i := 37) rfl)
theorem kc_Fa_openOneIs : Cond.code y_Fa_openOneIs prog_2_method_11_code 3 (some FieldType.boolean) ∈ BIG := inB9 _ (List.mem_of_getElem? (i := 38) rfl)
theorem k_MT_121 : Cond.classLink "MachineTables" 121 "java/lang/ArithmeticException" ∈ BIG := inB9 _ (List.mem_of_getElem? (i := 39) rfl)
theorem kt_XA : Cond.instantiable "java/lang/ArithmeticException" 6 ∈ BIG := inB10 _ (List.mem_of_getElem? (i := 0) rfl)
theorem kl_XT_fillInStackTrace_XA : Cond.selects "java/lang/ArithmeticException" y_XT_fillInStackTrace y_XT_fillInStackTrace ∈ BIG := inB10 _ (List.mem_of_getElem? (i := 1) rfl)
theorem k_MT_125 : Cond.methodLink "MachineTables" 125 y_XA_init ∈ BIG := inB10 _ (List.mem_of_getElem? (i := 7) rfl)
theorem ki_XA_init : Cond.instanceMethod y_XA_init ∈ BIG := inB10 _ (List.mem_of_getElem? (i := 8) rfl)
theorem kc_XA_init : Cond.code y_XA_init prog_8_method_2_code 2 (Option.none : Option Jvm.ClassFile.FieldType) ∈ BIG := inB10 _ (List.mem_of_getElem? (i := 9) rfl)
theorem k_XA_7 : Cond.methodLink "java/lang/ArithmeticException" 7 y_XR_init ∈ BIG := inB10 _ (List.mem_of_getElem? (i := 10) rfl)
theorem k_La_82 : Cond.methodLink "MachineTablesLaw" 82 y_La_chain ∈ BIG := inB10 _ (List.mem_of_getElem? (i := 13) rfl)
theorem ks_La_chain : Cond.static y_La_chain ∈ BIG := inB10 _ (List.mem_of_getElem? (i := 14) rfl)
theorem kc_La_chain : Cond.codeWith y_La_chain method_5_code 5 (some FieldType.int) [(0, 10, 13, 19)] ∈ BIG := inB10 _ (List.mem_of_getElem? (i := 15) rfl)
theorem k_La_21 : Cond.methodLink "MachineTablesLaw" 21 y_MT_chain ∈ BIG := inB10 _ (List.mem_of_getElem? (i := 16) rfl)
theorem ki_MT_chain : Cond.instanceMethod y_MT_chain ∈ BIG := inB10 _ (List.mem_of_getElem? (i := 17) rfl)
theorem kl_MT_chain : Cond.selects "MachineTables" y_MT_chain y_MT_chain ∈ BIG := inB10 _ (List.mem_of_getElem? (i := 18) rfl)
theorem kc_MT_chain : Cond.code y_MT_chain prog_1_method_12_code 11 (some FieldType.int) ∈ BIG := inB10 _ (List.mem_of_getElem? (i := 19) rfl)
theorem k_MT_126 : Cond.methodLink "MachineTables" 126 y_MT_numberPairs ∈ BIG := inB10 _ (List.mem_of_getElem? (i := 20) rfl)
theorem ki_MT_numberPairs : Cond.instanceMethod y_MT_numberPairs ∈ BIG := inB10 _ (List.mem_of_getElem? (i := 21) rfl)
theorem kc_MT_numberPairs : Cond.code y_MT_numberPairs prog_1_method_26_code 6 (some FieldType.boolean) ∈ BIG := inB10 _ (List.mem_of_getElem? (i := 22) rfl)
theorem k_MT_135 : Cond.methodLink "MachineTables" 135 y_MT_pairBehind ∈ BIG := inB10 _ (List.mem_of_getElem? (i := 23) rfl)
theorem ks_MT_pairBehind : Cond.static y_MT_pairBehind ∈ BIG := inB10 _ (List.mem_of_getElem? (i := 24) rfl)
theorem kc_MT_pairBehind : Cond.code y_MT_pairBehind prog_1_method_27_code 5 (some FieldType.int) ∈ BIG := inB10 _ (List.mem_of_getElem? (i := 25) rfl)
theorem k_La_86 : Cond.methodLink "MachineTablesLaw" 86 y_La_letter ∈ BIG := inB10 _ (List.mem_of_getElem? (i := 26) rfl)
theorem ks_La_letter : Cond.static y_La_letter ∈ BIG := inB10 _ (List.mem_of_getElem? (i := 27) rfl)
theorem kc_La_letter : Cond.codeWith y_La_letter method_6_code 4 (some FieldType.int) [(0, 9, 12, 28)] ∈ BIG := inB10 _ (List.mem_of_getElem? (i := 28) rfl)
theorem k_La_28 : Cond.classLink "MachineTablesLaw" 28 "java/util/NoSuchElementException" ∈ BIG := inB10 _ (List.mem_of_getElem? (i := 29) rfl)
theorem k_La_25 : Cond.methodLink "MachineTablesLaw" 25 y_MT_letter ∈ BIG := inB10 _ (List.mem_of_getElem? (i := 30) rfl)
theorem ki_MT_letter : Cond.instanceMethod y_MT_letter ∈ BIG := inB10 _ (List.mem_of_getElem? (i := 31) rfl)
theorem kl_MT_letter : Cond.selects "MachineTables" y_MT_letter y_MT_letter ∈ BIG := inB10 _ (List.mem_of_getElem? (i := 32) rfl)
theorem kc_MT_letter : Cond.code y_MT_letter prog_1_method_13_code 2 (some FieldType.int) ∈ BIG := inB10 _ (List.mem_of_getElem? (i := 33) rfl)
theorem k_MT_142 : Cond.classLink "MachineTables" 142 "java/util/NoSuchElementException" ∈ BIG := inB10 _ (List.mem_of_getElem? (i := 34) rfl)
theorem kt_XN : Cond.instantiable "java/util/NoSuchElementException" 6 ∈ BIG := inB10 _ (List.mem_of_getElem? (i := 35) rfl)
theorem kl_XT_fillInStackTrace_XN : Cond.selects "java/util/NoSuchElementException" y_XT_fillInStackTrace y_XT_fillInStackTrace ∈ BIG := inB10 _ (List.mem_of_getElem? (i := 36) rfl)
theorem k_MT_146 : Cond.methodLink "MachineTables" 146 y_XN_init ∈ BIG := inB11 _ (List.mem_of_getElem? (i := 2) rfl)
theorem ki_XN_init : Cond.instanceMethod y_XN_init ∈ BIG := inB11 _ (List.mem_of_getElem? (i := 3) rfl)
theorem kc_XN_init : Cond.code y_XN_init prog_22_method_4_code 2 (Option.none : Option Jvm.ClassFile.FieldType) ∈ BIG := inB11 _ (List.mem_of_getElem? (i := 4) rfl)
theorem k_XN_13 : Cond.methodLink "java/util/NoSuchElementException" 13 y_XR_init ∈ BIG := inB11 _ (List.mem_of_getElem? (i := 5) rfl)
theorem k_La_31 : Cond.classLink "MachineTablesLaw" 31 "MachineTablesModel" ∈ BIG := inB11 _ (List.mem_of_getElem? (i := 8) rfl)
theorem kt_Mo : Cond.instantiable "MachineTablesModel" 19 ∈ BIG := inB11 _ (List.mem_of_getElem? (i := 9) rfl)
theorem k_La_33 : Cond.methodLink "MachineTablesLaw" 33 y_Mo_init ∈ BIG := inB11 _ (List.mem_of_getElem? (i := 10) rfl)
theorem ki_Mo_init : Cond.instanceMethod y_Mo_init ∈ BIG := inB11 _ (List.mem_of_getElem? (i := 11) rfl)
theorem kc_Mo_init : Cond.code y_Mo_init prog_6_method_1_code 1 (Option.none : Option Jvm.ClassFile.FieldType) ∈ BIG := inB11 _ (List.mem_of_getElem? (i := 12) rfl)
theorem k_Mo_1 : Cond.methodLink "MachineTablesModel" 1 objectInit ∈ BIG := inB11 _ (List.mem_of_getElem? (i := 13) rfl)
theorem k_Mo_53 : Cond.fieldLink "MachineTablesModel" 53 "MachineTablesModel" "thrown" "I" ∈ BIG := inB11 _ (List.mem_of_getElem? (i := 14) rfl)
theorem k_Mo_57 : Cond.fieldLink "MachineTablesModel" 57 "MachineTablesModel" "machines" "I" ∈ BIG := inB11 _ (List.mem_of_getElem? (i := 15) rfl)
theorem k_Mo_7 : Cond.fieldLink "MachineTablesModel" 7 "MachineTablesModel" "states" "[I" ∈ BIG := inB11 _ (List.mem_of_getElem? (i := 16) rfl)
theorem k_Mo_13 : Cond.fieldLink "MachineTablesModel" 13 "MachineTablesModel" "inputs" "[I" ∈ BIG := inB11 _ (List.mem_of_getElem? (i := 17) rfl)
theorem k_Mo_16 : Cond.fieldLink "MachineTablesModel" 16 "MachineTablesModel" "next" "[I" ∈ BIG := inB11 _ (List.mem_of_getElem? (i := 18) rfl)
theorem k_Mo_19 : Cond.fieldLink "MachineTablesModel" 19 "MachineTablesModel" "output" "[I" ∈ BIG := inB11 _ (List.mem_of_getElem? (i := 19) rfl)
theorem k_Mo_94 : Cond.fieldLink "MachineTablesModel" 94 "MachineTablesModel" "length" "I" ∈ BIG := inB11 _ (List.mem_of_getElem? (i := 20) rfl)
theorem k_Mo_22 : Cond.fieldLink "MachineTablesModel" 22 "MachineTablesModel" "word" "[I" ∈ BIG := inB11 _ (List.mem_of_getElem? (i := 21) rfl)
theorem k_Mo_25 : Cond.fieldLink "MachineTablesModel" 25 "MachineTablesModel" "apart" "[Z" ∈ BIG := inB11 _ (List.mem_of_getElem? (i := 22) rfl)
theorem k_Mo_87 : Cond.fieldLink "MachineTablesModel" 87 "MachineTablesModel" "found" "I" ∈ BIG := inB11 _ (List.mem_of_getElem? (i := 23) rfl)
theorem k_Mo_29 : Cond.fieldLink "MachineTablesModel" 29 "MachineTablesModel" "seen" "[I" ∈ BIG := inB11 _ (List.mem_of_getElem? (i := 24) rfl)
theorem k_Mo_32 : Cond.fieldLink "MachineTablesModel" 32 "MachineTablesModel" "from" "[I" ∈ BIG := inB11 _ (List.mem_of_getElem? (i := 25) rfl)
theorem k_Mo_35 : Cond.fieldLink "MachineTablesModel" 35 "MachineTablesModel" "by" "[I" ∈ BIG := inB11 _ (List.mem_of_getElem? (i := 26) rfl)
theorem k_Mo_38 : Cond.fieldLink "MachineTablesModel" 38 "MachineTablesModel" "isSeen" "[Z" ∈ BIG := inB11 _ (List.mem_of_getElem? (i := 27) rfl)
theorem k_Mo_126 : Cond.fieldLink "MachineTablesModel" 126 "MachineTablesModel" "tries" "I" ∈ BIG := inB11 _ (List.mem_of_getElem? (i := 28) rfl)
theorem k_Mo_41 : Cond.fieldLink "MachineTablesModel" 41 "MachineTablesModel" "many" "[I" ∈ BIG := inB11 _ (List.mem_of_getElem? (i := 29) rfl)
theorem k_Mo_44 : Cond.fieldLink "MachineTablesModel" 44 "MachineTablesModel" "sets" "[I" ∈ BIG := inB11 _ (List.mem_of_getElem? (i := 30) rfl)
theorem k_Mo_47 : Cond.fieldLink "MachineTablesModel" 47 "MachineTablesModel" "triedFrom" "[I" ∈ BIG := inB11 _ (List.mem_of_getElem? (i := 31) rfl)
theorem k_Mo_50 : Cond.fieldLink "MachineTablesModel" 50 "MachineTablesModel" "triedBy" "[I" ∈ BIG := inB11 _ (List.mem_of_getElem? (i := 32) rfl)
theorem ka_boolean : Cond.arrayClass FieldType.boolean ∈ BIG := inB12 _ (List.mem_of_getElem? (i := 32) rfl)
theorem k_La_62 : Cond.methodLink "MachineTablesLaw" 62 y_Mo_thrown ∈ BIG := inB12 _ (List.mem_of_getElem? (i := 33) rfl)
theorem ki_Mo_thrown : Cond.instanceMethod y_Mo_thrown ∈ BIG := inB12 _ (List.mem_of_getElem? (i := 34) rfl)
theorem kl_Mo_thrown : Cond.selects "MachineTablesModel" y_Mo_thrown y_Mo_thrown ∈ BIG := inB12 _ (List.mem_of_getElem? (i := 35) rfl)
theorem kc_Mo_thrown : Cond.code y_Mo_thrown prog_6_method_2_code 1 (some FieldType.int) ∈ BIG := inB12 _ (List.mem_of_getElem? (i := 36) rfl)
theorem k_La_37 : Cond.methodLink "MachineTablesLaw" 37 y_Mo_machine ∈ BIG := inB12 _ (List.mem_of_getElem? (i := 37) rfl)
theorem ki_Mo_machine : Cond.instanceMethod y_Mo_machine ∈ BIG := inB12 _ (List.mem_of_getElem? (i := 38) rfl)
theorem kl_Mo_machine : Cond.selects "MachineTablesModel" y_Mo_machine y_Mo_machine ∈ BIG := inB12 _ (List.mem_of_getElem? (i := 39) rfl)
theorem kc_Mo_machine : Cond.code y_Mo_machine prog_6_method_8_code 3 (some FieldType.int) ∈ BIG := inB13 _ (List.mem_of_getElem? (i := 0) rfl)
theorem k_Mo_60 : Cond.methodLink "MachineTablesModel" 60 y_Mo_in ∈ BIG := inB13 _ (List.mem_of_getElem? (i := 1) rfl)
theorem ks_Mo_in : Cond.static y_Mo_in ∈ BIG := inB13 _ (List.mem_of_getElem? (i := 2) rfl)
theorem kc_Mo_in : Cond.code y_Mo_in prog_6_method_4_code 3 (some FieldType.boolean) ∈ BIG := inB13 _ (List.mem_of_getElem? (i := 3) rfl)
theorem k_Mo_68 : Cond.methodLink "MachineTablesModel" 68 y_Mo_newMachine ∈ BIG := inB13 _ (List.mem_of_getElem? (i := 4) rfl)
theorem ki_Mo_newMachine : Cond.instanceMethod y_Mo_newMachine ∈ BIG := inB13 _ (List.mem_of_getElem? (i := 5) rfl)
theorem kc_Mo_newMachine : Cond.code y_Mo_newMachine prog_6_method_7_code 5 (some FieldType.int) ∈ BIG := inB13 _ (List.mem_of_getElem? (i := 6) rfl)
theorem k_La_42 : Cond.methodLink "MachineTablesLaw" 42 y_Mo_arrow ∈ BIG := inB13 _ (List.mem_of_getElem? (i := 7) rfl)
theorem ki_Mo_arrow : Cond.instanceMethod y_Mo_arrow ∈ BIG := inB13 _ (List.mem_of_getElem? (i := 8) rfl)
theorem kl_Mo_arrow : Cond.selects "MachineTablesModel" y_Mo_arrow y_Mo_arrow ∈ BIG := inB13 _ (List.mem_of_getElem? (i := 9) rfl)
theorem kc_Mo_arrow : Cond.code y_Mo_arrow prog_6_method_9_code 6 (some FieldType.boolean) ∈ BIG := inB13 _ (List.mem_of_getElem? (i := 10) rfl)
theorem k_Mo_72 : Cond.methodLink "MachineTablesModel" 72 y_Mo_isState ∈ BIG := inB13 _ (List.mem_of_getElem? (i := 11) rfl)
theorem ki_Mo_isState : Cond.instanceMethod y_Mo_isState ∈ BIG := inB13 _ (List.mem_of_getElem? (i := 12) rfl)
theorem kc_Mo_isState : Cond.code y_Mo_isState prog_6_method_6_code 3 (some FieldType.boolean) ∈ BIG := inB13 _ (List.mem_of_getElem? (i := 13) rfl)
theorem k_Mo_64 : Cond.methodLink "MachineTablesModel" 64 y_Mo_isMachine ∈ BIG := inB13 _ (List.mem_of_getElem? (i := 14) rfl)
theorem ki_Mo_isMachine : Cond.instanceMethod y_Mo_isMachine ∈ BIG := inB13 _ (List.mem_of_getElem? (i := 15) rfl)
theorem kc_Mo_isMachine : Cond.code y_Mo_isMachine prog_6_method_5_code 2 (some FieldType.boolean) ∈ BIG := inB13 _ (List.mem_of_getElem? (i := 16) rfl)
theorem k_La_47 : Cond.methodLink "MachineTablesLaw" 47 y_Mo_look ∈ BIG := inB13 _ (List.mem_of_getElem? (i := 17) rfl)
theorem ki_Mo_look : Cond.instanceMethod y_Mo_look ∈ BIG := inB13 _ (List.mem_of_getElem? (i := 18) rfl)
theorem kl_Mo_look : Cond.selects "MachineTablesModel" y_Mo_look y_Mo_look ∈ BIG := inB13 _ (List.mem_of_getElem? (i := 19) rfl)
theorem kc_Mo_look : Cond.code y_Mo_look prog_6_method_10_code 5 (some FieldType.int) ∈ BIG := inB13 _ (List.mem_of_getElem? (i := 20) rfl)
theorem k_La_51 : Cond.methodLink "MachineTablesLaw" 51 y_Mo_classes ∈ BIG := inB13 _ (List.mem_of_getElem? (i := 21) rfl)
theorem ki_Mo_classes : Cond.instanceMethod y_Mo_classes ∈ BIG := inB13 _ (List.mem_of_getElem? (i := 22) rfl)
theorem kl_Mo_classes : Cond.selects "MachineTablesModel" y_Mo_classes y_Mo_classes ∈ BIG := inB13 _ (List.mem_of_getElem? (i := 23) rfl)
theorem kc_Mo_classes : Cond.code y_Mo_classes prog_6_method_14_code 4 (some FieldType.int) ∈ BIG := inB13 _ (List.mem_of_getElem? (i := 24) rfl)
theorem k_Mo_79 : Cond.methodLink "MachineTablesModel" 79 y_Mo_mark ∈ BIG := inB13 _ (List.mem_of_getElem? (i := 25) rfl)
theorem ki_Mo_mark : Cond.instanceMethod y_Mo_mark ∈ BIG := inB13 _ (List.mem_of_getElem? (i := 26) rfl)
theorem kc_Mo_mark : Cond.code y_Mo_mark prog_6_method_12_code 5 (Option.none : Option Jvm.ClassFile.FieldType) ∈ BIG := inB13 _ (List.mem_of_getElem? (i := 27) rfl)
theorem k_Mo_76 : Cond.methodLink "MachineTablesModel" 76 y_Mo_isApart ∈ BIG := inB13 _ (List.mem_of_getElem? (i := 28) rfl)
theorem ki_Mo_isApart : Cond.instanceMethod y_Mo_isApart ∈ BIG := inB13 _ (List.mem_of_getElem? (i := 29) rfl)
theorem kc_Mo_isApart : Cond.code y_Mo_isApart prog_6_method_11_code 7 (some FieldType.boolean) ∈ BIG := inB13 _ (List.mem_of_getElem? (i := 30) rfl)
theorem k_Mo_83 : Cond.methodLink "MachineTablesModel" 83 y_Mo_firstLike ∈ BIG := inB13 _ (List.mem_of_getElem? (i := 31) rfl)
theorem ki_Mo_firstLike : Cond.instanceMethod y_Mo_firstLike ∈ BIG := inB13 _ (List.mem_of_getElem? (i := 32) rfl)
theorem kc_Mo_firstLike : Cond.code y_Mo_firstLike prog_6_method_13_code 3 (some FieldType.int) ∈ BIG := inB13 _ (List.mem_of_getElem? (i := 33) rfl)
theorem k_La_55 : Cond.methodLink "MachineTablesLaw" 55 y_Mo_like ∈ BIG := inB13 _ (List.mem_of_getElem? (i := 34) rfl)
theorem ki_Mo_like : Cond.instanceMethod y_Mo_like ∈ BIG := inB13 _ (List.mem_of_getElem? (i := 35) rfl)
theorem kl_Mo_like : Cond.selects "MachineTablesModel" y_Mo_like y_Mo_like ∈ BIG := inB13 _ (List.mem_of_getElem? (i := 36) rfl)
theorem kc_Mo_like : Cond.code y_Mo_like prog_6_method_15_code 3 (some FieldType.int) ∈ BIG := inB13 _ (List.mem_of_getElem? (i := 37) rfl)
theorem k_La_61 : Cond.methodLink "MachineTablesLaw" 61 y_Mo_alike ∈ BIG := inB13 _ (List.mem_of_getElem? (i := 38) rfl)
theorem ki_Mo_alike : Cond.instanceMethod y_Mo_alike ∈ BIG := inB13 _ (List.mem_of_getElem? (i := 39) rfl)
theorem kl_Mo_alike : Cond.selects "MachineTablesModel" y_Mo_alike y_Mo_alike ∈ BIG := inB14 _ (List.mem_of_getElem? (i := 0) rfl)
theorem kc_Mo_alike : Cond.code y_Mo_alike prog_6_method_19_code 9 (some FieldType.boolean) ∈ BIG := inB14 _ (List.mem_of_getElem? (i := 1) rfl)
theorem k_Mo_97 : Cond.methodLink "MachineTablesModel" 97 y_Mo_begin ∈ BIG := inB14 _ (List.mem_of_getElem? (i := 2) rfl)
theorem ki_Mo_begin : Cond.instanceMethod y_Mo_begin ∈ BIG := inB14 _ (List.mem_of_getElem? (i := 3) rfl)
theorem kc_Mo_begin : Cond.code y_Mo_begin prog_6_method_16_code 3 (Option.none : Option Jvm.ClassFile.FieldType) ∈ BIG := inB14 _ (List.mem_of_getElem? (i := 4) rfl)
theorem k_Mo_90 : Cond.methodLink "MachineTablesModel" 90 y_Mo_come ∈ BIG := inB14 _ (List.mem_of_getElem? (i := 5) rfl)
theorem ki_Mo_come : Cond.instanceMethod y_Mo_come ∈ BIG := inB14 _ (List.mem_of_getElem? (i := 6) rfl)
theorem kc_Mo_come : Cond.code y_Mo_come prog_6_method_17_code 4 (Option.none : Option Jvm.ClassFile.FieldType) ∈ BIG := inB14 _ (List.mem_of_getElem? (i := 7) rfl)
theorem k_Mo_100 : Cond.methodLink "MachineTablesModel" 100 y_Mo_tell ∈ BIG := inB14 _ (List.mem_of_getElem? (i := 8) rfl)
theorem ki_Mo_tell : Cond.instanceMethod y_Mo_tell ∈ BIG := inB14 _ (List.mem_of_getElem? (i := 9) rfl)
theorem kc_Mo_tell : Cond.code y_Mo_tell prog_6_method_18_code 5 (Option.none : Option Jvm.ClassFile.FieldType) ∈ BIG := inB14 _ (List.mem_of_getElem? (i := 10) rfl)
theorem k_La_69 : Cond.methodLink "MachineTablesLaw" 69 y_Mo_least ∈ BIG := inB14 _ (List.mem_of_getElem? (i := 11) rfl)
theorem ki_Mo_least : Cond.instanceMethod y_Mo_least ∈ BIG := inB14 _ (List.mem_of_getElem? (i := 12) rfl)
theorem kl_Mo_least : Cond.selects "MachineTablesModel" y_Mo_least y_Mo_least ∈ BIG := inB14 _ (List.mem_of_getElem? (i := 13) rfl)
theorem kc_Mo_least : Cond.code y_Mo_least prog_6_method_22_code 5 (some FieldType.int) ∈ BIG := inB14 _ (List.mem_of_getElem? (i := 14) rfl)
theorem k_Mo_104 : Cond.methodLink "MachineTablesModel" 104 y_Mo_findParts ∈ BIG := inB14 _ (List.mem_of_getElem? (i := 15) rfl)
theorem ki_Mo_findParts : Cond.instanceMethod y_Mo_findParts ∈ BIG := inB14 _ (List.mem_of_getElem? (i := 16) rfl)
theorem kc_Mo_findParts : Cond.code y_Mo_findParts prog_6_method_20_code 4 (Option.none : Option Jvm.ClassFile.FieldType) ∈ BIG := inB14 _ (List.mem_of_getElem? (i := 17) rfl)
theorem k_Mo_107 : Cond.methodLink "MachineTablesModel" 107 y_Mo_partOf ∈ BIG := inB14 _ (List.mem_of_getElem? (i := 18) rfl)
theorem ki_Mo_partOf : Cond.instanceMethod y_Mo_partOf ∈ BIG := inB14 _ (List.mem_of_getElem? (i := 19) rfl)
theorem kc_Mo_partOf : Cond.code y_Mo_partOf prog_6_method_21_code 4 (some FieldType.int) ∈ BIG := inB14 _ (List.mem_of_getElem? (i := 20) rfl)
theorem k_La_73 : Cond.methodLink "MachineTablesLaw" 73 y_Mo_part ∈ BIG := inB14 _ (List.mem_of_getElem? (i := 21) rfl)
theorem ki_Mo_part : Cond.instanceMethod y_Mo_part ∈ BIG := inB14 _ (List.mem_of_getElem? (i := 22) rfl)
theorem kl_Mo_part : Cond.selects "MachineTablesModel" y_Mo_part y_Mo_part ∈ BIG := inB14 _ (List.mem_of_getElem? (i := 23) rfl)
theorem kc_Mo_part : Cond.code y_Mo_part prog_6_method_23_code 3 (some FieldType.int) ∈ BIG := inB14 _ (List.mem_of_getElem? (i := 24) rfl)
theorem k_La_77 : Cond.methodLink "MachineTablesLaw" 77 y_Mo_reset ∈ BIG := inB14 _ (List.mem_of_getElem? (i := 25) rfl)
theorem ki_Mo_reset : Cond.instanceMethod y_Mo_reset ∈ BIG := inB14 _ (List.mem_of_getElem? (i := 26) rfl)
theorem kl_Mo_reset : Cond.selects "MachineTablesModel" y_Mo_reset y_Mo_reset ∈ BIG := inB14 _ (List.mem_of_getElem? (i := 27) rfl)
theorem kc_Mo_reset : Cond.code y_Mo_reset prog_6_method_26_code 4 (some FieldType.int) ∈ BIG := inB14 _ (List.mem_of_getElem? (i := 28) rfl)
theorem k_Mo_110 : Cond.methodLink "MachineTablesModel" 110 y_Mo_ones ∈ BIG := inB14 _ (List.mem_of_getElem? (i := 29) rfl)
theorem ks_Mo_ones : Cond.static y_Mo_ones ∈ BIG := inB14 _ (List.mem_of_getElem? (i := 30) rfl)
theorem kc_Mo_ones : Cond.code y_Mo_ones prog_6_method_24_code 3 (some FieldType.int) ∈ BIG := inB14 _ (List.mem_of_getElem? (i := 31) rfl)
theorem k_Mo_113 : Cond.methodLink "MachineTablesModel" 113 y_Mo_moved ∈ BIG := inB14 _ (List.mem_of_getElem? (i := 32) rfl)
theorem ki_Mo_moved : Cond.instanceMethod y_Mo_moved ∈ BIG := inB14 _ (List.mem_of_getElem? (i := 33) rfl)
theorem kc_Mo_moved : Cond.code y_Mo_moved prog_6_method_25_code 6 (some FieldType.int) ∈ BIG := inB14 _ (List.mem_of_getElem? (i := 34) rfl)
theorem k_La_81 : Cond.methodLink "MachineTablesLaw" 81 y_Mo_home ∈ BIG := inB14 _ (List.mem_of_getElem? (i := 35) rfl)
theorem ki_Mo_home : Cond.instanceMethod y_Mo_home ∈ BIG := inB14 _ (List.mem_of_getElem? (i := 36) rfl)
theorem kl_Mo_home : Cond.selects "MachineTablesModel" y_Mo_home y_Mo_home ∈ BIG := inB14 _ (List.mem_of_getElem? (i := 37) rfl)
theorem kc_Mo_home : Cond.code y_Mo_home prog_6_method_32_code 5 (some FieldType.int) ∈ BIG := inB14 _ (List.mem_of_getElem? (i := 38) rfl)
theorem k_Mo_117 : Cond.methodLink "MachineTablesModel" 117 y_Mo_put ∈ BIG := inB14 _ (List.mem_of_getElem? (i := 39) rfl)
theorem ki_Mo_put : Cond.instanceMethod y_Mo_put ∈ BIG := inB15 _ (List.mem_of_getElem? (i := 0) rfl)
theorem kc_Mo_put : Cond.code y_Mo_put prog_6_method_27_code 6 (Option.none : Option Jvm.ClassFile.FieldType) ∈ BIG := inB15 _ (List.mem_of_getElem? (i := 1) rfl)
theorem k_Mo_120 : Cond.methodLink "MachineTablesModel" 120 y_Mo_isHome ∈ BIG := inB15 _ (List.mem_of_getElem? (i := 2) rfl)
theorem ki_Mo_isHome : Cond.instanceMethod y_Mo_isHome ∈ BIG := inB15 _ (List.mem_of_getElem? (i := 3) rfl)
theorem kc_Mo_isHome : Cond.code y_Mo_isHome prog_6_method_29_code 3 (some FieldType.boolean) ∈ BIG := inB15 _ (List.mem_of_getElem? (i := 4) rfl)
theorem k_Mo_123 : Cond.methodLink "MachineTablesModel" 123 y_Mo_told ∈ BIG := inB15 _ (List.mem_of_getElem? (i := 5) rfl)
theorem ki_Mo_told : Cond.instanceMethod y_Mo_told ∈ BIG := inB15 _ (List.mem_of_getElem? (i := 6) rfl)
theorem kc_Mo_told : Cond.code y_Mo_told prog_6_method_31_code 4 (some FieldType.int) ∈ BIG := inB15 _ (List.mem_of_getElem? (i := 7) rfl)
theorem k_Mo_129 : Cond.methodLink "MachineTablesModel" 129 y_Mo_lead ∈ BIG := inB15 _ (List.mem_of_getElem? (i := 8) rfl)
theorem ki_Mo_lead : Cond.instanceMethod y_Mo_lead ∈ BIG := inB15 _ (List.mem_of_getElem? (i := 9) rfl)
theorem kc_Mo_lead : Cond.code y_Mo_lead prog_6_method_28_code 10 (Option.none : Option Jvm.ClassFile.FieldType) ∈ BIG := inB15 _ (List.mem_of_getElem? (i := 10) rfl)
theorem k_Mo_133 : Cond.methodLink "MachineTablesModel" 133 y_Mo_isTried ∈ BIG := inB15 _ (List.mem_of_getElem? (i := 11) rfl)
theorem ki_Mo_isTried : Cond.instanceMethod y_Mo_isTried ∈ BIG := inB15 _ (List.mem_of_getElem? (i := 12) rfl)
theorem kc_Mo_isTried : Cond.code y_Mo_isTried prog_6_method_30_code 5 (some FieldType.boolean) ∈ BIG := inB15 _ (List.mem_of_getElem? (i := 13) rfl)
theorem k_Mo_136 : Cond.methodLink "MachineTablesModel" 136 y_Mo_raise ∈ BIG := inB15 _ (List.mem_of_getElem? (i := 14) rfl)
theorem ki_Mo_raise : Cond.instanceMethod y_Mo_raise ∈ BIG := inB15 _ (List.mem_of_getElem? (i := 15) rfl)
theorem kc_Mo_raise : Cond.code y_Mo_raise prog_6_method_3_code 1 (some FieldType.int) ∈ BIG := inB15 _ (List.mem_of_getElem? (i := 16) rfl)
theorem k_La_85 : Cond.methodLink "MachineTablesLaw" 85 y_Mo_chain ∈ BIG := inB15 _ (List.mem_of_getElem? (i := 17) rfl)
theorem ki_Mo_chain : Cond.instanceMethod y_Mo_chain ∈ BIG := inB15 _ (List.mem_of_getElem? (i := 18) rfl)
theorem kl_Mo_chain : Cond.selects "MachineTablesModel" y_Mo_chain y_Mo_chain ∈ BIG := inB15 _ (List.mem_of_getElem? (i := 19) rfl)
theorem kc_Mo_chain : Cond.code y_Mo_chain prog_6_method_35_code 8 (some FieldType.int) ∈ BIG := inB15 _ (List.mem_of_getElem? (i := 20) rfl)
theorem k_Mo_140 : Cond.methodLink "MachineTablesModel" 140 y_Mo_chains ∈ BIG := inB15 _ (List.mem_of_getElem? (i := 21) rfl)
theorem ki_Mo_chains : Cond.instanceMethod y_Mo_chains ∈ BIG := inB15 _ (List.mem_of_getElem? (i := 22) rfl)
theorem kc_Mo_chains : Cond.code y_Mo_chains prog_6_method_33_code 6 (some FieldType.boolean) ∈ BIG := inB15 _ (List.mem_of_getElem? (i := 23) rfl)
theorem k_Mo_143 : Cond.methodLink "MachineTablesModel" 143 y_Mo_placeOf ∈ BIG := inB15 _ (List.mem_of_getElem? (i := 24) rfl)
theorem ki_Mo_placeOf : Cond.instanceMethod y_Mo_placeOf ∈ BIG := inB15 _ (List.mem_of_getElem? (i := 25) rfl)
theorem kc_Mo_placeOf : Cond.code y_Mo_placeOf prog_6_method_34_code 3 (some FieldType.int) ∈ BIG := inB15 _ (List.mem_of_getElem? (i := 26) rfl)
theorem k_La_88 : Cond.methodLink "MachineTablesLaw" 88 y_Mo_letter ∈ BIG := inB15 _ (List.mem_of_getElem? (i := 27) rfl)
theorem ki_Mo_letter : Cond.instanceMethod y_Mo_letter ∈ BIG := inB15 _ (List.mem_of_getElem? (i := 28) rfl)
theorem kl_Mo_letter : Cond.selects "MachineTablesModel" y_Mo_letter y_Mo_letter ∈ BIG := inB15 _ (List.mem_of_getElem? (i := 29) rfl)
theorem kc_Mo_letter : Cond.code y_Mo_letter prog_6_method_36_code 2 (some FieldType.int) ∈ BIG := inB15 _ (List.mem_of_getElem? (i := 30) rfl)
theorem k_La_92 : Cond.methodLink "MachineTablesLaw" 92 y_Mo_along ∈ BIG := inB15 _ (List.mem_of_getElem? (i := 31) rfl)
theorem ki_Mo_along : Cond.instanceMethod y_Mo_along ∈ BIG := inB15 _ (List.mem_of_getElem? (i := 32) rfl)
theorem kl_Mo_along : Cond.selects "MachineTablesModel" y_Mo_along y_Mo_along ∈ BIG := inB15 _ (List.mem_of_getElem? (i := 33) rfl)
theorem kc_Mo_along : Cond.code y_Mo_along prog_6_method_37_code 5 (some FieldType.int) ∈ BIG := inB15 _ (List.mem_of_getElem? (i := 34) rfl)
theorem k_La_96 : Cond.methodLink "MachineTablesLaw" 96 y_Mo_clear ∈ BIG := inB15 _ (List.mem_of_getElem? (i := 35) rfl)
theorem ki_Mo_clear : Cond.instanceMethod y_Mo_clear ∈ BIG := inB15 _ (List.mem_of_getElem? (i := 36) rfl)
theorem kl_Mo_clear : Cond.selects "MachineTablesModel" y_Mo_clear y_Mo_clear ∈ BIG := inB15 _ (List.mem_of_getElem? (i := 37) rfl)
theorem kc_Mo_clear : Cond.code y_Mo_clear prog_6_method_38_code 1 (Option.none : Option Jvm.ClassFile.FieldType) ∈ BIG := inB15 _ (List.mem_of_getElem? (i := 38) rfl)
theorem k_La_100 : Cond.methodLink "MachineTablesLaw" 100 y_Mo_total ∈ BIG := inB15 _ (List.mem_of_getElem? (i := 39) rfl)
theorem ki_Mo_total : Cond.instanceMethod y_Mo_total ∈ BIG := inB16 _ (List.mem_of_getElem? (i := 0) rfl)
theorem kl_Mo_total : Cond.selects "MachineTablesModel" y_Mo_total y_Mo_total ∈ BIG := inB16 _ (List.mem_of_getElem? (i := 1) rfl)
theorem kc_Mo_total : Cond.code y_Mo_total prog_6_method_39_code 2 (some FieldType.int) ∈ BIG := inB16 _ (List.mem_of_getElem? (i := 2) rfl)
theorem ka_long : Cond.arrayClass FieldType.long ∈ BIG := inB16 _ (List.mem_of_getElem? (i := 3) rfl)
theorem kl_MT_isFull : Cond.selects "MachineTables" y_MT_isFull y_MT_isFull ∈ BIG := inB16 _ (List.mem_of_getElem? (i := 5) rfl)
theorem kl_MT_add : Cond.selects "MachineTables" y_MT_add y_MT_add ∈ BIG := inB16 _ (List.mem_of_getElem? (i := 6) rfl)
theorem kl_MT_find : Cond.selects "MachineTables" y_MT_find y_MT_find ∈ BIG := inB16 _ (List.mem_of_getElem? (i := 7) rfl)
theorem kl_XT_fillInStackTrace : Cond.selects "java/lang/Throwable" y_XT_fillInStackTrace y_XT_fillInStackTrace ∈ BIG := inB16 _ (List.mem_of_getElem? (i := 8) rfl)
theorem kl_Ma_splitSets : Cond.selects "MachineTables$Machine" y_Ma_splitSets y_Ma_splitSets ∈ BIG := inB16 _ (List.mem_of_getElem? (i := 9) rfl)
theorem kl_Ma_leastThatAgrees : Cond.selects "MachineTables$Machine" y_Ma_leastThatAgrees y_Ma_leastThatAgrees ∈ BIG := inB16 _ (List.mem_of_getElem? (i := 10) rfl)
theorem kl_Ma_isAgreed : Cond.selects "MachineTables$Machine" y_Ma_isAgreed y_Ma_isAgreed ∈ BIG := inB16 _ (List.mem_of_getElem? (i := 11) rfl)
theorem kl_MT_numberSets : Cond.selects "MachineTables" y_MT_numberSets y_MT_numberSets ∈ BIG := inB16 _ (List.mem_of_getElem? (i := 12) rfl)
theorem kl_MT_findSmall : Cond.selects "MachineTables" y_MT_findSmall y_MT_findSmall ∈ BIG := inB16 _ (List.mem_of_getElem? (i := 13) rfl)
theorem kl_MT_seekReset : Cond.selects "MachineTables" y_MT_seekReset y_MT_seekReset ∈ BIG := inB16 _ (List.mem_of_getElem? (i := 14) rfl)
theorem kl_MT_tell : Cond.selects "MachineTables" y_MT_tell y_MT_tell ∈ BIG := inB16 _ (List.mem_of_getElem? (i := 15) rfl)
theorem kl_MT_seekWitness : Cond.selects "MachineTables" y_MT_seekWitness y_MT_seekWitness ∈ BIG := inB16 _ (List.mem_of_getElem? (i := 16) rfl)
theorem kl_MT_seekHomed : Cond.selects "MachineTables" y_MT_seekHomed y_MT_seekHomed ∈ BIG := inB16 _ (List.mem_of_getElem? (i := 17) rfl)
theorem kl_Fa_put : Cond.selects "MachineTables$Families" y_Fa_put y_Fa_put ∈ BIG := inB16 _ (List.mem_of_getElem? (i := 18) rfl)
theorem kl_Fa_liesInOne : Cond.selects "MachineTables$Families" y_Fa_liesInOne y_Fa_liesInOne ∈ BIG := inB16 _ (List.mem_of_getElem? (i := 19) rfl)
theorem kl_Fa_leaveOutThoseIn : Cond.selects "MachineTables$Families" y_Fa_leaveOutThoseIn y_Fa_leaveOutThoseIn ∈ BIG := inB16 _ (List.mem_of_getElem? (i := 20) rfl)
theorem kl_Fa_putParted : Cond.selects "MachineTables$Families" y_Fa_putParted y_Fa_putParted ∈ BIG := inB16 _ (List.mem_of_getElem? (i := 21) rfl)
theorem kl_Fa_openOneIs : Cond.selects "MachineTables$Families" y_Fa_openOneIs y_Fa_openOneIs ∈ BIG := inB16 _ (List.mem_of_getElem? (i := 22) rfl)
theorem kl_MT_numberPairs : Cond.selects "MachineTables" y_MT_numberPairs y_MT_numberPairs ∈ BIG := inB16 _ (List.mem_of_getElem? (i := 23) rfl)
theorem kl_Mo_newMachine : Cond.selects "MachineTablesModel" y_Mo_newMachine y_Mo_newMachine ∈ BIG := inB16 _ (List.mem_of_getElem? (i := 24) rfl)
theorem kl_Mo_isState : Cond.selects "MachineTablesModel" y_Mo_isState y_Mo_isState ∈ BIG := inB16 _ (List.mem_of_getElem? (i := 25) rfl)
theorem kl_Mo_isMachine : Cond.selects "MachineTablesModel" y_Mo_isMachine y_Mo_isMachine ∈ BIG := inB16 _ (List.mem_of_getElem? (i := 26) rfl)
theorem kl_Mo_mark : Cond.selects "MachineTablesModel" y_Mo_mark y_Mo_mark ∈ BIG := inB16 _ (List.mem_of_getElem? (i := 27) rfl)
theorem kl_Mo_isApart : Cond.selects "MachineTablesModel" y_Mo_isApart y_Mo_isApart ∈ BIG := inB16 _ (List.mem_of_getElem? (i := 28) rfl)
theorem kl_Mo_firstLike : Cond.selects "MachineTablesModel" y_Mo_firstLike y_Mo_firstLike ∈ BIG := inB16 _ (List.mem_of_getElem? (i := 29) rfl)
theorem kl_Mo_begin : Cond.selects "MachineTablesModel" y_Mo_begin y_Mo_begin ∈ BIG := inB16 _ (List.mem_of_getElem? (i := 30) rfl)
theorem kl_Mo_come : Cond.selects "MachineTablesModel" y_Mo_come y_Mo_come ∈ BIG := inB16 _ (List.mem_of_getElem? (i := 31) rfl)
theorem kl_Mo_tell : Cond.selects "MachineTablesModel" y_Mo_tell y_Mo_tell ∈ BIG := inB16 _ (List.mem_of_getElem? (i := 32) rfl)
theorem kl_Mo_findParts : Cond.selects "MachineTablesModel" y_Mo_findParts y_Mo_findParts ∈ BIG := inB16 _ (List.mem_of_getElem? (i := 33) rfl)
theorem kl_Mo_partOf : Cond.selects "MachineTablesModel" y_Mo_partOf y_Mo_partOf ∈ BIG := inB16 _ (List.mem_of_getElem? (i := 34) rfl)
theorem kl_Mo_moved : Cond.selects "MachineTablesModel" y_Mo_moved y_Mo_moved ∈ BIG := inB16 _ (List.mem_of_getElem? (i := 35) rfl)
theorem kl_Mo_put : Cond.selects "MachineTablesModel" y_Mo_put y_Mo_put ∈ BIG := inB16 _ (List.mem_of_getElem? (i := 36) rfl)
theorem kl_Mo_isHome : Cond.selects "MachineTablesModel" y_Mo_isHome y_Mo_isHome ∈ BIG := inB16 _ (List.mem_of_getElem? (i := 37) rfl)
theorem kl_Mo_told : Cond.selects "MachineTablesModel" y_Mo_told y_Mo_told ∈ BIG := inB16 _ (List.mem_of_getElem? (i := 38) rfl)
theorem kl_Mo_lead : Cond.selects "MachineTablesModel" y_Mo_lead y_Mo_lead ∈ BIG := inB16 _ (List.mem_of_getElem? (i := 39) rfl)
theorem kl_Mo_isTried : Cond.selects "MachineTablesModel" y_Mo_isTried y_Mo_isTried ∈ BIG := inB17 _ (List.mem_of_getElem? (i := 0) rfl)
theorem kl_Mo_raise : Cond.selects "MachineTablesModel" y_Mo_raise y_Mo_raise ∈ BIG := inB17 _ (List.mem_of_getElem? (i := 1) rfl)
theorem kl_Mo_chains : Cond.selects "MachineTablesModel" y_Mo_chains y_Mo_chains ∈ BIG := inB17 _ (List.mem_of_getElem? (i := 2) rfl)
theorem kl_Mo_placeOf : Cond.selects "MachineTablesModel" y_Mo_placeOf y_Mo_placeOf ∈ BIG := inB17 _ (List.mem_of_getElem? (i := 3) rfl)
theorem uw_Fa : ∀ w ∈ u_ws R_Fa T_Fa 4, w ∈ BIG := by decide +kernel
theorem uw_Ma : ∀ w ∈ u_ws R_Ma T_Ma 7, w ∈ BIG := by decide +kernel
theorem uw_Se : ∀ w ∈ u_ws R_Se T_Se 4, w ∈ BIG := by decide +kernel
theorem uw_MT : ∀ w ∈ u_ws R_MT T_MT 5, w ∈ BIG := by decide +kernel
theorem uw_Mo : ∀ w ∈ u_ws R_Mo T_Mo 19, w ∈ BIG := by decide +kernel
theorem uw_XI : ∀ w ∈ u_ws R_XI T_XI 6, w ∈ BIG := by decide +kernel
theorem uw_XA : ∀ w ∈ u_ws R_XA T_XA 6, w ∈ BIG := by decide +kernel
theorem uw_XN : ∀ w ∈ u_ws R_XN T_XN 6, w ∈ BIG := by decide +kernel
end
section
theorem d_Ar_fill2_0 : decode b_Ar_fill2 0 = .ok (.iconst 0, 1) := by decide +kernel
theorem d_Ar_fill2_1 : decode b_Ar_fill2 1 = .ok (.istore_n 2, 1) := by decide +kernel
theorem d_Ar_fill2_2 : decode b_Ar_fill2 2 = .ok (.aload_n 0, 1) := by decide +kernel
theorem d_Ar_fill2_3 : decode b_Ar_fill2 3 = .ok (.arraylength, 1) := by decide +kernel
theorem d_Ar_fill2_4 : decode b_Ar_fill2 4 = .ok (.istore_n 3, 1) := by decide +kernel
theorem d_Ar_fill2_5 : decode b_Ar_fill2 5 = .ok (.iload_n 2, 1) := by decide +kernel
theorem d_Ar_fill2_6 : decode b_Ar_fill2 6 = .ok (.iload_n 3, 1) := by decide +kernel
theorem d_Ar_fill2_7 : decode b_Ar_fill2 7 = .ok (.if_icmp .ge (13), 3) := by decide +kernel
theorem d_Ar_fill2_10 : decode b_Ar_fill2 10 = .ok (.aload_n 0, 1) := by decide +kernel
theorem d_Ar_fill2_11 : decode b_Ar_fill2 11 = .ok (.iload_n 2, 1) := by decide +kernel
theorem d_Ar_fill2_12 : decode b_Ar_fill2 12 = .ok (.iload_n 1, 1) := by decide +kernel
theorem d_Ar_fill2_13 : decode b_Ar_fill2 13 = .ok (.iastore, 1) := by decide +kernel
theorem d_Ar_fill2_14 : decode b_Ar_fill2 14 = .ok (.iinc 2 (1), 3) := by decide +kernel
theorem d_Ar_fill2_17 : decode b_Ar_fill2 17 = .ok (.goto (-12), 3) := by decide +kernel
theorem d_Ar_fill2_20 : decode b_Ar_fill2 20 = .ok (.return_, 1) := by decide +kernel
theorem d_Ar_fill_0 : decode b_Ar_fill 0 = .ok (.aload_n 0, 1) := by decide +kernel
theorem d_Ar_fill_1 : decode b_Ar_fill 1 = .ok (.arraylength, 1) := by decide +kernel
theorem d_Ar_fill_2 : decode b_Ar_fill 2 = .ok (.iload_n 1, 1) := by decide +kernel
theorem d_Ar_fill_3 : decode b_Ar_fill 3 = .ok (.iload_n 2, 1) := by decide +kernel
theorem d_Ar_fill_4 : decode b_Ar_fill 4 = .ok (.invokestatic 13, 3) := by decide +kernel
theorem d_Ar_fill_7 : decode b_Ar_fill 7 = .ok (.iload_n 1, 1) := by decide +kernel
theorem d_Ar_fill_8 : decode b_Ar_fill 8 = .ok (.istore 4, 2) := by decide +kernel
theorem d_Ar_fill_10 : decode b_Ar_fill 10 = .ok (.iload 4, 2) := by decide +kernel
theorem d_Ar_fill_12 : decode b_Ar_fill 12 = .ok (.iload_n 2, 1) := by decide +kernel
theorem d_Ar_fill_13 : decode b_Ar_fill 13 = .ok (.if_icmp .ge (14), 3) := by decide +kernel
theorem d_Ar_fill_16 : decode b_Ar_fill 16 = .ok (.aload_n 0, 1) := by decide +kernel
theorem d_Ar_fill_17 : decode b_Ar_fill 17 = .ok (.iload 4, 2) := by decide +kernel
theorem d_Ar_fill_19 : decode b_Ar_fill 19 = .ok (.iload_n 3, 1) := by decide +kernel
theorem d_Ar_fill_20 : decode b_Ar_fill 20 = .ok (.iastore, 1) := by decide +kernel
theorem d_Ar_fill_21 : decode b_Ar_fill 21 = .ok (.iinc 4 (1), 3) := by decide +kernel
theorem d_Ar_fill_24 : decode b_Ar_fill 24 = .ok (.goto (-14), 3) := by decide +kernel
theorem d_Ar_fill_27 : decode b_Ar_fill 27 = .ok (.return_, 1) := by decide +kernel
theorem d_Ar_rangeCheck_0 : decode b_Ar_rangeCheck 0 = .ok (.iload_n 1, 1) := by decide +kernel
theorem d_Ar_rangeCheck_1 : decode b_Ar_rangeCheck 1 = .ok (.iload_n 2, 1) := by decide +kernel
theorem d_Ar_rangeCheck_2 : decode b_Ar_rangeCheck 2 = .ok (.if_icmp .le (44), 3) := by decide +kernel
theorem d_Ar_rangeCheck_5 : decode b_Ar_rangeCheck 5 = .ok (.new 43, 3) := by decide +kernel
theorem d_Ar_rangeCheck_8 : decode b_Ar_rangeCheck 8 = .ok (.dup, 1) := by decide +kernel
theorem d_Ar_rangeCheck_9 : decode b_Ar_rangeCheck 9 = .ok (.new 45, 3) := by decide +kernel
theorem d_Ar_rangeCheck_12 : decode b_Ar_rangeCheck 12 = .ok (.dup, 1) := by decide +kernel
theorem d_Ar_rangeCheck_13 : decode b_Ar_rangeCheck 13 = .ok (.invokespecial 47, 3) := by decide +kernel
theorem d_Ar_rangeCheck_16 : decode b_Ar_rangeCheck 16 = .ok (.ldc 48, 2) := by decide +kernel
theorem d_Ar_rangeCheck_18 : decode b_Ar_rangeCheck 18 = .ok (.invokevirtual 50, 3) := by decide +kernel
theorem d_Ar_rangeCheck_21 : decode b_Ar_rangeCheck 21 = .ok (.iload_n 1, 1) := by decide +kernel
theorem d_Ar_rangeCheck_22 : decode b_Ar_rangeCheck 22 = .ok (.invokevirtual 54, 3) := by decide +kernel
theorem d_Ar_rangeCheck_25 : decode b_Ar_rangeCheck 25 = .ok (.ldc 57, 2) := by decide +kernel
theorem d_Ar_rangeCheck_27 : decode b_Ar_rangeCheck 27 = .ok (.invokevirtual 50, 3) := by decide +kernel
theorem d_Ar_rangeCheck_30 : decode b_Ar_rangeCheck 30 = .ok (.iload_n 2, 1) := by decide +kernel
theorem d_Ar_rangeCheck_31 : decode b_Ar_rangeCheck 31 = .ok (.invokevirtual 54, 3) := by decide +kernel
theorem d_Ar_rangeCheck_34 : decode b_Ar_rangeCheck 34 = .ok (.ldc 59, 2) := by decide +kernel
theorem d_Ar_rangeCheck_36 : decode b_Ar_rangeCheck 36 = .ok (.invokevirtual 50, 3) := by decide +kernel
theorem d_Ar_rangeCheck_39 : decode b_Ar_rangeCheck 39 = .ok (.invokevirtual 61, 3) := by decide +kernel
theorem d_Ar_rangeCheck_42 : decode b_Ar_rangeCheck 42 = .ok (.invokespecial 65, 3) := by decide +kernel
theorem d_Ar_rangeCheck_45 : decode b_Ar_rangeCheck 45 = .ok (.athrow, 1) := by decide +kernel
theorem d_Ar_rangeCheck_46 : decode b_Ar_rangeCheck 46 = .ok (.iload_n 1, 1) := by decide +kernel
theorem d_Ar_rangeCheck_47 : decode b_Ar_rangeCheck 47 = .ok (.ifCond .ge (12), 3) := by decide +kernel
theorem d_Ar_rangeCheck_50 : decode b_Ar_rangeCheck 50 = .ok (.new 68, 3) := by decide +kernel
theorem d_Ar_rangeCheck_53 : decode b_Ar_rangeCheck 53 = .ok (.dup, 1) := by decide +kernel
theorem d_Ar_rangeCheck_54 : decode b_Ar_rangeCheck 54 = .ok (.iload_n 1, 1) := by decide +kernel
theorem d_Ar_rangeCheck_55 : decode b_Ar_rangeCheck 55 = .ok (.invokespecial 70, 3) := by decide +kernel
theorem d_Ar_rangeCheck_58 : decode b_Ar_rangeCheck 58 = .ok (.athrow, 1) := by decide +kernel
theorem d_Ar_rangeCheck_59 : decode b_Ar_rangeCheck 59 = .ok (.iload_n 2, 1) := by decide +kernel
theorem d_Ar_rangeCheck_60 : decode b_Ar_rangeCheck 60 = .ok (.iload_n 0, 1) := by decide +kernel
theorem d_Ar_rangeCheck_61 : decode b_Ar_rangeCheck 61 = .ok (.if_icmp .le (12), 3) := by decide +kernel
theorem d_Ar_rangeCheck_64 : decode b_Ar_rangeCheck 64 = .ok (.new 68, 3) := by decide +kernel
theorem d_Ar_rangeCheck_67 : decode b_Ar_rangeCheck 67 = .ok (.dup, 1) := by decide +kernel
theorem d_Ar_rangeCheck_68 : decode b_Ar_rangeCheck 68 = .ok (.iload_n 2, 1) := by decide +kernel
theorem d_Ar_rangeCheck_69 : decode b_Ar_rangeCheck 69 = .ok (.invokespecial 70, 3) := by decide +kernel
theorem d_Ar_rangeCheck_72 : decode b_Ar_rangeCheck 72 = .ok (.athrow, 1) := by decide +kernel
theorem d_Ar_rangeCheck_73 : decode b_Ar_rangeCheck 73 = .ok (.return_, 1) := by decide +kernel
end
section
theorem d_Fa_init_0 : decode b_Fa_init 0 = .ok (.aload_n 0, 1) := by decide +kernel
theorem d_Fa_init_1 : decode b_Fa_init 1 = .ok (.invokespecial 3, 3) := by decide +kernel
theorem d_Fa_init_4 : decode b_Fa_init 4 = .ok (.aload_n 0, 1) := by decide +kernel
theorem d_Fa_init_5 : decode b_Fa_init 5 = .ok (.sipush (3600), 3) := by decide +kernel
theorem d_Fa_init_8 : decode b_Fa_init 8 = .ok (.newarray .int, 2) := by decide +kernel
theorem d_Fa_init_10 : decode b_Fa_init 10 = .ok (.putfield 9, 3) := by decide +kernel
theorem d_Fa_init_13 : decode b_Fa_init 13 = .ok (.aload_n 0, 1) := by decide +kernel
theorem d_Fa_init_14 : decode b_Fa_init 14 = .ok (.sipush (300), 3) := by decide +kernel
theorem d_Fa_init_17 : decode b_Fa_init 17 = .ok (.newarray .int, 2) := by decide +kernel
theorem d_Fa_init_19 : decode b_Fa_init 19 = .ok (.putfield 15, 3) := by decide +kernel
theorem d_Fa_init_22 : decode b_Fa_init 22 = .ok (.aload_n 0, 1) := by decide +kernel
theorem d_Fa_init_23 : decode b_Fa_init 23 = .ok (.bipush (10), 2) := by decide +kernel
theorem d_Fa_init_25 : decode b_Fa_init 25 = .ok (.newarray .int, 2) := by decide +kernel
theorem d_Fa_init_27 : decode b_Fa_init 27 = .ok (.putfield 18, 3) := by decide +kernel
theorem d_Fa_init_30 : decode b_Fa_init 30 = .ok (.return_, 1) := by decide +kernel
theorem d_Fa_begin_0 : decode b_Fa_begin 0 = .ok (.aload_n 0, 1) := by decide +kernel
theorem d_Fa_begin_1 : decode b_Fa_begin 1 = .ok (.iconst 0, 1) := by decide +kernel
theorem d_Fa_begin_2 : decode b_Fa_begin 2 = .ok (.putfield 21, 3) := by decide +kernel
theorem d_Fa_begin_5 : decode b_Fa_begin 5 = .ok (.aload_n 0, 1) := by decide +kernel
theorem d_Fa_begin_6 : decode b_Fa_begin 6 = .ok (.getfield 15, 3) := by decide +kernel
theorem d_Fa_begin_9 : decode b_Fa_begin 9 = .ok (.iconst 0, 1) := by decide +kernel
theorem d_Fa_begin_10 : decode b_Fa_begin 10 = .ok (.iconst 0, 1) := by decide +kernel
theorem d_Fa_begin_11 : decode b_Fa_begin 11 = .ok (.iastore, 1) := by decide +kernel
theorem d_Fa_begin_12 : decode b_Fa_begin 12 = .ok (.iconst 0, 1) := by decide +kernel
theorem d_Fa_begin_13 : decode b_Fa_begin 13 = .ok (.istore_n 2, 1) := by decide +kernel
theorem d_Fa_begin_14 : decode b_Fa_begin 14 = .ok (.iconst 0, 1) := by decide +kernel
theorem d_Fa_begin_15 : decode b_Fa_begin 15 = .ok (.istore_n 3, 1) := by decide +kernel
theorem d_Fa_begin_16 : decode b_Fa_begin 16 = .ok (.iload_n 3, 1) := by decide +kernel
theorem d_Fa_begin_17 : decode b_Fa_begin 17 = .ok (.aload_n 1, 1) := by decide +kernel
theorem d_Fa_begin_18 : decode b_Fa_begin 18 = .ok (.getfield 25, 3) := by decide +kernel
theorem d_Fa_begin_21 : decode b_Fa_begin 21 = .ok (.if_icmp .ge (19), 3) := by decide +kernel
theorem d_Fa_begin_24 : decode b_Fa_begin 24 = .ok (.iload_n 2, 1) := by decide +kernel
theorem d_Fa_begin_25 : decode b_Fa_begin 25 = .ok (.iconst 1, 1) := by decide +kernel
theorem d_Fa_begin_26 : decode b_Fa_begin 26 = .ok (.aload_n 1, 1) := by decide +kernel
theorem d_Fa_begin_27 : decode b_Fa_begin 27 = .ok (.iload_n 3, 1) := by decide +kernel
theorem d_Fa_begin_28 : decode b_Fa_begin 28 = .ok (.invokevirtual 30, 3) := by decide +kernel
theorem d_Fa_begin_31 : decode b_Fa_begin 31 = .ok (.ishl, 1) := by decide +kernel
theorem d_Fa_begin_32 : decode b_Fa_begin 32 = .ok (.ior, 1) := by decide +kernel
theorem d_Fa_begin_33 : decode b_Fa_begin 33 = .ok (.istore_n 2, 1) := by decide +kernel
theorem d_Fa_begin_34 : decode b_Fa_begin 34 = .ok (.iinc 3 (1), 3) := by decide +kernel
theorem d_Fa_begin_37 : decode b_Fa_begin 37 = .ok (.goto (-21), 3) := by decide +kernel
theorem d_Fa_begin_40 : decode b_Fa_begin 40 = .ok (.aload_n 0, 1) := by decide +kernel
theorem d_Fa_begin_41 : decode b_Fa_begin 41 = .ok (.iload_n 2, 1) := by decide +kernel
theorem d_Fa_begin_42 : decode b_Fa_begin 42 = .ok (.invokevirtual 34, 3) := by decide +kernel
theorem d_Fa_begin_45 : decode b_Fa_begin 45 = .ok (.return_, 1) := by decide +kernel
theorem d_Fa_keepOpenOne_0 : decode b_Fa_keepOpenOne 0 = .ok (.aload_n 0, 1) := by decide +kernel
theorem d_Fa_keepOpenOne_1 : decode b_Fa_keepOpenOne 1 = .ok (.dup, 1) := by decide +kernel
theorem d_Fa_keepOpenOne_2 : decode b_Fa_keepOpenOne 2 = .ok (.getfield 21, 3) := by decide +kernel
theorem d_Fa_keepOpenOne_5 : decode b_Fa_keepOpenOne 5 = .ok (.iconst 1, 1) := by decide +kernel
theorem d_Fa_keepOpenOne_6 : decode b_Fa_keepOpenOne 6 = .ok (.iadd, 1) := by decide +kernel
theorem d_Fa_keepOpenOne_7 : decode b_Fa_keepOpenOne 7 = .ok (.putfield 21, 3) := by decide +kernel
theorem d_Fa_keepOpenOne_10 : decode b_Fa_keepOpenOne 10 = .ok (.return_, 1) := by decide +kernel
theorem d_Fa_follow_0 : decode b_Fa_follow 0 = .ok (.aload_n 0, 1) := by decide +kernel
theorem d_Fa_follow_1 : decode b_Fa_follow 1 = .ok (.getfield 15, 3) := by decide +kernel
theorem d_Fa_follow_4 : decode b_Fa_follow 4 = .ok (.aload_n 0, 1) := by decide +kernel
theorem d_Fa_follow_5 : decode b_Fa_follow 5 = .ok (.getfield 21, 3) := by decide +kernel
theorem d_Fa_follow_8 : decode b_Fa_follow 8 = .ok (.iconst 0, 1) := by decide +kernel
theorem d_Fa_follow_9 : decode b_Fa_follow 9 = .ok (.iastore, 1) := by decide +kernel
theorem d_Fa_follow_10 : decode b_Fa_follow 10 = .ok (.iconst 0, 1) := by decide +kernel
theorem d_Fa_follow_11 : decode b_Fa_follow 11 = .ok (.istore 4, 2) := by decide +kernel
theorem d_Fa_follow_13 : decode b_Fa_follow 13 = .ok (.iload 4, 2) := by decide +kernel
theorem d_Fa_follow_15 : decode b_Fa_follow 15 = .ok (.aload_n 0, 1) := by decide +kernel
theorem d_Fa_follow_16 : decode b_Fa_follow 16 = .ok (.getfield 15, 3) := by decide +kernel
theorem d_Fa_follow_19 : decode b_Fa_follow 19 = .ok (.iload_n 2, 1) := by decide +kernel
theorem d_Fa_follow_20 : decode b_Fa_follow 20 = .ok (.iaload, 1) := by decide +kernel
theorem d_Fa_follow_21 : decode b_Fa_follow 21 = .ok (.if_icmp .ge (27), 3) := by decide +kernel
theorem d_Fa_follow_24 : decode b_Fa_follow 24 = .ok (.aload_n 0, 1) := by decide +kernel
theorem d_Fa_follow_25 : decode b_Fa_follow 25 = .ok (.aload_n 1, 1) := by decide +kernel
theorem d_Fa_follow_26 : decode b_Fa_follow 26 = .ok (.aload_n 0, 1) := by decide +kernel
theorem d_Fa_follow_27 : decode b_Fa_follow 27 = .ok (.getfield 9, 3) := by decide +kernel
theorem d_Fa_follow_30 : decode b_Fa_follow 30 = .ok (.iload_n 2, 1) := by decide +kernel
theorem d_Fa_follow_31 : decode b_Fa_follow 31 = .ok (.bipush (12), 2) := by decide +kernel
theorem d_Fa_follow_33 : decode b_Fa_follow 33 = .ok (.imul, 1) := by decide +kernel
theorem d_Fa_follow_34 : decode b_Fa_follow 34 = .ok (.iload 4, 2) := by decide +kernel
theorem d_Fa_follow_36 : decode b_Fa_follow 36 = .ok (.iadd, 1) := by decide +kernel
theorem d_Fa_follow_37 : decode b_Fa_follow 37 = .ok (.iaload, 1) := by decide +kernel
theorem d_Fa_follow_38 : decode b_Fa_follow 38 = .ok (.iload_n 3, 1) := by decide +kernel
theorem d_Fa_follow_39 : decode b_Fa_follow 39 = .ok (.invokevirtual 38, 3) := by decide +kernel
theorem d_Fa_follow_42 : decode b_Fa_follow 42 = .ok (.iinc 4 (1), 3) := by decide +kernel
theorem d_Fa_follow_45 : decode b_Fa_follow 45 = .ok (.goto (-32), 3) := by decide +kernel
theorem d_Fa_follow_48 : decode b_Fa_follow 48 = .ok (.return_, 1) := by decide +kernel
theorem d_Fa_putParted_0 : decode b_Fa_putParted 0 = .ok (.aload_n 0, 1) := by decide +kernel
theorem d_Fa_putParted_1 : decode b_Fa_putParted 1 = .ok (.getfield 18, 3) := by decide +kernel
theorem d_Fa_putParted_4 : decode b_Fa_putParted 4 = .ok (.iconst 0, 1) := by decide +kernel
theorem d_Fa_putParted_5 : decode b_Fa_putParted 5 = .ok (.invokestatic 42, 3) := by decide +kernel
theorem d_Fa_putParted_8 : decode b_Fa_putParted 8 = .ok (.iconst 0, 1) := by decide +kernel
theorem d_Fa_putParted_9 : decode b_Fa_putParted 9 = .ok (.istore 4, 2) := by decide +kernel
theorem d_Fa_putParted_11 : decode b_Fa_putParted 11 = .ok (.iload 4, 2) := by decide +kernel
theorem d_Fa_putParted_13 : decode b_Fa_putParted 13 = .ok (.aload_n 1, 1) := by decide +kernel
theorem d_Fa_putParted_14 : decode b_Fa_putParted 14 = .ok (.getfield 25, 3) := by decide +kernel
theorem d_Fa_putParted_17 : decode b_Fa_putParted 17 = .ok (.if_icmp .ge (46), 3) := by decide +kernel
theorem d_Fa_putParted_20 : decode b_Fa_putParted 20 = .ok (.iload_n 2, 1) := by decide +kernel
theorem d_Fa_putParted_21 : decode b_Fa_putParted 21 = .ok (.iload 4, 2) := by decide +kernel
theorem d_Fa_putParted_23 : decode b_Fa_putParted 23 = .ok (.ishr, 1) := by decide +kernel
theorem d_Fa_putParted_24 : decode b_Fa_putParted 24 = .ok (.iconst 1, 1) := by decide +kernel
theorem d_Fa_putParted_25 : decode b_Fa_putParted 25 = .ok (.iand, 1) := by decide +kernel
theorem d_Fa_putParted_26 : decode b_Fa_putParted 26 = .ok (.ifCond .eq (31), 3) := by decide +kernel
theorem d_Fa_putParted_29 : decode b_Fa_putParted 29 = .ok (.aload_n 0, 1) := by decide +kernel
theorem d_Fa_putParted_30 : decode b_Fa_putParted 30 = .ok (.getfield 18, 3) := by decide +kernel
theorem d_Fa_putParted_33 : decode b_Fa_putParted 33 = .ok (.aload_n 1, 1) := by decide +kernel
theorem d_Fa_putParted_34 : decode b_Fa_putParted 34 = .ok (.iload 4, 2) := by decide +kernel
theorem d_Fa_putParted_36 : decode b_Fa_putParted 36 = .ok (.iload_n 3, 1) := by decide +kernel
theorem d_Fa_putParted_37 : decode b_Fa_putParted 37 = .ok (.invokevirtual 48, 3) := by decide +kernel
theorem d_Fa_putParted_40 : decode b_Fa_putParted 40 = .ok (.dup2, 1) := by decide +kernel
theorem d_Fa_putParted_41 : decode b_Fa_putParted 41 = .ok (.iaload, 1) := by decide +kernel
theorem d_Fa_putParted_42 : decode b_Fa_putParted 42 = .ok (.iconst 1, 1) := by decide +kernel
theorem d_Fa_putParted_43 : decode b_Fa_putParted 43 = .ok (.aload_n 1, 1) := by decide +kernel
theorem d_Fa_putParted_44 : decode b_Fa_putParted 44 = .ok (.aload_n 1, 1) := by decide +kernel
theorem d_Fa_putParted_45 : decode b_Fa_putParted 45 = .ok (.iload 4, 2) := by decide +kernel
theorem d_Fa_putParted_47 : decode b_Fa_putParted 47 = .ok (.iload_n 3, 1) := by decide +kernel
theorem d_Fa_putParted_48 : decode b_Fa_putParted 48 = .ok (.invokevirtual 52, 3) := by decide +kernel
theorem d_Fa_putParted_51 : decode b_Fa_putParted 51 = .ok (.invokevirtual 30, 3) := by decide +kernel
theorem d_Fa_putParted_54 : decode b_Fa_putParted 54 = .ok (.ishl, 1) := by decide +kernel
theorem d_Fa_putParted_55 : decode b_Fa_putParted 55 = .ok (.ior, 1) := by decide +kernel
theorem d_Fa_putParted_56 : decode b_Fa_putParted 56 = .ok (.iastore, 1) := by decide +kernel
theorem d_Fa_putParted_57 : decode b_Fa_putParted 57 = .ok (.iinc 4 (1), 3) := by decide +kernel
theorem d_Fa_putParted_60 : decode b_Fa_putParted 60 = .ok (.goto (-49), 3) := by decide +kernel
theorem d_Fa_putParted_63 : decode b_Fa_putParted 63 = .ok (.iconst 0, 1) := by decide +kernel
theorem d_Fa_putParted_64 : decode b_Fa_putParted 64 = .ok (.istore 4, 2) := by decide +kernel
theorem d_Fa_putParted_66 : decode b_Fa_putParted 66 = .ok (.iload 4, 2) := by decide +kernel
theorem d_Fa_putParted_68 : decode b_Fa_putParted 68 = .ok (.bipush (10), 2) := by decide +kernel
theorem d_Fa_putParted_70 : decode b_Fa_putParted 70 = .ok (.if_icmp .ge (30), 3) := by decide +kernel
theorem d_Fa_putParted_73 : decode b_Fa_putParted 73 = .ok (.aload_n 0, 1) := by decide +kernel
theorem d_Fa_putParted_74 : decode b_Fa_putParted 74 = .ok (.getfield 18, 3) := by decide +kernel
theorem d_Fa_putParted_77 : decode b_Fa_putParted 77 = .ok (.iload 4, 2) := by decide +kernel
theorem d_Fa_putParted_79 : decode b_Fa_putParted 79 = .ok (.iaload, 1) := by decide +kernel
theorem d_Fa_putParted_80 : decode b_Fa_putParted 80 = .ok (.ifCond .eq (14), 3) := by decide +kernel
theorem d_Fa_putParted_83 : decode b_Fa_putParted 83 = .ok (.aload_n 0, 1) := by decide +kernel
theorem d_Fa_putParted_84 : decode b_Fa_putParted 84 = .ok (.aload_n 0, 1) := by decide +kernel
theorem d_Fa_putParted_85 : decode b_Fa_putParted 85 = .ok (.getfield 18, 3) := by decide +kernel
theorem d_Fa_putParted_88 : decode b_Fa_putParted 88 = .ok (.iload 4, 2) := by decide +kernel
theorem d_Fa_putParted_90 : decode b_Fa_putParted 90 = .ok (.iaload, 1) := by decide +kernel
theorem d_Fa_putParted_91 : decode b_Fa_putParted 91 = .ok (.invokevirtual 34, 3) := by decide +kernel
theorem d_Fa_putParted_94 : decode b_Fa_putParted 94 = .ok (.iinc 4 (1), 3) := by decide +kernel
theorem d_Fa_putParted_97 : decode b_Fa_putParted 97 = .ok (.goto (-31), 3) := by decide +kernel
theorem d_Fa_putParted_100 : decode b_Fa_putParted 100 = .ok (.return_, 1) := by decide +kernel
theorem d_Fa_put_0 : decode b_Fa_put 0 = .ok (.aload_n 0, 1) := by decide +kernel
theorem d_Fa_put_1 : decode b_Fa_put 1 = .ok (.iload_n 1, 1) := by decide +kernel
theorem d_Fa_put_2 : decode b_Fa_put 2 = .ok (.invokevirtual 55, 3) := by decide +kernel
theorem d_Fa_put_5 : decode b_Fa_put 5 = .ok (.ifCond .eq (4), 3) := by decide +kernel
theorem d_Fa_put_8 : decode b_Fa_put 8 = .ok (.return_, 1) := by decide +kernel
theorem d_Fa_put_9 : decode b_Fa_put 9 = .ok (.aload_n 0, 1) := by decide +kernel
theorem d_Fa_put_10 : decode b_Fa_put 10 = .ok (.iload_n 1, 1) := by decide +kernel
theorem d_Fa_put_11 : decode b_Fa_put 11 = .ok (.invokevirtual 59, 3) := by decide +kernel
theorem d_Fa_put_14 : decode b_Fa_put 14 = .ok (.aload_n 0, 1) := by decide +kernel
theorem d_Fa_put_15 : decode b_Fa_put 15 = .ok (.getfield 21, 3) := by decide +kernel
theorem d_Fa_put_18 : decode b_Fa_put 18 = .ok (.bipush (12), 2) := by decide +kernel
theorem d_Fa_put_20 : decode b_Fa_put 20 = .ok (.imul, 1) := by decide +kernel
theorem d_Fa_put_21 : decode b_Fa_put 21 = .ok (.istore_n 2, 1) := by decide +kernel
theorem d_Fa_put_22 : decode b_Fa_put 22 = .ok (.aload_n 0, 1) := by decide +kernel
theorem d_Fa_put_23 : decode b_Fa_put 23 = .ok (.getfield 15, 3) := by decide +kernel
theorem d_Fa_put_26 : decode b_Fa_put 26 = .ok (.aload_n 0, 1) := by decide +kernel
theorem d_Fa_put_27 : decode b_Fa_put 27 = .ok (.getfield 21, 3) := by decide +kernel
theorem d_Fa_put_30 : decode b_Fa_put 30 = .ok (.iaload, 1) := by decide +kernel
theorem d_Fa_put_31 : decode b_Fa_put 31 = .ok (.istore_n 3, 1) := by decide +kernel
theorem d_Fa_put_32 : decode b_Fa_put 32 = .ok (.iload_n 3, 1) := by decide +kernel
theorem d_Fa_put_33 : decode b_Fa_put 33 = .ok (.ifCond .le (41), 3) := by decide +kernel
theorem d_Fa_put_36 : decode b_Fa_put 36 = .ok (.aload_n 0, 1) := by decide +kernel
theorem d_Fa_put_37 : decode b_Fa_put 37 = .ok (.getfield 9, 3) := by decide +kernel
theorem d_Fa_put_40 : decode b_Fa_put 40 = .ok (.iload_n 2, 1) := by decide +kernel
theorem d_Fa_put_41 : decode b_Fa_put 41 = .ok (.iload_n 3, 1) := by decide +kernel
theorem d_Fa_put_42 : decode b_Fa_put 42 = .ok (.iadd, 1) := by decide +kernel
theorem d_Fa_put_43 : decode b_Fa_put 43 = .ok (.iconst 1, 1) := by decide +kernel
theorem d_Fa_put_44 : decode b_Fa_put 44 = .ok (.isub, 1) := by decide +kernel
theorem d_Fa_put_45 : decode b_Fa_put 45 = .ok (.iaload, 1) := by decide +kernel
theorem d_Fa_put_46 : decode b_Fa_put 46 = .ok (.iload_n 1, 1) := by decide +kernel
theorem d_Fa_put_47 : decode b_Fa_put 47 = .ok (.if_icmp .le (27), 3) := by decide +kernel
theorem d_Fa_put_50 : decode b_Fa_put 50 = .ok (.aload_n 0, 1) := by decide +kernel
theorem d_Fa_put_51 : decode b_Fa_put 51 = .ok (.getfield 9, 3) := by decide +kernel
theorem d_Fa_put_54 : decode b_Fa_put 54 = .ok (.iload_n 2, 1) := by decide +kernel
theorem d_Fa_put_55 : decode b_Fa_put 55 = .ok (.iload_n 3, 1) := by decide +kernel
theorem d_Fa_put_56 : decode b_Fa_put 56 = .ok (.iadd, 1) := by decide +kernel
theorem d_Fa_put_57 : decode b_Fa_put 57 = .ok (.aload_n 0, 1) := by decide +kernel
theorem d_Fa_put_58 : decode b_Fa_put 58 = .ok (.getfield 9, 3) := by decide +kernel
theorem d_Fa_put_61 : decode b_Fa_put 61 = .ok (.iload_n 2, 1) := by decide +kernel
theorem d_Fa_put_62 : decode b_Fa_put 62 = .ok (.iload_n 3, 1) := by decide +kernel
theorem d_Fa_put_63 : decode b_Fa_put 63 = .ok (.iadd, 1) := by decide +kernel
theorem d_Fa_put_64 : decode b_Fa_put 64 = .ok (.iconst 1, 1) := by decide +kernel
theorem d_Fa_put_65 : decode b_Fa_put 65 = .ok (.isub, 1) := by decide +kernel
theorem d_Fa_put_66 : decode b_Fa_put 66 = .ok (.iaload, 1) := by decide +kernel
theorem d_Fa_put_67 : decode b_Fa_put 67 = .ok (.iastore, 1) := by decide +kernel
theorem d_Fa_put_68 : decode b_Fa_put 68 = .ok (.iinc 3 (-1), 3) := by decide +kernel
theorem d_Fa_put_71 : decode b_Fa_put 71 = .ok (.goto (-39), 3) := by decide +kernel
theorem d_Fa_put_74 : decode b_Fa_put 74 = .ok (.aload_n 0, 1) := by decide +kernel
theorem d_Fa_put_75 : decode b_Fa_put 75 = .ok (.getfield 9, 3) := by decide +kernel
theorem d_Fa_put_78 : decode b_Fa_put 78 = .ok (.iload_n 2, 1) := by decide +kernel
theorem d_Fa_put_79 : decode b_Fa_put 79 = .ok (.iload_n 3, 1) := by decide +kernel
theorem d_Fa_put_80 : decode b_Fa_put 80 = .ok (.iadd, 1) := by decide +kernel
theorem d_Fa_put_81 : decode b_Fa_put 81 = .ok (.iload_n 1, 1) := by decide +kernel
theorem d_Fa_put_82 : decode b_Fa_put 82 = .ok (.iastore, 1) := by decide +kernel
theorem d_Fa_put_83 : decode b_Fa_put 83 = .ok (.aload_n 0, 1) := by decide +kernel
theorem d_Fa_put_84 : decode b_Fa_put 84 = .ok (.getfield 15, 3) := by decide +kernel
theorem d_Fa_put_87 : decode b_Fa_put 87 = .ok (.aload_n 0, 1) := by decide +kernel
theorem d_Fa_put_88 : decode b_Fa_put 88 = .ok (.getfield 21, 3) := by decide +kernel
theorem d_Fa_put_91 : decode b_Fa_put 91 = .ok (.dup2, 1) := by decide +kernel
theorem d_Fa_put_92 : decode b_Fa_put 92 = .ok (.iaload, 1) := by decide +kernel
theorem d_Fa_put_93 : decode b_Fa_put 93 = .ok (.iconst 1, 1) := by decide +kernel
theorem d_Fa_put_94 : decode b_Fa_put 94 = .ok (.iadd, 1) := by decide +kernel
theorem d_Fa_put_95 : decode b_Fa_put 95 = .ok (.iastore, 1) := by decide +kernel
theorem d_Fa_put_96 : decode b_Fa_put 96 = .ok (.return_, 1) := by decide +kernel
end
section
theorem d_Fa_liesInOne_0 : decode b_Fa_liesInOne 0 = .ok (.iconst 0, 1) := by decide +kernel
theorem d_Fa_liesInOne_1 : decode b_Fa_liesInOne 1 = .ok (.istore_n 2, 1) := by decide +kernel
theorem d_Fa_liesInOne_2 : decode b_Fa_liesInOne 2 = .ok (.iload_n 2, 1) := by decide +kernel
theorem d_Fa_liesInOne_3 : decode b_Fa_liesInOne 3 = .ok (.aload_n 0, 1) := by decide +kernel
theorem d_Fa_liesInOne_4 : decode b_Fa_liesInOne 4 = .ok (.getfield 15, 3) := by decide +kernel
theorem d_Fa_liesInOne_7 : decode b_Fa_liesInOne 7 = .ok (.aload_n 0, 1) := by decide +kernel
theorem d_Fa_liesInOne_8 : decode b_Fa_liesInOne 8 = .ok (.getfield 21, 3) := by decide +kernel
theorem d_Fa_liesInOne_11 : decode b_Fa_liesInOne 11 = .ok (.iaload, 1) := by decide +kernel
theorem d_Fa_liesInOne_12 : decode b_Fa_liesInOne 12 = .ok (.if_icmp .ge (32), 3) := by decide +kernel
theorem d_Fa_liesInOne_15 : decode b_Fa_liesInOne 15 = .ok (.iload_n 1, 1) := by decide +kernel
theorem d_Fa_liesInOne_16 : decode b_Fa_liesInOne 16 = .ok (.aload_n 0, 1) := by decide +kernel
theorem d_Fa_liesInOne_17 : decode b_Fa_liesInOne 17 = .ok (.getfield 9, 3) := by decide +kernel
theorem d_Fa_liesInOne_20 : decode b_Fa_liesInOne 20 = .ok (.aload_n 0, 1) := by decide +kernel
theorem d_Fa_liesInOne_21 : decode b_Fa_liesInOne 21 = .ok (.getfield 21, 3) := by decide +kernel
theorem d_Fa_liesInOne_24 : decode b_Fa_liesInOne 24 = .ok (.bipush (12), 2) := by decide +kernel
theorem d_Fa_liesInOne_26 : decode b_Fa_liesInOne 26 = .ok (.imul, 1) := by decide +kernel
theorem d_Fa_liesInOne_27 : decode b_Fa_liesInOne 27 = .ok (.iload_n 2, 1) := by decide +kernel
theorem d_Fa_liesInOne_28 : decode b_Fa_liesInOne 28 = .ok (.iadd, 1) := by decide +kernel
theorem d_Fa_liesInOne_29 : decode b_Fa_liesInOne 29 = .ok (.iaload, 1) := by decide +kernel
theorem d_Fa_liesInOne_30 : decode b_Fa_liesInOne 30 = .ok (.iconst (-1), 1) := by decide +kernel
theorem d_Fa_liesInOne_31 : decode b_Fa_liesInOne 31 = .ok (.ixor, 1) := by decide +kernel
theorem d_Fa_liesInOne_32 : decode b_Fa_liesInOne 32 = .ok (.iand, 1) := by decide +kernel
theorem d_Fa_liesInOne_33 : decode b_Fa_liesInOne 33 = .ok (.ifCond .ne (5), 3) := by decide +kernel
theorem d_Fa_liesInOne_36 : decode b_Fa_liesInOne 36 = .ok (.iconst 1, 1) := by decide +kernel
theorem d_Fa_liesInOne_37 : decode b_Fa_liesInOne 37 = .ok (.ireturn, 1) := by decide +kernel
theorem d_Fa_liesInOne_38 : decode b_Fa_liesInOne 38 = .ok (.iinc 2 (1), 3) := by decide +kernel
theorem d_Fa_liesInOne_41 : decode b_Fa_liesInOne 41 = .ok (.goto (-39), 3) := by decide +kernel
theorem d_Fa_liesInOne_44 : decode b_Fa_liesInOne 44 = .ok (.iconst 0, 1) := by decide +kernel
theorem d_Fa_liesInOne_45 : decode b_Fa_liesInOne 45 = .ok (.ireturn, 1) := by decide +kernel
theorem d_Fa_leaveOutThoseIn_0 : decode b_Fa_leaveOutThoseIn 0 = .ok (.aload_n 0, 1) := by decide +kernel
theorem d_Fa_leaveOutThoseIn_1 : decode b_Fa_leaveOutThoseIn 1 = .ok (.getfield 21, 3) := by decide +kernel
theorem d_Fa_leaveOutThoseIn_4 : decode b_Fa_leaveOutThoseIn 4 = .ok (.bipush (12), 2) := by decide +kernel
theorem d_Fa_leaveOutThoseIn_6 : decode b_Fa_leaveOutThoseIn 6 = .ok (.imul, 1) := by decide +kernel
theorem d_Fa_leaveOutThoseIn_7 : decode b_Fa_leaveOutThoseIn 7 = .ok (.istore_n 2, 1) := by decide +kernel
theorem d_Fa_leaveOutThoseIn_8 : decode b_Fa_leaveOutThoseIn 8 = .ok (.iconst 0, 1) := by decide +kernel
theorem d_Fa_leaveOutThoseIn_9 : decode b_Fa_leaveOutThoseIn 9 = .ok (.istore_n 3, 1) := by decide +kernel
theorem d_Fa_leaveOutThoseIn_10 : decode b_Fa_leaveOutThoseIn 10 = .ok (.iconst 0, 1) := by decide +kernel
theorem d_Fa_leaveOutThoseIn_11 : decode b_Fa_leaveOutThoseIn 11 = .ok (.istore 4, 2) := by decide +kernel
theorem d_Fa_leaveOutThoseIn_13 : decode b_Fa_leaveOutThoseIn 13 = .ok (.iload 4, 2) := by decide +kernel
theorem d_Fa_leaveOutThoseIn_15 : decode b_Fa_leaveOutThoseIn 15 = .ok (.aload_n 0, 1) := by decide +kernel
theorem d_Fa_leaveOutThoseIn_16 : decode b_Fa_leaveOutThoseIn 16 = .ok (.getfield 15, 3) := by decide +kernel
theorem d_Fa_leaveOutThoseIn_19 : decode b_Fa_leaveOutThoseIn 19 = .ok (.aload_n 0, 1) := by decide +kernel
theorem d_Fa_leaveOutThoseIn_20 : decode b_Fa_leaveOutThoseIn 20 = .ok (.getfield 21, 3) := by decide +kernel
theorem d_Fa_leaveOutThoseIn_23 : decode b_Fa_leaveOutThoseIn 23 = .ok (.iaload, 1) := by decide +kernel
theorem d_Fa_leaveOutThoseIn_24 : decode b_Fa_leaveOutThoseIn 24 = .ok (.if_icmp .ge (42), 3) := by decide +kernel
theorem d_Fa_leaveOutThoseIn_27 : decode b_Fa_leaveOutThoseIn 27 = .ok (.aload_n 0, 1) := by decide +kernel
theorem d_Fa_leaveOutThoseIn_28 : decode b_Fa_leaveOutThoseIn 28 = .ok (.getfield 9, 3) := by decide +kernel
theorem d_Fa_leaveOutThoseIn_31 : decode b_Fa_leaveOutThoseIn 31 = .ok (.iload_n 2, 1) := by decide +kernel
theorem d_Fa_leaveOutThoseIn_32 : decode b_Fa_leaveOutThoseIn 32 = .ok (.iload 4, 2) := by decide +kernel
theorem d_Fa_leaveOutThoseIn_34 : decode b_Fa_leaveOutThoseIn 34 = .ok (.iadd, 1) := by decide +kernel
theorem d_Fa_leaveOutThoseIn_35 : decode b_Fa_leaveOutThoseIn 35 = .ok (.iaload, 1) := by decide +kernel
theorem d_Fa_leaveOutThoseIn_36 : decode b_Fa_leaveOutThoseIn 36 = .ok (.istore 5, 2) := by decide +kernel
theorem d_Fa_leaveOutThoseIn_38 : decode b_Fa_leaveOutThoseIn 38 = .ok (.iload 5, 2) := by decide +kernel
theorem d_Fa_leaveOutThoseIn_40 : decode b_Fa_leaveOutThoseIn 40 = .ok (.iload_n 1, 1) := by decide +kernel
theorem d_Fa_leaveOutThoseIn_41 : decode b_Fa_leaveOutThoseIn 41 = .ok (.iconst (-1), 1) := by decide +kernel
theorem d_Fa_leaveOutThoseIn_42 : decode b_Fa_leaveOutThoseIn 42 = .ok (.ixor, 1) := by decide +kernel
theorem d_Fa_leaveOutThoseIn_43 : decode b_Fa_leaveOutThoseIn 43 = .ok (.iand, 1) := by decide +kernel
theorem d_Fa_leaveOutThoseIn_44 : decode b_Fa_leaveOutThoseIn 44 = .ok (.ifCond .eq (16), 3) := by decide +kernel
theorem d_Fa_leaveOutThoseIn_47 : decode b_Fa_leaveOutThoseIn 47 = .ok (.aload_n 0, 1) := by decide +kernel
theorem d_Fa_leaveOutThoseIn_48 : decode b_Fa_leaveOutThoseIn 48 = .ok (.getfield 9, 3) := by decide +kernel
theorem d_Fa_leaveOutThoseIn_51 : decode b_Fa_leaveOutThoseIn 51 = .ok (.iload_n 2, 1) := by decide +kernel
theorem d_Fa_leaveOutThoseIn_52 : decode b_Fa_leaveOutThoseIn 52 = .ok (.iload_n 3, 1) := by decide +kernel
theorem d_Fa_leaveOutThoseIn_53 : decode b_Fa_leaveOutThoseIn 53 = .ok (.iadd, 1) := by decide +kernel
theorem d_Fa_leaveOutThoseIn_54 : decode b_Fa_leaveOutThoseIn 54 = .ok (.iload 5, 2) := by decide +kernel
theorem d_Fa_leaveOutThoseIn_56 : decode b_Fa_leaveOutThoseIn 56 = .ok (.iastore, 1) := by decide +kernel
theorem d_Fa_leaveOutThoseIn_57 : decode b_Fa_leaveOutThoseIn 57 = .ok (.iinc 3 (1), 3) := by decide +kernel
theorem d_Fa_leaveOutThoseIn_60 : decode b_Fa_leaveOutThoseIn 60 = .ok (.iinc 4 (1), 3) := by decide +kernel
theorem d_Fa_leaveOutThoseIn_63 : decode b_Fa_leaveOutThoseIn 63 = .ok (.goto (-50), 3) := by decide +kernel
theorem d_Fa_leaveOutThoseIn_66 : decode b_Fa_leaveOutThoseIn 66 = .ok (.aload_n 0, 1) := by decide +kernel
theorem d_Fa_leaveOutThoseIn_67 : decode b_Fa_leaveOutThoseIn 67 = .ok (.getfield 15, 3) := by decide +kernel
theorem d_Fa_leaveOutThoseIn_70 : decode b_Fa_leaveOutThoseIn 70 = .ok (.aload_n 0, 1) := by decide +kernel
theorem d_Fa_leaveOutThoseIn_71 : decode b_Fa_leaveOutThoseIn 71 = .ok (.getfield 21, 3) := by decide +kernel
theorem d_Fa_leaveOutThoseIn_74 : decode b_Fa_leaveOutThoseIn 74 = .ok (.iload_n 3, 1) := by decide +kernel
theorem d_Fa_leaveOutThoseIn_75 : decode b_Fa_leaveOutThoseIn 75 = .ok (.iastore, 1) := by decide +kernel
theorem d_Fa_leaveOutThoseIn_76 : decode b_Fa_leaveOutThoseIn 76 = .ok (.return_, 1) := by decide +kernel
theorem d_Fa_openOneIsSingles_0 : decode b_Fa_openOneIsSingles 0 = .ok (.iconst 0, 1) := by decide +kernel
theorem d_Fa_openOneIsSingles_1 : decode b_Fa_openOneIsSingles 1 = .ok (.istore_n 1, 1) := by decide +kernel
theorem d_Fa_openOneIsSingles_2 : decode b_Fa_openOneIsSingles 2 = .ok (.iload_n 1, 1) := by decide +kernel
theorem d_Fa_openOneIsSingles_3 : decode b_Fa_openOneIsSingles 3 = .ok (.aload_n 0, 1) := by decide +kernel
theorem d_Fa_openOneIsSingles_4 : decode b_Fa_openOneIsSingles 4 = .ok (.getfield 15, 3) := by decide +kernel
theorem d_Fa_openOneIsSingles_7 : decode b_Fa_openOneIsSingles 7 = .ok (.aload_n 0, 1) := by decide +kernel
theorem d_Fa_openOneIsSingles_8 : decode b_Fa_openOneIsSingles 8 = .ok (.getfield 21, 3) := by decide +kernel
theorem d_Fa_openOneIsSingles_11 : decode b_Fa_openOneIsSingles 11 = .ok (.iaload, 1) := by decide +kernel
theorem d_Fa_openOneIsSingles_12 : decode b_Fa_openOneIsSingles 12 = .ok (.if_icmp .ge (32), 3) := by decide +kernel
theorem d_Fa_openOneIsSingles_15 : decode b_Fa_openOneIsSingles 15 = .ok (.aload_n 0, 1) := by decide +kernel
theorem d_Fa_openOneIsSingles_16 : decode b_Fa_openOneIsSingles 16 = .ok (.getfield 9, 3) := by decide +kernel
theorem d_Fa_openOneIsSingles_19 : decode b_Fa_openOneIsSingles 19 = .ok (.aload_n 0, 1) := by decide +kernel
theorem d_Fa_openOneIsSingles_20 : decode b_Fa_openOneIsSingles 20 = .ok (.getfield 21, 3) := by decide +kernel
theorem d_Fa_openOneIsSingles_23 : decode b_Fa_openOneIsSingles 23 = .ok (.bipush (12), 2) := by decide +kernel
theorem d_Fa_openOneIsSingles_25 : decode b_Fa_openOneIsSingles 25 = .ok (.imul, 1) := by decide +kernel
theorem d_Fa_openOneIsSingles_26 : decode b_Fa_openOneIsSingles 26 = .ok (.iload_n 1, 1) := by decide +kernel
theorem d_Fa_openOneIsSingles_27 : decode b_Fa_openOneIsSingles 27 = .ok (.iadd, 1) := by decide +kernel
theorem d_Fa_openOneIsSingles_28 : decode b_Fa_openOneIsSingles 28 = .ok (.iaload, 1) := by decide +kernel
theorem d_Fa_openOneIsSingles_29 : decode b_Fa_openOneIsSingles 29 = .ok (.invokestatic 62, 3) := by decide +kernel
theorem d_Fa_openOneIsSingles_32 : decode b_Fa_openOneIsSingles 32 = .ok (.iconst 1, 1) := by decide +kernel
theorem d_Fa_openOneIsSingles_33 : decode b_Fa_openOneIsSingles 33 = .ok (.if_icmp .eq (5), 3) := by decide +kernel
theorem d_Fa_openOneIsSingles_36 : decode b_Fa_openOneIsSingles 36 = .ok (.iconst 0, 1) := by decide +kernel
theorem d_Fa_openOneIsSingles_37 : decode b_Fa_openOneIsSingles 37 = .ok (.ireturn, 1) := by decide +kernel
theorem d_Fa_openOneIsSingles_38 : decode b_Fa_openOneIsSingles 38 = .ok (.iinc 1 (1), 3) := by decide +kernel
theorem d_Fa_openOneIsSingles_41 : decode b_Fa_openOneIsSingles 41 = .ok (.goto (-39), 3) := by decide +kernel
theorem d_Fa_openOneIsSingles_44 : decode b_Fa_openOneIsSingles 44 = .ok (.iconst 1, 1) := by decide +kernel
theorem d_Fa_openOneIsSingles_45 : decode b_Fa_openOneIsSingles 45 = .ok (.ireturn, 1) := by decide +kernel
theorem d_Fa_openOneIsKnown_0 : decode b_Fa_openOneIsKnown 0 = .ok (.iconst 0, 1) := by decide +kernel
theorem d_Fa_openOneIsKnown_1 : decode b_Fa_openOneIsKnown 1 = .ok (.istore_n 1, 1) := by decide +kernel
theorem d_Fa_openOneIsKnown_2 : decode b_Fa_openOneIsKnown 2 = .ok (.iload_n 1, 1) := by decide +kernel
theorem d_Fa_openOneIsKnown_3 : decode b_Fa_openOneIsKnown 3 = .ok (.aload_n 0, 1) := by decide +kernel
theorem d_Fa_openOneIsKnown_4 : decode b_Fa_openOneIsKnown 4 = .ok (.getfield 21, 3) := by decide +kernel
theorem d_Fa_openOneIsKnown_7 : decode b_Fa_openOneIsKnown 7 = .ok (.if_icmp .ge (19), 3) := by decide +kernel
theorem d_Fa_openOneIsKnown_10 : decode b_Fa_openOneIsKnown 10 = .ok (.aload_n 0, 1) := by decide +kernel
theorem d_Fa_openOneIsKnown_11 : decode b_Fa_openOneIsKnown 11 = .ok (.iload_n 1, 1) := by decide +kernel
theorem d_Fa_openOneIsKnown_12 : decode b_Fa_openOneIsKnown 12 = .ok (.invokevirtual 67, 3) := by decide +kernel
theorem d_Fa_openOneIsKnown_15 : decode b_Fa_openOneIsKnown 15 = .ok (.ifCond .eq (5), 3) := by decide +kernel
theorem d_Fa_openOneIsKnown_18 : decode b_Fa_openOneIsKnown 18 = .ok (.iconst 1, 1) := by decide +kernel
theorem d_Fa_openOneIsKnown_19 : decode b_Fa_openOneIsKnown 19 = .ok (.ireturn, 1) := by decide +kernel
theorem d_Fa_openOneIsKnown_20 : decode b_Fa_openOneIsKnown 20 = .ok (.iinc 1 (1), 3) := by decide +kernel
theorem d_Fa_openOneIsKnown_23 : decode b_Fa_openOneIsKnown 23 = .ok (.goto (-21), 3) := by decide +kernel
theorem d_Fa_openOneIsKnown_26 : decode b_Fa_openOneIsKnown 26 = .ok (.iconst 0, 1) := by decide +kernel
theorem d_Fa_openOneIsKnown_27 : decode b_Fa_openOneIsKnown 27 = .ok (.ireturn, 1) := by decide +kernel
theorem d_Fa_openOneIs_0 : decode b_Fa_openOneIs 0 = .ok (.aload_n 0, 1) := by decide +kernel
theorem d_Fa_openOneIs_1 : decode b_Fa_openOneIs 1 = .ok (.getfield 15, 3) := by decide +kernel
theorem d_Fa_openOneIs_4 : decode b_Fa_openOneIs 4 = .ok (.iload_n 1, 1) := by decide +kernel
theorem d_Fa_openOneIs_5 : decode b_Fa_openOneIs 5 = .ok (.iaload, 1) := by decide +kernel
theorem d_Fa_openOneIs_6 : decode b_Fa_openOneIs 6 = .ok (.aload_n 0, 1) := by decide +kernel
theorem d_Fa_openOneIs_7 : decode b_Fa_openOneIs 7 = .ok (.getfield 15, 3) := by decide +kernel
theorem d_Fa_openOneIs_10 : decode b_Fa_openOneIs 10 = .ok (.aload_n 0, 1) := by decide +kernel
theorem d_Fa_openOneIs_11 : decode b_Fa_openOneIs 11 = .ok (.getfield 21, 3) := by decide +kernel
theorem d_Fa_openOneIs_14 : decode b_Fa_openOneIs 14 = .ok (.iaload, 1) := by decide +kernel
theorem d_Fa_openOneIs_15 : decode b_Fa_openOneIs 15 = .ok (.if_icmp .eq (5), 3) := by decide +kernel
theorem d_Fa_openOneIs_18 : decode b_Fa_openOneIs 18 = .ok (.iconst 0, 1) := by decide +kernel
theorem d_Fa_openOneIs_19 : decode b_Fa_openOneIs 19 = .ok (.ireturn, 1) := by decide +kernel
theorem d_Fa_openOneIs_20 : decode b_Fa_openOneIs 20 = .ok (.iconst 0, 1) := by decide +kernel
theorem d_Fa_openOneIs_21 : decode b_Fa_openOneIs 21 = .ok (.istore_n 2, 1) := by decide +kernel
theorem d_Fa_openOneIs_22 : decode b_Fa_openOneIs 22 = .ok (.iload_n 2, 1) := by decide +kernel
theorem d_Fa_openOneIs_23 : decode b_Fa_openOneIs 23 = .ok (.aload_n 0, 1) := by decide +kernel
theorem d_Fa_openOneIs_24 : decode b_Fa_openOneIs 24 = .ok (.getfield 15, 3) := by decide +kernel
theorem d_Fa_openOneIs_27 : decode b_Fa_openOneIs 27 = .ok (.aload_n 0, 1) := by decide +kernel
theorem d_Fa_openOneIs_28 : decode b_Fa_openOneIs 28 = .ok (.getfield 21, 3) := by decide +kernel
theorem d_Fa_openOneIs_31 : decode b_Fa_openOneIs 31 = .ok (.iaload, 1) := by decide +kernel
theorem d_Fa_openOneIs_32 : decode b_Fa_openOneIs 32 = .ok (.if_icmp .ge (39), 3) := by decide +kernel
theorem d_Fa_openOneIs_35 : decode b_Fa_openOneIs 35 = .ok (.aload_n 0, 1) := by decide +kernel
theorem d_Fa_openOneIs_36 : decode b_Fa_openOneIs 36 = .ok (.getfield 9, 3) := by decide +kernel
theorem d_Fa_openOneIs_39 : decode b_Fa_openOneIs 39 = .ok (.iload_n 1, 1) := by decide +kernel
theorem d_Fa_openOneIs_40 : decode b_Fa_openOneIs 40 = .ok (.bipush (12), 2) := by decide +kernel
theorem d_Fa_openOneIs_42 : decode b_Fa_openOneIs 42 = .ok (.imul, 1) := by decide +kernel
theorem d_Fa_openOneIs_43 : decode b_Fa_openOneIs 43 = .ok (.iload_n 2, 1) := by decide +kernel
theorem d_Fa_openOneIs_44 : decode b_Fa_openOneIs 44 = .ok (.iadd, 1) := by decide +kernel
theorem d_Fa_openOneIs_45 : decode b_Fa_openOneIs 45 = .ok (.iaload, 1) := by decide +kernel
theorem d_Fa_openOneIs_46 : decode b_Fa_openOneIs 46 = .ok (.aload_n 0, 1) := by decide +kernel
theorem d_Fa_openOneIs_47 : decode b_Fa_openOneIs 47 = .ok (.getfield 9, 3) := by decide +kernel
theorem d_Fa_openOneIs_50 : decode b_Fa_openOneIs 50 = .ok (.aload_n 0, 1) := by decide +kernel
theorem d_Fa_openOneIs_51 : decode b_Fa_openOneIs 51 = .ok (.getfield 21, 3) := by decide +kernel
theorem d_Fa_openOneIs_54 : decode b_Fa_openOneIs 54 = .ok (.bipush (12), 2) := by decide +kernel
theorem d_Fa_openOneIs_56 : decode b_Fa_openOneIs 56 = .ok (.imul, 1) := by decide +kernel
theorem d_Fa_openOneIs_57 : decode b_Fa_openOneIs 57 = .ok (.iload_n 2, 1) := by decide +kernel
theorem d_Fa_openOneIs_58 : decode b_Fa_openOneIs 58 = .ok (.iadd, 1) := by decide +kernel
theorem d_Fa_openOneIs_59 : decode b_Fa_openOneIs 59 = .ok (.iaload, 1) := by decide +kernel
theorem d_Fa_openOneIs_60 : decode b_Fa_openOneIs 60 = .ok (.if_icmp .eq (5), 3) := by decide +kernel
theorem d_Fa_openOneIs_63 : decode b_Fa_openOneIs 63 = .ok (.iconst 0, 1) := by decide +kernel
theorem d_Fa_openOneIs_64 : decode b_Fa_openOneIs 64 = .ok (.ireturn, 1) := by decide +kernel
theorem d_Fa_openOneIs_65 : decode b_Fa_openOneIs 65 = .ok (.iinc 2 (1), 3) := by decide +kernel
theorem d_Fa_openOneIs_68 : decode b_Fa_openOneIs 68 = .ok (.goto (-46), 3) := by decide +kernel
theorem d_Fa_openOneIs_71 : decode b_Fa_openOneIs 71 = .ok (.iconst 1, 1) := by decide +kernel
theorem d_Fa_openOneIs_72 : decode b_Fa_openOneIs 72 = .ok (.ireturn, 1) := by decide +kernel
end
section
theorem d_In_bitCount_0 : decode b_In_bitCount 0 = .ok (.iload_n 0, 1) := by decide +kernel
theorem d_In_bitCount_1 : decode b_In_bitCount 1 = .ok (.iload_n 0, 1) := by decide +kernel
theorem d_In_bitCount_2 : decode b_In_bitCount 2 = .ok (.iconst 1, 1) := by decide +kernel
theorem d_In_bitCount_3 : decode b_In_bitCount 3 = .ok (.iushr, 1) := by decide +kernel
theorem d_In_bitCount_4 : decode b_In_bitCount 4 = .ok (.ldc_w 265, 3) := by decide +kernel
theorem d_In_bitCount_7 : decode b_In_bitCount 7 = .ok (.iand, 1) := by decide +kernel
theorem d_In_bitCount_8 : decode b_In_bitCount 8 = .ok (.isub, 1) := by decide +kernel
theorem d_In_bitCount_9 : decode b_In_bitCount 9 = .ok (.istore_n 0, 1) := by decide +kernel
theorem d_In_bitCount_10 : decode b_In_bitCount 10 = .ok (.iload_n 0, 1) := by decide +kernel
theorem d_In_bitCount_11 : decode b_In_bitCount 11 = .ok (.ldc_w 266, 3) := by decide +kernel
theorem d_In_bitCount_14 : decode b_In_bitCount 14 = .ok (.iand, 1) := by decide +kernel
theorem d_In_bitCount_15 : decode b_In_bitCount 15 = .ok (.iload_n 0, 1) := by decide +kernel
theorem d_In_bitCount_16 : decode b_In_bitCount 16 = .ok (.iconst 2, 1) := by decide +kernel
theorem d_In_bitCount_17 : decode b_In_bitCount 17 = .ok (.iushr, 1) := by decide +kernel
theorem d_In_bitCount_18 : decode b_In_bitCount 18 = .ok (.ldc_w 266, 3) := by decide +kernel
theorem d_In_bitCount_21 : decode b_In_bitCount 21 = .ok (.iand, 1) := by decide +kernel
theorem d_In_bitCount_22 : decode b_In_bitCount 22 = .ok (.iadd, 1) := by decide +kernel
theorem d_In_bitCount_23 : decode b_In_bitCount 23 = .ok (.istore_n 0, 1) := by decide +kernel
theorem d_In_bitCount_24 : decode b_In_bitCount 24 = .ok (.iload_n 0, 1) := by decide +kernel
theorem d_In_bitCount_25 : decode b_In_bitCount 25 = .ok (.iload_n 0, 1) := by decide +kernel
theorem d_In_bitCount_26 : decode b_In_bitCount 26 = .ok (.iconst 4, 1) := by decide +kernel
theorem d_In_bitCount_27 : decode b_In_bitCount 27 = .ok (.iushr, 1) := by decide +kernel
theorem d_In_bitCount_28 : decode b_In_bitCount 28 = .ok (.iadd, 1) := by decide +kernel
theorem d_In_bitCount_29 : decode b_In_bitCount 29 = .ok (.ldc_w 267, 3) := by decide +kernel
theorem d_In_bitCount_32 : decode b_In_bitCount 32 = .ok (.iand, 1) := by decide +kernel
theorem d_In_bitCount_33 : decode b_In_bitCount 33 = .ok (.istore_n 0, 1) := by decide +kernel
theorem d_In_bitCount_34 : decode b_In_bitCount 34 = .ok (.iload_n 0, 1) := by decide +kernel
theorem d_In_bitCount_35 : decode b_In_bitCount 35 = .ok (.iload_n 0, 1) := by decide +kernel
theorem d_In_bitCount_36 : decode b_In_bitCount 36 = .ok (.bipush (8), 2) := by decide +kernel
theorem d_In_bitCount_38 : decode b_In_bitCount 38 = .ok (.iushr, 1) := by decide +kernel
theorem d_In_bitCount_39 : decode b_In_bitCount 39 = .ok (.iadd, 1) := by decide +kernel
theorem d_In_bitCount_40 : decode b_In_bitCount 40 = .ok (.istore_n 0, 1) := by decide +kernel
theorem d_In_bitCount_41 : decode b_In_bitCount 41 = .ok (.iload_n 0, 1) := by decide +kernel
theorem d_In_bitCount_42 : decode b_In_bitCount 42 = .ok (.iload_n 0, 1) := by decide +kernel
theorem d_In_bitCount_43 : decode b_In_bitCount 43 = .ok (.bipush (16), 2) := by decide +kernel
theorem d_In_bitCount_45 : decode b_In_bitCount 45 = .ok (.iushr, 1) := by decide +kernel
theorem d_In_bitCount_46 : decode b_In_bitCount 46 = .ok (.iadd, 1) := by decide +kernel
theorem d_In_bitCount_47 : decode b_In_bitCount 47 = .ok (.istore_n 0, 1) := by decide +kernel
theorem d_In_bitCount_48 : decode b_In_bitCount 48 = .ok (.iload_n 0, 1) := by decide +kernel
theorem d_In_bitCount_49 : decode b_In_bitCount 49 = .ok (.bipush (63), 2) := by decide +kernel
theorem d_In_bitCount_51 : decode b_In_bitCount 51 = .ok (.iand, 1) := by decide +kernel
theorem d_In_bitCount_52 : decode b_In_bitCount 52 = .ok (.ireturn, 1) := by decide +kernel
end
section
theorem d_La_alike_0 : decode b_La_alike 0 = .ok (.aload 5, 2) := by decide +kernel
theorem d_La_alike_2 : decode b_La_alike 2 = .ok (.iconst 0, 1) := by decide +kernel
theorem d_La_alike_3 : decode b_La_alike 3 = .ok (.aload_n 0, 1) := by decide +kernel
theorem d_La_alike_4 : decode b_La_alike 4 = .ok (.iload_n 1, 1) := by decide +kernel
theorem d_La_alike_5 : decode b_La_alike 5 = .ok (.iload_n 2, 1) := by decide +kernel
theorem d_La_alike_6 : decode b_La_alike 6 = .ok (.iload_n 3, 1) := by decide +kernel
theorem d_La_alike_7 : decode b_La_alike 7 = .ok (.iload 4, 2) := by decide +kernel
theorem d_La_alike_9 : decode b_La_alike 9 = .ok (.invokevirtual 7, 3) := by decide +kernel
theorem d_La_alike_12 : decode b_La_alike 12 = .ok (.ifCond .eq (7), 3) := by decide +kernel
theorem d_La_alike_15 : decode b_La_alike 15 = .ok (.lconst 1, 1) := by decide +kernel
theorem d_La_alike_16 : decode b_La_alike 16 = .ok (.goto (4), 3) := by decide +kernel
theorem d_La_alike_19 : decode b_La_alike 19 = .ok (.lconst 0, 1) := by decide +kernel
theorem d_La_alike_20 : decode b_La_alike 20 = .ok (.lastore, 1) := by decide +kernel
theorem d_La_alike_21 : decode b_La_alike 21 = .ok (.goto (7), 3) := by decide +kernel
theorem d_La_alike_24 : decode b_La_alike 24 = .ok (.astore 6, 2) := by decide +kernel
theorem d_La_alike_26 : decode b_La_alike 26 = .ok (.iconst 1, 1) := by decide +kernel
theorem d_La_alike_27 : decode b_La_alike 27 = .ok (.ireturn, 1) := by decide +kernel
theorem d_La_alike_28 : decode b_La_alike 28 = .ok (.iconst 0, 1) := by decide +kernel
theorem d_La_alike_29 : decode b_La_alike 29 = .ok (.ireturn, 1) := by decide +kernel
theorem d_La_home_0 : decode b_La_home 0 = .ok (.aload_n 2, 1) := by decide +kernel
theorem d_La_home_1 : decode b_La_home 1 = .ok (.iconst 0, 1) := by decide +kernel
theorem d_La_home_2 : decode b_La_home 2 = .ok (.aload_n 0, 1) := by decide +kernel
theorem d_La_home_3 : decode b_La_home 3 = .ok (.iload_n 1, 1) := by decide +kernel
theorem d_La_home_4 : decode b_La_home 4 = .ok (.invokevirtual 15, 3) := by decide +kernel
theorem d_La_home_7 : decode b_La_home 7 = .ok (.i2l, 1) := by decide +kernel
theorem d_La_home_8 : decode b_La_home 8 = .ok (.lastore, 1) := by decide +kernel
theorem d_La_home_9 : decode b_La_home 9 = .ok (.goto (6), 3) := by decide +kernel
theorem d_La_home_12 : decode b_La_home 12 = .ok (.astore_n 3, 1) := by decide +kernel
theorem d_La_home_13 : decode b_La_home 13 = .ok (.iconst 1, 1) := by decide +kernel
theorem d_La_home_14 : decode b_La_home 14 = .ok (.ireturn, 1) := by decide +kernel
theorem d_La_home_15 : decode b_La_home 15 = .ok (.iconst 0, 1) := by decide +kernel
theorem d_La_home_16 : decode b_La_home 16 = .ok (.ireturn, 1) := by decide +kernel
theorem d_La_chain_0 : decode b_La_chain 0 = .ok (.aload_n 3, 1) := by decide +kernel
theorem d_La_chain_1 : decode b_La_chain 1 = .ok (.iconst 0, 1) := by decide +kernel
theorem d_La_chain_2 : decode b_La_chain 2 = .ok (.aload_n 0, 1) := by decide +kernel
theorem d_La_chain_3 : decode b_La_chain 3 = .ok (.iload_n 1, 1) := by decide +kernel
theorem d_La_chain_4 : decode b_La_chain 4 = .ok (.iload_n 2, 1) := by decide +kernel
theorem d_La_chain_5 : decode b_La_chain 5 = .ok (.invokevirtual 21, 3) := by decide +kernel
theorem d_La_chain_8 : decode b_La_chain 8 = .ok (.i2l, 1) := by decide +kernel
theorem d_La_chain_9 : decode b_La_chain 9 = .ok (.lastore, 1) := by decide +kernel
theorem d_La_chain_10 : decode b_La_chain 10 = .ok (.goto (7), 3) := by decide +kernel
theorem d_La_chain_13 : decode b_La_chain 13 = .ok (.astore 4, 2) := by decide +kernel
theorem d_La_chain_15 : decode b_La_chain 15 = .ok (.iconst 1, 1) := by decide +kernel
theorem d_La_chain_16 : decode b_La_chain 16 = .ok (.ireturn, 1) := by decide +kernel
theorem d_La_chain_17 : decode b_La_chain 17 = .ok (.iconst 0, 1) := by decide +kernel
theorem d_La_chain_18 : decode b_La_chain 18 = .ok (.ireturn, 1) := by decide +kernel
theorem d_La_letter_0 : decode b_La_letter 0 = .ok (.aload_n 2, 1) := by decide +kernel
theorem d_La_letter_1 : decode b_La_letter 1 = .ok (.iconst 0, 1) := by decide +kernel
theorem d_La_letter_2 : decode b_La_letter 2 = .ok (.aload_n 0, 1) := by decide +kernel
theorem d_La_letter_3 : decode b_La_letter 3 = .ok (.iload_n 1, 1) := by decide +kernel
theorem d_La_letter_4 : decode b_La_letter 4 = .ok (.invokevirtual 25, 3) := by decide +kernel
theorem d_La_letter_7 : decode b_La_letter 7 = .ok (.i2l, 1) := by decide +kernel
theorem d_La_letter_8 : decode b_La_letter 8 = .ok (.lastore, 1) := by decide +kernel
theorem d_La_letter_9 : decode b_La_letter 9 = .ok (.goto (6), 3) := by decide +kernel
theorem d_La_letter_12 : decode b_La_letter 12 = .ok (.astore_n 3, 1) := by decide +kernel
theorem d_La_letter_13 : decode b_La_letter 13 = .ok (.iconst 1, 1) := by decide +kernel
theorem d_La_letter_14 : decode b_La_letter 14 = .ok (.ireturn, 1) := by decide +kernel
theorem d_La_letter_15 : decode b_La_letter 15 = .ok (.iconst 0, 1) := by decide +kernel
theorem d_La_letter_16 : decode b_La_letter 16 = .ok (.ireturn, 1) := by decide +kernel
theorem d_La_law_0 : decode b_La_law 0 = .ok (.new 8, 3) := by decide +kernel
theorem d_La_law_3 : decode b_La_law 3 = .ok (.dup, 1) := by decide +kernel
theorem d_La_law_4 : decode b_La_law 4 = .ok (.invokespecial 30, 3) := by decide +kernel
theorem d_La_law_7 : decode b_La_law 7 = .ok (.astore_n 1, 1) := by decide +kernel
theorem d_La_law_8 : decode b_La_law 8 = .ok (.new 31, 3) := by decide +kernel
theorem d_La_law_11 : decode b_La_law 11 = .ok (.dup, 1) := by decide +kernel
theorem d_La_law_12 : decode b_La_law 12 = .ok (.invokespecial 33, 3) := by decide +kernel
theorem d_La_law_15 : decode b_La_law 15 = .ok (.astore_n 2, 1) := by decide +kernel
theorem d_La_law_16 : decode b_La_law 16 = .ok (.iconst 1, 1) := by decide +kernel
theorem d_La_law_17 : decode b_La_law 17 = .ok (.newarray .long, 2) := by decide +kernel
theorem d_La_law_19 : decode b_La_law 19 = .ok (.astore_n 3, 1) := by decide +kernel
theorem d_La_law_20 : decode b_La_law 20 = .ok (.iconst 0, 1) := by decide +kernel
theorem d_La_law_21 : decode b_La_law 21 = .ok (.istore 4, 2) := by decide +kernel
theorem d_La_law_23 : decode b_La_law 23 = .ok (.iload 4, 2) := by decide +kernel
theorem d_La_law_25 : decode b_La_law 25 = .ok (.aload_n 0, 1) := by decide +kernel
theorem d_La_law_26 : decode b_La_law 26 = .ok (.arraylength, 1) := by decide +kernel
theorem d_La_law_27 : decode b_La_law 27 = .ok (.bipush (6), 2) := by decide +kernel
theorem d_La_law_29 : decode b_La_law 29 = .ok (.isub, 1) := by decide +kernel
theorem d_La_law_30 : decode b_La_law 30 = .ok (.if_icmp .gt (764), 3) := by decide +kernel
theorem d_La_law_33 : decode b_La_law 33 = .ok (.aload_n 0, 1) := by decide +kernel
theorem d_La_law_34 : decode b_La_law 34 = .ok (.iload 4, 2) := by decide +kernel
theorem d_La_law_36 : decode b_La_law 36 = .ok (.iaload, 1) := by decide +kernel
theorem d_La_law_37 : decode b_La_law 37 = .ok (.bipush (15), 2) := by decide +kernel
theorem d_La_law_39 : decode b_La_law 39 = .ok (.iand, 1) := by decide +kernel
theorem d_La_law_40 : decode b_La_law 40 = .ok (.tableswitch (748) (0) (14) #[(76), (113), (186), (247), (272), (309), (408), (433), (470), (495), (551), (619), (675), (712), (723)], 76) := by decide +kernel
theorem d_La_law_116 : decode b_La_law 116 = .ok (.aload_n 1, 1) := by decide +kernel
theorem d_La_law_117 : decode b_La_law 117 = .ok (.aload_n 0, 1) := by decide +kernel
theorem d_La_law_118 : decode b_La_law 118 = .ok (.iload 4, 2) := by decide +kernel
theorem d_La_law_120 : decode b_La_law 120 = .ok (.iconst 1, 1) := by decide +kernel
theorem d_La_law_121 : decode b_La_law 121 = .ok (.iadd, 1) := by decide +kernel
theorem d_La_law_122 : decode b_La_law 122 = .ok (.iaload, 1) := by decide +kernel
theorem d_La_law_123 : decode b_La_law 123 = .ok (.aload_n 0, 1) := by decide +kernel
theorem d_La_law_124 : decode b_La_law 124 = .ok (.iload 4, 2) := by decide +kernel
theorem d_La_law_126 : decode b_La_law 126 = .ok (.iconst 2, 1) := by decide +kernel
theorem d_La_law_127 : decode b_La_law 127 = .ok (.iadd, 1) := by decide +kernel
theorem d_La_law_128 : decode b_La_law 128 = .ok (.iaload, 1) := by decide +kernel
theorem d_La_law_129 : decode b_La_law 129 = .ok (.invokevirtual 34, 3) := by decide +kernel
theorem d_La_law_132 : decode b_La_law 132 = .ok (.aload_n 2, 1) := by decide +kernel
theorem d_La_law_133 : decode b_La_law 133 = .ok (.aload_n 0, 1) := by decide +kernel
theorem d_La_law_134 : decode b_La_law 134 = .ok (.iload 4, 2) := by decide +kernel
theorem d_La_law_136 : decode b_La_law 136 = .ok (.iconst 1, 1) := by decide +kernel
theorem d_La_law_137 : decode b_La_law 137 = .ok (.iadd, 1) := by decide +kernel
theorem d_La_law_138 : decode b_La_law 138 = .ok (.iaload, 1) := by decide +kernel
theorem d_La_law_139 : decode b_La_law 139 = .ok (.aload_n 0, 1) := by decide +kernel
theorem d_La_law_140 : decode b_La_law 140 = .ok (.iload 4, 2) := by decide +kernel
theorem d_La_law_142 : decode b_La_law 142 = .ok (.iconst 2, 1) := by decide +kernel
theorem d_La_law_143 : decode b_La_law 143 = .ok (.iadd, 1) := by decide +kernel
theorem d_La_law_144 : decode b_La_law 144 = .ok (.iaload, 1) := by decide +kernel
theorem d_La_law_145 : decode b_La_law 145 = .ok (.invokevirtual 37, 3) := by decide +kernel
theorem d_La_law_148 : decode b_La_law 148 = .ok (.if_icmp .eq (640), 3) := by decide +kernel
theorem d_La_law_151 : decode b_La_law 151 = .ok (.iconst 0, 1) := by decide +kernel
theorem d_La_law_152 : decode b_La_law 152 = .ok (.ireturn, 1) := by decide +kernel
theorem d_La_law_153 : decode b_La_law 153 = .ok (.aload_n 1, 1) := by decide +kernel
theorem d_La_law_154 : decode b_La_law 154 = .ok (.aload_n 0, 1) := by decide +kernel
theorem d_La_law_155 : decode b_La_law 155 = .ok (.iload 4, 2) := by decide +kernel
theorem d_La_law_157 : decode b_La_law 157 = .ok (.iconst 1, 1) := by decide +kernel
theorem d_La_law_158 : decode b_La_law 158 = .ok (.iadd, 1) := by decide +kernel
theorem d_La_law_159 : decode b_La_law 159 = .ok (.iaload, 1) := by decide +kernel
theorem d_La_law_160 : decode b_La_law 160 = .ok (.aload_n 0, 1) := by decide +kernel
theorem d_La_law_161 : decode b_La_law 161 = .ok (.iload 4, 2) := by decide +kernel
theorem d_La_law_163 : decode b_La_law 163 = .ok (.iconst 2, 1) := by decide +kernel
theorem d_La_law_164 : decode b_La_law 164 = .ok (.iadd, 1) := by decide +kernel
theorem d_La_law_165 : decode b_La_law 165 = .ok (.iaload, 1) := by decide +kernel
theorem d_La_law_166 : decode b_La_law 166 = .ok (.aload_n 0, 1) := by decide +kernel
theorem d_La_law_167 : decode b_La_law 167 = .ok (.iload 4, 2) := by decide +kernel
theorem d_La_law_169 : decode b_La_law 169 = .ok (.iconst 3, 1) := by decide +kernel
theorem d_La_law_170 : decode b_La_law 170 = .ok (.iadd, 1) := by decide +kernel
theorem d_La_law_171 : decode b_La_law 171 = .ok (.iaload, 1) := by decide +kernel
theorem d_La_law_172 : decode b_La_law 172 = .ok (.aload_n 0, 1) := by decide +kernel
theorem d_La_law_173 : decode b_La_law 173 = .ok (.iload 4, 2) := by decide +kernel
theorem d_La_law_175 : decode b_La_law 175 = .ok (.iconst 4, 1) := by decide +kernel
theorem d_La_law_176 : decode b_La_law 176 = .ok (.iadd, 1) := by decide +kernel
theorem d_La_law_177 : decode b_La_law 177 = .ok (.iaload, 1) := by decide +kernel
theorem d_La_law_178 : decode b_La_law 178 = .ok (.aload_n 0, 1) := by decide +kernel
theorem d_La_law_179 : decode b_La_law 179 = .ok (.iload 4, 2) := by decide +kernel
theorem d_La_law_181 : decode b_La_law 181 = .ok (.iconst 5, 1) := by decide +kernel
theorem d_La_law_182 : decode b_La_law 182 = .ok (.iadd, 1) := by decide +kernel
theorem d_La_law_183 : decode b_La_law 183 = .ok (.iaload, 1) := by decide +kernel
theorem d_La_law_184 : decode b_La_law 184 = .ok (.invokevirtual 38, 3) := by decide +kernel
theorem d_La_law_187 : decode b_La_law 187 = .ok (.aload_n 2, 1) := by decide +kernel
theorem d_La_law_188 : decode b_La_law 188 = .ok (.aload_n 0, 1) := by decide +kernel
theorem d_La_law_189 : decode b_La_law 189 = .ok (.iload 4, 2) := by decide +kernel
theorem d_La_law_191 : decode b_La_law 191 = .ok (.iconst 1, 1) := by decide +kernel
theorem d_La_law_192 : decode b_La_law 192 = .ok (.iadd, 1) := by decide +kernel
theorem d_La_law_193 : decode b_La_law 193 = .ok (.iaload, 1) := by decide +kernel
theorem d_La_law_194 : decode b_La_law 194 = .ok (.aload_n 0, 1) := by decide +kernel
theorem d_La_law_195 : decode b_La_law 195 = .ok (.iload 4, 2) := by decide +kernel
theorem d_La_law_197 : decode b_La_law 197 = .ok (.iconst 2, 1) := by decide +kernel
theorem d_La_law_198 : decode b_La_law 198 = .ok (.iadd, 1) := by decide +kernel
theorem d_La_law_199 : decode b_La_law 199 = .ok (.iaload, 1) := by decide +kernel
theorem d_La_law_200 : decode b_La_law 200 = .ok (.aload_n 0, 1) := by decide +kernel
theorem d_La_law_201 : decode b_La_law 201 = .ok (.iload 4, 2) := by decide +kernel
theorem d_La_law_203 : decode b_La_law 203 = .ok (.iconst 3, 1) := by decide +kernel
theorem d_La_law_204 : decode b_La_law 204 = .ok (.iadd, 1) := by decide +kernel
theorem d_La_law_205 : decode b_La_law 205 = .ok (.iaload, 1) := by decide +kernel
theorem d_La_law_206 : decode b_La_law 206 = .ok (.aload_n 0, 1) := by decide +kernel
theorem d_La_law_207 : decode b_La_law 207 = .ok (.iload 4, 2) := by decide +kernel
theorem d_La_law_209 : decode b_La_law 209 = .ok (.iconst 4, 1) := by decide +kernel
theorem d_La_law_210 : decode b_La_law 210 = .ok (.iadd, 1) := by decide +kernel
theorem d_La_law_211 : decode b_La_law 211 = .ok (.iaload, 1) := by decide +kernel
theorem d_La_law_212 : decode b_La_law 212 = .ok (.aload_n 0, 1) := by decide +kernel
theorem d_La_law_213 : decode b_La_law 213 = .ok (.iload 4, 2) := by decide +kernel
theorem d_La_law_215 : decode b_La_law 215 = .ok (.iconst 5, 1) := by decide +kernel
theorem d_La_law_216 : decode b_La_law 216 = .ok (.iadd, 1) := by decide +kernel
theorem d_La_law_217 : decode b_La_law 217 = .ok (.iaload, 1) := by decide +kernel
theorem d_La_law_218 : decode b_La_law 218 = .ok (.invokevirtual 42, 3) := by decide +kernel
theorem d_La_law_221 : decode b_La_law 221 = .ok (.if_icmp .eq (567), 3) := by decide +kernel
theorem d_La_law_224 : decode b_La_law 224 = .ok (.iconst 0, 1) := by decide +kernel
theorem d_La_law_225 : decode b_La_law 225 = .ok (.ireturn, 1) := by decide +kernel
theorem d_La_law_226 : decode b_La_law 226 = .ok (.aload_n 1, 1) := by decide +kernel
theorem d_La_law_227 : decode b_La_law 227 = .ok (.aload_n 0, 1) := by decide +kernel
theorem d_La_law_228 : decode b_La_law 228 = .ok (.iload 4, 2) := by decide +kernel
theorem d_La_law_230 : decode b_La_law 230 = .ok (.iconst 1, 1) := by decide +kernel
theorem d_La_law_231 : decode b_La_law 231 = .ok (.iadd, 1) := by decide +kernel
theorem d_La_law_232 : decode b_La_law 232 = .ok (.iaload, 1) := by decide +kernel
theorem d_La_law_233 : decode b_La_law 233 = .ok (.aload_n 0, 1) := by decide +kernel
theorem d_La_law_234 : decode b_La_law 234 = .ok (.iload 4, 2) := by decide +kernel
theorem d_La_law_236 : decode b_La_law 236 = .ok (.iconst 2, 1) := by decide +kernel
theorem d_La_law_237 : decode b_La_law 237 = .ok (.iadd, 1) := by decide +kernel
theorem d_La_law_238 : decode b_La_law 238 = .ok (.iaload, 1) := by decide +kernel
theorem d_La_law_239 : decode b_La_law 239 = .ok (.aload_n 0, 1) := by decide +kernel
theorem d_La_law_240 : decode b_La_law 240 = .ok (.iload 4, 2) := by decide +kernel
theorem d_La_law_242 : decode b_La_law 242 = .ok (.iconst 3, 1) := by decide +kernel
theorem d_La_law_243 : decode b_La_law 243 = .ok (.iadd, 1) := by decide +kernel
theorem d_La_law_244 : decode b_La_law 244 = .ok (.iaload, 1) := by decide +kernel
theorem d_La_law_245 : decode b_La_law 245 = .ok (.aload_n 0, 1) := by decide +kernel
theorem d_La_law_246 : decode b_La_law 246 = .ok (.iload 4, 2) := by decide +kernel
theorem d_La_law_248 : decode b_La_law 248 = .ok (.iconst 4, 1) := by decide +kernel
theorem d_La_law_249 : decode b_La_law 249 = .ok (.iadd, 1) := by decide +kernel
theorem d_La_law_250 : decode b_La_law 250 = .ok (.iaload, 1) := by decide +kernel
theorem d_La_law_251 : decode b_La_law 251 = .ok (.invokevirtual 43, 3) := by decide +kernel
theorem d_La_law_254 : decode b_La_law 254 = .ok (.aload_n 2, 1) := by decide +kernel
theorem d_La_law_255 : decode b_La_law 255 = .ok (.aload_n 0, 1) := by decide +kernel
theorem d_La_law_256 : decode b_La_law 256 = .ok (.iload 4, 2) := by decide +kernel
theorem d_La_law_258 : decode b_La_law 258 = .ok (.iconst 1, 1) := by decide +kernel
theorem d_La_law_259 : decode b_La_law 259 = .ok (.iadd, 1) := by decide +kernel
theorem d_La_law_260 : decode b_La_law 260 = .ok (.iaload, 1) := by decide +kernel
theorem d_La_law_261 : decode b_La_law 261 = .ok (.aload_n 0, 1) := by decide +kernel
theorem d_La_law_262 : decode b_La_law 262 = .ok (.iload 4, 2) := by decide +kernel
theorem d_La_law_264 : decode b_La_law 264 = .ok (.iconst 2, 1) := by decide +kernel
theorem d_La_law_265 : decode b_La_law 265 = .ok (.iadd, 1) := by decide +kernel
end
section
theorem d_La_law_266 : decode b_La_law 266 = .ok (.iaload, 1) := by decide +kernel
theorem d_La_law_267 : decode b_La_law 267 = .ok (.aload_n 0, 1) := by decide +kernel
theorem d_La_law_268 : decode b_La_law 268 = .ok (.iload 4, 2) := by decide +kernel
theorem d_La_law_270 : decode b_La_law 270 = .ok (.iconst 3, 1) := by decide +kernel
theorem d_La_law_271 : decode b_La_law 271 = .ok (.iadd, 1) := by decide +kernel
theorem d_La_law_272 : decode b_La_law 272 = .ok (.iaload, 1) := by decide +kernel
theorem d_La_law_273 : decode b_La_law 273 = .ok (.aload_n 0, 1) := by decide +kernel
theorem d_La_law_274 : decode b_La_law 274 = .ok (.iload 4, 2) := by decide +kernel
theorem d_La_law_276 : decode b_La_law 276 = .ok (.iconst 4, 1) := by decide +kernel
theorem d_La_law_277 : decode b_La_law 277 = .ok (.iadd, 1) := by decide +kernel
theorem d_La_law_278 : decode b_La_law 278 = .ok (.iaload, 1) := by decide +kernel
theorem d_La_law_279 : decode b_La_law 279 = .ok (.invokevirtual 47, 3) := by decide +kernel
theorem d_La_law_282 : decode b_La_law 282 = .ok (.if_icmp .eq (506), 3) := by decide +kernel
theorem d_La_law_285 : decode b_La_law 285 = .ok (.iconst 0, 1) := by decide +kernel
theorem d_La_law_286 : decode b_La_law 286 = .ok (.ireturn, 1) := by decide +kernel
theorem d_La_law_287 : decode b_La_law 287 = .ok (.aload_n 1, 1) := by decide +kernel
theorem d_La_law_288 : decode b_La_law 288 = .ok (.aload_n 0, 1) := by decide +kernel
theorem d_La_law_289 : decode b_La_law 289 = .ok (.iload 4, 2) := by decide +kernel
theorem d_La_law_291 : decode b_La_law 291 = .ok (.iconst 1, 1) := by decide +kernel
theorem d_La_law_292 : decode b_La_law 292 = .ok (.iadd, 1) := by decide +kernel
theorem d_La_law_293 : decode b_La_law 293 = .ok (.iaload, 1) := by decide +kernel
theorem d_La_law_294 : decode b_La_law 294 = .ok (.invokevirtual 48, 3) := by decide +kernel
theorem d_La_law_297 : decode b_La_law 297 = .ok (.aload_n 2, 1) := by decide +kernel
theorem d_La_law_298 : decode b_La_law 298 = .ok (.aload_n 0, 1) := by decide +kernel
theorem d_La_law_299 : decode b_La_law 299 = .ok (.iload 4, 2) := by decide +kernel
theorem d_La_law_301 : decode b_La_law 301 = .ok (.iconst 1, 1) := by decide +kernel
theorem d_La_law_302 : decode b_La_law 302 = .ok (.iadd, 1) := by decide +kernel
theorem d_La_law_303 : decode b_La_law 303 = .ok (.iaload, 1) := by decide +kernel
theorem d_La_law_304 : decode b_La_law 304 = .ok (.invokevirtual 51, 3) := by decide +kernel
theorem d_La_law_307 : decode b_La_law 307 = .ok (.if_icmp .eq (481), 3) := by decide +kernel
theorem d_La_law_310 : decode b_La_law 310 = .ok (.iconst 0, 1) := by decide +kernel
theorem d_La_law_311 : decode b_La_law 311 = .ok (.ireturn, 1) := by decide +kernel
theorem d_La_law_312 : decode b_La_law 312 = .ok (.aload_n 1, 1) := by decide +kernel
theorem d_La_law_313 : decode b_La_law 313 = .ok (.aload_n 0, 1) := by decide +kernel
theorem d_La_law_314 : decode b_La_law 314 = .ok (.iload 4, 2) := by decide +kernel
theorem d_La_law_316 : decode b_La_law 316 = .ok (.iconst 1, 1) := by decide +kernel
theorem d_La_law_317 : decode b_La_law 317 = .ok (.iadd, 1) := by decide +kernel
theorem d_La_law_318 : decode b_La_law 318 = .ok (.iaload, 1) := by decide +kernel
theorem d_La_law_319 : decode b_La_law 319 = .ok (.aload_n 0, 1) := by decide +kernel
theorem d_La_law_320 : decode b_La_law 320 = .ok (.iload 4, 2) := by decide +kernel
theorem d_La_law_322 : decode b_La_law 322 = .ok (.iconst 2, 1) := by decide +kernel
theorem d_La_law_323 : decode b_La_law 323 = .ok (.iadd, 1) := by decide +kernel
theorem d_La_law_324 : decode b_La_law 324 = .ok (.iaload, 1) := by decide +kernel
theorem d_La_law_325 : decode b_La_law 325 = .ok (.invokevirtual 52, 3) := by decide +kernel
theorem d_La_law_328 : decode b_La_law 328 = .ok (.aload_n 2, 1) := by decide +kernel
theorem d_La_law_329 : decode b_La_law 329 = .ok (.aload_n 0, 1) := by decide +kernel
theorem d_La_law_330 : decode b_La_law 330 = .ok (.iload 4, 2) := by decide +kernel
theorem d_La_law_332 : decode b_La_law 332 = .ok (.iconst 1, 1) := by decide +kernel
theorem d_La_law_333 : decode b_La_law 333 = .ok (.iadd, 1) := by decide +kernel
theorem d_La_law_334 : decode b_La_law 334 = .ok (.iaload, 1) := by decide +kernel
theorem d_La_law_335 : decode b_La_law 335 = .ok (.aload_n 0, 1) := by decide +kernel
theorem d_La_law_336 : decode b_La_law 336 = .ok (.iload 4, 2) := by decide +kernel
theorem d_La_law_338 : decode b_La_law 338 = .ok (.iconst 2, 1) := by decide +kernel
theorem d_La_law_339 : decode b_La_law 339 = .ok (.iadd, 1) := by decide +kernel
theorem d_La_law_340 : decode b_La_law 340 = .ok (.iaload, 1) := by decide +kernel
theorem d_La_law_341 : decode b_La_law 341 = .ok (.invokevirtual 55, 3) := by decide +kernel
theorem d_La_law_344 : decode b_La_law 344 = .ok (.if_icmp .eq (444), 3) := by decide +kernel
theorem d_La_law_347 : decode b_La_law 347 = .ok (.iconst 0, 1) := by decide +kernel
theorem d_La_law_348 : decode b_La_law 348 = .ok (.ireturn, 1) := by decide +kernel
theorem d_La_law_349 : decode b_La_law 349 = .ok (.aload_n 1, 1) := by decide +kernel
theorem d_La_law_350 : decode b_La_law 350 = .ok (.aload_n 0, 1) := by decide +kernel
theorem d_La_law_351 : decode b_La_law 351 = .ok (.iload 4, 2) := by decide +kernel
theorem d_La_law_353 : decode b_La_law 353 = .ok (.iconst 1, 1) := by decide +kernel
theorem d_La_law_354 : decode b_La_law 354 = .ok (.iadd, 1) := by decide +kernel
theorem d_La_law_355 : decode b_La_law 355 = .ok (.iaload, 1) := by decide +kernel
theorem d_La_law_356 : decode b_La_law 356 = .ok (.aload_n 0, 1) := by decide +kernel
theorem d_La_law_357 : decode b_La_law 357 = .ok (.iload 4, 2) := by decide +kernel
theorem d_La_law_359 : decode b_La_law 359 = .ok (.iconst 2, 1) := by decide +kernel
theorem d_La_law_360 : decode b_La_law 360 = .ok (.iadd, 1) := by decide +kernel
theorem d_La_law_361 : decode b_La_law 361 = .ok (.iaload, 1) := by decide +kernel
theorem d_La_law_362 : decode b_La_law 362 = .ok (.aload_n 0, 1) := by decide +kernel
theorem d_La_law_363 : decode b_La_law 363 = .ok (.iload 4, 2) := by decide +kernel
theorem d_La_law_365 : decode b_La_law 365 = .ok (.iconst 3, 1) := by decide +kernel
theorem d_La_law_366 : decode b_La_law 366 = .ok (.iadd, 1) := by decide +kernel
theorem d_La_law_367 : decode b_La_law 367 = .ok (.iaload, 1) := by decide +kernel
theorem d_La_law_368 : decode b_La_law 368 = .ok (.aload_n 0, 1) := by decide +kernel
theorem d_La_law_369 : decode b_La_law 369 = .ok (.iload 4, 2) := by decide +kernel
theorem d_La_law_371 : decode b_La_law 371 = .ok (.iconst 4, 1) := by decide +kernel
theorem d_La_law_372 : decode b_La_law 372 = .ok (.iadd, 1) := by decide +kernel
theorem d_La_law_373 : decode b_La_law 373 = .ok (.iaload, 1) := by decide +kernel
theorem d_La_law_374 : decode b_La_law 374 = .ok (.aload_n 3, 1) := by decide +kernel
theorem d_La_law_375 : decode b_La_law 375 = .ok (.invokestatic 56, 3) := by decide +kernel
theorem d_La_law_378 : decode b_La_law 378 = .ok (.istore 5, 2) := by decide +kernel
theorem d_La_law_380 : decode b_La_law 380 = .ok (.aload_n 2, 1) := by decide +kernel
theorem d_La_law_381 : decode b_La_law 381 = .ok (.aload_n 0, 1) := by decide +kernel
theorem d_La_law_382 : decode b_La_law 382 = .ok (.iload 4, 2) := by decide +kernel
theorem d_La_law_384 : decode b_La_law 384 = .ok (.iconst 1, 1) := by decide +kernel
theorem d_La_law_385 : decode b_La_law 385 = .ok (.iadd, 1) := by decide +kernel
theorem d_La_law_386 : decode b_La_law 386 = .ok (.iaload, 1) := by decide +kernel
theorem d_La_law_387 : decode b_La_law 387 = .ok (.aload_n 0, 1) := by decide +kernel
theorem d_La_law_388 : decode b_La_law 388 = .ok (.iload 4, 2) := by decide +kernel
theorem d_La_law_390 : decode b_La_law 390 = .ok (.iconst 2, 1) := by decide +kernel
theorem d_La_law_391 : decode b_La_law 391 = .ok (.iadd, 1) := by decide +kernel
theorem d_La_law_392 : decode b_La_law 392 = .ok (.iaload, 1) := by decide +kernel
theorem d_La_law_393 : decode b_La_law 393 = .ok (.aload_n 0, 1) := by decide +kernel
theorem d_La_law_394 : decode b_La_law 394 = .ok (.iload 4, 2) := by decide +kernel
theorem d_La_law_396 : decode b_La_law 396 = .ok (.iconst 3, 1) := by decide +kernel
theorem d_La_law_397 : decode b_La_law 397 = .ok (.iadd, 1) := by decide +kernel
theorem d_La_law_398 : decode b_La_law 398 = .ok (.iaload, 1) := by decide +kernel
theorem d_La_law_399 : decode b_La_law 399 = .ok (.aload_n 0, 1) := by decide +kernel
theorem d_La_law_400 : decode b_La_law 400 = .ok (.iload 4, 2) := by decide +kernel
theorem d_La_law_402 : decode b_La_law 402 = .ok (.iconst 4, 1) := by decide +kernel
theorem d_La_law_403 : decode b_La_law 403 = .ok (.iadd, 1) := by decide +kernel
theorem d_La_law_404 : decode b_La_law 404 = .ok (.iaload, 1) := by decide +kernel
theorem d_La_law_405 : decode b_La_law 405 = .ok (.invokevirtual 61, 3) := by decide +kernel
theorem d_La_law_408 : decode b_La_law 408 = .ok (.istore 6, 2) := by decide +kernel
theorem d_La_law_410 : decode b_La_law 410 = .ok (.aload_n 2, 1) := by decide +kernel
theorem d_La_law_411 : decode b_La_law 411 = .ok (.invokevirtual 62, 3) := by decide +kernel
theorem d_La_law_414 : decode b_La_law 414 = .ok (.iload 5, 2) := by decide +kernel
theorem d_La_law_416 : decode b_La_law 416 = .ok (.if_icmp .eq (5), 3) := by decide +kernel
theorem d_La_law_419 : decode b_La_law 419 = .ok (.iconst 0, 1) := by decide +kernel
theorem d_La_law_420 : decode b_La_law 420 = .ok (.ireturn, 1) := by decide +kernel
theorem d_La_law_421 : decode b_La_law 421 = .ok (.iload 5, 2) := by decide +kernel
theorem d_La_law_423 : decode b_La_law 423 = .ok (.ifCond .ne (22), 3) := by decide +kernel
theorem d_La_law_426 : decode b_La_law 426 = .ok (.aload_n 3, 1) := by decide +kernel
theorem d_La_law_427 : decode b_La_law 427 = .ok (.iconst 0, 1) := by decide +kernel
theorem d_La_law_428 : decode b_La_law 428 = .ok (.laload, 1) := by decide +kernel
theorem d_La_law_429 : decode b_La_law 429 = .ok (.iload 6, 2) := by decide +kernel
theorem d_La_law_431 : decode b_La_law 431 = .ok (.ifCond .eq (7), 3) := by decide +kernel
theorem d_La_law_434 : decode b_La_law 434 = .ok (.lconst 1, 1) := by decide +kernel
theorem d_La_law_435 : decode b_La_law 435 = .ok (.goto (4), 3) := by decide +kernel
theorem d_La_law_438 : decode b_La_law 438 = .ok (.lconst 0, 1) := by decide +kernel
theorem d_La_law_439 : decode b_La_law 439 = .ok (.lcmp, 1) := by decide +kernel
theorem d_La_law_440 : decode b_La_law 440 = .ok (.ifCond .eq (5), 3) := by decide +kernel
theorem d_La_law_443 : decode b_La_law 443 = .ok (.iconst 0, 1) := by decide +kernel
theorem d_La_law_444 : decode b_La_law 444 = .ok (.ireturn, 1) := by decide +kernel
theorem d_La_law_445 : decode b_La_law 445 = .ok (.goto (343), 3) := by decide +kernel
theorem d_La_law_448 : decode b_La_law 448 = .ok (.aload_n 1, 1) := by decide +kernel
theorem d_La_law_449 : decode b_La_law 449 = .ok (.aload_n 0, 1) := by decide +kernel
theorem d_La_law_450 : decode b_La_law 450 = .ok (.iload 4, 2) := by decide +kernel
theorem d_La_law_452 : decode b_La_law 452 = .ok (.iconst 1, 1) := by decide +kernel
theorem d_La_law_453 : decode b_La_law 453 = .ok (.iadd, 1) := by decide +kernel
theorem d_La_law_454 : decode b_La_law 454 = .ok (.iaload, 1) := by decide +kernel
theorem d_La_law_455 : decode b_La_law 455 = .ok (.invokevirtual 66, 3) := by decide +kernel
theorem d_La_law_458 : decode b_La_law 458 = .ok (.aload_n 2, 1) := by decide +kernel
theorem d_La_law_459 : decode b_La_law 459 = .ok (.aload_n 0, 1) := by decide +kernel
theorem d_La_law_460 : decode b_La_law 460 = .ok (.iload 4, 2) := by decide +kernel
theorem d_La_law_462 : decode b_La_law 462 = .ok (.iconst 1, 1) := by decide +kernel
theorem d_La_law_463 : decode b_La_law 463 = .ok (.iadd, 1) := by decide +kernel
theorem d_La_law_464 : decode b_La_law 464 = .ok (.iaload, 1) := by decide +kernel
theorem d_La_law_465 : decode b_La_law 465 = .ok (.invokevirtual 69, 3) := by decide +kernel
theorem d_La_law_468 : decode b_La_law 468 = .ok (.if_icmp .eq (320), 3) := by decide +kernel
theorem d_La_law_471 : decode b_La_law 471 = .ok (.iconst 0, 1) := by decide +kernel
theorem d_La_law_472 : decode b_La_law 472 = .ok (.ireturn, 1) := by decide +kernel
theorem d_La_law_473 : decode b_La_law 473 = .ok (.aload_n 1, 1) := by decide +kernel
theorem d_La_law_474 : decode b_La_law 474 = .ok (.aload_n 0, 1) := by decide +kernel
theorem d_La_law_475 : decode b_La_law 475 = .ok (.iload 4, 2) := by decide +kernel
theorem d_La_law_477 : decode b_La_law 477 = .ok (.iconst 1, 1) := by decide +kernel
theorem d_La_law_478 : decode b_La_law 478 = .ok (.iadd, 1) := by decide +kernel
theorem d_La_law_479 : decode b_La_law 479 = .ok (.iaload, 1) := by decide +kernel
theorem d_La_law_480 : decode b_La_law 480 = .ok (.aload_n 0, 1) := by decide +kernel
theorem d_La_law_481 : decode b_La_law 481 = .ok (.iload 4, 2) := by decide +kernel
theorem d_La_law_483 : decode b_La_law 483 = .ok (.iconst 2, 1) := by decide +kernel
theorem d_La_law_484 : decode b_La_law 484 = .ok (.iadd, 1) := by decide +kernel
theorem d_La_law_485 : decode b_La_law 485 = .ok (.iaload, 1) := by decide +kernel
theorem d_La_law_486 : decode b_La_law 486 = .ok (.invokevirtual 70, 3) := by decide +kernel
theorem d_La_law_489 : decode b_La_law 489 = .ok (.aload_n 2, 1) := by decide +kernel
theorem d_La_law_490 : decode b_La_law 490 = .ok (.aload_n 0, 1) := by decide +kernel
theorem d_La_law_491 : decode b_La_law 491 = .ok (.iload 4, 2) := by decide +kernel
theorem d_La_law_493 : decode b_La_law 493 = .ok (.iconst 1, 1) := by decide +kernel
theorem d_La_law_494 : decode b_La_law 494 = .ok (.iadd, 1) := by decide +kernel
theorem d_La_law_495 : decode b_La_law 495 = .ok (.iaload, 1) := by decide +kernel
theorem d_La_law_496 : decode b_La_law 496 = .ok (.aload_n 0, 1) := by decide +kernel
theorem d_La_law_497 : decode b_La_law 497 = .ok (.iload 4, 2) := by decide +kernel
theorem d_La_law_499 : decode b_La_law 499 = .ok (.iconst 2, 1) := by decide +kernel
theorem d_La_law_500 : decode b_La_law 500 = .ok (.iadd, 1) := by decide +kernel
theorem d_La_law_501 : decode b_La_law 501 = .ok (.iaload, 1) := by decide +kernel
theorem d_La_law_502 : decode b_La_law 502 = .ok (.invokevirtual 73, 3) := by decide +kernel
theorem d_La_law_505 : decode b_La_law 505 = .ok (.if_icmp .eq (283), 3) := by decide +kernel
theorem d_La_law_508 : decode b_La_law 508 = .ok (.iconst 0, 1) := by decide +kernel
theorem d_La_law_509 : decode b_La_law 509 = .ok (.ireturn, 1) := by decide +kernel
theorem d_La_law_510 : decode b_La_law 510 = .ok (.aload_n 1, 1) := by decide +kernel
theorem d_La_law_511 : decode b_La_law 511 = .ok (.aload_n 0, 1) := by decide +kernel
theorem d_La_law_512 : decode b_La_law 512 = .ok (.iload 4, 2) := by decide +kernel
theorem d_La_law_514 : decode b_La_law 514 = .ok (.iconst 1, 1) := by decide +kernel
theorem d_La_law_515 : decode b_La_law 515 = .ok (.iadd, 1) := by decide +kernel
theorem d_La_law_516 : decode b_La_law 516 = .ok (.iaload, 1) := by decide +kernel
theorem d_La_law_517 : decode b_La_law 517 = .ok (.invokevirtual 74, 3) := by decide +kernel
theorem d_La_law_520 : decode b_La_law 520 = .ok (.aload_n 2, 1) := by decide +kernel
theorem d_La_law_521 : decode b_La_law 521 = .ok (.aload_n 0, 1) := by decide +kernel
theorem d_La_law_522 : decode b_La_law 522 = .ok (.iload 4, 2) := by decide +kernel
theorem d_La_law_524 : decode b_La_law 524 = .ok (.iconst 1, 1) := by decide +kernel
theorem d_La_law_525 : decode b_La_law 525 = .ok (.iadd, 1) := by decide +kernel
theorem d_La_law_526 : decode b_La_law 526 = .ok (.iaload, 1) := by decide +kernel
theorem d_La_law_527 : decode b_La_law 527 = .ok (.invokevirtual 77, 3) := by decide +kernel
theorem d_La_law_530 : decode b_La_law 530 = .ok (.if_icmp .eq (258), 3) := by decide +kernel
theorem d_La_law_533 : decode b_La_law 533 = .ok (.iconst 0, 1) := by decide +kernel
theorem d_La_law_534 : decode b_La_law 534 = .ok (.ireturn, 1) := by decide +kernel
theorem d_La_law_535 : decode b_La_law 535 = .ok (.aload_n 1, 1) := by decide +kernel
theorem d_La_law_536 : decode b_La_law 536 = .ok (.aload_n 0, 1) := by decide +kernel
theorem d_La_law_537 : decode b_La_law 537 = .ok (.iload 4, 2) := by decide +kernel
theorem d_La_law_539 : decode b_La_law 539 = .ok (.iconst 1, 1) := by decide +kernel
theorem d_La_law_540 : decode b_La_law 540 = .ok (.iadd, 1) := by decide +kernel
theorem d_La_law_541 : decode b_La_law 541 = .ok (.iaload, 1) := by decide +kernel
theorem d_La_law_542 : decode b_La_law 542 = .ok (.aload_n 3, 1) := by decide +kernel
theorem d_La_law_543 : decode b_La_law 543 = .ok (.invokestatic 78, 3) := by decide +kernel
theorem d_La_law_546 : decode b_La_law 546 = .ok (.istore 5, 2) := by decide +kernel
theorem d_La_law_548 : decode b_La_law 548 = .ok (.aload_n 2, 1) := by decide +kernel
theorem d_La_law_549 : decode b_La_law 549 = .ok (.aload_n 0, 1) := by decide +kernel
theorem d_La_law_550 : decode b_La_law 550 = .ok (.iload 4, 2) := by decide +kernel
end
section
theorem d_La_law_552 : decode b_La_law 552 = .ok (.iconst 1, 1) := by decide +kernel
theorem d_La_law_553 : decode b_La_law 553 = .ok (.iadd, 1) := by decide +kernel
theorem d_La_law_554 : decode b_La_law 554 = .ok (.iaload, 1) := by decide +kernel
theorem d_La_law_555 : decode b_La_law 555 = .ok (.invokevirtual 81, 3) := by decide +kernel
theorem d_La_law_558 : decode b_La_law 558 = .ok (.istore 6, 2) := by decide +kernel
theorem d_La_law_560 : decode b_La_law 560 = .ok (.aload_n 2, 1) := by decide +kernel
theorem d_La_law_561 : decode b_La_law 561 = .ok (.invokevirtual 62, 3) := by decide +kernel
theorem d_La_law_564 : decode b_La_law 564 = .ok (.iload 5, 2) := by decide +kernel
theorem d_La_law_566 : decode b_La_law 566 = .ok (.if_icmp .eq (5), 3) := by decide +kernel
theorem d_La_law_569 : decode b_La_law 569 = .ok (.iconst 0, 1) := by decide +kernel
theorem d_La_law_570 : decode b_La_law 570 = .ok (.ireturn, 1) := by decide +kernel
theorem d_La_law_571 : decode b_La_law 571 = .ok (.iload 5, 2) := by decide +kernel
theorem d_La_law_573 : decode b_La_law 573 = .ok (.ifCond .ne (15), 3) := by decide +kernel
theorem d_La_law_576 : decode b_La_law 576 = .ok (.aload_n 3, 1) := by decide +kernel
theorem d_La_law_577 : decode b_La_law 577 = .ok (.iconst 0, 1) := by decide +kernel
theorem d_La_law_578 : decode b_La_law 578 = .ok (.laload, 1) := by decide +kernel
theorem d_La_law_579 : decode b_La_law 579 = .ok (.iload 6, 2) := by decide +kernel
theorem d_La_law_581 : decode b_La_law 581 = .ok (.i2l, 1) := by decide +kernel
theorem d_La_law_582 : decode b_La_law 582 = .ok (.lcmp, 1) := by decide +kernel
theorem d_La_law_583 : decode b_La_law 583 = .ok (.ifCond .eq (5), 3) := by decide +kernel
theorem d_La_law_586 : decode b_La_law 586 = .ok (.iconst 0, 1) := by decide +kernel
theorem d_La_law_587 : decode b_La_law 587 = .ok (.ireturn, 1) := by decide +kernel
theorem d_La_law_588 : decode b_La_law 588 = .ok (.goto (200), 3) := by decide +kernel
theorem d_La_law_591 : decode b_La_law 591 = .ok (.aload_n 1, 1) := by decide +kernel
theorem d_La_law_592 : decode b_La_law 592 = .ok (.aload_n 0, 1) := by decide +kernel
theorem d_La_law_593 : decode b_La_law 593 = .ok (.iload 4, 2) := by decide +kernel
theorem d_La_law_595 : decode b_La_law 595 = .ok (.iconst 1, 1) := by decide +kernel
theorem d_La_law_596 : decode b_La_law 596 = .ok (.iadd, 1) := by decide +kernel
theorem d_La_law_597 : decode b_La_law 597 = .ok (.iaload, 1) := by decide +kernel
theorem d_La_law_598 : decode b_La_law 598 = .ok (.aload_n 0, 1) := by decide +kernel
theorem d_La_law_599 : decode b_La_law 599 = .ok (.iload 4, 2) := by decide +kernel
theorem d_La_law_601 : decode b_La_law 601 = .ok (.iconst 2, 1) := by decide +kernel
theorem d_La_law_602 : decode b_La_law 602 = .ok (.iadd, 1) := by decide +kernel
theorem d_La_law_603 : decode b_La_law 603 = .ok (.iaload, 1) := by decide +kernel
theorem d_La_law_604 : decode b_La_law 604 = .ok (.aload_n 3, 1) := by decide +kernel
theorem d_La_law_605 : decode b_La_law 605 = .ok (.invokestatic 82, 3) := by decide +kernel
theorem d_La_law_608 : decode b_La_law 608 = .ok (.istore 5, 2) := by decide +kernel
theorem d_La_law_610 : decode b_La_law 610 = .ok (.aload_n 2, 1) := by decide +kernel
theorem d_La_law_611 : decode b_La_law 611 = .ok (.aload_n 0, 1) := by decide +kernel
theorem d_La_law_612 : decode b_La_law 612 = .ok (.iload 4, 2) := by decide +kernel
theorem d_La_law_614 : decode b_La_law 614 = .ok (.iconst 1, 1) := by decide +kernel
theorem d_La_law_615 : decode b_La_law 615 = .ok (.iadd, 1) := by decide +kernel
theorem d_La_law_616 : decode b_La_law 616 = .ok (.iaload, 1) := by decide +kernel
theorem d_La_law_617 : decode b_La_law 617 = .ok (.aload_n 0, 1) := by decide +kernel
theorem d_La_law_618 : decode b_La_law 618 = .ok (.iload 4, 2) := by decide +kernel
theorem d_La_law_620 : decode b_La_law 620 = .ok (.iconst 2, 1) := by decide +kernel
theorem d_La_law_621 : decode b_La_law 621 = .ok (.iadd, 1) := by decide +kernel
theorem d_La_law_622 : decode b_La_law 622 = .ok (.iaload, 1) := by decide +kernel
theorem d_La_law_623 : decode b_La_law 623 = .ok (.invokevirtual 85, 3) := by decide +kernel
theorem d_La_law_626 : decode b_La_law 626 = .ok (.istore 6, 2) := by decide +kernel
theorem d_La_law_628 : decode b_La_law 628 = .ok (.aload_n 2, 1) := by decide +kernel
theorem d_La_law_629 : decode b_La_law 629 = .ok (.invokevirtual 62, 3) := by decide +kernel
theorem d_La_law_632 : decode b_La_law 632 = .ok (.iload 5, 2) := by decide +kernel
theorem d_La_law_634 : decode b_La_law 634 = .ok (.if_icmp .eq (5), 3) := by decide +kernel
theorem d_La_law_637 : decode b_La_law 637 = .ok (.iconst 0, 1) := by decide +kernel
theorem d_La_law_638 : decode b_La_law 638 = .ok (.ireturn, 1) := by decide +kernel
theorem d_La_law_639 : decode b_La_law 639 = .ok (.iload 5, 2) := by decide +kernel
theorem d_La_law_641 : decode b_La_law 641 = .ok (.ifCond .ne (15), 3) := by decide +kernel
theorem d_La_law_644 : decode b_La_law 644 = .ok (.aload_n 3, 1) := by decide +kernel
theorem d_La_law_645 : decode b_La_law 645 = .ok (.iconst 0, 1) := by decide +kernel
theorem d_La_law_646 : decode b_La_law 646 = .ok (.laload, 1) := by decide +kernel
theorem d_La_law_647 : decode b_La_law 647 = .ok (.iload 6, 2) := by decide +kernel
theorem d_La_law_649 : decode b_La_law 649 = .ok (.i2l, 1) := by decide +kernel
theorem d_La_law_650 : decode b_La_law 650 = .ok (.lcmp, 1) := by decide +kernel
theorem d_La_law_651 : decode b_La_law 651 = .ok (.ifCond .eq (5), 3) := by decide +kernel
theorem d_La_law_654 : decode b_La_law 654 = .ok (.iconst 0, 1) := by decide +kernel
theorem d_La_law_655 : decode b_La_law 655 = .ok (.ireturn, 1) := by decide +kernel
theorem d_La_law_656 : decode b_La_law 656 = .ok (.goto (132), 3) := by decide +kernel
theorem d_La_law_659 : decode b_La_law 659 = .ok (.aload_n 1, 1) := by decide +kernel
theorem d_La_law_660 : decode b_La_law 660 = .ok (.aload_n 0, 1) := by decide +kernel
theorem d_La_law_661 : decode b_La_law 661 = .ok (.iload 4, 2) := by decide +kernel
theorem d_La_law_663 : decode b_La_law 663 = .ok (.iconst 1, 1) := by decide +kernel
theorem d_La_law_664 : decode b_La_law 664 = .ok (.iadd, 1) := by decide +kernel
theorem d_La_law_665 : decode b_La_law 665 = .ok (.iaload, 1) := by decide +kernel
theorem d_La_law_666 : decode b_La_law 666 = .ok (.aload_n 3, 1) := by decide +kernel
theorem d_La_law_667 : decode b_La_law 667 = .ok (.invokestatic 86, 3) := by decide +kernel
theorem d_La_law_670 : decode b_La_law 670 = .ok (.istore 5, 2) := by decide +kernel
theorem d_La_law_672 : decode b_La_law 672 = .ok (.aload_n 2, 1) := by decide +kernel
theorem d_La_law_673 : decode b_La_law 673 = .ok (.aload_n 0, 1) := by decide +kernel
theorem d_La_law_674 : decode b_La_law 674 = .ok (.iload 4, 2) := by decide +kernel
theorem d_La_law_676 : decode b_La_law 676 = .ok (.iconst 1, 1) := by decide +kernel
theorem d_La_law_677 : decode b_La_law 677 = .ok (.iadd, 1) := by decide +kernel
theorem d_La_law_678 : decode b_La_law 678 = .ok (.iaload, 1) := by decide +kernel
theorem d_La_law_679 : decode b_La_law 679 = .ok (.invokevirtual 88, 3) := by decide +kernel
theorem d_La_law_682 : decode b_La_law 682 = .ok (.istore 6, 2) := by decide +kernel
theorem d_La_law_684 : decode b_La_law 684 = .ok (.aload_n 2, 1) := by decide +kernel
theorem d_La_law_685 : decode b_La_law 685 = .ok (.invokevirtual 62, 3) := by decide +kernel
theorem d_La_law_688 : decode b_La_law 688 = .ok (.iload 5, 2) := by decide +kernel
theorem d_La_law_690 : decode b_La_law 690 = .ok (.if_icmp .eq (5), 3) := by decide +kernel
theorem d_La_law_693 : decode b_La_law 693 = .ok (.iconst 0, 1) := by decide +kernel
theorem d_La_law_694 : decode b_La_law 694 = .ok (.ireturn, 1) := by decide +kernel
theorem d_La_law_695 : decode b_La_law 695 = .ok (.iload 5, 2) := by decide +kernel
theorem d_La_law_697 : decode b_La_law 697 = .ok (.ifCond .ne (15), 3) := by decide +kernel
theorem d_La_law_700 : decode b_La_law 700 = .ok (.aload_n 3, 1) := by decide +kernel
theorem d_La_law_701 : decode b_La_law 701 = .ok (.iconst 0, 1) := by decide +kernel
theorem d_La_law_702 : decode b_La_law 702 = .ok (.laload, 1) := by decide +kernel
theorem d_La_law_703 : decode b_La_law 703 = .ok (.iload 6, 2) := by decide +kernel
theorem d_La_law_705 : decode b_La_law 705 = .ok (.i2l, 1) := by decide +kernel
theorem d_La_law_706 : decode b_La_law 706 = .ok (.lcmp, 1) := by decide +kernel
theorem d_La_law_707 : decode b_La_law 707 = .ok (.ifCond .eq (5), 3) := by decide +kernel
theorem d_La_law_710 : decode b_La_law 710 = .ok (.iconst 0, 1) := by decide +kernel
theorem d_La_law_711 : decode b_La_law 711 = .ok (.ireturn, 1) := by decide +kernel
theorem d_La_law_712 : decode b_La_law 712 = .ok (.goto (76), 3) := by decide +kernel
theorem d_La_law_715 : decode b_La_law 715 = .ok (.aload_n 1, 1) := by decide +kernel
theorem d_La_law_716 : decode b_La_law 716 = .ok (.aload_n 0, 1) := by decide +kernel
theorem d_La_law_717 : decode b_La_law 717 = .ok (.iload 4, 2) := by decide +kernel
theorem d_La_law_719 : decode b_La_law 719 = .ok (.iconst 1, 1) := by decide +kernel
theorem d_La_law_720 : decode b_La_law 720 = .ok (.iadd, 1) := by decide +kernel
theorem d_La_law_721 : decode b_La_law 721 = .ok (.iaload, 1) := by decide +kernel
theorem d_La_law_722 : decode b_La_law 722 = .ok (.aload_n 0, 1) := by decide +kernel
theorem d_La_law_723 : decode b_La_law 723 = .ok (.iload 4, 2) := by decide +kernel
theorem d_La_law_725 : decode b_La_law 725 = .ok (.iconst 2, 1) := by decide +kernel
theorem d_La_law_726 : decode b_La_law 726 = .ok (.iadd, 1) := by decide +kernel
theorem d_La_law_727 : decode b_La_law 727 = .ok (.iaload, 1) := by decide +kernel
theorem d_La_law_728 : decode b_La_law 728 = .ok (.invokevirtual 89, 3) := by decide +kernel
theorem d_La_law_731 : decode b_La_law 731 = .ok (.aload_n 2, 1) := by decide +kernel
theorem d_La_law_732 : decode b_La_law 732 = .ok (.aload_n 0, 1) := by decide +kernel
theorem d_La_law_733 : decode b_La_law 733 = .ok (.iload 4, 2) := by decide +kernel
theorem d_La_law_735 : decode b_La_law 735 = .ok (.iconst 1, 1) := by decide +kernel
theorem d_La_law_736 : decode b_La_law 736 = .ok (.iadd, 1) := by decide +kernel
theorem d_La_law_737 : decode b_La_law 737 = .ok (.iaload, 1) := by decide +kernel
theorem d_La_law_738 : decode b_La_law 738 = .ok (.aload_n 0, 1) := by decide +kernel
theorem d_La_law_739 : decode b_La_law 739 = .ok (.iload 4, 2) := by decide +kernel
theorem d_La_law_741 : decode b_La_law 741 = .ok (.iconst 2, 1) := by decide +kernel
theorem d_La_law_742 : decode b_La_law 742 = .ok (.iadd, 1) := by decide +kernel
theorem d_La_law_743 : decode b_La_law 743 = .ok (.iaload, 1) := by decide +kernel
theorem d_La_law_744 : decode b_La_law 744 = .ok (.invokevirtual 92, 3) := by decide +kernel
theorem d_La_law_747 : decode b_La_law 747 = .ok (.if_icmp .eq (41), 3) := by decide +kernel
theorem d_La_law_750 : decode b_La_law 750 = .ok (.iconst 0, 1) := by decide +kernel
theorem d_La_law_751 : decode b_La_law 751 = .ok (.ireturn, 1) := by decide +kernel
theorem d_La_law_752 : decode b_La_law 752 = .ok (.aload_n 1, 1) := by decide +kernel
theorem d_La_law_753 : decode b_La_law 753 = .ok (.invokevirtual 93, 3) := by decide +kernel
theorem d_La_law_756 : decode b_La_law 756 = .ok (.aload_n 2, 1) := by decide +kernel
theorem d_La_law_757 : decode b_La_law 757 = .ok (.invokevirtual 96, 3) := by decide +kernel
theorem d_La_law_760 : decode b_La_law 760 = .ok (.goto (28), 3) := by decide +kernel
theorem d_La_law_763 : decode b_La_law 763 = .ok (.aload_n 1, 1) := by decide +kernel
theorem d_La_law_764 : decode b_La_law 764 = .ok (.aload_n 0, 1) := by decide +kernel
theorem d_La_law_765 : decode b_La_law 765 = .ok (.iload 4, 2) := by decide +kernel
theorem d_La_law_767 : decode b_La_law 767 = .ok (.iconst 1, 1) := by decide +kernel
theorem d_La_law_768 : decode b_La_law 768 = .ok (.iadd, 1) := by decide +kernel
theorem d_La_law_769 : decode b_La_law 769 = .ok (.iaload, 1) := by decide +kernel
theorem d_La_law_770 : decode b_La_law 770 = .ok (.invokevirtual 97, 3) := by decide +kernel
theorem d_La_law_773 : decode b_La_law 773 = .ok (.aload_n 2, 1) := by decide +kernel
theorem d_La_law_774 : decode b_La_law 774 = .ok (.aload_n 0, 1) := by decide +kernel
theorem d_La_law_775 : decode b_La_law 775 = .ok (.iload 4, 2) := by decide +kernel
theorem d_La_law_777 : decode b_La_law 777 = .ok (.iconst 1, 1) := by decide +kernel
theorem d_La_law_778 : decode b_La_law 778 = .ok (.iadd, 1) := by decide +kernel
theorem d_La_law_779 : decode b_La_law 779 = .ok (.iaload, 1) := by decide +kernel
theorem d_La_law_780 : decode b_La_law 780 = .ok (.invokevirtual 100, 3) := by decide +kernel
theorem d_La_law_783 : decode b_La_law 783 = .ok (.if_icmp .eq (5), 3) := by decide +kernel
theorem d_La_law_786 : decode b_La_law 786 = .ok (.iconst 0, 1) := by decide +kernel
theorem d_La_law_787 : decode b_La_law 787 = .ok (.ireturn, 1) := by decide +kernel
theorem d_La_law_788 : decode b_La_law 788 = .ok (.iinc 4 (6), 3) := by decide +kernel
theorem d_La_law_791 : decode b_La_law 791 = .ok (.goto (-768), 3) := by decide +kernel
theorem d_La_law_794 : decode b_La_law 794 = .ok (.iconst 1, 1) := by decide +kernel
theorem d_La_law_795 : decode b_La_law 795 = .ok (.ireturn, 1) := by decide +kernel
end
section
theorem d_MT_init_0 : decode b_MT_init 0 = .ok (.aload_n 0, 1) := by decide +kernel
theorem d_MT_init_1 : decode b_MT_init 1 = .ok (.invokespecial 3, 3) := by decide +kernel
theorem d_MT_init_4 : decode b_MT_init 4 = .ok (.aload_n 0, 1) := by decide +kernel
theorem d_MT_init_5 : decode b_MT_init 5 = .ok (.bipush (12), 2) := by decide +kernel
theorem d_MT_init_7 : decode b_MT_init 7 = .ok (.anewarray 9, 3) := by decide +kernel
theorem d_MT_init_10 : decode b_MT_init 10 = .ok (.putfield 11, 3) := by decide +kernel
theorem d_MT_init_13 : decode b_MT_init 13 = .ok (.aload_n 0, 1) := by decide +kernel
theorem d_MT_init_14 : decode b_MT_init 14 = .ok (.new 15, 3) := by decide +kernel
theorem d_MT_init_17 : decode b_MT_init 17 = .ok (.dup, 1) := by decide +kernel
theorem d_MT_init_18 : decode b_MT_init 18 = .ok (.invokespecial 17, 3) := by decide +kernel
theorem d_MT_init_21 : decode b_MT_init 21 = .ok (.putfield 18, 3) := by decide +kernel
theorem d_MT_init_24 : decode b_MT_init 24 = .ok (.aload_n 0, 1) := by decide +kernel
theorem d_MT_init_25 : decode b_MT_init 25 = .ok (.new 22, 3) := by decide +kernel
theorem d_MT_init_28 : decode b_MT_init 28 = .ok (.dup, 1) := by decide +kernel
theorem d_MT_init_29 : decode b_MT_init 29 = .ok (.invokespecial 24, 3) := by decide +kernel
theorem d_MT_init_32 : decode b_MT_init 32 = .ok (.putfield 25, 3) := by decide +kernel
theorem d_MT_init_35 : decode b_MT_init 35 = .ok (.aload_n 0, 1) := by decide +kernel
theorem d_MT_init_36 : decode b_MT_init 36 = .ok (.iconst 0, 1) := by decide +kernel
theorem d_MT_init_37 : decode b_MT_init 37 = .ok (.putfield 29, 3) := by decide +kernel
theorem d_MT_init_40 : decode b_MT_init 40 = .ok (.aload_n 0, 1) := by decide +kernel
theorem d_MT_init_41 : decode b_MT_init 41 = .ok (.iconst 0, 1) := by decide +kernel
theorem d_MT_init_42 : decode b_MT_init 42 = .ok (.newarray .int, 2) := by decide +kernel
theorem d_MT_init_44 : decode b_MT_init 44 = .ok (.putfield 33, 3) := by decide +kernel
theorem d_MT_init_47 : decode b_MT_init 47 = .ok (.return_, 1) := by decide +kernel
theorem d_MT_machine_0 : decode b_MT_machine 0 = .ok (.iload_n 1, 1) := by decide +kernel
theorem d_MT_machine_1 : decode b_MT_machine 1 = .ok (.iconst 1, 1) := by decide +kernel
theorem d_MT_machine_2 : decode b_MT_machine 2 = .ok (.if_icmp .lt (26), 3) := by decide +kernel
theorem d_MT_machine_5 : decode b_MT_machine 5 = .ok (.iload_n 1, 1) := by decide +kernel
theorem d_MT_machine_6 : decode b_MT_machine 6 = .ok (.bipush (40), 2) := by decide +kernel
theorem d_MT_machine_8 : decode b_MT_machine 8 = .ok (.if_icmp .gt (20), 3) := by decide +kernel
theorem d_MT_machine_11 : decode b_MT_machine 11 = .ok (.iload_n 2, 1) := by decide +kernel
theorem d_MT_machine_12 : decode b_MT_machine 12 = .ok (.iconst 1, 1) := by decide +kernel
theorem d_MT_machine_13 : decode b_MT_machine 13 = .ok (.if_icmp .lt (15), 3) := by decide +kernel
theorem d_MT_machine_16 : decode b_MT_machine 16 = .ok (.iload_n 2, 1) := by decide +kernel
theorem d_MT_machine_17 : decode b_MT_machine 17 = .ok (.iconst 4, 1) := by decide +kernel
theorem d_MT_machine_18 : decode b_MT_machine 18 = .ok (.if_icmp .gt (10), 3) := by decide +kernel
theorem d_MT_machine_21 : decode b_MT_machine 21 = .ok (.aload_n 0, 1) := by decide +kernel
theorem d_MT_machine_22 : decode b_MT_machine 22 = .ok (.invokevirtual 37, 3) := by decide +kernel
theorem d_MT_machine_25 : decode b_MT_machine 25 = .ok (.ifCond .eq (5), 3) := by decide +kernel
theorem d_MT_machine_28 : decode b_MT_machine 28 = .ok (.iconst (-1), 1) := by decide +kernel
theorem d_MT_machine_29 : decode b_MT_machine 29 = .ok (.ireturn, 1) := by decide +kernel
theorem d_MT_machine_30 : decode b_MT_machine 30 = .ok (.aload_n 0, 1) := by decide +kernel
theorem d_MT_machine_31 : decode b_MT_machine 31 = .ok (.iload_n 1, 1) := by decide +kernel
theorem d_MT_machine_32 : decode b_MT_machine 32 = .ok (.iload_n 2, 1) := by decide +kernel
theorem d_MT_machine_33 : decode b_MT_machine 33 = .ok (.invokevirtual 41, 3) := by decide +kernel
theorem d_MT_machine_36 : decode b_MT_machine 36 = .ok (.pop, 1) := by decide +kernel
theorem d_MT_machine_37 : decode b_MT_machine 37 = .ok (.aload_n 0, 1) := by decide +kernel
theorem d_MT_machine_38 : decode b_MT_machine 38 = .ok (.getfield 29, 3) := by decide +kernel
theorem d_MT_machine_41 : decode b_MT_machine 41 = .ok (.iconst 1, 1) := by decide +kernel
theorem d_MT_machine_42 : decode b_MT_machine 42 = .ok (.isub, 1) := by decide +kernel
theorem d_MT_machine_43 : decode b_MT_machine 43 = .ok (.ireturn, 1) := by decide +kernel
theorem d_MT_arrow_0 : decode b_MT_arrow 0 = .ok (.aload_n 0, 1) := by decide +kernel
theorem d_MT_arrow_1 : decode b_MT_arrow 1 = .ok (.iload_n 1, 1) := by decide +kernel
theorem d_MT_arrow_2 : decode b_MT_arrow 2 = .ok (.invokevirtual 45, 3) := by decide +kernel
theorem d_MT_arrow_5 : decode b_MT_arrow 5 = .ok (.astore 6, 2) := by decide +kernel
theorem d_MT_arrow_7 : decode b_MT_arrow 7 = .ok (.aload 6, 2) := by decide +kernel
theorem d_MT_arrow_9 : decode b_MT_arrow 9 = .ok (.ifnull (31), 3) := by decide +kernel
theorem d_MT_arrow_12 : decode b_MT_arrow 12 = .ok (.aload 6, 2) := by decide +kernel
theorem d_MT_arrow_14 : decode b_MT_arrow 14 = .ok (.iload_n 2, 1) := by decide +kernel
theorem d_MT_arrow_15 : decode b_MT_arrow 15 = .ok (.invokevirtual 49, 3) := by decide +kernel
theorem d_MT_arrow_18 : decode b_MT_arrow 18 = .ok (.ifCond .eq (22), 3) := by decide +kernel
theorem d_MT_arrow_21 : decode b_MT_arrow 21 = .ok (.aload 6, 2) := by decide +kernel
theorem d_MT_arrow_23 : decode b_MT_arrow 23 = .ok (.iload_n 3, 1) := by decide +kernel
theorem d_MT_arrow_24 : decode b_MT_arrow 24 = .ok (.invokevirtual 53, 3) := by decide +kernel
theorem d_MT_arrow_27 : decode b_MT_arrow 27 = .ok (.ifCond .eq (13), 3) := by decide +kernel
theorem d_MT_arrow_30 : decode b_MT_arrow 30 = .ok (.aload 6, 2) := by decide +kernel
theorem d_MT_arrow_32 : decode b_MT_arrow 32 = .ok (.iload 4, 2) := by decide +kernel
theorem d_MT_arrow_34 : decode b_MT_arrow 34 = .ok (.invokevirtual 49, 3) := by decide +kernel
theorem d_MT_arrow_37 : decode b_MT_arrow 37 = .ok (.ifCond .ne (5), 3) := by decide +kernel
theorem d_MT_arrow_40 : decode b_MT_arrow 40 = .ok (.iconst 0, 1) := by decide +kernel
theorem d_MT_arrow_41 : decode b_MT_arrow 41 = .ok (.ireturn, 1) := by decide +kernel
theorem d_MT_arrow_42 : decode b_MT_arrow 42 = .ok (.iload 5, 2) := by decide +kernel
theorem d_MT_arrow_44 : decode b_MT_arrow 44 = .ok (.ifCond .lt (10), 3) := by decide +kernel
theorem d_MT_arrow_47 : decode b_MT_arrow 47 = .ok (.iload 5, 2) := by decide +kernel
theorem d_MT_arrow_49 : decode b_MT_arrow 49 = .ok (.bipush (10), 2) := by decide +kernel
theorem d_MT_arrow_51 : decode b_MT_arrow 51 = .ok (.if_icmp .lt (5), 3) := by decide +kernel
theorem d_MT_arrow_54 : decode b_MT_arrow 54 = .ok (.iconst 0, 1) := by decide +kernel
theorem d_MT_arrow_55 : decode b_MT_arrow 55 = .ok (.ireturn, 1) := by decide +kernel
theorem d_MT_arrow_56 : decode b_MT_arrow 56 = .ok (.aload 6, 2) := by decide +kernel
theorem d_MT_arrow_58 : decode b_MT_arrow 58 = .ok (.iload_n 2, 1) := by decide +kernel
theorem d_MT_arrow_59 : decode b_MT_arrow 59 = .ok (.iload_n 3, 1) := by decide +kernel
theorem d_MT_arrow_60 : decode b_MT_arrow 60 = .ok (.iload 4, 2) := by decide +kernel
theorem d_MT_arrow_62 : decode b_MT_arrow 62 = .ok (.iload 5, 2) := by decide +kernel
theorem d_MT_arrow_64 : decode b_MT_arrow 64 = .ok (.invokevirtual 56, 3) := by decide +kernel
theorem d_MT_arrow_67 : decode b_MT_arrow 67 = .ok (.iconst 1, 1) := by decide +kernel
theorem d_MT_arrow_68 : decode b_MT_arrow 68 = .ok (.ireturn, 1) := by decide +kernel
theorem d_MT_look_0 : decode b_MT_look 0 = .ok (.aload_n 0, 1) := by decide +kernel
theorem d_MT_look_1 : decode b_MT_look 1 = .ok (.iload_n 1, 1) := by decide +kernel
theorem d_MT_look_2 : decode b_MT_look 2 = .ok (.invokevirtual 45, 3) := by decide +kernel
theorem d_MT_look_5 : decode b_MT_look 5 = .ok (.astore 5, 2) := by decide +kernel
theorem d_MT_look_7 : decode b_MT_look 7 = .ok (.aload 5, 2) := by decide +kernel
theorem d_MT_look_9 : decode b_MT_look 9 = .ok (.ifnull (21), 3) := by decide +kernel
theorem d_MT_look_12 : decode b_MT_look 12 = .ok (.aload 5, 2) := by decide +kernel
theorem d_MT_look_14 : decode b_MT_look 14 = .ok (.iload_n 2, 1) := by decide +kernel
theorem d_MT_look_15 : decode b_MT_look 15 = .ok (.invokevirtual 49, 3) := by decide +kernel
theorem d_MT_look_18 : decode b_MT_look 18 = .ok (.ifCond .eq (12), 3) := by decide +kernel
theorem d_MT_look_21 : decode b_MT_look 21 = .ok (.aload 5, 2) := by decide +kernel
theorem d_MT_look_23 : decode b_MT_look 23 = .ok (.iload_n 3, 1) := by decide +kernel
theorem d_MT_look_24 : decode b_MT_look 24 = .ok (.invokevirtual 53, 3) := by decide +kernel
theorem d_MT_look_27 : decode b_MT_look 27 = .ok (.ifCond .ne (5), 3) := by decide +kernel
theorem d_MT_look_30 : decode b_MT_look 30 = .ok (.iconst (-1), 1) := by decide +kernel
theorem d_MT_look_31 : decode b_MT_look 31 = .ok (.ireturn, 1) := by decide +kernel
theorem d_MT_look_32 : decode b_MT_look 32 = .ok (.iload 4, 2) := by decide +kernel
theorem d_MT_look_34 : decode b_MT_look 34 = .ok (.ifCond .ne (11), 3) := by decide +kernel
theorem d_MT_look_37 : decode b_MT_look 37 = .ok (.aload 5, 2) := by decide +kernel
theorem d_MT_look_39 : decode b_MT_look 39 = .ok (.iload_n 2, 1) := by decide +kernel
theorem d_MT_look_40 : decode b_MT_look 40 = .ok (.iload_n 3, 1) := by decide +kernel
theorem d_MT_look_41 : decode b_MT_look 41 = .ok (.invokevirtual 60, 3) := by decide +kernel
theorem d_MT_look_44 : decode b_MT_look 44 = .ok (.ireturn, 1) := by decide +kernel
theorem d_MT_look_45 : decode b_MT_look 45 = .ok (.iload 4, 2) := by decide +kernel
theorem d_MT_look_47 : decode b_MT_look 47 = .ok (.iconst 1, 1) := by decide +kernel
theorem d_MT_look_48 : decode b_MT_look 48 = .ok (.if_icmp .ne (13), 3) := by decide +kernel
theorem d_MT_look_51 : decode b_MT_look 51 = .ok (.aload 5, 2) := by decide +kernel
theorem d_MT_look_53 : decode b_MT_look 53 = .ok (.iload_n 2, 1) := by decide +kernel
theorem d_MT_look_54 : decode b_MT_look 54 = .ok (.iload_n 3, 1) := by decide +kernel
theorem d_MT_look_55 : decode b_MT_look 55 = .ok (.invokevirtual 64, 3) := by decide +kernel
theorem d_MT_look_58 : decode b_MT_look 58 = .ok (.goto (4), 3) := by decide +kernel
theorem d_MT_look_61 : decode b_MT_look 61 = .ok (.iconst (-1), 1) := by decide +kernel
theorem d_MT_look_62 : decode b_MT_look 62 = .ok (.ireturn, 1) := by decide +kernel
theorem d_MT_classes_0 : decode b_MT_classes 0 = .ok (.aload_n 0, 1) := by decide +kernel
theorem d_MT_classes_1 : decode b_MT_classes 1 = .ok (.iload_n 1, 1) := by decide +kernel
theorem d_MT_classes_2 : decode b_MT_classes 2 = .ok (.invokevirtual 45, 3) := by decide +kernel
theorem d_MT_classes_5 : decode b_MT_classes 5 = .ok (.astore_n 2, 1) := by decide +kernel
theorem d_MT_classes_6 : decode b_MT_classes 6 = .ok (.aload_n 2, 1) := by decide +kernel
theorem d_MT_classes_7 : decode b_MT_classes 7 = .ok (.ifnonnull (5), 3) := by decide +kernel
theorem d_MT_classes_10 : decode b_MT_classes 10 = .ok (.iconst (-1), 1) := by decide +kernel
theorem d_MT_classes_11 : decode b_MT_classes 11 = .ok (.ireturn, 1) := by decide +kernel
theorem d_MT_classes_12 : decode b_MT_classes 12 = .ok (.aload_n 2, 1) := by decide +kernel
theorem d_MT_classes_13 : decode b_MT_classes 13 = .ok (.invokevirtual 67, 3) := by decide +kernel
theorem d_MT_classes_16 : decode b_MT_classes 16 = .ok (.aload_n 2, 1) := by decide +kernel
theorem d_MT_classes_17 : decode b_MT_classes 17 = .ok (.invokevirtual 70, 3) := by decide +kernel
theorem d_MT_classes_20 : decode b_MT_classes 20 = .ok (.ireturn, 1) := by decide +kernel
theorem d_MT_like_0 : decode b_MT_like 0 = .ok (.aload_n 0, 1) := by decide +kernel
theorem d_MT_like_1 : decode b_MT_like 1 = .ok (.iload_n 1, 1) := by decide +kernel
theorem d_MT_like_2 : decode b_MT_like 2 = .ok (.invokevirtual 45, 3) := by decide +kernel
theorem d_MT_like_5 : decode b_MT_like 5 = .ok (.astore_n 3, 1) := by decide +kernel
theorem d_MT_like_6 : decode b_MT_like 6 = .ok (.aload_n 3, 1) := by decide +kernel
theorem d_MT_like_7 : decode b_MT_like 7 = .ok (.ifnull (11), 3) := by decide +kernel
theorem d_MT_like_10 : decode b_MT_like 10 = .ok (.aload_n 3, 1) := by decide +kernel
theorem d_MT_like_11 : decode b_MT_like 11 = .ok (.iload_n 2, 1) := by decide +kernel
theorem d_MT_like_12 : decode b_MT_like 12 = .ok (.invokevirtual 49, 3) := by decide +kernel
theorem d_MT_like_15 : decode b_MT_like 15 = .ok (.ifCond .ne (5), 3) := by decide +kernel
theorem d_MT_like_18 : decode b_MT_like 18 = .ok (.iconst (-1), 1) := by decide +kernel
theorem d_MT_like_19 : decode b_MT_like 19 = .ok (.ireturn, 1) := by decide +kernel
theorem d_MT_like_20 : decode b_MT_like 20 = .ok (.aload_n 3, 1) := by decide +kernel
theorem d_MT_like_21 : decode b_MT_like 21 = .ok (.invokevirtual 67, 3) := by decide +kernel
theorem d_MT_like_24 : decode b_MT_like 24 = .ok (.aload_n 3, 1) := by decide +kernel
theorem d_MT_like_25 : decode b_MT_like 25 = .ok (.iload_n 2, 1) := by decide +kernel
theorem d_MT_like_26 : decode b_MT_like 26 = .ok (.invokevirtual 74, 3) := by decide +kernel
theorem d_MT_like_29 : decode b_MT_like 29 = .ok (.ireturn, 1) := by decide +kernel
theorem d_MT_alike_0 : decode b_MT_alike 0 = .ok (.aload_n 0, 1) := by decide +kernel
theorem d_MT_alike_1 : decode b_MT_alike 1 = .ok (.iload_n 1, 1) := by decide +kernel
theorem d_MT_alike_2 : decode b_MT_alike 2 = .ok (.invokevirtual 45, 3) := by decide +kernel
theorem d_MT_alike_5 : decode b_MT_alike 5 = .ok (.astore 5, 2) := by decide +kernel
theorem d_MT_alike_7 : decode b_MT_alike 7 = .ok (.aload_n 0, 1) := by decide +kernel
theorem d_MT_alike_8 : decode b_MT_alike 8 = .ok (.iload_n 3, 1) := by decide +kernel
theorem d_MT_alike_9 : decode b_MT_alike 9 = .ok (.invokevirtual 45, 3) := by decide +kernel
theorem d_MT_alike_12 : decode b_MT_alike 12 = .ok (.astore 6, 2) := by decide +kernel
theorem d_MT_alike_14 : decode b_MT_alike 14 = .ok (.aload 5, 2) := by decide +kernel
theorem d_MT_alike_16 : decode b_MT_alike 16 = .ok (.ifnull (27), 3) := by decide +kernel
theorem d_MT_alike_19 : decode b_MT_alike 19 = .ok (.aload 6, 2) := by decide +kernel
theorem d_MT_alike_21 : decode b_MT_alike 21 = .ok (.ifnull (22), 3) := by decide +kernel
theorem d_MT_alike_24 : decode b_MT_alike 24 = .ok (.aload 5, 2) := by decide +kernel
theorem d_MT_alike_26 : decode b_MT_alike 26 = .ok (.iload_n 2, 1) := by decide +kernel
theorem d_MT_alike_27 : decode b_MT_alike 27 = .ok (.invokevirtual 49, 3) := by decide +kernel
theorem d_MT_alike_30 : decode b_MT_alike 30 = .ok (.ifCond .eq (13), 3) := by decide +kernel
theorem d_MT_alike_33 : decode b_MT_alike 33 = .ok (.aload 6, 2) := by decide +kernel
theorem d_MT_alike_35 : decode b_MT_alike 35 = .ok (.iload 4, 2) := by decide +kernel
theorem d_MT_alike_37 : decode b_MT_alike 37 = .ok (.invokevirtual 49, 3) := by decide +kernel
theorem d_MT_alike_40 : decode b_MT_alike 40 = .ok (.ifCond .ne (13), 3) := by decide +kernel
theorem d_MT_alike_43 : decode b_MT_alike 43 = .ok (.new 78, 3) := by decide +kernel
theorem d_MT_alike_46 : decode b_MT_alike 46 = .ok (.dup, 1) := by decide +kernel
theorem d_MT_alike_47 : decode b_MT_alike 47 = .ok (.ldc 80, 2) := by decide +kernel
theorem d_MT_alike_49 : decode b_MT_alike 49 = .ok (.invokespecial 82, 3) := by decide +kernel
theorem d_MT_alike_52 : decode b_MT_alike 52 = .ok (.athrow, 1) := by decide +kernel
theorem d_MT_alike_53 : decode b_MT_alike 53 = .ok (.aload 5, 2) := by decide +kernel
theorem d_MT_alike_55 : decode b_MT_alike 55 = .ok (.getfield 85, 3) := by decide +kernel
theorem d_MT_alike_58 : decode b_MT_alike 58 = .ok (.aload 6, 2) := by decide +kernel
theorem d_MT_alike_60 : decode b_MT_alike 60 = .ok (.getfield 85, 3) := by decide +kernel
theorem d_MT_alike_63 : decode b_MT_alike 63 = .ok (.if_icmp .eq (13), 3) := by decide +kernel
theorem d_MT_alike_66 : decode b_MT_alike 66 = .ok (.new 78, 3) := by decide +kernel
theorem d_MT_alike_69 : decode b_MT_alike 69 = .ok (.dup, 1) := by decide +kernel
theorem d_MT_alike_70 : decode b_MT_alike 70 = .ok (.ldc 88, 2) := by decide +kernel
theorem d_MT_alike_72 : decode b_MT_alike 72 = .ok (.invokespecial 82, 3) := by decide +kernel
theorem d_MT_alike_75 : decode b_MT_alike 75 = .ok (.athrow, 1) := by decide +kernel
theorem d_MT_alike_76 : decode b_MT_alike 76 = .ok (.aload_n 0, 1) := by decide +kernel
theorem d_MT_alike_77 : decode b_MT_alike 77 = .ok (.aload 5, 2) := by decide +kernel
theorem d_MT_alike_79 : decode b_MT_alike 79 = .ok (.iload_n 2, 1) := by decide +kernel
theorem d_MT_alike_80 : decode b_MT_alike 80 = .ok (.aload 6, 2) := by decide +kernel
theorem d_MT_alike_82 : decode b_MT_alike 82 = .ok (.iload 4, 2) := by decide +kernel
theorem d_MT_alike_84 : decode b_MT_alike 84 = .ok (.invokevirtual 90, 3) := by decide +kernel
theorem d_MT_alike_87 : decode b_MT_alike 87 = .ok (.istore 7, 2) := by decide +kernel
theorem d_MT_alike_89 : decode b_MT_alike 89 = .ok (.iload 7, 2) := by decide +kernel
theorem d_MT_alike_91 : decode b_MT_alike 91 = .ok (.iconst (-1), 1) := by decide +kernel
theorem d_MT_alike_92 : decode b_MT_alike 92 = .ok (.if_icmp .ne (5), 3) := by decide +kernel
theorem d_MT_alike_95 : decode b_MT_alike 95 = .ok (.iconst 1, 1) := by decide +kernel
theorem d_MT_alike_96 : decode b_MT_alike 96 = .ok (.ireturn, 1) := by decide +kernel
theorem d_MT_alike_97 : decode b_MT_alike 97 = .ok (.aload_n 0, 1) := by decide +kernel
theorem d_MT_alike_98 : decode b_MT_alike 98 = .ok (.iload 7, 2) := by decide +kernel
theorem d_MT_alike_100 : decode b_MT_alike 100 = .ok (.invokevirtual 94, 3) := by decide +kernel
end
section
theorem d_MT_alike_103 : decode b_MT_alike 103 = .ok (.pop, 1) := by decide +kernel
theorem d_MT_alike_104 : decode b_MT_alike 104 = .ok (.iconst 0, 1) := by decide +kernel
theorem d_MT_alike_105 : decode b_MT_alike 105 = .ok (.ireturn, 1) := by decide +kernel
theorem d_MT_least_0 : decode b_MT_least 0 = .ok (.aload_n 0, 1) := by decide +kernel
theorem d_MT_least_1 : decode b_MT_least 1 = .ok (.iload_n 1, 1) := by decide +kernel
theorem d_MT_least_2 : decode b_MT_least 2 = .ok (.invokevirtual 45, 3) := by decide +kernel
theorem d_MT_least_5 : decode b_MT_least 5 = .ok (.astore_n 2, 1) := by decide +kernel
theorem d_MT_least_6 : decode b_MT_least 6 = .ok (.aload_n 2, 1) := by decide +kernel
theorem d_MT_least_7 : decode b_MT_least 7 = .ok (.ifnull (10), 3) := by decide +kernel
theorem d_MT_least_10 : decode b_MT_least 10 = .ok (.aload_n 0, 1) := by decide +kernel
theorem d_MT_least_11 : decode b_MT_least 11 = .ok (.invokevirtual 37, 3) := by decide +kernel
theorem d_MT_least_14 : decode b_MT_least 14 = .ok (.ifCond .eq (5), 3) := by decide +kernel
theorem d_MT_least_17 : decode b_MT_least 17 = .ok (.iconst (-1), 1) := by decide +kernel
theorem d_MT_least_18 : decode b_MT_least 18 = .ok (.ireturn, 1) := by decide +kernel
theorem d_MT_least_19 : decode b_MT_least 19 = .ok (.aload_n 2, 1) := by decide +kernel
theorem d_MT_least_20 : decode b_MT_least 20 = .ok (.invokevirtual 67, 3) := by decide +kernel
theorem d_MT_least_23 : decode b_MT_least 23 = .ok (.aload_n 0, 1) := by decide +kernel
theorem d_MT_least_24 : decode b_MT_least 24 = .ok (.aload_n 2, 1) := by decide +kernel
theorem d_MT_least_25 : decode b_MT_least 25 = .ok (.invokevirtual 97, 3) := by decide +kernel
theorem d_MT_least_28 : decode b_MT_least 28 = .ok (.aload_n 0, 1) := by decide +kernel
theorem d_MT_least_29 : decode b_MT_least 29 = .ok (.aload_n 0, 1) := by decide +kernel
theorem d_MT_least_30 : decode b_MT_least 30 = .ok (.getfield 18, 3) := by decide +kernel
theorem d_MT_least_33 : decode b_MT_least 33 = .ok (.getfield 101, 3) := by decide +kernel
theorem d_MT_least_36 : decode b_MT_least 36 = .ok (.aload_n 2, 1) := by decide +kernel
theorem d_MT_least_37 : decode b_MT_least 37 = .ok (.getfield 85, 3) := by decide +kernel
theorem d_MT_least_40 : decode b_MT_least 40 = .ok (.invokevirtual 41, 3) := by decide +kernel
theorem d_MT_least_43 : decode b_MT_least 43 = .ok (.astore_n 3, 1) := by decide +kernel
theorem d_MT_least_44 : decode b_MT_least 44 = .ok (.iconst 0, 1) := by decide +kernel
theorem d_MT_least_45 : decode b_MT_least 45 = .ok (.istore 4, 2) := by decide +kernel
theorem d_MT_least_47 : decode b_MT_least 47 = .ok (.iload 4, 2) := by decide +kernel
theorem d_MT_least_49 : decode b_MT_least 49 = .ok (.aload_n 3, 1) := by decide +kernel
theorem d_MT_least_50 : decode b_MT_least 50 = .ok (.getfield 102, 3) := by decide +kernel
theorem d_MT_least_53 : decode b_MT_least 53 = .ok (.if_icmp .ge (77), 3) := by decide +kernel
theorem d_MT_least_56 : decode b_MT_least 56 = .ok (.aload_n 0, 1) := by decide +kernel
theorem d_MT_least_57 : decode b_MT_least 57 = .ok (.getfield 18, 3) := by decide +kernel
theorem d_MT_least_60 : decode b_MT_least 60 = .ok (.iload 4, 2) := by decide +kernel
theorem d_MT_least_62 : decode b_MT_least 62 = .ok (.invokevirtual 105, 3) := by decide +kernel
theorem d_MT_least_65 : decode b_MT_least 65 = .ok (.istore 5, 2) := by decide +kernel
theorem d_MT_least_67 : decode b_MT_least 67 = .ok (.iconst 0, 1) := by decide +kernel
theorem d_MT_least_68 : decode b_MT_least 68 = .ok (.istore 6, 2) := by decide +kernel
theorem d_MT_least_70 : decode b_MT_least 70 = .ok (.iload 6, 2) := by decide +kernel
theorem d_MT_least_72 : decode b_MT_least 72 = .ok (.aload_n 3, 1) := by decide +kernel
theorem d_MT_least_73 : decode b_MT_least 73 = .ok (.getfield 85, 3) := by decide +kernel
theorem d_MT_least_76 : decode b_MT_least 76 = .ok (.if_icmp .ge (48), 3) := by decide +kernel
theorem d_MT_least_79 : decode b_MT_least 79 = .ok (.aload_n 0, 1) := by decide +kernel
theorem d_MT_least_80 : decode b_MT_least 80 = .ok (.getfield 18, 3) := by decide +kernel
theorem d_MT_least_83 : decode b_MT_least 83 = .ok (.aload_n 2, 1) := by decide +kernel
theorem d_MT_least_84 : decode b_MT_least 84 = .ok (.aload_n 2, 1) := by decide +kernel
theorem d_MT_least_85 : decode b_MT_least 85 = .ok (.iload 5, 2) := by decide +kernel
theorem d_MT_least_87 : decode b_MT_least 87 = .ok (.iload 6, 2) := by decide +kernel
theorem d_MT_least_89 : decode b_MT_least 89 = .ok (.invokevirtual 60, 3) := by decide +kernel
theorem d_MT_least_92 : decode b_MT_least 92 = .ok (.invokevirtual 74, 3) := by decide +kernel
theorem d_MT_least_95 : decode b_MT_least 95 = .ok (.invokevirtual 108, 3) := by decide +kernel
theorem d_MT_least_98 : decode b_MT_least 98 = .ok (.istore 7, 2) := by decide +kernel
theorem d_MT_least_100 : decode b_MT_least 100 = .ok (.aload_n 3, 1) := by decide +kernel
theorem d_MT_least_101 : decode b_MT_least 101 = .ok (.iload 4, 2) := by decide +kernel
theorem d_MT_least_103 : decode b_MT_least 103 = .ok (.iload 6, 2) := by decide +kernel
theorem d_MT_least_105 : decode b_MT_least 105 = .ok (.iload 7, 2) := by decide +kernel
theorem d_MT_least_107 : decode b_MT_least 107 = .ok (.aload_n 2, 1) := by decide +kernel
theorem d_MT_least_108 : decode b_MT_least 108 = .ok (.iload 5, 2) := by decide +kernel
theorem d_MT_least_110 : decode b_MT_least 110 = .ok (.iload 6, 2) := by decide +kernel
theorem d_MT_least_112 : decode b_MT_least 112 = .ok (.invokevirtual 64, 3) := by decide +kernel
theorem d_MT_least_115 : decode b_MT_least 115 = .ok (.invokevirtual 56, 3) := by decide +kernel
theorem d_MT_least_118 : decode b_MT_least 118 = .ok (.iinc 6 (1), 3) := by decide +kernel
theorem d_MT_least_121 : decode b_MT_least 121 = .ok (.goto (-51), 3) := by decide +kernel
theorem d_MT_least_124 : decode b_MT_least 124 = .ok (.iinc 4 (1), 3) := by decide +kernel
theorem d_MT_least_127 : decode b_MT_least 127 = .ok (.goto (-80), 3) := by decide +kernel
theorem d_MT_least_130 : decode b_MT_least 130 = .ok (.aload_n 0, 1) := by decide +kernel
theorem d_MT_least_131 : decode b_MT_least 131 = .ok (.getfield 29, 3) := by decide +kernel
theorem d_MT_least_134 : decode b_MT_least 134 = .ok (.iconst 1, 1) := by decide +kernel
theorem d_MT_least_135 : decode b_MT_least 135 = .ok (.isub, 1) := by decide +kernel
theorem d_MT_least_136 : decode b_MT_least 136 = .ok (.ireturn, 1) := by decide +kernel
theorem d_MT_part_0 : decode b_MT_part 0 = .ok (.aload_n 0, 1) := by decide +kernel
theorem d_MT_part_1 : decode b_MT_part 1 = .ok (.iload_n 1, 1) := by decide +kernel
theorem d_MT_part_2 : decode b_MT_part 2 = .ok (.invokevirtual 45, 3) := by decide +kernel
theorem d_MT_part_5 : decode b_MT_part 5 = .ok (.astore_n 3, 1) := by decide +kernel
theorem d_MT_part_6 : decode b_MT_part 6 = .ok (.aload_n 3, 1) := by decide +kernel
theorem d_MT_part_7 : decode b_MT_part 7 = .ok (.ifnull (11), 3) := by decide +kernel
theorem d_MT_part_10 : decode b_MT_part 10 = .ok (.aload_n 3, 1) := by decide +kernel
theorem d_MT_part_11 : decode b_MT_part 11 = .ok (.iload_n 2, 1) := by decide +kernel
theorem d_MT_part_12 : decode b_MT_part 12 = .ok (.invokevirtual 49, 3) := by decide +kernel
theorem d_MT_part_15 : decode b_MT_part 15 = .ok (.ifCond .ne (5), 3) := by decide +kernel
theorem d_MT_part_18 : decode b_MT_part 18 = .ok (.iconst (-1), 1) := by decide +kernel
theorem d_MT_part_19 : decode b_MT_part 19 = .ok (.ireturn, 1) := by decide +kernel
theorem d_MT_part_20 : decode b_MT_part 20 = .ok (.aload_n 3, 1) := by decide +kernel
theorem d_MT_part_21 : decode b_MT_part 21 = .ok (.invokevirtual 67, 3) := by decide +kernel
theorem d_MT_part_24 : decode b_MT_part 24 = .ok (.aload_n 0, 1) := by decide +kernel
theorem d_MT_part_25 : decode b_MT_part 25 = .ok (.aload_n 3, 1) := by decide +kernel
theorem d_MT_part_26 : decode b_MT_part 26 = .ok (.invokevirtual 97, 3) := by decide +kernel
theorem d_MT_part_29 : decode b_MT_part 29 = .ok (.aload_n 0, 1) := by decide +kernel
theorem d_MT_part_30 : decode b_MT_part 30 = .ok (.getfield 18, 3) := by decide +kernel
theorem d_MT_part_33 : decode b_MT_part 33 = .ok (.aload_n 3, 1) := by decide +kernel
theorem d_MT_part_34 : decode b_MT_part 34 = .ok (.iload_n 2, 1) := by decide +kernel
theorem d_MT_part_35 : decode b_MT_part 35 = .ok (.invokevirtual 74, 3) := by decide +kernel
theorem d_MT_part_38 : decode b_MT_part 38 = .ok (.invokevirtual 108, 3) := by decide +kernel
theorem d_MT_part_41 : decode b_MT_part 41 = .ok (.ireturn, 1) := by decide +kernel
theorem d_MT_reset_0 : decode b_MT_reset 0 = .ok (.aload_n 0, 1) := by decide +kernel
theorem d_MT_reset_1 : decode b_MT_reset 1 = .ok (.iload_n 1, 1) := by decide +kernel
theorem d_MT_reset_2 : decode b_MT_reset 2 = .ok (.invokevirtual 111, 3) := by decide +kernel
theorem d_MT_reset_5 : decode b_MT_reset 5 = .ok (.astore_n 2, 1) := by decide +kernel
theorem d_MT_reset_6 : decode b_MT_reset 6 = .ok (.aload_n 2, 1) := by decide +kernel
theorem d_MT_reset_7 : decode b_MT_reset 7 = .ok (.ifnonnull (5), 3) := by decide +kernel
theorem d_MT_reset_10 : decode b_MT_reset 10 = .ok (.iconst (-1), 1) := by decide +kernel
theorem d_MT_reset_11 : decode b_MT_reset 11 = .ok (.ireturn, 1) := by decide +kernel
theorem d_MT_reset_12 : decode b_MT_reset 12 = .ok (.aload_n 0, 1) := by decide +kernel
theorem d_MT_reset_13 : decode b_MT_reset 13 = .ok (.aload_n 2, 1) := by decide +kernel
theorem d_MT_reset_14 : decode b_MT_reset 14 = .ok (.invokevirtual 114, 3) := by decide +kernel
theorem d_MT_reset_17 : decode b_MT_reset 17 = .ok (.istore_n 3, 1) := by decide +kernel
theorem d_MT_reset_18 : decode b_MT_reset 18 = .ok (.iload_n 3, 1) := by decide +kernel
theorem d_MT_reset_19 : decode b_MT_reset 19 = .ok (.iconst (-1), 1) := by decide +kernel
theorem d_MT_reset_20 : decode b_MT_reset 20 = .ok (.if_icmp .ne (7), 3) := by decide +kernel
theorem d_MT_reset_23 : decode b_MT_reset 23 = .ok (.iconst (-1), 1) := by decide +kernel
theorem d_MT_reset_24 : decode b_MT_reset 24 = .ok (.goto (8), 3) := by decide +kernel
theorem d_MT_reset_27 : decode b_MT_reset 27 = .ok (.aload_n 0, 1) := by decide +kernel
theorem d_MT_reset_28 : decode b_MT_reset 28 = .ok (.iload_n 3, 1) := by decide +kernel
theorem d_MT_reset_29 : decode b_MT_reset 29 = .ok (.invokevirtual 94, 3) := by decide +kernel
theorem d_MT_reset_32 : decode b_MT_reset 32 = .ok (.ireturn, 1) := by decide +kernel
theorem d_MT_home_0 : decode b_MT_home 0 = .ok (.aload_n 0, 1) := by decide +kernel
theorem d_MT_home_1 : decode b_MT_home 1 = .ok (.iload_n 1, 1) := by decide +kernel
theorem d_MT_home_2 : decode b_MT_home 2 = .ok (.invokevirtual 111, 3) := by decide +kernel
theorem d_MT_home_5 : decode b_MT_home 5 = .ok (.astore_n 2, 1) := by decide +kernel
theorem d_MT_home_6 : decode b_MT_home 6 = .ok (.aload_n 2, 1) := by decide +kernel
theorem d_MT_home_7 : decode b_MT_home 7 = .ok (.ifnonnull (5), 3) := by decide +kernel
theorem d_MT_home_10 : decode b_MT_home 10 = .ok (.iconst (-1), 1) := by decide +kernel
theorem d_MT_home_11 : decode b_MT_home 11 = .ok (.ireturn, 1) := by decide +kernel
theorem d_MT_home_12 : decode b_MT_home 12 = .ok (.aload_n 2, 1) := by decide +kernel
theorem d_MT_home_13 : decode b_MT_home 13 = .ok (.invokevirtual 67, 3) := by decide +kernel
theorem d_MT_home_16 : decode b_MT_home 16 = .ok (.aload_n 0, 1) := by decide +kernel
theorem d_MT_home_17 : decode b_MT_home 17 = .ok (.aload_n 2, 1) := by decide +kernel
theorem d_MT_home_18 : decode b_MT_home 18 = .ok (.invokevirtual 118, 3) := by decide +kernel
theorem d_MT_home_21 : decode b_MT_home 21 = .ok (.istore_n 3, 1) := by decide +kernel
theorem d_MT_home_22 : decode b_MT_home 22 = .ok (.iload_n 3, 1) := by decide +kernel
theorem d_MT_home_23 : decode b_MT_home 23 = .ok (.iconst (-1), 1) := by decide +kernel
theorem d_MT_home_24 : decode b_MT_home 24 = .ok (.if_icmp .ne (13), 3) := by decide +kernel
theorem d_MT_home_27 : decode b_MT_home 27 = .ok (.new 121, 3) := by decide +kernel
theorem d_MT_home_30 : decode b_MT_home 30 = .ok (.dup, 1) := by decide +kernel
theorem d_MT_home_31 : decode b_MT_home 31 = .ok (.ldc 123, 2) := by decide +kernel
theorem d_MT_home_33 : decode b_MT_home 33 = .ok (.invokespecial 125, 3) := by decide +kernel
theorem d_MT_home_36 : decode b_MT_home 36 = .ok (.athrow, 1) := by decide +kernel
theorem d_MT_home_37 : decode b_MT_home 37 = .ok (.aload_n 0, 1) := by decide +kernel
theorem d_MT_home_38 : decode b_MT_home 38 = .ok (.iload_n 3, 1) := by decide +kernel
theorem d_MT_home_39 : decode b_MT_home 39 = .ok (.invokevirtual 94, 3) := by decide +kernel
theorem d_MT_home_42 : decode b_MT_home 42 = .ok (.ireturn, 1) := by decide +kernel
theorem d_MT_chain_0 : decode b_MT_chain 0 = .ok (.aload_n 0, 1) := by decide +kernel
theorem d_MT_chain_1 : decode b_MT_chain 1 = .ok (.iload_n 1, 1) := by decide +kernel
theorem d_MT_chain_2 : decode b_MT_chain 2 = .ok (.invokevirtual 45, 3) := by decide +kernel
theorem d_MT_chain_5 : decode b_MT_chain 5 = .ok (.astore_n 3, 1) := by decide +kernel
theorem d_MT_chain_6 : decode b_MT_chain 6 = .ok (.aload_n 0, 1) := by decide +kernel
theorem d_MT_chain_7 : decode b_MT_chain 7 = .ok (.iload_n 2, 1) := by decide +kernel
theorem d_MT_chain_8 : decode b_MT_chain 8 = .ok (.invokevirtual 45, 3) := by decide +kernel
theorem d_MT_chain_11 : decode b_MT_chain 11 = .ok (.astore 4, 2) := by decide +kernel
theorem d_MT_chain_13 : decode b_MT_chain 13 = .ok (.aload_n 3, 1) := by decide +kernel
theorem d_MT_chain_14 : decode b_MT_chain 14 = .ok (.ifnull (15), 3) := by decide +kernel
theorem d_MT_chain_17 : decode b_MT_chain 17 = .ok (.aload 4, 2) := by decide +kernel
theorem d_MT_chain_19 : decode b_MT_chain 19 = .ok (.ifnull (10), 3) := by decide +kernel
theorem d_MT_chain_22 : decode b_MT_chain 22 = .ok (.aload_n 0, 1) := by decide +kernel
theorem d_MT_chain_23 : decode b_MT_chain 23 = .ok (.invokevirtual 37, 3) := by decide +kernel
theorem d_MT_chain_26 : decode b_MT_chain 26 = .ok (.ifCond .eq (5), 3) := by decide +kernel
theorem d_MT_chain_29 : decode b_MT_chain 29 = .ok (.iconst (-1), 1) := by decide +kernel
theorem d_MT_chain_30 : decode b_MT_chain 30 = .ok (.ireturn, 1) := by decide +kernel
theorem d_MT_chain_31 : decode b_MT_chain 31 = .ok (.aload_n 0, 1) := by decide +kernel
theorem d_MT_chain_32 : decode b_MT_chain 32 = .ok (.aload_n 3, 1) := by decide +kernel
theorem d_MT_chain_33 : decode b_MT_chain 33 = .ok (.aload 4, 2) := by decide +kernel
theorem d_MT_chain_35 : decode b_MT_chain 35 = .ok (.invokevirtual 126, 3) := by decide +kernel
theorem d_MT_chain_38 : decode b_MT_chain 38 = .ok (.ifCond .ne (13), 3) := by decide +kernel
theorem d_MT_chain_41 : decode b_MT_chain 41 = .ok (.new 121, 3) := by decide +kernel
theorem d_MT_chain_44 : decode b_MT_chain 44 = .ok (.dup, 1) := by decide +kernel
theorem d_MT_chain_45 : decode b_MT_chain 45 = .ok (.ldc 130, 2) := by decide +kernel
theorem d_MT_chain_47 : decode b_MT_chain 47 = .ok (.invokespecial 125, 3) := by decide +kernel
theorem d_MT_chain_50 : decode b_MT_chain 50 = .ok (.athrow, 1) := by decide +kernel
theorem d_MT_chain_51 : decode b_MT_chain 51 = .ok (.aload_n 0, 1) := by decide +kernel
theorem d_MT_chain_52 : decode b_MT_chain 52 = .ok (.aload_n 0, 1) := by decide +kernel
theorem d_MT_chain_53 : decode b_MT_chain 53 = .ok (.getfield 18, 3) := by decide +kernel
theorem d_MT_chain_56 : decode b_MT_chain 56 = .ok (.getfield 101, 3) := by decide +kernel
theorem d_MT_chain_59 : decode b_MT_chain 59 = .ok (.aload_n 3, 1) := by decide +kernel
theorem d_MT_chain_60 : decode b_MT_chain 60 = .ok (.getfield 85, 3) := by decide +kernel
theorem d_MT_chain_63 : decode b_MT_chain 63 = .ok (.invokevirtual 41, 3) := by decide +kernel
theorem d_MT_chain_66 : decode b_MT_chain 66 = .ok (.astore 5, 2) := by decide +kernel
theorem d_MT_chain_68 : decode b_MT_chain 68 = .ok (.iconst 0, 1) := by decide +kernel
theorem d_MT_chain_69 : decode b_MT_chain 69 = .ok (.istore 6, 2) := by decide +kernel
theorem d_MT_chain_71 : decode b_MT_chain 71 = .ok (.iload 6, 2) := by decide +kernel
theorem d_MT_chain_73 : decode b_MT_chain 73 = .ok (.aload 5, 2) := by decide +kernel
theorem d_MT_chain_75 : decode b_MT_chain 75 = .ok (.getfield 102, 3) := by decide +kernel
theorem d_MT_chain_78 : decode b_MT_chain 78 = .ok (.if_icmp .ge (94), 3) := by decide +kernel
theorem d_MT_chain_81 : decode b_MT_chain 81 = .ok (.aload_n 0, 1) := by decide +kernel
theorem d_MT_chain_82 : decode b_MT_chain 82 = .ok (.getfield 18, 3) := by decide +kernel
theorem d_MT_chain_85 : decode b_MT_chain 85 = .ok (.iload 6, 2) := by decide +kernel
theorem d_MT_chain_87 : decode b_MT_chain 87 = .ok (.invokevirtual 105, 3) := by decide +kernel
theorem d_MT_chain_90 : decode b_MT_chain 90 = .ok (.istore 7, 2) := by decide +kernel
theorem d_MT_chain_92 : decode b_MT_chain 92 = .ok (.iconst 0, 1) := by decide +kernel
theorem d_MT_chain_93 : decode b_MT_chain 93 = .ok (.istore 8, 2) := by decide +kernel
theorem d_MT_chain_95 : decode b_MT_chain 95 = .ok (.iload 8, 2) := by decide +kernel
theorem d_MT_chain_97 : decode b_MT_chain 97 = .ok (.aload 5, 2) := by decide +kernel
theorem d_MT_chain_99 : decode b_MT_chain 99 = .ok (.getfield 85, 3) := by decide +kernel
theorem d_MT_chain_102 : decode b_MT_chain 102 = .ok (.if_icmp .ge (64), 3) := by decide +kernel
theorem d_MT_chain_105 : decode b_MT_chain 105 = .ok (.aload_n 3, 1) := by decide +kernel
theorem d_MT_chain_106 : decode b_MT_chain 106 = .ok (.iload 7, 2) := by decide +kernel
theorem d_MT_chain_108 : decode b_MT_chain 108 = .ok (.invokestatic 132, 3) := by decide +kernel
theorem d_MT_chain_111 : decode b_MT_chain 111 = .ok (.iload 8, 2) := by decide +kernel
theorem d_MT_chain_113 : decode b_MT_chain 113 = .ok (.invokevirtual 64, 3) := by decide +kernel
end
section
theorem d_MT_chain_116 : decode b_MT_chain 116 = .ok (.istore 9, 2) := by decide +kernel
theorem d_MT_chain_118 : decode b_MT_chain 118 = .ok (.aload_n 0, 1) := by decide +kernel
theorem d_MT_chain_119 : decode b_MT_chain 119 = .ok (.getfield 18, 3) := by decide +kernel
theorem d_MT_chain_122 : decode b_MT_chain 122 = .ok (.aload_n 3, 1) := by decide +kernel
theorem d_MT_chain_123 : decode b_MT_chain 123 = .ok (.aload 4, 2) := by decide +kernel
theorem d_MT_chain_125 : decode b_MT_chain 125 = .ok (.iload 7, 2) := by decide +kernel
theorem d_MT_chain_127 : decode b_MT_chain 127 = .ok (.iload 8, 2) := by decide +kernel
theorem d_MT_chain_129 : decode b_MT_chain 129 = .ok (.invokestatic 135, 3) := by decide +kernel
theorem d_MT_chain_132 : decode b_MT_chain 132 = .ok (.invokevirtual 108, 3) := by decide +kernel
theorem d_MT_chain_135 : decode b_MT_chain 135 = .ok (.istore 10, 2) := by decide +kernel
theorem d_MT_chain_137 : decode b_MT_chain 137 = .ok (.aload 5, 2) := by decide +kernel
theorem d_MT_chain_139 : decode b_MT_chain 139 = .ok (.iload 6, 2) := by decide +kernel
theorem d_MT_chain_141 : decode b_MT_chain 141 = .ok (.iload 8, 2) := by decide +kernel
theorem d_MT_chain_143 : decode b_MT_chain 143 = .ok (.iload 10, 2) := by decide +kernel
theorem d_MT_chain_145 : decode b_MT_chain 145 = .ok (.aload 4, 2) := by decide +kernel
theorem d_MT_chain_147 : decode b_MT_chain 147 = .ok (.iload 7, 2) := by decide +kernel
theorem d_MT_chain_149 : decode b_MT_chain 149 = .ok (.invokestatic 139, 3) := by decide +kernel
theorem d_MT_chain_152 : decode b_MT_chain 152 = .ok (.iload 9, 2) := by decide +kernel
theorem d_MT_chain_154 : decode b_MT_chain 154 = .ok (.invokevirtual 64, 3) := by decide +kernel
theorem d_MT_chain_157 : decode b_MT_chain 157 = .ok (.invokevirtual 56, 3) := by decide +kernel
theorem d_MT_chain_160 : decode b_MT_chain 160 = .ok (.iinc 8 (1), 3) := by decide +kernel
theorem d_MT_chain_163 : decode b_MT_chain 163 = .ok (.goto (-68), 3) := by decide +kernel
theorem d_MT_chain_166 : decode b_MT_chain 166 = .ok (.iinc 6 (1), 3) := by decide +kernel
theorem d_MT_chain_169 : decode b_MT_chain 169 = .ok (.goto (-98), 3) := by decide +kernel
theorem d_MT_chain_172 : decode b_MT_chain 172 = .ok (.aload_n 0, 1) := by decide +kernel
theorem d_MT_chain_173 : decode b_MT_chain 173 = .ok (.getfield 29, 3) := by decide +kernel
theorem d_MT_chain_176 : decode b_MT_chain 176 = .ok (.iconst 1, 1) := by decide +kernel
theorem d_MT_chain_177 : decode b_MT_chain 177 = .ok (.isub, 1) := by decide +kernel
theorem d_MT_chain_178 : decode b_MT_chain 178 = .ok (.ireturn, 1) := by decide +kernel
theorem d_MT_letter_0 : decode b_MT_letter 0 = .ok (.iload_n 1, 1) := by decide +kernel
theorem d_MT_letter_1 : decode b_MT_letter 1 = .ok (.ifCond .lt (12), 3) := by decide +kernel
theorem d_MT_letter_4 : decode b_MT_letter 4 = .ok (.iload_n 1, 1) := by decide +kernel
theorem d_MT_letter_5 : decode b_MT_letter 5 = .ok (.aload_n 0, 1) := by decide +kernel
theorem d_MT_letter_6 : decode b_MT_letter 6 = .ok (.getfield 33, 3) := by decide +kernel
theorem d_MT_letter_9 : decode b_MT_letter 9 = .ok (.arraylength, 1) := by decide +kernel
theorem d_MT_letter_10 : decode b_MT_letter 10 = .ok (.if_icmp .lt (13), 3) := by decide +kernel
theorem d_MT_letter_13 : decode b_MT_letter 13 = .ok (.new 142, 3) := by decide +kernel
theorem d_MT_letter_16 : decode b_MT_letter 16 = .ok (.dup, 1) := by decide +kernel
theorem d_MT_letter_17 : decode b_MT_letter 17 = .ok (.ldc 144, 2) := by decide +kernel
theorem d_MT_letter_19 : decode b_MT_letter 19 = .ok (.invokespecial 146, 3) := by decide +kernel
theorem d_MT_letter_22 : decode b_MT_letter 22 = .ok (.athrow, 1) := by decide +kernel
theorem d_MT_letter_23 : decode b_MT_letter 23 = .ok (.aload_n 0, 1) := by decide +kernel
theorem d_MT_letter_24 : decode b_MT_letter 24 = .ok (.getfield 33, 3) := by decide +kernel
theorem d_MT_letter_27 : decode b_MT_letter 27 = .ok (.iload_n 1, 1) := by decide +kernel
theorem d_MT_letter_28 : decode b_MT_letter 28 = .ok (.iaload, 1) := by decide +kernel
theorem d_MT_letter_29 : decode b_MT_letter 29 = .ok (.ireturn, 1) := by decide +kernel
theorem d_MT_along_0 : decode b_MT_along 0 = .ok (.aload_n 0, 1) := by decide +kernel
theorem d_MT_along_1 : decode b_MT_along 1 = .ok (.iload_n 1, 1) := by decide +kernel
theorem d_MT_along_2 : decode b_MT_along 2 = .ok (.invokevirtual 45, 3) := by decide +kernel
theorem d_MT_along_5 : decode b_MT_along 5 = .ok (.astore_n 3, 1) := by decide +kernel
theorem d_MT_along_6 : decode b_MT_along 6 = .ok (.aload_n 3, 1) := by decide +kernel
theorem d_MT_along_7 : decode b_MT_along 7 = .ok (.ifnull (11), 3) := by decide +kernel
theorem d_MT_along_10 : decode b_MT_along 10 = .ok (.aload_n 3, 1) := by decide +kernel
theorem d_MT_along_11 : decode b_MT_along 11 = .ok (.iload_n 2, 1) := by decide +kernel
theorem d_MT_along_12 : decode b_MT_along 12 = .ok (.invokevirtual 49, 3) := by decide +kernel
theorem d_MT_along_15 : decode b_MT_along 15 = .ok (.ifCond .ne (5), 3) := by decide +kernel
theorem d_MT_along_18 : decode b_MT_along 18 = .ok (.iconst (-1), 1) := by decide +kernel
theorem d_MT_along_19 : decode b_MT_along 19 = .ok (.ireturn, 1) := by decide +kernel
theorem d_MT_along_20 : decode b_MT_along 20 = .ok (.iload_n 2, 1) := by decide +kernel
theorem d_MT_along_21 : decode b_MT_along 21 = .ok (.istore 4, 2) := by decide +kernel
theorem d_MT_along_23 : decode b_MT_along 23 = .ok (.iconst 0, 1) := by decide +kernel
theorem d_MT_along_24 : decode b_MT_along 24 = .ok (.istore 5, 2) := by decide +kernel
theorem d_MT_along_26 : decode b_MT_along 26 = .ok (.iload 5, 2) := by decide +kernel
theorem d_MT_along_28 : decode b_MT_along 28 = .ok (.aload_n 0, 1) := by decide +kernel
theorem d_MT_along_29 : decode b_MT_along 29 = .ok (.getfield 33, 3) := by decide +kernel
theorem d_MT_along_32 : decode b_MT_along 32 = .ok (.arraylength, 1) := by decide +kernel
theorem d_MT_along_33 : decode b_MT_along 33 = .ok (.if_icmp .ge (40), 3) := by decide +kernel
theorem d_MT_along_36 : decode b_MT_along 36 = .ok (.aload_n 3, 1) := by decide +kernel
theorem d_MT_along_37 : decode b_MT_along 37 = .ok (.aload_n 0, 1) := by decide +kernel
theorem d_MT_along_38 : decode b_MT_along 38 = .ok (.getfield 33, 3) := by decide +kernel
theorem d_MT_along_41 : decode b_MT_along 41 = .ok (.iload 5, 2) := by decide +kernel
theorem d_MT_along_43 : decode b_MT_along 43 = .ok (.iaload, 1) := by decide +kernel
theorem d_MT_along_44 : decode b_MT_along 44 = .ok (.invokevirtual 53, 3) := by decide +kernel
theorem d_MT_along_47 : decode b_MT_along 47 = .ok (.ifCond .ne (5), 3) := by decide +kernel
theorem d_MT_along_50 : decode b_MT_along 50 = .ok (.iconst (-1), 1) := by decide +kernel
theorem d_MT_along_51 : decode b_MT_along 51 = .ok (.ireturn, 1) := by decide +kernel
theorem d_MT_along_52 : decode b_MT_along 52 = .ok (.aload_n 3, 1) := by decide +kernel
theorem d_MT_along_53 : decode b_MT_along 53 = .ok (.iload 4, 2) := by decide +kernel
theorem d_MT_along_55 : decode b_MT_along 55 = .ok (.aload_n 0, 1) := by decide +kernel
theorem d_MT_along_56 : decode b_MT_along 56 = .ok (.getfield 33, 3) := by decide +kernel
theorem d_MT_along_59 : decode b_MT_along 59 = .ok (.iload 5, 2) := by decide +kernel
theorem d_MT_along_61 : decode b_MT_along 61 = .ok (.iaload, 1) := by decide +kernel
theorem d_MT_along_62 : decode b_MT_along 62 = .ok (.invokevirtual 60, 3) := by decide +kernel
theorem d_MT_along_65 : decode b_MT_along 65 = .ok (.istore 4, 2) := by decide +kernel
theorem d_MT_along_67 : decode b_MT_along 67 = .ok (.iinc 5 (1), 3) := by decide +kernel
theorem d_MT_along_70 : decode b_MT_along 70 = .ok (.goto (-44), 3) := by decide +kernel
theorem d_MT_along_73 : decode b_MT_along 73 = .ok (.iload 4, 2) := by decide +kernel
theorem d_MT_along_75 : decode b_MT_along 75 = .ok (.ireturn, 1) := by decide +kernel
theorem d_MT_clear_0 : decode b_MT_clear 0 = .ok (.aload_n 0, 1) := by decide +kernel
theorem d_MT_clear_1 : decode b_MT_clear 1 = .ok (.iconst 0, 1) := by decide +kernel
theorem d_MT_clear_2 : decode b_MT_clear 2 = .ok (.putfield 29, 3) := by decide +kernel
theorem d_MT_clear_5 : decode b_MT_clear 5 = .ok (.return_, 1) := by decide +kernel
theorem d_MT_total_0 : decode b_MT_total 0 = .ok (.iload_n 1, 1) := by decide +kernel
theorem d_MT_total_1 : decode b_MT_total 1 = .ok (.ifCond .ne (8), 3) := by decide +kernel
theorem d_MT_total_4 : decode b_MT_total 4 = .ok (.aload_n 0, 1) := by decide +kernel
theorem d_MT_total_5 : decode b_MT_total 5 = .ok (.getfield 29, 3) := by decide +kernel
theorem d_MT_total_8 : decode b_MT_total 8 = .ok (.ireturn, 1) := by decide +kernel
theorem d_MT_total_9 : decode b_MT_total 9 = .ok (.iload_n 1, 1) := by decide +kernel
theorem d_MT_total_10 : decode b_MT_total 10 = .ok (.iconst 1, 1) := by decide +kernel
theorem d_MT_total_11 : decode b_MT_total 11 = .ok (.if_icmp .ne (9), 3) := by decide +kernel
theorem d_MT_total_14 : decode b_MT_total 14 = .ok (.aload_n 0, 1) := by decide +kernel
theorem d_MT_total_15 : decode b_MT_total 15 = .ok (.getfield 33, 3) := by decide +kernel
theorem d_MT_total_18 : decode b_MT_total 18 = .ok (.arraylength, 1) := by decide +kernel
theorem d_MT_total_19 : decode b_MT_total 19 = .ok (.ireturn, 1) := by decide +kernel
theorem d_MT_total_20 : decode b_MT_total 20 = .ok (.iload_n 1, 1) := by decide +kernel
theorem d_MT_total_21 : decode b_MT_total 21 = .ok (.sipush (200), 3) := by decide +kernel
theorem d_MT_total_24 : decode b_MT_total 24 = .ok (.if_icmp .lt (7), 3) := by decide +kernel
theorem d_MT_total_27 : decode b_MT_total 27 = .ok (.iconst 1, 1) := by decide +kernel
theorem d_MT_total_28 : decode b_MT_total 28 = .ok (.goto (4), 3) := by decide +kernel
theorem d_MT_total_31 : decode b_MT_total 31 = .ok (.iconst 0, 1) := by decide +kernel
theorem d_MT_total_32 : decode b_MT_total 32 = .ok (.istore_n 2, 1) := by decide +kernel
theorem d_MT_total_33 : decode b_MT_total 33 = .ok (.aload_n 0, 1) := by decide +kernel
theorem d_MT_total_34 : decode b_MT_total 34 = .ok (.iload_n 1, 1) := by decide +kernel
theorem d_MT_total_35 : decode b_MT_total 35 = .ok (.iload_n 2, 1) := by decide +kernel
theorem d_MT_total_36 : decode b_MT_total 36 = .ok (.ifCond .eq (9), 3) := by decide +kernel
theorem d_MT_total_39 : decode b_MT_total 39 = .ok (.sipush (200), 3) := by decide +kernel
theorem d_MT_total_42 : decode b_MT_total 42 = .ok (.goto (5), 3) := by decide +kernel
theorem d_MT_total_45 : decode b_MT_total 45 = .ok (.bipush (100), 2) := by decide +kernel
theorem d_MT_total_47 : decode b_MT_total 47 = .ok (.isub, 1) := by decide +kernel
theorem d_MT_total_48 : decode b_MT_total 48 = .ok (.invokevirtual 45, 3) := by decide +kernel
theorem d_MT_total_51 : decode b_MT_total 51 = .ok (.astore_n 3, 1) := by decide +kernel
theorem d_MT_total_52 : decode b_MT_total 52 = .ok (.aload_n 3, 1) := by decide +kernel
theorem d_MT_total_53 : decode b_MT_total 53 = .ok (.ifnonnull (5), 3) := by decide +kernel
theorem d_MT_total_56 : decode b_MT_total 56 = .ok (.iconst (-1), 1) := by decide +kernel
theorem d_MT_total_57 : decode b_MT_total 57 = .ok (.ireturn, 1) := by decide +kernel
theorem d_MT_total_58 : decode b_MT_total 58 = .ok (.iload_n 2, 1) := by decide +kernel
theorem d_MT_total_59 : decode b_MT_total 59 = .ok (.ifCond .eq (10), 3) := by decide +kernel
theorem d_MT_total_62 : decode b_MT_total 62 = .ok (.aload_n 3, 1) := by decide +kernel
theorem d_MT_total_63 : decode b_MT_total 63 = .ok (.getfield 85, 3) := by decide +kernel
theorem d_MT_total_66 : decode b_MT_total 66 = .ok (.goto (7), 3) := by decide +kernel
theorem d_MT_total_69 : decode b_MT_total 69 = .ok (.aload_n 3, 1) := by decide +kernel
theorem d_MT_total_70 : decode b_MT_total 70 = .ok (.getfield 102, 3) := by decide +kernel
theorem d_MT_total_73 : decode b_MT_total 73 = .ok (.ireturn, 1) := by decide +kernel
theorem d_MT_isFull_0 : decode b_MT_isFull 0 = .ok (.aload_n 0, 1) := by decide +kernel
theorem d_MT_isFull_1 : decode b_MT_isFull 1 = .ok (.getfield 29, 3) := by decide +kernel
theorem d_MT_isFull_4 : decode b_MT_isFull 4 = .ok (.bipush (12), 2) := by decide +kernel
theorem d_MT_isFull_6 : decode b_MT_isFull 6 = .ok (.if_icmp .lt (7), 3) := by decide +kernel
theorem d_MT_isFull_9 : decode b_MT_isFull 9 = .ok (.iconst 1, 1) := by decide +kernel
theorem d_MT_isFull_10 : decode b_MT_isFull 10 = .ok (.goto (4), 3) := by decide +kernel
theorem d_MT_isFull_13 : decode b_MT_isFull 13 = .ok (.iconst 0, 1) := by decide +kernel
theorem d_MT_isFull_14 : decode b_MT_isFull 14 = .ok (.ireturn, 1) := by decide +kernel
theorem d_MT_find_0 : decode b_MT_find 0 = .ok (.iload_n 1, 1) := by decide +kernel
theorem d_MT_find_1 : decode b_MT_find 1 = .ok (.ifCond .lt (20), 3) := by decide +kernel
theorem d_MT_find_4 : decode b_MT_find 4 = .ok (.iload_n 1, 1) := by decide +kernel
theorem d_MT_find_5 : decode b_MT_find 5 = .ok (.aload_n 0, 1) := by decide +kernel
theorem d_MT_find_6 : decode b_MT_find 6 = .ok (.getfield 29, 3) := by decide +kernel
theorem d_MT_find_9 : decode b_MT_find 9 = .ok (.if_icmp .ge (12), 3) := by decide +kernel
theorem d_MT_find_12 : decode b_MT_find 12 = .ok (.aload_n 0, 1) := by decide +kernel
theorem d_MT_find_13 : decode b_MT_find 13 = .ok (.getfield 11, 3) := by decide +kernel
theorem d_MT_find_16 : decode b_MT_find 16 = .ok (.iload_n 1, 1) := by decide +kernel
theorem d_MT_find_17 : decode b_MT_find 17 = .ok (.aaload, 1) := by decide +kernel
theorem d_MT_find_18 : decode b_MT_find 18 = .ok (.goto (4), 3) := by decide +kernel
theorem d_MT_find_21 : decode b_MT_find 21 = .ok (.aconst_null, 1) := by decide +kernel
theorem d_MT_find_22 : decode b_MT_find 22 = .ok (.areturn, 1) := by decide +kernel
theorem d_MT_findSmall_0 : decode b_MT_findSmall 0 = .ok (.aload_n 0, 1) := by decide +kernel
theorem d_MT_findSmall_1 : decode b_MT_findSmall 1 = .ok (.iload_n 1, 1) := by decide +kernel
theorem d_MT_findSmall_2 : decode b_MT_findSmall 2 = .ok (.invokevirtual 45, 3) := by decide +kernel
theorem d_MT_findSmall_5 : decode b_MT_findSmall 5 = .ok (.astore_n 2, 1) := by decide +kernel
theorem d_MT_findSmall_6 : decode b_MT_findSmall 6 = .ok (.aload_n 2, 1) := by decide +kernel
theorem d_MT_findSmall_7 : decode b_MT_findSmall 7 = .ok (.ifnull (12), 3) := by decide +kernel
theorem d_MT_findSmall_10 : decode b_MT_findSmall 10 = .ok (.aload_n 2, 1) := by decide +kernel
theorem d_MT_findSmall_11 : decode b_MT_findSmall 11 = .ok (.getfield 102, 3) := by decide +kernel
theorem d_MT_findSmall_14 : decode b_MT_findSmall 14 = .ok (.bipush (12), 2) := by decide +kernel
theorem d_MT_findSmall_16 : decode b_MT_findSmall 16 = .ok (.if_icmp .le (7), 3) := by decide +kernel
theorem d_MT_findSmall_19 : decode b_MT_findSmall 19 = .ok (.aconst_null, 1) := by decide +kernel
theorem d_MT_findSmall_20 : decode b_MT_findSmall 20 = .ok (.goto (4), 3) := by decide +kernel
theorem d_MT_findSmall_23 : decode b_MT_findSmall 23 = .ok (.aload_n 2, 1) := by decide +kernel
theorem d_MT_findSmall_24 : decode b_MT_findSmall 24 = .ok (.areturn, 1) := by decide +kernel
theorem d_MT_add_0 : decode b_MT_add 0 = .ok (.aload_n 0, 1) := by decide +kernel
theorem d_MT_add_1 : decode b_MT_add 1 = .ok (.getfield 11, 3) := by decide +kernel
theorem d_MT_add_4 : decode b_MT_add 4 = .ok (.aload_n 0, 1) := by decide +kernel
theorem d_MT_add_5 : decode b_MT_add 5 = .ok (.getfield 29, 3) := by decide +kernel
theorem d_MT_add_8 : decode b_MT_add 8 = .ok (.aaload, 1) := by decide +kernel
theorem d_MT_add_9 : decode b_MT_add 9 = .ok (.astore_n 3, 1) := by decide +kernel
theorem d_MT_add_10 : decode b_MT_add 10 = .ok (.aload_n 3, 1) := by decide +kernel
theorem d_MT_add_11 : decode b_MT_add 11 = .ok (.ifnonnull (21), 3) := by decide +kernel
theorem d_MT_add_14 : decode b_MT_add 14 = .ok (.new 9, 3) := by decide +kernel
theorem d_MT_add_17 : decode b_MT_add 17 = .ok (.dup, 1) := by decide +kernel
theorem d_MT_add_18 : decode b_MT_add 18 = .ok (.invokespecial 147, 3) := by decide +kernel
theorem d_MT_add_21 : decode b_MT_add 21 = .ok (.astore_n 3, 1) := by decide +kernel
theorem d_MT_add_22 : decode b_MT_add 22 = .ok (.aload_n 0, 1) := by decide +kernel
theorem d_MT_add_23 : decode b_MT_add 23 = .ok (.getfield 11, 3) := by decide +kernel
theorem d_MT_add_26 : decode b_MT_add 26 = .ok (.aload_n 0, 1) := by decide +kernel
theorem d_MT_add_27 : decode b_MT_add 27 = .ok (.getfield 29, 3) := by decide +kernel
theorem d_MT_add_30 : decode b_MT_add 30 = .ok (.aload_n 3, 1) := by decide +kernel
theorem d_MT_add_31 : decode b_MT_add 31 = .ok (.aastore, 1) := by decide +kernel
theorem d_MT_add_32 : decode b_MT_add 32 = .ok (.aload_n 3, 1) := by decide +kernel
theorem d_MT_add_33 : decode b_MT_add 33 = .ok (.iload_n 1, 1) := by decide +kernel
theorem d_MT_add_34 : decode b_MT_add 34 = .ok (.iload_n 2, 1) := by decide +kernel
theorem d_MT_add_35 : decode b_MT_add 35 = .ok (.invokevirtual 148, 3) := by decide +kernel
theorem d_MT_add_38 : decode b_MT_add 38 = .ok (.aload_n 0, 1) := by decide +kernel
theorem d_MT_add_39 : decode b_MT_add 39 = .ok (.dup, 1) := by decide +kernel
theorem d_MT_add_40 : decode b_MT_add 40 = .ok (.getfield 29, 3) := by decide +kernel
theorem d_MT_add_43 : decode b_MT_add 43 = .ok (.iconst 1, 1) := by decide +kernel
theorem d_MT_add_44 : decode b_MT_add 44 = .ok (.iadd, 1) := by decide +kernel
theorem d_MT_add_45 : decode b_MT_add 45 = .ok (.putfield 29, 3) := by decide +kernel
theorem d_MT_add_48 : decode b_MT_add 48 = .ok (.aload_n 3, 1) := by decide +kernel
theorem d_MT_add_49 : decode b_MT_add 49 = .ok (.areturn, 1) := by decide +kernel
theorem d_MT_tell_0 : decode b_MT_tell 0 = .ok (.aload_n 0, 1) := by decide +kernel
theorem d_MT_tell_1 : decode b_MT_tell 1 = .ok (.aload_n 0, 1) := by decide +kernel
end
section
theorem d_MT_tell_2 : decode b_MT_tell 2 = .ok (.getfield 18, 3) := by decide +kernel
theorem d_MT_tell_5 : decode b_MT_tell 5 = .ok (.iload_n 1, 1) := by decide +kernel
theorem d_MT_tell_6 : decode b_MT_tell 6 = .ok (.invokevirtual 152, 3) := by decide +kernel
theorem d_MT_tell_9 : decode b_MT_tell 9 = .ok (.putfield 33, 3) := by decide +kernel
theorem d_MT_tell_12 : decode b_MT_tell 12 = .ok (.aload_n 0, 1) := by decide +kernel
theorem d_MT_tell_13 : decode b_MT_tell 13 = .ok (.getfield 33, 3) := by decide +kernel
theorem d_MT_tell_16 : decode b_MT_tell 16 = .ok (.arraylength, 1) := by decide +kernel
theorem d_MT_tell_17 : decode b_MT_tell 17 = .ok (.ireturn, 1) := by decide +kernel
theorem d_MT_seekWitness_0 : decode b_MT_seekWitness 0 = .ok (.aload_n 0, 1) := by decide +kernel
theorem d_MT_seekWitness_1 : decode b_MT_seekWitness 1 = .ok (.getfield 18, 3) := by decide +kernel
theorem d_MT_seekWitness_4 : decode b_MT_seekWitness 4 = .ok (.sipush (1600), 3) := by decide +kernel
theorem d_MT_seekWitness_7 : decode b_MT_seekWitness 7 = .ok (.invokevirtual 156, 3) := by decide +kernel
theorem d_MT_seekWitness_10 : decode b_MT_seekWitness 10 = .ok (.aload_n 0, 1) := by decide +kernel
theorem d_MT_seekWitness_11 : decode b_MT_seekWitness 11 = .ok (.getfield 18, 3) := by decide +kernel
theorem d_MT_seekWitness_14 : decode b_MT_seekWitness 14 = .ok (.iload_n 2, 1) := by decide +kernel
theorem d_MT_seekWitness_15 : decode b_MT_seekWitness 15 = .ok (.iload 4, 2) := by decide +kernel
theorem d_MT_seekWitness_17 : decode b_MT_seekWitness 17 = .ok (.invokestatic 159, 3) := by decide +kernel
theorem d_MT_seekWitness_20 : decode b_MT_seekWitness 20 = .ok (.iconst 0, 1) := by decide +kernel
theorem d_MT_seekWitness_21 : decode b_MT_seekWitness 21 = .ok (.iconst 0, 1) := by decide +kernel
theorem d_MT_seekWitness_22 : decode b_MT_seekWitness 22 = .ok (.invokevirtual 162, 3) := by decide +kernel
theorem d_MT_seekWitness_25 : decode b_MT_seekWitness 25 = .ok (.iconst 0, 1) := by decide +kernel
theorem d_MT_seekWitness_26 : decode b_MT_seekWitness 26 = .ok (.istore 5, 2) := by decide +kernel
theorem d_MT_seekWitness_28 : decode b_MT_seekWitness 28 = .ok (.iload 5, 2) := by decide +kernel
theorem d_MT_seekWitness_30 : decode b_MT_seekWitness 30 = .ok (.aload_n 0, 1) := by decide +kernel
theorem d_MT_seekWitness_31 : decode b_MT_seekWitness 31 = .ok (.getfield 18, 3) := by decide +kernel
theorem d_MT_seekWitness_34 : decode b_MT_seekWitness 34 = .ok (.getfield 101, 3) := by decide +kernel
theorem d_MT_seekWitness_37 : decode b_MT_seekWitness 37 = .ok (.if_icmp .ge (124), 3) := by decide +kernel
theorem d_MT_seekWitness_40 : decode b_MT_seekWitness 40 = .ok (.iload 5, 2) := by decide +kernel
theorem d_MT_seekWitness_42 : decode b_MT_seekWitness 42 = .ok (.sipush (1600), 3) := by decide +kernel
theorem d_MT_seekWitness_45 : decode b_MT_seekWitness 45 = .ok (.if_icmp .ge (116), 3) := by decide +kernel
theorem d_MT_seekWitness_48 : decode b_MT_seekWitness 48 = .ok (.aload_n 0, 1) := by decide +kernel
theorem d_MT_seekWitness_49 : decode b_MT_seekWitness 49 = .ok (.getfield 18, 3) := by decide +kernel
theorem d_MT_seekWitness_52 : decode b_MT_seekWitness 52 = .ok (.iload 5, 2) := by decide +kernel
theorem d_MT_seekWitness_54 : decode b_MT_seekWitness 54 = .ok (.invokevirtual 105, 3) := by decide +kernel
theorem d_MT_seekWitness_57 : decode b_MT_seekWitness 57 = .ok (.invokestatic 132, 3) := by decide +kernel
theorem d_MT_seekWitness_60 : decode b_MT_seekWitness 60 = .ok (.istore 6, 2) := by decide +kernel
theorem d_MT_seekWitness_62 : decode b_MT_seekWitness 62 = .ok (.aload_n 0, 1) := by decide +kernel
theorem d_MT_seekWitness_63 : decode b_MT_seekWitness 63 = .ok (.getfield 18, 3) := by decide +kernel
theorem d_MT_seekWitness_66 : decode b_MT_seekWitness 66 = .ok (.iload 5, 2) := by decide +kernel
theorem d_MT_seekWitness_68 : decode b_MT_seekWitness 68 = .ok (.invokevirtual 105, 3) := by decide +kernel
theorem d_MT_seekWitness_71 : decode b_MT_seekWitness 71 = .ok (.invokestatic 139, 3) := by decide +kernel
theorem d_MT_seekWitness_74 : decode b_MT_seekWitness 74 = .ok (.istore 7, 2) := by decide +kernel
theorem d_MT_seekWitness_76 : decode b_MT_seekWitness 76 = .ok (.iconst 0, 1) := by decide +kernel
theorem d_MT_seekWitness_77 : decode b_MT_seekWitness 77 = .ok (.istore 8, 2) := by decide +kernel
theorem d_MT_seekWitness_79 : decode b_MT_seekWitness 79 = .ok (.iload 8, 2) := by decide +kernel
theorem d_MT_seekWitness_81 : decode b_MT_seekWitness 81 = .ok (.aload_n 1, 1) := by decide +kernel
theorem d_MT_seekWitness_82 : decode b_MT_seekWitness 82 = .ok (.getfield 85, 3) := by decide +kernel
theorem d_MT_seekWitness_85 : decode b_MT_seekWitness 85 = .ok (.if_icmp .ge (70), 3) := by decide +kernel
theorem d_MT_seekWitness_88 : decode b_MT_seekWitness 88 = .ok (.aload_n 1, 1) := by decide +kernel
theorem d_MT_seekWitness_89 : decode b_MT_seekWitness 89 = .ok (.iload 6, 2) := by decide +kernel
theorem d_MT_seekWitness_91 : decode b_MT_seekWitness 91 = .ok (.iload 8, 2) := by decide +kernel
theorem d_MT_seekWitness_93 : decode b_MT_seekWitness 93 = .ok (.invokevirtual 64, 3) := by decide +kernel
theorem d_MT_seekWitness_96 : decode b_MT_seekWitness 96 = .ok (.aload_n 3, 1) := by decide +kernel
theorem d_MT_seekWitness_97 : decode b_MT_seekWitness 97 = .ok (.iload 7, 2) := by decide +kernel
theorem d_MT_seekWitness_99 : decode b_MT_seekWitness 99 = .ok (.iload 8, 2) := by decide +kernel
theorem d_MT_seekWitness_101 : decode b_MT_seekWitness 101 = .ok (.invokevirtual 64, 3) := by decide +kernel
theorem d_MT_seekWitness_104 : decode b_MT_seekWitness 104 = .ok (.if_icmp .eq (15), 3) := by decide +kernel
theorem d_MT_seekWitness_107 : decode b_MT_seekWitness 107 = .ok (.aload_n 0, 1) := by decide +kernel
theorem d_MT_seekWitness_108 : decode b_MT_seekWitness 108 = .ok (.getfield 18, 3) := by decide +kernel
theorem d_MT_seekWitness_111 : decode b_MT_seekWitness 111 = .ok (.iload 5, 2) := by decide +kernel
theorem d_MT_seekWitness_113 : decode b_MT_seekWitness 113 = .ok (.iload 8, 2) := by decide +kernel
theorem d_MT_seekWitness_115 : decode b_MT_seekWitness 115 = .ok (.invokevirtual 166, 3) := by decide +kernel
theorem d_MT_seekWitness_118 : decode b_MT_seekWitness 118 = .ok (.ireturn, 1) := by decide +kernel
theorem d_MT_seekWitness_119 : decode b_MT_seekWitness 119 = .ok (.aload_n 0, 1) := by decide +kernel
theorem d_MT_seekWitness_120 : decode b_MT_seekWitness 120 = .ok (.getfield 18, 3) := by decide +kernel
theorem d_MT_seekWitness_123 : decode b_MT_seekWitness 123 = .ok (.aload_n 1, 1) := by decide +kernel
theorem d_MT_seekWitness_124 : decode b_MT_seekWitness 124 = .ok (.iload 6, 2) := by decide +kernel
theorem d_MT_seekWitness_126 : decode b_MT_seekWitness 126 = .ok (.iload 8, 2) := by decide +kernel
theorem d_MT_seekWitness_128 : decode b_MT_seekWitness 128 = .ok (.invokevirtual 60, 3) := by decide +kernel
theorem d_MT_seekWitness_131 : decode b_MT_seekWitness 131 = .ok (.aload_n 3, 1) := by decide +kernel
theorem d_MT_seekWitness_132 : decode b_MT_seekWitness 132 = .ok (.iload 7, 2) := by decide +kernel
theorem d_MT_seekWitness_134 : decode b_MT_seekWitness 134 = .ok (.iload 8, 2) := by decide +kernel
theorem d_MT_seekWitness_136 : decode b_MT_seekWitness 136 = .ok (.invokevirtual 60, 3) := by decide +kernel
theorem d_MT_seekWitness_139 : decode b_MT_seekWitness 139 = .ok (.invokestatic 159, 3) := by decide +kernel
theorem d_MT_seekWitness_142 : decode b_MT_seekWitness 142 = .ok (.iload 5, 2) := by decide +kernel
theorem d_MT_seekWitness_144 : decode b_MT_seekWitness 144 = .ok (.iload 8, 2) := by decide +kernel
theorem d_MT_seekWitness_146 : decode b_MT_seekWitness 146 = .ok (.invokevirtual 162, 3) := by decide +kernel
theorem d_MT_seekWitness_149 : decode b_MT_seekWitness 149 = .ok (.iinc 8 (1), 3) := by decide +kernel
theorem d_MT_seekWitness_152 : decode b_MT_seekWitness 152 = .ok (.goto (-73), 3) := by decide +kernel
theorem d_MT_seekWitness_155 : decode b_MT_seekWitness 155 = .ok (.iinc 5 (1), 3) := by decide +kernel
theorem d_MT_seekWitness_158 : decode b_MT_seekWitness 158 = .ok (.goto (-130), 3) := by decide +kernel
theorem d_MT_seekWitness_161 : decode b_MT_seekWitness 161 = .ok (.iconst (-1), 1) := by decide +kernel
theorem d_MT_seekWitness_162 : decode b_MT_seekWitness 162 = .ok (.ireturn, 1) := by decide +kernel
theorem d_MT_numberSets_0 : decode b_MT_numberSets 0 = .ok (.aload_n 0, 1) := by decide +kernel
theorem d_MT_numberSets_1 : decode b_MT_numberSets 1 = .ok (.getfield 18, 3) := by decide +kernel
theorem d_MT_numberSets_4 : decode b_MT_numberSets 4 = .ok (.aload_n 1, 1) := by decide +kernel
theorem d_MT_numberSets_5 : decode b_MT_numberSets 5 = .ok (.getfield 102, 3) := by decide +kernel
theorem d_MT_numberSets_8 : decode b_MT_numberSets 8 = .ok (.invokevirtual 156, 3) := by decide +kernel
theorem d_MT_numberSets_11 : decode b_MT_numberSets 11 = .ok (.aload_n 0, 1) := by decide +kernel
theorem d_MT_numberSets_12 : decode b_MT_numberSets 12 = .ok (.getfield 18, 3) := by decide +kernel
theorem d_MT_numberSets_15 : decode b_MT_numberSets 15 = .ok (.aload_n 1, 1) := by decide +kernel
theorem d_MT_numberSets_16 : decode b_MT_numberSets 16 = .ok (.iconst 0, 1) := by decide +kernel
theorem d_MT_numberSets_17 : decode b_MT_numberSets 17 = .ok (.invokevirtual 74, 3) := by decide +kernel
theorem d_MT_numberSets_20 : decode b_MT_numberSets 20 = .ok (.iconst 0, 1) := by decide +kernel
theorem d_MT_numberSets_21 : decode b_MT_numberSets 21 = .ok (.iconst 0, 1) := by decide +kernel
theorem d_MT_numberSets_22 : decode b_MT_numberSets 22 = .ok (.invokevirtual 162, 3) := by decide +kernel
theorem d_MT_numberSets_25 : decode b_MT_numberSets 25 = .ok (.iconst 0, 1) := by decide +kernel
theorem d_MT_numberSets_26 : decode b_MT_numberSets 26 = .ok (.istore_n 2, 1) := by decide +kernel
theorem d_MT_numberSets_27 : decode b_MT_numberSets 27 = .ok (.iload_n 2, 1) := by decide +kernel
theorem d_MT_numberSets_28 : decode b_MT_numberSets 28 = .ok (.aload_n 0, 1) := by decide +kernel
theorem d_MT_numberSets_29 : decode b_MT_numberSets 29 = .ok (.getfield 18, 3) := by decide +kernel
theorem d_MT_numberSets_32 : decode b_MT_numberSets 32 = .ok (.getfield 101, 3) := by decide +kernel
theorem d_MT_numberSets_35 : decode b_MT_numberSets 35 = .ok (.if_icmp .ge (63), 3) := by decide +kernel
theorem d_MT_numberSets_38 : decode b_MT_numberSets 38 = .ok (.iload_n 2, 1) := by decide +kernel
theorem d_MT_numberSets_39 : decode b_MT_numberSets 39 = .ok (.bipush (40), 2) := by decide +kernel
theorem d_MT_numberSets_41 : decode b_MT_numberSets 41 = .ok (.if_icmp .ge (57), 3) := by decide +kernel
theorem d_MT_numberSets_44 : decode b_MT_numberSets 44 = .ok (.aload_n 0, 1) := by decide +kernel
theorem d_MT_numberSets_45 : decode b_MT_numberSets 45 = .ok (.getfield 18, 3) := by decide +kernel
theorem d_MT_numberSets_48 : decode b_MT_numberSets 48 = .ok (.iload_n 2, 1) := by decide +kernel
theorem d_MT_numberSets_49 : decode b_MT_numberSets 49 = .ok (.invokevirtual 105, 3) := by decide +kernel
theorem d_MT_numberSets_52 : decode b_MT_numberSets 52 = .ok (.istore_n 3, 1) := by decide +kernel
theorem d_MT_numberSets_53 : decode b_MT_numberSets 53 = .ok (.iconst 0, 1) := by decide +kernel
theorem d_MT_numberSets_54 : decode b_MT_numberSets 54 = .ok (.istore 4, 2) := by decide +kernel
theorem d_MT_numberSets_56 : decode b_MT_numberSets 56 = .ok (.iload 4, 2) := by decide +kernel
theorem d_MT_numberSets_58 : decode b_MT_numberSets 58 = .ok (.aload_n 1, 1) := by decide +kernel
theorem d_MT_numberSets_59 : decode b_MT_numberSets 59 = .ok (.getfield 85, 3) := by decide +kernel
theorem d_MT_numberSets_62 : decode b_MT_numberSets 62 = .ok (.if_icmp .ge (30), 3) := by decide +kernel
theorem d_MT_numberSets_65 : decode b_MT_numberSets 65 = .ok (.aload_n 0, 1) := by decide +kernel
theorem d_MT_numberSets_66 : decode b_MT_numberSets 66 = .ok (.getfield 18, 3) := by decide +kernel
theorem d_MT_numberSets_69 : decode b_MT_numberSets 69 = .ok (.aload_n 1, 1) := by decide +kernel
theorem d_MT_numberSets_70 : decode b_MT_numberSets 70 = .ok (.aload_n 1, 1) := by decide +kernel
theorem d_MT_numberSets_71 : decode b_MT_numberSets 71 = .ok (.iload_n 3, 1) := by decide +kernel
theorem d_MT_numberSets_72 : decode b_MT_numberSets 72 = .ok (.iload 4, 2) := by decide +kernel
theorem d_MT_numberSets_74 : decode b_MT_numberSets 74 = .ok (.invokevirtual 60, 3) := by decide +kernel
theorem d_MT_numberSets_77 : decode b_MT_numberSets 77 = .ok (.invokevirtual 74, 3) := by decide +kernel
theorem d_MT_numberSets_80 : decode b_MT_numberSets 80 = .ok (.iload_n 2, 1) := by decide +kernel
theorem d_MT_numberSets_81 : decode b_MT_numberSets 81 = .ok (.iload 4, 2) := by decide +kernel
theorem d_MT_numberSets_83 : decode b_MT_numberSets 83 = .ok (.invokevirtual 162, 3) := by decide +kernel
theorem d_MT_numberSets_86 : decode b_MT_numberSets 86 = .ok (.iinc 4 (1), 3) := by decide +kernel
theorem d_MT_numberSets_89 : decode b_MT_numberSets 89 = .ok (.goto (-33), 3) := by decide +kernel
theorem d_MT_numberSets_92 : decode b_MT_numberSets 92 = .ok (.iinc 2 (1), 3) := by decide +kernel
theorem d_MT_numberSets_95 : decode b_MT_numberSets 95 = .ok (.goto (-68), 3) := by decide +kernel
theorem d_MT_numberSets_98 : decode b_MT_numberSets 98 = .ok (.return_, 1) := by decide +kernel
theorem d_MT_seekReset_0 : decode b_MT_seekReset 0 = .ok (.aload_n 0, 1) := by decide +kernel
theorem d_MT_seekReset_1 : decode b_MT_seekReset 1 = .ok (.getfield 18, 3) := by decide +kernel
theorem d_MT_seekReset_4 : decode b_MT_seekReset 4 = .ok (.iconst 1, 1) := by decide +kernel
theorem d_MT_seekReset_5 : decode b_MT_seekReset 5 = .ok (.aload_n 1, 1) := by decide +kernel
theorem d_MT_seekReset_6 : decode b_MT_seekReset 6 = .ok (.getfield 102, 3) := by decide +kernel
theorem d_MT_seekReset_9 : decode b_MT_seekReset 9 = .ok (.ishl, 1) := by decide +kernel
theorem d_MT_seekReset_10 : decode b_MT_seekReset 10 = .ok (.invokevirtual 156, 3) := by decide +kernel
theorem d_MT_seekReset_13 : decode b_MT_seekReset 13 = .ok (.aload_n 0, 1) := by decide +kernel
theorem d_MT_seekReset_14 : decode b_MT_seekReset 14 = .ok (.getfield 18, 3) := by decide +kernel
theorem d_MT_seekReset_17 : decode b_MT_seekReset 17 = .ok (.iconst 1, 1) := by decide +kernel
theorem d_MT_seekReset_18 : decode b_MT_seekReset 18 = .ok (.aload_n 1, 1) := by decide +kernel
theorem d_MT_seekReset_19 : decode b_MT_seekReset 19 = .ok (.getfield 102, 3) := by decide +kernel
theorem d_MT_seekReset_22 : decode b_MT_seekReset 22 = .ok (.ishl, 1) := by decide +kernel
theorem d_MT_seekReset_23 : decode b_MT_seekReset 23 = .ok (.iconst 1, 1) := by decide +kernel
theorem d_MT_seekReset_24 : decode b_MT_seekReset 24 = .ok (.isub, 1) := by decide +kernel
theorem d_MT_seekReset_25 : decode b_MT_seekReset 25 = .ok (.iconst 0, 1) := by decide +kernel
theorem d_MT_seekReset_26 : decode b_MT_seekReset 26 = .ok (.iconst 0, 1) := by decide +kernel
theorem d_MT_seekReset_27 : decode b_MT_seekReset 27 = .ok (.invokevirtual 162, 3) := by decide +kernel
theorem d_MT_seekReset_30 : decode b_MT_seekReset 30 = .ok (.iconst 0, 1) := by decide +kernel
theorem d_MT_seekReset_31 : decode b_MT_seekReset 31 = .ok (.istore_n 2, 1) := by decide +kernel
theorem d_MT_seekReset_32 : decode b_MT_seekReset 32 = .ok (.iload_n 2, 1) := by decide +kernel
theorem d_MT_seekReset_33 : decode b_MT_seekReset 33 = .ok (.aload_n 0, 1) := by decide +kernel
theorem d_MT_seekReset_34 : decode b_MT_seekReset 34 = .ok (.getfield 18, 3) := by decide +kernel
theorem d_MT_seekReset_37 : decode b_MT_seekReset 37 = .ok (.getfield 101, 3) := by decide +kernel
theorem d_MT_seekReset_40 : decode b_MT_seekReset 40 = .ok (.if_icmp .ge (70), 3) := by decide +kernel
theorem d_MT_seekReset_43 : decode b_MT_seekReset 43 = .ok (.iload_n 2, 1) := by decide +kernel
theorem d_MT_seekReset_44 : decode b_MT_seekReset 44 = .ok (.sipush (4096), 3) := by decide +kernel
theorem d_MT_seekReset_47 : decode b_MT_seekReset 47 = .ok (.if_icmp .ge (63), 3) := by decide +kernel
theorem d_MT_seekReset_50 : decode b_MT_seekReset 50 = .ok (.aload_n 0, 1) := by decide +kernel
theorem d_MT_seekReset_51 : decode b_MT_seekReset 51 = .ok (.getfield 18, 3) := by decide +kernel
theorem d_MT_seekReset_54 : decode b_MT_seekReset 54 = .ok (.iload_n 2, 1) := by decide +kernel
theorem d_MT_seekReset_55 : decode b_MT_seekReset 55 = .ok (.invokevirtual 105, 3) := by decide +kernel
theorem d_MT_seekReset_58 : decode b_MT_seekReset 58 = .ok (.istore_n 3, 1) := by decide +kernel
theorem d_MT_seekReset_59 : decode b_MT_seekReset 59 = .ok (.iload_n 3, 1) := by decide +kernel
theorem d_MT_seekReset_60 : decode b_MT_seekReset 60 = .ok (.invokestatic 169, 3) := by decide +kernel
theorem d_MT_seekReset_63 : decode b_MT_seekReset 63 = .ok (.iconst 1, 1) := by decide +kernel
theorem d_MT_seekReset_64 : decode b_MT_seekReset 64 = .ok (.if_icmp .ne (5), 3) := by decide +kernel
theorem d_MT_seekReset_67 : decode b_MT_seekReset 67 = .ok (.iload_n 2, 1) := by decide +kernel
theorem d_MT_seekReset_68 : decode b_MT_seekReset 68 = .ok (.ireturn, 1) := by decide +kernel
theorem d_MT_seekReset_69 : decode b_MT_seekReset 69 = .ok (.iconst 0, 1) := by decide +kernel
theorem d_MT_seekReset_70 : decode b_MT_seekReset 70 = .ok (.istore 4, 2) := by decide +kernel
theorem d_MT_seekReset_72 : decode b_MT_seekReset 72 = .ok (.iload 4, 2) := by decide +kernel
theorem d_MT_seekReset_74 : decode b_MT_seekReset 74 = .ok (.aload_n 1, 1) := by decide +kernel
theorem d_MT_seekReset_75 : decode b_MT_seekReset 75 = .ok (.getfield 85, 3) := by decide +kernel
theorem d_MT_seekReset_78 : decode b_MT_seekReset 78 = .ok (.if_icmp .ge (26), 3) := by decide +kernel
theorem d_MT_seekReset_81 : decode b_MT_seekReset 81 = .ok (.aload_n 0, 1) := by decide +kernel
theorem d_MT_seekReset_82 : decode b_MT_seekReset 82 = .ok (.getfield 18, 3) := by decide +kernel
theorem d_MT_seekReset_85 : decode b_MT_seekReset 85 = .ok (.aload_n 1, 1) := by decide +kernel
theorem d_MT_seekReset_86 : decode b_MT_seekReset 86 = .ok (.iload_n 3, 1) := by decide +kernel
theorem d_MT_seekReset_87 : decode b_MT_seekReset 87 = .ok (.iload 4, 2) := by decide +kernel
theorem d_MT_seekReset_89 : decode b_MT_seekReset 89 = .ok (.invokevirtual 174, 3) := by decide +kernel
theorem d_MT_seekReset_92 : decode b_MT_seekReset 92 = .ok (.iload_n 2, 1) := by decide +kernel
theorem d_MT_seekReset_93 : decode b_MT_seekReset 93 = .ok (.iload 4, 2) := by decide +kernel
theorem d_MT_seekReset_95 : decode b_MT_seekReset 95 = .ok (.invokevirtual 162, 3) := by decide +kernel
theorem d_MT_seekReset_98 : decode b_MT_seekReset 98 = .ok (.iinc 4 (1), 3) := by decide +kernel
theorem d_MT_seekReset_101 : decode b_MT_seekReset 101 = .ok (.goto (-29), 3) := by decide +kernel
theorem d_MT_seekReset_104 : decode b_MT_seekReset 104 = .ok (.iinc 2 (1), 3) := by decide +kernel
theorem d_MT_seekReset_107 : decode b_MT_seekReset 107 = .ok (.goto (-75), 3) := by decide +kernel
theorem d_MT_seekReset_110 : decode b_MT_seekReset 110 = .ok (.iconst (-1), 1) := by decide +kernel
theorem d_MT_seekReset_111 : decode b_MT_seekReset 111 = .ok (.ireturn, 1) := by decide +kernel
theorem d_MT_seekHomed_0 : decode b_MT_seekHomed 0 = .ok (.aload_n 0, 1) := by decide +kernel
theorem d_MT_seekHomed_1 : decode b_MT_seekHomed 1 = .ok (.getfield 18, 3) := by decide +kernel
theorem d_MT_seekHomed_4 : decode b_MT_seekHomed 4 = .ok (.iconst 0, 1) := by decide +kernel
theorem d_MT_seekHomed_5 : decode b_MT_seekHomed 5 = .ok (.invokevirtual 156, 3) := by decide +kernel
theorem d_MT_seekHomed_8 : decode b_MT_seekHomed 8 = .ok (.aload_n 0, 1) := by decide +kernel
theorem d_MT_seekHomed_9 : decode b_MT_seekHomed 9 = .ok (.getfield 25, 3) := by decide +kernel
theorem d_MT_seekHomed_12 : decode b_MT_seekHomed 12 = .ok (.aload_n 1, 1) := by decide +kernel
end
section
theorem d_MT_seekHomed_13 : decode b_MT_seekHomed 13 = .ok (.invokevirtual 177, 3) := by decide +kernel
theorem d_MT_seekHomed_16 : decode b_MT_seekHomed 16 = .ok (.aload_n 0, 1) := by decide +kernel
theorem d_MT_seekHomed_17 : decode b_MT_seekHomed 17 = .ok (.getfield 18, 3) := by decide +kernel
theorem d_MT_seekHomed_20 : decode b_MT_seekHomed 20 = .ok (.iconst 0, 1) := by decide +kernel
theorem d_MT_seekHomed_21 : decode b_MT_seekHomed 21 = .ok (.iconst 0, 1) := by decide +kernel
theorem d_MT_seekHomed_22 : decode b_MT_seekHomed 22 = .ok (.invokevirtual 166, 3) := by decide +kernel
theorem d_MT_seekHomed_25 : decode b_MT_seekHomed 25 = .ok (.istore_n 2, 1) := by decide +kernel
theorem d_MT_seekHomed_26 : decode b_MT_seekHomed 26 = .ok (.aload_n 0, 1) := by decide +kernel
theorem d_MT_seekHomed_27 : decode b_MT_seekHomed 27 = .ok (.getfield 25, 3) := by decide +kernel
theorem d_MT_seekHomed_30 : decode b_MT_seekHomed 30 = .ok (.invokevirtual 179, 3) := by decide +kernel
theorem d_MT_seekHomed_33 : decode b_MT_seekHomed 33 = .ok (.ifCond .eq (5), 3) := by decide +kernel
theorem d_MT_seekHomed_36 : decode b_MT_seekHomed 36 = .ok (.iload_n 2, 1) := by decide +kernel
theorem d_MT_seekHomed_37 : decode b_MT_seekHomed 37 = .ok (.ireturn, 1) := by decide +kernel
theorem d_MT_seekHomed_38 : decode b_MT_seekHomed 38 = .ok (.aload_n 0, 1) := by decide +kernel
theorem d_MT_seekHomed_39 : decode b_MT_seekHomed 39 = .ok (.getfield 25, 3) := by decide +kernel
theorem d_MT_seekHomed_42 : decode b_MT_seekHomed 42 = .ok (.invokevirtual 182, 3) := by decide +kernel
theorem d_MT_seekHomed_45 : decode b_MT_seekHomed 45 = .ok (.iconst 0, 1) := by decide +kernel
theorem d_MT_seekHomed_46 : decode b_MT_seekHomed 46 = .ok (.istore_n 3, 1) := by decide +kernel
theorem d_MT_seekHomed_47 : decode b_MT_seekHomed 47 = .ok (.iload_n 3, 1) := by decide +kernel
theorem d_MT_seekHomed_48 : decode b_MT_seekHomed 48 = .ok (.aload_n 0, 1) := by decide +kernel
theorem d_MT_seekHomed_49 : decode b_MT_seekHomed 49 = .ok (.getfield 25, 3) := by decide +kernel
theorem d_MT_seekHomed_52 : decode b_MT_seekHomed 52 = .ok (.getfield 185, 3) := by decide +kernel
theorem d_MT_seekHomed_55 : decode b_MT_seekHomed 55 = .ok (.if_icmp .ge (103), 3) := by decide +kernel
theorem d_MT_seekHomed_58 : decode b_MT_seekHomed 58 = .ok (.iload_n 3, 1) := by decide +kernel
theorem d_MT_seekHomed_59 : decode b_MT_seekHomed 59 = .ok (.sipush (300), 3) := by decide +kernel
theorem d_MT_seekHomed_62 : decode b_MT_seekHomed 62 = .ok (.if_icmp .ge (96), 3) := by decide +kernel
theorem d_MT_seekHomed_65 : decode b_MT_seekHomed 65 = .ok (.iconst 0, 1) := by decide +kernel
theorem d_MT_seekHomed_66 : decode b_MT_seekHomed 66 = .ok (.istore 4, 2) := by decide +kernel
theorem d_MT_seekHomed_68 : decode b_MT_seekHomed 68 = .ok (.iload 4, 2) := by decide +kernel
theorem d_MT_seekHomed_70 : decode b_MT_seekHomed 70 = .ok (.aload_n 1, 1) := by decide +kernel
theorem d_MT_seekHomed_71 : decode b_MT_seekHomed 71 = .ok (.getfield 85, 3) := by decide +kernel
theorem d_MT_seekHomed_74 : decode b_MT_seekHomed 74 = .ok (.if_icmp .ge (78), 3) := by decide +kernel
theorem d_MT_seekHomed_77 : decode b_MT_seekHomed 77 = .ok (.aload_n 0, 1) := by decide +kernel
theorem d_MT_seekHomed_78 : decode b_MT_seekHomed 78 = .ok (.getfield 25, 3) := by decide +kernel
theorem d_MT_seekHomed_81 : decode b_MT_seekHomed 81 = .ok (.getfield 185, 3) := by decide +kernel
theorem d_MT_seekHomed_84 : decode b_MT_seekHomed 84 = .ok (.sipush (300), 3) := by decide +kernel
theorem d_MT_seekHomed_87 : decode b_MT_seekHomed 87 = .ok (.if_icmp .lt (5), 3) := by decide +kernel
theorem d_MT_seekHomed_90 : decode b_MT_seekHomed 90 = .ok (.iconst (-1), 1) := by decide +kernel
theorem d_MT_seekHomed_91 : decode b_MT_seekHomed 91 = .ok (.ireturn, 1) := by decide +kernel
theorem d_MT_seekHomed_92 : decode b_MT_seekHomed 92 = .ok (.aload_n 0, 1) := by decide +kernel
theorem d_MT_seekHomed_93 : decode b_MT_seekHomed 93 = .ok (.getfield 25, 3) := by decide +kernel
theorem d_MT_seekHomed_96 : decode b_MT_seekHomed 96 = .ok (.aload_n 1, 1) := by decide +kernel
theorem d_MT_seekHomed_97 : decode b_MT_seekHomed 97 = .ok (.iload_n 3, 1) := by decide +kernel
theorem d_MT_seekHomed_98 : decode b_MT_seekHomed 98 = .ok (.iload 4, 2) := by decide +kernel
theorem d_MT_seekHomed_100 : decode b_MT_seekHomed 100 = .ok (.invokevirtual 186, 3) := by decide +kernel
theorem d_MT_seekHomed_103 : decode b_MT_seekHomed 103 = .ok (.aload_n 0, 1) := by decide +kernel
theorem d_MT_seekHomed_104 : decode b_MT_seekHomed 104 = .ok (.getfield 25, 3) := by decide +kernel
theorem d_MT_seekHomed_107 : decode b_MT_seekHomed 107 = .ok (.invokevirtual 190, 3) := by decide +kernel
theorem d_MT_seekHomed_110 : decode b_MT_seekHomed 110 = .ok (.ifCond .eq (6), 3) := by decide +kernel
theorem d_MT_seekHomed_113 : decode b_MT_seekHomed 113 = .ok (.goto (33), 3) := by decide +kernel
theorem d_MT_seekHomed_116 : decode b_MT_seekHomed 116 = .ok (.aload_n 0, 1) := by decide +kernel
theorem d_MT_seekHomed_117 : decode b_MT_seekHomed 117 = .ok (.getfield 18, 3) := by decide +kernel
theorem d_MT_seekHomed_120 : decode b_MT_seekHomed 120 = .ok (.iload_n 3, 1) := by decide +kernel
theorem d_MT_seekHomed_121 : decode b_MT_seekHomed 121 = .ok (.iload 4, 2) := by decide +kernel
theorem d_MT_seekHomed_123 : decode b_MT_seekHomed 123 = .ok (.invokevirtual 166, 3) := by decide +kernel
theorem d_MT_seekHomed_126 : decode b_MT_seekHomed 126 = .ok (.istore_n 2, 1) := by decide +kernel
theorem d_MT_seekHomed_127 : decode b_MT_seekHomed 127 = .ok (.aload_n 0, 1) := by decide +kernel
theorem d_MT_seekHomed_128 : decode b_MT_seekHomed 128 = .ok (.getfield 25, 3) := by decide +kernel
theorem d_MT_seekHomed_131 : decode b_MT_seekHomed 131 = .ok (.invokevirtual 179, 3) := by decide +kernel
theorem d_MT_seekHomed_134 : decode b_MT_seekHomed 134 = .ok (.ifCond .eq (5), 3) := by decide +kernel
theorem d_MT_seekHomed_137 : decode b_MT_seekHomed 137 = .ok (.iload_n 2, 1) := by decide +kernel
theorem d_MT_seekHomed_138 : decode b_MT_seekHomed 138 = .ok (.ireturn, 1) := by decide +kernel
theorem d_MT_seekHomed_139 : decode b_MT_seekHomed 139 = .ok (.aload_n 0, 1) := by decide +kernel
theorem d_MT_seekHomed_140 : decode b_MT_seekHomed 140 = .ok (.getfield 25, 3) := by decide +kernel
theorem d_MT_seekHomed_143 : decode b_MT_seekHomed 143 = .ok (.invokevirtual 182, 3) := by decide +kernel
theorem d_MT_seekHomed_146 : decode b_MT_seekHomed 146 = .ok (.iinc 4 (1), 3) := by decide +kernel
theorem d_MT_seekHomed_149 : decode b_MT_seekHomed 149 = .ok (.goto (-81), 3) := by decide +kernel
theorem d_MT_seekHomed_152 : decode b_MT_seekHomed 152 = .ok (.iinc 3 (1), 3) := by decide +kernel
theorem d_MT_seekHomed_155 : decode b_MT_seekHomed 155 = .ok (.goto (-108), 3) := by decide +kernel
theorem d_MT_seekHomed_158 : decode b_MT_seekHomed 158 = .ok (.iconst (-1), 1) := by decide +kernel
theorem d_MT_seekHomed_159 : decode b_MT_seekHomed 159 = .ok (.ireturn, 1) := by decide +kernel
theorem d_MT_numberPairs_0 : decode b_MT_numberPairs 0 = .ok (.aload_n 0, 1) := by decide +kernel
theorem d_MT_numberPairs_1 : decode b_MT_numberPairs 1 = .ok (.getfield 18, 3) := by decide +kernel
theorem d_MT_numberPairs_4 : decode b_MT_numberPairs 4 = .ok (.sipush (1600), 3) := by decide +kernel
theorem d_MT_numberPairs_7 : decode b_MT_numberPairs 7 = .ok (.invokevirtual 156, 3) := by decide +kernel
theorem d_MT_numberPairs_10 : decode b_MT_numberPairs 10 = .ok (.aload_n 0, 1) := by decide +kernel
theorem d_MT_numberPairs_11 : decode b_MT_numberPairs 11 = .ok (.getfield 18, 3) := by decide +kernel
theorem d_MT_numberPairs_14 : decode b_MT_numberPairs 14 = .ok (.iconst 0, 1) := by decide +kernel
theorem d_MT_numberPairs_15 : decode b_MT_numberPairs 15 = .ok (.iconst 0, 1) := by decide +kernel
theorem d_MT_numberPairs_16 : decode b_MT_numberPairs 16 = .ok (.invokestatic 159, 3) := by decide +kernel
theorem d_MT_numberPairs_19 : decode b_MT_numberPairs 19 = .ok (.iconst 0, 1) := by decide +kernel
theorem d_MT_numberPairs_20 : decode b_MT_numberPairs 20 = .ok (.iconst 0, 1) := by decide +kernel
theorem d_MT_numberPairs_21 : decode b_MT_numberPairs 21 = .ok (.invokevirtual 162, 3) := by decide +kernel
theorem d_MT_numberPairs_24 : decode b_MT_numberPairs 24 = .ok (.iconst 0, 1) := by decide +kernel
theorem d_MT_numberPairs_25 : decode b_MT_numberPairs 25 = .ok (.istore_n 3, 1) := by decide +kernel
theorem d_MT_numberPairs_26 : decode b_MT_numberPairs 26 = .ok (.iload_n 3, 1) := by decide +kernel
theorem d_MT_numberPairs_27 : decode b_MT_numberPairs 27 = .ok (.aload_n 0, 1) := by decide +kernel
theorem d_MT_numberPairs_28 : decode b_MT_numberPairs 28 = .ok (.getfield 18, 3) := by decide +kernel
theorem d_MT_numberPairs_31 : decode b_MT_numberPairs 31 = .ok (.getfield 101, 3) := by decide +kernel
theorem d_MT_numberPairs_34 : decode b_MT_numberPairs 34 = .ok (.if_icmp .ge (70), 3) := by decide +kernel
theorem d_MT_numberPairs_37 : decode b_MT_numberPairs 37 = .ok (.iload_n 3, 1) := by decide +kernel
theorem d_MT_numberPairs_38 : decode b_MT_numberPairs 38 = .ok (.bipush (40), 2) := by decide +kernel
theorem d_MT_numberPairs_40 : decode b_MT_numberPairs 40 = .ok (.if_icmp .ge (64), 3) := by decide +kernel
theorem d_MT_numberPairs_43 : decode b_MT_numberPairs 43 = .ok (.iconst 0, 1) := by decide +kernel
theorem d_MT_numberPairs_44 : decode b_MT_numberPairs 44 = .ok (.istore 4, 2) := by decide +kernel
theorem d_MT_numberPairs_46 : decode b_MT_numberPairs 46 = .ok (.iload 4, 2) := by decide +kernel
theorem d_MT_numberPairs_48 : decode b_MT_numberPairs 48 = .ok (.aload_n 1, 1) := by decide +kernel
theorem d_MT_numberPairs_49 : decode b_MT_numberPairs 49 = .ok (.getfield 85, 3) := by decide +kernel
theorem d_MT_numberPairs_52 : decode b_MT_numberPairs 52 = .ok (.if_icmp .ge (46), 3) := by decide +kernel
theorem d_MT_numberPairs_55 : decode b_MT_numberPairs 55 = .ok (.aload_n 1, 1) := by decide +kernel
theorem d_MT_numberPairs_56 : decode b_MT_numberPairs 56 = .ok (.aload_n 2, 1) := by decide +kernel
theorem d_MT_numberPairs_57 : decode b_MT_numberPairs 57 = .ok (.aload_n 0, 1) := by decide +kernel
theorem d_MT_numberPairs_58 : decode b_MT_numberPairs 58 = .ok (.getfield 18, 3) := by decide +kernel
theorem d_MT_numberPairs_61 : decode b_MT_numberPairs 61 = .ok (.iload_n 3, 1) := by decide +kernel
theorem d_MT_numberPairs_62 : decode b_MT_numberPairs 62 = .ok (.invokevirtual 105, 3) := by decide +kernel
theorem d_MT_numberPairs_65 : decode b_MT_numberPairs 65 = .ok (.iload 4, 2) := by decide +kernel
theorem d_MT_numberPairs_67 : decode b_MT_numberPairs 67 = .ok (.invokestatic 135, 3) := by decide +kernel
theorem d_MT_numberPairs_70 : decode b_MT_numberPairs 70 = .ok (.istore 5, 2) := by decide +kernel
theorem d_MT_numberPairs_72 : decode b_MT_numberPairs 72 = .ok (.iload 5, 2) := by decide +kernel
theorem d_MT_numberPairs_74 : decode b_MT_numberPairs 74 = .ok (.iconst (-1), 1) := by decide +kernel
theorem d_MT_numberPairs_75 : decode b_MT_numberPairs 75 = .ok (.if_icmp .ne (5), 3) := by decide +kernel
theorem d_MT_numberPairs_78 : decode b_MT_numberPairs 78 = .ok (.iconst 0, 1) := by decide +kernel
theorem d_MT_numberPairs_79 : decode b_MT_numberPairs 79 = .ok (.ireturn, 1) := by decide +kernel
theorem d_MT_numberPairs_80 : decode b_MT_numberPairs 80 = .ok (.aload_n 0, 1) := by decide +kernel
theorem d_MT_numberPairs_81 : decode b_MT_numberPairs 81 = .ok (.getfield 18, 3) := by decide +kernel
theorem d_MT_numberPairs_84 : decode b_MT_numberPairs 84 = .ok (.iload 5, 2) := by decide +kernel
theorem d_MT_numberPairs_86 : decode b_MT_numberPairs 86 = .ok (.iload_n 3, 1) := by decide +kernel
theorem d_MT_numberPairs_87 : decode b_MT_numberPairs 87 = .ok (.iload 4, 2) := by decide +kernel
theorem d_MT_numberPairs_89 : decode b_MT_numberPairs 89 = .ok (.invokevirtual 162, 3) := by decide +kernel
theorem d_MT_numberPairs_92 : decode b_MT_numberPairs 92 = .ok (.iinc 4 (1), 3) := by decide +kernel
theorem d_MT_numberPairs_95 : decode b_MT_numberPairs 95 = .ok (.goto (-49), 3) := by decide +kernel
theorem d_MT_numberPairs_98 : decode b_MT_numberPairs 98 = .ok (.iinc 3 (1), 3) := by decide +kernel
theorem d_MT_numberPairs_101 : decode b_MT_numberPairs 101 = .ok (.goto (-75), 3) := by decide +kernel
theorem d_MT_numberPairs_104 : decode b_MT_numberPairs 104 = .ok (.aload_n 0, 1) := by decide +kernel
theorem d_MT_numberPairs_105 : decode b_MT_numberPairs 105 = .ok (.getfield 18, 3) := by decide +kernel
theorem d_MT_numberPairs_108 : decode b_MT_numberPairs 108 = .ok (.getfield 101, 3) := by decide +kernel
theorem d_MT_numberPairs_111 : decode b_MT_numberPairs 111 = .ok (.bipush (40), 2) := by decide +kernel
theorem d_MT_numberPairs_113 : decode b_MT_numberPairs 113 = .ok (.if_icmp .gt (7), 3) := by decide +kernel
theorem d_MT_numberPairs_116 : decode b_MT_numberPairs 116 = .ok (.iconst 1, 1) := by decide +kernel
theorem d_MT_numberPairs_117 : decode b_MT_numberPairs 117 = .ok (.goto (4), 3) := by decide +kernel
theorem d_MT_numberPairs_120 : decode b_MT_numberPairs 120 = .ok (.iconst 0, 1) := by decide +kernel
theorem d_MT_numberPairs_121 : decode b_MT_numberPairs 121 = .ok (.ireturn, 1) := by decide +kernel
theorem d_MT_pairBehind_0 : decode b_MT_pairBehind 0 = .ok (.aload_n 0, 1) := by decide +kernel
theorem d_MT_pairBehind_1 : decode b_MT_pairBehind 1 = .ok (.iload_n 2, 1) := by decide +kernel
theorem d_MT_pairBehind_2 : decode b_MT_pairBehind 2 = .ok (.invokestatic 132, 3) := by decide +kernel
theorem d_MT_pairBehind_5 : decode b_MT_pairBehind 5 = .ok (.iload_n 3, 1) := by decide +kernel
theorem d_MT_pairBehind_6 : decode b_MT_pairBehind 6 = .ok (.invokevirtual 64, 3) := by decide +kernel
theorem d_MT_pairBehind_9 : decode b_MT_pairBehind 9 = .ok (.istore 4, 2) := by decide +kernel
theorem d_MT_pairBehind_11 : decode b_MT_pairBehind 11 = .ok (.aload_n 1, 1) := by decide +kernel
theorem d_MT_pairBehind_12 : decode b_MT_pairBehind 12 = .ok (.iload 4, 2) := by decide +kernel
theorem d_MT_pairBehind_14 : decode b_MT_pairBehind 14 = .ok (.invokevirtual 53, 3) := by decide +kernel
theorem d_MT_pairBehind_17 : decode b_MT_pairBehind 17 = .ok (.ifCond .ne (5), 3) := by decide +kernel
theorem d_MT_pairBehind_20 : decode b_MT_pairBehind 20 = .ok (.iconst (-1), 1) := by decide +kernel
theorem d_MT_pairBehind_21 : decode b_MT_pairBehind 21 = .ok (.ireturn, 1) := by decide +kernel
theorem d_MT_pairBehind_22 : decode b_MT_pairBehind 22 = .ok (.aload_n 0, 1) := by decide +kernel
theorem d_MT_pairBehind_23 : decode b_MT_pairBehind 23 = .ok (.iload_n 2, 1) := by decide +kernel
theorem d_MT_pairBehind_24 : decode b_MT_pairBehind 24 = .ok (.invokestatic 132, 3) := by decide +kernel
theorem d_MT_pairBehind_27 : decode b_MT_pairBehind 27 = .ok (.iload_n 3, 1) := by decide +kernel
theorem d_MT_pairBehind_28 : decode b_MT_pairBehind 28 = .ok (.invokevirtual 60, 3) := by decide +kernel
theorem d_MT_pairBehind_31 : decode b_MT_pairBehind 31 = .ok (.aload_n 1, 1) := by decide +kernel
theorem d_MT_pairBehind_32 : decode b_MT_pairBehind 32 = .ok (.iload_n 2, 1) := by decide +kernel
theorem d_MT_pairBehind_33 : decode b_MT_pairBehind 33 = .ok (.invokestatic 139, 3) := by decide +kernel
theorem d_MT_pairBehind_36 : decode b_MT_pairBehind 36 = .ok (.iload 4, 2) := by decide +kernel
theorem d_MT_pairBehind_38 : decode b_MT_pairBehind 38 = .ok (.invokevirtual 60, 3) := by decide +kernel
theorem d_MT_pairBehind_41 : decode b_MT_pairBehind 41 = .ok (.invokestatic 159, 3) := by decide +kernel
theorem d_MT_pairBehind_44 : decode b_MT_pairBehind 44 = .ok (.ireturn, 1) := by decide +kernel
theorem d_MT_pairOf_0 : decode b_MT_pairOf 0 = .ok (.iload_n 0, 1) := by decide +kernel
theorem d_MT_pairOf_1 : decode b_MT_pairOf 1 = .ok (.bipush (40), 2) := by decide +kernel
theorem d_MT_pairOf_3 : decode b_MT_pairOf 3 = .ok (.imul, 1) := by decide +kernel
theorem d_MT_pairOf_4 : decode b_MT_pairOf 4 = .ok (.iload_n 1, 1) := by decide +kernel
theorem d_MT_pairOf_5 : decode b_MT_pairOf 5 = .ok (.iadd, 1) := by decide +kernel
theorem d_MT_pairOf_6 : decode b_MT_pairOf 6 = .ok (.ireturn, 1) := by decide +kernel
theorem d_MT_firstOf_0 : decode b_MT_firstOf 0 = .ok (.iload_n 0, 1) := by decide +kernel
theorem d_MT_firstOf_1 : decode b_MT_firstOf 1 = .ok (.bipush (40), 2) := by decide +kernel
theorem d_MT_firstOf_3 : decode b_MT_firstOf 3 = .ok (.idiv, 1) := by decide +kernel
theorem d_MT_firstOf_4 : decode b_MT_firstOf 4 = .ok (.ireturn, 1) := by decide +kernel
theorem d_MT_secondOf_0 : decode b_MT_secondOf 0 = .ok (.iload_n 0, 1) := by decide +kernel
theorem d_MT_secondOf_1 : decode b_MT_secondOf 1 = .ok (.bipush (40), 2) := by decide +kernel
theorem d_MT_secondOf_3 : decode b_MT_secondOf 3 = .ok (.irem, 1) := by decide +kernel
theorem d_MT_secondOf_4 : decode b_MT_secondOf 4 = .ok (.ireturn, 1) := by decide +kernel
end
section
theorem d_Ma_init_0 : decode b_Ma_init 0 = .ok (.aload_n 0, 1) := by decide +kernel
theorem d_Ma_init_1 : decode b_Ma_init 1 = .ok (.invokespecial 3, 3) := by decide +kernel
theorem d_Ma_init_4 : decode b_Ma_init 4 = .ok (.aload_n 0, 1) := by decide +kernel
theorem d_Ma_init_5 : decode b_Ma_init 5 = .ok (.sipush (160), 3) := by decide +kernel
theorem d_Ma_init_8 : decode b_Ma_init 8 = .ok (.newarray .int, 2) := by decide +kernel
theorem d_Ma_init_10 : decode b_Ma_init 10 = .ok (.putfield 9, 3) := by decide +kernel
theorem d_Ma_init_13 : decode b_Ma_init 13 = .ok (.aload_n 0, 1) := by decide +kernel
theorem d_Ma_init_14 : decode b_Ma_init 14 = .ok (.sipush (160), 3) := by decide +kernel
theorem d_Ma_init_17 : decode b_Ma_init 17 = .ok (.newarray .int, 2) := by decide +kernel
theorem d_Ma_init_19 : decode b_Ma_init 19 = .ok (.putfield 15, 3) := by decide +kernel
theorem d_Ma_init_22 : decode b_Ma_init 22 = .ok (.aload_n 0, 1) := by decide +kernel
theorem d_Ma_init_23 : decode b_Ma_init 23 = .ok (.bipush (40), 2) := by decide +kernel
theorem d_Ma_init_25 : decode b_Ma_init 25 = .ok (.newarray .int, 2) := by decide +kernel
theorem d_Ma_init_27 : decode b_Ma_init 27 = .ok (.putfield 18, 3) := by decide +kernel
theorem d_Ma_init_30 : decode b_Ma_init 30 = .ok (.aload_n 0, 1) := by decide +kernel
theorem d_Ma_init_31 : decode b_Ma_init 31 = .ok (.bipush (40), 2) := by decide +kernel
theorem d_Ma_init_33 : decode b_Ma_init 33 = .ok (.newarray .int, 2) := by decide +kernel
theorem d_Ma_init_35 : decode b_Ma_init 35 = .ok (.putfield 21, 3) := by decide +kernel
theorem d_Ma_init_38 : decode b_Ma_init 38 = .ok (.return_, 1) := by decide +kernel
theorem d_Ma_begin_0 : decode b_Ma_begin 0 = .ok (.aload_n 0, 1) := by decide +kernel
theorem d_Ma_begin_1 : decode b_Ma_begin 1 = .ok (.iload_n 1, 1) := by decide +kernel
theorem d_Ma_begin_2 : decode b_Ma_begin 2 = .ok (.putfield 24, 3) := by decide +kernel
theorem d_Ma_begin_5 : decode b_Ma_begin 5 = .ok (.aload_n 0, 1) := by decide +kernel
theorem d_Ma_begin_6 : decode b_Ma_begin 6 = .ok (.iload_n 2, 1) := by decide +kernel
theorem d_Ma_begin_7 : decode b_Ma_begin 7 = .ok (.putfield 28, 3) := by decide +kernel
theorem d_Ma_begin_10 : decode b_Ma_begin 10 = .ok (.iconst 0, 1) := by decide +kernel
theorem d_Ma_begin_11 : decode b_Ma_begin 11 = .ok (.istore_n 3, 1) := by decide +kernel
theorem d_Ma_begin_12 : decode b_Ma_begin 12 = .ok (.iload_n 3, 1) := by decide +kernel
theorem d_Ma_begin_13 : decode b_Ma_begin 13 = .ok (.aload_n 0, 1) := by decide +kernel
theorem d_Ma_begin_14 : decode b_Ma_begin 14 = .ok (.getfield 24, 3) := by decide +kernel
theorem d_Ma_begin_17 : decode b_Ma_begin 17 = .ok (.if_icmp .ge (36), 3) := by decide +kernel
theorem d_Ma_begin_20 : decode b_Ma_begin 20 = .ok (.iconst 0, 1) := by decide +kernel
theorem d_Ma_begin_21 : decode b_Ma_begin 21 = .ok (.istore 4, 2) := by decide +kernel
theorem d_Ma_begin_23 : decode b_Ma_begin 23 = .ok (.iload 4, 2) := by decide +kernel
theorem d_Ma_begin_25 : decode b_Ma_begin 25 = .ok (.aload_n 0, 1) := by decide +kernel
theorem d_Ma_begin_26 : decode b_Ma_begin 26 = .ok (.getfield 28, 3) := by decide +kernel
theorem d_Ma_begin_29 : decode b_Ma_begin 29 = .ok (.if_icmp .ge (18), 3) := by decide +kernel
theorem d_Ma_begin_32 : decode b_Ma_begin 32 = .ok (.aload_n 0, 1) := by decide +kernel
theorem d_Ma_begin_33 : decode b_Ma_begin 33 = .ok (.iload_n 3, 1) := by decide +kernel
theorem d_Ma_begin_34 : decode b_Ma_begin 34 = .ok (.iload 4, 2) := by decide +kernel
theorem d_Ma_begin_36 : decode b_Ma_begin 36 = .ok (.iload_n 3, 1) := by decide +kernel
theorem d_Ma_begin_37 : decode b_Ma_begin 37 = .ok (.iconst 0, 1) := by decide +kernel
theorem d_Ma_begin_38 : decode b_Ma_begin 38 = .ok (.invokevirtual 31, 3) := by decide +kernel
theorem d_Ma_begin_41 : decode b_Ma_begin 41 = .ok (.iinc 4 (1), 3) := by decide +kernel
theorem d_Ma_begin_44 : decode b_Ma_begin 44 = .ok (.goto (-21), 3) := by decide +kernel
theorem d_Ma_begin_47 : decode b_Ma_begin 47 = .ok (.iinc 3 (1), 3) := by decide +kernel
theorem d_Ma_begin_50 : decode b_Ma_begin 50 = .ok (.goto (-38), 3) := by decide +kernel
theorem d_Ma_begin_53 : decode b_Ma_begin 53 = .ok (.return_, 1) := by decide +kernel
theorem d_Ma_hasState_0 : decode b_Ma_hasState 0 = .ok (.iload_n 1, 1) := by decide +kernel
theorem d_Ma_hasState_1 : decode b_Ma_hasState 1 = .ok (.ifCond .lt (15), 3) := by decide +kernel
theorem d_Ma_hasState_4 : decode b_Ma_hasState 4 = .ok (.iload_n 1, 1) := by decide +kernel
theorem d_Ma_hasState_5 : decode b_Ma_hasState 5 = .ok (.aload_n 0, 1) := by decide +kernel
theorem d_Ma_hasState_6 : decode b_Ma_hasState 6 = .ok (.getfield 24, 3) := by decide +kernel
theorem d_Ma_hasState_9 : decode b_Ma_hasState 9 = .ok (.if_icmp .ge (7), 3) := by decide +kernel
theorem d_Ma_hasState_12 : decode b_Ma_hasState 12 = .ok (.iconst 1, 1) := by decide +kernel
theorem d_Ma_hasState_13 : decode b_Ma_hasState 13 = .ok (.goto (4), 3) := by decide +kernel
theorem d_Ma_hasState_16 : decode b_Ma_hasState 16 = .ok (.iconst 0, 1) := by decide +kernel
theorem d_Ma_hasState_17 : decode b_Ma_hasState 17 = .ok (.ireturn, 1) := by decide +kernel
theorem d_Ma_hasInput_0 : decode b_Ma_hasInput 0 = .ok (.iload_n 1, 1) := by decide +kernel
theorem d_Ma_hasInput_1 : decode b_Ma_hasInput 1 = .ok (.ifCond .lt (15), 3) := by decide +kernel
theorem d_Ma_hasInput_4 : decode b_Ma_hasInput 4 = .ok (.iload_n 1, 1) := by decide +kernel
theorem d_Ma_hasInput_5 : decode b_Ma_hasInput 5 = .ok (.aload_n 0, 1) := by decide +kernel
theorem d_Ma_hasInput_6 : decode b_Ma_hasInput 6 = .ok (.getfield 28, 3) := by decide +kernel
theorem d_Ma_hasInput_9 : decode b_Ma_hasInput 9 = .ok (.if_icmp .ge (7), 3) := by decide +kernel
theorem d_Ma_hasInput_12 : decode b_Ma_hasInput 12 = .ok (.iconst 1, 1) := by decide +kernel
theorem d_Ma_hasInput_13 : decode b_Ma_hasInput 13 = .ok (.goto (4), 3) := by decide +kernel
theorem d_Ma_hasInput_16 : decode b_Ma_hasInput 16 = .ok (.iconst 0, 1) := by decide +kernel
theorem d_Ma_hasInput_17 : decode b_Ma_hasInput 17 = .ok (.ireturn, 1) := by decide +kernel
theorem d_Ma_nextOf_0 : decode b_Ma_nextOf 0 = .ok (.aload_n 0, 1) := by decide +kernel
theorem d_Ma_nextOf_1 : decode b_Ma_nextOf 1 = .ok (.getfield 9, 3) := by decide +kernel
theorem d_Ma_nextOf_4 : decode b_Ma_nextOf 4 = .ok (.iload_n 1, 1) := by decide +kernel
theorem d_Ma_nextOf_5 : decode b_Ma_nextOf 5 = .ok (.iconst 4, 1) := by decide +kernel
theorem d_Ma_nextOf_6 : decode b_Ma_nextOf 6 = .ok (.imul, 1) := by decide +kernel
theorem d_Ma_nextOf_7 : decode b_Ma_nextOf 7 = .ok (.iload_n 2, 1) := by decide +kernel
theorem d_Ma_nextOf_8 : decode b_Ma_nextOf 8 = .ok (.iadd, 1) := by decide +kernel
theorem d_Ma_nextOf_9 : decode b_Ma_nextOf 9 = .ok (.iaload, 1) := by decide +kernel
theorem d_Ma_nextOf_10 : decode b_Ma_nextOf 10 = .ok (.ireturn, 1) := by decide +kernel
theorem d_Ma_outputOf_0 : decode b_Ma_outputOf 0 = .ok (.aload_n 0, 1) := by decide +kernel
theorem d_Ma_outputOf_1 : decode b_Ma_outputOf 1 = .ok (.getfield 15, 3) := by decide +kernel
theorem d_Ma_outputOf_4 : decode b_Ma_outputOf 4 = .ok (.iload_n 1, 1) := by decide +kernel
theorem d_Ma_outputOf_5 : decode b_Ma_outputOf 5 = .ok (.iconst 4, 1) := by decide +kernel
theorem d_Ma_outputOf_6 : decode b_Ma_outputOf 6 = .ok (.imul, 1) := by decide +kernel
theorem d_Ma_outputOf_7 : decode b_Ma_outputOf 7 = .ok (.iload_n 2, 1) := by decide +kernel
theorem d_Ma_outputOf_8 : decode b_Ma_outputOf 8 = .ok (.iadd, 1) := by decide +kernel
theorem d_Ma_outputOf_9 : decode b_Ma_outputOf 9 = .ok (.iaload, 1) := by decide +kernel
theorem d_Ma_outputOf_10 : decode b_Ma_outputOf 10 = .ok (.ireturn, 1) := by decide +kernel
theorem d_Ma_setArrow_0 : decode b_Ma_setArrow 0 = .ok (.aload_n 0, 1) := by decide +kernel
theorem d_Ma_setArrow_1 : decode b_Ma_setArrow 1 = .ok (.getfield 9, 3) := by decide +kernel
theorem d_Ma_setArrow_4 : decode b_Ma_setArrow 4 = .ok (.iload_n 1, 1) := by decide +kernel
theorem d_Ma_setArrow_5 : decode b_Ma_setArrow 5 = .ok (.iconst 4, 1) := by decide +kernel
theorem d_Ma_setArrow_6 : decode b_Ma_setArrow 6 = .ok (.imul, 1) := by decide +kernel
theorem d_Ma_setArrow_7 : decode b_Ma_setArrow 7 = .ok (.iload_n 2, 1) := by decide +kernel
theorem d_Ma_setArrow_8 : decode b_Ma_setArrow 8 = .ok (.iadd, 1) := by decide +kernel
theorem d_Ma_setArrow_9 : decode b_Ma_setArrow 9 = .ok (.iload_n 3, 1) := by decide +kernel
theorem d_Ma_setArrow_10 : decode b_Ma_setArrow 10 = .ok (.iastore, 1) := by decide +kernel
theorem d_Ma_setArrow_11 : decode b_Ma_setArrow 11 = .ok (.aload_n 0, 1) := by decide +kernel
theorem d_Ma_setArrow_12 : decode b_Ma_setArrow 12 = .ok (.getfield 15, 3) := by decide +kernel
theorem d_Ma_setArrow_15 : decode b_Ma_setArrow 15 = .ok (.iload_n 1, 1) := by decide +kernel
theorem d_Ma_setArrow_16 : decode b_Ma_setArrow 16 = .ok (.iconst 4, 1) := by decide +kernel
theorem d_Ma_setArrow_17 : decode b_Ma_setArrow 17 = .ok (.imul, 1) := by decide +kernel
theorem d_Ma_setArrow_18 : decode b_Ma_setArrow 18 = .ok (.iload_n 2, 1) := by decide +kernel
theorem d_Ma_setArrow_19 : decode b_Ma_setArrow 19 = .ok (.iadd, 1) := by decide +kernel
theorem d_Ma_setArrow_20 : decode b_Ma_setArrow 20 = .ok (.iload 4, 2) := by decide +kernel
theorem d_Ma_setArrow_22 : decode b_Ma_setArrow 22 = .ok (.iastore, 1) := by decide +kernel
theorem d_Ma_setArrow_23 : decode b_Ma_setArrow 23 = .ok (.aload_n 0, 1) := by decide +kernel
theorem d_Ma_setArrow_24 : decode b_Ma_setArrow 24 = .ok (.iconst 0, 1) := by decide +kernel
theorem d_Ma_setArrow_25 : decode b_Ma_setArrow 25 = .ok (.putfield 35, 3) := by decide +kernel
theorem d_Ma_setArrow_28 : decode b_Ma_setArrow 28 = .ok (.return_, 1) := by decide +kernel
theorem d_Ma_reachedFrom_0 : decode b_Ma_reachedFrom 0 = .ok (.iconst 0, 1) := by decide +kernel
theorem d_Ma_reachedFrom_1 : decode b_Ma_reachedFrom 1 = .ok (.istore_n 3, 1) := by decide +kernel
theorem d_Ma_reachedFrom_2 : decode b_Ma_reachedFrom 2 = .ok (.iconst 0, 1) := by decide +kernel
theorem d_Ma_reachedFrom_3 : decode b_Ma_reachedFrom 3 = .ok (.istore 4, 2) := by decide +kernel
theorem d_Ma_reachedFrom_5 : decode b_Ma_reachedFrom 5 = .ok (.iload 4, 2) := by decide +kernel
theorem d_Ma_reachedFrom_7 : decode b_Ma_reachedFrom 7 = .ok (.aload_n 0, 1) := by decide +kernel
theorem d_Ma_reachedFrom_8 : decode b_Ma_reachedFrom 8 = .ok (.getfield 24, 3) := by decide +kernel
theorem d_Ma_reachedFrom_11 : decode b_Ma_reachedFrom 11 = .ok (.if_icmp .ge (30), 3) := by decide +kernel
theorem d_Ma_reachedFrom_14 : decode b_Ma_reachedFrom 14 = .ok (.iload_n 1, 1) := by decide +kernel
theorem d_Ma_reachedFrom_15 : decode b_Ma_reachedFrom 15 = .ok (.iload 4, 2) := by decide +kernel
theorem d_Ma_reachedFrom_17 : decode b_Ma_reachedFrom 17 = .ok (.ishr, 1) := by decide +kernel
theorem d_Ma_reachedFrom_18 : decode b_Ma_reachedFrom 18 = .ok (.iconst 1, 1) := by decide +kernel
theorem d_Ma_reachedFrom_19 : decode b_Ma_reachedFrom 19 = .ok (.iand, 1) := by decide +kernel
theorem d_Ma_reachedFrom_20 : decode b_Ma_reachedFrom 20 = .ok (.ifCond .eq (15), 3) := by decide +kernel
theorem d_Ma_reachedFrom_23 : decode b_Ma_reachedFrom 23 = .ok (.iload_n 3, 1) := by decide +kernel
theorem d_Ma_reachedFrom_24 : decode b_Ma_reachedFrom 24 = .ok (.iconst 1, 1) := by decide +kernel
theorem d_Ma_reachedFrom_25 : decode b_Ma_reachedFrom 25 = .ok (.aload_n 0, 1) := by decide +kernel
theorem d_Ma_reachedFrom_26 : decode b_Ma_reachedFrom 26 = .ok (.iload 4, 2) := by decide +kernel
theorem d_Ma_reachedFrom_28 : decode b_Ma_reachedFrom 28 = .ok (.iload_n 2, 1) := by decide +kernel
theorem d_Ma_reachedFrom_29 : decode b_Ma_reachedFrom 29 = .ok (.invokevirtual 39, 3) := by decide +kernel
theorem d_Ma_reachedFrom_32 : decode b_Ma_reachedFrom 32 = .ok (.ishl, 1) := by decide +kernel
theorem d_Ma_reachedFrom_33 : decode b_Ma_reachedFrom 33 = .ok (.ior, 1) := by decide +kernel
theorem d_Ma_reachedFrom_34 : decode b_Ma_reachedFrom 34 = .ok (.istore_n 3, 1) := by decide +kernel
theorem d_Ma_reachedFrom_35 : decode b_Ma_reachedFrom 35 = .ok (.iinc 4 (1), 3) := by decide +kernel
theorem d_Ma_reachedFrom_38 : decode b_Ma_reachedFrom 38 = .ok (.goto (-33), 3) := by decide +kernel
theorem d_Ma_reachedFrom_41 : decode b_Ma_reachedFrom 41 = .ok (.iload_n 3, 1) := by decide +kernel
theorem d_Ma_reachedFrom_42 : decode b_Ma_reachedFrom 42 = .ok (.ireturn, 1) := by decide +kernel
theorem d_Ma_leastLike_0 : decode b_Ma_leastLike 0 = .ok (.aload_n 0, 1) := by decide +kernel
theorem d_Ma_leastLike_1 : decode b_Ma_leastLike 1 = .ok (.getfield 18, 3) := by decide +kernel
theorem d_Ma_leastLike_4 : decode b_Ma_leastLike 4 = .ok (.iload_n 1, 1) := by decide +kernel
theorem d_Ma_leastLike_5 : decode b_Ma_leastLike 5 = .ok (.iaload, 1) := by decide +kernel
theorem d_Ma_leastLike_6 : decode b_Ma_leastLike 6 = .ok (.ireturn, 1) := by decide +kernel
theorem d_Ma_countSets_0 : decode b_Ma_countSets 0 = .ok (.iconst 0, 1) := by decide +kernel
theorem d_Ma_countSets_1 : decode b_Ma_countSets 1 = .ok (.istore_n 1, 1) := by decide +kernel
theorem d_Ma_countSets_2 : decode b_Ma_countSets 2 = .ok (.iconst 0, 1) := by decide +kernel
theorem d_Ma_countSets_3 : decode b_Ma_countSets 3 = .ok (.istore_n 2, 1) := by decide +kernel
theorem d_Ma_countSets_4 : decode b_Ma_countSets 4 = .ok (.iload_n 2, 1) := by decide +kernel
theorem d_Ma_countSets_5 : decode b_Ma_countSets 5 = .ok (.aload_n 0, 1) := by decide +kernel
theorem d_Ma_countSets_6 : decode b_Ma_countSets 6 = .ok (.getfield 24, 3) := by decide +kernel
theorem d_Ma_countSets_9 : decode b_Ma_countSets 9 = .ok (.if_icmp .ge (22), 3) := by decide +kernel
theorem d_Ma_countSets_12 : decode b_Ma_countSets 12 = .ok (.aload_n 0, 1) := by decide +kernel
theorem d_Ma_countSets_13 : decode b_Ma_countSets 13 = .ok (.getfield 18, 3) := by decide +kernel
theorem d_Ma_countSets_16 : decode b_Ma_countSets 16 = .ok (.iload_n 2, 1) := by decide +kernel
theorem d_Ma_countSets_17 : decode b_Ma_countSets 17 = .ok (.iaload, 1) := by decide +kernel
theorem d_Ma_countSets_18 : decode b_Ma_countSets 18 = .ok (.iload_n 2, 1) := by decide +kernel
theorem d_Ma_countSets_19 : decode b_Ma_countSets 19 = .ok (.if_icmp .ne (6), 3) := by decide +kernel
theorem d_Ma_countSets_22 : decode b_Ma_countSets 22 = .ok (.iinc 1 (1), 3) := by decide +kernel
theorem d_Ma_countSets_25 : decode b_Ma_countSets 25 = .ok (.iinc 2 (1), 3) := by decide +kernel
theorem d_Ma_countSets_28 : decode b_Ma_countSets 28 = .ok (.goto (-24), 3) := by decide +kernel
theorem d_Ma_countSets_31 : decode b_Ma_countSets 31 = .ok (.iload_n 1, 1) := by decide +kernel
theorem d_Ma_countSets_32 : decode b_Ma_countSets 32 = .ok (.ireturn, 1) := by decide +kernel
theorem d_Ma_settle_0 : decode b_Ma_settle 0 = .ok (.aload_n 0, 1) := by decide +kernel
theorem d_Ma_settle_1 : decode b_Ma_settle 1 = .ok (.getfield 35, 3) := by decide +kernel
theorem d_Ma_settle_4 : decode b_Ma_settle 4 = .ok (.ifCond .eq (4), 3) := by decide +kernel
theorem d_Ma_settle_7 : decode b_Ma_settle 7 = .ok (.return_, 1) := by decide +kernel
theorem d_Ma_settle_8 : decode b_Ma_settle 8 = .ok (.aload_n 0, 1) := by decide +kernel
theorem d_Ma_settle_9 : decode b_Ma_settle 9 = .ok (.getfield 18, 3) := by decide +kernel
theorem d_Ma_settle_12 : decode b_Ma_settle 12 = .ok (.iconst 0, 1) := by decide +kernel
theorem d_Ma_settle_13 : decode b_Ma_settle 13 = .ok (.aload_n 0, 1) := by decide +kernel
theorem d_Ma_settle_14 : decode b_Ma_settle 14 = .ok (.getfield 24, 3) := by decide +kernel
theorem d_Ma_settle_17 : decode b_Ma_settle 17 = .ok (.iconst 0, 1) := by decide +kernel
theorem d_Ma_settle_18 : decode b_Ma_settle 18 = .ok (.invokestatic 43, 3) := by decide +kernel
theorem d_Ma_settle_21 : decode b_Ma_settle 21 = .ok (.iconst 1, 1) := by decide +kernel
theorem d_Ma_settle_22 : decode b_Ma_settle 22 = .ok (.istore_n 1, 1) := by decide +kernel
theorem d_Ma_settle_23 : decode b_Ma_settle 23 = .ok (.iconst 0, 1) := by decide +kernel
theorem d_Ma_settle_24 : decode b_Ma_settle 24 = .ok (.istore_n 2, 1) := by decide +kernel
theorem d_Ma_settle_25 : decode b_Ma_settle 25 = .ok (.iload_n 2, 1) := by decide +kernel
theorem d_Ma_settle_26 : decode b_Ma_settle 26 = .ok (.aload_n 0, 1) := by decide +kernel
theorem d_Ma_settle_27 : decode b_Ma_settle 27 = .ok (.getfield 24, 3) := by decide +kernel
theorem d_Ma_settle_30 : decode b_Ma_settle 30 = .ok (.if_icmp .ge (18), 3) := by decide +kernel
theorem d_Ma_settle_33 : decode b_Ma_settle 33 = .ok (.iload_n 1, 1) := by decide +kernel
theorem d_Ma_settle_34 : decode b_Ma_settle 34 = .ok (.ifCond .eq (14), 3) := by decide +kernel
theorem d_Ma_settle_37 : decode b_Ma_settle 37 = .ok (.aload_n 0, 1) := by decide +kernel
theorem d_Ma_settle_38 : decode b_Ma_settle 38 = .ok (.invokevirtual 49, 3) := by decide +kernel
theorem d_Ma_settle_41 : decode b_Ma_settle 41 = .ok (.istore_n 1, 1) := by decide +kernel
theorem d_Ma_settle_42 : decode b_Ma_settle 42 = .ok (.iinc 2 (1), 3) := by decide +kernel
theorem d_Ma_settle_45 : decode b_Ma_settle 45 = .ok (.goto (-20), 3) := by decide +kernel
theorem d_Ma_settle_48 : decode b_Ma_settle 48 = .ok (.aload_n 0, 1) := by decide +kernel
theorem d_Ma_settle_49 : decode b_Ma_settle 49 = .ok (.iconst 1, 1) := by decide +kernel
theorem d_Ma_settle_50 : decode b_Ma_settle 50 = .ok (.putfield 35, 3) := by decide +kernel
theorem d_Ma_settle_53 : decode b_Ma_settle 53 = .ok (.return_, 1) := by decide +kernel
theorem d_Ma_splitSets_0 : decode b_Ma_splitSets 0 = .ok (.iconst 0, 1) := by decide +kernel
theorem d_Ma_splitSets_1 : decode b_Ma_splitSets 1 = .ok (.istore_n 1, 1) := by decide +kernel
theorem d_Ma_splitSets_2 : decode b_Ma_splitSets 2 = .ok (.iconst 0, 1) := by decide +kernel
theorem d_Ma_splitSets_3 : decode b_Ma_splitSets 3 = .ok (.istore_n 2, 1) := by decide +kernel
theorem d_Ma_splitSets_4 : decode b_Ma_splitSets 4 = .ok (.iload_n 2, 1) := by decide +kernel
theorem d_Ma_splitSets_5 : decode b_Ma_splitSets 5 = .ok (.aload_n 0, 1) := by decide +kernel
theorem d_Ma_splitSets_6 : decode b_Ma_splitSets 6 = .ok (.getfield 24, 3) := by decide +kernel
theorem d_Ma_splitSets_9 : decode b_Ma_splitSets 9 = .ok (.if_icmp .ge (43), 3) := by decide +kernel
theorem d_Ma_splitSets_12 : decode b_Ma_splitSets 12 = .ok (.aload_n 0, 1) := by decide +kernel
theorem d_Ma_splitSets_13 : decode b_Ma_splitSets 13 = .ok (.getfield 21, 3) := by decide +kernel
theorem d_Ma_splitSets_16 : decode b_Ma_splitSets 16 = .ok (.iload_n 2, 1) := by decide +kernel
end
section
theorem d_Ma_splitSets_17 : decode b_Ma_splitSets 17 = .ok (.aload_n 0, 1) := by decide +kernel
theorem d_Ma_splitSets_18 : decode b_Ma_splitSets 18 = .ok (.iload_n 2, 1) := by decide +kernel
theorem d_Ma_splitSets_19 : decode b_Ma_splitSets 19 = .ok (.invokevirtual 53, 3) := by decide +kernel
theorem d_Ma_splitSets_22 : decode b_Ma_splitSets 22 = .ok (.iastore, 1) := by decide +kernel
theorem d_Ma_splitSets_23 : decode b_Ma_splitSets 23 = .ok (.iload_n 1, 1) := by decide +kernel
theorem d_Ma_splitSets_24 : decode b_Ma_splitSets 24 = .ok (.aload_n 0, 1) := by decide +kernel
theorem d_Ma_splitSets_25 : decode b_Ma_splitSets 25 = .ok (.getfield 21, 3) := by decide +kernel
theorem d_Ma_splitSets_28 : decode b_Ma_splitSets 28 = .ok (.iload_n 2, 1) := by decide +kernel
theorem d_Ma_splitSets_29 : decode b_Ma_splitSets 29 = .ok (.iaload, 1) := by decide +kernel
theorem d_Ma_splitSets_30 : decode b_Ma_splitSets 30 = .ok (.aload_n 0, 1) := by decide +kernel
theorem d_Ma_splitSets_31 : decode b_Ma_splitSets 31 = .ok (.getfield 18, 3) := by decide +kernel
theorem d_Ma_splitSets_34 : decode b_Ma_splitSets 34 = .ok (.iload_n 2, 1) := by decide +kernel
theorem d_Ma_splitSets_35 : decode b_Ma_splitSets 35 = .ok (.iaload, 1) := by decide +kernel
theorem d_Ma_splitSets_36 : decode b_Ma_splitSets 36 = .ok (.if_icmp .eq (7), 3) := by decide +kernel
theorem d_Ma_splitSets_39 : decode b_Ma_splitSets 39 = .ok (.iconst 1, 1) := by decide +kernel
theorem d_Ma_splitSets_40 : decode b_Ma_splitSets 40 = .ok (.goto (4), 3) := by decide +kernel
theorem d_Ma_splitSets_43 : decode b_Ma_splitSets 43 = .ok (.iconst 0, 1) := by decide +kernel
theorem d_Ma_splitSets_44 : decode b_Ma_splitSets 44 = .ok (.ior, 1) := by decide +kernel
theorem d_Ma_splitSets_45 : decode b_Ma_splitSets 45 = .ok (.istore_n 1, 1) := by decide +kernel
theorem d_Ma_splitSets_46 : decode b_Ma_splitSets 46 = .ok (.iinc 2 (1), 3) := by decide +kernel
theorem d_Ma_splitSets_49 : decode b_Ma_splitSets 49 = .ok (.goto (-45), 3) := by decide +kernel
theorem d_Ma_splitSets_52 : decode b_Ma_splitSets 52 = .ok (.aload_n 0, 1) := by decide +kernel
theorem d_Ma_splitSets_53 : decode b_Ma_splitSets 53 = .ok (.getfield 21, 3) := by decide +kernel
theorem d_Ma_splitSets_56 : decode b_Ma_splitSets 56 = .ok (.iconst 0, 1) := by decide +kernel
theorem d_Ma_splitSets_57 : decode b_Ma_splitSets 57 = .ok (.aload_n 0, 1) := by decide +kernel
theorem d_Ma_splitSets_58 : decode b_Ma_splitSets 58 = .ok (.getfield 18, 3) := by decide +kernel
theorem d_Ma_splitSets_61 : decode b_Ma_splitSets 61 = .ok (.iconst 0, 1) := by decide +kernel
theorem d_Ma_splitSets_62 : decode b_Ma_splitSets 62 = .ok (.aload_n 0, 1) := by decide +kernel
theorem d_Ma_splitSets_63 : decode b_Ma_splitSets 63 = .ok (.getfield 24, 3) := by decide +kernel
theorem d_Ma_splitSets_66 : decode b_Ma_splitSets 66 = .ok (.invokestatic 57, 3) := by decide +kernel
theorem d_Ma_splitSets_69 : decode b_Ma_splitSets 69 = .ok (.iload_n 1, 1) := by decide +kernel
theorem d_Ma_splitSets_70 : decode b_Ma_splitSets 70 = .ok (.ireturn, 1) := by decide +kernel
theorem d_Ma_leastThatAgrees_0 : decode b_Ma_leastThatAgrees 0 = .ok (.iconst 0, 1) := by decide +kernel
theorem d_Ma_leastThatAgrees_1 : decode b_Ma_leastThatAgrees 1 = .ok (.istore_n 2, 1) := by decide +kernel
theorem d_Ma_leastThatAgrees_2 : decode b_Ma_leastThatAgrees 2 = .ok (.iload_n 2, 1) := by decide +kernel
theorem d_Ma_leastThatAgrees_3 : decode b_Ma_leastThatAgrees 3 = .ok (.iload_n 1, 1) := by decide +kernel
theorem d_Ma_leastThatAgrees_4 : decode b_Ma_leastThatAgrees 4 = .ok (.if_icmp .ge (30), 3) := by decide +kernel
theorem d_Ma_leastThatAgrees_7 : decode b_Ma_leastThatAgrees 7 = .ok (.aload_n 0, 1) := by decide +kernel
theorem d_Ma_leastThatAgrees_8 : decode b_Ma_leastThatAgrees 8 = .ok (.getfield 21, 3) := by decide +kernel
theorem d_Ma_leastThatAgrees_11 : decode b_Ma_leastThatAgrees 11 = .ok (.iload_n 2, 1) := by decide +kernel
theorem d_Ma_leastThatAgrees_12 : decode b_Ma_leastThatAgrees 12 = .ok (.iaload, 1) := by decide +kernel
theorem d_Ma_leastThatAgrees_13 : decode b_Ma_leastThatAgrees 13 = .ok (.iload_n 2, 1) := by decide +kernel
theorem d_Ma_leastThatAgrees_14 : decode b_Ma_leastThatAgrees 14 = .ok (.if_icmp .ne (14), 3) := by decide +kernel
theorem d_Ma_leastThatAgrees_17 : decode b_Ma_leastThatAgrees 17 = .ok (.aload_n 0, 1) := by decide +kernel
theorem d_Ma_leastThatAgrees_18 : decode b_Ma_leastThatAgrees 18 = .ok (.iload_n 2, 1) := by decide +kernel
theorem d_Ma_leastThatAgrees_19 : decode b_Ma_leastThatAgrees 19 = .ok (.iload_n 1, 1) := by decide +kernel
theorem d_Ma_leastThatAgrees_20 : decode b_Ma_leastThatAgrees 20 = .ok (.invokevirtual 63, 3) := by decide +kernel
theorem d_Ma_leastThatAgrees_23 : decode b_Ma_leastThatAgrees 23 = .ok (.ifCond .eq (5), 3) := by decide +kernel
theorem d_Ma_leastThatAgrees_26 : decode b_Ma_leastThatAgrees 26 = .ok (.iload_n 2, 1) := by decide +kernel
theorem d_Ma_leastThatAgrees_27 : decode b_Ma_leastThatAgrees 27 = .ok (.ireturn, 1) := by decide +kernel
theorem d_Ma_leastThatAgrees_28 : decode b_Ma_leastThatAgrees 28 = .ok (.iinc 2 (1), 3) := by decide +kernel
theorem d_Ma_leastThatAgrees_31 : decode b_Ma_leastThatAgrees 31 = .ok (.goto (-29), 3) := by decide +kernel
theorem d_Ma_leastThatAgrees_34 : decode b_Ma_leastThatAgrees 34 = .ok (.iload_n 1, 1) := by decide +kernel
theorem d_Ma_leastThatAgrees_35 : decode b_Ma_leastThatAgrees 35 = .ok (.ireturn, 1) := by decide +kernel
theorem d_Ma_isAgreed_0 : decode b_Ma_isAgreed 0 = .ok (.aload_n 0, 1) := by decide +kernel
theorem d_Ma_isAgreed_1 : decode b_Ma_isAgreed 1 = .ok (.getfield 18, 3) := by decide +kernel
theorem d_Ma_isAgreed_4 : decode b_Ma_isAgreed 4 = .ok (.iload_n 1, 1) := by decide +kernel
theorem d_Ma_isAgreed_5 : decode b_Ma_isAgreed 5 = .ok (.iaload, 1) := by decide +kernel
theorem d_Ma_isAgreed_6 : decode b_Ma_isAgreed 6 = .ok (.aload_n 0, 1) := by decide +kernel
theorem d_Ma_isAgreed_7 : decode b_Ma_isAgreed 7 = .ok (.getfield 18, 3) := by decide +kernel
theorem d_Ma_isAgreed_10 : decode b_Ma_isAgreed 10 = .ok (.iload_n 2, 1) := by decide +kernel
theorem d_Ma_isAgreed_11 : decode b_Ma_isAgreed 11 = .ok (.iaload, 1) := by decide +kernel
theorem d_Ma_isAgreed_12 : decode b_Ma_isAgreed 12 = .ok (.if_icmp .eq (5), 3) := by decide +kernel
theorem d_Ma_isAgreed_15 : decode b_Ma_isAgreed 15 = .ok (.iconst 0, 1) := by decide +kernel
theorem d_Ma_isAgreed_16 : decode b_Ma_isAgreed 16 = .ok (.ireturn, 1) := by decide +kernel
theorem d_Ma_isAgreed_17 : decode b_Ma_isAgreed 17 = .ok (.iconst 0, 1) := by decide +kernel
theorem d_Ma_isAgreed_18 : decode b_Ma_isAgreed 18 = .ok (.istore_n 3, 1) := by decide +kernel
theorem d_Ma_isAgreed_19 : decode b_Ma_isAgreed 19 = .ok (.iload_n 3, 1) := by decide +kernel
theorem d_Ma_isAgreed_20 : decode b_Ma_isAgreed 20 = .ok (.aload_n 0, 1) := by decide +kernel
theorem d_Ma_isAgreed_21 : decode b_Ma_isAgreed 21 = .ok (.getfield 28, 3) := by decide +kernel
theorem d_Ma_isAgreed_24 : decode b_Ma_isAgreed 24 = .ok (.if_icmp .ge (53), 3) := by decide +kernel
theorem d_Ma_isAgreed_27 : decode b_Ma_isAgreed 27 = .ok (.aload_n 0, 1) := by decide +kernel
theorem d_Ma_isAgreed_28 : decode b_Ma_isAgreed 28 = .ok (.iload_n 1, 1) := by decide +kernel
theorem d_Ma_isAgreed_29 : decode b_Ma_isAgreed 29 = .ok (.iload_n 3, 1) := by decide +kernel
theorem d_Ma_isAgreed_30 : decode b_Ma_isAgreed 30 = .ok (.invokevirtual 67, 3) := by decide +kernel
theorem d_Ma_isAgreed_33 : decode b_Ma_isAgreed 33 = .ok (.aload_n 0, 1) := by decide +kernel
theorem d_Ma_isAgreed_34 : decode b_Ma_isAgreed 34 = .ok (.iload_n 2, 1) := by decide +kernel
theorem d_Ma_isAgreed_35 : decode b_Ma_isAgreed 35 = .ok (.iload_n 3, 1) := by decide +kernel
theorem d_Ma_isAgreed_36 : decode b_Ma_isAgreed 36 = .ok (.invokevirtual 67, 3) := by decide +kernel
theorem d_Ma_isAgreed_39 : decode b_Ma_isAgreed 39 = .ok (.if_icmp .eq (5), 3) := by decide +kernel
theorem d_Ma_isAgreed_42 : decode b_Ma_isAgreed 42 = .ok (.iconst 0, 1) := by decide +kernel
theorem d_Ma_isAgreed_43 : decode b_Ma_isAgreed 43 = .ok (.ireturn, 1) := by decide +kernel
theorem d_Ma_isAgreed_44 : decode b_Ma_isAgreed 44 = .ok (.aload_n 0, 1) := by decide +kernel
theorem d_Ma_isAgreed_45 : decode b_Ma_isAgreed 45 = .ok (.getfield 18, 3) := by decide +kernel
theorem d_Ma_isAgreed_48 : decode b_Ma_isAgreed 48 = .ok (.aload_n 0, 1) := by decide +kernel
theorem d_Ma_isAgreed_49 : decode b_Ma_isAgreed 49 = .ok (.iload_n 1, 1) := by decide +kernel
theorem d_Ma_isAgreed_50 : decode b_Ma_isAgreed 50 = .ok (.iload_n 3, 1) := by decide +kernel
theorem d_Ma_isAgreed_51 : decode b_Ma_isAgreed 51 = .ok (.invokevirtual 39, 3) := by decide +kernel
theorem d_Ma_isAgreed_54 : decode b_Ma_isAgreed 54 = .ok (.iaload, 1) := by decide +kernel
theorem d_Ma_isAgreed_55 : decode b_Ma_isAgreed 55 = .ok (.aload_n 0, 1) := by decide +kernel
theorem d_Ma_isAgreed_56 : decode b_Ma_isAgreed 56 = .ok (.getfield 18, 3) := by decide +kernel
theorem d_Ma_isAgreed_59 : decode b_Ma_isAgreed 59 = .ok (.aload_n 0, 1) := by decide +kernel
theorem d_Ma_isAgreed_60 : decode b_Ma_isAgreed 60 = .ok (.iload_n 2, 1) := by decide +kernel
theorem d_Ma_isAgreed_61 : decode b_Ma_isAgreed 61 = .ok (.iload_n 3, 1) := by decide +kernel
theorem d_Ma_isAgreed_62 : decode b_Ma_isAgreed 62 = .ok (.invokevirtual 39, 3) := by decide +kernel
theorem d_Ma_isAgreed_65 : decode b_Ma_isAgreed 65 = .ok (.iaload, 1) := by decide +kernel
theorem d_Ma_isAgreed_66 : decode b_Ma_isAgreed 66 = .ok (.if_icmp .eq (5), 3) := by decide +kernel
theorem d_Ma_isAgreed_69 : decode b_Ma_isAgreed 69 = .ok (.iconst 0, 1) := by decide +kernel
theorem d_Ma_isAgreed_70 : decode b_Ma_isAgreed 70 = .ok (.ireturn, 1) := by decide +kernel
theorem d_Ma_isAgreed_71 : decode b_Ma_isAgreed 71 = .ok (.iinc 3 (1), 3) := by decide +kernel
theorem d_Ma_isAgreed_74 : decode b_Ma_isAgreed 74 = .ok (.goto (-55), 3) := by decide +kernel
theorem d_Ma_isAgreed_77 : decode b_Ma_isAgreed 77 = .ok (.iconst 1, 1) := by decide +kernel
theorem d_Ma_isAgreed_78 : decode b_Ma_isAgreed 78 = .ok (.ireturn, 1) := by decide +kernel
end
section
theorem d_Mo_init_0 : decode b_Mo_init 0 = .ok (.aload_n 0, 1) := by decide +kernel
theorem d_Mo_init_1 : decode b_Mo_init 1 = .ok (.invokespecial 1, 3) := by decide +kernel
theorem d_Mo_init_4 : decode b_Mo_init 4 = .ok (.aload_n 0, 1) := by decide +kernel
theorem d_Mo_init_5 : decode b_Mo_init 5 = .ok (.bipush (12), 2) := by decide +kernel
theorem d_Mo_init_7 : decode b_Mo_init 7 = .ok (.newarray .int, 2) := by decide +kernel
theorem d_Mo_init_9 : decode b_Mo_init 9 = .ok (.putfield 7, 3) := by decide +kernel
theorem d_Mo_init_12 : decode b_Mo_init 12 = .ok (.aload_n 0, 1) := by decide +kernel
theorem d_Mo_init_13 : decode b_Mo_init 13 = .ok (.bipush (12), 2) := by decide +kernel
theorem d_Mo_init_15 : decode b_Mo_init 15 = .ok (.newarray .int, 2) := by decide +kernel
theorem d_Mo_init_17 : decode b_Mo_init 17 = .ok (.putfield 13, 3) := by decide +kernel
theorem d_Mo_init_20 : decode b_Mo_init 20 = .ok (.aload_n 0, 1) := by decide +kernel
theorem d_Mo_init_21 : decode b_Mo_init 21 = .ok (.sipush (1920), 3) := by decide +kernel
theorem d_Mo_init_24 : decode b_Mo_init 24 = .ok (.newarray .int, 2) := by decide +kernel
theorem d_Mo_init_26 : decode b_Mo_init 26 = .ok (.putfield 16, 3) := by decide +kernel
theorem d_Mo_init_29 : decode b_Mo_init 29 = .ok (.aload_n 0, 1) := by decide +kernel
theorem d_Mo_init_30 : decode b_Mo_init 30 = .ok (.sipush (1920), 3) := by decide +kernel
theorem d_Mo_init_33 : decode b_Mo_init 33 = .ok (.newarray .int, 2) := by decide +kernel
theorem d_Mo_init_35 : decode b_Mo_init 35 = .ok (.putfield 19, 3) := by decide +kernel
theorem d_Mo_init_38 : decode b_Mo_init 38 = .ok (.aload_n 0, 1) := by decide +kernel
theorem d_Mo_init_39 : decode b_Mo_init 39 = .ok (.sipush (4200), 3) := by decide +kernel
theorem d_Mo_init_42 : decode b_Mo_init 42 = .ok (.newarray .int, 2) := by decide +kernel
theorem d_Mo_init_44 : decode b_Mo_init 44 = .ok (.putfield 22, 3) := by decide +kernel
theorem d_Mo_init_47 : decode b_Mo_init 47 = .ok (.aload_n 0, 1) := by decide +kernel
theorem d_Mo_init_48 : decode b_Mo_init 48 = .ok (.sipush (1600), 3) := by decide +kernel
theorem d_Mo_init_51 : decode b_Mo_init 51 = .ok (.newarray .boolean, 2) := by decide +kernel
theorem d_Mo_init_53 : decode b_Mo_init 53 = .ok (.putfield 25, 3) := by decide +kernel
theorem d_Mo_init_56 : decode b_Mo_init 56 = .ok (.aload_n 0, 1) := by decide +kernel
theorem d_Mo_init_57 : decode b_Mo_init 57 = .ok (.sipush (4096), 3) := by decide +kernel
theorem d_Mo_init_60 : decode b_Mo_init 60 = .ok (.newarray .int, 2) := by decide +kernel
theorem d_Mo_init_62 : decode b_Mo_init 62 = .ok (.putfield 29, 3) := by decide +kernel
theorem d_Mo_init_65 : decode b_Mo_init 65 = .ok (.aload_n 0, 1) := by decide +kernel
theorem d_Mo_init_66 : decode b_Mo_init 66 = .ok (.sipush (4096), 3) := by decide +kernel
theorem d_Mo_init_69 : decode b_Mo_init 69 = .ok (.newarray .int, 2) := by decide +kernel
theorem d_Mo_init_71 : decode b_Mo_init 71 = .ok (.putfield 32, 3) := by decide +kernel
theorem d_Mo_init_74 : decode b_Mo_init 74 = .ok (.aload_n 0, 1) := by decide +kernel
theorem d_Mo_init_75 : decode b_Mo_init 75 = .ok (.sipush (4096), 3) := by decide +kernel
theorem d_Mo_init_78 : decode b_Mo_init 78 = .ok (.newarray .int, 2) := by decide +kernel
theorem d_Mo_init_80 : decode b_Mo_init 80 = .ok (.putfield 35, 3) := by decide +kernel
theorem d_Mo_init_83 : decode b_Mo_init 83 = .ok (.aload_n 0, 1) := by decide +kernel
theorem d_Mo_init_84 : decode b_Mo_init 84 = .ok (.sipush (4096), 3) := by decide +kernel
theorem d_Mo_init_87 : decode b_Mo_init 87 = .ok (.newarray .boolean, 2) := by decide +kernel
theorem d_Mo_init_89 : decode b_Mo_init 89 = .ok (.putfield 38, 3) := by decide +kernel
theorem d_Mo_init_92 : decode b_Mo_init 92 = .ok (.aload_n 0, 1) := by decide +kernel
theorem d_Mo_init_93 : decode b_Mo_init 93 = .ok (.sipush (301), 3) := by decide +kernel
theorem d_Mo_init_96 : decode b_Mo_init 96 = .ok (.newarray .int, 2) := by decide +kernel
theorem d_Mo_init_98 : decode b_Mo_init 98 = .ok (.putfield 41, 3) := by decide +kernel
theorem d_Mo_init_101 : decode b_Mo_init 101 = .ok (.aload_n 0, 1) := by decide +kernel
theorem d_Mo_init_102 : decode b_Mo_init 102 = .ok (.sipush (3612), 3) := by decide +kernel
theorem d_Mo_init_105 : decode b_Mo_init 105 = .ok (.newarray .int, 2) := by decide +kernel
theorem d_Mo_init_107 : decode b_Mo_init 107 = .ok (.putfield 44, 3) := by decide +kernel
theorem d_Mo_init_110 : decode b_Mo_init 110 = .ok (.aload_n 0, 1) := by decide +kernel
theorem d_Mo_init_111 : decode b_Mo_init 111 = .ok (.sipush (301), 3) := by decide +kernel
theorem d_Mo_init_114 : decode b_Mo_init 114 = .ok (.newarray .int, 2) := by decide +kernel
theorem d_Mo_init_116 : decode b_Mo_init 116 = .ok (.putfield 47, 3) := by decide +kernel
theorem d_Mo_init_119 : decode b_Mo_init 119 = .ok (.aload_n 0, 1) := by decide +kernel
theorem d_Mo_init_120 : decode b_Mo_init 120 = .ok (.sipush (301), 3) := by decide +kernel
theorem d_Mo_init_123 : decode b_Mo_init 123 = .ok (.newarray .int, 2) := by decide +kernel
theorem d_Mo_init_125 : decode b_Mo_init 125 = .ok (.putfield 50, 3) := by decide +kernel
theorem d_Mo_init_128 : decode b_Mo_init 128 = .ok (.return_, 1) := by decide +kernel
theorem d_Mo_thrown_0 : decode b_Mo_thrown 0 = .ok (.aload_n 0, 1) := by decide +kernel
theorem d_Mo_thrown_1 : decode b_Mo_thrown 1 = .ok (.getfield 53, 3) := by decide +kernel
theorem d_Mo_thrown_4 : decode b_Mo_thrown 4 = .ok (.ireturn, 1) := by decide +kernel
theorem d_Mo_raise_0 : decode b_Mo_raise 0 = .ok (.aload_n 0, 1) := by decide +kernel
theorem d_Mo_raise_1 : decode b_Mo_raise 1 = .ok (.iconst 1, 1) := by decide +kernel
theorem d_Mo_raise_2 : decode b_Mo_raise 2 = .ok (.putfield 53, 3) := by decide +kernel
theorem d_Mo_raise_5 : decode b_Mo_raise 5 = .ok (.iconst 0, 1) := by decide +kernel
theorem d_Mo_raise_6 : decode b_Mo_raise 6 = .ok (.ireturn, 1) := by decide +kernel
theorem d_Mo_in_0 : decode b_Mo_in 0 = .ok (.iload_n 0, 1) := by decide +kernel
theorem d_Mo_in_1 : decode b_Mo_in 1 = .ok (.iload_n 1, 1) := by decide +kernel
theorem d_Mo_in_2 : decode b_Mo_in 2 = .ok (.if_icmp .lt (12), 3) := by decide +kernel
theorem d_Mo_in_5 : decode b_Mo_in 5 = .ok (.iload_n 0, 1) := by decide +kernel
theorem d_Mo_in_6 : decode b_Mo_in 6 = .ok (.iload_n 2, 1) := by decide +kernel
theorem d_Mo_in_7 : decode b_Mo_in 7 = .ok (.if_icmp .gt (7), 3) := by decide +kernel
theorem d_Mo_in_10 : decode b_Mo_in 10 = .ok (.iconst 1, 1) := by decide +kernel
theorem d_Mo_in_11 : decode b_Mo_in 11 = .ok (.goto (4), 3) := by decide +kernel
theorem d_Mo_in_14 : decode b_Mo_in 14 = .ok (.iconst 0, 1) := by decide +kernel
theorem d_Mo_in_15 : decode b_Mo_in 15 = .ok (.ireturn, 1) := by decide +kernel
theorem d_Mo_isMachine_0 : decode b_Mo_isMachine 0 = .ok (.iload_n 1, 1) := by decide +kernel
theorem d_Mo_isMachine_1 : decode b_Mo_isMachine 1 = .ok (.iconst 0, 1) := by decide +kernel
theorem d_Mo_isMachine_2 : decode b_Mo_isMachine 2 = .ok (.aload_n 0, 1) := by decide +kernel
theorem d_Mo_isMachine_3 : decode b_Mo_isMachine 3 = .ok (.getfield 57, 3) := by decide +kernel
theorem d_Mo_isMachine_6 : decode b_Mo_isMachine 6 = .ok (.iconst 1, 1) := by decide +kernel
theorem d_Mo_isMachine_7 : decode b_Mo_isMachine 7 = .ok (.isub, 1) := by decide +kernel
theorem d_Mo_isMachine_8 : decode b_Mo_isMachine 8 = .ok (.invokestatic 60, 3) := by decide +kernel
theorem d_Mo_isMachine_11 : decode b_Mo_isMachine 11 = .ok (.ireturn, 1) := by decide +kernel
theorem d_Mo_isState_0 : decode b_Mo_isState 0 = .ok (.aload_n 0, 1) := by decide +kernel
theorem d_Mo_isState_1 : decode b_Mo_isState 1 = .ok (.iload_n 1, 1) := by decide +kernel
theorem d_Mo_isState_2 : decode b_Mo_isState 2 = .ok (.invokevirtual 64, 3) := by decide +kernel
theorem d_Mo_isState_5 : decode b_Mo_isState 5 = .ok (.ifCond .eq (23), 3) := by decide +kernel
theorem d_Mo_isState_8 : decode b_Mo_isState 8 = .ok (.iload_n 2, 1) := by decide +kernel
theorem d_Mo_isState_9 : decode b_Mo_isState 9 = .ok (.iconst 0, 1) := by decide +kernel
theorem d_Mo_isState_10 : decode b_Mo_isState 10 = .ok (.aload_n 0, 1) := by decide +kernel
theorem d_Mo_isState_11 : decode b_Mo_isState 11 = .ok (.getfield 7, 3) := by decide +kernel
theorem d_Mo_isState_14 : decode b_Mo_isState 14 = .ok (.iload_n 1, 1) := by decide +kernel
theorem d_Mo_isState_15 : decode b_Mo_isState 15 = .ok (.iaload, 1) := by decide +kernel
theorem d_Mo_isState_16 : decode b_Mo_isState 16 = .ok (.iconst 1, 1) := by decide +kernel
theorem d_Mo_isState_17 : decode b_Mo_isState 17 = .ok (.isub, 1) := by decide +kernel
theorem d_Mo_isState_18 : decode b_Mo_isState 18 = .ok (.invokestatic 60, 3) := by decide +kernel
theorem d_Mo_isState_21 : decode b_Mo_isState 21 = .ok (.ifCond .eq (7), 3) := by decide +kernel
theorem d_Mo_isState_24 : decode b_Mo_isState 24 = .ok (.iconst 1, 1) := by decide +kernel
theorem d_Mo_isState_25 : decode b_Mo_isState 25 = .ok (.goto (4), 3) := by decide +kernel
theorem d_Mo_isState_28 : decode b_Mo_isState 28 = .ok (.iconst 0, 1) := by decide +kernel
theorem d_Mo_isState_29 : decode b_Mo_isState 29 = .ok (.ireturn, 1) := by decide +kernel
theorem d_Mo_newMachine_0 : decode b_Mo_newMachine 0 = .ok (.aload_n 0, 1) := by decide +kernel
theorem d_Mo_newMachine_1 : decode b_Mo_newMachine 1 = .ok (.getfield 7, 3) := by decide +kernel
theorem d_Mo_newMachine_4 : decode b_Mo_newMachine 4 = .ok (.aload_n 0, 1) := by decide +kernel
theorem d_Mo_newMachine_5 : decode b_Mo_newMachine 5 = .ok (.getfield 57, 3) := by decide +kernel
theorem d_Mo_newMachine_8 : decode b_Mo_newMachine 8 = .ok (.iload_n 1, 1) := by decide +kernel
theorem d_Mo_newMachine_9 : decode b_Mo_newMachine 9 = .ok (.iastore, 1) := by decide +kernel
theorem d_Mo_newMachine_10 : decode b_Mo_newMachine 10 = .ok (.aload_n 0, 1) := by decide +kernel
theorem d_Mo_newMachine_11 : decode b_Mo_newMachine 11 = .ok (.getfield 13, 3) := by decide +kernel
theorem d_Mo_newMachine_14 : decode b_Mo_newMachine 14 = .ok (.aload_n 0, 1) := by decide +kernel
theorem d_Mo_newMachine_15 : decode b_Mo_newMachine 15 = .ok (.getfield 57, 3) := by decide +kernel
theorem d_Mo_newMachine_18 : decode b_Mo_newMachine 18 = .ok (.iload_n 2, 1) := by decide +kernel
theorem d_Mo_newMachine_19 : decode b_Mo_newMachine 19 = .ok (.iastore, 1) := by decide +kernel
theorem d_Mo_newMachine_20 : decode b_Mo_newMachine 20 = .ok (.iconst 0, 1) := by decide +kernel
theorem d_Mo_newMachine_21 : decode b_Mo_newMachine 21 = .ok (.istore_n 3, 1) := by decide +kernel
theorem d_Mo_newMachine_22 : decode b_Mo_newMachine 22 = .ok (.iload_n 3, 1) := by decide +kernel
theorem d_Mo_newMachine_23 : decode b_Mo_newMachine 23 = .ok (.bipush (40), 2) := by decide +kernel
theorem d_Mo_newMachine_25 : decode b_Mo_newMachine 25 = .ok (.if_icmp .ge (66), 3) := by decide +kernel
theorem d_Mo_newMachine_28 : decode b_Mo_newMachine 28 = .ok (.iconst 0, 1) := by decide +kernel
theorem d_Mo_newMachine_29 : decode b_Mo_newMachine 29 = .ok (.istore 4, 2) := by decide +kernel
theorem d_Mo_newMachine_31 : decode b_Mo_newMachine 31 = .ok (.iload 4, 2) := by decide +kernel
theorem d_Mo_newMachine_33 : decode b_Mo_newMachine 33 = .ok (.iconst 4, 1) := by decide +kernel
theorem d_Mo_newMachine_34 : decode b_Mo_newMachine 34 = .ok (.if_icmp .ge (51), 3) := by decide +kernel
theorem d_Mo_newMachine_37 : decode b_Mo_newMachine 37 = .ok (.aload_n 0, 1) := by decide +kernel
theorem d_Mo_newMachine_38 : decode b_Mo_newMachine 38 = .ok (.getfield 16, 3) := by decide +kernel
theorem d_Mo_newMachine_41 : decode b_Mo_newMachine 41 = .ok (.sipush (160), 3) := by decide +kernel
theorem d_Mo_newMachine_44 : decode b_Mo_newMachine 44 = .ok (.aload_n 0, 1) := by decide +kernel
theorem d_Mo_newMachine_45 : decode b_Mo_newMachine 45 = .ok (.getfield 57, 3) := by decide +kernel
theorem d_Mo_newMachine_48 : decode b_Mo_newMachine 48 = .ok (.imul, 1) := by decide +kernel
theorem d_Mo_newMachine_49 : decode b_Mo_newMachine 49 = .ok (.iconst 4, 1) := by decide +kernel
theorem d_Mo_newMachine_50 : decode b_Mo_newMachine 50 = .ok (.iload_n 3, 1) := by decide +kernel
theorem d_Mo_newMachine_51 : decode b_Mo_newMachine 51 = .ok (.imul, 1) := by decide +kernel
theorem d_Mo_newMachine_52 : decode b_Mo_newMachine 52 = .ok (.iadd, 1) := by decide +kernel
theorem d_Mo_newMachine_53 : decode b_Mo_newMachine 53 = .ok (.iload 4, 2) := by decide +kernel
theorem d_Mo_newMachine_55 : decode b_Mo_newMachine 55 = .ok (.iadd, 1) := by decide +kernel
theorem d_Mo_newMachine_56 : decode b_Mo_newMachine 56 = .ok (.iload_n 3, 1) := by decide +kernel
theorem d_Mo_newMachine_57 : decode b_Mo_newMachine 57 = .ok (.iastore, 1) := by decide +kernel
theorem d_Mo_newMachine_58 : decode b_Mo_newMachine 58 = .ok (.aload_n 0, 1) := by decide +kernel
theorem d_Mo_newMachine_59 : decode b_Mo_newMachine 59 = .ok (.getfield 19, 3) := by decide +kernel
theorem d_Mo_newMachine_62 : decode b_Mo_newMachine 62 = .ok (.sipush (160), 3) := by decide +kernel
theorem d_Mo_newMachine_65 : decode b_Mo_newMachine 65 = .ok (.aload_n 0, 1) := by decide +kernel
theorem d_Mo_newMachine_66 : decode b_Mo_newMachine 66 = .ok (.getfield 57, 3) := by decide +kernel
theorem d_Mo_newMachine_69 : decode b_Mo_newMachine 69 = .ok (.imul, 1) := by decide +kernel
theorem d_Mo_newMachine_70 : decode b_Mo_newMachine 70 = .ok (.iconst 4, 1) := by decide +kernel
theorem d_Mo_newMachine_71 : decode b_Mo_newMachine 71 = .ok (.iload_n 3, 1) := by decide +kernel
theorem d_Mo_newMachine_72 : decode b_Mo_newMachine 72 = .ok (.imul, 1) := by decide +kernel
theorem d_Mo_newMachine_73 : decode b_Mo_newMachine 73 = .ok (.iadd, 1) := by decide +kernel
theorem d_Mo_newMachine_74 : decode b_Mo_newMachine 74 = .ok (.iload 4, 2) := by decide +kernel
theorem d_Mo_newMachine_76 : decode b_Mo_newMachine 76 = .ok (.iadd, 1) := by decide +kernel
theorem d_Mo_newMachine_77 : decode b_Mo_newMachine 77 = .ok (.iconst 0, 1) := by decide +kernel
theorem d_Mo_newMachine_78 : decode b_Mo_newMachine 78 = .ok (.iastore, 1) := by decide +kernel
theorem d_Mo_newMachine_79 : decode b_Mo_newMachine 79 = .ok (.iinc 4 (1), 3) := by decide +kernel
theorem d_Mo_newMachine_82 : decode b_Mo_newMachine 82 = .ok (.goto (-51), 3) := by decide +kernel
theorem d_Mo_newMachine_85 : decode b_Mo_newMachine 85 = .ok (.iinc 3 (1), 3) := by decide +kernel
theorem d_Mo_newMachine_88 : decode b_Mo_newMachine 88 = .ok (.goto (-66), 3) := by decide +kernel
theorem d_Mo_newMachine_91 : decode b_Mo_newMachine 91 = .ok (.aload_n 0, 1) := by decide +kernel
theorem d_Mo_newMachine_92 : decode b_Mo_newMachine 92 = .ok (.dup, 1) := by decide +kernel
theorem d_Mo_newMachine_93 : decode b_Mo_newMachine 93 = .ok (.getfield 57, 3) := by decide +kernel
theorem d_Mo_newMachine_96 : decode b_Mo_newMachine 96 = .ok (.iconst 1, 1) := by decide +kernel
theorem d_Mo_newMachine_97 : decode b_Mo_newMachine 97 = .ok (.iadd, 1) := by decide +kernel
theorem d_Mo_newMachine_98 : decode b_Mo_newMachine 98 = .ok (.putfield 57, 3) := by decide +kernel
theorem d_Mo_newMachine_101 : decode b_Mo_newMachine 101 = .ok (.aload_n 0, 1) := by decide +kernel
theorem d_Mo_newMachine_102 : decode b_Mo_newMachine 102 = .ok (.getfield 57, 3) := by decide +kernel
theorem d_Mo_newMachine_105 : decode b_Mo_newMachine 105 = .ok (.iconst 1, 1) := by decide +kernel
theorem d_Mo_newMachine_106 : decode b_Mo_newMachine 106 = .ok (.isub, 1) := by decide +kernel
theorem d_Mo_newMachine_107 : decode b_Mo_newMachine 107 = .ok (.ireturn, 1) := by decide +kernel
theorem d_Mo_machine_0 : decode b_Mo_machine 0 = .ok (.aload_n 0, 1) := by decide +kernel
theorem d_Mo_machine_1 : decode b_Mo_machine 1 = .ok (.iconst 0, 1) := by decide +kernel
theorem d_Mo_machine_2 : decode b_Mo_machine 2 = .ok (.putfield 53, 3) := by decide +kernel
theorem d_Mo_machine_5 : decode b_Mo_machine 5 = .ok (.iload_n 1, 1) := by decide +kernel
theorem d_Mo_machine_6 : decode b_Mo_machine 6 = .ok (.iconst 1, 1) := by decide +kernel
theorem d_Mo_machine_7 : decode b_Mo_machine 7 = .ok (.bipush (40), 2) := by decide +kernel
theorem d_Mo_machine_9 : decode b_Mo_machine 9 = .ok (.invokestatic 60, 3) := by decide +kernel
theorem d_Mo_machine_12 : decode b_Mo_machine 12 = .ok (.ifCond .eq (30), 3) := by decide +kernel
theorem d_Mo_machine_15 : decode b_Mo_machine 15 = .ok (.iload_n 2, 1) := by decide +kernel
theorem d_Mo_machine_16 : decode b_Mo_machine 16 = .ok (.iconst 1, 1) := by decide +kernel
theorem d_Mo_machine_17 : decode b_Mo_machine 17 = .ok (.iconst 4, 1) := by decide +kernel
theorem d_Mo_machine_18 : decode b_Mo_machine 18 = .ok (.invokestatic 60, 3) := by decide +kernel
theorem d_Mo_machine_21 : decode b_Mo_machine 21 = .ok (.ifCond .eq (21), 3) := by decide +kernel
theorem d_Mo_machine_24 : decode b_Mo_machine 24 = .ok (.aload_n 0, 1) := by decide +kernel
theorem d_Mo_machine_25 : decode b_Mo_machine 25 = .ok (.getfield 57, 3) := by decide +kernel
theorem d_Mo_machine_28 : decode b_Mo_machine 28 = .ok (.bipush (12), 2) := by decide +kernel
theorem d_Mo_machine_30 : decode b_Mo_machine 30 = .ok (.if_icmp .ge (12), 3) := by decide +kernel
theorem d_Mo_machine_33 : decode b_Mo_machine 33 = .ok (.aload_n 0, 1) := by decide +kernel
theorem d_Mo_machine_34 : decode b_Mo_machine 34 = .ok (.iload_n 1, 1) := by decide +kernel
theorem d_Mo_machine_35 : decode b_Mo_machine 35 = .ok (.iload_n 2, 1) := by decide +kernel
theorem d_Mo_machine_36 : decode b_Mo_machine 36 = .ok (.invokevirtual 68, 3) := by decide +kernel
theorem d_Mo_machine_39 : decode b_Mo_machine 39 = .ok (.goto (4), 3) := by decide +kernel
theorem d_Mo_machine_42 : decode b_Mo_machine 42 = .ok (.iconst (-1), 1) := by decide +kernel
theorem d_Mo_machine_43 : decode b_Mo_machine 43 = .ok (.ireturn, 1) := by decide +kernel
theorem d_Mo_arrow_0 : decode b_Mo_arrow 0 = .ok (.aload_n 0, 1) := by decide +kernel
theorem d_Mo_arrow_1 : decode b_Mo_arrow 1 = .ok (.iconst 0, 1) := by decide +kernel
theorem d_Mo_arrow_2 : decode b_Mo_arrow 2 = .ok (.putfield 53, 3) := by decide +kernel
theorem d_Mo_arrow_5 : decode b_Mo_arrow 5 = .ok (.aload_n 0, 1) := by decide +kernel
theorem d_Mo_arrow_6 : decode b_Mo_arrow 6 = .ok (.iload_n 1, 1) := by decide +kernel
theorem d_Mo_arrow_7 : decode b_Mo_arrow 7 = .ok (.iload_n 2, 1) := by decide +kernel
theorem d_Mo_arrow_8 : decode b_Mo_arrow 8 = .ok (.invokevirtual 72, 3) := by decide +kernel
theorem d_Mo_arrow_11 : decode b_Mo_arrow 11 = .ok (.ifCond .eq (47), 3) := by decide +kernel
end
section
theorem d_Mo_arrow_14 : decode b_Mo_arrow 14 = .ok (.iload_n 3, 1) := by decide +kernel
theorem d_Mo_arrow_15 : decode b_Mo_arrow 15 = .ok (.iconst 0, 1) := by decide +kernel
theorem d_Mo_arrow_16 : decode b_Mo_arrow 16 = .ok (.aload_n 0, 1) := by decide +kernel
theorem d_Mo_arrow_17 : decode b_Mo_arrow 17 = .ok (.getfield 13, 3) := by decide +kernel
theorem d_Mo_arrow_20 : decode b_Mo_arrow 20 = .ok (.iload_n 1, 1) := by decide +kernel
theorem d_Mo_arrow_21 : decode b_Mo_arrow 21 = .ok (.iaload, 1) := by decide +kernel
theorem d_Mo_arrow_22 : decode b_Mo_arrow 22 = .ok (.iconst 1, 1) := by decide +kernel
theorem d_Mo_arrow_23 : decode b_Mo_arrow 23 = .ok (.isub, 1) := by decide +kernel
theorem d_Mo_arrow_24 : decode b_Mo_arrow 24 = .ok (.invokestatic 60, 3) := by decide +kernel
theorem d_Mo_arrow_27 : decode b_Mo_arrow 27 = .ok (.ifCond .eq (31), 3) := by decide +kernel
theorem d_Mo_arrow_30 : decode b_Mo_arrow 30 = .ok (.iload 4, 2) := by decide +kernel
theorem d_Mo_arrow_32 : decode b_Mo_arrow 32 = .ok (.iconst 0, 1) := by decide +kernel
theorem d_Mo_arrow_33 : decode b_Mo_arrow 33 = .ok (.aload_n 0, 1) := by decide +kernel
theorem d_Mo_arrow_34 : decode b_Mo_arrow 34 = .ok (.getfield 7, 3) := by decide +kernel
theorem d_Mo_arrow_37 : decode b_Mo_arrow 37 = .ok (.iload_n 1, 1) := by decide +kernel
theorem d_Mo_arrow_38 : decode b_Mo_arrow 38 = .ok (.iaload, 1) := by decide +kernel
theorem d_Mo_arrow_39 : decode b_Mo_arrow 39 = .ok (.iconst 1, 1) := by decide +kernel
theorem d_Mo_arrow_40 : decode b_Mo_arrow 40 = .ok (.isub, 1) := by decide +kernel
theorem d_Mo_arrow_41 : decode b_Mo_arrow 41 = .ok (.invokestatic 60, 3) := by decide +kernel
theorem d_Mo_arrow_44 : decode b_Mo_arrow 44 = .ok (.ifCond .eq (14), 3) := by decide +kernel
theorem d_Mo_arrow_47 : decode b_Mo_arrow 47 = .ok (.iload 5, 2) := by decide +kernel
theorem d_Mo_arrow_49 : decode b_Mo_arrow 49 = .ok (.iconst 0, 1) := by decide +kernel
theorem d_Mo_arrow_50 : decode b_Mo_arrow 50 = .ok (.bipush (9), 2) := by decide +kernel
theorem d_Mo_arrow_52 : decode b_Mo_arrow 52 = .ok (.invokestatic 60, 3) := by decide +kernel
theorem d_Mo_arrow_55 : decode b_Mo_arrow 55 = .ok (.ifCond .ne (5), 3) := by decide +kernel
theorem d_Mo_arrow_58 : decode b_Mo_arrow 58 = .ok (.iconst 0, 1) := by decide +kernel
theorem d_Mo_arrow_59 : decode b_Mo_arrow 59 = .ok (.ireturn, 1) := by decide +kernel
theorem d_Mo_arrow_60 : decode b_Mo_arrow 60 = .ok (.aload_n 0, 1) := by decide +kernel
theorem d_Mo_arrow_61 : decode b_Mo_arrow 61 = .ok (.getfield 16, 3) := by decide +kernel
theorem d_Mo_arrow_64 : decode b_Mo_arrow 64 = .ok (.sipush (160), 3) := by decide +kernel
theorem d_Mo_arrow_67 : decode b_Mo_arrow 67 = .ok (.iload_n 1, 1) := by decide +kernel
theorem d_Mo_arrow_68 : decode b_Mo_arrow 68 = .ok (.imul, 1) := by decide +kernel
theorem d_Mo_arrow_69 : decode b_Mo_arrow 69 = .ok (.iconst 4, 1) := by decide +kernel
theorem d_Mo_arrow_70 : decode b_Mo_arrow 70 = .ok (.iload_n 2, 1) := by decide +kernel
theorem d_Mo_arrow_71 : decode b_Mo_arrow 71 = .ok (.imul, 1) := by decide +kernel
theorem d_Mo_arrow_72 : decode b_Mo_arrow 72 = .ok (.iadd, 1) := by decide +kernel
theorem d_Mo_arrow_73 : decode b_Mo_arrow 73 = .ok (.iload_n 3, 1) := by decide +kernel
theorem d_Mo_arrow_74 : decode b_Mo_arrow 74 = .ok (.iadd, 1) := by decide +kernel
theorem d_Mo_arrow_75 : decode b_Mo_arrow 75 = .ok (.iload 4, 2) := by decide +kernel
theorem d_Mo_arrow_77 : decode b_Mo_arrow 77 = .ok (.iastore, 1) := by decide +kernel
theorem d_Mo_arrow_78 : decode b_Mo_arrow 78 = .ok (.aload_n 0, 1) := by decide +kernel
theorem d_Mo_arrow_79 : decode b_Mo_arrow 79 = .ok (.getfield 19, 3) := by decide +kernel
theorem d_Mo_arrow_82 : decode b_Mo_arrow 82 = .ok (.sipush (160), 3) := by decide +kernel
theorem d_Mo_arrow_85 : decode b_Mo_arrow 85 = .ok (.iload_n 1, 1) := by decide +kernel
theorem d_Mo_arrow_86 : decode b_Mo_arrow 86 = .ok (.imul, 1) := by decide +kernel
theorem d_Mo_arrow_87 : decode b_Mo_arrow 87 = .ok (.iconst 4, 1) := by decide +kernel
theorem d_Mo_arrow_88 : decode b_Mo_arrow 88 = .ok (.iload_n 2, 1) := by decide +kernel
theorem d_Mo_arrow_89 : decode b_Mo_arrow 89 = .ok (.imul, 1) := by decide +kernel
theorem d_Mo_arrow_90 : decode b_Mo_arrow 90 = .ok (.iadd, 1) := by decide +kernel
theorem d_Mo_arrow_91 : decode b_Mo_arrow 91 = .ok (.iload_n 3, 1) := by decide +kernel
theorem d_Mo_arrow_92 : decode b_Mo_arrow 92 = .ok (.iadd, 1) := by decide +kernel
theorem d_Mo_arrow_93 : decode b_Mo_arrow 93 = .ok (.iload 5, 2) := by decide +kernel
theorem d_Mo_arrow_95 : decode b_Mo_arrow 95 = .ok (.iastore, 1) := by decide +kernel
theorem d_Mo_arrow_96 : decode b_Mo_arrow 96 = .ok (.iconst 1, 1) := by decide +kernel
theorem d_Mo_arrow_97 : decode b_Mo_arrow 97 = .ok (.ireturn, 1) := by decide +kernel
theorem d_Mo_look_0 : decode b_Mo_look 0 = .ok (.aload_n 0, 1) := by decide +kernel
theorem d_Mo_look_1 : decode b_Mo_look 1 = .ok (.iconst 0, 1) := by decide +kernel
theorem d_Mo_look_2 : decode b_Mo_look 2 = .ok (.putfield 53, 3) := by decide +kernel
theorem d_Mo_look_5 : decode b_Mo_look 5 = .ok (.aload_n 0, 1) := by decide +kernel
theorem d_Mo_look_6 : decode b_Mo_look 6 = .ok (.iload_n 1, 1) := by decide +kernel
theorem d_Mo_look_7 : decode b_Mo_look 7 = .ok (.iload_n 2, 1) := by decide +kernel
theorem d_Mo_look_8 : decode b_Mo_look 8 = .ok (.invokevirtual 72, 3) := by decide +kernel
theorem d_Mo_look_11 : decode b_Mo_look 11 = .ok (.ifCond .eq (19), 3) := by decide +kernel
theorem d_Mo_look_14 : decode b_Mo_look 14 = .ok (.iload_n 3, 1) := by decide +kernel
theorem d_Mo_look_15 : decode b_Mo_look 15 = .ok (.iconst 0, 1) := by decide +kernel
theorem d_Mo_look_16 : decode b_Mo_look 16 = .ok (.aload_n 0, 1) := by decide +kernel
theorem d_Mo_look_17 : decode b_Mo_look 17 = .ok (.getfield 13, 3) := by decide +kernel
theorem d_Mo_look_20 : decode b_Mo_look 20 = .ok (.iload_n 1, 1) := by decide +kernel
theorem d_Mo_look_21 : decode b_Mo_look 21 = .ok (.iaload, 1) := by decide +kernel
theorem d_Mo_look_22 : decode b_Mo_look 22 = .ok (.iconst 1, 1) := by decide +kernel
theorem d_Mo_look_23 : decode b_Mo_look 23 = .ok (.isub, 1) := by decide +kernel
theorem d_Mo_look_24 : decode b_Mo_look 24 = .ok (.invokestatic 60, 3) := by decide +kernel
theorem d_Mo_look_27 : decode b_Mo_look 27 = .ok (.ifCond .ne (5), 3) := by decide +kernel
theorem d_Mo_look_30 : decode b_Mo_look 30 = .ok (.iconst (-1), 1) := by decide +kernel
theorem d_Mo_look_31 : decode b_Mo_look 31 = .ok (.ireturn, 1) := by decide +kernel
theorem d_Mo_look_32 : decode b_Mo_look 32 = .ok (.iload 4, 2) := by decide +kernel
theorem d_Mo_look_34 : decode b_Mo_look 34 = .ok (.ifCond .ne (22), 3) := by decide +kernel
theorem d_Mo_look_37 : decode b_Mo_look 37 = .ok (.aload_n 0, 1) := by decide +kernel
theorem d_Mo_look_38 : decode b_Mo_look 38 = .ok (.getfield 16, 3) := by decide +kernel
theorem d_Mo_look_41 : decode b_Mo_look 41 = .ok (.sipush (160), 3) := by decide +kernel
theorem d_Mo_look_44 : decode b_Mo_look 44 = .ok (.iload_n 1, 1) := by decide +kernel
theorem d_Mo_look_45 : decode b_Mo_look 45 = .ok (.imul, 1) := by decide +kernel
theorem d_Mo_look_46 : decode b_Mo_look 46 = .ok (.iconst 4, 1) := by decide +kernel
theorem d_Mo_look_47 : decode b_Mo_look 47 = .ok (.iload_n 2, 1) := by decide +kernel
theorem d_Mo_look_48 : decode b_Mo_look 48 = .ok (.imul, 1) := by decide +kernel
theorem d_Mo_look_49 : decode b_Mo_look 49 = .ok (.iadd, 1) := by decide +kernel
theorem d_Mo_look_50 : decode b_Mo_look 50 = .ok (.iload_n 3, 1) := by decide +kernel
theorem d_Mo_look_51 : decode b_Mo_look 51 = .ok (.iadd, 1) := by decide +kernel
theorem d_Mo_look_52 : decode b_Mo_look 52 = .ok (.iaload, 1) := by decide +kernel
theorem d_Mo_look_53 : decode b_Mo_look 53 = .ok (.goto (29), 3) := by decide +kernel
theorem d_Mo_look_56 : decode b_Mo_look 56 = .ok (.iload 4, 2) := by decide +kernel
theorem d_Mo_look_58 : decode b_Mo_look 58 = .ok (.iconst 1, 1) := by decide +kernel
theorem d_Mo_look_59 : decode b_Mo_look 59 = .ok (.if_icmp .ne (22), 3) := by decide +kernel
theorem d_Mo_look_62 : decode b_Mo_look 62 = .ok (.aload_n 0, 1) := by decide +kernel
theorem d_Mo_look_63 : decode b_Mo_look 63 = .ok (.getfield 19, 3) := by decide +kernel
theorem d_Mo_look_66 : decode b_Mo_look 66 = .ok (.sipush (160), 3) := by decide +kernel
theorem d_Mo_look_69 : decode b_Mo_look 69 = .ok (.iload_n 1, 1) := by decide +kernel
theorem d_Mo_look_70 : decode b_Mo_look 70 = .ok (.imul, 1) := by decide +kernel
theorem d_Mo_look_71 : decode b_Mo_look 71 = .ok (.iconst 4, 1) := by decide +kernel
theorem d_Mo_look_72 : decode b_Mo_look 72 = .ok (.iload_n 2, 1) := by decide +kernel
theorem d_Mo_look_73 : decode b_Mo_look 73 = .ok (.imul, 1) := by decide +kernel
theorem d_Mo_look_74 : decode b_Mo_look 74 = .ok (.iadd, 1) := by decide +kernel
theorem d_Mo_look_75 : decode b_Mo_look 75 = .ok (.iload_n 3, 1) := by decide +kernel
theorem d_Mo_look_76 : decode b_Mo_look 76 = .ok (.iadd, 1) := by decide +kernel
theorem d_Mo_look_77 : decode b_Mo_look 77 = .ok (.iaload, 1) := by decide +kernel
theorem d_Mo_look_78 : decode b_Mo_look 78 = .ok (.goto (4), 3) := by decide +kernel
theorem d_Mo_look_81 : decode b_Mo_look 81 = .ok (.iconst (-1), 1) := by decide +kernel
theorem d_Mo_look_82 : decode b_Mo_look 82 = .ok (.ireturn, 1) := by decide +kernel
theorem d_Mo_isApart_0 : decode b_Mo_isApart 0 = .ok (.iconst 0, 1) := by decide +kernel
theorem d_Mo_isApart_1 : decode b_Mo_isApart 1 = .ok (.istore 4, 2) := by decide +kernel
theorem d_Mo_isApart_3 : decode b_Mo_isApart 3 = .ok (.iload 4, 2) := by decide +kernel
theorem d_Mo_isApart_5 : decode b_Mo_isApart 5 = .ok (.aload_n 0, 1) := by decide +kernel
theorem d_Mo_isApart_6 : decode b_Mo_isApart 6 = .ok (.getfield 13, 3) := by decide +kernel
theorem d_Mo_isApart_9 : decode b_Mo_isApart 9 = .ok (.iload_n 1, 1) := by decide +kernel
theorem d_Mo_isApart_10 : decode b_Mo_isApart 10 = .ok (.iaload, 1) := by decide +kernel
theorem d_Mo_isApart_11 : decode b_Mo_isApart 11 = .ok (.if_icmp .ge (82), 3) := by decide +kernel
theorem d_Mo_isApart_14 : decode b_Mo_isApart 14 = .ok (.sipush (160), 3) := by decide +kernel
theorem d_Mo_isApart_17 : decode b_Mo_isApart 17 = .ok (.iload_n 1, 1) := by decide +kernel
theorem d_Mo_isApart_18 : decode b_Mo_isApart 18 = .ok (.imul, 1) := by decide +kernel
theorem d_Mo_isApart_19 : decode b_Mo_isApart 19 = .ok (.iconst 4, 1) := by decide +kernel
theorem d_Mo_isApart_20 : decode b_Mo_isApart 20 = .ok (.iload_n 2, 1) := by decide +kernel
theorem d_Mo_isApart_21 : decode b_Mo_isApart 21 = .ok (.imul, 1) := by decide +kernel
theorem d_Mo_isApart_22 : decode b_Mo_isApart 22 = .ok (.iadd, 1) := by decide +kernel
theorem d_Mo_isApart_23 : decode b_Mo_isApart 23 = .ok (.iload 4, 2) := by decide +kernel
theorem d_Mo_isApart_25 : decode b_Mo_isApart 25 = .ok (.iadd, 1) := by decide +kernel
theorem d_Mo_isApart_26 : decode b_Mo_isApart 26 = .ok (.istore 5, 2) := by decide +kernel
theorem d_Mo_isApart_28 : decode b_Mo_isApart 28 = .ok (.sipush (160), 3) := by decide +kernel
theorem d_Mo_isApart_31 : decode b_Mo_isApart 31 = .ok (.iload_n 1, 1) := by decide +kernel
theorem d_Mo_isApart_32 : decode b_Mo_isApart 32 = .ok (.imul, 1) := by decide +kernel
theorem d_Mo_isApart_33 : decode b_Mo_isApart 33 = .ok (.iconst 4, 1) := by decide +kernel
theorem d_Mo_isApart_34 : decode b_Mo_isApart 34 = .ok (.iload_n 3, 1) := by decide +kernel
theorem d_Mo_isApart_35 : decode b_Mo_isApart 35 = .ok (.imul, 1) := by decide +kernel
theorem d_Mo_isApart_36 : decode b_Mo_isApart 36 = .ok (.iadd, 1) := by decide +kernel
theorem d_Mo_isApart_37 : decode b_Mo_isApart 37 = .ok (.iload 4, 2) := by decide +kernel
theorem d_Mo_isApart_39 : decode b_Mo_isApart 39 = .ok (.iadd, 1) := by decide +kernel
theorem d_Mo_isApart_40 : decode b_Mo_isApart 40 = .ok (.istore 6, 2) := by decide +kernel
theorem d_Mo_isApart_42 : decode b_Mo_isApart 42 = .ok (.aload_n 0, 1) := by decide +kernel
theorem d_Mo_isApart_43 : decode b_Mo_isApart 43 = .ok (.getfield 19, 3) := by decide +kernel
theorem d_Mo_isApart_46 : decode b_Mo_isApart 46 = .ok (.iload 5, 2) := by decide +kernel
theorem d_Mo_isApart_48 : decode b_Mo_isApart 48 = .ok (.iaload, 1) := by decide +kernel
theorem d_Mo_isApart_49 : decode b_Mo_isApart 49 = .ok (.aload_n 0, 1) := by decide +kernel
theorem d_Mo_isApart_50 : decode b_Mo_isApart 50 = .ok (.getfield 19, 3) := by decide +kernel
theorem d_Mo_isApart_53 : decode b_Mo_isApart 53 = .ok (.iload 6, 2) := by decide +kernel
theorem d_Mo_isApart_55 : decode b_Mo_isApart 55 = .ok (.iaload, 1) := by decide +kernel
theorem d_Mo_isApart_56 : decode b_Mo_isApart 56 = .ok (.if_icmp .ne (29), 3) := by decide +kernel
theorem d_Mo_isApart_59 : decode b_Mo_isApart 59 = .ok (.aload_n 0, 1) := by decide +kernel
theorem d_Mo_isApart_60 : decode b_Mo_isApart 60 = .ok (.getfield 25, 3) := by decide +kernel
theorem d_Mo_isApart_63 : decode b_Mo_isApart 63 = .ok (.bipush (40), 2) := by decide +kernel
theorem d_Mo_isApart_65 : decode b_Mo_isApart 65 = .ok (.aload_n 0, 1) := by decide +kernel
theorem d_Mo_isApart_66 : decode b_Mo_isApart 66 = .ok (.getfield 16, 3) := by decide +kernel
theorem d_Mo_isApart_69 : decode b_Mo_isApart 69 = .ok (.iload 5, 2) := by decide +kernel
theorem d_Mo_isApart_71 : decode b_Mo_isApart 71 = .ok (.iaload, 1) := by decide +kernel
theorem d_Mo_isApart_72 : decode b_Mo_isApart 72 = .ok (.imul, 1) := by decide +kernel
theorem d_Mo_isApart_73 : decode b_Mo_isApart 73 = .ok (.aload_n 0, 1) := by decide +kernel
theorem d_Mo_isApart_74 : decode b_Mo_isApart 74 = .ok (.getfield 16, 3) := by decide +kernel
theorem d_Mo_isApart_77 : decode b_Mo_isApart 77 = .ok (.iload 6, 2) := by decide +kernel
theorem d_Mo_isApart_79 : decode b_Mo_isApart 79 = .ok (.iaload, 1) := by decide +kernel
theorem d_Mo_isApart_80 : decode b_Mo_isApart 80 = .ok (.iadd, 1) := by decide +kernel
theorem d_Mo_isApart_81 : decode b_Mo_isApart 81 = .ok (.baload, 1) := by decide +kernel
theorem d_Mo_isApart_82 : decode b_Mo_isApart 82 = .ok (.ifCond .eq (5), 3) := by decide +kernel
theorem d_Mo_isApart_85 : decode b_Mo_isApart 85 = .ok (.iconst 1, 1) := by decide +kernel
theorem d_Mo_isApart_86 : decode b_Mo_isApart 86 = .ok (.ireturn, 1) := by decide +kernel
theorem d_Mo_isApart_87 : decode b_Mo_isApart 87 = .ok (.iinc 4 (1), 3) := by decide +kernel
theorem d_Mo_isApart_90 : decode b_Mo_isApart 90 = .ok (.goto (-87), 3) := by decide +kernel
theorem d_Mo_isApart_93 : decode b_Mo_isApart 93 = .ok (.iconst 0, 1) := by decide +kernel
theorem d_Mo_isApart_94 : decode b_Mo_isApart 94 = .ok (.ireturn, 1) := by decide +kernel
theorem d_Mo_mark_0 : decode b_Mo_mark 0 = .ok (.iconst 0, 1) := by decide +kernel
theorem d_Mo_mark_1 : decode b_Mo_mark 1 = .ok (.istore_n 2, 1) := by decide +kernel
theorem d_Mo_mark_2 : decode b_Mo_mark 2 = .ok (.iload_n 2, 1) := by decide +kernel
theorem d_Mo_mark_3 : decode b_Mo_mark 3 = .ok (.sipush (1600), 3) := by decide +kernel
theorem d_Mo_mark_6 : decode b_Mo_mark 6 = .ok (.if_icmp .ge (16), 3) := by decide +kernel
theorem d_Mo_mark_9 : decode b_Mo_mark 9 = .ok (.aload_n 0, 1) := by decide +kernel
theorem d_Mo_mark_10 : decode b_Mo_mark 10 = .ok (.getfield 25, 3) := by decide +kernel
theorem d_Mo_mark_13 : decode b_Mo_mark 13 = .ok (.iload_n 2, 1) := by decide +kernel
theorem d_Mo_mark_14 : decode b_Mo_mark 14 = .ok (.iconst 0, 1) := by decide +kernel
theorem d_Mo_mark_15 : decode b_Mo_mark 15 = .ok (.bastore, 1) := by decide +kernel
theorem d_Mo_mark_16 : decode b_Mo_mark 16 = .ok (.iinc 2 (1), 3) := by decide +kernel
theorem d_Mo_mark_19 : decode b_Mo_mark 19 = .ok (.goto (-17), 3) := by decide +kernel
theorem d_Mo_mark_22 : decode b_Mo_mark 22 = .ok (.iconst 1, 1) := by decide +kernel
theorem d_Mo_mark_23 : decode b_Mo_mark 23 = .ok (.istore_n 2, 1) := by decide +kernel
theorem d_Mo_mark_24 : decode b_Mo_mark 24 = .ok (.iload_n 2, 1) := by decide +kernel
theorem d_Mo_mark_25 : decode b_Mo_mark 25 = .ok (.ifCond .eq (90), 3) := by decide +kernel
theorem d_Mo_mark_28 : decode b_Mo_mark 28 = .ok (.iconst 0, 1) := by decide +kernel
theorem d_Mo_mark_29 : decode b_Mo_mark 29 = .ok (.istore_n 2, 1) := by decide +kernel
theorem d_Mo_mark_30 : decode b_Mo_mark 30 = .ok (.iconst 0, 1) := by decide +kernel
theorem d_Mo_mark_31 : decode b_Mo_mark 31 = .ok (.istore_n 3, 1) := by decide +kernel
theorem d_Mo_mark_32 : decode b_Mo_mark 32 = .ok (.iload_n 3, 1) := by decide +kernel
theorem d_Mo_mark_33 : decode b_Mo_mark 33 = .ok (.aload_n 0, 1) := by decide +kernel
theorem d_Mo_mark_34 : decode b_Mo_mark 34 = .ok (.getfield 7, 3) := by decide +kernel
theorem d_Mo_mark_37 : decode b_Mo_mark 37 = .ok (.iload_n 1, 1) := by decide +kernel
theorem d_Mo_mark_38 : decode b_Mo_mark 38 = .ok (.iaload, 1) := by decide +kernel
theorem d_Mo_mark_39 : decode b_Mo_mark 39 = .ok (.if_icmp .ge (73), 3) := by decide +kernel
theorem d_Mo_mark_42 : decode b_Mo_mark 42 = .ok (.iconst 0, 1) := by decide +kernel
theorem d_Mo_mark_43 : decode b_Mo_mark 43 = .ok (.istore 4, 2) := by decide +kernel
theorem d_Mo_mark_45 : decode b_Mo_mark 45 = .ok (.iload 4, 2) := by decide +kernel
theorem d_Mo_mark_47 : decode b_Mo_mark 47 = .ok (.aload_n 0, 1) := by decide +kernel
theorem d_Mo_mark_48 : decode b_Mo_mark 48 = .ok (.getfield 7, 3) := by decide +kernel
theorem d_Mo_mark_51 : decode b_Mo_mark 51 = .ok (.iload_n 1, 1) := by decide +kernel
theorem d_Mo_mark_52 : decode b_Mo_mark 52 = .ok (.iaload, 1) := by decide +kernel
theorem d_Mo_mark_53 : decode b_Mo_mark 53 = .ok (.if_icmp .ge (53), 3) := by decide +kernel
end
section
theorem d_Mo_mark_56 : decode b_Mo_mark 56 = .ok (.aload_n 0, 1) := by decide +kernel
theorem d_Mo_mark_57 : decode b_Mo_mark 57 = .ok (.getfield 25, 3) := by decide +kernel
theorem d_Mo_mark_60 : decode b_Mo_mark 60 = .ok (.bipush (40), 2) := by decide +kernel
theorem d_Mo_mark_62 : decode b_Mo_mark 62 = .ok (.iload_n 3, 1) := by decide +kernel
theorem d_Mo_mark_63 : decode b_Mo_mark 63 = .ok (.imul, 1) := by decide +kernel
theorem d_Mo_mark_64 : decode b_Mo_mark 64 = .ok (.iload 4, 2) := by decide +kernel
theorem d_Mo_mark_66 : decode b_Mo_mark 66 = .ok (.iadd, 1) := by decide +kernel
theorem d_Mo_mark_67 : decode b_Mo_mark 67 = .ok (.baload, 1) := by decide +kernel
theorem d_Mo_mark_68 : decode b_Mo_mark 68 = .ok (.ifCond .ne (32), 3) := by decide +kernel
theorem d_Mo_mark_71 : decode b_Mo_mark 71 = .ok (.aload_n 0, 1) := by decide +kernel
theorem d_Mo_mark_72 : decode b_Mo_mark 72 = .ok (.iload_n 1, 1) := by decide +kernel
theorem d_Mo_mark_73 : decode b_Mo_mark 73 = .ok (.iload_n 3, 1) := by decide +kernel
theorem d_Mo_mark_74 : decode b_Mo_mark 74 = .ok (.iload 4, 2) := by decide +kernel
theorem d_Mo_mark_76 : decode b_Mo_mark 76 = .ok (.invokevirtual 76, 3) := by decide +kernel
theorem d_Mo_mark_79 : decode b_Mo_mark 79 = .ok (.ifCond .ne (6), 3) := by decide +kernel
theorem d_Mo_mark_82 : decode b_Mo_mark 82 = .ok (.goto (18), 3) := by decide +kernel
theorem d_Mo_mark_85 : decode b_Mo_mark 85 = .ok (.aload_n 0, 1) := by decide +kernel
theorem d_Mo_mark_86 : decode b_Mo_mark 86 = .ok (.getfield 25, 3) := by decide +kernel
theorem d_Mo_mark_89 : decode b_Mo_mark 89 = .ok (.bipush (40), 2) := by decide +kernel
theorem d_Mo_mark_91 : decode b_Mo_mark 91 = .ok (.iload_n 3, 1) := by decide +kernel
theorem d_Mo_mark_92 : decode b_Mo_mark 92 = .ok (.imul, 1) := by decide +kernel
theorem d_Mo_mark_93 : decode b_Mo_mark 93 = .ok (.iload 4, 2) := by decide +kernel
theorem d_Mo_mark_95 : decode b_Mo_mark 95 = .ok (.iadd, 1) := by decide +kernel
theorem d_Mo_mark_96 : decode b_Mo_mark 96 = .ok (.iconst 1, 1) := by decide +kernel
theorem d_Mo_mark_97 : decode b_Mo_mark 97 = .ok (.bastore, 1) := by decide +kernel
theorem d_Mo_mark_98 : decode b_Mo_mark 98 = .ok (.iconst 1, 1) := by decide +kernel
theorem d_Mo_mark_99 : decode b_Mo_mark 99 = .ok (.istore_n 2, 1) := by decide +kernel
theorem d_Mo_mark_100 : decode b_Mo_mark 100 = .ok (.iinc 4 (1), 3) := by decide +kernel
theorem d_Mo_mark_103 : decode b_Mo_mark 103 = .ok (.goto (-58), 3) := by decide +kernel
theorem d_Mo_mark_106 : decode b_Mo_mark 106 = .ok (.iinc 3 (1), 3) := by decide +kernel
theorem d_Mo_mark_109 : decode b_Mo_mark 109 = .ok (.goto (-77), 3) := by decide +kernel
theorem d_Mo_mark_112 : decode b_Mo_mark 112 = .ok (.goto (-88), 3) := by decide +kernel
theorem d_Mo_mark_115 : decode b_Mo_mark 115 = .ok (.return_, 1) := by decide +kernel
theorem d_Mo_firstLike_0 : decode b_Mo_firstLike 0 = .ok (.iconst 0, 1) := by decide +kernel
theorem d_Mo_firstLike_1 : decode b_Mo_firstLike 1 = .ok (.istore_n 2, 1) := by decide +kernel
theorem d_Mo_firstLike_2 : decode b_Mo_firstLike 2 = .ok (.aload_n 0, 1) := by decide +kernel
theorem d_Mo_firstLike_3 : decode b_Mo_firstLike 3 = .ok (.getfield 25, 3) := by decide +kernel
theorem d_Mo_firstLike_6 : decode b_Mo_firstLike 6 = .ok (.bipush (40), 2) := by decide +kernel
theorem d_Mo_firstLike_8 : decode b_Mo_firstLike 8 = .ok (.iload_n 1, 1) := by decide +kernel
theorem d_Mo_firstLike_9 : decode b_Mo_firstLike 9 = .ok (.imul, 1) := by decide +kernel
theorem d_Mo_firstLike_10 : decode b_Mo_firstLike 10 = .ok (.iload_n 2, 1) := by decide +kernel
theorem d_Mo_firstLike_11 : decode b_Mo_firstLike 11 = .ok (.iadd, 1) := by decide +kernel
theorem d_Mo_firstLike_12 : decode b_Mo_firstLike 12 = .ok (.baload, 1) := by decide +kernel
theorem d_Mo_firstLike_13 : decode b_Mo_firstLike 13 = .ok (.ifCond .eq (9), 3) := by decide +kernel
theorem d_Mo_firstLike_16 : decode b_Mo_firstLike 16 = .ok (.iinc 2 (1), 3) := by decide +kernel
theorem d_Mo_firstLike_19 : decode b_Mo_firstLike 19 = .ok (.goto (-17), 3) := by decide +kernel
theorem d_Mo_firstLike_22 : decode b_Mo_firstLike 22 = .ok (.iload_n 2, 1) := by decide +kernel
theorem d_Mo_firstLike_23 : decode b_Mo_firstLike 23 = .ok (.ireturn, 1) := by decide +kernel
theorem d_Mo_classes_0 : decode b_Mo_classes 0 = .ok (.aload_n 0, 1) := by decide +kernel
theorem d_Mo_classes_1 : decode b_Mo_classes 1 = .ok (.iconst 0, 1) := by decide +kernel
theorem d_Mo_classes_2 : decode b_Mo_classes 2 = .ok (.putfield 53, 3) := by decide +kernel
theorem d_Mo_classes_5 : decode b_Mo_classes 5 = .ok (.aload_n 0, 1) := by decide +kernel
theorem d_Mo_classes_6 : decode b_Mo_classes 6 = .ok (.iload_n 1, 1) := by decide +kernel
theorem d_Mo_classes_7 : decode b_Mo_classes 7 = .ok (.invokevirtual 64, 3) := by decide +kernel
theorem d_Mo_classes_10 : decode b_Mo_classes 10 = .ok (.ifCond .ne (5), 3) := by decide +kernel
theorem d_Mo_classes_13 : decode b_Mo_classes 13 = .ok (.iconst (-1), 1) := by decide +kernel
theorem d_Mo_classes_14 : decode b_Mo_classes 14 = .ok (.ireturn, 1) := by decide +kernel
theorem d_Mo_classes_15 : decode b_Mo_classes 15 = .ok (.aload_n 0, 1) := by decide +kernel
theorem d_Mo_classes_16 : decode b_Mo_classes 16 = .ok (.iload_n 1, 1) := by decide +kernel
theorem d_Mo_classes_17 : decode b_Mo_classes 17 = .ok (.invokevirtual 79, 3) := by decide +kernel
theorem d_Mo_classes_20 : decode b_Mo_classes 20 = .ok (.iconst 0, 1) := by decide +kernel
theorem d_Mo_classes_21 : decode b_Mo_classes 21 = .ok (.istore_n 2, 1) := by decide +kernel
theorem d_Mo_classes_22 : decode b_Mo_classes 22 = .ok (.iconst 0, 1) := by decide +kernel
theorem d_Mo_classes_23 : decode b_Mo_classes 23 = .ok (.istore_n 3, 1) := by decide +kernel
theorem d_Mo_classes_24 : decode b_Mo_classes 24 = .ok (.iload_n 3, 1) := by decide +kernel
theorem d_Mo_classes_25 : decode b_Mo_classes 25 = .ok (.aload_n 0, 1) := by decide +kernel
theorem d_Mo_classes_26 : decode b_Mo_classes 26 = .ok (.getfield 7, 3) := by decide +kernel
theorem d_Mo_classes_29 : decode b_Mo_classes 29 = .ok (.iload_n 1, 1) := by decide +kernel
theorem d_Mo_classes_30 : decode b_Mo_classes 30 = .ok (.iaload, 1) := by decide +kernel
theorem d_Mo_classes_31 : decode b_Mo_classes 31 = .ok (.if_icmp .ge (26), 3) := by decide +kernel
theorem d_Mo_classes_34 : decode b_Mo_classes 34 = .ok (.iload_n 2, 1) := by decide +kernel
theorem d_Mo_classes_35 : decode b_Mo_classes 35 = .ok (.aload_n 0, 1) := by decide +kernel
theorem d_Mo_classes_36 : decode b_Mo_classes 36 = .ok (.iload_n 3, 1) := by decide +kernel
theorem d_Mo_classes_37 : decode b_Mo_classes 37 = .ok (.invokevirtual 83, 3) := by decide +kernel
theorem d_Mo_classes_40 : decode b_Mo_classes 40 = .ok (.iload_n 3, 1) := by decide +kernel
theorem d_Mo_classes_41 : decode b_Mo_classes 41 = .ok (.if_icmp .ne (7), 3) := by decide +kernel
theorem d_Mo_classes_44 : decode b_Mo_classes 44 = .ok (.iconst 1, 1) := by decide +kernel
theorem d_Mo_classes_45 : decode b_Mo_classes 45 = .ok (.goto (4), 3) := by decide +kernel
theorem d_Mo_classes_48 : decode b_Mo_classes 48 = .ok (.iconst 0, 1) := by decide +kernel
theorem d_Mo_classes_49 : decode b_Mo_classes 49 = .ok (.iadd, 1) := by decide +kernel
theorem d_Mo_classes_50 : decode b_Mo_classes 50 = .ok (.istore_n 2, 1) := by decide +kernel
theorem d_Mo_classes_51 : decode b_Mo_classes 51 = .ok (.iinc 3 (1), 3) := by decide +kernel
theorem d_Mo_classes_54 : decode b_Mo_classes 54 = .ok (.goto (-30), 3) := by decide +kernel
theorem d_Mo_classes_57 : decode b_Mo_classes 57 = .ok (.iload_n 2, 1) := by decide +kernel
theorem d_Mo_classes_58 : decode b_Mo_classes 58 = .ok (.ireturn, 1) := by decide +kernel
theorem d_Mo_like_0 : decode b_Mo_like 0 = .ok (.aload_n 0, 1) := by decide +kernel
theorem d_Mo_like_1 : decode b_Mo_like 1 = .ok (.iconst 0, 1) := by decide +kernel
theorem d_Mo_like_2 : decode b_Mo_like 2 = .ok (.putfield 53, 3) := by decide +kernel
theorem d_Mo_like_5 : decode b_Mo_like 5 = .ok (.aload_n 0, 1) := by decide +kernel
theorem d_Mo_like_6 : decode b_Mo_like 6 = .ok (.iload_n 1, 1) := by decide +kernel
theorem d_Mo_like_7 : decode b_Mo_like 7 = .ok (.iload_n 2, 1) := by decide +kernel
theorem d_Mo_like_8 : decode b_Mo_like 8 = .ok (.invokevirtual 72, 3) := by decide +kernel
theorem d_Mo_like_11 : decode b_Mo_like 11 = .ok (.ifCond .ne (5), 3) := by decide +kernel
theorem d_Mo_like_14 : decode b_Mo_like 14 = .ok (.iconst (-1), 1) := by decide +kernel
theorem d_Mo_like_15 : decode b_Mo_like 15 = .ok (.ireturn, 1) := by decide +kernel
theorem d_Mo_like_16 : decode b_Mo_like 16 = .ok (.aload_n 0, 1) := by decide +kernel
theorem d_Mo_like_17 : decode b_Mo_like 17 = .ok (.iload_n 1, 1) := by decide +kernel
theorem d_Mo_like_18 : decode b_Mo_like 18 = .ok (.invokevirtual 79, 3) := by decide +kernel
theorem d_Mo_like_21 : decode b_Mo_like 21 = .ok (.aload_n 0, 1) := by decide +kernel
theorem d_Mo_like_22 : decode b_Mo_like 22 = .ok (.iload_n 2, 1) := by decide +kernel
theorem d_Mo_like_23 : decode b_Mo_like 23 = .ok (.invokevirtual 83, 3) := by decide +kernel
theorem d_Mo_like_26 : decode b_Mo_like 26 = .ok (.ireturn, 1) := by decide +kernel
theorem d_Mo_begin_0 : decode b_Mo_begin 0 = .ok (.iconst 0, 1) := by decide +kernel
theorem d_Mo_begin_1 : decode b_Mo_begin 1 = .ok (.istore_n 2, 1) := by decide +kernel
theorem d_Mo_begin_2 : decode b_Mo_begin 2 = .ok (.iload_n 2, 1) := by decide +kernel
theorem d_Mo_begin_3 : decode b_Mo_begin 3 = .ok (.sipush (4096), 3) := by decide +kernel
theorem d_Mo_begin_6 : decode b_Mo_begin 6 = .ok (.if_icmp .ge (16), 3) := by decide +kernel
theorem d_Mo_begin_9 : decode b_Mo_begin 9 = .ok (.aload_n 0, 1) := by decide +kernel
theorem d_Mo_begin_10 : decode b_Mo_begin 10 = .ok (.getfield 38, 3) := by decide +kernel
theorem d_Mo_begin_13 : decode b_Mo_begin 13 = .ok (.iload_n 2, 1) := by decide +kernel
theorem d_Mo_begin_14 : decode b_Mo_begin 14 = .ok (.iconst 0, 1) := by decide +kernel
theorem d_Mo_begin_15 : decode b_Mo_begin 15 = .ok (.bastore, 1) := by decide +kernel
theorem d_Mo_begin_16 : decode b_Mo_begin 16 = .ok (.iinc 2 (1), 3) := by decide +kernel
theorem d_Mo_begin_19 : decode b_Mo_begin 19 = .ok (.goto (-17), 3) := by decide +kernel
theorem d_Mo_begin_22 : decode b_Mo_begin 22 = .ok (.aload_n 0, 1) := by decide +kernel
theorem d_Mo_begin_23 : decode b_Mo_begin 23 = .ok (.iconst 0, 1) := by decide +kernel
theorem d_Mo_begin_24 : decode b_Mo_begin 24 = .ok (.putfield 87, 3) := by decide +kernel
theorem d_Mo_begin_27 : decode b_Mo_begin 27 = .ok (.aload_n 0, 1) := by decide +kernel
theorem d_Mo_begin_28 : decode b_Mo_begin 28 = .ok (.iload_n 1, 1) := by decide +kernel
theorem d_Mo_begin_29 : decode b_Mo_begin 29 = .ok (.iconst (-1), 1) := by decide +kernel
theorem d_Mo_begin_30 : decode b_Mo_begin 30 = .ok (.iconst 0, 1) := by decide +kernel
theorem d_Mo_begin_31 : decode b_Mo_begin 31 = .ok (.invokevirtual 90, 3) := by decide +kernel
theorem d_Mo_begin_34 : decode b_Mo_begin 34 = .ok (.return_, 1) := by decide +kernel
theorem d_Mo_come_0 : decode b_Mo_come 0 = .ok (.aload_n 0, 1) := by decide +kernel
theorem d_Mo_come_1 : decode b_Mo_come 1 = .ok (.getfield 38, 3) := by decide +kernel
theorem d_Mo_come_4 : decode b_Mo_come 4 = .ok (.iload_n 1, 1) := by decide +kernel
theorem d_Mo_come_5 : decode b_Mo_come 5 = .ok (.baload, 1) := by decide +kernel
theorem d_Mo_come_6 : decode b_Mo_come 6 = .ok (.ifCond .eq (4), 3) := by decide +kernel
theorem d_Mo_come_9 : decode b_Mo_come 9 = .ok (.return_, 1) := by decide +kernel
theorem d_Mo_come_10 : decode b_Mo_come 10 = .ok (.aload_n 0, 1) := by decide +kernel
theorem d_Mo_come_11 : decode b_Mo_come 11 = .ok (.getfield 38, 3) := by decide +kernel
theorem d_Mo_come_14 : decode b_Mo_come 14 = .ok (.iload_n 1, 1) := by decide +kernel
theorem d_Mo_come_15 : decode b_Mo_come 15 = .ok (.iconst 1, 1) := by decide +kernel
theorem d_Mo_come_16 : decode b_Mo_come 16 = .ok (.bastore, 1) := by decide +kernel
theorem d_Mo_come_17 : decode b_Mo_come 17 = .ok (.aload_n 0, 1) := by decide +kernel
theorem d_Mo_come_18 : decode b_Mo_come 18 = .ok (.getfield 29, 3) := by decide +kernel
theorem d_Mo_come_21 : decode b_Mo_come 21 = .ok (.aload_n 0, 1) := by decide +kernel
theorem d_Mo_come_22 : decode b_Mo_come 22 = .ok (.getfield 87, 3) := by decide +kernel
theorem d_Mo_come_25 : decode b_Mo_come 25 = .ok (.iload_n 1, 1) := by decide +kernel
theorem d_Mo_come_26 : decode b_Mo_come 26 = .ok (.iastore, 1) := by decide +kernel
theorem d_Mo_come_27 : decode b_Mo_come 27 = .ok (.aload_n 0, 1) := by decide +kernel
theorem d_Mo_come_28 : decode b_Mo_come 28 = .ok (.getfield 32, 3) := by decide +kernel
theorem d_Mo_come_31 : decode b_Mo_come 31 = .ok (.aload_n 0, 1) := by decide +kernel
theorem d_Mo_come_32 : decode b_Mo_come 32 = .ok (.getfield 87, 3) := by decide +kernel
theorem d_Mo_come_35 : decode b_Mo_come 35 = .ok (.iload_n 2, 1) := by decide +kernel
theorem d_Mo_come_36 : decode b_Mo_come 36 = .ok (.iastore, 1) := by decide +kernel
theorem d_Mo_come_37 : decode b_Mo_come 37 = .ok (.aload_n 0, 1) := by decide +kernel
theorem d_Mo_come_38 : decode b_Mo_come 38 = .ok (.getfield 35, 3) := by decide +kernel
theorem d_Mo_come_41 : decode b_Mo_come 41 = .ok (.aload_n 0, 1) := by decide +kernel
theorem d_Mo_come_42 : decode b_Mo_come 42 = .ok (.getfield 87, 3) := by decide +kernel
theorem d_Mo_come_45 : decode b_Mo_come 45 = .ok (.iload_n 3, 1) := by decide +kernel
theorem d_Mo_come_46 : decode b_Mo_come 46 = .ok (.iastore, 1) := by decide +kernel
theorem d_Mo_come_47 : decode b_Mo_come 47 = .ok (.aload_n 0, 1) := by decide +kernel
theorem d_Mo_come_48 : decode b_Mo_come 48 = .ok (.dup, 1) := by decide +kernel
theorem d_Mo_come_49 : decode b_Mo_come 49 = .ok (.getfield 87, 3) := by decide +kernel
theorem d_Mo_come_52 : decode b_Mo_come 52 = .ok (.iconst 1, 1) := by decide +kernel
theorem d_Mo_come_53 : decode b_Mo_come 53 = .ok (.iadd, 1) := by decide +kernel
theorem d_Mo_come_54 : decode b_Mo_come 54 = .ok (.putfield 87, 3) := by decide +kernel
theorem d_Mo_come_57 : decode b_Mo_come 57 = .ok (.return_, 1) := by decide +kernel
theorem d_Mo_tell_0 : decode b_Mo_tell 0 = .ok (.aload_n 0, 1) := by decide +kernel
theorem d_Mo_tell_1 : decode b_Mo_tell 1 = .ok (.iload_n 2, 1) := by decide +kernel
theorem d_Mo_tell_2 : decode b_Mo_tell 2 = .ok (.ifCond .ge (7), 3) := by decide +kernel
theorem d_Mo_tell_5 : decode b_Mo_tell 5 = .ok (.iconst 0, 1) := by decide +kernel
theorem d_Mo_tell_6 : decode b_Mo_tell 6 = .ok (.goto (4), 3) := by decide +kernel
theorem d_Mo_tell_9 : decode b_Mo_tell 9 = .ok (.iconst 1, 1) := by decide +kernel
theorem d_Mo_tell_10 : decode b_Mo_tell 10 = .ok (.putfield 94, 3) := by decide +kernel
theorem d_Mo_tell_13 : decode b_Mo_tell 13 = .ok (.iload_n 1, 1) := by decide +kernel
theorem d_Mo_tell_14 : decode b_Mo_tell 14 = .ok (.istore_n 3, 1) := by decide +kernel
theorem d_Mo_tell_15 : decode b_Mo_tell 15 = .ok (.aload_n 0, 1) := by decide +kernel
theorem d_Mo_tell_16 : decode b_Mo_tell 16 = .ok (.getfield 32, 3) := by decide +kernel
theorem d_Mo_tell_19 : decode b_Mo_tell 19 = .ok (.iload_n 3, 1) := by decide +kernel
theorem d_Mo_tell_20 : decode b_Mo_tell 20 = .ok (.iaload, 1) := by decide +kernel
theorem d_Mo_tell_21 : decode b_Mo_tell 21 = .ok (.iconst (-1), 1) := by decide +kernel
theorem d_Mo_tell_22 : decode b_Mo_tell 22 = .ok (.if_icmp .eq (23), 3) := by decide +kernel
theorem d_Mo_tell_25 : decode b_Mo_tell 25 = .ok (.aload_n 0, 1) := by decide +kernel
theorem d_Mo_tell_26 : decode b_Mo_tell 26 = .ok (.dup, 1) := by decide +kernel
theorem d_Mo_tell_27 : decode b_Mo_tell 27 = .ok (.getfield 94, 3) := by decide +kernel
theorem d_Mo_tell_30 : decode b_Mo_tell 30 = .ok (.iconst 1, 1) := by decide +kernel
theorem d_Mo_tell_31 : decode b_Mo_tell 31 = .ok (.iadd, 1) := by decide +kernel
theorem d_Mo_tell_32 : decode b_Mo_tell 32 = .ok (.putfield 94, 3) := by decide +kernel
theorem d_Mo_tell_35 : decode b_Mo_tell 35 = .ok (.aload_n 0, 1) := by decide +kernel
theorem d_Mo_tell_36 : decode b_Mo_tell 36 = .ok (.getfield 32, 3) := by decide +kernel
theorem d_Mo_tell_39 : decode b_Mo_tell 39 = .ok (.iload_n 3, 1) := by decide +kernel
theorem d_Mo_tell_40 : decode b_Mo_tell 40 = .ok (.iaload, 1) := by decide +kernel
theorem d_Mo_tell_41 : decode b_Mo_tell 41 = .ok (.istore_n 3, 1) := by decide +kernel
theorem d_Mo_tell_42 : decode b_Mo_tell 42 = .ok (.goto (-27), 3) := by decide +kernel
theorem d_Mo_tell_45 : decode b_Mo_tell 45 = .ok (.aload_n 0, 1) := by decide +kernel
theorem d_Mo_tell_46 : decode b_Mo_tell 46 = .ok (.getfield 94, 3) := by decide +kernel
theorem d_Mo_tell_49 : decode b_Mo_tell 49 = .ok (.istore_n 3, 1) := by decide +kernel
theorem d_Mo_tell_50 : decode b_Mo_tell 50 = .ok (.iload_n 2, 1) := by decide +kernel
theorem d_Mo_tell_51 : decode b_Mo_tell 51 = .ok (.ifCond .lt (13), 3) := by decide +kernel
theorem d_Mo_tell_54 : decode b_Mo_tell 54 = .ok (.iinc 3 (-1), 3) := by decide +kernel
theorem d_Mo_tell_57 : decode b_Mo_tell 57 = .ok (.aload_n 0, 1) := by decide +kernel
theorem d_Mo_tell_58 : decode b_Mo_tell 58 = .ok (.getfield 22, 3) := by decide +kernel
theorem d_Mo_tell_61 : decode b_Mo_tell 61 = .ok (.iload_n 3, 1) := by decide +kernel
theorem d_Mo_tell_62 : decode b_Mo_tell 62 = .ok (.iload_n 2, 1) := by decide +kernel
theorem d_Mo_tell_63 : decode b_Mo_tell 63 = .ok (.iastore, 1) := by decide +kernel
theorem d_Mo_tell_64 : decode b_Mo_tell 64 = .ok (.iload_n 1, 1) := by decide +kernel
theorem d_Mo_tell_65 : decode b_Mo_tell 65 = .ok (.istore 4, 2) := by decide +kernel
theorem d_Mo_tell_67 : decode b_Mo_tell 67 = .ok (.aload_n 0, 1) := by decide +kernel
end
section
theorem d_Mo_tell_68 : decode b_Mo_tell 68 = .ok (.getfield 32, 3) := by decide +kernel
theorem d_Mo_tell_71 : decode b_Mo_tell 71 = .ok (.iload 4, 2) := by decide +kernel
theorem d_Mo_tell_73 : decode b_Mo_tell 73 = .ok (.iaload, 1) := by decide +kernel
theorem d_Mo_tell_74 : decode b_Mo_tell 74 = .ok (.iconst (-1), 1) := by decide +kernel
theorem d_Mo_tell_75 : decode b_Mo_tell 75 = .ok (.if_icmp .eq (31), 3) := by decide +kernel
theorem d_Mo_tell_78 : decode b_Mo_tell 78 = .ok (.iinc 3 (-1), 3) := by decide +kernel
theorem d_Mo_tell_81 : decode b_Mo_tell 81 = .ok (.aload_n 0, 1) := by decide +kernel
theorem d_Mo_tell_82 : decode b_Mo_tell 82 = .ok (.getfield 22, 3) := by decide +kernel
theorem d_Mo_tell_85 : decode b_Mo_tell 85 = .ok (.iload_n 3, 1) := by decide +kernel
theorem d_Mo_tell_86 : decode b_Mo_tell 86 = .ok (.aload_n 0, 1) := by decide +kernel
theorem d_Mo_tell_87 : decode b_Mo_tell 87 = .ok (.getfield 35, 3) := by decide +kernel
theorem d_Mo_tell_90 : decode b_Mo_tell 90 = .ok (.iload 4, 2) := by decide +kernel
theorem d_Mo_tell_92 : decode b_Mo_tell 92 = .ok (.iaload, 1) := by decide +kernel
theorem d_Mo_tell_93 : decode b_Mo_tell 93 = .ok (.iastore, 1) := by decide +kernel
theorem d_Mo_tell_94 : decode b_Mo_tell 94 = .ok (.aload_n 0, 1) := by decide +kernel
theorem d_Mo_tell_95 : decode b_Mo_tell 95 = .ok (.getfield 32, 3) := by decide +kernel
theorem d_Mo_tell_98 : decode b_Mo_tell 98 = .ok (.iload 4, 2) := by decide +kernel
theorem d_Mo_tell_100 : decode b_Mo_tell 100 = .ok (.iaload, 1) := by decide +kernel
theorem d_Mo_tell_101 : decode b_Mo_tell 101 = .ok (.istore 4, 2) := by decide +kernel
theorem d_Mo_tell_103 : decode b_Mo_tell 103 = .ok (.goto (-36), 3) := by decide +kernel
theorem d_Mo_tell_106 : decode b_Mo_tell 106 = .ok (.return_, 1) := by decide +kernel
theorem d_Mo_alike_0 : decode b_Mo_alike 0 = .ok (.aload_n 0, 1) := by decide +kernel
theorem d_Mo_alike_1 : decode b_Mo_alike 1 = .ok (.iconst 0, 1) := by decide +kernel
theorem d_Mo_alike_2 : decode b_Mo_alike 2 = .ok (.putfield 53, 3) := by decide +kernel
theorem d_Mo_alike_5 : decode b_Mo_alike 5 = .ok (.aload_n 0, 1) := by decide +kernel
theorem d_Mo_alike_6 : decode b_Mo_alike 6 = .ok (.iload_n 1, 1) := by decide +kernel
theorem d_Mo_alike_7 : decode b_Mo_alike 7 = .ok (.iload_n 2, 1) := by decide +kernel
theorem d_Mo_alike_8 : decode b_Mo_alike 8 = .ok (.invokevirtual 72, 3) := by decide +kernel
theorem d_Mo_alike_11 : decode b_Mo_alike 11 = .ok (.ifCond .eq (28), 3) := by decide +kernel
theorem d_Mo_alike_14 : decode b_Mo_alike 14 = .ok (.aload_n 0, 1) := by decide +kernel
theorem d_Mo_alike_15 : decode b_Mo_alike 15 = .ok (.iload_n 3, 1) := by decide +kernel
theorem d_Mo_alike_16 : decode b_Mo_alike 16 = .ok (.iload 4, 2) := by decide +kernel
theorem d_Mo_alike_18 : decode b_Mo_alike 18 = .ok (.invokevirtual 72, 3) := by decide +kernel
theorem d_Mo_alike_21 : decode b_Mo_alike 21 = .ok (.ifCond .eq (18), 3) := by decide +kernel
theorem d_Mo_alike_24 : decode b_Mo_alike 24 = .ok (.aload_n 0, 1) := by decide +kernel
theorem d_Mo_alike_25 : decode b_Mo_alike 25 = .ok (.getfield 13, 3) := by decide +kernel
theorem d_Mo_alike_28 : decode b_Mo_alike 28 = .ok (.iload_n 1, 1) := by decide +kernel
theorem d_Mo_alike_29 : decode b_Mo_alike 29 = .ok (.iaload, 1) := by decide +kernel
theorem d_Mo_alike_30 : decode b_Mo_alike 30 = .ok (.aload_n 0, 1) := by decide +kernel
theorem d_Mo_alike_31 : decode b_Mo_alike 31 = .ok (.getfield 13, 3) := by decide +kernel
theorem d_Mo_alike_34 : decode b_Mo_alike 34 = .ok (.iload_n 3, 1) := by decide +kernel
theorem d_Mo_alike_35 : decode b_Mo_alike 35 = .ok (.iaload, 1) := by decide +kernel
theorem d_Mo_alike_36 : decode b_Mo_alike 36 = .ok (.if_icmp .eq (10), 3) := by decide +kernel
theorem d_Mo_alike_39 : decode b_Mo_alike 39 = .ok (.aload_n 0, 1) := by decide +kernel
theorem d_Mo_alike_40 : decode b_Mo_alike 40 = .ok (.iconst 1, 1) := by decide +kernel
theorem d_Mo_alike_41 : decode b_Mo_alike 41 = .ok (.putfield 53, 3) := by decide +kernel
theorem d_Mo_alike_44 : decode b_Mo_alike 44 = .ok (.iconst 0, 1) := by decide +kernel
theorem d_Mo_alike_45 : decode b_Mo_alike 45 = .ok (.ireturn, 1) := by decide +kernel
theorem d_Mo_alike_46 : decode b_Mo_alike 46 = .ok (.aload_n 0, 1) := by decide +kernel
theorem d_Mo_alike_47 : decode b_Mo_alike 47 = .ok (.bipush (40), 2) := by decide +kernel
theorem d_Mo_alike_49 : decode b_Mo_alike 49 = .ok (.iload_n 2, 1) := by decide +kernel
theorem d_Mo_alike_50 : decode b_Mo_alike 50 = .ok (.imul, 1) := by decide +kernel
theorem d_Mo_alike_51 : decode b_Mo_alike 51 = .ok (.iload 4, 2) := by decide +kernel
theorem d_Mo_alike_53 : decode b_Mo_alike 53 = .ok (.iadd, 1) := by decide +kernel
theorem d_Mo_alike_54 : decode b_Mo_alike 54 = .ok (.invokevirtual 97, 3) := by decide +kernel
theorem d_Mo_alike_57 : decode b_Mo_alike 57 = .ok (.iconst 0, 1) := by decide +kernel
theorem d_Mo_alike_58 : decode b_Mo_alike 58 = .ok (.istore 5, 2) := by decide +kernel
theorem d_Mo_alike_60 : decode b_Mo_alike 60 = .ok (.iload 5, 2) := by decide +kernel
theorem d_Mo_alike_62 : decode b_Mo_alike 62 = .ok (.aload_n 0, 1) := by decide +kernel
theorem d_Mo_alike_63 : decode b_Mo_alike 63 = .ok (.getfield 87, 3) := by decide +kernel
theorem d_Mo_alike_66 : decode b_Mo_alike 66 = .ok (.if_icmp .ge (128), 3) := by decide +kernel
theorem d_Mo_alike_69 : decode b_Mo_alike 69 = .ok (.iconst 0, 1) := by decide +kernel
theorem d_Mo_alike_70 : decode b_Mo_alike 70 = .ok (.istore 6, 2) := by decide +kernel
theorem d_Mo_alike_72 : decode b_Mo_alike 72 = .ok (.iload 6, 2) := by decide +kernel
theorem d_Mo_alike_74 : decode b_Mo_alike 74 = .ok (.aload_n 0, 1) := by decide +kernel
theorem d_Mo_alike_75 : decode b_Mo_alike 75 = .ok (.getfield 13, 3) := by decide +kernel
theorem d_Mo_alike_78 : decode b_Mo_alike 78 = .ok (.iload_n 1, 1) := by decide +kernel
theorem d_Mo_alike_79 : decode b_Mo_alike 79 = .ok (.iaload, 1) := by decide +kernel
theorem d_Mo_alike_80 : decode b_Mo_alike 80 = .ok (.if_icmp .ge (108), 3) := by decide +kernel
theorem d_Mo_alike_83 : decode b_Mo_alike 83 = .ok (.sipush (160), 3) := by decide +kernel
theorem d_Mo_alike_86 : decode b_Mo_alike 86 = .ok (.iload_n 1, 1) := by decide +kernel
theorem d_Mo_alike_87 : decode b_Mo_alike 87 = .ok (.imul, 1) := by decide +kernel
theorem d_Mo_alike_88 : decode b_Mo_alike 88 = .ok (.iconst 4, 1) := by decide +kernel
theorem d_Mo_alike_89 : decode b_Mo_alike 89 = .ok (.aload_n 0, 1) := by decide +kernel
theorem d_Mo_alike_90 : decode b_Mo_alike 90 = .ok (.getfield 29, 3) := by decide +kernel
theorem d_Mo_alike_93 : decode b_Mo_alike 93 = .ok (.iload 5, 2) := by decide +kernel
theorem d_Mo_alike_95 : decode b_Mo_alike 95 = .ok (.iaload, 1) := by decide +kernel
theorem d_Mo_alike_96 : decode b_Mo_alike 96 = .ok (.bipush (40), 2) := by decide +kernel
theorem d_Mo_alike_98 : decode b_Mo_alike 98 = .ok (.idiv, 1) := by decide +kernel
theorem d_Mo_alike_99 : decode b_Mo_alike 99 = .ok (.imul, 1) := by decide +kernel
theorem d_Mo_alike_100 : decode b_Mo_alike 100 = .ok (.iadd, 1) := by decide +kernel
theorem d_Mo_alike_101 : decode b_Mo_alike 101 = .ok (.iload 6, 2) := by decide +kernel
theorem d_Mo_alike_103 : decode b_Mo_alike 103 = .ok (.iadd, 1) := by decide +kernel
theorem d_Mo_alike_104 : decode b_Mo_alike 104 = .ok (.istore 7, 2) := by decide +kernel
theorem d_Mo_alike_106 : decode b_Mo_alike 106 = .ok (.sipush (160), 3) := by decide +kernel
theorem d_Mo_alike_109 : decode b_Mo_alike 109 = .ok (.iload_n 3, 1) := by decide +kernel
theorem d_Mo_alike_110 : decode b_Mo_alike 110 = .ok (.imul, 1) := by decide +kernel
theorem d_Mo_alike_111 : decode b_Mo_alike 111 = .ok (.iconst 4, 1) := by decide +kernel
theorem d_Mo_alike_112 : decode b_Mo_alike 112 = .ok (.aload_n 0, 1) := by decide +kernel
theorem d_Mo_alike_113 : decode b_Mo_alike 113 = .ok (.getfield 29, 3) := by decide +kernel
theorem d_Mo_alike_116 : decode b_Mo_alike 116 = .ok (.iload 5, 2) := by decide +kernel
theorem d_Mo_alike_118 : decode b_Mo_alike 118 = .ok (.iaload, 1) := by decide +kernel
theorem d_Mo_alike_119 : decode b_Mo_alike 119 = .ok (.bipush (40), 2) := by decide +kernel
theorem d_Mo_alike_121 : decode b_Mo_alike 121 = .ok (.irem, 1) := by decide +kernel
theorem d_Mo_alike_122 : decode b_Mo_alike 122 = .ok (.imul, 1) := by decide +kernel
theorem d_Mo_alike_123 : decode b_Mo_alike 123 = .ok (.iadd, 1) := by decide +kernel
theorem d_Mo_alike_124 : decode b_Mo_alike 124 = .ok (.iload 6, 2) := by decide +kernel
theorem d_Mo_alike_126 : decode b_Mo_alike 126 = .ok (.iadd, 1) := by decide +kernel
theorem d_Mo_alike_127 : decode b_Mo_alike 127 = .ok (.istore 8, 2) := by decide +kernel
theorem d_Mo_alike_129 : decode b_Mo_alike 129 = .ok (.aload_n 0, 1) := by decide +kernel
theorem d_Mo_alike_130 : decode b_Mo_alike 130 = .ok (.getfield 19, 3) := by decide +kernel
theorem d_Mo_alike_133 : decode b_Mo_alike 133 = .ok (.iload 7, 2) := by decide +kernel
theorem d_Mo_alike_135 : decode b_Mo_alike 135 = .ok (.iaload, 1) := by decide +kernel
theorem d_Mo_alike_136 : decode b_Mo_alike 136 = .ok (.aload_n 0, 1) := by decide +kernel
theorem d_Mo_alike_137 : decode b_Mo_alike 137 = .ok (.getfield 19, 3) := by decide +kernel
theorem d_Mo_alike_140 : decode b_Mo_alike 140 = .ok (.iload 8, 2) := by decide +kernel
theorem d_Mo_alike_142 : decode b_Mo_alike 142 = .ok (.iaload, 1) := by decide +kernel
theorem d_Mo_alike_143 : decode b_Mo_alike 143 = .ok (.if_icmp .eq (13), 3) := by decide +kernel
theorem d_Mo_alike_146 : decode b_Mo_alike 146 = .ok (.aload_n 0, 1) := by decide +kernel
theorem d_Mo_alike_147 : decode b_Mo_alike 147 = .ok (.iload 5, 2) := by decide +kernel
theorem d_Mo_alike_149 : decode b_Mo_alike 149 = .ok (.iload 6, 2) := by decide +kernel
theorem d_Mo_alike_151 : decode b_Mo_alike 151 = .ok (.invokevirtual 100, 3) := by decide +kernel
theorem d_Mo_alike_154 : decode b_Mo_alike 154 = .ok (.iconst 0, 1) := by decide +kernel
theorem d_Mo_alike_155 : decode b_Mo_alike 155 = .ok (.ireturn, 1) := by decide +kernel
theorem d_Mo_alike_156 : decode b_Mo_alike 156 = .ok (.aload_n 0, 1) := by decide +kernel
theorem d_Mo_alike_157 : decode b_Mo_alike 157 = .ok (.bipush (40), 2) := by decide +kernel
theorem d_Mo_alike_159 : decode b_Mo_alike 159 = .ok (.aload_n 0, 1) := by decide +kernel
theorem d_Mo_alike_160 : decode b_Mo_alike 160 = .ok (.getfield 16, 3) := by decide +kernel
theorem d_Mo_alike_163 : decode b_Mo_alike 163 = .ok (.iload 7, 2) := by decide +kernel
theorem d_Mo_alike_165 : decode b_Mo_alike 165 = .ok (.iaload, 1) := by decide +kernel
theorem d_Mo_alike_166 : decode b_Mo_alike 166 = .ok (.imul, 1) := by decide +kernel
theorem d_Mo_alike_167 : decode b_Mo_alike 167 = .ok (.aload_n 0, 1) := by decide +kernel
theorem d_Mo_alike_168 : decode b_Mo_alike 168 = .ok (.getfield 16, 3) := by decide +kernel
theorem d_Mo_alike_171 : decode b_Mo_alike 171 = .ok (.iload 8, 2) := by decide +kernel
theorem d_Mo_alike_173 : decode b_Mo_alike 173 = .ok (.iaload, 1) := by decide +kernel
theorem d_Mo_alike_174 : decode b_Mo_alike 174 = .ok (.iadd, 1) := by decide +kernel
theorem d_Mo_alike_175 : decode b_Mo_alike 175 = .ok (.iload 5, 2) := by decide +kernel
theorem d_Mo_alike_177 : decode b_Mo_alike 177 = .ok (.iload 6, 2) := by decide +kernel
theorem d_Mo_alike_179 : decode b_Mo_alike 179 = .ok (.invokevirtual 90, 3) := by decide +kernel
theorem d_Mo_alike_182 : decode b_Mo_alike 182 = .ok (.iinc 6 (1), 3) := by decide +kernel
theorem d_Mo_alike_185 : decode b_Mo_alike 185 = .ok (.goto (-113), 3) := by decide +kernel
theorem d_Mo_alike_188 : decode b_Mo_alike 188 = .ok (.iinc 5 (1), 3) := by decide +kernel
theorem d_Mo_alike_191 : decode b_Mo_alike 191 = .ok (.goto (-131), 3) := by decide +kernel
theorem d_Mo_alike_194 : decode b_Mo_alike 194 = .ok (.iconst 1, 1) := by decide +kernel
theorem d_Mo_alike_195 : decode b_Mo_alike 195 = .ok (.ireturn, 1) := by decide +kernel
theorem d_Mo_findParts_0 : decode b_Mo_findParts 0 = .ok (.aload_n 0, 1) := by decide +kernel
theorem d_Mo_findParts_1 : decode b_Mo_findParts 1 = .ok (.iload_n 1, 1) := by decide +kernel
theorem d_Mo_findParts_2 : decode b_Mo_findParts 2 = .ok (.invokevirtual 79, 3) := by decide +kernel
theorem d_Mo_findParts_5 : decode b_Mo_findParts 5 = .ok (.aload_n 0, 1) := by decide +kernel
theorem d_Mo_findParts_6 : decode b_Mo_findParts 6 = .ok (.aload_n 0, 1) := by decide +kernel
theorem d_Mo_findParts_7 : decode b_Mo_findParts 7 = .ok (.iconst 0, 1) := by decide +kernel
theorem d_Mo_findParts_8 : decode b_Mo_findParts 8 = .ok (.invokevirtual 83, 3) := by decide +kernel
theorem d_Mo_findParts_11 : decode b_Mo_findParts 11 = .ok (.invokevirtual 97, 3) := by decide +kernel
theorem d_Mo_findParts_14 : decode b_Mo_findParts 14 = .ok (.iconst 0, 1) := by decide +kernel
theorem d_Mo_findParts_15 : decode b_Mo_findParts 15 = .ok (.istore_n 2, 1) := by decide +kernel
theorem d_Mo_findParts_16 : decode b_Mo_findParts 16 = .ok (.iload_n 2, 1) := by decide +kernel
theorem d_Mo_findParts_17 : decode b_Mo_findParts 17 = .ok (.aload_n 0, 1) := by decide +kernel
theorem d_Mo_findParts_18 : decode b_Mo_findParts 18 = .ok (.getfield 87, 3) := by decide +kernel
theorem d_Mo_findParts_21 : decode b_Mo_findParts 21 = .ok (.if_icmp .ge (58), 3) := by decide +kernel
theorem d_Mo_findParts_24 : decode b_Mo_findParts 24 = .ok (.iconst 0, 1) := by decide +kernel
theorem d_Mo_findParts_25 : decode b_Mo_findParts 25 = .ok (.istore_n 3, 1) := by decide +kernel
theorem d_Mo_findParts_26 : decode b_Mo_findParts 26 = .ok (.iload_n 3, 1) := by decide +kernel
theorem d_Mo_findParts_27 : decode b_Mo_findParts 27 = .ok (.aload_n 0, 1) := by decide +kernel
theorem d_Mo_findParts_28 : decode b_Mo_findParts 28 = .ok (.getfield 13, 3) := by decide +kernel
theorem d_Mo_findParts_31 : decode b_Mo_findParts 31 = .ok (.iload_n 1, 1) := by decide +kernel
theorem d_Mo_findParts_32 : decode b_Mo_findParts 32 = .ok (.iaload, 1) := by decide +kernel
theorem d_Mo_findParts_33 : decode b_Mo_findParts 33 = .ok (.if_icmp .ge (40), 3) := by decide +kernel
theorem d_Mo_findParts_36 : decode b_Mo_findParts 36 = .ok (.aload_n 0, 1) := by decide +kernel
theorem d_Mo_findParts_37 : decode b_Mo_findParts 37 = .ok (.aload_n 0, 1) := by decide +kernel
theorem d_Mo_findParts_38 : decode b_Mo_findParts 38 = .ok (.aload_n 0, 1) := by decide +kernel
theorem d_Mo_findParts_39 : decode b_Mo_findParts 39 = .ok (.getfield 16, 3) := by decide +kernel
theorem d_Mo_findParts_42 : decode b_Mo_findParts 42 = .ok (.sipush (160), 3) := by decide +kernel
theorem d_Mo_findParts_45 : decode b_Mo_findParts 45 = .ok (.iload_n 1, 1) := by decide +kernel
theorem d_Mo_findParts_46 : decode b_Mo_findParts 46 = .ok (.imul, 1) := by decide +kernel
theorem d_Mo_findParts_47 : decode b_Mo_findParts 47 = .ok (.iconst 4, 1) := by decide +kernel
theorem d_Mo_findParts_48 : decode b_Mo_findParts 48 = .ok (.aload_n 0, 1) := by decide +kernel
theorem d_Mo_findParts_49 : decode b_Mo_findParts 49 = .ok (.getfield 29, 3) := by decide +kernel
theorem d_Mo_findParts_52 : decode b_Mo_findParts 52 = .ok (.iload_n 2, 1) := by decide +kernel
theorem d_Mo_findParts_53 : decode b_Mo_findParts 53 = .ok (.iaload, 1) := by decide +kernel
theorem d_Mo_findParts_54 : decode b_Mo_findParts 54 = .ok (.imul, 1) := by decide +kernel
theorem d_Mo_findParts_55 : decode b_Mo_findParts 55 = .ok (.iadd, 1) := by decide +kernel
theorem d_Mo_findParts_56 : decode b_Mo_findParts 56 = .ok (.iload_n 3, 1) := by decide +kernel
theorem d_Mo_findParts_57 : decode b_Mo_findParts 57 = .ok (.iadd, 1) := by decide +kernel
theorem d_Mo_findParts_58 : decode b_Mo_findParts 58 = .ok (.iaload, 1) := by decide +kernel
theorem d_Mo_findParts_59 : decode b_Mo_findParts 59 = .ok (.invokevirtual 83, 3) := by decide +kernel
theorem d_Mo_findParts_62 : decode b_Mo_findParts 62 = .ok (.iload_n 2, 1) := by decide +kernel
theorem d_Mo_findParts_63 : decode b_Mo_findParts 63 = .ok (.iload_n 3, 1) := by decide +kernel
theorem d_Mo_findParts_64 : decode b_Mo_findParts 64 = .ok (.invokevirtual 90, 3) := by decide +kernel
theorem d_Mo_findParts_67 : decode b_Mo_findParts 67 = .ok (.iinc 3 (1), 3) := by decide +kernel
theorem d_Mo_findParts_70 : decode b_Mo_findParts 70 = .ok (.goto (-44), 3) := by decide +kernel
theorem d_Mo_findParts_73 : decode b_Mo_findParts 73 = .ok (.iinc 2 (1), 3) := by decide +kernel
theorem d_Mo_findParts_76 : decode b_Mo_findParts 76 = .ok (.goto (-60), 3) := by decide +kernel
theorem d_Mo_findParts_79 : decode b_Mo_findParts 79 = .ok (.return_, 1) := by decide +kernel
theorem d_Mo_partOf_0 : decode b_Mo_partOf 0 = .ok (.aload_n 0, 1) := by decide +kernel
theorem d_Mo_partOf_1 : decode b_Mo_partOf 1 = .ok (.iload_n 1, 1) := by decide +kernel
theorem d_Mo_partOf_2 : decode b_Mo_partOf 2 = .ok (.invokevirtual 83, 3) := by decide +kernel
theorem d_Mo_partOf_5 : decode b_Mo_partOf 5 = .ok (.istore_n 2, 1) := by decide +kernel
theorem d_Mo_partOf_6 : decode b_Mo_partOf 6 = .ok (.iconst 0, 1) := by decide +kernel
theorem d_Mo_partOf_7 : decode b_Mo_partOf 7 = .ok (.istore_n 3, 1) := by decide +kernel
theorem d_Mo_partOf_8 : decode b_Mo_partOf 8 = .ok (.iload_n 3, 1) := by decide +kernel
theorem d_Mo_partOf_9 : decode b_Mo_partOf 9 = .ok (.aload_n 0, 1) := by decide +kernel
theorem d_Mo_partOf_10 : decode b_Mo_partOf 10 = .ok (.getfield 87, 3) := by decide +kernel
theorem d_Mo_partOf_13 : decode b_Mo_partOf 13 = .ok (.if_icmp .ge (21), 3) := by decide +kernel
theorem d_Mo_partOf_16 : decode b_Mo_partOf 16 = .ok (.aload_n 0, 1) := by decide +kernel
theorem d_Mo_partOf_17 : decode b_Mo_partOf 17 = .ok (.getfield 29, 3) := by decide +kernel
theorem d_Mo_partOf_20 : decode b_Mo_partOf 20 = .ok (.iload_n 3, 1) := by decide +kernel
theorem d_Mo_partOf_21 : decode b_Mo_partOf 21 = .ok (.iaload, 1) := by decide +kernel
theorem d_Mo_partOf_22 : decode b_Mo_partOf 22 = .ok (.iload_n 2, 1) := by decide +kernel
theorem d_Mo_partOf_23 : decode b_Mo_partOf 23 = .ok (.if_icmp .ne (5), 3) := by decide +kernel
theorem d_Mo_partOf_26 : decode b_Mo_partOf 26 = .ok (.iload_n 3, 1) := by decide +kernel
end
section
theorem d_Mo_partOf_27 : decode b_Mo_partOf 27 = .ok (.ireturn, 1) := by decide +kernel
theorem d_Mo_partOf_28 : decode b_Mo_partOf 28 = .ok (.iinc 3 (1), 3) := by decide +kernel
theorem d_Mo_partOf_31 : decode b_Mo_partOf 31 = .ok (.goto (-23), 3) := by decide +kernel
theorem d_Mo_partOf_34 : decode b_Mo_partOf 34 = .ok (.iconst (-1), 1) := by decide +kernel
theorem d_Mo_partOf_35 : decode b_Mo_partOf 35 = .ok (.ireturn, 1) := by decide +kernel
theorem d_Mo_least_0 : decode b_Mo_least 0 = .ok (.aload_n 0, 1) := by decide +kernel
theorem d_Mo_least_1 : decode b_Mo_least 1 = .ok (.iconst 0, 1) := by decide +kernel
theorem d_Mo_least_2 : decode b_Mo_least 2 = .ok (.putfield 53, 3) := by decide +kernel
theorem d_Mo_least_5 : decode b_Mo_least 5 = .ok (.aload_n 0, 1) := by decide +kernel
theorem d_Mo_least_6 : decode b_Mo_least 6 = .ok (.iload_n 1, 1) := by decide +kernel
theorem d_Mo_least_7 : decode b_Mo_least 7 = .ok (.invokevirtual 64, 3) := by decide +kernel
theorem d_Mo_least_10 : decode b_Mo_least 10 = .ok (.ifCond .eq (12), 3) := by decide +kernel
theorem d_Mo_least_13 : decode b_Mo_least 13 = .ok (.aload_n 0, 1) := by decide +kernel
theorem d_Mo_least_14 : decode b_Mo_least 14 = .ok (.getfield 57, 3) := by decide +kernel
theorem d_Mo_least_17 : decode b_Mo_least 17 = .ok (.bipush (12), 2) := by decide +kernel
theorem d_Mo_least_19 : decode b_Mo_least 19 = .ok (.if_icmp .ne (5), 3) := by decide +kernel
theorem d_Mo_least_22 : decode b_Mo_least 22 = .ok (.iconst (-1), 1) := by decide +kernel
theorem d_Mo_least_23 : decode b_Mo_least 23 = .ok (.ireturn, 1) := by decide +kernel
theorem d_Mo_least_24 : decode b_Mo_least 24 = .ok (.aload_n 0, 1) := by decide +kernel
theorem d_Mo_least_25 : decode b_Mo_least 25 = .ok (.iload_n 1, 1) := by decide +kernel
theorem d_Mo_least_26 : decode b_Mo_least 26 = .ok (.invokevirtual 104, 3) := by decide +kernel
theorem d_Mo_least_29 : decode b_Mo_least 29 = .ok (.aload_n 0, 1) := by decide +kernel
theorem d_Mo_least_30 : decode b_Mo_least 30 = .ok (.aload_n 0, 1) := by decide +kernel
theorem d_Mo_least_31 : decode b_Mo_least 31 = .ok (.getfield 87, 3) := by decide +kernel
theorem d_Mo_least_34 : decode b_Mo_least 34 = .ok (.aload_n 0, 1) := by decide +kernel
theorem d_Mo_least_35 : decode b_Mo_least 35 = .ok (.getfield 13, 3) := by decide +kernel
theorem d_Mo_least_38 : decode b_Mo_least 38 = .ok (.iload_n 1, 1) := by decide +kernel
theorem d_Mo_least_39 : decode b_Mo_least 39 = .ok (.iaload, 1) := by decide +kernel
theorem d_Mo_least_40 : decode b_Mo_least 40 = .ok (.invokevirtual 68, 3) := by decide +kernel
theorem d_Mo_least_43 : decode b_Mo_least 43 = .ok (.istore_n 2, 1) := by decide +kernel
theorem d_Mo_least_44 : decode b_Mo_least 44 = .ok (.iconst 0, 1) := by decide +kernel
theorem d_Mo_least_45 : decode b_Mo_least 45 = .ok (.istore_n 3, 1) := by decide +kernel
theorem d_Mo_least_46 : decode b_Mo_least 46 = .ok (.iload_n 3, 1) := by decide +kernel
theorem d_Mo_least_47 : decode b_Mo_least 47 = .ok (.aload_n 0, 1) := by decide +kernel
theorem d_Mo_least_48 : decode b_Mo_least 48 = .ok (.getfield 87, 3) := by decide +kernel
theorem d_Mo_least_51 : decode b_Mo_least 51 = .ok (.if_icmp .ge (111), 3) := by decide +kernel
theorem d_Mo_least_54 : decode b_Mo_least 54 = .ok (.iconst 0, 1) := by decide +kernel
theorem d_Mo_least_55 : decode b_Mo_least 55 = .ok (.istore 4, 2) := by decide +kernel
theorem d_Mo_least_57 : decode b_Mo_least 57 = .ok (.iload 4, 2) := by decide +kernel
theorem d_Mo_least_59 : decode b_Mo_least 59 = .ok (.aload_n 0, 1) := by decide +kernel
theorem d_Mo_least_60 : decode b_Mo_least 60 = .ok (.getfield 13, 3) := by decide +kernel
theorem d_Mo_least_63 : decode b_Mo_least 63 = .ok (.iload_n 1, 1) := by decide +kernel
theorem d_Mo_least_64 : decode b_Mo_least 64 = .ok (.iaload, 1) := by decide +kernel
theorem d_Mo_least_65 : decode b_Mo_least 65 = .ok (.if_icmp .ge (91), 3) := by decide +kernel
theorem d_Mo_least_68 : decode b_Mo_least 68 = .ok (.aload_n 0, 1) := by decide +kernel
theorem d_Mo_least_69 : decode b_Mo_least 69 = .ok (.getfield 16, 3) := by decide +kernel
theorem d_Mo_least_72 : decode b_Mo_least 72 = .ok (.sipush (160), 3) := by decide +kernel
theorem d_Mo_least_75 : decode b_Mo_least 75 = .ok (.iload_n 2, 1) := by decide +kernel
theorem d_Mo_least_76 : decode b_Mo_least 76 = .ok (.imul, 1) := by decide +kernel
theorem d_Mo_least_77 : decode b_Mo_least 77 = .ok (.iconst 4, 1) := by decide +kernel
theorem d_Mo_least_78 : decode b_Mo_least 78 = .ok (.iload_n 3, 1) := by decide +kernel
theorem d_Mo_least_79 : decode b_Mo_least 79 = .ok (.imul, 1) := by decide +kernel
theorem d_Mo_least_80 : decode b_Mo_least 80 = .ok (.iadd, 1) := by decide +kernel
theorem d_Mo_least_81 : decode b_Mo_least 81 = .ok (.iload 4, 2) := by decide +kernel
theorem d_Mo_least_83 : decode b_Mo_least 83 = .ok (.iadd, 1) := by decide +kernel
theorem d_Mo_least_84 : decode b_Mo_least 84 = .ok (.aload_n 0, 1) := by decide +kernel
theorem d_Mo_least_85 : decode b_Mo_least 85 = .ok (.aload_n 0, 1) := by decide +kernel
theorem d_Mo_least_86 : decode b_Mo_least 86 = .ok (.getfield 16, 3) := by decide +kernel
theorem d_Mo_least_89 : decode b_Mo_least 89 = .ok (.sipush (160), 3) := by decide +kernel
theorem d_Mo_least_92 : decode b_Mo_least 92 = .ok (.iload_n 1, 1) := by decide +kernel
theorem d_Mo_least_93 : decode b_Mo_least 93 = .ok (.imul, 1) := by decide +kernel
theorem d_Mo_least_94 : decode b_Mo_least 94 = .ok (.iconst 4, 1) := by decide +kernel
theorem d_Mo_least_95 : decode b_Mo_least 95 = .ok (.aload_n 0, 1) := by decide +kernel
theorem d_Mo_least_96 : decode b_Mo_least 96 = .ok (.getfield 29, 3) := by decide +kernel
theorem d_Mo_least_99 : decode b_Mo_least 99 = .ok (.iload_n 3, 1) := by decide +kernel
theorem d_Mo_least_100 : decode b_Mo_least 100 = .ok (.iaload, 1) := by decide +kernel
theorem d_Mo_least_101 : decode b_Mo_least 101 = .ok (.imul, 1) := by decide +kernel
theorem d_Mo_least_102 : decode b_Mo_least 102 = .ok (.iadd, 1) := by decide +kernel
theorem d_Mo_least_103 : decode b_Mo_least 103 = .ok (.iload 4, 2) := by decide +kernel
theorem d_Mo_least_105 : decode b_Mo_least 105 = .ok (.iadd, 1) := by decide +kernel
theorem d_Mo_least_106 : decode b_Mo_least 106 = .ok (.iaload, 1) := by decide +kernel
theorem d_Mo_least_107 : decode b_Mo_least 107 = .ok (.invokevirtual 107, 3) := by decide +kernel
theorem d_Mo_least_110 : decode b_Mo_least 110 = .ok (.iastore, 1) := by decide +kernel
theorem d_Mo_least_111 : decode b_Mo_least 111 = .ok (.aload_n 0, 1) := by decide +kernel
theorem d_Mo_least_112 : decode b_Mo_least 112 = .ok (.getfield 19, 3) := by decide +kernel
theorem d_Mo_least_115 : decode b_Mo_least 115 = .ok (.sipush (160), 3) := by decide +kernel
theorem d_Mo_least_118 : decode b_Mo_least 118 = .ok (.iload_n 2, 1) := by decide +kernel
theorem d_Mo_least_119 : decode b_Mo_least 119 = .ok (.imul, 1) := by decide +kernel
theorem d_Mo_least_120 : decode b_Mo_least 120 = .ok (.iconst 4, 1) := by decide +kernel
theorem d_Mo_least_121 : decode b_Mo_least 121 = .ok (.iload_n 3, 1) := by decide +kernel
theorem d_Mo_least_122 : decode b_Mo_least 122 = .ok (.imul, 1) := by decide +kernel
theorem d_Mo_least_123 : decode b_Mo_least 123 = .ok (.iadd, 1) := by decide +kernel
theorem d_Mo_least_124 : decode b_Mo_least 124 = .ok (.iload 4, 2) := by decide +kernel
theorem d_Mo_least_126 : decode b_Mo_least 126 = .ok (.iadd, 1) := by decide +kernel
theorem d_Mo_least_127 : decode b_Mo_least 127 = .ok (.aload_n 0, 1) := by decide +kernel
theorem d_Mo_least_128 : decode b_Mo_least 128 = .ok (.getfield 19, 3) := by decide +kernel
theorem d_Mo_least_131 : decode b_Mo_least 131 = .ok (.sipush (160), 3) := by decide +kernel
theorem d_Mo_least_134 : decode b_Mo_least 134 = .ok (.iload_n 1, 1) := by decide +kernel
theorem d_Mo_least_135 : decode b_Mo_least 135 = .ok (.imul, 1) := by decide +kernel
theorem d_Mo_least_136 : decode b_Mo_least 136 = .ok (.iconst 4, 1) := by decide +kernel
theorem d_Mo_least_137 : decode b_Mo_least 137 = .ok (.aload_n 0, 1) := by decide +kernel
theorem d_Mo_least_138 : decode b_Mo_least 138 = .ok (.getfield 29, 3) := by decide +kernel
theorem d_Mo_least_141 : decode b_Mo_least 141 = .ok (.iload_n 3, 1) := by decide +kernel
theorem d_Mo_least_142 : decode b_Mo_least 142 = .ok (.iaload, 1) := by decide +kernel
theorem d_Mo_least_143 : decode b_Mo_least 143 = .ok (.imul, 1) := by decide +kernel
theorem d_Mo_least_144 : decode b_Mo_least 144 = .ok (.iadd, 1) := by decide +kernel
theorem d_Mo_least_145 : decode b_Mo_least 145 = .ok (.iload 4, 2) := by decide +kernel
theorem d_Mo_least_147 : decode b_Mo_least 147 = .ok (.iadd, 1) := by decide +kernel
theorem d_Mo_least_148 : decode b_Mo_least 148 = .ok (.iaload, 1) := by decide +kernel
theorem d_Mo_least_149 : decode b_Mo_least 149 = .ok (.iastore, 1) := by decide +kernel
theorem d_Mo_least_150 : decode b_Mo_least 150 = .ok (.iinc 4 (1), 3) := by decide +kernel
theorem d_Mo_least_153 : decode b_Mo_least 153 = .ok (.goto (-96), 3) := by decide +kernel
theorem d_Mo_least_156 : decode b_Mo_least 156 = .ok (.iinc 3 (1), 3) := by decide +kernel
theorem d_Mo_least_159 : decode b_Mo_least 159 = .ok (.goto (-113), 3) := by decide +kernel
theorem d_Mo_least_162 : decode b_Mo_least 162 = .ok (.iload_n 2, 1) := by decide +kernel
theorem d_Mo_least_163 : decode b_Mo_least 163 = .ok (.ireturn, 1) := by decide +kernel
theorem d_Mo_part_0 : decode b_Mo_part 0 = .ok (.aload_n 0, 1) := by decide +kernel
theorem d_Mo_part_1 : decode b_Mo_part 1 = .ok (.iconst 0, 1) := by decide +kernel
theorem d_Mo_part_2 : decode b_Mo_part 2 = .ok (.putfield 53, 3) := by decide +kernel
theorem d_Mo_part_5 : decode b_Mo_part 5 = .ok (.aload_n 0, 1) := by decide +kernel
theorem d_Mo_part_6 : decode b_Mo_part 6 = .ok (.iload_n 1, 1) := by decide +kernel
theorem d_Mo_part_7 : decode b_Mo_part 7 = .ok (.iload_n 2, 1) := by decide +kernel
theorem d_Mo_part_8 : decode b_Mo_part 8 = .ok (.invokevirtual 72, 3) := by decide +kernel
theorem d_Mo_part_11 : decode b_Mo_part 11 = .ok (.ifCond .ne (5), 3) := by decide +kernel
theorem d_Mo_part_14 : decode b_Mo_part 14 = .ok (.iconst (-1), 1) := by decide +kernel
theorem d_Mo_part_15 : decode b_Mo_part 15 = .ok (.ireturn, 1) := by decide +kernel
theorem d_Mo_part_16 : decode b_Mo_part 16 = .ok (.aload_n 0, 1) := by decide +kernel
theorem d_Mo_part_17 : decode b_Mo_part 17 = .ok (.iload_n 1, 1) := by decide +kernel
theorem d_Mo_part_18 : decode b_Mo_part 18 = .ok (.invokevirtual 104, 3) := by decide +kernel
theorem d_Mo_part_21 : decode b_Mo_part 21 = .ok (.aload_n 0, 1) := by decide +kernel
theorem d_Mo_part_22 : decode b_Mo_part 22 = .ok (.iload_n 2, 1) := by decide +kernel
theorem d_Mo_part_23 : decode b_Mo_part 23 = .ok (.invokevirtual 107, 3) := by decide +kernel
theorem d_Mo_part_26 : decode b_Mo_part 26 = .ok (.ireturn, 1) := by decide +kernel
theorem d_Mo_ones_0 : decode b_Mo_ones 0 = .ok (.iconst 0, 1) := by decide +kernel
theorem d_Mo_ones_1 : decode b_Mo_ones 1 = .ok (.istore_n 1, 1) := by decide +kernel
theorem d_Mo_ones_2 : decode b_Mo_ones 2 = .ok (.iconst 0, 1) := by decide +kernel
theorem d_Mo_ones_3 : decode b_Mo_ones 3 = .ok (.istore_n 2, 1) := by decide +kernel
theorem d_Mo_ones_4 : decode b_Mo_ones 4 = .ok (.iload_n 2, 1) := by decide +kernel
theorem d_Mo_ones_5 : decode b_Mo_ones 5 = .ok (.bipush (12), 2) := by decide +kernel
theorem d_Mo_ones_7 : decode b_Mo_ones 7 = .ok (.if_icmp .ge (17), 3) := by decide +kernel
theorem d_Mo_ones_10 : decode b_Mo_ones 10 = .ok (.iload_n 1, 1) := by decide +kernel
theorem d_Mo_ones_11 : decode b_Mo_ones 11 = .ok (.iload_n 0, 1) := by decide +kernel
theorem d_Mo_ones_12 : decode b_Mo_ones 12 = .ok (.iload_n 2, 1) := by decide +kernel
theorem d_Mo_ones_13 : decode b_Mo_ones 13 = .ok (.ishr, 1) := by decide +kernel
theorem d_Mo_ones_14 : decode b_Mo_ones 14 = .ok (.iconst 1, 1) := by decide +kernel
theorem d_Mo_ones_15 : decode b_Mo_ones 15 = .ok (.iand, 1) := by decide +kernel
theorem d_Mo_ones_16 : decode b_Mo_ones 16 = .ok (.iadd, 1) := by decide +kernel
theorem d_Mo_ones_17 : decode b_Mo_ones 17 = .ok (.istore_n 1, 1) := by decide +kernel
theorem d_Mo_ones_18 : decode b_Mo_ones 18 = .ok (.iinc 2 (1), 3) := by decide +kernel
theorem d_Mo_ones_21 : decode b_Mo_ones 21 = .ok (.goto (-17), 3) := by decide +kernel
theorem d_Mo_ones_24 : decode b_Mo_ones 24 = .ok (.iload_n 1, 1) := by decide +kernel
theorem d_Mo_ones_25 : decode b_Mo_ones 25 = .ok (.ireturn, 1) := by decide +kernel
theorem d_Mo_moved_0 : decode b_Mo_moved 0 = .ok (.iconst 0, 1) := by decide +kernel
theorem d_Mo_moved_1 : decode b_Mo_moved 1 = .ok (.istore 4, 2) := by decide +kernel
theorem d_Mo_moved_3 : decode b_Mo_moved 3 = .ok (.iconst 0, 1) := by decide +kernel
theorem d_Mo_moved_4 : decode b_Mo_moved 4 = .ok (.istore 5, 2) := by decide +kernel
theorem d_Mo_moved_6 : decode b_Mo_moved 6 = .ok (.iload 5, 2) := by decide +kernel
theorem d_Mo_moved_8 : decode b_Mo_moved 8 = .ok (.aload_n 0, 1) := by decide +kernel
theorem d_Mo_moved_9 : decode b_Mo_moved 9 = .ok (.getfield 7, 3) := by decide +kernel
theorem d_Mo_moved_12 : decode b_Mo_moved 12 = .ok (.iload_n 1, 1) := by decide +kernel
theorem d_Mo_moved_13 : decode b_Mo_moved 13 = .ok (.iaload, 1) := by decide +kernel
theorem d_Mo_moved_14 : decode b_Mo_moved 14 = .ok (.if_icmp .ge (47), 3) := by decide +kernel
theorem d_Mo_moved_17 : decode b_Mo_moved 17 = .ok (.iload 4, 2) := by decide +kernel
theorem d_Mo_moved_19 : decode b_Mo_moved 19 = .ok (.iload_n 2, 1) := by decide +kernel
theorem d_Mo_moved_20 : decode b_Mo_moved 20 = .ok (.iload 5, 2) := by decide +kernel
theorem d_Mo_moved_22 : decode b_Mo_moved 22 = .ok (.ishr, 1) := by decide +kernel
theorem d_Mo_moved_23 : decode b_Mo_moved 23 = .ok (.iconst 1, 1) := by decide +kernel
theorem d_Mo_moved_24 : decode b_Mo_moved 24 = .ok (.iand, 1) := by decide +kernel
theorem d_Mo_moved_25 : decode b_Mo_moved 25 = .ok (.iconst 1, 1) := by decide +kernel
theorem d_Mo_moved_26 : decode b_Mo_moved 26 = .ok (.if_icmp .ne (25), 3) := by decide +kernel
theorem d_Mo_moved_29 : decode b_Mo_moved 29 = .ok (.iconst 1, 1) := by decide +kernel
theorem d_Mo_moved_30 : decode b_Mo_moved 30 = .ok (.aload_n 0, 1) := by decide +kernel
theorem d_Mo_moved_31 : decode b_Mo_moved 31 = .ok (.getfield 16, 3) := by decide +kernel
theorem d_Mo_moved_34 : decode b_Mo_moved 34 = .ok (.sipush (160), 3) := by decide +kernel
theorem d_Mo_moved_37 : decode b_Mo_moved 37 = .ok (.iload_n 1, 1) := by decide +kernel
theorem d_Mo_moved_38 : decode b_Mo_moved 38 = .ok (.imul, 1) := by decide +kernel
theorem d_Mo_moved_39 : decode b_Mo_moved 39 = .ok (.iconst 4, 1) := by decide +kernel
theorem d_Mo_moved_40 : decode b_Mo_moved 40 = .ok (.iload 5, 2) := by decide +kernel
theorem d_Mo_moved_42 : decode b_Mo_moved 42 = .ok (.imul, 1) := by decide +kernel
theorem d_Mo_moved_43 : decode b_Mo_moved 43 = .ok (.iadd, 1) := by decide +kernel
theorem d_Mo_moved_44 : decode b_Mo_moved 44 = .ok (.iload_n 3, 1) := by decide +kernel
theorem d_Mo_moved_45 : decode b_Mo_moved 45 = .ok (.iadd, 1) := by decide +kernel
theorem d_Mo_moved_46 : decode b_Mo_moved 46 = .ok (.iaload, 1) := by decide +kernel
theorem d_Mo_moved_47 : decode b_Mo_moved 47 = .ok (.ishl, 1) := by decide +kernel
theorem d_Mo_moved_48 : decode b_Mo_moved 48 = .ok (.goto (4), 3) := by decide +kernel
theorem d_Mo_moved_51 : decode b_Mo_moved 51 = .ok (.iconst 0, 1) := by decide +kernel
theorem d_Mo_moved_52 : decode b_Mo_moved 52 = .ok (.ior, 1) := by decide +kernel
theorem d_Mo_moved_53 : decode b_Mo_moved 53 = .ok (.istore 4, 2) := by decide +kernel
theorem d_Mo_moved_55 : decode b_Mo_moved 55 = .ok (.iinc 5 (1), 3) := by decide +kernel
theorem d_Mo_moved_58 : decode b_Mo_moved 58 = .ok (.goto (-52), 3) := by decide +kernel
theorem d_Mo_moved_61 : decode b_Mo_moved 61 = .ok (.iload 4, 2) := by decide +kernel
theorem d_Mo_moved_63 : decode b_Mo_moved 63 = .ok (.ireturn, 1) := by decide +kernel
theorem d_Mo_reset_0 : decode b_Mo_reset 0 = .ok (.aload_n 0, 1) := by decide +kernel
theorem d_Mo_reset_1 : decode b_Mo_reset 1 = .ok (.iconst 0, 1) := by decide +kernel
theorem d_Mo_reset_2 : decode b_Mo_reset 2 = .ok (.putfield 53, 3) := by decide +kernel
theorem d_Mo_reset_5 : decode b_Mo_reset 5 = .ok (.aload_n 0, 1) := by decide +kernel
theorem d_Mo_reset_6 : decode b_Mo_reset 6 = .ok (.iload_n 1, 1) := by decide +kernel
theorem d_Mo_reset_7 : decode b_Mo_reset 7 = .ok (.invokevirtual 64, 3) := by decide +kernel
theorem d_Mo_reset_10 : decode b_Mo_reset 10 = .ok (.ifCond .eq (14), 3) := by decide +kernel
theorem d_Mo_reset_13 : decode b_Mo_reset 13 = .ok (.aload_n 0, 1) := by decide +kernel
theorem d_Mo_reset_14 : decode b_Mo_reset 14 = .ok (.getfield 7, 3) := by decide +kernel
theorem d_Mo_reset_17 : decode b_Mo_reset 17 = .ok (.iload_n 1, 1) := by decide +kernel
theorem d_Mo_reset_18 : decode b_Mo_reset 18 = .ok (.iaload, 1) := by decide +kernel
theorem d_Mo_reset_19 : decode b_Mo_reset 19 = .ok (.bipush (12), 2) := by decide +kernel
theorem d_Mo_reset_21 : decode b_Mo_reset 21 = .ok (.if_icmp .le (5), 3) := by decide +kernel
theorem d_Mo_reset_24 : decode b_Mo_reset 24 = .ok (.iconst (-1), 1) := by decide +kernel
theorem d_Mo_reset_25 : decode b_Mo_reset 25 = .ok (.ireturn, 1) := by decide +kernel
theorem d_Mo_reset_26 : decode b_Mo_reset 26 = .ok (.aload_n 0, 1) := by decide +kernel
theorem d_Mo_reset_27 : decode b_Mo_reset 27 = .ok (.iconst 1, 1) := by decide +kernel
theorem d_Mo_reset_28 : decode b_Mo_reset 28 = .ok (.aload_n 0, 1) := by decide +kernel
end
section
theorem d_Mo_reset_29 : decode b_Mo_reset 29 = .ok (.getfield 7, 3) := by decide +kernel
theorem d_Mo_reset_32 : decode b_Mo_reset 32 = .ok (.iload_n 1, 1) := by decide +kernel
theorem d_Mo_reset_33 : decode b_Mo_reset 33 = .ok (.iaload, 1) := by decide +kernel
theorem d_Mo_reset_34 : decode b_Mo_reset 34 = .ok (.ishl, 1) := by decide +kernel
theorem d_Mo_reset_35 : decode b_Mo_reset 35 = .ok (.iconst 1, 1) := by decide +kernel
theorem d_Mo_reset_36 : decode b_Mo_reset 36 = .ok (.isub, 1) := by decide +kernel
theorem d_Mo_reset_37 : decode b_Mo_reset 37 = .ok (.invokevirtual 97, 3) := by decide +kernel
theorem d_Mo_reset_40 : decode b_Mo_reset 40 = .ok (.iconst 0, 1) := by decide +kernel
theorem d_Mo_reset_41 : decode b_Mo_reset 41 = .ok (.istore_n 2, 1) := by decide +kernel
theorem d_Mo_reset_42 : decode b_Mo_reset 42 = .ok (.iload_n 2, 1) := by decide +kernel
theorem d_Mo_reset_43 : decode b_Mo_reset 43 = .ok (.aload_n 0, 1) := by decide +kernel
theorem d_Mo_reset_44 : decode b_Mo_reset 44 = .ok (.getfield 87, 3) := by decide +kernel
theorem d_Mo_reset_47 : decode b_Mo_reset 47 = .ok (.if_icmp .ge (69), 3) := by decide +kernel
theorem d_Mo_reset_50 : decode b_Mo_reset 50 = .ok (.aload_n 0, 1) := by decide +kernel
theorem d_Mo_reset_51 : decode b_Mo_reset 51 = .ok (.getfield 29, 3) := by decide +kernel
theorem d_Mo_reset_54 : decode b_Mo_reset 54 = .ok (.iload_n 2, 1) := by decide +kernel
theorem d_Mo_reset_55 : decode b_Mo_reset 55 = .ok (.iaload, 1) := by decide +kernel
theorem d_Mo_reset_56 : decode b_Mo_reset 56 = .ok (.invokestatic 110, 3) := by decide +kernel
theorem d_Mo_reset_59 : decode b_Mo_reset 59 = .ok (.iconst 1, 1) := by decide +kernel
theorem d_Mo_reset_60 : decode b_Mo_reset 60 = .ok (.if_icmp .ne (14), 3) := by decide +kernel
theorem d_Mo_reset_63 : decode b_Mo_reset 63 = .ok (.aload_n 0, 1) := by decide +kernel
theorem d_Mo_reset_64 : decode b_Mo_reset 64 = .ok (.iload_n 2, 1) := by decide +kernel
theorem d_Mo_reset_65 : decode b_Mo_reset 65 = .ok (.iconst (-1), 1) := by decide +kernel
theorem d_Mo_reset_66 : decode b_Mo_reset 66 = .ok (.invokevirtual 100, 3) := by decide +kernel
theorem d_Mo_reset_69 : decode b_Mo_reset 69 = .ok (.aload_n 0, 1) := by decide +kernel
theorem d_Mo_reset_70 : decode b_Mo_reset 70 = .ok (.getfield 94, 3) := by decide +kernel
theorem d_Mo_reset_73 : decode b_Mo_reset 73 = .ok (.ireturn, 1) := by decide +kernel
theorem d_Mo_reset_74 : decode b_Mo_reset 74 = .ok (.iconst 0, 1) := by decide +kernel
theorem d_Mo_reset_75 : decode b_Mo_reset 75 = .ok (.istore_n 3, 1) := by decide +kernel
theorem d_Mo_reset_76 : decode b_Mo_reset 76 = .ok (.iload_n 3, 1) := by decide +kernel
theorem d_Mo_reset_77 : decode b_Mo_reset 77 = .ok (.aload_n 0, 1) := by decide +kernel
theorem d_Mo_reset_78 : decode b_Mo_reset 78 = .ok (.getfield 13, 3) := by decide +kernel
theorem d_Mo_reset_81 : decode b_Mo_reset 81 = .ok (.iload_n 1, 1) := by decide +kernel
theorem d_Mo_reset_82 : decode b_Mo_reset 82 = .ok (.iaload, 1) := by decide +kernel
theorem d_Mo_reset_83 : decode b_Mo_reset 83 = .ok (.if_icmp .ge (27), 3) := by decide +kernel
theorem d_Mo_reset_86 : decode b_Mo_reset 86 = .ok (.aload_n 0, 1) := by decide +kernel
theorem d_Mo_reset_87 : decode b_Mo_reset 87 = .ok (.aload_n 0, 1) := by decide +kernel
theorem d_Mo_reset_88 : decode b_Mo_reset 88 = .ok (.iload_n 1, 1) := by decide +kernel
theorem d_Mo_reset_89 : decode b_Mo_reset 89 = .ok (.aload_n 0, 1) := by decide +kernel
theorem d_Mo_reset_90 : decode b_Mo_reset 90 = .ok (.getfield 29, 3) := by decide +kernel
theorem d_Mo_reset_93 : decode b_Mo_reset 93 = .ok (.iload_n 2, 1) := by decide +kernel
theorem d_Mo_reset_94 : decode b_Mo_reset 94 = .ok (.iaload, 1) := by decide +kernel
theorem d_Mo_reset_95 : decode b_Mo_reset 95 = .ok (.iload_n 3, 1) := by decide +kernel
theorem d_Mo_reset_96 : decode b_Mo_reset 96 = .ok (.invokevirtual 113, 3) := by decide +kernel
theorem d_Mo_reset_99 : decode b_Mo_reset 99 = .ok (.iload_n 2, 1) := by decide +kernel
theorem d_Mo_reset_100 : decode b_Mo_reset 100 = .ok (.iload_n 3, 1) := by decide +kernel
theorem d_Mo_reset_101 : decode b_Mo_reset 101 = .ok (.invokevirtual 90, 3) := by decide +kernel
theorem d_Mo_reset_104 : decode b_Mo_reset 104 = .ok (.iinc 3 (1), 3) := by decide +kernel
theorem d_Mo_reset_107 : decode b_Mo_reset 107 = .ok (.goto (-31), 3) := by decide +kernel
theorem d_Mo_reset_110 : decode b_Mo_reset 110 = .ok (.iinc 2 (1), 3) := by decide +kernel
theorem d_Mo_reset_113 : decode b_Mo_reset 113 = .ok (.goto (-71), 3) := by decide +kernel
theorem d_Mo_reset_116 : decode b_Mo_reset 116 = .ok (.iconst (-1), 1) := by decide +kernel
theorem d_Mo_reset_117 : decode b_Mo_reset 117 = .ok (.ireturn, 1) := by decide +kernel
theorem d_Mo_put_0 : decode b_Mo_put 0 = .ok (.bipush (12), 2) := by decide +kernel
theorem d_Mo_put_2 : decode b_Mo_put 2 = .ok (.iload_n 1, 1) := by decide +kernel
theorem d_Mo_put_3 : decode b_Mo_put 3 = .ok (.imul, 1) := by decide +kernel
theorem d_Mo_put_4 : decode b_Mo_put 4 = .ok (.istore_n 3, 1) := by decide +kernel
theorem d_Mo_put_5 : decode b_Mo_put 5 = .ok (.iconst 0, 1) := by decide +kernel
theorem d_Mo_put_6 : decode b_Mo_put 6 = .ok (.istore 4, 2) := by decide +kernel
theorem d_Mo_put_8 : decode b_Mo_put 8 = .ok (.iload 4, 2) := by decide +kernel
theorem d_Mo_put_10 : decode b_Mo_put 10 = .ok (.aload_n 0, 1) := by decide +kernel
theorem d_Mo_put_11 : decode b_Mo_put 11 = .ok (.getfield 41, 3) := by decide +kernel
theorem d_Mo_put_14 : decode b_Mo_put 14 = .ok (.iload_n 1, 1) := by decide +kernel
theorem d_Mo_put_15 : decode b_Mo_put 15 = .ok (.iaload, 1) := by decide +kernel
theorem d_Mo_put_16 : decode b_Mo_put 16 = .ok (.if_icmp .ge (26), 3) := by decide +kernel
theorem d_Mo_put_19 : decode b_Mo_put 19 = .ok (.iload_n 2, 1) := by decide +kernel
theorem d_Mo_put_20 : decode b_Mo_put 20 = .ok (.aload_n 0, 1) := by decide +kernel
theorem d_Mo_put_21 : decode b_Mo_put 21 = .ok (.getfield 44, 3) := by decide +kernel
theorem d_Mo_put_24 : decode b_Mo_put 24 = .ok (.iload_n 3, 1) := by decide +kernel
theorem d_Mo_put_25 : decode b_Mo_put 25 = .ok (.iload 4, 2) := by decide +kernel
theorem d_Mo_put_27 : decode b_Mo_put 27 = .ok (.iadd, 1) := by decide +kernel
theorem d_Mo_put_28 : decode b_Mo_put 28 = .ok (.iaload, 1) := by decide +kernel
theorem d_Mo_put_29 : decode b_Mo_put 29 = .ok (.iconst (-1), 1) := by decide +kernel
theorem d_Mo_put_30 : decode b_Mo_put 30 = .ok (.ixor, 1) := by decide +kernel
theorem d_Mo_put_31 : decode b_Mo_put 31 = .ok (.iand, 1) := by decide +kernel
theorem d_Mo_put_32 : decode b_Mo_put 32 = .ok (.ifCond .ne (4), 3) := by decide +kernel
theorem d_Mo_put_35 : decode b_Mo_put 35 = .ok (.return_, 1) := by decide +kernel
theorem d_Mo_put_36 : decode b_Mo_put 36 = .ok (.iinc 4 (1), 3) := by decide +kernel
theorem d_Mo_put_39 : decode b_Mo_put 39 = .ok (.goto (-31), 3) := by decide +kernel
theorem d_Mo_put_42 : decode b_Mo_put 42 = .ok (.iconst 0, 1) := by decide +kernel
theorem d_Mo_put_43 : decode b_Mo_put 43 = .ok (.istore 4, 2) := by decide +kernel
theorem d_Mo_put_45 : decode b_Mo_put 45 = .ok (.iconst 0, 1) := by decide +kernel
theorem d_Mo_put_46 : decode b_Mo_put 46 = .ok (.istore 5, 2) := by decide +kernel
theorem d_Mo_put_48 : decode b_Mo_put 48 = .ok (.iload 5, 2) := by decide +kernel
theorem d_Mo_put_50 : decode b_Mo_put 50 = .ok (.aload_n 0, 1) := by decide +kernel
theorem d_Mo_put_51 : decode b_Mo_put 51 = .ok (.getfield 41, 3) := by decide +kernel
theorem d_Mo_put_54 : decode b_Mo_put 54 = .ok (.iload_n 1, 1) := by decide +kernel
theorem d_Mo_put_55 : decode b_Mo_put 55 = .ok (.iaload, 1) := by decide +kernel
theorem d_Mo_put_56 : decode b_Mo_put 56 = .ok (.if_icmp .ge (49), 3) := by decide +kernel
theorem d_Mo_put_59 : decode b_Mo_put 59 = .ok (.aload_n 0, 1) := by decide +kernel
theorem d_Mo_put_60 : decode b_Mo_put 60 = .ok (.getfield 44, 3) := by decide +kernel
theorem d_Mo_put_63 : decode b_Mo_put 63 = .ok (.iload_n 3, 1) := by decide +kernel
theorem d_Mo_put_64 : decode b_Mo_put 64 = .ok (.iload 5, 2) := by decide +kernel
theorem d_Mo_put_66 : decode b_Mo_put 66 = .ok (.iadd, 1) := by decide +kernel
theorem d_Mo_put_67 : decode b_Mo_put 67 = .ok (.iaload, 1) := by decide +kernel
theorem d_Mo_put_68 : decode b_Mo_put 68 = .ok (.iload_n 2, 1) := by decide +kernel
theorem d_Mo_put_69 : decode b_Mo_put 69 = .ok (.iconst (-1), 1) := by decide +kernel
theorem d_Mo_put_70 : decode b_Mo_put 70 = .ok (.ixor, 1) := by decide +kernel
theorem d_Mo_put_71 : decode b_Mo_put 71 = .ok (.iand, 1) := by decide +kernel
theorem d_Mo_put_72 : decode b_Mo_put 72 = .ok (.ifCond .ne (6), 3) := by decide +kernel
theorem d_Mo_put_75 : decode b_Mo_put 75 = .ok (.goto (24), 3) := by decide +kernel
theorem d_Mo_put_78 : decode b_Mo_put 78 = .ok (.aload_n 0, 1) := by decide +kernel
theorem d_Mo_put_79 : decode b_Mo_put 79 = .ok (.getfield 44, 3) := by decide +kernel
theorem d_Mo_put_82 : decode b_Mo_put 82 = .ok (.iload_n 3, 1) := by decide +kernel
theorem d_Mo_put_83 : decode b_Mo_put 83 = .ok (.iload 4, 2) := by decide +kernel
theorem d_Mo_put_85 : decode b_Mo_put 85 = .ok (.iadd, 1) := by decide +kernel
theorem d_Mo_put_86 : decode b_Mo_put 86 = .ok (.aload_n 0, 1) := by decide +kernel
theorem d_Mo_put_87 : decode b_Mo_put 87 = .ok (.getfield 44, 3) := by decide +kernel
theorem d_Mo_put_90 : decode b_Mo_put 90 = .ok (.iload_n 3, 1) := by decide +kernel
theorem d_Mo_put_91 : decode b_Mo_put 91 = .ok (.iload 5, 2) := by decide +kernel
theorem d_Mo_put_93 : decode b_Mo_put 93 = .ok (.iadd, 1) := by decide +kernel
theorem d_Mo_put_94 : decode b_Mo_put 94 = .ok (.iaload, 1) := by decide +kernel
theorem d_Mo_put_95 : decode b_Mo_put 95 = .ok (.iastore, 1) := by decide +kernel
theorem d_Mo_put_96 : decode b_Mo_put 96 = .ok (.iinc 4 (1), 3) := by decide +kernel
theorem d_Mo_put_99 : decode b_Mo_put 99 = .ok (.iinc 5 (1), 3) := by decide +kernel
theorem d_Mo_put_102 : decode b_Mo_put 102 = .ok (.goto (-54), 3) := by decide +kernel
theorem d_Mo_put_105 : decode b_Mo_put 105 = .ok (.iload 4, 2) := by decide +kernel
theorem d_Mo_put_107 : decode b_Mo_put 107 = .ok (.istore 5, 2) := by decide +kernel
theorem d_Mo_put_109 : decode b_Mo_put 109 = .ok (.iload 5, 2) := by decide +kernel
theorem d_Mo_put_111 : decode b_Mo_put 111 = .ok (.ifCond .le (44), 3) := by decide +kernel
theorem d_Mo_put_114 : decode b_Mo_put 114 = .ok (.aload_n 0, 1) := by decide +kernel
theorem d_Mo_put_115 : decode b_Mo_put 115 = .ok (.getfield 44, 3) := by decide +kernel
theorem d_Mo_put_118 : decode b_Mo_put 118 = .ok (.iload_n 3, 1) := by decide +kernel
theorem d_Mo_put_119 : decode b_Mo_put 119 = .ok (.iload 5, 2) := by decide +kernel
theorem d_Mo_put_121 : decode b_Mo_put 121 = .ok (.iadd, 1) := by decide +kernel
theorem d_Mo_put_122 : decode b_Mo_put 122 = .ok (.iconst 1, 1) := by decide +kernel
theorem d_Mo_put_123 : decode b_Mo_put 123 = .ok (.isub, 1) := by decide +kernel
theorem d_Mo_put_124 : decode b_Mo_put 124 = .ok (.iaload, 1) := by decide +kernel
theorem d_Mo_put_125 : decode b_Mo_put 125 = .ok (.iload_n 2, 1) := by decide +kernel
theorem d_Mo_put_126 : decode b_Mo_put 126 = .ok (.if_icmp .le (29), 3) := by decide +kernel
theorem d_Mo_put_129 : decode b_Mo_put 129 = .ok (.aload_n 0, 1) := by decide +kernel
theorem d_Mo_put_130 : decode b_Mo_put 130 = .ok (.getfield 44, 3) := by decide +kernel
theorem d_Mo_put_133 : decode b_Mo_put 133 = .ok (.iload_n 3, 1) := by decide +kernel
theorem d_Mo_put_134 : decode b_Mo_put 134 = .ok (.iload 5, 2) := by decide +kernel
theorem d_Mo_put_136 : decode b_Mo_put 136 = .ok (.iadd, 1) := by decide +kernel
theorem d_Mo_put_137 : decode b_Mo_put 137 = .ok (.aload_n 0, 1) := by decide +kernel
theorem d_Mo_put_138 : decode b_Mo_put 138 = .ok (.getfield 44, 3) := by decide +kernel
theorem d_Mo_put_141 : decode b_Mo_put 141 = .ok (.iload_n 3, 1) := by decide +kernel
theorem d_Mo_put_142 : decode b_Mo_put 142 = .ok (.iload 5, 2) := by decide +kernel
theorem d_Mo_put_144 : decode b_Mo_put 144 = .ok (.iadd, 1) := by decide +kernel
theorem d_Mo_put_145 : decode b_Mo_put 145 = .ok (.iconst 1, 1) := by decide +kernel
theorem d_Mo_put_146 : decode b_Mo_put 146 = .ok (.isub, 1) := by decide +kernel
theorem d_Mo_put_147 : decode b_Mo_put 147 = .ok (.iaload, 1) := by decide +kernel
theorem d_Mo_put_148 : decode b_Mo_put 148 = .ok (.iastore, 1) := by decide +kernel
theorem d_Mo_put_149 : decode b_Mo_put 149 = .ok (.iinc 5 (-1), 3) := by decide +kernel
theorem d_Mo_put_152 : decode b_Mo_put 152 = .ok (.goto (-43), 3) := by decide +kernel
theorem d_Mo_put_155 : decode b_Mo_put 155 = .ok (.aload_n 0, 1) := by decide +kernel
theorem d_Mo_put_156 : decode b_Mo_put 156 = .ok (.getfield 44, 3) := by decide +kernel
theorem d_Mo_put_159 : decode b_Mo_put 159 = .ok (.iload_n 3, 1) := by decide +kernel
theorem d_Mo_put_160 : decode b_Mo_put 160 = .ok (.iload 5, 2) := by decide +kernel
theorem d_Mo_put_162 : decode b_Mo_put 162 = .ok (.iadd, 1) := by decide +kernel
theorem d_Mo_put_163 : decode b_Mo_put 163 = .ok (.iload_n 2, 1) := by decide +kernel
theorem d_Mo_put_164 : decode b_Mo_put 164 = .ok (.iastore, 1) := by decide +kernel
theorem d_Mo_put_165 : decode b_Mo_put 165 = .ok (.aload_n 0, 1) := by decide +kernel
theorem d_Mo_put_166 : decode b_Mo_put 166 = .ok (.getfield 41, 3) := by decide +kernel
theorem d_Mo_put_169 : decode b_Mo_put 169 = .ok (.iload_n 1, 1) := by decide +kernel
theorem d_Mo_put_170 : decode b_Mo_put 170 = .ok (.iload 4, 2) := by decide +kernel
theorem d_Mo_put_172 : decode b_Mo_put 172 = .ok (.iconst 1, 1) := by decide +kernel
theorem d_Mo_put_173 : decode b_Mo_put 173 = .ok (.iadd, 1) := by decide +kernel
theorem d_Mo_put_174 : decode b_Mo_put 174 = .ok (.iastore, 1) := by decide +kernel
theorem d_Mo_put_175 : decode b_Mo_put 175 = .ok (.return_, 1) := by decide +kernel
theorem d_Mo_lead_0 : decode b_Mo_lead 0 = .ok (.aload_n 0, 1) := by decide +kernel
theorem d_Mo_lead_1 : decode b_Mo_lead 1 = .ok (.getfield 41, 3) := by decide +kernel
theorem d_Mo_lead_4 : decode b_Mo_lead 4 = .ok (.iload 4, 2) := by decide +kernel
theorem d_Mo_lead_6 : decode b_Mo_lead 6 = .ok (.iconst 0, 1) := by decide +kernel
theorem d_Mo_lead_7 : decode b_Mo_lead 7 = .ok (.iastore, 1) := by decide +kernel
theorem d_Mo_lead_8 : decode b_Mo_lead 8 = .ok (.iconst 0, 1) := by decide +kernel
theorem d_Mo_lead_9 : decode b_Mo_lead 9 = .ok (.istore 5, 2) := by decide +kernel
theorem d_Mo_lead_11 : decode b_Mo_lead 11 = .ok (.iload 5, 2) := by decide +kernel
theorem d_Mo_lead_13 : decode b_Mo_lead 13 = .ok (.aload_n 0, 1) := by decide +kernel
theorem d_Mo_lead_14 : decode b_Mo_lead 14 = .ok (.getfield 41, 3) := by decide +kernel
theorem d_Mo_lead_17 : decode b_Mo_lead 17 = .ok (.iload_n 2, 1) := by decide +kernel
theorem d_Mo_lead_18 : decode b_Mo_lead 18 = .ok (.iaload, 1) := by decide +kernel
theorem d_Mo_lead_19 : decode b_Mo_lead 19 = .ok (.if_icmp .ge (126), 3) := by decide +kernel
theorem d_Mo_lead_22 : decode b_Mo_lead 22 = .ok (.iconst 0, 1) := by decide +kernel
theorem d_Mo_lead_23 : decode b_Mo_lead 23 = .ok (.istore 6, 2) := by decide +kernel
theorem d_Mo_lead_25 : decode b_Mo_lead 25 = .ok (.iload 6, 2) := by decide +kernel
theorem d_Mo_lead_27 : decode b_Mo_lead 27 = .ok (.bipush (10), 2) := by decide +kernel
theorem d_Mo_lead_29 : decode b_Mo_lead 29 = .ok (.if_icmp .ge (110), 3) := by decide +kernel
theorem d_Mo_lead_32 : decode b_Mo_lead 32 = .ok (.iconst 0, 1) := by decide +kernel
theorem d_Mo_lead_33 : decode b_Mo_lead 33 = .ok (.istore 7, 2) := by decide +kernel
theorem d_Mo_lead_35 : decode b_Mo_lead 35 = .ok (.iconst 0, 1) := by decide +kernel
theorem d_Mo_lead_36 : decode b_Mo_lead 36 = .ok (.istore 8, 2) := by decide +kernel
theorem d_Mo_lead_38 : decode b_Mo_lead 38 = .ok (.iload 8, 2) := by decide +kernel
theorem d_Mo_lead_40 : decode b_Mo_lead 40 = .ok (.aload_n 0, 1) := by decide +kernel
theorem d_Mo_lead_41 : decode b_Mo_lead 41 = .ok (.getfield 7, 3) := by decide +kernel
theorem d_Mo_lead_44 : decode b_Mo_lead 44 = .ok (.iload_n 1, 1) := by decide +kernel
theorem d_Mo_lead_45 : decode b_Mo_lead 45 = .ok (.iaload, 1) := by decide +kernel
theorem d_Mo_lead_46 : decode b_Mo_lead 46 = .ok (.if_icmp .ge (74), 3) := by decide +kernel
theorem d_Mo_lead_49 : decode b_Mo_lead 49 = .ok (.sipush (160), 3) := by decide +kernel
theorem d_Mo_lead_52 : decode b_Mo_lead 52 = .ok (.iload_n 1, 1) := by decide +kernel
theorem d_Mo_lead_53 : decode b_Mo_lead 53 = .ok (.imul, 1) := by decide +kernel
theorem d_Mo_lead_54 : decode b_Mo_lead 54 = .ok (.iconst 4, 1) := by decide +kernel
theorem d_Mo_lead_55 : decode b_Mo_lead 55 = .ok (.iload 8, 2) := by decide +kernel
theorem d_Mo_lead_57 : decode b_Mo_lead 57 = .ok (.imul, 1) := by decide +kernel
theorem d_Mo_lead_58 : decode b_Mo_lead 58 = .ok (.iadd, 1) := by decide +kernel
theorem d_Mo_lead_59 : decode b_Mo_lead 59 = .ok (.iload_n 3, 1) := by decide +kernel
theorem d_Mo_lead_60 : decode b_Mo_lead 60 = .ok (.iadd, 1) := by decide +kernel
theorem d_Mo_lead_61 : decode b_Mo_lead 61 = .ok (.istore 9, 2) := by decide +kernel
theorem d_Mo_lead_63 : decode b_Mo_lead 63 = .ok (.aload_n 0, 1) := by decide +kernel
end
section
theorem d_Mo_lead_64 : decode b_Mo_lead 64 = .ok (.getfield 44, 3) := by decide +kernel
theorem d_Mo_lead_67 : decode b_Mo_lead 67 = .ok (.bipush (12), 2) := by decide +kernel
theorem d_Mo_lead_69 : decode b_Mo_lead 69 = .ok (.iload_n 2, 1) := by decide +kernel
theorem d_Mo_lead_70 : decode b_Mo_lead 70 = .ok (.imul, 1) := by decide +kernel
theorem d_Mo_lead_71 : decode b_Mo_lead 71 = .ok (.iload 5, 2) := by decide +kernel
theorem d_Mo_lead_73 : decode b_Mo_lead 73 = .ok (.iadd, 1) := by decide +kernel
theorem d_Mo_lead_74 : decode b_Mo_lead 74 = .ok (.iaload, 1) := by decide +kernel
theorem d_Mo_lead_75 : decode b_Mo_lead 75 = .ok (.iload 8, 2) := by decide +kernel
theorem d_Mo_lead_77 : decode b_Mo_lead 77 = .ok (.ishr, 1) := by decide +kernel
theorem d_Mo_lead_78 : decode b_Mo_lead 78 = .ok (.iconst 1, 1) := by decide +kernel
theorem d_Mo_lead_79 : decode b_Mo_lead 79 = .ok (.iand, 1) := by decide +kernel
theorem d_Mo_lead_80 : decode b_Mo_lead 80 = .ok (.iconst 1, 1) := by decide +kernel
theorem d_Mo_lead_81 : decode b_Mo_lead 81 = .ok (.if_icmp .ne (33), 3) := by decide +kernel
theorem d_Mo_lead_84 : decode b_Mo_lead 84 = .ok (.aload_n 0, 1) := by decide +kernel
theorem d_Mo_lead_85 : decode b_Mo_lead 85 = .ok (.getfield 19, 3) := by decide +kernel
theorem d_Mo_lead_88 : decode b_Mo_lead 88 = .ok (.iload 9, 2) := by decide +kernel
theorem d_Mo_lead_90 : decode b_Mo_lead 90 = .ok (.iaload, 1) := by decide +kernel
theorem d_Mo_lead_91 : decode b_Mo_lead 91 = .ok (.iload 6, 2) := by decide +kernel
theorem d_Mo_lead_93 : decode b_Mo_lead 93 = .ok (.if_icmp .ne (21), 3) := by decide +kernel
theorem d_Mo_lead_96 : decode b_Mo_lead 96 = .ok (.iload 7, 2) := by decide +kernel
theorem d_Mo_lead_98 : decode b_Mo_lead 98 = .ok (.iconst 1, 1) := by decide +kernel
theorem d_Mo_lead_99 : decode b_Mo_lead 99 = .ok (.aload_n 0, 1) := by decide +kernel
theorem d_Mo_lead_100 : decode b_Mo_lead 100 = .ok (.aload_n 0, 1) := by decide +kernel
theorem d_Mo_lead_101 : decode b_Mo_lead 101 = .ok (.getfield 16, 3) := by decide +kernel
theorem d_Mo_lead_104 : decode b_Mo_lead 104 = .ok (.iload 9, 2) := by decide +kernel
theorem d_Mo_lead_106 : decode b_Mo_lead 106 = .ok (.iaload, 1) := by decide +kernel
theorem d_Mo_lead_107 : decode b_Mo_lead 107 = .ok (.invokevirtual 83, 3) := by decide +kernel
theorem d_Mo_lead_110 : decode b_Mo_lead 110 = .ok (.ishl, 1) := by decide +kernel
theorem d_Mo_lead_111 : decode b_Mo_lead 111 = .ok (.ior, 1) := by decide +kernel
theorem d_Mo_lead_112 : decode b_Mo_lead 112 = .ok (.istore 7, 2) := by decide +kernel
theorem d_Mo_lead_114 : decode b_Mo_lead 114 = .ok (.iinc 8 (1), 3) := by decide +kernel
theorem d_Mo_lead_117 : decode b_Mo_lead 117 = .ok (.goto (-79), 3) := by decide +kernel
theorem d_Mo_lead_120 : decode b_Mo_lead 120 = .ok (.iload 7, 2) := by decide +kernel
theorem d_Mo_lead_122 : decode b_Mo_lead 122 = .ok (.ifCond .eq (11), 3) := by decide +kernel
theorem d_Mo_lead_125 : decode b_Mo_lead 125 = .ok (.aload_n 0, 1) := by decide +kernel
theorem d_Mo_lead_126 : decode b_Mo_lead 126 = .ok (.iload 4, 2) := by decide +kernel
theorem d_Mo_lead_128 : decode b_Mo_lead 128 = .ok (.iload 7, 2) := by decide +kernel
theorem d_Mo_lead_130 : decode b_Mo_lead 130 = .ok (.invokevirtual 117, 3) := by decide +kernel
theorem d_Mo_lead_133 : decode b_Mo_lead 133 = .ok (.iinc 6 (1), 3) := by decide +kernel
theorem d_Mo_lead_136 : decode b_Mo_lead 136 = .ok (.goto (-111), 3) := by decide +kernel
theorem d_Mo_lead_139 : decode b_Mo_lead 139 = .ok (.iinc 5 (1), 3) := by decide +kernel
theorem d_Mo_lead_142 : decode b_Mo_lead 142 = .ok (.goto (-131), 3) := by decide +kernel
theorem d_Mo_lead_145 : decode b_Mo_lead 145 = .ok (.return_, 1) := by decide +kernel
theorem d_Mo_isHome_0 : decode b_Mo_isHome 0 = .ok (.iconst 0, 1) := by decide +kernel
theorem d_Mo_isHome_1 : decode b_Mo_isHome 1 = .ok (.istore_n 2, 1) := by decide +kernel
theorem d_Mo_isHome_2 : decode b_Mo_isHome 2 = .ok (.iload_n 2, 1) := by decide +kernel
theorem d_Mo_isHome_3 : decode b_Mo_isHome 3 = .ok (.aload_n 0, 1) := by decide +kernel
theorem d_Mo_isHome_4 : decode b_Mo_isHome 4 = .ok (.getfield 41, 3) := by decide +kernel
theorem d_Mo_isHome_7 : decode b_Mo_isHome 7 = .ok (.iload_n 1, 1) := by decide +kernel
theorem d_Mo_isHome_8 : decode b_Mo_isHome 8 = .ok (.iaload, 1) := by decide +kernel
theorem d_Mo_isHome_9 : decode b_Mo_isHome 9 = .ok (.if_icmp .ge (29), 3) := by decide +kernel
theorem d_Mo_isHome_12 : decode b_Mo_isHome 12 = .ok (.aload_n 0, 1) := by decide +kernel
theorem d_Mo_isHome_13 : decode b_Mo_isHome 13 = .ok (.getfield 44, 3) := by decide +kernel
theorem d_Mo_isHome_16 : decode b_Mo_isHome 16 = .ok (.bipush (12), 2) := by decide +kernel
theorem d_Mo_isHome_18 : decode b_Mo_isHome 18 = .ok (.iload_n 1, 1) := by decide +kernel
theorem d_Mo_isHome_19 : decode b_Mo_isHome 19 = .ok (.imul, 1) := by decide +kernel
theorem d_Mo_isHome_20 : decode b_Mo_isHome 20 = .ok (.iload_n 2, 1) := by decide +kernel
theorem d_Mo_isHome_21 : decode b_Mo_isHome 21 = .ok (.iadd, 1) := by decide +kernel
theorem d_Mo_isHome_22 : decode b_Mo_isHome 22 = .ok (.iaload, 1) := by decide +kernel
theorem d_Mo_isHome_23 : decode b_Mo_isHome 23 = .ok (.invokestatic 110, 3) := by decide +kernel
theorem d_Mo_isHome_26 : decode b_Mo_isHome 26 = .ok (.iconst 1, 1) := by decide +kernel
theorem d_Mo_isHome_27 : decode b_Mo_isHome 27 = .ok (.if_icmp .le (5), 3) := by decide +kernel
theorem d_Mo_isHome_30 : decode b_Mo_isHome 30 = .ok (.iconst 0, 1) := by decide +kernel
theorem d_Mo_isHome_31 : decode b_Mo_isHome 31 = .ok (.ireturn, 1) := by decide +kernel
theorem d_Mo_isHome_32 : decode b_Mo_isHome 32 = .ok (.iinc 2 (1), 3) := by decide +kernel
theorem d_Mo_isHome_35 : decode b_Mo_isHome 35 = .ok (.goto (-33), 3) := by decide +kernel
theorem d_Mo_isHome_38 : decode b_Mo_isHome 38 = .ok (.iconst 1, 1) := by decide +kernel
theorem d_Mo_isHome_39 : decode b_Mo_isHome 39 = .ok (.ireturn, 1) := by decide +kernel
theorem d_Mo_isTried_0 : decode b_Mo_isTried 0 = .ok (.iconst 0, 1) := by decide +kernel
theorem d_Mo_isTried_1 : decode b_Mo_isTried 1 = .ok (.istore_n 2, 1) := by decide +kernel
theorem d_Mo_isTried_2 : decode b_Mo_isTried 2 = .ok (.iload_n 2, 1) := by decide +kernel
theorem d_Mo_isTried_3 : decode b_Mo_isTried 3 = .ok (.iload_n 1, 1) := by decide +kernel
theorem d_Mo_isTried_4 : decode b_Mo_isTried 4 = .ok (.if_icmp .ge (93), 3) := by decide +kernel
theorem d_Mo_isTried_7 : decode b_Mo_isTried 7 = .ok (.aload_n 0, 1) := by decide +kernel
theorem d_Mo_isTried_8 : decode b_Mo_isTried 8 = .ok (.getfield 41, 3) := by decide +kernel
theorem d_Mo_isTried_11 : decode b_Mo_isTried 11 = .ok (.iload_n 2, 1) := by decide +kernel
theorem d_Mo_isTried_12 : decode b_Mo_isTried 12 = .ok (.iaload, 1) := by decide +kernel
theorem d_Mo_isTried_13 : decode b_Mo_isTried 13 = .ok (.aload_n 0, 1) := by decide +kernel
theorem d_Mo_isTried_14 : decode b_Mo_isTried 14 = .ok (.getfield 41, 3) := by decide +kernel
theorem d_Mo_isTried_17 : decode b_Mo_isTried 17 = .ok (.iload_n 1, 1) := by decide +kernel
theorem d_Mo_isTried_18 : decode b_Mo_isTried 18 = .ok (.iaload, 1) := by decide +kernel
theorem d_Mo_isTried_19 : decode b_Mo_isTried 19 = .ok (.if_icmp .ne (7), 3) := by decide +kernel
theorem d_Mo_isTried_22 : decode b_Mo_isTried 22 = .ok (.iconst 1, 1) := by decide +kernel
theorem d_Mo_isTried_23 : decode b_Mo_isTried 23 = .ok (.goto (4), 3) := by decide +kernel
theorem d_Mo_isTried_26 : decode b_Mo_isTried 26 = .ok (.iconst 0, 1) := by decide +kernel
theorem d_Mo_isTried_27 : decode b_Mo_isTried 27 = .ok (.istore_n 3, 1) := by decide +kernel
theorem d_Mo_isTried_28 : decode b_Mo_isTried 28 = .ok (.iconst 0, 1) := by decide +kernel
theorem d_Mo_isTried_29 : decode b_Mo_isTried 29 = .ok (.istore 4, 2) := by decide +kernel
theorem d_Mo_isTried_31 : decode b_Mo_isTried 31 = .ok (.iload_n 3, 1) := by decide +kernel
theorem d_Mo_isTried_32 : decode b_Mo_isTried 32 = .ok (.ifCond .eq (53), 3) := by decide +kernel
theorem d_Mo_isTried_35 : decode b_Mo_isTried 35 = .ok (.iload 4, 2) := by decide +kernel
theorem d_Mo_isTried_37 : decode b_Mo_isTried 37 = .ok (.aload_n 0, 1) := by decide +kernel
theorem d_Mo_isTried_38 : decode b_Mo_isTried 38 = .ok (.getfield 41, 3) := by decide +kernel
theorem d_Mo_isTried_41 : decode b_Mo_isTried 41 = .ok (.iload_n 1, 1) := by decide +kernel
theorem d_Mo_isTried_42 : decode b_Mo_isTried 42 = .ok (.iaload, 1) := by decide +kernel
theorem d_Mo_isTried_43 : decode b_Mo_isTried 43 = .ok (.if_icmp .ge (42), 3) := by decide +kernel
theorem d_Mo_isTried_46 : decode b_Mo_isTried 46 = .ok (.aload_n 0, 1) := by decide +kernel
theorem d_Mo_isTried_47 : decode b_Mo_isTried 47 = .ok (.getfield 44, 3) := by decide +kernel
theorem d_Mo_isTried_50 : decode b_Mo_isTried 50 = .ok (.bipush (12), 2) := by decide +kernel
theorem d_Mo_isTried_52 : decode b_Mo_isTried 52 = .ok (.iload_n 2, 1) := by decide +kernel
theorem d_Mo_isTried_53 : decode b_Mo_isTried 53 = .ok (.imul, 1) := by decide +kernel
theorem d_Mo_isTried_54 : decode b_Mo_isTried 54 = .ok (.iload 4, 2) := by decide +kernel
theorem d_Mo_isTried_56 : decode b_Mo_isTried 56 = .ok (.iadd, 1) := by decide +kernel
theorem d_Mo_isTried_57 : decode b_Mo_isTried 57 = .ok (.iaload, 1) := by decide +kernel
theorem d_Mo_isTried_58 : decode b_Mo_isTried 58 = .ok (.aload_n 0, 1) := by decide +kernel
theorem d_Mo_isTried_59 : decode b_Mo_isTried 59 = .ok (.getfield 44, 3) := by decide +kernel
theorem d_Mo_isTried_62 : decode b_Mo_isTried 62 = .ok (.bipush (12), 2) := by decide +kernel
theorem d_Mo_isTried_64 : decode b_Mo_isTried 64 = .ok (.iload_n 1, 1) := by decide +kernel
theorem d_Mo_isTried_65 : decode b_Mo_isTried 65 = .ok (.imul, 1) := by decide +kernel
theorem d_Mo_isTried_66 : decode b_Mo_isTried 66 = .ok (.iload 4, 2) := by decide +kernel
theorem d_Mo_isTried_68 : decode b_Mo_isTried 68 = .ok (.iadd, 1) := by decide +kernel
theorem d_Mo_isTried_69 : decode b_Mo_isTried 69 = .ok (.iaload, 1) := by decide +kernel
theorem d_Mo_isTried_70 : decode b_Mo_isTried 70 = .ok (.if_icmp .ne (7), 3) := by decide +kernel
theorem d_Mo_isTried_73 : decode b_Mo_isTried 73 = .ok (.iconst 1, 1) := by decide +kernel
theorem d_Mo_isTried_74 : decode b_Mo_isTried 74 = .ok (.goto (4), 3) := by decide +kernel
theorem d_Mo_isTried_77 : decode b_Mo_isTried 77 = .ok (.iconst 0, 1) := by decide +kernel
theorem d_Mo_isTried_78 : decode b_Mo_isTried 78 = .ok (.istore_n 3, 1) := by decide +kernel
theorem d_Mo_isTried_79 : decode b_Mo_isTried 79 = .ok (.iinc 4 (1), 3) := by decide +kernel
theorem d_Mo_isTried_82 : decode b_Mo_isTried 82 = .ok (.goto (-51), 3) := by decide +kernel
theorem d_Mo_isTried_85 : decode b_Mo_isTried 85 = .ok (.iload_n 3, 1) := by decide +kernel
theorem d_Mo_isTried_86 : decode b_Mo_isTried 86 = .ok (.ifCond .eq (5), 3) := by decide +kernel
theorem d_Mo_isTried_89 : decode b_Mo_isTried 89 = .ok (.iconst 1, 1) := by decide +kernel
theorem d_Mo_isTried_90 : decode b_Mo_isTried 90 = .ok (.ireturn, 1) := by decide +kernel
theorem d_Mo_isTried_91 : decode b_Mo_isTried 91 = .ok (.iinc 2 (1), 3) := by decide +kernel
theorem d_Mo_isTried_94 : decode b_Mo_isTried 94 = .ok (.goto (-92), 3) := by decide +kernel
theorem d_Mo_isTried_97 : decode b_Mo_isTried 97 = .ok (.iconst 0, 1) := by decide +kernel
theorem d_Mo_isTried_98 : decode b_Mo_isTried 98 = .ok (.ireturn, 1) := by decide +kernel
theorem d_Mo_told_0 : decode b_Mo_told 0 = .ok (.aload_n 0, 1) := by decide +kernel
theorem d_Mo_told_1 : decode b_Mo_told 1 = .ok (.iconst 0, 1) := by decide +kernel
theorem d_Mo_told_2 : decode b_Mo_told 2 = .ok (.putfield 94, 3) := by decide +kernel
theorem d_Mo_told_5 : decode b_Mo_told 5 = .ok (.iload_n 1, 1) := by decide +kernel
theorem d_Mo_told_6 : decode b_Mo_told 6 = .ok (.istore_n 2, 1) := by decide +kernel
theorem d_Mo_told_7 : decode b_Mo_told 7 = .ok (.aload_n 0, 1) := by decide +kernel
theorem d_Mo_told_8 : decode b_Mo_told 8 = .ok (.getfield 47, 3) := by decide +kernel
theorem d_Mo_told_11 : decode b_Mo_told 11 = .ok (.iload_n 2, 1) := by decide +kernel
theorem d_Mo_told_12 : decode b_Mo_told 12 = .ok (.iaload, 1) := by decide +kernel
theorem d_Mo_told_13 : decode b_Mo_told 13 = .ok (.iconst (-1), 1) := by decide +kernel
theorem d_Mo_told_14 : decode b_Mo_told 14 = .ok (.if_icmp .eq (23), 3) := by decide +kernel
theorem d_Mo_told_17 : decode b_Mo_told 17 = .ok (.aload_n 0, 1) := by decide +kernel
theorem d_Mo_told_18 : decode b_Mo_told 18 = .ok (.dup, 1) := by decide +kernel
theorem d_Mo_told_19 : decode b_Mo_told 19 = .ok (.getfield 94, 3) := by decide +kernel
theorem d_Mo_told_22 : decode b_Mo_told 22 = .ok (.iconst 1, 1) := by decide +kernel
theorem d_Mo_told_23 : decode b_Mo_told 23 = .ok (.iadd, 1) := by decide +kernel
theorem d_Mo_told_24 : decode b_Mo_told 24 = .ok (.putfield 94, 3) := by decide +kernel
theorem d_Mo_told_27 : decode b_Mo_told 27 = .ok (.aload_n 0, 1) := by decide +kernel
theorem d_Mo_told_28 : decode b_Mo_told 28 = .ok (.getfield 47, 3) := by decide +kernel
theorem d_Mo_told_31 : decode b_Mo_told 31 = .ok (.iload_n 2, 1) := by decide +kernel
theorem d_Mo_told_32 : decode b_Mo_told 32 = .ok (.iaload, 1) := by decide +kernel
theorem d_Mo_told_33 : decode b_Mo_told 33 = .ok (.istore_n 2, 1) := by decide +kernel
theorem d_Mo_told_34 : decode b_Mo_told 34 = .ok (.goto (-27), 3) := by decide +kernel
theorem d_Mo_told_37 : decode b_Mo_told 37 = .ok (.aload_n 0, 1) := by decide +kernel
theorem d_Mo_told_38 : decode b_Mo_told 38 = .ok (.getfield 94, 3) := by decide +kernel
theorem d_Mo_told_41 : decode b_Mo_told 41 = .ok (.istore_n 2, 1) := by decide +kernel
theorem d_Mo_told_42 : decode b_Mo_told 42 = .ok (.iload_n 1, 1) := by decide +kernel
theorem d_Mo_told_43 : decode b_Mo_told 43 = .ok (.istore_n 3, 1) := by decide +kernel
theorem d_Mo_told_44 : decode b_Mo_told 44 = .ok (.aload_n 0, 1) := by decide +kernel
theorem d_Mo_told_45 : decode b_Mo_told 45 = .ok (.getfield 47, 3) := by decide +kernel
theorem d_Mo_told_48 : decode b_Mo_told 48 = .ok (.iload_n 3, 1) := by decide +kernel
theorem d_Mo_told_49 : decode b_Mo_told 49 = .ok (.iaload, 1) := by decide +kernel
theorem d_Mo_told_50 : decode b_Mo_told 50 = .ok (.iconst (-1), 1) := by decide +kernel
theorem d_Mo_told_51 : decode b_Mo_told 51 = .ok (.if_icmp .eq (28), 3) := by decide +kernel
theorem d_Mo_told_54 : decode b_Mo_told 54 = .ok (.iinc 2 (-1), 3) := by decide +kernel
theorem d_Mo_told_57 : decode b_Mo_told 57 = .ok (.aload_n 0, 1) := by decide +kernel
theorem d_Mo_told_58 : decode b_Mo_told 58 = .ok (.getfield 22, 3) := by decide +kernel
theorem d_Mo_told_61 : decode b_Mo_told 61 = .ok (.iload_n 2, 1) := by decide +kernel
theorem d_Mo_told_62 : decode b_Mo_told 62 = .ok (.aload_n 0, 1) := by decide +kernel
theorem d_Mo_told_63 : decode b_Mo_told 63 = .ok (.getfield 50, 3) := by decide +kernel
theorem d_Mo_told_66 : decode b_Mo_told 66 = .ok (.iload_n 3, 1) := by decide +kernel
theorem d_Mo_told_67 : decode b_Mo_told 67 = .ok (.iaload, 1) := by decide +kernel
theorem d_Mo_told_68 : decode b_Mo_told 68 = .ok (.iastore, 1) := by decide +kernel
theorem d_Mo_told_69 : decode b_Mo_told 69 = .ok (.aload_n 0, 1) := by decide +kernel
theorem d_Mo_told_70 : decode b_Mo_told 70 = .ok (.getfield 47, 3) := by decide +kernel
theorem d_Mo_told_73 : decode b_Mo_told 73 = .ok (.iload_n 3, 1) := by decide +kernel
theorem d_Mo_told_74 : decode b_Mo_told 74 = .ok (.iaload, 1) := by decide +kernel
theorem d_Mo_told_75 : decode b_Mo_told 75 = .ok (.istore_n 3, 1) := by decide +kernel
theorem d_Mo_told_76 : decode b_Mo_told 76 = .ok (.goto (-32), 3) := by decide +kernel
theorem d_Mo_told_79 : decode b_Mo_told 79 = .ok (.aload_n 0, 1) := by decide +kernel
theorem d_Mo_told_80 : decode b_Mo_told 80 = .ok (.getfield 94, 3) := by decide +kernel
theorem d_Mo_told_83 : decode b_Mo_told 83 = .ok (.ireturn, 1) := by decide +kernel
theorem d_Mo_home_0 : decode b_Mo_home 0 = .ok (.aload_n 0, 1) := by decide +kernel
theorem d_Mo_home_1 : decode b_Mo_home 1 = .ok (.iconst 0, 1) := by decide +kernel
theorem d_Mo_home_2 : decode b_Mo_home 2 = .ok (.putfield 53, 3) := by decide +kernel
theorem d_Mo_home_5 : decode b_Mo_home 5 = .ok (.aload_n 0, 1) := by decide +kernel
theorem d_Mo_home_6 : decode b_Mo_home 6 = .ok (.iload_n 1, 1) := by decide +kernel
theorem d_Mo_home_7 : decode b_Mo_home 7 = .ok (.invokevirtual 64, 3) := by decide +kernel
theorem d_Mo_home_10 : decode b_Mo_home 10 = .ok (.ifCond .eq (14), 3) := by decide +kernel
theorem d_Mo_home_13 : decode b_Mo_home 13 = .ok (.aload_n 0, 1) := by decide +kernel
theorem d_Mo_home_14 : decode b_Mo_home 14 = .ok (.getfield 7, 3) := by decide +kernel
theorem d_Mo_home_17 : decode b_Mo_home 17 = .ok (.iload_n 1, 1) := by decide +kernel
theorem d_Mo_home_18 : decode b_Mo_home 18 = .ok (.iaload, 1) := by decide +kernel
theorem d_Mo_home_19 : decode b_Mo_home 19 = .ok (.bipush (12), 2) := by decide +kernel
theorem d_Mo_home_21 : decode b_Mo_home 21 = .ok (.if_icmp .le (5), 3) := by decide +kernel
theorem d_Mo_home_24 : decode b_Mo_home 24 = .ok (.iconst (-1), 1) := by decide +kernel
theorem d_Mo_home_25 : decode b_Mo_home 25 = .ok (.ireturn, 1) := by decide +kernel
theorem d_Mo_home_26 : decode b_Mo_home 26 = .ok (.aload_n 0, 1) := by decide +kernel
theorem d_Mo_home_27 : decode b_Mo_home 27 = .ok (.iload_n 1, 1) := by decide +kernel
theorem d_Mo_home_28 : decode b_Mo_home 28 = .ok (.invokevirtual 79, 3) := by decide +kernel
theorem d_Mo_home_31 : decode b_Mo_home 31 = .ok (.aload_n 0, 1) := by decide +kernel
theorem d_Mo_home_32 : decode b_Mo_home 32 = .ok (.getfield 41, 3) := by decide +kernel
theorem d_Mo_home_35 : decode b_Mo_home 35 = .ok (.iconst 0, 1) := by decide +kernel
end
section
theorem d_Mo_home_36 : decode b_Mo_home 36 = .ok (.iconst 0, 1) := by decide +kernel
theorem d_Mo_home_37 : decode b_Mo_home 37 = .ok (.iastore, 1) := by decide +kernel
theorem d_Mo_home_38 : decode b_Mo_home 38 = .ok (.iconst 0, 1) := by decide +kernel
theorem d_Mo_home_39 : decode b_Mo_home 39 = .ok (.istore_n 2, 1) := by decide +kernel
theorem d_Mo_home_40 : decode b_Mo_home 40 = .ok (.iconst 0, 1) := by decide +kernel
theorem d_Mo_home_41 : decode b_Mo_home 41 = .ok (.istore_n 3, 1) := by decide +kernel
theorem d_Mo_home_42 : decode b_Mo_home 42 = .ok (.iload_n 3, 1) := by decide +kernel
theorem d_Mo_home_43 : decode b_Mo_home 43 = .ok (.aload_n 0, 1) := by decide +kernel
theorem d_Mo_home_44 : decode b_Mo_home 44 = .ok (.getfield 7, 3) := by decide +kernel
theorem d_Mo_home_47 : decode b_Mo_home 47 = .ok (.iload_n 1, 1) := by decide +kernel
theorem d_Mo_home_48 : decode b_Mo_home 48 = .ok (.iaload, 1) := by decide +kernel
theorem d_Mo_home_49 : decode b_Mo_home 49 = .ok (.if_icmp .ge (19), 3) := by decide +kernel
theorem d_Mo_home_52 : decode b_Mo_home 52 = .ok (.iload_n 2, 1) := by decide +kernel
theorem d_Mo_home_53 : decode b_Mo_home 53 = .ok (.iconst 1, 1) := by decide +kernel
theorem d_Mo_home_54 : decode b_Mo_home 54 = .ok (.aload_n 0, 1) := by decide +kernel
theorem d_Mo_home_55 : decode b_Mo_home 55 = .ok (.iload_n 3, 1) := by decide +kernel
theorem d_Mo_home_56 : decode b_Mo_home 56 = .ok (.invokevirtual 83, 3) := by decide +kernel
theorem d_Mo_home_59 : decode b_Mo_home 59 = .ok (.ishl, 1) := by decide +kernel
theorem d_Mo_home_60 : decode b_Mo_home 60 = .ok (.ior, 1) := by decide +kernel
theorem d_Mo_home_61 : decode b_Mo_home 61 = .ok (.istore_n 2, 1) := by decide +kernel
theorem d_Mo_home_62 : decode b_Mo_home 62 = .ok (.iinc 3 (1), 3) := by decide +kernel
theorem d_Mo_home_65 : decode b_Mo_home 65 = .ok (.goto (-23), 3) := by decide +kernel
theorem d_Mo_home_68 : decode b_Mo_home 68 = .ok (.aload_n 0, 1) := by decide +kernel
theorem d_Mo_home_69 : decode b_Mo_home 69 = .ok (.iconst 0, 1) := by decide +kernel
theorem d_Mo_home_70 : decode b_Mo_home 70 = .ok (.iload_n 2, 1) := by decide +kernel
theorem d_Mo_home_71 : decode b_Mo_home 71 = .ok (.invokevirtual 117, 3) := by decide +kernel
theorem d_Mo_home_74 : decode b_Mo_home 74 = .ok (.aload_n 0, 1) := by decide +kernel
theorem d_Mo_home_75 : decode b_Mo_home 75 = .ok (.getfield 47, 3) := by decide +kernel
theorem d_Mo_home_78 : decode b_Mo_home 78 = .ok (.iconst 0, 1) := by decide +kernel
theorem d_Mo_home_79 : decode b_Mo_home 79 = .ok (.iconst (-1), 1) := by decide +kernel
theorem d_Mo_home_80 : decode b_Mo_home 80 = .ok (.iastore, 1) := by decide +kernel
theorem d_Mo_home_81 : decode b_Mo_home 81 = .ok (.aload_n 0, 1) := by decide +kernel
theorem d_Mo_home_82 : decode b_Mo_home 82 = .ok (.iconst 0, 1) := by decide +kernel
theorem d_Mo_home_83 : decode b_Mo_home 83 = .ok (.invokevirtual 120, 3) := by decide +kernel
theorem d_Mo_home_86 : decode b_Mo_home 86 = .ok (.ifCond .eq (9), 3) := by decide +kernel
theorem d_Mo_home_89 : decode b_Mo_home 89 = .ok (.aload_n 0, 1) := by decide +kernel
theorem d_Mo_home_90 : decode b_Mo_home 90 = .ok (.iconst 0, 1) := by decide +kernel
theorem d_Mo_home_91 : decode b_Mo_home 91 = .ok (.invokevirtual 123, 3) := by decide +kernel
theorem d_Mo_home_94 : decode b_Mo_home 94 = .ok (.ireturn, 1) := by decide +kernel
theorem d_Mo_home_95 : decode b_Mo_home 95 = .ok (.aload_n 0, 1) := by decide +kernel
theorem d_Mo_home_96 : decode b_Mo_home 96 = .ok (.iconst 1, 1) := by decide +kernel
theorem d_Mo_home_97 : decode b_Mo_home 97 = .ok (.putfield 126, 3) := by decide +kernel
theorem d_Mo_home_100 : decode b_Mo_home 100 = .ok (.iconst 0, 1) := by decide +kernel
theorem d_Mo_home_101 : decode b_Mo_home 101 = .ok (.istore_n 3, 1) := by decide +kernel
theorem d_Mo_home_102 : decode b_Mo_home 102 = .ok (.iload_n 3, 1) := by decide +kernel
theorem d_Mo_home_103 : decode b_Mo_home 103 = .ok (.aload_n 0, 1) := by decide +kernel
theorem d_Mo_home_104 : decode b_Mo_home 104 = .ok (.getfield 126, 3) := by decide +kernel
theorem d_Mo_home_107 : decode b_Mo_home 107 = .ok (.if_icmp .ge (121), 3) := by decide +kernel
theorem d_Mo_home_110 : decode b_Mo_home 110 = .ok (.iconst 0, 1) := by decide +kernel
theorem d_Mo_home_111 : decode b_Mo_home 111 = .ok (.istore 4, 2) := by decide +kernel
theorem d_Mo_home_113 : decode b_Mo_home 113 = .ok (.iload 4, 2) := by decide +kernel
theorem d_Mo_home_115 : decode b_Mo_home 115 = .ok (.aload_n 0, 1) := by decide +kernel
theorem d_Mo_home_116 : decode b_Mo_home 116 = .ok (.getfield 13, 3) := by decide +kernel
theorem d_Mo_home_119 : decode b_Mo_home 119 = .ok (.iload_n 1, 1) := by decide +kernel
theorem d_Mo_home_120 : decode b_Mo_home 120 = .ok (.iaload, 1) := by decide +kernel
theorem d_Mo_home_121 : decode b_Mo_home 121 = .ok (.if_icmp .ge (101), 3) := by decide +kernel
theorem d_Mo_home_124 : decode b_Mo_home 124 = .ok (.aload_n 0, 1) := by decide +kernel
theorem d_Mo_home_125 : decode b_Mo_home 125 = .ok (.iload_n 1, 1) := by decide +kernel
theorem d_Mo_home_126 : decode b_Mo_home 126 = .ok (.iload_n 3, 1) := by decide +kernel
theorem d_Mo_home_127 : decode b_Mo_home 127 = .ok (.iload 4, 2) := by decide +kernel
theorem d_Mo_home_129 : decode b_Mo_home 129 = .ok (.aload_n 0, 1) := by decide +kernel
theorem d_Mo_home_130 : decode b_Mo_home 130 = .ok (.getfield 126, 3) := by decide +kernel
theorem d_Mo_home_133 : decode b_Mo_home 133 = .ok (.invokevirtual 129, 3) := by decide +kernel
theorem d_Mo_home_136 : decode b_Mo_home 136 = .ok (.aload_n 0, 1) := by decide +kernel
theorem d_Mo_home_137 : decode b_Mo_home 137 = .ok (.getfield 47, 3) := by decide +kernel
theorem d_Mo_home_140 : decode b_Mo_home 140 = .ok (.aload_n 0, 1) := by decide +kernel
theorem d_Mo_home_141 : decode b_Mo_home 141 = .ok (.getfield 126, 3) := by decide +kernel
theorem d_Mo_home_144 : decode b_Mo_home 144 = .ok (.iload_n 3, 1) := by decide +kernel
theorem d_Mo_home_145 : decode b_Mo_home 145 = .ok (.iastore, 1) := by decide +kernel
theorem d_Mo_home_146 : decode b_Mo_home 146 = .ok (.aload_n 0, 1) := by decide +kernel
theorem d_Mo_home_147 : decode b_Mo_home 147 = .ok (.getfield 50, 3) := by decide +kernel
theorem d_Mo_home_150 : decode b_Mo_home 150 = .ok (.aload_n 0, 1) := by decide +kernel
theorem d_Mo_home_151 : decode b_Mo_home 151 = .ok (.getfield 126, 3) := by decide +kernel
theorem d_Mo_home_154 : decode b_Mo_home 154 = .ok (.iload 4, 2) := by decide +kernel
theorem d_Mo_home_156 : decode b_Mo_home 156 = .ok (.iastore, 1) := by decide +kernel
theorem d_Mo_home_157 : decode b_Mo_home 157 = .ok (.aload_n 0, 1) := by decide +kernel
theorem d_Mo_home_158 : decode b_Mo_home 158 = .ok (.aload_n 0, 1) := by decide +kernel
theorem d_Mo_home_159 : decode b_Mo_home 159 = .ok (.getfield 126, 3) := by decide +kernel
theorem d_Mo_home_162 : decode b_Mo_home 162 = .ok (.invokevirtual 120, 3) := by decide +kernel
theorem d_Mo_home_165 : decode b_Mo_home 165 = .ok (.ifCond .eq (12), 3) := by decide +kernel
theorem d_Mo_home_168 : decode b_Mo_home 168 = .ok (.aload_n 0, 1) := by decide +kernel
theorem d_Mo_home_169 : decode b_Mo_home 169 = .ok (.aload_n 0, 1) := by decide +kernel
theorem d_Mo_home_170 : decode b_Mo_home 170 = .ok (.getfield 126, 3) := by decide +kernel
theorem d_Mo_home_173 : decode b_Mo_home 173 = .ok (.invokevirtual 123, 3) := by decide +kernel
theorem d_Mo_home_176 : decode b_Mo_home 176 = .ok (.ireturn, 1) := by decide +kernel
theorem d_Mo_home_177 : decode b_Mo_home 177 = .ok (.aload_n 0, 1) := by decide +kernel
theorem d_Mo_home_178 : decode b_Mo_home 178 = .ok (.aload_n 0, 1) := by decide +kernel
theorem d_Mo_home_179 : decode b_Mo_home 179 = .ok (.getfield 126, 3) := by decide +kernel
theorem d_Mo_home_182 : decode b_Mo_home 182 = .ok (.invokevirtual 133, 3) := by decide +kernel
theorem d_Mo_home_185 : decode b_Mo_home 185 = .ok (.ifCond .eq (6), 3) := by decide +kernel
theorem d_Mo_home_188 : decode b_Mo_home 188 = .ok (.goto (28), 3) := by decide +kernel
theorem d_Mo_home_191 : decode b_Mo_home 191 = .ok (.aload_n 0, 1) := by decide +kernel
theorem d_Mo_home_192 : decode b_Mo_home 192 = .ok (.dup, 1) := by decide +kernel
theorem d_Mo_home_193 : decode b_Mo_home 193 = .ok (.getfield 126, 3) := by decide +kernel
theorem d_Mo_home_196 : decode b_Mo_home 196 = .ok (.iconst 1, 1) := by decide +kernel
theorem d_Mo_home_197 : decode b_Mo_home 197 = .ok (.iadd, 1) := by decide +kernel
theorem d_Mo_home_198 : decode b_Mo_home 198 = .ok (.putfield 126, 3) := by decide +kernel
theorem d_Mo_home_201 : decode b_Mo_home 201 = .ok (.aload_n 0, 1) := by decide +kernel
theorem d_Mo_home_202 : decode b_Mo_home 202 = .ok (.getfield 126, 3) := by decide +kernel
theorem d_Mo_home_205 : decode b_Mo_home 205 = .ok (.sipush (300), 3) := by decide +kernel
theorem d_Mo_home_208 : decode b_Mo_home 208 = .ok (.if_icmp .ne (8), 3) := by decide +kernel
theorem d_Mo_home_211 : decode b_Mo_home 211 = .ok (.aload_n 0, 1) := by decide +kernel
theorem d_Mo_home_212 : decode b_Mo_home 212 = .ok (.invokevirtual 136, 3) := by decide +kernel
theorem d_Mo_home_215 : decode b_Mo_home 215 = .ok (.ireturn, 1) := by decide +kernel
theorem d_Mo_home_216 : decode b_Mo_home 216 = .ok (.iinc 4 (1), 3) := by decide +kernel
theorem d_Mo_home_219 : decode b_Mo_home 219 = .ok (.goto (-106), 3) := by decide +kernel
theorem d_Mo_home_222 : decode b_Mo_home 222 = .ok (.iinc 3 (1), 3) := by decide +kernel
theorem d_Mo_home_225 : decode b_Mo_home 225 = .ok (.goto (-123), 3) := by decide +kernel
theorem d_Mo_home_228 : decode b_Mo_home 228 = .ok (.aload_n 0, 1) := by decide +kernel
theorem d_Mo_home_229 : decode b_Mo_home 229 = .ok (.invokevirtual 136, 3) := by decide +kernel
theorem d_Mo_home_232 : decode b_Mo_home 232 = .ok (.ireturn, 1) := by decide +kernel
theorem d_Mo_chains_0 : decode b_Mo_chains 0 = .ok (.aload_n 0, 1) := by decide +kernel
theorem d_Mo_chains_1 : decode b_Mo_chains 1 = .ok (.iconst 0, 1) := by decide +kernel
theorem d_Mo_chains_2 : decode b_Mo_chains 2 = .ok (.invokevirtual 97, 3) := by decide +kernel
theorem d_Mo_chains_5 : decode b_Mo_chains 5 = .ok (.iconst 0, 1) := by decide +kernel
theorem d_Mo_chains_6 : decode b_Mo_chains 6 = .ok (.istore_n 3, 1) := by decide +kernel
theorem d_Mo_chains_7 : decode b_Mo_chains 7 = .ok (.iload_n 3, 1) := by decide +kernel
theorem d_Mo_chains_8 : decode b_Mo_chains 8 = .ok (.aload_n 0, 1) := by decide +kernel
theorem d_Mo_chains_9 : decode b_Mo_chains 9 = .ok (.getfield 87, 3) := by decide +kernel
theorem d_Mo_chains_12 : decode b_Mo_chains 12 = .ok (.if_icmp .ge (128), 3) := by decide +kernel
theorem d_Mo_chains_15 : decode b_Mo_chains 15 = .ok (.iconst 0, 1) := by decide +kernel
theorem d_Mo_chains_16 : decode b_Mo_chains 16 = .ok (.istore 4, 2) := by decide +kernel
theorem d_Mo_chains_18 : decode b_Mo_chains 18 = .ok (.iload 4, 2) := by decide +kernel
theorem d_Mo_chains_20 : decode b_Mo_chains 20 = .ok (.aload_n 0, 1) := by decide +kernel
theorem d_Mo_chains_21 : decode b_Mo_chains 21 = .ok (.getfield 13, 3) := by decide +kernel
theorem d_Mo_chains_24 : decode b_Mo_chains 24 = .ok (.iload_n 1, 1) := by decide +kernel
theorem d_Mo_chains_25 : decode b_Mo_chains 25 = .ok (.iaload, 1) := by decide +kernel
theorem d_Mo_chains_26 : decode b_Mo_chains 26 = .ok (.if_icmp .ge (108), 3) := by decide +kernel
theorem d_Mo_chains_29 : decode b_Mo_chains 29 = .ok (.sipush (160), 3) := by decide +kernel
theorem d_Mo_chains_32 : decode b_Mo_chains 32 = .ok (.iload_n 1, 1) := by decide +kernel
theorem d_Mo_chains_33 : decode b_Mo_chains 33 = .ok (.imul, 1) := by decide +kernel
theorem d_Mo_chains_34 : decode b_Mo_chains 34 = .ok (.iconst 4, 1) := by decide +kernel
theorem d_Mo_chains_35 : decode b_Mo_chains 35 = .ok (.aload_n 0, 1) := by decide +kernel
theorem d_Mo_chains_36 : decode b_Mo_chains 36 = .ok (.getfield 29, 3) := by decide +kernel
theorem d_Mo_chains_39 : decode b_Mo_chains 39 = .ok (.iload_n 3, 1) := by decide +kernel
theorem d_Mo_chains_40 : decode b_Mo_chains 40 = .ok (.iaload, 1) := by decide +kernel
theorem d_Mo_chains_41 : decode b_Mo_chains 41 = .ok (.bipush (40), 2) := by decide +kernel
theorem d_Mo_chains_43 : decode b_Mo_chains 43 = .ok (.idiv, 1) := by decide +kernel
theorem d_Mo_chains_44 : decode b_Mo_chains 44 = .ok (.imul, 1) := by decide +kernel
theorem d_Mo_chains_45 : decode b_Mo_chains 45 = .ok (.iadd, 1) := by decide +kernel
theorem d_Mo_chains_46 : decode b_Mo_chains 46 = .ok (.iload 4, 2) := by decide +kernel
theorem d_Mo_chains_48 : decode b_Mo_chains 48 = .ok (.iadd, 1) := by decide +kernel
theorem d_Mo_chains_49 : decode b_Mo_chains 49 = .ok (.istore 5, 2) := by decide +kernel
theorem d_Mo_chains_51 : decode b_Mo_chains 51 = .ok (.aload_n 0, 1) := by decide +kernel
theorem d_Mo_chains_52 : decode b_Mo_chains 52 = .ok (.getfield 19, 3) := by decide +kernel
theorem d_Mo_chains_55 : decode b_Mo_chains 55 = .ok (.iload 5, 2) := by decide +kernel
theorem d_Mo_chains_57 : decode b_Mo_chains 57 = .ok (.iaload, 1) := by decide +kernel
theorem d_Mo_chains_58 : decode b_Mo_chains 58 = .ok (.aload_n 0, 1) := by decide +kernel
theorem d_Mo_chains_59 : decode b_Mo_chains 59 = .ok (.getfield 13, 3) := by decide +kernel
theorem d_Mo_chains_62 : decode b_Mo_chains 62 = .ok (.iload_n 2, 1) := by decide +kernel
theorem d_Mo_chains_63 : decode b_Mo_chains 63 = .ok (.iaload, 1) := by decide +kernel
theorem d_Mo_chains_64 : decode b_Mo_chains 64 = .ok (.if_icmp .lt (5), 3) := by decide +kernel
theorem d_Mo_chains_67 : decode b_Mo_chains 67 = .ok (.iconst 0, 1) := by decide +kernel
theorem d_Mo_chains_68 : decode b_Mo_chains 68 = .ok (.ireturn, 1) := by decide +kernel
theorem d_Mo_chains_69 : decode b_Mo_chains 69 = .ok (.aload_n 0, 1) := by decide +kernel
theorem d_Mo_chains_70 : decode b_Mo_chains 70 = .ok (.bipush (40), 2) := by decide +kernel
theorem d_Mo_chains_72 : decode b_Mo_chains 72 = .ok (.aload_n 0, 1) := by decide +kernel
theorem d_Mo_chains_73 : decode b_Mo_chains 73 = .ok (.getfield 16, 3) := by decide +kernel
theorem d_Mo_chains_76 : decode b_Mo_chains 76 = .ok (.iload 5, 2) := by decide +kernel
theorem d_Mo_chains_78 : decode b_Mo_chains 78 = .ok (.iaload, 1) := by decide +kernel
theorem d_Mo_chains_79 : decode b_Mo_chains 79 = .ok (.imul, 1) := by decide +kernel
theorem d_Mo_chains_80 : decode b_Mo_chains 80 = .ok (.aload_n 0, 1) := by decide +kernel
theorem d_Mo_chains_81 : decode b_Mo_chains 81 = .ok (.getfield 16, 3) := by decide +kernel
theorem d_Mo_chains_84 : decode b_Mo_chains 84 = .ok (.sipush (160), 3) := by decide +kernel
theorem d_Mo_chains_87 : decode b_Mo_chains 87 = .ok (.iload_n 2, 1) := by decide +kernel
theorem d_Mo_chains_88 : decode b_Mo_chains 88 = .ok (.imul, 1) := by decide +kernel
theorem d_Mo_chains_89 : decode b_Mo_chains 89 = .ok (.iconst 4, 1) := by decide +kernel
theorem d_Mo_chains_90 : decode b_Mo_chains 90 = .ok (.aload_n 0, 1) := by decide +kernel
theorem d_Mo_chains_91 : decode b_Mo_chains 91 = .ok (.getfield 29, 3) := by decide +kernel
theorem d_Mo_chains_94 : decode b_Mo_chains 94 = .ok (.iload_n 3, 1) := by decide +kernel
theorem d_Mo_chains_95 : decode b_Mo_chains 95 = .ok (.iaload, 1) := by decide +kernel
theorem d_Mo_chains_96 : decode b_Mo_chains 96 = .ok (.bipush (40), 2) := by decide +kernel
theorem d_Mo_chains_98 : decode b_Mo_chains 98 = .ok (.irem, 1) := by decide +kernel
theorem d_Mo_chains_99 : decode b_Mo_chains 99 = .ok (.imul, 1) := by decide +kernel
theorem d_Mo_chains_100 : decode b_Mo_chains 100 = .ok (.iadd, 1) := by decide +kernel
theorem d_Mo_chains_101 : decode b_Mo_chains 101 = .ok (.aload_n 0, 1) := by decide +kernel
theorem d_Mo_chains_102 : decode b_Mo_chains 102 = .ok (.getfield 19, 3) := by decide +kernel
theorem d_Mo_chains_105 : decode b_Mo_chains 105 = .ok (.iload 5, 2) := by decide +kernel
theorem d_Mo_chains_107 : decode b_Mo_chains 107 = .ok (.iaload, 1) := by decide +kernel
theorem d_Mo_chains_108 : decode b_Mo_chains 108 = .ok (.iadd, 1) := by decide +kernel
theorem d_Mo_chains_109 : decode b_Mo_chains 109 = .ok (.iaload, 1) := by decide +kernel
theorem d_Mo_chains_110 : decode b_Mo_chains 110 = .ok (.iadd, 1) := by decide +kernel
theorem d_Mo_chains_111 : decode b_Mo_chains 111 = .ok (.iload_n 3, 1) := by decide +kernel
theorem d_Mo_chains_112 : decode b_Mo_chains 112 = .ok (.iload 4, 2) := by decide +kernel
theorem d_Mo_chains_114 : decode b_Mo_chains 114 = .ok (.invokevirtual 90, 3) := by decide +kernel
theorem d_Mo_chains_117 : decode b_Mo_chains 117 = .ok (.aload_n 0, 1) := by decide +kernel
theorem d_Mo_chains_118 : decode b_Mo_chains 118 = .ok (.getfield 87, 3) := by decide +kernel
theorem d_Mo_chains_121 : decode b_Mo_chains 121 = .ok (.bipush (40), 2) := by decide +kernel
theorem d_Mo_chains_123 : decode b_Mo_chains 123 = .ok (.if_icmp .le (5), 3) := by decide +kernel
theorem d_Mo_chains_126 : decode b_Mo_chains 126 = .ok (.iconst 0, 1) := by decide +kernel
theorem d_Mo_chains_127 : decode b_Mo_chains 127 = .ok (.ireturn, 1) := by decide +kernel
theorem d_Mo_chains_128 : decode b_Mo_chains 128 = .ok (.iinc 4 (1), 3) := by decide +kernel
theorem d_Mo_chains_131 : decode b_Mo_chains 131 = .ok (.goto (-113), 3) := by decide +kernel
theorem d_Mo_chains_134 : decode b_Mo_chains 134 = .ok (.iinc 3 (1), 3) := by decide +kernel
theorem d_Mo_chains_137 : decode b_Mo_chains 137 = .ok (.goto (-130), 3) := by decide +kernel
theorem d_Mo_chains_140 : decode b_Mo_chains 140 = .ok (.iconst 1, 1) := by decide +kernel
theorem d_Mo_chains_141 : decode b_Mo_chains 141 = .ok (.ireturn, 1) := by decide +kernel
theorem d_Mo_placeOf_0 : decode b_Mo_placeOf 0 = .ok (.iconst 0, 1) := by decide +kernel
theorem d_Mo_placeOf_1 : decode b_Mo_placeOf 1 = .ok (.istore_n 2, 1) := by decide +kernel
theorem d_Mo_placeOf_2 : decode b_Mo_placeOf 2 = .ok (.aload_n 0, 1) := by decide +kernel
end
section
theorem d_Mo_placeOf_3 : decode b_Mo_placeOf 3 = .ok (.getfield 29, 3) := by decide +kernel
theorem d_Mo_placeOf_6 : decode b_Mo_placeOf 6 = .ok (.iload_n 2, 1) := by decide +kernel
theorem d_Mo_placeOf_7 : decode b_Mo_placeOf 7 = .ok (.iaload, 1) := by decide +kernel
theorem d_Mo_placeOf_8 : decode b_Mo_placeOf 8 = .ok (.iload_n 1, 1) := by decide +kernel
theorem d_Mo_placeOf_9 : decode b_Mo_placeOf 9 = .ok (.if_icmp .eq (9), 3) := by decide +kernel
theorem d_Mo_placeOf_12 : decode b_Mo_placeOf 12 = .ok (.iinc 2 (1), 3) := by decide +kernel
theorem d_Mo_placeOf_15 : decode b_Mo_placeOf 15 = .ok (.goto (-13), 3) := by decide +kernel
theorem d_Mo_placeOf_18 : decode b_Mo_placeOf 18 = .ok (.iload_n 2, 1) := by decide +kernel
theorem d_Mo_placeOf_19 : decode b_Mo_placeOf 19 = .ok (.ireturn, 1) := by decide +kernel
theorem d_Mo_chain_0 : decode b_Mo_chain 0 = .ok (.aload_n 0, 1) := by decide +kernel
theorem d_Mo_chain_1 : decode b_Mo_chain 1 = .ok (.iconst 0, 1) := by decide +kernel
theorem d_Mo_chain_2 : decode b_Mo_chain 2 = .ok (.putfield 53, 3) := by decide +kernel
theorem d_Mo_chain_5 : decode b_Mo_chain 5 = .ok (.aload_n 0, 1) := by decide +kernel
theorem d_Mo_chain_6 : decode b_Mo_chain 6 = .ok (.iload_n 1, 1) := by decide +kernel
theorem d_Mo_chain_7 : decode b_Mo_chain 7 = .ok (.invokevirtual 64, 3) := by decide +kernel
theorem d_Mo_chain_10 : decode b_Mo_chain 10 = .ok (.ifCond .eq (20), 3) := by decide +kernel
theorem d_Mo_chain_13 : decode b_Mo_chain 13 = .ok (.aload_n 0, 1) := by decide +kernel
theorem d_Mo_chain_14 : decode b_Mo_chain 14 = .ok (.iload_n 2, 1) := by decide +kernel
theorem d_Mo_chain_15 : decode b_Mo_chain 15 = .ok (.invokevirtual 64, 3) := by decide +kernel
theorem d_Mo_chain_18 : decode b_Mo_chain 18 = .ok (.ifCond .eq (12), 3) := by decide +kernel
theorem d_Mo_chain_21 : decode b_Mo_chain 21 = .ok (.aload_n 0, 1) := by decide +kernel
theorem d_Mo_chain_22 : decode b_Mo_chain 22 = .ok (.getfield 57, 3) := by decide +kernel
theorem d_Mo_chain_25 : decode b_Mo_chain 25 = .ok (.bipush (12), 2) := by decide +kernel
theorem d_Mo_chain_27 : decode b_Mo_chain 27 = .ok (.if_icmp .ne (5), 3) := by decide +kernel
theorem d_Mo_chain_30 : decode b_Mo_chain 30 = .ok (.iconst (-1), 1) := by decide +kernel
theorem d_Mo_chain_31 : decode b_Mo_chain 31 = .ok (.ireturn, 1) := by decide +kernel
theorem d_Mo_chain_32 : decode b_Mo_chain 32 = .ok (.aload_n 0, 1) := by decide +kernel
theorem d_Mo_chain_33 : decode b_Mo_chain 33 = .ok (.iload_n 1, 1) := by decide +kernel
theorem d_Mo_chain_34 : decode b_Mo_chain 34 = .ok (.iload_n 2, 1) := by decide +kernel
theorem d_Mo_chain_35 : decode b_Mo_chain 35 = .ok (.invokevirtual 140, 3) := by decide +kernel
theorem d_Mo_chain_38 : decode b_Mo_chain 38 = .ok (.ifCond .ne (8), 3) := by decide +kernel
theorem d_Mo_chain_41 : decode b_Mo_chain 41 = .ok (.aload_n 0, 1) := by decide +kernel
theorem d_Mo_chain_42 : decode b_Mo_chain 42 = .ok (.invokevirtual 136, 3) := by decide +kernel
theorem d_Mo_chain_45 : decode b_Mo_chain 45 = .ok (.ireturn, 1) := by decide +kernel
theorem d_Mo_chain_46 : decode b_Mo_chain 46 = .ok (.aload_n 0, 1) := by decide +kernel
theorem d_Mo_chain_47 : decode b_Mo_chain 47 = .ok (.aload_n 0, 1) := by decide +kernel
theorem d_Mo_chain_48 : decode b_Mo_chain 48 = .ok (.getfield 87, 3) := by decide +kernel
theorem d_Mo_chain_51 : decode b_Mo_chain 51 = .ok (.aload_n 0, 1) := by decide +kernel
theorem d_Mo_chain_52 : decode b_Mo_chain 52 = .ok (.getfield 13, 3) := by decide +kernel
theorem d_Mo_chain_55 : decode b_Mo_chain 55 = .ok (.iload_n 1, 1) := by decide +kernel
theorem d_Mo_chain_56 : decode b_Mo_chain 56 = .ok (.iaload, 1) := by decide +kernel
theorem d_Mo_chain_57 : decode b_Mo_chain 57 = .ok (.invokevirtual 68, 3) := by decide +kernel
theorem d_Mo_chain_60 : decode b_Mo_chain 60 = .ok (.istore_n 3, 1) := by decide +kernel
theorem d_Mo_chain_61 : decode b_Mo_chain 61 = .ok (.iconst 0, 1) := by decide +kernel
theorem d_Mo_chain_62 : decode b_Mo_chain 62 = .ok (.istore 4, 2) := by decide +kernel
theorem d_Mo_chain_64 : decode b_Mo_chain 64 = .ok (.iload 4, 2) := by decide +kernel
theorem d_Mo_chain_66 : decode b_Mo_chain 66 = .ok (.aload_n 0, 1) := by decide +kernel
theorem d_Mo_chain_67 : decode b_Mo_chain 67 = .ok (.getfield 87, 3) := by decide +kernel
theorem d_Mo_chain_70 : decode b_Mo_chain 70 = .ok (.if_icmp .ge (145), 3) := by decide +kernel
theorem d_Mo_chain_73 : decode b_Mo_chain 73 = .ok (.iconst 0, 1) := by decide +kernel
theorem d_Mo_chain_74 : decode b_Mo_chain 74 = .ok (.istore 5, 2) := by decide +kernel
theorem d_Mo_chain_76 : decode b_Mo_chain 76 = .ok (.iload 5, 2) := by decide +kernel
theorem d_Mo_chain_78 : decode b_Mo_chain 78 = .ok (.aload_n 0, 1) := by decide +kernel
theorem d_Mo_chain_79 : decode b_Mo_chain 79 = .ok (.getfield 13, 3) := by decide +kernel
theorem d_Mo_chain_82 : decode b_Mo_chain 82 = .ok (.iload_n 1, 1) := by decide +kernel
theorem d_Mo_chain_83 : decode b_Mo_chain 83 = .ok (.iaload, 1) := by decide +kernel
theorem d_Mo_chain_84 : decode b_Mo_chain 84 = .ok (.if_icmp .ge (125), 3) := by decide +kernel
theorem d_Mo_chain_87 : decode b_Mo_chain 87 = .ok (.sipush (160), 3) := by decide +kernel
theorem d_Mo_chain_90 : decode b_Mo_chain 90 = .ok (.iload_n 1, 1) := by decide +kernel
theorem d_Mo_chain_91 : decode b_Mo_chain 91 = .ok (.imul, 1) := by decide +kernel
theorem d_Mo_chain_92 : decode b_Mo_chain 92 = .ok (.iconst 4, 1) := by decide +kernel
theorem d_Mo_chain_93 : decode b_Mo_chain 93 = .ok (.aload_n 0, 1) := by decide +kernel
theorem d_Mo_chain_94 : decode b_Mo_chain 94 = .ok (.getfield 29, 3) := by decide +kernel
theorem d_Mo_chain_97 : decode b_Mo_chain 97 = .ok (.iload 4, 2) := by decide +kernel
theorem d_Mo_chain_99 : decode b_Mo_chain 99 = .ok (.iaload, 1) := by decide +kernel
theorem d_Mo_chain_100 : decode b_Mo_chain 100 = .ok (.bipush (40), 2) := by decide +kernel
theorem d_Mo_chain_102 : decode b_Mo_chain 102 = .ok (.idiv, 1) := by decide +kernel
theorem d_Mo_chain_103 : decode b_Mo_chain 103 = .ok (.imul, 1) := by decide +kernel
theorem d_Mo_chain_104 : decode b_Mo_chain 104 = .ok (.iadd, 1) := by decide +kernel
theorem d_Mo_chain_105 : decode b_Mo_chain 105 = .ok (.iload 5, 2) := by decide +kernel
theorem d_Mo_chain_107 : decode b_Mo_chain 107 = .ok (.iadd, 1) := by decide +kernel
theorem d_Mo_chain_108 : decode b_Mo_chain 108 = .ok (.istore 6, 2) := by decide +kernel
theorem d_Mo_chain_110 : decode b_Mo_chain 110 = .ok (.sipush (160), 3) := by decide +kernel
theorem d_Mo_chain_113 : decode b_Mo_chain 113 = .ok (.iload_n 2, 1) := by decide +kernel
theorem d_Mo_chain_114 : decode b_Mo_chain 114 = .ok (.imul, 1) := by decide +kernel
theorem d_Mo_chain_115 : decode b_Mo_chain 115 = .ok (.iconst 4, 1) := by decide +kernel
theorem d_Mo_chain_116 : decode b_Mo_chain 116 = .ok (.aload_n 0, 1) := by decide +kernel
theorem d_Mo_chain_117 : decode b_Mo_chain 117 = .ok (.getfield 29, 3) := by decide +kernel
theorem d_Mo_chain_120 : decode b_Mo_chain 120 = .ok (.iload 4, 2) := by decide +kernel
theorem d_Mo_chain_122 : decode b_Mo_chain 122 = .ok (.iaload, 1) := by decide +kernel
theorem d_Mo_chain_123 : decode b_Mo_chain 123 = .ok (.bipush (40), 2) := by decide +kernel
theorem d_Mo_chain_125 : decode b_Mo_chain 125 = .ok (.irem, 1) := by decide +kernel
theorem d_Mo_chain_126 : decode b_Mo_chain 126 = .ok (.imul, 1) := by decide +kernel
theorem d_Mo_chain_127 : decode b_Mo_chain 127 = .ok (.iadd, 1) := by decide +kernel
theorem d_Mo_chain_128 : decode b_Mo_chain 128 = .ok (.aload_n 0, 1) := by decide +kernel
theorem d_Mo_chain_129 : decode b_Mo_chain 129 = .ok (.getfield 19, 3) := by decide +kernel
theorem d_Mo_chain_132 : decode b_Mo_chain 132 = .ok (.iload 6, 2) := by decide +kernel
theorem d_Mo_chain_134 : decode b_Mo_chain 134 = .ok (.iaload, 1) := by decide +kernel
theorem d_Mo_chain_135 : decode b_Mo_chain 135 = .ok (.iadd, 1) := by decide +kernel
theorem d_Mo_chain_136 : decode b_Mo_chain 136 = .ok (.istore 7, 2) := by decide +kernel
theorem d_Mo_chain_138 : decode b_Mo_chain 138 = .ok (.aload_n 0, 1) := by decide +kernel
theorem d_Mo_chain_139 : decode b_Mo_chain 139 = .ok (.getfield 16, 3) := by decide +kernel
theorem d_Mo_chain_142 : decode b_Mo_chain 142 = .ok (.sipush (160), 3) := by decide +kernel
theorem d_Mo_chain_145 : decode b_Mo_chain 145 = .ok (.iload_n 3, 1) := by decide +kernel
theorem d_Mo_chain_146 : decode b_Mo_chain 146 = .ok (.imul, 1) := by decide +kernel
theorem d_Mo_chain_147 : decode b_Mo_chain 147 = .ok (.iconst 4, 1) := by decide +kernel
theorem d_Mo_chain_148 : decode b_Mo_chain 148 = .ok (.iload 4, 2) := by decide +kernel
theorem d_Mo_chain_150 : decode b_Mo_chain 150 = .ok (.imul, 1) := by decide +kernel
theorem d_Mo_chain_151 : decode b_Mo_chain 151 = .ok (.iadd, 1) := by decide +kernel
theorem d_Mo_chain_152 : decode b_Mo_chain 152 = .ok (.iload 5, 2) := by decide +kernel
theorem d_Mo_chain_154 : decode b_Mo_chain 154 = .ok (.iadd, 1) := by decide +kernel
theorem d_Mo_chain_155 : decode b_Mo_chain 155 = .ok (.aload_n 0, 1) := by decide +kernel
theorem d_Mo_chain_156 : decode b_Mo_chain 156 = .ok (.bipush (40), 2) := by decide +kernel
theorem d_Mo_chain_158 : decode b_Mo_chain 158 = .ok (.aload_n 0, 1) := by decide +kernel
theorem d_Mo_chain_159 : decode b_Mo_chain 159 = .ok (.getfield 16, 3) := by decide +kernel
theorem d_Mo_chain_162 : decode b_Mo_chain 162 = .ok (.iload 6, 2) := by decide +kernel
theorem d_Mo_chain_164 : decode b_Mo_chain 164 = .ok (.iaload, 1) := by decide +kernel
theorem d_Mo_chain_165 : decode b_Mo_chain 165 = .ok (.imul, 1) := by decide +kernel
theorem d_Mo_chain_166 : decode b_Mo_chain 166 = .ok (.aload_n 0, 1) := by decide +kernel
theorem d_Mo_chain_167 : decode b_Mo_chain 167 = .ok (.getfield 16, 3) := by decide +kernel
theorem d_Mo_chain_170 : decode b_Mo_chain 170 = .ok (.iload 7, 2) := by decide +kernel
theorem d_Mo_chain_172 : decode b_Mo_chain 172 = .ok (.iaload, 1) := by decide +kernel
theorem d_Mo_chain_173 : decode b_Mo_chain 173 = .ok (.iadd, 1) := by decide +kernel
theorem d_Mo_chain_174 : decode b_Mo_chain 174 = .ok (.invokevirtual 143, 3) := by decide +kernel
theorem d_Mo_chain_177 : decode b_Mo_chain 177 = .ok (.iastore, 1) := by decide +kernel
theorem d_Mo_chain_178 : decode b_Mo_chain 178 = .ok (.aload_n 0, 1) := by decide +kernel
theorem d_Mo_chain_179 : decode b_Mo_chain 179 = .ok (.getfield 19, 3) := by decide +kernel
theorem d_Mo_chain_182 : decode b_Mo_chain 182 = .ok (.sipush (160), 3) := by decide +kernel
theorem d_Mo_chain_185 : decode b_Mo_chain 185 = .ok (.iload_n 3, 1) := by decide +kernel
theorem d_Mo_chain_186 : decode b_Mo_chain 186 = .ok (.imul, 1) := by decide +kernel
theorem d_Mo_chain_187 : decode b_Mo_chain 187 = .ok (.iconst 4, 1) := by decide +kernel
theorem d_Mo_chain_188 : decode b_Mo_chain 188 = .ok (.iload 4, 2) := by decide +kernel
theorem d_Mo_chain_190 : decode b_Mo_chain 190 = .ok (.imul, 1) := by decide +kernel
theorem d_Mo_chain_191 : decode b_Mo_chain 191 = .ok (.iadd, 1) := by decide +kernel
theorem d_Mo_chain_192 : decode b_Mo_chain 192 = .ok (.iload 5, 2) := by decide +kernel
theorem d_Mo_chain_194 : decode b_Mo_chain 194 = .ok (.iadd, 1) := by decide +kernel
theorem d_Mo_chain_195 : decode b_Mo_chain 195 = .ok (.aload_n 0, 1) := by decide +kernel
theorem d_Mo_chain_196 : decode b_Mo_chain 196 = .ok (.getfield 19, 3) := by decide +kernel
theorem d_Mo_chain_199 : decode b_Mo_chain 199 = .ok (.iload 7, 2) := by decide +kernel
theorem d_Mo_chain_201 : decode b_Mo_chain 201 = .ok (.iaload, 1) := by decide +kernel
theorem d_Mo_chain_202 : decode b_Mo_chain 202 = .ok (.iastore, 1) := by decide +kernel
theorem d_Mo_chain_203 : decode b_Mo_chain 203 = .ok (.iinc 5 (1), 3) := by decide +kernel
theorem d_Mo_chain_206 : decode b_Mo_chain 206 = .ok (.goto (-130), 3) := by decide +kernel
theorem d_Mo_chain_209 : decode b_Mo_chain 209 = .ok (.iinc 4 (1), 3) := by decide +kernel
theorem d_Mo_chain_212 : decode b_Mo_chain 212 = .ok (.goto (-148), 3) := by decide +kernel
theorem d_Mo_chain_215 : decode b_Mo_chain 215 = .ok (.iload_n 3, 1) := by decide +kernel
theorem d_Mo_chain_216 : decode b_Mo_chain 216 = .ok (.ireturn, 1) := by decide +kernel
theorem d_Mo_letter_0 : decode b_Mo_letter 0 = .ok (.aload_n 0, 1) := by decide +kernel
theorem d_Mo_letter_1 : decode b_Mo_letter 1 = .ok (.iload_n 1, 1) := by decide +kernel
theorem d_Mo_letter_2 : decode b_Mo_letter 2 = .ok (.iconst 0, 1) := by decide +kernel
theorem d_Mo_letter_3 : decode b_Mo_letter 3 = .ok (.aload_n 0, 1) := by decide +kernel
theorem d_Mo_letter_4 : decode b_Mo_letter 4 = .ok (.getfield 94, 3) := by decide +kernel
theorem d_Mo_letter_7 : decode b_Mo_letter 7 = .ok (.iconst 1, 1) := by decide +kernel
theorem d_Mo_letter_8 : decode b_Mo_letter 8 = .ok (.isub, 1) := by decide +kernel
theorem d_Mo_letter_9 : decode b_Mo_letter 9 = .ok (.invokestatic 60, 3) := by decide +kernel
theorem d_Mo_letter_12 : decode b_Mo_letter 12 = .ok (.ifCond .eq (7), 3) := by decide +kernel
theorem d_Mo_letter_15 : decode b_Mo_letter 15 = .ok (.iconst 0, 1) := by decide +kernel
theorem d_Mo_letter_16 : decode b_Mo_letter 16 = .ok (.goto (4), 3) := by decide +kernel
theorem d_Mo_letter_19 : decode b_Mo_letter 19 = .ok (.iconst 1, 1) := by decide +kernel
theorem d_Mo_letter_20 : decode b_Mo_letter 20 = .ok (.putfield 53, 3) := by decide +kernel
theorem d_Mo_letter_23 : decode b_Mo_letter 23 = .ok (.aload_n 0, 1) := by decide +kernel
theorem d_Mo_letter_24 : decode b_Mo_letter 24 = .ok (.getfield 53, 3) := by decide +kernel
theorem d_Mo_letter_27 : decode b_Mo_letter 27 = .ok (.ifCond .ne (12), 3) := by decide +kernel
theorem d_Mo_letter_30 : decode b_Mo_letter 30 = .ok (.aload_n 0, 1) := by decide +kernel
theorem d_Mo_letter_31 : decode b_Mo_letter 31 = .ok (.getfield 22, 3) := by decide +kernel
theorem d_Mo_letter_34 : decode b_Mo_letter 34 = .ok (.iload_n 1, 1) := by decide +kernel
theorem d_Mo_letter_35 : decode b_Mo_letter 35 = .ok (.iaload, 1) := by decide +kernel
theorem d_Mo_letter_36 : decode b_Mo_letter 36 = .ok (.goto (4), 3) := by decide +kernel
theorem d_Mo_letter_39 : decode b_Mo_letter 39 = .ok (.iconst 0, 1) := by decide +kernel
theorem d_Mo_letter_40 : decode b_Mo_letter 40 = .ok (.ireturn, 1) := by decide +kernel
theorem d_Mo_along_0 : decode b_Mo_along 0 = .ok (.aload_n 0, 1) := by decide +kernel
theorem d_Mo_along_1 : decode b_Mo_along 1 = .ok (.iconst 0, 1) := by decide +kernel
theorem d_Mo_along_2 : decode b_Mo_along 2 = .ok (.putfield 53, 3) := by decide +kernel
theorem d_Mo_along_5 : decode b_Mo_along 5 = .ok (.aload_n 0, 1) := by decide +kernel
theorem d_Mo_along_6 : decode b_Mo_along 6 = .ok (.iload_n 1, 1) := by decide +kernel
theorem d_Mo_along_7 : decode b_Mo_along 7 = .ok (.iload_n 2, 1) := by decide +kernel
theorem d_Mo_along_8 : decode b_Mo_along 8 = .ok (.invokevirtual 72, 3) := by decide +kernel
theorem d_Mo_along_11 : decode b_Mo_along 11 = .ok (.ifCond .ne (5), 3) := by decide +kernel
theorem d_Mo_along_14 : decode b_Mo_along 14 = .ok (.iconst (-1), 1) := by decide +kernel
theorem d_Mo_along_15 : decode b_Mo_along 15 = .ok (.ireturn, 1) := by decide +kernel
theorem d_Mo_along_16 : decode b_Mo_along 16 = .ok (.iload_n 2, 1) := by decide +kernel
theorem d_Mo_along_17 : decode b_Mo_along 17 = .ok (.istore_n 3, 1) := by decide +kernel
theorem d_Mo_along_18 : decode b_Mo_along 18 = .ok (.iconst 0, 1) := by decide +kernel
theorem d_Mo_along_19 : decode b_Mo_along 19 = .ok (.istore 4, 2) := by decide +kernel
theorem d_Mo_along_21 : decode b_Mo_along 21 = .ok (.iload 4, 2) := by decide +kernel
theorem d_Mo_along_23 : decode b_Mo_along 23 = .ok (.aload_n 0, 1) := by decide +kernel
theorem d_Mo_along_24 : decode b_Mo_along 24 = .ok (.getfield 94, 3) := by decide +kernel
theorem d_Mo_along_27 : decode b_Mo_along 27 = .ok (.if_icmp .ge (50), 3) := by decide +kernel
theorem d_Mo_along_30 : decode b_Mo_along 30 = .ok (.aload_n 0, 1) := by decide +kernel
theorem d_Mo_along_31 : decode b_Mo_along 31 = .ok (.getfield 22, 3) := by decide +kernel
theorem d_Mo_along_34 : decode b_Mo_along 34 = .ok (.iload 4, 2) := by decide +kernel
theorem d_Mo_along_36 : decode b_Mo_along 36 = .ok (.iaload, 1) := by decide +kernel
theorem d_Mo_along_37 : decode b_Mo_along 37 = .ok (.aload_n 0, 1) := by decide +kernel
theorem d_Mo_along_38 : decode b_Mo_along 38 = .ok (.getfield 13, 3) := by decide +kernel
theorem d_Mo_along_41 : decode b_Mo_along 41 = .ok (.iload_n 1, 1) := by decide +kernel
theorem d_Mo_along_42 : decode b_Mo_along 42 = .ok (.iaload, 1) := by decide +kernel
theorem d_Mo_along_43 : decode b_Mo_along 43 = .ok (.if_icmp .lt (5), 3) := by decide +kernel
theorem d_Mo_along_46 : decode b_Mo_along 46 = .ok (.iconst (-1), 1) := by decide +kernel
theorem d_Mo_along_47 : decode b_Mo_along 47 = .ok (.ireturn, 1) := by decide +kernel
theorem d_Mo_along_48 : decode b_Mo_along 48 = .ok (.aload_n 0, 1) := by decide +kernel
theorem d_Mo_along_49 : decode b_Mo_along 49 = .ok (.getfield 16, 3) := by decide +kernel
theorem d_Mo_along_52 : decode b_Mo_along 52 = .ok (.sipush (160), 3) := by decide +kernel
theorem d_Mo_along_55 : decode b_Mo_along 55 = .ok (.iload_n 1, 1) := by decide +kernel
theorem d_Mo_along_56 : decode b_Mo_along 56 = .ok (.imul, 1) := by decide +kernel
theorem d_Mo_along_57 : decode b_Mo_along 57 = .ok (.iconst 4, 1) := by decide +kernel
theorem d_Mo_along_58 : decode b_Mo_along 58 = .ok (.iload_n 3, 1) := by decide +kernel
theorem d_Mo_along_59 : decode b_Mo_along 59 = .ok (.imul, 1) := by decide +kernel
theorem d_Mo_along_60 : decode b_Mo_along 60 = .ok (.iadd, 1) := by decide +kernel
theorem d_Mo_along_61 : decode b_Mo_along 61 = .ok (.aload_n 0, 1) := by decide +kernel
theorem d_Mo_along_62 : decode b_Mo_along 62 = .ok (.getfield 22, 3) := by decide +kernel
end
section
theorem d_Mo_along_65 : decode b_Mo_along 65 = .ok (.iload 4, 2) := by decide +kernel
theorem d_Mo_along_67 : decode b_Mo_along 67 = .ok (.iaload, 1) := by decide +kernel
theorem d_Mo_along_68 : decode b_Mo_along 68 = .ok (.iadd, 1) := by decide +kernel
theorem d_Mo_along_69 : decode b_Mo_along 69 = .ok (.iaload, 1) := by decide +kernel
theorem d_Mo_along_70 : decode b_Mo_along 70 = .ok (.istore_n 3, 1) := by decide +kernel
theorem d_Mo_along_71 : decode b_Mo_along 71 = .ok (.iinc 4 (1), 3) := by decide +kernel
theorem d_Mo_along_74 : decode b_Mo_along 74 = .ok (.goto (-53), 3) := by decide +kernel
theorem d_Mo_along_77 : decode b_Mo_along 77 = .ok (.iload_n 3, 1) := by decide +kernel
theorem d_Mo_along_78 : decode b_Mo_along 78 = .ok (.ireturn, 1) := by decide +kernel
theorem d_Mo_clear_0 : decode b_Mo_clear 0 = .ok (.aload_n 0, 1) := by decide +kernel
theorem d_Mo_clear_1 : decode b_Mo_clear 1 = .ok (.iconst 0, 1) := by decide +kernel
theorem d_Mo_clear_2 : decode b_Mo_clear 2 = .ok (.putfield 53, 3) := by decide +kernel
theorem d_Mo_clear_5 : decode b_Mo_clear 5 = .ok (.aload_n 0, 1) := by decide +kernel
theorem d_Mo_clear_6 : decode b_Mo_clear 6 = .ok (.iconst 0, 1) := by decide +kernel
theorem d_Mo_clear_7 : decode b_Mo_clear 7 = .ok (.putfield 57, 3) := by decide +kernel
theorem d_Mo_clear_10 : decode b_Mo_clear 10 = .ok (.return_, 1) := by decide +kernel
theorem d_Mo_total_0 : decode b_Mo_total 0 = .ok (.aload_n 0, 1) := by decide +kernel
theorem d_Mo_total_1 : decode b_Mo_total 1 = .ok (.iconst 0, 1) := by decide +kernel
theorem d_Mo_total_2 : decode b_Mo_total 2 = .ok (.putfield 53, 3) := by decide +kernel
theorem d_Mo_total_5 : decode b_Mo_total 5 = .ok (.iload_n 1, 1) := by decide +kernel
theorem d_Mo_total_6 : decode b_Mo_total 6 = .ok (.ifCond .ne (8), 3) := by decide +kernel
theorem d_Mo_total_9 : decode b_Mo_total 9 = .ok (.aload_n 0, 1) := by decide +kernel
theorem d_Mo_total_10 : decode b_Mo_total 10 = .ok (.getfield 57, 3) := by decide +kernel
theorem d_Mo_total_13 : decode b_Mo_total 13 = .ok (.ireturn, 1) := by decide +kernel
theorem d_Mo_total_14 : decode b_Mo_total 14 = .ok (.iload_n 1, 1) := by decide +kernel
theorem d_Mo_total_15 : decode b_Mo_total 15 = .ok (.iconst 1, 1) := by decide +kernel
theorem d_Mo_total_16 : decode b_Mo_total 16 = .ok (.if_icmp .ne (8), 3) := by decide +kernel
theorem d_Mo_total_19 : decode b_Mo_total 19 = .ok (.aload_n 0, 1) := by decide +kernel
theorem d_Mo_total_20 : decode b_Mo_total 20 = .ok (.getfield 94, 3) := by decide +kernel
theorem d_Mo_total_23 : decode b_Mo_total 23 = .ok (.ireturn, 1) := by decide +kernel
theorem d_Mo_total_24 : decode b_Mo_total 24 = .ok (.iload_n 1, 1) := by decide +kernel
theorem d_Mo_total_25 : decode b_Mo_total 25 = .ok (.sipush (200), 3) := by decide +kernel
theorem d_Mo_total_28 : decode b_Mo_total 28 = .ok (.if_icmp .lt (30), 3) := by decide +kernel
theorem d_Mo_total_31 : decode b_Mo_total 31 = .ok (.aload_n 0, 1) := by decide +kernel
theorem d_Mo_total_32 : decode b_Mo_total 32 = .ok (.iload_n 1, 1) := by decide +kernel
theorem d_Mo_total_33 : decode b_Mo_total 33 = .ok (.sipush (200), 3) := by decide +kernel
theorem d_Mo_total_36 : decode b_Mo_total 36 = .ok (.isub, 1) := by decide +kernel
theorem d_Mo_total_37 : decode b_Mo_total 37 = .ok (.invokevirtual 64, 3) := by decide +kernel
theorem d_Mo_total_40 : decode b_Mo_total 40 = .ok (.ifCond .eq (16), 3) := by decide +kernel
theorem d_Mo_total_43 : decode b_Mo_total 43 = .ok (.aload_n 0, 1) := by decide +kernel
theorem d_Mo_total_44 : decode b_Mo_total 44 = .ok (.getfield 13, 3) := by decide +kernel
theorem d_Mo_total_47 : decode b_Mo_total 47 = .ok (.iload_n 1, 1) := by decide +kernel
theorem d_Mo_total_48 : decode b_Mo_total 48 = .ok (.sipush (200), 3) := by decide +kernel
theorem d_Mo_total_51 : decode b_Mo_total 51 = .ok (.isub, 1) := by decide +kernel
theorem d_Mo_total_52 : decode b_Mo_total 52 = .ok (.iaload, 1) := by decide +kernel
theorem d_Mo_total_53 : decode b_Mo_total 53 = .ok (.goto (4), 3) := by decide +kernel
theorem d_Mo_total_56 : decode b_Mo_total 56 = .ok (.iconst (-1), 1) := by decide +kernel
theorem d_Mo_total_57 : decode b_Mo_total 57 = .ok (.ireturn, 1) := by decide +kernel
theorem d_Mo_total_58 : decode b_Mo_total 58 = .ok (.aload_n 0, 1) := by decide +kernel
theorem d_Mo_total_59 : decode b_Mo_total 59 = .ok (.iload_n 1, 1) := by decide +kernel
theorem d_Mo_total_60 : decode b_Mo_total 60 = .ok (.bipush (100), 2) := by decide +kernel
theorem d_Mo_total_62 : decode b_Mo_total 62 = .ok (.isub, 1) := by decide +kernel
theorem d_Mo_total_63 : decode b_Mo_total 63 = .ok (.invokevirtual 64, 3) := by decide +kernel
theorem d_Mo_total_66 : decode b_Mo_total 66 = .ok (.ifCond .eq (15), 3) := by decide +kernel
theorem d_Mo_total_69 : decode b_Mo_total 69 = .ok (.aload_n 0, 1) := by decide +kernel
theorem d_Mo_total_70 : decode b_Mo_total 70 = .ok (.getfield 7, 3) := by decide +kernel
theorem d_Mo_total_73 : decode b_Mo_total 73 = .ok (.iload_n 1, 1) := by decide +kernel
theorem d_Mo_total_74 : decode b_Mo_total 74 = .ok (.bipush (100), 2) := by decide +kernel
theorem d_Mo_total_76 : decode b_Mo_total 76 = .ok (.isub, 1) := by decide +kernel
theorem d_Mo_total_77 : decode b_Mo_total 77 = .ok (.iaload, 1) := by decide +kernel
theorem d_Mo_total_78 : decode b_Mo_total 78 = .ok (.goto (4), 3) := by decide +kernel
theorem d_Mo_total_81 : decode b_Mo_total 81 = .ok (.iconst (-1), 1) := by decide +kernel
theorem d_Mo_total_82 : decode b_Mo_total 82 = .ok (.ireturn, 1) := by decide +kernel
end
section
theorem d_Se_init_0 : decode b_Se_init 0 = .ok (.aload_n 0, 1) := by decide +kernel
theorem d_Se_init_1 : decode b_Se_init 1 = .ok (.invokespecial 3, 3) := by decide +kernel
theorem d_Se_init_4 : decode b_Se_init 4 = .ok (.aload_n 0, 1) := by decide +kernel
theorem d_Se_init_5 : decode b_Se_init 5 = .ok (.sipush (4096), 3) := by decide +kernel
theorem d_Se_init_8 : decode b_Se_init 8 = .ok (.newarray .int, 2) := by decide +kernel
theorem d_Se_init_10 : decode b_Se_init 10 = .ok (.putfield 9, 3) := by decide +kernel
theorem d_Se_init_13 : decode b_Se_init 13 = .ok (.aload_n 0, 1) := by decide +kernel
theorem d_Se_init_14 : decode b_Se_init 14 = .ok (.sipush (4096), 3) := by decide +kernel
theorem d_Se_init_17 : decode b_Se_init 17 = .ok (.newarray .int, 2) := by decide +kernel
theorem d_Se_init_19 : decode b_Se_init 19 = .ok (.putfield 15, 3) := by decide +kernel
theorem d_Se_init_22 : decode b_Se_init 22 = .ok (.aload_n 0, 1) := by decide +kernel
theorem d_Se_init_23 : decode b_Se_init 23 = .ok (.sipush (4096), 3) := by decide +kernel
theorem d_Se_init_26 : decode b_Se_init 26 = .ok (.newarray .int, 2) := by decide +kernel
theorem d_Se_init_28 : decode b_Se_init 28 = .ok (.putfield 18, 3) := by decide +kernel
theorem d_Se_init_31 : decode b_Se_init 31 = .ok (.return_, 1) := by decide +kernel
theorem d_Se_begin_0 : decode b_Se_begin 0 = .ok (.aload_n 0, 1) := by decide +kernel
theorem d_Se_begin_1 : decode b_Se_begin 1 = .ok (.getfield 9, 3) := by decide +kernel
theorem d_Se_begin_4 : decode b_Se_begin 4 = .ok (.iconst 0, 1) := by decide +kernel
theorem d_Se_begin_5 : decode b_Se_begin 5 = .ok (.iload_n 1, 1) := by decide +kernel
theorem d_Se_begin_6 : decode b_Se_begin 6 = .ok (.iconst (-1), 1) := by decide +kernel
theorem d_Se_begin_7 : decode b_Se_begin 7 = .ok (.invokestatic 21, 3) := by decide +kernel
theorem d_Se_begin_10 : decode b_Se_begin 10 = .ok (.aload_n 0, 1) := by decide +kernel
theorem d_Se_begin_11 : decode b_Se_begin 11 = .ok (.iconst 0, 1) := by decide +kernel
theorem d_Se_begin_12 : decode b_Se_begin 12 = .ok (.putfield 27, 3) := by decide +kernel
theorem d_Se_begin_15 : decode b_Se_begin 15 = .ok (.return_, 1) := by decide +kernel
theorem d_Se_reach_0 : decode b_Se_reach 0 = .ok (.aload_n 0, 1) := by decide +kernel
theorem d_Se_reach_1 : decode b_Se_reach 1 = .ok (.getfield 9, 3) := by decide +kernel
theorem d_Se_reach_4 : decode b_Se_reach 4 = .ok (.iload_n 1, 1) := by decide +kernel
theorem d_Se_reach_5 : decode b_Se_reach 5 = .ok (.iaload, 1) := by decide +kernel
theorem d_Se_reach_6 : decode b_Se_reach 6 = .ok (.iconst (-1), 1) := by decide +kernel
theorem d_Se_reach_7 : decode b_Se_reach 7 = .ok (.if_icmp .ne (25), 3) := by decide +kernel
theorem d_Se_reach_10 : decode b_Se_reach 10 = .ok (.aload_n 0, 1) := by decide +kernel
theorem d_Se_reach_11 : decode b_Se_reach 11 = .ok (.getfield 15, 3) := by decide +kernel
theorem d_Se_reach_14 : decode b_Se_reach 14 = .ok (.aload_n 0, 1) := by decide +kernel
theorem d_Se_reach_15 : decode b_Se_reach 15 = .ok (.getfield 27, 3) := by decide +kernel
theorem d_Se_reach_18 : decode b_Se_reach 18 = .ok (.iload_n 1, 1) := by decide +kernel
theorem d_Se_reach_19 : decode b_Se_reach 19 = .ok (.iastore, 1) := by decide +kernel
theorem d_Se_reach_20 : decode b_Se_reach 20 = .ok (.aload_n 0, 1) := by decide +kernel
theorem d_Se_reach_21 : decode b_Se_reach 21 = .ok (.getfield 9, 3) := by decide +kernel
theorem d_Se_reach_24 : decode b_Se_reach 24 = .ok (.iload_n 1, 1) := by decide +kernel
theorem d_Se_reach_25 : decode b_Se_reach 25 = .ok (.aload_n 0, 1) := by decide +kernel
theorem d_Se_reach_26 : decode b_Se_reach 26 = .ok (.iload_n 2, 1) := by decide +kernel
theorem d_Se_reach_27 : decode b_Se_reach 27 = .ok (.iload_n 3, 1) := by decide +kernel
theorem d_Se_reach_28 : decode b_Se_reach 28 = .ok (.invokevirtual 31, 3) := by decide +kernel
theorem d_Se_reach_31 : decode b_Se_reach 31 = .ok (.iastore, 1) := by decide +kernel
theorem d_Se_reach_32 : decode b_Se_reach 32 = .ok (.return_, 1) := by decide +kernel
theorem d_Se_note_0 : decode b_Se_note 0 = .ok (.aload_n 0, 1) := by decide +kernel
theorem d_Se_note_1 : decode b_Se_note 1 = .ok (.getfield 18, 3) := by decide +kernel
theorem d_Se_note_4 : decode b_Se_note 4 = .ok (.aload_n 0, 1) := by decide +kernel
theorem d_Se_note_5 : decode b_Se_note 5 = .ok (.getfield 27, 3) := by decide +kernel
theorem d_Se_note_8 : decode b_Se_note 8 = .ok (.iload_n 1, 1) := by decide +kernel
theorem d_Se_note_9 : decode b_Se_note 9 = .ok (.iconst 4, 1) := by decide +kernel
theorem d_Se_note_10 : decode b_Se_note 10 = .ok (.imul, 1) := by decide +kernel
theorem d_Se_note_11 : decode b_Se_note 11 = .ok (.iload_n 2, 1) := by decide +kernel
theorem d_Se_note_12 : decode b_Se_note 12 = .ok (.iadd, 1) := by decide +kernel
theorem d_Se_note_13 : decode b_Se_note 13 = .ok (.iastore, 1) := by decide +kernel
theorem d_Se_note_14 : decode b_Se_note 14 = .ok (.aload_n 0, 1) := by decide +kernel
theorem d_Se_note_15 : decode b_Se_note 15 = .ok (.dup, 1) := by decide +kernel
theorem d_Se_note_16 : decode b_Se_note 16 = .ok (.getfield 27, 3) := by decide +kernel
theorem d_Se_note_19 : decode b_Se_note 19 = .ok (.iconst 1, 1) := by decide +kernel
theorem d_Se_note_20 : decode b_Se_note 20 = .ok (.iadd, 1) := by decide +kernel
theorem d_Se_note_21 : decode b_Se_note 21 = .ok (.putfield 27, 3) := by decide +kernel
theorem d_Se_note_24 : decode b_Se_note 24 = .ok (.aload_n 0, 1) := by decide +kernel
theorem d_Se_note_25 : decode b_Se_note 25 = .ok (.getfield 27, 3) := by decide +kernel
theorem d_Se_note_28 : decode b_Se_note 28 = .ok (.iconst 1, 1) := by decide +kernel
theorem d_Se_note_29 : decode b_Se_note 29 = .ok (.isub, 1) := by decide +kernel
theorem d_Se_note_30 : decode b_Se_note 30 = .ok (.ireturn, 1) := by decide +kernel
theorem d_Se_placeAt_0 : decode b_Se_placeAt 0 = .ok (.aload_n 0, 1) := by decide +kernel
theorem d_Se_placeAt_1 : decode b_Se_placeAt 1 = .ok (.getfield 15, 3) := by decide +kernel
theorem d_Se_placeAt_4 : decode b_Se_placeAt 4 = .ok (.iload_n 1, 1) := by decide +kernel
theorem d_Se_placeAt_5 : decode b_Se_placeAt 5 = .ok (.iaload, 1) := by decide +kernel
theorem d_Se_placeAt_6 : decode b_Se_placeAt 6 = .ok (.ireturn, 1) := by decide +kernel
theorem d_Se_numberOf_0 : decode b_Se_numberOf 0 = .ok (.aload_n 0, 1) := by decide +kernel
theorem d_Se_numberOf_1 : decode b_Se_numberOf 1 = .ok (.getfield 9, 3) := by decide +kernel
theorem d_Se_numberOf_4 : decode b_Se_numberOf 4 = .ok (.iload_n 1, 1) := by decide +kernel
theorem d_Se_numberOf_5 : decode b_Se_numberOf 5 = .ok (.iaload, 1) := by decide +kernel
theorem d_Se_numberOf_6 : decode b_Se_numberOf 6 = .ok (.ireturn, 1) := by decide +kernel
theorem d_Se_wordTo_0 : decode b_Se_wordTo 0 = .ok (.iconst 0, 1) := by decide +kernel
theorem d_Se_wordTo_1 : decode b_Se_wordTo 1 = .ok (.istore_n 2, 1) := by decide +kernel
theorem d_Se_wordTo_2 : decode b_Se_wordTo 2 = .ok (.iload_n 1, 1) := by decide +kernel
theorem d_Se_wordTo_3 : decode b_Se_wordTo 3 = .ok (.istore_n 3, 1) := by decide +kernel
theorem d_Se_wordTo_4 : decode b_Se_wordTo 4 = .ok (.iload_n 3, 1) := by decide +kernel
theorem d_Se_wordTo_5 : decode b_Se_wordTo 5 = .ok (.ifCond .le (25), 3) := by decide +kernel
theorem d_Se_wordTo_8 : decode b_Se_wordTo 8 = .ok (.iload_n 2, 1) := by decide +kernel
theorem d_Se_wordTo_9 : decode b_Se_wordTo 9 = .ok (.sipush (4096), 3) := by decide +kernel
theorem d_Se_wordTo_12 : decode b_Se_wordTo 12 = .ok (.if_icmp .ge (18), 3) := by decide +kernel
theorem d_Se_wordTo_15 : decode b_Se_wordTo 15 = .ok (.iinc 2 (1), 3) := by decide +kernel
theorem d_Se_wordTo_18 : decode b_Se_wordTo 18 = .ok (.aload_n 0, 1) := by decide +kernel
theorem d_Se_wordTo_19 : decode b_Se_wordTo 19 = .ok (.getfield 18, 3) := by decide +kernel
theorem d_Se_wordTo_22 : decode b_Se_wordTo 22 = .ok (.iload_n 3, 1) := by decide +kernel
theorem d_Se_wordTo_23 : decode b_Se_wordTo 23 = .ok (.iaload, 1) := by decide +kernel
theorem d_Se_wordTo_24 : decode b_Se_wordTo 24 = .ok (.iconst 4, 1) := by decide +kernel
theorem d_Se_wordTo_25 : decode b_Se_wordTo 25 = .ok (.idiv, 1) := by decide +kernel
theorem d_Se_wordTo_26 : decode b_Se_wordTo 26 = .ok (.istore_n 3, 1) := by decide +kernel
theorem d_Se_wordTo_27 : decode b_Se_wordTo 27 = .ok (.goto (-23), 3) := by decide +kernel
theorem d_Se_wordTo_30 : decode b_Se_wordTo 30 = .ok (.iload_n 2, 1) := by decide +kernel
theorem d_Se_wordTo_31 : decode b_Se_wordTo 31 = .ok (.newarray .int, 2) := by decide +kernel
theorem d_Se_wordTo_33 : decode b_Se_wordTo 33 = .ok (.astore_n 3, 1) := by decide +kernel
theorem d_Se_wordTo_34 : decode b_Se_wordTo 34 = .ok (.iload_n 1, 1) := by decide +kernel
theorem d_Se_wordTo_35 : decode b_Se_wordTo 35 = .ok (.istore 4, 2) := by decide +kernel
theorem d_Se_wordTo_37 : decode b_Se_wordTo 37 = .ok (.iload_n 2, 1) := by decide +kernel
theorem d_Se_wordTo_38 : decode b_Se_wordTo 38 = .ok (.iconst 1, 1) := by decide +kernel
theorem d_Se_wordTo_39 : decode b_Se_wordTo 39 = .ok (.isub, 1) := by decide +kernel
theorem d_Se_wordTo_40 : decode b_Se_wordTo 40 = .ok (.istore 5, 2) := by decide +kernel
theorem d_Se_wordTo_42 : decode b_Se_wordTo 42 = .ok (.iload 5, 2) := by decide +kernel
theorem d_Se_wordTo_44 : decode b_Se_wordTo 44 = .ok (.ifCond .lt (33), 3) := by decide +kernel
theorem d_Se_wordTo_47 : decode b_Se_wordTo 47 = .ok (.aload_n 3, 1) := by decide +kernel
theorem d_Se_wordTo_48 : decode b_Se_wordTo 48 = .ok (.iload 5, 2) := by decide +kernel
theorem d_Se_wordTo_50 : decode b_Se_wordTo 50 = .ok (.aload_n 0, 1) := by decide +kernel
theorem d_Se_wordTo_51 : decode b_Se_wordTo 51 = .ok (.getfield 18, 3) := by decide +kernel
theorem d_Se_wordTo_54 : decode b_Se_wordTo 54 = .ok (.iload 4, 2) := by decide +kernel
theorem d_Se_wordTo_56 : decode b_Se_wordTo 56 = .ok (.iaload, 1) := by decide +kernel
theorem d_Se_wordTo_57 : decode b_Se_wordTo 57 = .ok (.iconst 4, 1) := by decide +kernel
theorem d_Se_wordTo_58 : decode b_Se_wordTo 58 = .ok (.irem, 1) := by decide +kernel
theorem d_Se_wordTo_59 : decode b_Se_wordTo 59 = .ok (.iastore, 1) := by decide +kernel
theorem d_Se_wordTo_60 : decode b_Se_wordTo 60 = .ok (.aload_n 0, 1) := by decide +kernel
theorem d_Se_wordTo_61 : decode b_Se_wordTo 61 = .ok (.getfield 18, 3) := by decide +kernel
theorem d_Se_wordTo_64 : decode b_Se_wordTo 64 = .ok (.iload 4, 2) := by decide +kernel
theorem d_Se_wordTo_66 : decode b_Se_wordTo 66 = .ok (.iaload, 1) := by decide +kernel
theorem d_Se_wordTo_67 : decode b_Se_wordTo 67 = .ok (.iconst 4, 1) := by decide +kernel
theorem d_Se_wordTo_68 : decode b_Se_wordTo 68 = .ok (.idiv, 1) := by decide +kernel
theorem d_Se_wordTo_69 : decode b_Se_wordTo 69 = .ok (.istore 4, 2) := by decide +kernel
theorem d_Se_wordTo_71 : decode b_Se_wordTo 71 = .ok (.iinc 5 (-1), 3) := by decide +kernel
theorem d_Se_wordTo_74 : decode b_Se_wordTo 74 = .ok (.goto (-32), 3) := by decide +kernel
theorem d_Se_wordTo_77 : decode b_Se_wordTo 77 = .ok (.aload_n 3, 1) := by decide +kernel
theorem d_Se_wordTo_78 : decode b_Se_wordTo 78 = .ok (.areturn, 1) := by decide +kernel
end
section
/-! ===== MY BASE: a walk over one pool of cells (L, f), locals by place ===== -/
/-- launch, the numbers of the classes and slots, the array classes, the first address that is ours -/
abbrev GT : Type := Launch × va_G × (Nat → ClassId) × Nat
/-- what stays along a walk: program, env, start, method id, arguments, frames below, method, code, goal -/
abbrev XT : Type := Program × Env × State × MethodId × Array Value × List Frame × Method × Code × (State → Prop)
abbrev gB (G : GT) : Nat → Prop := fun q => G.2.2.2 ≤ q
def oI : Option Nat → Int32
  | none => -1
  | some k => nI k
def bI (b : Bool) : Int32 := if b then 1 else 0
abbrev aI (G : GT) (N : Nat) (g : Nat → Nat) : va_E := .inl (G.2.2.1 0, N, .inl (fun k => nI (g k)))
abbrev aO (G : GT) (N : Nat) (g : Nat → Option Nat) : va_E := .inl (G.2.2.1 0, N, .inl (fun k => oI (g k)))
abbrev aB (G : GT) (N : Nat) (g : Nat → Bool) : va_E := .inl (G.2.2.1 1, N, .inl (fun k => bI (g k)))
abbrev aQ (G : GT) (N : Nat) (g : Nat → Option Nat) : va_E := .inl (G.2.2.1 2, N, .inr (.inr (.inr (.inr g))))
def vl_has (ls : Array Slot) (nL : Nat) (lv : List (Option Value)) : Prop := ls.size = nL ∧ lv_wf ls ∧ ∀ (i : Nat) (v : Value), lv[i]? = some (some v) → v.category = 1 ∧ ls[i]? = some (.val v)
def gP (G : GT) (L : List Nat) (f : Nat → va_E) (H : Heap) : Prop := va_P G.2.1 CL (va_pl L f) H ∧ va_D (gB G) (va_pl L f)
/-- the classes, the array classes, the nest words at a state -/
def gK (G : GT) (U : State) : Prop := va_K G.2.1 CL (TY G.2.2.1) U ∧ ∀ w ∈ NW, va_Nw w U
def V (G : GT) (R : Room) (nL : Nat) (x : XT) (L : List Nat) (f : Nat → va_E) (k n : Nat) (lv : List (Option Value)) (pc : Nat) (st : List Value) : Prop :=
  ∀ (H : Heap) (locs : List Loc) (ls : Array Slot), gP G L f H → va_S (gB G) x.2.2.1.heap H locs → vl_has ls nL lv → W x.1 G.1 x.2.1 R x.2.2.1 x.2.2.2.1 x.2.2.2.2.1 x.2.2.2.2.2.1 x.2.2.2.2.2.2.1 x.2.2.2.2.2.2.2.1 H locs k n x.2.2.2.2.2.2.2.2 (F0 x.2.2.2.1 pc ls st)
/-- what is known of a walk: the machine, the bytes, the words, the classes -/
def KX (G : GT) (nL : Nat) (x : XT) (cc : ByteArray) (own : String) : Prop :=
  x.1.tables.exec = Jvm.exec ∧ x.2.2.2.2.2.2.2.1.code = cc ∧ x.2.2.2.2.2.2.2.1.maxLocals = nL ∧ x.2.2.1.vm.findClass own = some x.2.2.2.1.cls ∧ (∀ w ∈ BIG, w.before x.2.2.2.2.1 x.2.2.1 = true) ∧ gK G x.2.2.1 ∧ G.2.2.2 ≤ x.2.2.1.heap.size ∧ x.2.2.2.2.2.2.1.locks = false
def cPre (G : GT) (as : List Value) (L : List Nat) (f : Nat → va_E) : Array Value → State → Prop := fun v U => v = as.toArray ∧ G.2.2.2 ≤ U.heap.size ∧ gP G L f U.heap ∧ gK G U
def cPost (G : GT) (Post : Option Value → List Nat → (Nat → va_E) → Prop) : Array Value → State → Outcome → State → Prop := fun _ st oc t => (∃ (v : Option Value) (L' : List Nat) (f' : Nat → va_E), oc = .returned v ∧ Post v L' f' ∧ gP G L' f' t.heap) ∧ va_F (gB G) st t
/-- a method's contract over the pool -/
def Con (G : GT) (y : MethodName) (ws : List Cond) (fr lo mc ms : Nat) (as : List Value) (L : List Nat) (f : Nat → va_E) (Post : Option Value → List Nat → (Nat → va_E) → Prop) : Prop :=
  Met G.1 y ws { frames := fr, cells := mc, slots := ms, locals := lo } (cPre G as L f) (cPost G Post) mc ms (gB G)
/-- the walk's goal is a contract's -/
def RX (G : GT) (x : XT) (Post : Option Value → List Nat → (Nat → va_E) → Prop) (mc ms : Nat) (ret : Option FieldType) : Prop :=
  x.2.2.2.2.2.2.2.2 = MQ x.2.2.2.2.2.1 (cPost G Post) x.2.2.2.2.1 x.2.2.1 mc ms (gB G) ∧ x.2.2.2.2.2.2.1.sig.returnType = ret
def vl_pl (lv : List (Option Value)) : List (Nat × Value) := (List.range lv.length).filterMap (fun i => match lv[i]? with | some (some v) => some (i, v) | _ => none)
theorem vl_pl_mem {lv : List (Option Value)} {j : Nat} {w : Value} : (j, w) ∈ vl_pl lv ↔ lv[j]? = some (some w) := by
  unfold vl_pl
  rw [List.mem_filterMap]
  constructor
  · rintro ⟨i, -, h⟩
    split at h
    · rename_i v hv
      cases h
      exact hv
    · cases h
  · intro h
    refine ⟨j, List.mem_range.mpr ?_, ?_⟩
    · exact (List.getElem?_eq_some_iff.mp h).1
    · rw [h]
theorem vl_has.lv {ls : Array Slot} {nL : Nat} {lv : List (Option Value)} (h : vl_has ls nL lv) : lv_has ls nL (vl_pl lv) := ⟨h.1, h.2.1, fun q hq => (h.2.2 q.1 q.2 (vl_pl_mem.mp hq)).2⟩
theorem vl_has.put {ls ls' : Array Slot} {nL i : Nat} {lv : List (Option Value)} {v : Value} (h : vl_has ls nL lv) (hv : v.category = 1) (h' : lv_has ls' nL ((i, v) :: (vl_pl lv).filter (fun q => !(q.1 == i) && !(q.1 + 1 == i && q.2.category == 2)))) : vl_has ls' nL (lv.set i (some v)) := by
  refine ⟨h'.1, h'.2.1, fun j w hj => ?_⟩
  rw [List.getElem?_set] at hj
  by_cases e : i = j
  · subst e
    rw [if_pos rfl] at hj
    split at hj
    · cases hj
      exact ⟨hv, h'.2.2 (i, v) List.mem_cons_self⟩
    · cases hj
  · rw [if_neg e] at hj
    have hc := (h.2.2 j w hj).1
    refine ⟨hc, h'.2.2 (j, w) (List.mem_cons_of_mem _ (List.mem_filter.mpr ⟨vl_pl_mem.mpr hj, ?_⟩))⟩
    have e1 : (j == i) = false := by simpa using fun h => e h.symm
    simp [e1, hc]
section VROWS
variable {G : GT} {R : Room} {nL : Nat} {x : XT} {cc : ByteArray} {own : String} {L : List Nat} {f : Nat → va_E} {k n : Nat} {lv : List (Option Value)} {pc : Nat} {rest : List Value}
theorem v_iconst (hx : KX G nL x cc own) {z : Int} {v : Int32} (hd : decode cc pc = .ok (.iconst z, 1)) (hv : Int32.ofInt z = v) (kk : V G R nL x L f k n lv (pc + 1) (.int v :: rest)) : V G R nL x L f k n lv pc (rest) := fun H locs ls hP hS hl => lv_iconst hx.1 hx.2.1 hd hv (kk H locs ls hP hS hl)
theorem v_bipush (hx : KX G nL x cc own) {z : Int} {v : Int32} (hd : decode cc pc = .ok (.bipush z, 2)) (hv : (Int8.ofInt z).toInt32 = v) (kk : V G R nL x L f k n lv (pc + 2) (.int v :: rest)) : V G R nL x L f k n lv pc (rest) := fun H locs ls hP hS hl => lv_bipush hx.1 hx.2.1 hd hv (kk H locs ls hP hS hl)
theorem v_sipush (hx : KX G nL x cc own) {z : Int} {v : Int32} (hd : decode cc pc = .ok (.sipush z, 3)) (hv : (Int16.ofInt z).toInt32 = v) (kk : V G R nL x L f k n lv (pc + 3) (.int v :: rest)) : V G R nL x L f k n lv pc (rest) := fun H locs ls hP hS hl => lv_sipush hx.1 hx.2.1 hd hv (kk H locs ls hP hS hl)
theorem v_null (hx : KX G nL x cc own)  (hd : decode cc pc = .ok (.aconst_null, 1))  (kk : V G R nL x L f k n lv (pc + 1) (.null :: rest)) : V G R nL x L f k n lv pc (rest) := fun H locs ls hP hS hl => lv_null hx.1 hx.2.1 hd (kk H locs ls hP hS hl)
theorem v_iload_n (hx : KX G nL x cc own) {j : Fin 4} {i : Nat} {v : Int32} (hd : decode cc pc = .ok (.iload_n j, 1)) (hi : (j : Nat) = i) (hv : lv[i]? = some (some (.int v))) (kk : V G R nL x L f k n lv (pc + 1) (.int v :: rest)) : V G R nL x L f k n lv pc (rest) := fun H locs ls hP hS hl => lv_iload_n hx.1 hx.2.1 hd hi (hl.2.2 i _ hv).2 (kk H locs ls hP hS hl)
theorem v_iload (hx : KX G nL x cc own) {i : Nat} {v : Int32} (hd : decode cc pc = .ok (.iload i, 2)) (hv : lv[i]? = some (some (.int v))) (kk : V G R nL x L f k n lv (pc + 2) (.int v :: rest)) : V G R nL x L f k n lv pc (rest) := fun H locs ls hP hS hl => lv_iload hx.1 hx.2.1 hd (hl.2.2 i _ hv).2 (kk H locs ls hP hS hl)
theorem v_aload_n (hx : KX G nL x cc own) {j : Fin 4} {i : Nat} {v : Nat} (hd : decode cc pc = .ok (.aload_n j, 1)) (hi : (j : Nat) = i) (hv : lv[i]? = some (some (.ref v))) (kk : V G R nL x L f k n lv (pc + 1) (.ref v :: rest)) : V G R nL x L f k n lv pc (rest) := fun H locs ls hP hS hl => lv_aload_n hx.1 hx.2.1 hd hi (hl.2.2 i _ hv).2 (kk H locs ls hP hS hl)
theorem v_aload (hx : KX G nL x cc own) {i : Nat} {v : Nat} (hd : decode cc pc = .ok (.aload i, 2)) (hv : lv[i]? = some (some (.ref v))) (kk : V G R nL x L f k n lv (pc + 2) (.ref v :: rest)) : V G R nL x L f k n lv pc (rest) := fun H locs ls hP hS hl => lv_aload hx.1 hx.2.1 hd (hl.2.2 i _ hv).2 (kk H locs ls hP hS hl)
theorem v_aload_nN (hx : KX G nL x cc own) {j : Fin 4} {i : Nat} (hd : decode cc pc = .ok (.aload_n j, 1)) (hi : (j : Nat) = i) (hv : lv[i]? = some (some .null)) (kk : V G R nL x L f k n lv (pc + 1) (.null :: rest)) : V G R nL x L f k n lv pc (rest) := fun H locs ls hP hS hl => lv_aload_nN hx.1 hx.2.1 hd hi (hl.2.2 i _ hv).2 (kk H locs ls hP hS hl)
theorem v_aloadN (hx : KX G nL x cc own) {i : Nat} (hd : decode cc pc = .ok (.aload i, 2)) (hv : lv[i]? = some (some .null)) (kk : V G R nL x L f k n lv (pc + 2) (.null :: rest)) : V G R nL x L f k n lv pc (rest) := fun H locs ls hP hS hl => lv_aloadN hx.1 hx.2.1 hd (hl.2.2 i _ hv).2 (kk H locs ls hP hS hl)
theorem v_istore_n (hx : KX G nL x cc own) {j : Fin 4} {i : Nat} {v : Int32} (hd : decode cc pc = .ok (.istore_n j, 1)) (hi : (j : Nat) = i) (hn : i < nL) {lv' : List (Option Value)} (he : lv.set i (some (.int v)) = lv') (kk : V G R nL x L f k n lv' (pc + 1) rest) : V G R nL x L f k n lv pc (.int v :: rest) := fun H locs ls hP hS hl => lv_istore_n hx.1 hx.2.1 hd hi hl.lv hn rfl (fun ls' hl' => kk H locs ls' hP hS (he ▸ hl.put rfl hl'))
theorem v_istore (hx : KX G nL x cc own) {i : Nat} {v : Int32} (hd : decode cc pc = .ok (.istore i, 2)) (hn : i < nL) {lv' : List (Option Value)} (he : lv.set i (some (.int v)) = lv') (kk : V G R nL x L f k n lv' (pc + 2) rest) : V G R nL x L f k n lv pc (.int v :: rest) := fun H locs ls hP hS hl => lv_istore hx.1 hx.2.1 hd hl.lv hn rfl (fun ls' hl' => kk H locs ls' hP hS (he ▸ hl.put rfl hl'))
theorem v_astore_n (hx : KX G nL x cc own) {j : Fin 4} {i : Nat} {v : Nat} (hd : decode cc pc = .ok (.astore_n j, 1)) (hi : (j : Nat) = i) (hn : i < nL) {lv' : List (Option Value)} (he : lv.set i (some (.ref v)) = lv') (kk : V G R nL x L f k n lv' (pc + 1) rest) : V G R nL x L f k n lv pc (.ref v :: rest) := fun H locs ls hP hS hl => lv_astore_n hx.1 hx.2.1 hd hi hl.lv hn rfl (fun ls' hl' => kk H locs ls' hP hS (he ▸ hl.put rfl hl'))
theorem v_astore (hx : KX G nL x cc own) {i : Nat} {v : Nat} (hd : decode cc pc = .ok (.astore i, 2)) (hn : i < nL) {lv' : List (Option Value)} (he : lv.set i (some (.ref v)) = lv') (kk : V G R nL x L f k n lv' (pc + 2) rest) : V G R nL x L f k n lv pc (.ref v :: rest) := fun H locs ls hP hS hl => lv_astore hx.1 hx.2.1 hd hl.lv hn rfl (fun ls' hl' => kk H locs ls' hP hS (he ▸ hl.put rfl hl'))
theorem v_astore_nN (hx : KX G nL x cc own) {j : Fin 4} {i : Nat} (hd : decode cc pc = .ok (.astore_n j, 1)) (hi : (j : Nat) = i) (hn : i < nL) {lv' : List (Option Value)} (he : lv.set i (some .null) = lv') (kk : V G R nL x L f k n lv' (pc + 1) rest) : V G R nL x L f k n lv pc (.null :: rest) := fun H locs ls hP hS hl => lv_astore_nN hx.1 hx.2.1 hd hi hl.lv hn rfl (fun ls' hl' => kk H locs ls' hP hS (he ▸ hl.put rfl hl'))
theorem v_astoreN (hx : KX G nL x cc own) {i : Nat} (hd : decode cc pc = .ok (.astore i, 2)) (hn : i < nL) {lv' : List (Option Value)} (he : lv.set i (some .null) = lv') (kk : V G R nL x L f k n lv' (pc + 2) rest) : V G R nL x L f k n lv pc (.null :: rest) := fun H locs ls hP hS hl => lv_astoreN hx.1 hx.2.1 hd hl.lv hn rfl (fun ls' hl' => kk H locs ls' hP hS (he ▸ hl.put rfl hl'))
theorem v_iinc (hx : KX G nL x cc own) {i : Nat} {z : Int} {a v : Int32} (hd : decode cc pc = .ok (.iinc i z, 3)) (ha : lv[i]? = some (some (.int a))) (hv : a + Int32.ofInt z = v) (hn : i < nL) {lv' : List (Option Value)} (he : lv.set i (some (.int v)) = lv') (kk : V G R nL x L f k n lv' (pc + 3) rest) : V G R nL x L f k n lv pc rest := by
  intro H locs ls hP hS hl
  obtain ⟨q, hq⟩ := List.mem_iff_getElem?.mp (vl_pl_mem.mpr ha)
  exact lv_iinc hx.1 hx.2.1 hd hl.lv hq hv hn rfl (fun ls' hl' => kk H locs ls' hP hS (he ▸ hl.put rfl hl'))
theorem v_iadd (hx : KX G nL x cc own) {a b v : Int32} (hd : decode cc pc = .ok (.iadd, 1)) (hv : a + b = v) (kk : V G R nL x L f k n lv (pc + 1) (.int v :: rest)) : V G R nL x L f k n lv pc (.int b :: .int a :: rest) := fun H locs ls hP hS hl => lv_iadd hx.1 hx.2.1 hd (hv ▸ kk H locs ls hP hS hl)
theorem v_isub (hx : KX G nL x cc own) {a b v : Int32} (hd : decode cc pc = .ok (.isub, 1)) (hv : a - b = v) (kk : V G R nL x L f k n lv (pc + 1) (.int v :: rest)) : V G R nL x L f k n lv pc (.int b :: .int a :: rest) := fun H locs ls hP hS hl => lv_isub hx.1 hx.2.1 hd (hv ▸ kk H locs ls hP hS hl)
theorem v_imul (hx : KX G nL x cc own) {a b v : Int32} (hd : decode cc pc = .ok (.imul, 1)) (hv : a * b = v) (kk : V G R nL x L f k n lv (pc + 1) (.int v :: rest)) : V G R nL x L f k n lv pc (.int b :: .int a :: rest) := fun H locs ls hP hS hl => lv_imul hx.1 hx.2.1 hd (hv ▸ kk H locs ls hP hS hl)
theorem v_iand (hx : KX G nL x cc own) {a b v : Int32} (hd : decode cc pc = .ok (.iand, 1)) (hv : a &&& b = v) (kk : V G R nL x L f k n lv (pc + 1) (.int v :: rest)) : V G R nL x L f k n lv pc (.int b :: .int a :: rest) := fun H locs ls hP hS hl => lv_iand hx.1 hx.2.1 hd (hv ▸ kk H locs ls hP hS hl)
theorem v_ior (hx : KX G nL x cc own) {a b v : Int32} (hd : decode cc pc = .ok (.ior, 1)) (hv : a ||| b = v) (kk : V G R nL x L f k n lv (pc + 1) (.int v :: rest)) : V G R nL x L f k n lv pc (.int b :: .int a :: rest) := fun H locs ls hP hS hl => lv_ior hx.1 hx.2.1 hd (hv ▸ kk H locs ls hP hS hl)
theorem v_ixor (hx : KX G nL x cc own) {a b v : Int32} (hd : decode cc pc = .ok (.ixor, 1)) (hv : a ^^^ b = v) (kk : V G R nL x L f k n lv (pc + 1) (.int v :: rest)) : V G R nL x L f k n lv pc (.int b :: .int a :: rest) := fun H locs ls hP hS hl => lv_ixor hx.1 hx.2.1 hd (hv ▸ kk H locs ls hP hS hl)
theorem v_ishl (hx : KX G nL x cc own) {a b v : Int32} (hd : decode cc pc = .ok (.ishl, 1)) (hv : a <<< (b &&& 31) = v) (kk : V G R nL x L f k n lv (pc + 1) (.int v :: rest)) : V G R nL x L f k n lv pc (.int b :: .int a :: rest) := fun H locs ls hP hS hl => lv_ishl hx.1 hx.2.1 hd (hv ▸ kk H locs ls hP hS hl)
theorem v_ishr (hx : KX G nL x cc own) {a b v : Int32} (hd : decode cc pc = .ok (.ishr, 1)) (hv : a >>> (b &&& 31) = v) (kk : V G R nL x L f k n lv (pc + 1) (.int v :: rest)) : V G R nL x L f k n lv pc (.int b :: .int a :: rest) := fun H locs ls hP hS hl => lv_ishr hx.1 hx.2.1 hd (hv ▸ kk H locs ls hP hS hl)
theorem v_idiv (hx : KX G nL x cc own) {a b v : Int32} (hd : decode cc pc = .ok (.idiv, 1)) (hne : ¬ b = 0) (hv : a / b = v) (kk : V G R nL x L f k n lv (pc + 1) (.int v :: rest)) : V G R nL x L f k n lv pc (.int b :: .int a :: rest) := fun H locs ls hP hS hl => lv_idiv hx.1 hx.2.1 hd hne (hv ▸ kk H locs ls hP hS hl)
theorem v_irem (hx : KX G nL x cc own) {a b v : Int32} (hd : decode cc pc = .ok (.irem, 1)) (hne : ¬ b = 0) (hv : a - a / b * b = v) (kk : V G R nL x L f k n lv (pc + 1) (.int v :: rest)) : V G R nL x L f k n lv pc (.int b :: .int a :: rest) := fun H locs ls hP hS hl => lv_irem hx.1 hx.2.1 hd hne (hv ▸ kk H locs ls hP hS hl)
theorem v_ineg (hx : KX G nL x cc own) {a v : Int32} (hd : decode cc pc = .ok (.ineg, 1)) (hv : -a = v) (kk : V G R nL x L f k n lv (pc + 1) (.int v :: rest)) : V G R nL x L f k n lv pc (.int a :: rest) := fun H locs ls hP hS hl => lv_ineg hx.1 hx.2.1 hd (hv ▸ kk H locs ls hP hS hl)
theorem v_iushr (hx : KX G nL x cc own) {a b v : Int32} (hd : decode cc pc = .ok (.iushr, 1)) (hv : (a.toUInt32 >>> (b.toUInt32 &&& Int32.toUInt32 31)).toInt32 = v) (kk : V G R nL x L f k n lv (pc + 1) (.int v :: rest)) : V G R nL x L f k n lv pc (.int b :: .int a :: rest) := fun H locs ls hP hS hl => lv_iushr hx.1 hx.2.1 hd hv (kk H locs ls hP hS hl)
theorem v_i2l (hx : KX G nL x cc own) {a : Int32} {v : Int64} (hd : decode cc pc = .ok (.i2l, 1)) (hv : a.toInt64 = v) (kk : V G R nL x L f k n lv (pc + 1) (.long v :: rest)) : V G R nL x L f k n lv pc (.int a :: rest) := fun H locs ls hP hS hl => lv_i2l hx.1 hx.2.1 hd hv (kk H locs ls hP hS hl)
theorem v_lconst (hx : KX G nL x cc own) {z : Fin 2} {v : Int64} (hd : decode cc pc = .ok (.lconst z, 1)) (hv : Int64.ofNat (z : Nat) = v) (kk : V G R nL x L f k n lv (pc + 1) (.long v :: rest)) : V G R nL x L f k n lv pc rest := fun H locs ls hP hS hl => lv_lconst hx.1 hx.2.1 hd hv (kk H locs ls hP hS hl)
theorem n_iadd (hx : KX G nL x cc own) {a b : Nat} (hd : decode cc pc = .ok (.iadd, 1))  (kk : V G R nL x L f k n lv (pc + 1) (.int (nI (a + b)) :: rest)) : V G R nL x L f k n lv pc (.int (nI b) :: .int (nI a) :: rest) := v_iadd hx hd (nI_add a b) kk
theorem n_imul (hx : KX G nL x cc own) {a b : Nat} (hd : decode cc pc = .ok (.imul, 1))  (kk : V G R nL x L f k n lv (pc + 1) (.int (nI (a * b)) :: rest)) : V G R nL x L f k n lv pc (.int (nI b) :: .int (nI a) :: rest) := v_imul hx hd (pk_mul a b) kk
theorem n_isub (hx : KX G nL x cc own) {a b : Nat} (hd : decode cc pc = .ok (.isub, 1)) (h : b ≤ a) (kk : V G R nL x L f k n lv (pc + 1) (.int (nI (a - b)) :: rest)) : V G R nL x L f k n lv pc (.int (nI b) :: .int (nI a) :: rest) := v_isub hx hd (pk_sub h) kk
theorem n_idiv (hx : KX G nL x cc own) {a b : Nat} (hd : decode cc pc = .ok (.idiv, 1)) (ha : a < 2 ^ 31) (h0 : 0 < b) (hb : b < 2 ^ 31) (kk : V G R nL x L f k n lv (pc + 1) (.int (nI (a / b)) :: rest)) : V G R nL x L f k n lv pc (.int (nI b) :: .int (nI a) :: rest) := v_idiv hx hd (nI_ne0 h0 hb) (pk_div ha h0 hb) kk
theorem n_irem (hx : KX G nL x cc own) {a b : Nat} (hd : decode cc pc = .ok (.irem, 1)) (ha : a < 2 ^ 31) (h0 : 0 < b) (hb : b < 2 ^ 31) (kk : V G R nL x L f k n lv (pc + 1) (.int (nI (a % b)) :: rest)) : V G R nL x L f k n lv pc (.int (nI b) :: .int (nI a) :: rest) := v_irem hx hd (nI_ne0 h0 hb) (pk_rem ha h0 hb) kk
theorem n_iinc (hx : KX G nL x cc own) {i : Nat} {a : Nat} (hd : decode cc pc = .ok (.iinc i 1, 3)) (ha : lv[i]? = some (some (.int (nI a)))) (hn : i < nL) {lv' : List (Option Value)} (he : lv.set i (some (.int (nI (a + 1)))) = lv') (kk : V G R nL x L f k n lv' (pc + 3) rest) : V G R nL x L f k n lv pc rest := v_iinc hx hd ha (nI_1 a) hn he kk
theorem n_idec (hx : KX G nL x cc own) {i : Nat} {a : Nat} (hd : decode cc pc = .ok (.iinc i (-1), 3)) (ha : lv[i]? = some (some (.int (nI a)))) (h0 : 0 < a) (hn : i < nL) {lv' : List (Option Value)} (he : lv.set i (some (.int (nI (a - 1)))) = lv') (kk : V G R nL x L f k n lv' (pc + 3) rest) : V G R nL x L f k n lv pc rest := v_iinc hx hd ha (sb_m1 h0) hn he kk
theorem v_dup (hx : KX G nL x cc own) {a : Value} (hd : decode cc pc = .ok (.dup, 1)) (ha : a.category = 1) (kk : V G R nL x L f k n lv (pc + 1) (a :: a :: rest)) : V G R nL x L f k n lv pc (a :: rest) := fun H locs ls hP hS hl => lv_dup hx.1 hx.2.1 hd ha (kk H locs ls hP hS hl)
theorem v_pop (hx : KX G nL x cc own) {a : Value} (hd : decode cc pc = .ok (.pop, 1)) (ha : a.category = 1) (kk : V G R nL x L f k n lv (pc + 1) (rest)) : V G R nL x L f k n lv pc (a :: rest) := fun H locs ls hP hS hl => lv_pop hx.1 hx.2.1 hd ha (kk H locs ls hP hS hl)
theorem v_dup_x1 (hx : KX G nL x cc own) {a b : Value} (hd : decode cc pc = .ok (.dup_x1, 1)) (ha : a.category = 1) (hb : b.category = 1) (kk : V G R nL x L f k n lv (pc + 1) (a :: b :: a :: rest)) : V G R nL x L f k n lv pc (a :: b :: rest) := fun H locs ls hP hS hl => lv_dup_x1 hx.1 hx.2.1 hd ha hb (kk H locs ls hP hS hl)
theorem v_dup_x2 (hx : KX G nL x cc own) {a b d : Value} (hd : decode cc pc = .ok (.dup_x2, 1)) (ha : a.category = 1) (hb : b.category = 1) (hc : d.category = 1) (kk : V G R nL x L f k n lv (pc + 1) (a :: b :: d :: a :: rest)) : V G R nL x L f k n lv pc (a :: b :: d :: rest) := fun H locs ls hP hS hl => lv_dup_x2 hx.1 hx.2.1 hd ha hb hc (kk H locs ls hP hS hl)
theorem v_dup2 (hx : KX G nL x cc own) {a b : Value} (hd : decode cc pc = .ok (.dup2, 1)) (ha : a.category = 1) (hb : b.category = 1) (kk : V G R nL x L f k n lv (pc + 1) (a :: b :: a :: b :: rest)) : V G R nL x L f k n lv pc (a :: b :: rest) := fun H locs ls hP hS hl => lv_dup2_11 hx.1 hx.2.1 hd ha hb (kk H locs ls hP hS hl)
theorem v_if_eq (hx : KX G nL x cc own) {a : Int32} {off : Int} {tgt : Nat} (hd : decode cc pc = .ok (.ifCond .eq off, 3)) (ht : (pc : Int) + off = (tgt : Int)) (kt : a = 0 → V G R nL x L f k n lv tgt rest) (kf : ¬ a = 0 → V G R nL x L f k n lv (pc + 3) rest) : V G R nL x L f k n lv pc (.int a :: rest) := fun H locs ls hP hS hl => lv_if_eq hx.1 hx.2.1 hd ht (fun h => kt h H locs ls hP hS hl) (fun h => kf h H locs ls hP hS hl)
theorem v_icmp_eq (hx : KX G nL x cc own) {a b : Int32} {off : Int} {tgt : Nat} (hd : decode cc pc = .ok (.if_icmp .eq off, 3)) (ht : (pc : Int) + off = (tgt : Int)) (kt : a = b → V G R nL x L f k n lv tgt rest) (kf : ¬ a = b → V G R nL x L f k n lv (pc + 3) rest) : V G R nL x L f k n lv pc (.int b :: .int a :: rest) := fun H locs ls hP hS hl => lv_icmp_eq hx.1 hx.2.1 hd ht (fun h => kt h H locs ls hP hS hl) (fun h => kf h H locs ls hP hS hl)
theorem v_if_ne (hx : KX G nL x cc own) {a : Int32} {off : Int} {tgt : Nat} (hd : decode cc pc = .ok (.ifCond .ne off, 3)) (ht : (pc : Int) + off = (tgt : Int)) (kt : ¬ a = 0 → V G R nL x L f k n lv tgt rest) (kf : a = 0 → V G R nL x L f k n lv (pc + 3) rest) : V G R nL x L f k n lv pc (.int a :: rest) := fun H locs ls hP hS hl => lv_if_ne hx.1 hx.2.1 hd ht (fun h => kt h H locs ls hP hS hl) (fun h => kf h H locs ls hP hS hl)
theorem v_icmp_ne (hx : KX G nL x cc own) {a b : Int32} {off : Int} {tgt : Nat} (hd : decode cc pc = .ok (.if_icmp .ne off, 3)) (ht : (pc : Int) + off = (tgt : Int)) (kt : ¬ a = b → V G R nL x L f k n lv tgt rest) (kf : a = b → V G R nL x L f k n lv (pc + 3) rest) : V G R nL x L f k n lv pc (.int b :: .int a :: rest) := fun H locs ls hP hS hl => lv_icmp_ne hx.1 hx.2.1 hd ht (fun h => kt h H locs ls hP hS hl) (fun h => kf h H locs ls hP hS hl)
theorem v_if_lt (hx : KX G nL x cc own) {a : Int32} {off : Int} {tgt : Nat} (hd : decode cc pc = .ok (.ifCond .lt off, 3)) (ht : (pc : Int) + off = (tgt : Int)) (kt : a < 0 → V G R nL x L f k n lv tgt rest) (kf : ¬ a < 0 → V G R nL x L f k n lv (pc + 3) rest) : V G R nL x L f k n lv pc (.int a :: rest) := fun H locs ls hP hS hl => lv_if_lt hx.1 hx.2.1 hd ht (fun h => kt h H locs ls hP hS hl) (fun h => kf h H locs ls hP hS hl)
theorem v_icmp_lt (hx : KX G nL x cc own) {a b : Int32} {off : Int} {tgt : Nat} (hd : decode cc pc = .ok (.if_icmp .lt off, 3)) (ht : (pc : Int) + off = (tgt : Int)) (kt : a < b → V G R nL x L f k n lv tgt rest) (kf : ¬ a < b → V G R nL x L f k n lv (pc + 3) rest) : V G R nL x L f k n lv pc (.int b :: .int a :: rest) := fun H locs ls hP hS hl => lv_icmp_lt hx.1 hx.2.1 hd ht (fun h => kt h H locs ls hP hS hl) (fun h => kf h H locs ls hP hS hl)
theorem v_if_ge (hx : KX G nL x cc own) {a : Int32} {off : Int} {tgt : Nat} (hd : decode cc pc = .ok (.ifCond .ge off, 3)) (ht : (pc : Int) + off = (tgt : Int)) (kt : 0 ≤ a → V G R nL x L f k n lv tgt rest) (kf : ¬ 0 ≤ a → V G R nL x L f k n lv (pc + 3) rest) : V G R nL x L f k n lv pc (.int a :: rest) := fun H locs ls hP hS hl => lv_if_ge hx.1 hx.2.1 hd ht (fun h => kt h H locs ls hP hS hl) (fun h => kf h H locs ls hP hS hl)
theorem v_icmp_ge (hx : KX G nL x cc own) {a b : Int32} {off : Int} {tgt : Nat} (hd : decode cc pc = .ok (.if_icmp .ge off, 3)) (ht : (pc : Int) + off = (tgt : Int)) (kt : b ≤ a → V G R nL x L f k n lv tgt rest) (kf : ¬ b ≤ a → V G R nL x L f k n lv (pc + 3) rest) : V G R nL x L f k n lv pc (.int b :: .int a :: rest) := fun H locs ls hP hS hl => lv_icmp_ge hx.1 hx.2.1 hd ht (fun h => kt h H locs ls hP hS hl) (fun h => kf h H locs ls hP hS hl)
theorem v_if_gt (hx : KX G nL x cc own) {a : Int32} {off : Int} {tgt : Nat} (hd : decode cc pc = .ok (.ifCond .gt off, 3)) (ht : (pc : Int) + off = (tgt : Int)) (kt : 0 < a → V G R nL x L f k n lv tgt rest) (kf : ¬ 0 < a → V G R nL x L f k n lv (pc + 3) rest) : V G R nL x L f k n lv pc (.int a :: rest) := fun H locs ls hP hS hl => lv_if_gt hx.1 hx.2.1 hd ht (fun h => kt h H locs ls hP hS hl) (fun h => kf h H locs ls hP hS hl)
theorem v_icmp_gt (hx : KX G nL x cc own) {a b : Int32} {off : Int} {tgt : Nat} (hd : decode cc pc = .ok (.if_icmp .gt off, 3)) (ht : (pc : Int) + off = (tgt : Int)) (kt : b < a → V G R nL x L f k n lv tgt rest) (kf : ¬ b < a → V G R nL x L f k n lv (pc + 3) rest) : V G R nL x L f k n lv pc (.int b :: .int a :: rest) := fun H locs ls hP hS hl => lv_icmp_gt hx.1 hx.2.1 hd ht (fun h => kt h H locs ls hP hS hl) (fun h => kf h H locs ls hP hS hl)
theorem v_if_le (hx : KX G nL x cc own) {a : Int32} {off : Int} {tgt : Nat} (hd : decode cc pc = .ok (.ifCond .le off, 3)) (ht : (pc : Int) + off = (tgt : Int)) (kt : a ≤ 0 → V G R nL x L f k n lv tgt rest) (kf : ¬ a ≤ 0 → V G R nL x L f k n lv (pc + 3) rest) : V G R nL x L f k n lv pc (.int a :: rest) := fun H locs ls hP hS hl => lv_if_le hx.1 hx.2.1 hd ht (fun h => kt h H locs ls hP hS hl) (fun h => kf h H locs ls hP hS hl)
theorem v_icmp_le (hx : KX G nL x cc own) {a b : Int32} {off : Int} {tgt : Nat} (hd : decode cc pc = .ok (.if_icmp .le off, 3)) (ht : (pc : Int) + off = (tgt : Int)) (kt : a ≤ b → V G R nL x L f k n lv tgt rest) (kf : ¬ a ≤ b → V G R nL x L f k n lv (pc + 3) rest) : V G R nL x L f k n lv pc (.int b :: .int a :: rest) := fun H locs ls hP hS hl => lv_icmp_le hx.1 hx.2.1 hd ht (fun h => kt h H locs ls hP hS hl) (fun h => kf h H locs ls hP hS hl)
theorem n_icmp_eq (hx : KX G nL x cc own) {a b : Nat} {off : Int} {tgt : Nat} (hd : decode cc pc = .ok (.if_icmp .eq off, 3)) (ht : (pc : Int) + off = (tgt : Int)) (ha : a < 2 ^ 31) (hb : b < 2 ^ 31) (kt : a = b → V G R nL x L f k n lv tgt rest) (kf : a ≠ b → V G R nL x L f k n lv (pc + 3) rest) : V G R nL x L f k n lv pc (.int (nI b) :: .int (nI a) :: rest) := v_icmp_eq hx hd ht (fun h => kt ((nI_eq ha hb).mp h)) (fun h => kf (fun e => h ((nI_eq ha hb).mpr e)))
theorem n_icmp_ne (hx : KX G nL x cc own) {a b : Nat} {off : Int} {tgt : Nat} (hd : decode cc pc = .ok (.if_icmp .ne off, 3)) (ht : (pc : Int) + off = (tgt : Int)) (ha : a < 2 ^ 31) (hb : b < 2 ^ 31) (kt : a ≠ b → V G R nL x L f k n lv tgt rest) (kf : a = b → V G R nL x L f k n lv (pc + 3) rest) : V G R nL x L f k n lv pc (.int (nI b) :: .int (nI a) :: rest) := v_icmp_ne hx hd ht (fun h => kt (fun e => h ((nI_eq ha hb).mpr e))) (fun h => kf ((nI_eq ha hb).mp h))
theorem n_icmp_lt (hx : KX G nL x cc own) {a b : Nat} {off : Int} {tgt : Nat} (hd : decode cc pc = .ok (.if_icmp .lt off, 3)) (ht : (pc : Int) + off = (tgt : Int)) (ha : a < 2 ^ 31) (hb : b < 2 ^ 31) (kt : a < b → V G R nL x L f k n lv tgt rest) (kf : b ≤ a → V G R nL x L f k n lv (pc + 3) rest) : V G R nL x L f k n lv pc (.int (nI b) :: .int (nI a) :: rest) := v_icmp_lt hx hd ht (fun h => kt ((nI_ltI ha hb).mp h)) (fun h => kf (Nat.le_of_not_lt (fun e => h ((nI_ltI ha hb).mpr e))))
theorem n_icmp_ge (hx : KX G nL x cc own) {a b : Nat} {off : Int} {tgt : Nat} (hd : decode cc pc = .ok (.if_icmp .ge off, 3)) (ht : (pc : Int) + off = (tgt : Int)) (ha : a < 2 ^ 31) (hb : b < 2 ^ 31) (kt : b ≤ a → V G R nL x L f k n lv tgt rest) (kf : a < b → V G R nL x L f k n lv (pc + 3) rest) : V G R nL x L f k n lv pc (.int (nI b) :: .int (nI a) :: rest) := v_icmp_ge hx hd ht (fun h => kt ((nI_leI hb ha).mp h)) (fun h => kf (Nat.lt_of_not_le (fun e => h ((nI_leI hb ha).mpr e))))
theorem n_icmp_gt (hx : KX G nL x cc own) {a b : Nat} {off : Int} {tgt : Nat} (hd : decode cc pc = .ok (.if_icmp .gt off, 3)) (ht : (pc : Int) + off = (tgt : Int)) (ha : a < 2 ^ 31) (hb : b < 2 ^ 31) (kt : b < a → V G R nL x L f k n lv tgt rest) (kf : a ≤ b → V G R nL x L f k n lv (pc + 3) rest) : V G R nL x L f k n lv pc (.int (nI b) :: .int (nI a) :: rest) := v_icmp_gt hx hd ht (fun h => kt ((nI_ltI hb ha).mp h)) (fun h => kf (Nat.le_of_not_lt (fun e => h ((nI_ltI hb ha).mpr e))))
theorem n_icmp_le (hx : KX G nL x cc own) {a b : Nat} {off : Int} {tgt : Nat} (hd : decode cc pc = .ok (.if_icmp .le off, 3)) (ht : (pc : Int) + off = (tgt : Int)) (ha : a < 2 ^ 31) (hb : b < 2 ^ 31) (kt : a ≤ b → V G R nL x L f k n lv tgt rest) (kf : b < a → V G R nL x L f k n lv (pc + 3) rest) : V G R nL x L f k n lv pc (.int (nI b) :: .int (nI a) :: rest) := v_icmp_le hx hd ht (fun h => kt ((nI_leI ha hb).mp h)) (fun h => kf (Nat.lt_of_not_le (fun e => h ((nI_leI ha hb).mpr e))))
theorem n_if_eq (hx : KX G nL x cc own) {a : Nat} {off : Int} {tgt : Nat} (hd : decode cc pc = .ok (.ifCond .eq off, 3)) (ht : (pc : Int) + off = (tgt : Int)) (ha : a < 2 ^ 31) (kt : a = 0 → V G R nL x L f k n lv tgt rest) (kf : 0 < a → V G R nL x L f k n lv (pc + 3) rest) : V G R nL x L f k n lv pc (.int (nI a) :: rest) := v_if_eq hx hd ht (fun h => kt (Nat.eq_zero_of_not_pos (fun e => nI_ne0 e ha h))) (fun h => kf (Nat.pos_of_ne_zero (fun e => h (e ▸ nI_0))))
theorem n_if_ne (hx : KX G nL x cc own) {a : Nat} {off : Int} {tgt : Nat} (hd : decode cc pc = .ok (.ifCond .ne off, 3)) (ht : (pc : Int) + off = (tgt : Int)) (ha : a < 2 ^ 31) (kt : 0 < a → V G R nL x L f k n lv tgt rest) (kf : a = 0 → V G R nL x L f k n lv (pc + 3) rest) : V G R nL x L f k n lv pc (.int (nI a) :: rest) := v_if_ne hx hd ht (fun h => kt (Nat.pos_of_ne_zero (fun e => h (e ▸ nI_0)))) (fun h => kf (Nat.eq_zero_of_not_pos (fun e => nI_ne0 e ha h)))
theorem n_if_lt (hx : KX G nL x cc own) {a : Nat} {off : Int} {tgt : Nat} (hd : decode cc pc = .ok (.ifCond .lt off, 3)) (ht : (pc : Int) + off = (tgt : Int)) (ha : a < 2 ^ 31) (kf : V G R nL x L f k n lv (pc + 3) rest) : V G R nL x L f k n lv pc (.int (nI a) :: rest) := v_if_lt hx hd ht (fun h => absurd h (nI_pos ha)) (fun _ => kf)
theorem n_if_ge (hx : KX G nL x cc own) {a : Nat} {off : Int} {tgt : Nat} (hd : decode cc pc = .ok (.ifCond .ge off, 3)) (ht : (pc : Int) + off = (tgt : Int)) (ha : a < 2 ^ 31) (kt : V G R nL x L f k n lv tgt rest) : V G R nL x L f k n lv pc (.int (nI a) :: rest) := v_if_ge hx hd ht (fun _ => kt) (fun h => absurd (nI_pos' ha) h)
theorem n_if_gt (hx : KX G nL x cc own) {a : Nat} {off : Int} {tgt : Nat} (hd : decode cc pc = .ok (.ifCond .gt off, 3)) (ht : (pc : Int) + off = (tgt : Int)) (ha : a < 2 ^ 31) (kt : 0 < a → V G R nL x L f k n lv tgt rest) (kf : a = 0 → V G R nL x L f k n lv (pc + 3) rest) : V G R nL x L f k n lv pc (.int (nI a) :: rest) := v_if_gt hx hd ht (fun h => kt (Nat.pos_of_ne_zero (fun e => by subst e; rw [nI_0] at h; exact absurd h (by decide)))) (fun h => kf (Nat.eq_zero_of_not_pos (fun e => h (by have := nI_lt e ha; rwa [nI_0] at this))))
theorem n_if_le (hx : KX G nL x cc own) {a : Nat} {off : Int} {tgt : Nat} (hd : decode cc pc = .ok (.ifCond .le off, 3)) (ht : (pc : Int) + off = (tgt : Int)) (ha : a < 2 ^ 31) (kt : a = 0 → V G R nL x L f k n lv tgt rest) (kf : 0 < a → V G R nL x L f k n lv (pc + 3) rest) : V G R nL x L f k n lv pc (.int (nI a) :: rest) := v_if_le hx hd ht (fun h => kt (Nat.eq_zero_of_not_pos (fun e => nI_nle e ha h))) (fun h => kf (Nat.pos_of_ne_zero (fun e => by subst e; rw [nI_0] at h; exact absurd (by decide) h)))
theorem v_goto (hx : KX G nL x cc own) {off : Int} {tgt : Nat} (hd : decode cc pc = .ok (.goto off, 3)) (ht : (pc : Int) + off = (tgt : Int)) (kk : V G R nL x L f k n lv tgt rest) : V G R nL x L f k n lv pc rest := fun H locs ls hP hS hl => lv_goto hx.1 hx.2.1 hd ht (kk H locs ls hP hS hl)
theorem v_ifnull (hx : KX G nL x cc own) {a : Nat} {off : Int} (hd : decode cc pc = .ok (.ifnull off, 3)) (kk : V G R nL x L f k n lv (pc + 3) rest) : V G R nL x L f k n lv pc (.ref a :: rest) := fun H locs ls hP hS hl => lv_ifnull hx.1 hx.2.1 hd (kk H locs ls hP hS hl)
theorem v_ifnonnull (hx : KX G nL x cc own) {a : Nat} {off : Int} {tgt : Nat} (hd : decode cc pc = .ok (.ifnonnull off, 3)) (ht : (pc : Int) + off = (tgt : Int)) (kk : V G R nL x L f k n lv tgt rest) : V G R nL x L f k n lv pc (.ref a :: rest) := fun H locs ls hP hS hl => lv_ifnonnull hx.1 hx.2.1 hd ht (kk H locs ls hP hS hl)
theorem v_ifnullN (hx : KX G nL x cc own) {off : Int} {tgt : Nat} (hd : decode cc pc = .ok (.ifnull off, 3)) (ht : (pc : Int) + off = (tgt : Int)) (kk : V G R nL x L f k n lv tgt rest) : V G R nL x L f k n lv pc (.null :: rest) := fun H locs ls hP hS hl => lv_ifnullN hx.1 hx.2.1 hd ht (kk H locs ls hP hS hl)
theorem v_ifnonnullN (hx : KX G nL x cc own) {off : Int} (hd : decode cc pc = .ok (.ifnonnull off, 3)) (kk : V G R nL x L f k n lv (pc + 3) rest) : V G R nL x L f k n lv pc (.null :: rest) := fun H locs ls hP hS hl => lv_ifnonnullN hx.1 hx.2.1 hd (kk H locs ls hP hS hl)
theorem v_widen {k' n' : Nat} (h1 : k ≤ k') (h2 : n ≤ n') {lv : List (Option Value)} (kk : V G R nL x L f k' n' lv pc rest) : V G R nL x L f k n lv pc rest := fun H locs ls hP hS hl => W.widen h1 h2 (kk H locs ls hP hS hl)
end VROWS
theorem gP.pos {G : GT} {L : List Nat} {f : Nat → va_E} {H : Heap} {a : Nat} (ha : a ∈ L) : ∃ q : Nat, (va_pl L f)[q]? = some (a, f a) := va_pl_get (X := []) ha
theorem gP.set {G : GT} {L : List Nat} {f : Nat → va_E} {H H1 : Heap} {a q : Nat} {e : va_E} (hP : gP G L f H) (ha : a ∈ L) (hq : (va_pl L f)[q]? = some (a, f a)) (h1 : va_P G.2.1 CL ((va_pl L f).set q (a, e)) H1) (h2 : va_D (gB G) ((va_pl L f).set q (a, e))) : gP G L (va_up f a e) H1 := by
  have e1 : (va_pl L f).set q (a, e) = va_pl L (va_up f a e) := va_pl_set (X := []) hP.2 ha hq
  rw [e1] at h1 h2
  exact ⟨h1, h2⟩
theorem gP.push {G : GT} {L : List Nat} {f : Nat → va_E} {H1 : Heap} {q : Nat} {e : va_E} (h1 : va_P G.2.1 CL (va_pl L f ++ [(q, e)]) H1) (h2 : va_D (gB G) (va_pl L f ++ [(q, e)])) : q ∉ L ∧ gP G (L ++ [q]) (va_up f q e) H1 := by
  have h : q ∉ L := va_pl_fresh2 (X := []) h2
  have e1 := va_pl_push (f := f) (e := e) h
  rw [e1] at h1 h2
  exact ⟨h, h1, h2⟩
theorem KX.hA {G : GT} {nL : Nat} {x : XT} {cc : ByteArray} {own : String} (hx : KX G nL x cc own) : ∀ q, x.2.2.1.heap.size ≤ q → gB G q := fun _ h => Nat.le_trans hx.2.2.2.2.2.2.1 h
section VHEAP
variable {G : GT} {R : Room} {nL : Nat} {x : XT} {cc : ByteArray} {own : String} {L : List Nat} {f : Nat → va_E} {k n : Nat} {lv : List (Option Value)} {pc : Nat} {rest : List Value}
/-- class number ci of CL is C with fields T, N of them, of types ty; its words are among BIG -/
def CF (ci : Nat) (C : String) (T : u_T) (N : Nat) (ty : Nat → FieldType) : Prop := CL[ci]? = some (C, T, N) ∧ (∀ w ∈ u_ws C T N, w ∈ BIG) ∧ (∀ k, k < N → parseFieldDescriptor (T k).2.2.1 = some (ty k)) ∧ (∀ a, a < N → ∀ b, b < N → a ≠ b → (T a).2.1 ≠ (T b).2.1)
theorem v_get (hx : KX G nL x cc own) {C : String} {T : u_T} {N ci index a : Nat} {ty : Nat → FieldType} {fs : List Value} {v : Value} (hC : CF ci C T N ty) (j : Nat) (hj : j < N) (hlink : Cond.fieldLink own index (T j).1 (T j).2.1 (T j).2.2.1 ∈ BIG) (hd : decode cc pc = .ok (.getfield index, 3)) (ha : a ∈ L) (hf : f a = .inr (ci, fs)) (hv : fs[j]? = some v) (kk : V G R nL x L f k n lv (pc + 3) (v :: rest)) : V G R nL x L f k n lv pc (.ref a :: rest) := by
  intro H locs ls hP hS hl
  obtain ⟨q0, hq⟩ := gP.pos (G := G) (f := f) (H := H) ha
  rw [hf] at hq
  exact va_get hx.1 hx.2.1 hx.2.2.2.2.1 hC.2.1 hx.2.2.2.1 hx.2.2.2.2.2.1.1 hP.1 q0 hq hC.1 j hj (hx.2.2.2.2.1 _ hlink) (fun _ h => h) hv hd (kk H locs ls hP hS hl)
theorem v_getN (hx : KX G nL x cc own) {C host : String} {T : u_T} {N ci index a : Nat} {ty : Nat → FieldType} {fs : List Value} {v : Value} (hC : CF ci C T N ty) (j : Nat) (hj : j < N) (hlink : Cond.fieldLinkNest own index (T j).1 (T j).2.1 (T j).2.2.1 host ∈ NW) (hd : decode cc pc = .ok (.getfield index, 3)) (ha : a ∈ L) (hf : f a = .inr (ci, fs)) (hv : fs[j]? = some v) (kk : V G R nL x L f k n lv (pc + 3) (v :: rest)) : V G R nL x L f k n lv pc (.ref a :: rest) := by
  intro H locs ls hP hS hl
  obtain ⟨q0, hq⟩ := gP.pos (G := G) (f := f) (H := H) ha
  rw [hf] at hq
  exact va_getN hx.1 hx.2.1 hx.2.2.2.2.1 hC.2.1 hx.2.2.2.1 hx.2.2.2.2.2.1.1 hP.1 q0 hq hC.1 j hj (va_Nw.use rfl (hx.2.2.2.2.2.1.2 _ hlink)) (fun _ h => h) hv hd (kk H locs ls hP hS hl)
theorem v_put (hx : KX G nL x cc own) {C : String} {T : u_T} {N ci index a : Nat} {ty : Nat → FieldType} {fs : List Value} {v : Value} (hC : CF ci C T N ty) (j : Nat) (hj : j < N) (hlink : Cond.fieldLink own index (T j).1 (T j).2.1 (T j).2.2.1 ∈ BIG) (hfin : (T j).2.2.2 = false) (hn : narrow (ty j) v = v) (hfit : fits (ty j) v = true) (hd : decode cc pc = .ok (.putfield index, 3)) (ha : a ∈ L) (hf : f a = .inr (ci, fs)) (hl0 : j < fs.length) (kk : ∀ f' : Nat → va_E, f' = va_up f a (.inr (ci, fs.set j v)) → V G R nL x L f' k n lv (pc + 3) rest) : V G R nL x L f k n lv pc (v :: .ref a :: rest) := by
  intro H locs ls hP hS hl
  obtain ⟨q0, hq⟩ := gP.pos (G := G) (f := f) (H := H) ha
  have hq' := hq
  rw [hf] at hq'
  exact va_put hx.1 hx.2.1 hx.2.2.2.2.1 hC.2.1 ty hC.2.2.1 hC.2.2.2 hx.2.2.2.1 hx.2.2.2.2.2.1.1 hP.1 hP.2 hS q0 hq' hC.1 j hj (hx.2.2.2.2.1 _ hlink) (fun _ h => h) hfin (hC.2.2.1 j hj) hn hfit hl0 hd (fun H1 locs1 h1 h2 h3 => kk _ rfl H1 locs1 ls (hP.set ha hq h1 h2) h3 hl)
theorem v_putN (hx : KX G nL x cc own) {C host : String} {T : u_T} {N ci index a : Nat} {ty : Nat → FieldType} {fs : List Value} {v : Value} (hC : CF ci C T N ty) (j : Nat) (hj : j < N) (hlink : Cond.fieldLinkNest own index (T j).1 (T j).2.1 (T j).2.2.1 host ∈ NW) (hfin : (T j).2.2.2 = false) (hn : narrow (ty j) v = v) (hfit : fits (ty j) v = true) (hd : decode cc pc = .ok (.putfield index, 3)) (ha : a ∈ L) (hf : f a = .inr (ci, fs)) (hl0 : j < fs.length) (kk : ∀ f' : Nat → va_E, f' = va_up f a (.inr (ci, fs.set j v)) → V G R nL x L f' k n lv (pc + 3) rest) : V G R nL x L f k n lv pc (v :: .ref a :: rest) := by
  intro H locs ls hP hS hl
  obtain ⟨q0, hq⟩ := gP.pos (G := G) (f := f) (H := H) ha
  have hq' := hq
  rw [hf] at hq'
  exact va_putN hx.1 hx.2.1 hx.2.2.2.2.1 hC.2.1 ty hC.2.2.1 hC.2.2.2 hx.2.2.2.1 hx.2.2.2.2.2.1.1 hP.1 hP.2 hS q0 hq' hC.1 j hj (va_Nw.use rfl (hx.2.2.2.2.2.1.2 _ hlink)) (fun _ h => h) hfin (hC.2.2.1 j hj) hn hfit hl0 hd (fun H1 locs1 h1 h2 h3 => kk _ rfl H1 locs1 ls (hP.set ha hq h1 h2) h3 hl)
theorem v_putF (hx : KX G nL x cc own) {C : String} {T : u_T} {N ci index a : Nat} {ty : Nat → FieldType} {fs : List Value} {v : Value} (hC : CF ci C T N ty) (j : Nat) (hj : j < N) (hlink : Cond.fieldLink own index (T j).1 (T j).2.1 (T j).2.2.1 ∈ BIG) (hfin : (T j).2.2.2 = true) (hin : x.2.2.2.2.2.2.1.name = "<init>") (ho : (T j).1 = own) (hn : narrow (ty j) v = v) (hfit : fits (ty j) v = true) (hd : decode cc pc = .ok (.putfield index, 3)) (ha : a ∈ L) (hf : f a = .inr (ci, fs)) (hl0 : j < fs.length) (kk : ∀ f' : Nat → va_E, f' = va_up f a (.inr (ci, fs.set j v)) → V G R nL x L f' k n lv (pc + 3) rest) : V G R nL x L f k n lv pc (v :: .ref a :: rest) := by
  intro H locs ls hP hS hl
  obtain ⟨q0, hq⟩ := gP.pos (G := G) (f := f) (H := H) ha
  have hq' := hq
  rw [hf] at hq'
  exact va_putF hx.1 hx.2.1 hx.2.2.2.2.1 hC.2.1 ty hC.2.2.1 hC.2.2.2 hx.2.2.2.1 hx.2.2.2.2.2.1.1 hP.1 hP.2 hS q0 hq' hC.1 j hj (hx.2.2.2.2.1 _ hlink) (fun _ h => h) hfin hin ho (hC.2.2.1 j hj) hn hfit hl0 hd (fun H1 locs1 h1 h2 h3 => kk _ rfl H1 locs1 ls (hP.set ha hq h1 h2) h3 hl)
/-- int arrays: class G.2.2.1 0 -/
theorem v_iald (hx : KX G nL x cc own) {a N : Nat} {h : Nat → Int32} {i : Int32} (hd : decode cc pc = .ok (.iaload, 1)) (ha : a ∈ L) (hf : f a = .inl (G.2.2.1 0, N, .inl h)) (hin : vp_in i N) (kk : V G R nL x L f k n lv (pc + 1) (.int (h i.toNatClampNeg) :: rest)) : V G R nL x L f k n lv pc (.int i :: .ref a :: rest) := by
  intro H locs ls hP hS hl
  obtain ⟨q0, hq⟩ := gP.pos (G := G) (f := f) (H := H) ha
  rw [hf] at hq
  exact va_iald hx.1 hx.2.1 hx.2.2.2.2.2.1.1 hP.1 q0 0 hq rfl hin hd (kk H locs ls hP hS hl)
theorem n_iald (hx : KX G nL x cc own) {a N : Nat} {h : Nat → Int32} {i : Nat} (hd : decode cc pc = .ok (.iaload, 1)) (ha : a ∈ L) (hf : f a = .inl (G.2.2.1 0, N, .inl h)) (hi : i < N) (hN : N < 2 ^ 31) (kk : V G R nL x L f k n lv (pc + 1) (.int (h i) :: rest)) : V G R nL x L f k n lv pc (.int (nI i) :: .ref a :: rest) := by
  refine v_iald hx hd ha hf (vp_in_nI hi hN) ?_
  rw [nI_clamp (Nat.lt_trans hi hN)]
  exact kk
theorem v_iast (hx : KX G nL x cc own) {a N : Nat} {h : Nat → Int32} {i v : Int32} (hd : decode cc pc = .ok (.iastore, 1)) (ha : a ∈ L) (hf : f a = .inl (G.2.2.1 0, N, .inl h)) (hin : vp_in i N) (kk : V G R nL x L (va_up f a (.inl (G.2.2.1 0, N, .inl (upd h i.toNatClampNeg v)))) k n lv (pc + 1) rest) : V G R nL x L f k n lv pc (.int v :: .int i :: .ref a :: rest) := by
  intro H locs ls hP hS hl
  obtain ⟨q0, hq⟩ := gP.pos (G := G) (f := f) (H := H) ha
  have hq' := hq
  rw [hf] at hq'
  exact va_iast hx.1 hx.2.1 hx.2.2.2.2.2.1.1 hP.1 hP.2 hS q0 0 hq' rfl hin hd (fun H1 locs1 h1 h2 h3 => kk H1 locs1 ls (hP.set ha hq h1 h2) h3 hl)
theorem n_iast (hx : KX G nL x cc own) {a N : Nat} {h : Nat → Int32} {i : Nat} {v : Int32} (hd : decode cc pc = .ok (.iastore, 1)) (ha : a ∈ L) (hf : f a = .inl (G.2.2.1 0, N, .inl h)) (hi : i < N) (hN : N < 2 ^ 31) (kk : V G R nL x L (va_up f a (.inl (G.2.2.1 0, N, .inl (upd h i v)))) k n lv (pc + 1) rest) : V G R nL x L f k n lv pc (.int v :: .int (nI i) :: .ref a :: rest) := by
  refine v_iast hx hd ha hf (vp_in_nI hi hN) ?_
  rw [nI_clamp (Nat.lt_trans hi hN)]
  exact kk
theorem v_alen (hx : KX G nL x cc own) {a N : Nat} {h : Nat → Int32} (hd : decode cc pc = .ok (.arraylength, 1)) (ha : a ∈ L) (hf : f a = .inl (G.2.2.1 0, N, .inl h)) (kk : V G R nL x L f k n lv (pc + 1) (.int (nI N) :: rest)) : V G R nL x L f k n lv pc (.ref a :: rest) := by
  intro H locs ls hP hS hl
  obtain ⟨q0, hq⟩ := gP.pos (G := G) (f := f) (H := H) ha
  rw [hf] at hq
  exact va_alen hx.1 hx.2.1 hx.2.2.2.2.2.1.1 hP.1 q0 0 hq (ty := .int) rfl rfl hd (kk H locs ls hP hS hl)
theorem v_newa (hx : KX G nL x cc own) {N : Nat} (hw : Cond.arrayClass .int ∈ BIG) (hd : decode cc pc = .ok (.newarray .int, 2)) (hN : N < 2 ^ 26) (hk : k + 1 ≤ R.cells) (hs : n + N ≤ R.slots) (kk : ∀ q, q ∉ L → V G R nL x (L ++ [q]) (va_up f q (.inl (G.2.2.1 0, N, .inl (fun _ => 0)))) (k + 1) (n + N) lv (pc + 2) (.ref q :: rest)) : V G R nL x L f k n lv pc (.int (nI N) :: rest) := by
  intro H locs ls hP hS hl
  refine va_newa (atype := .int) (ty := .int) (N' := N) (a0 := (N, .inl (fun _ => 0))) hx.1 hx.2.1 (hx.2.2.2.2.1 _ hw) rfl hx.2.2.2.2.2.1.1 hP.1 hP.2 hS hx.hA (fun _ => rfl) (nI_pos (by omega)) (nI_clamp (by omega)) (by show N * 4 ≤ 536870912; omega) hk hs hd (fun q cA H1 h0 h1 h2 h3 => ?_)
  have e1 : x.2.2.1.vm.findClass ("[" ++ FieldType.toString .int) = some cA := (h0.2 (TY G.2.2.1).length (cA, .int) (by simp)).2
  have e2 : x.2.2.1.vm.findClass ("[" ++ FieldType.toString .int) = some (G.2.2.1 0) := (hx.2.2.2.2.2.1.1.2 0 (G.2.2.1 0, .int) rfl).2
  have e3 : cA = G.2.2.1 0 := Option.some.inj (e1.symm.trans e2)
  subst e3
  obtain ⟨g1, g2⟩ := gP.push h1 h2
  exact kk q g1 H1 locs ls g2 h3 hl
theorem v_new (hx : KX G nL x cc own) {C : String} {T : u_T} {N ci index : Nat} {ty : Nat → FieldType} (hC : CF ci C T N ty) {fs : List Value} (hfs : ∀ j, j < N → defaultValue (ty j) = vp_V fs j) (h1 : Cond.classLink own index C ∈ BIG) (h2 : Cond.instantiable C N ∈ BIG) (h3 : Cond.initialized C ∈ BIG) (hd : decode cc pc = .ok (.new index, 3)) (hk : k + 1 ≤ R.cells) (hs : n + N ≤ R.slots) (kk : ∀ q, q ∉ L → V G R nL x (L ++ [q]) (va_up f q (.inr (ci, fs))) (k + 1) (n + N) lv (pc + 3) (.ref q :: rest)) : V G R nL x L f k n lv pc rest := by
  intro H locs ls hP hS hl
  refine va_new (ci := ci) (fs := fs) (C := C) (T := T) (N := N) hx.1 hx.2.1 hx.2.2.2.2.1 hC.2.1 ty hC.2.2.1 hx.2.2.2.1 (hx.2.2.2.2.1 _ h1) (hx.2.2.2.2.1 _ h2) (hx.2.2.2.2.1 _ h3) hx.2.2.2.2.2.1.1 hP.1 hP.2 hS hx.hA hC.1 hfs hk hs hd (fun q H1 p1 p2 p3 => ?_)
  obtain ⟨g1, g2⟩ := gP.push p1 p2
  exact kk q g1 H1 locs ls g2 p3 hl
theorem nn_iast (hx : KX G nL x cc own) {a N : Nat} {g : Nat → Nat} {i v : Nat} (hd : decode cc pc = .ok (.iastore, 1)) (ha : a ∈ L) (hf : f a = aI G N g) (hi : i < N) (hN : N < 2 ^ 31) (kk : ∀ f' : Nat → va_E, f' = va_up f a (aI G N (va_up g i v)) → V G R nL x L f' k n lv (pc + 1) rest) : V G R nL x L f k n lv pc (.int (nI v) :: .int (nI i) :: .ref a :: rest) := by
  refine n_iast hx hd ha hf hi hN ?_
  have e : upd (fun k => nI (g k)) i (nI v) = fun k => nI (va_up g i v k) := by
    funext j
    simp only [upd, va_up]
    split <;> rfl
  exact kk _ (by rw [e])
theorem no_iast (hx : KX G nL x cc own) {a N : Nat} {g : Nat → Option Nat} {i : Nat} {v : Option Nat} (hd : decode cc pc = .ok (.iastore, 1)) (ha : a ∈ L) (hf : f a = aO G N g) (hi : i < N) (hN : N < 2 ^ 31) (kk : ∀ f' : Nat → va_E, f' = va_up f a (aO G N (va_up g i v)) → V G R nL x L f' k n lv (pc + 1) rest) : V G R nL x L f k n lv pc (.int (oI v) :: .int (nI i) :: .ref a :: rest) := by
  refine n_iast hx hd ha hf hi hN ?_
  have e : upd (fun k => oI (g k)) i (oI v) = fun k => oI (va_up g i v k) := by
    funext j
    simp only [upd, va_up]
    split <;> rfl
  exact kk _ (by rw [e])
theorem n_zald (hx : KX G nL x cc own) {a N : Nat} {g : Nat → Bool} {i : Nat} (hd : decode cc pc = .ok (.baload, 1)) (ha : a ∈ L) (hf : f a = aB G N g) (hi : i < N) (hN : N < 2 ^ 31) (kk : V G R nL x L f k n lv (pc + 1) (.int (bI (g i)) :: rest)) : V G R nL x L f k n lv pc (.int (nI i) :: .ref a :: rest) := by
  intro H locs ls hP hS hl
  obtain ⟨q0, hq⟩ := gP.pos (G := G) (f := f) (H := H) ha
  rw [hf] at hq
  refine va_zald hx.1 hx.2.1 hx.2.2.2.2.2.1.1 hP.1 q0 1 hq rfl (vp_in_nI hi hN) hd ?_
  rw [nI_clamp (Nat.lt_trans hi hN)]
  exact kk H locs ls hP hS hl
theorem nz_ast (hx : KX G nL x cc own) {a N : Nat} {g : Nat → Bool} {i : Nat} {v : Bool} (hd : decode cc pc = .ok (.bastore, 1)) (ha : a ∈ L) (hf : f a = aB G N g) (hi : i < N) (hN : N < 2 ^ 31) (kk : ∀ f' : Nat → va_E, f' = va_up f a (aB G N (va_up g i v)) → V G R nL x L f' k n lv (pc + 1) rest) : V G R nL x L f k n lv pc (.int (bI v) :: .int (nI i) :: .ref a :: rest) := by
  intro H locs ls hP hS hl
  obtain ⟨q0, hq⟩ := gP.pos (G := G) (f := f) (H := H) ha
  have hq' := hq
  rw [hf] at hq'
  refine va_zast hx.1 hx.2.1 hx.2.2.2.2.2.1.1 hP.1 hP.2 hS q0 1 hq' rfl (vp_in_nI hi hN) hd (fun H1 locs1 h1 h2 h3 => kk _ rfl H1 locs1 ls ?_ h3 hl)
  have e : (Sum.inl (G.2.2.1 1, N, .inl (upd (fun k => bI (g k)) (nI i).toNatClampNeg (vp_nar .boolean (bI v)))) : va_E) = aB G N (va_up g i v) := by
    rw [nI_clamp (Nat.lt_trans hi hN)]
    have e : upd (fun k => bI (g k)) i (vp_nar .boolean (bI v)) = fun k => bI (va_up g i v k) := by
      funext j
      simp only [upd, va_up]
      split
      · cases v <;> rfl
      · rfl
    rw [e]
  rw [e] at h1 h2
  exact hP.set ha hq h1 h2
end VHEAP
/-- less is known of the locals -/
def vsub : List (Option Value) → List (Option Value) → Prop
  | [], _ => True
  | none :: l, _ :: l' => vsub l l'
  | some v :: l, w :: l' => w = some v ∧ vsub l l'
  | _ :: _, [] => False
theorem vsub_at : ∀ (l l' : List (Option Value)), vsub l l' → ∀ (i : Nat) (v : Value), l[i]? = some (some v) → l'[i]? = some (some v)
  | [], _, _, i, v, h => by simp at h
  | none :: l, w :: l', hs, i, v, h => by
    cases i with
    | zero => simp at h
    | succ i => simpa using vsub_at l l' hs i v (by simpa using h)
  | some u :: l, w :: l', hs, i, v, h => by
    obtain ⟨h1, h2⟩ := hs
    cases i with
    | zero => simp at h; subst h; simp [h1]
    | succ i => simpa using vsub_at l l' h2 i v (by simpa using h)
  | none :: l, [], hs, i, v, h => hs.elim
  | some u :: l, [], hs, i, v, h => hs.elim
section VHEAP2
variable {G : GT} {R : Room} {nL : Nat} {x : XT} {cc : ByteArray} {own : String} {L : List Nat} {f : Nat → va_E} {k n : Nat} {lv : List (Option Value)} {pc : Nat} {rest : List Value}
/-- raw: an int into an int array, by numbers -/
theorem nr_iast (hx : KX G nL x cc own) {a N : Nat} {h : Nat → Int32} {i : Nat} {v : Int32} (hd : decode cc pc = .ok (.iastore, 1)) (ha : a ∈ L) (hf : f a = .inl (G.2.2.1 0, N, .inl h)) (hi : i < N) (hN : N < 2 ^ 31) (kk : ∀ f' : Nat → va_E, f' = va_up f a (.inl (G.2.2.1 0, N, .inl (upd h i v))) → V G R nL x L f' k n lv (pc + 1) rest) : V G R nL x L f k n lv pc (.int v :: .int (nI i) :: .ref a :: rest) := n_iast hx hd ha hf hi hN (kk _ rfl)
theorem v_weak {lv lv' : List (Option Value)} {st : List Value} (h : vsub lv lv') (kk : V G R nL x L f k n lv pc st) : V G R nL x L f k n lv' pc st := fun H locs ls hP hS hl => kk H locs ls hP hS ⟨hl.1, hl.2.1, fun i v hi => hl.2.2 i v (vsub_at lv lv' h i v hi)⟩
theorem m_newa (hx : KX G nL x cc own) {N : Nat} (hd : decode cc pc = .ok (.newarray .int, 2)) (hN : N < 2 ^ 26) (hk : k + 1 ≤ R.cells) (hs : n + N ≤ R.slots) (kk : ∀ (q : Nat) (f' : Nat → va_E), q ∉ L → f' = va_up f q (aI G N (fun _ => 0)) → V G R nL x (L ++ [q]) f' (k + 1) (n + N) lv (pc + 2) (.ref q :: rest)) : V G R nL x L f k n lv pc (.int (nI N) :: rest) := v_newa hx ka_int hd hN hk hs (fun q hq => kk q _ hq rfl)
theorem m_new (hx : KX G nL x cc own) {C : String} {T : u_T} {N ci index : Nat} {ty : Nat → FieldType} (hC : CF ci C T N ty) {fs : List Value} (hfs : ∀ j, j < N → defaultValue (ty j) = vp_V fs j) (h1 : Cond.classLink own index C ∈ BIG) (h2 : Cond.instantiable C N ∈ BIG) (h3 : Cond.initialized C ∈ BIG) (hd : decode cc pc = .ok (.new index, 3)) (hk : k + 1 ≤ R.cells) (hs : n + N ≤ R.slots) (kk : ∀ (q : Nat) (f' : Nat → va_E), q ∉ L → f' = va_up f q (.inr (ci, fs)) → V G R nL x (L ++ [q]) f' (k + 1) (n + N) lv (pc + 3) (.ref q :: rest)) : V G R nL x L f k n lv pc rest := v_new hx hC hfs h1 h2 h3 hd hk hs (fun q hq => kk q _ hq rfl)
theorem v_ldcw (hx : KX G nL x cc own) {index : Nat} {v : Int32} (hw : Cond.constant own index v ∈ BIG) (hd : decode cc pc = .ok (.ldc_w index, 3)) (kk : V G R nL x L f k n lv (pc + 3) (.int v :: rest)) : V G R nL x L f k n lv pc rest := fun H locs ls hP hS hl => lv_ldcw hx.1 hx.2.1 hx.2.2.2.1 (hx.2.2.2.2.1 _ hw) hd (kk H locs ls hP hS hl)
theorem nn_copy (hx : KX G nL x cc own) {a0 a N0 N1 c index : Nat} {g0 g1 : Nat → Nat} (hlink : Cond.methodLink own index arraycopyName ∈ BIG) (hnat : Cond.native arraycopyName ∈ BIG) (hst : Cond.static arraycopyName ∈ BIG) (hini : Cond.initialized "java/lang/System" ∈ BIG) (hd : decode cc pc = .ok (.invokestatic index, 3)) (ha0 : a0 ∈ L) (hf0 : f a0 = aI G N0 g0) (ha : a ∈ L) (hf1 : f a = aI G N1 g1) (h0 : c ≤ N0) (h1 : c ≤ N1) (hN : N0 < 2 ^ 31) (hr : 1 ≤ R.frames) (hlo : (rest.map fun v => v.category).sum + (nativeFrameWords "java/lang/System" "arraycopy" 5 + 11) ≤ R.locals)
    (kk : ∀ f' : Nat → va_E, f' = va_up f a (aI G N1 (fun j => if j < c then g0 j else g1 j)) → V G R nL x L f' k n lv (pc + 3) rest) : V G R nL x L f k n lv pc (.int (nI c) :: .int (nI 0) :: .ref a :: .int (nI 0) :: .ref a0 :: rest) := by
  intro H locs ls hP hS hl
  obtain ⟨q0, hq0⟩ := gP.pos (G := G) (f := f) (H := H) ha0
  obtain ⟨q1, hq1⟩ := gP.pos (G := G) (f := f) (H := H) ha
  have hq0' := hq0
  have hq1' := hq1
  rw [hf0] at hq0'
  rw [hf1] at hq1'
  have ec : (nI c).toNatClampNeg = c := nI_clamp (by omega)
  have ez : (nI 0).toNatClampNeg = 0 := nI_clamp (by omega)
  refine va_copyi hx.1 hx.2.1 (hx.2.2.1.trans hl.1.symm) hx.2.2.2.1 (hx.2.2.2.2.1 _ hlink) (hx.2.2.2.2.1 _ hnat) (hx.2.2.2.2.1 _ hst) (hx.2.2.2.2.1 _ hini) hx.2.2.2.2.2.1.1 hP.1 hP.2 hS q0 q1 0 0 hq0' hq1' (ty := .int) rfl rfl rfl (nI_pos (by omega)) (nI_pos (by omega)) (nI_pos (by omega)) (by rw [ec, ez]; omega) (by rw [ec, ez]; omega) (fun _ _ => rfl) hr hlo hd (fun H1 locs1 p1 p2 p3 => kk _ rfl H1 locs1 ls ?_ p3 hl)
  have e : va_cpy (fun k => nI (g0 k)) (fun k => nI (g1 k)) (nI 0).toNatClampNeg (nI 0).toNatClampNeg (nI c).toNatClampNeg = fun j => nI (if j < c then g0 j else g1 j) := by
    funext j
    rw [ec, ez]
    simp only [va_cpy, Nat.zero_le, true_and, Nat.zero_add, Nat.sub_zero]
    split <;> rfl
  rw [e] at p1 p2
  exact hP.set ha hq1 p1 p2
end VHEAP2
theorem up_same (f : Nat → va_E) (a : Nat) : va_up f a (f a) = f := by
  funext j
  simp only [va_up]
  split
  · rename_i h; rw [h]
  · rfl
/-- the words that move along a run: nest links, casts, arrays over a class -/
def nwOK : Cond → Bool
  | .fieldLinkNest .. => true
  | .methodLinkNest .. => true
  | .castable .. => true
  | .declares .. => true
  | .arrayOver (.object _) => true
  | _ => false
theorem nw_moved {w : Cond} (h : nwOK w = true) {s U : State} (hW : s.WarmedH U.vm) (hz : va_Nw w s) : va_Nw w U := by
  unfold nwOK at h
  split at h
  · exact hz.warmF hW
  · exact hz.warmM hW
  · exact hz.warmC hW
  · exact hz.warmD hW
  · exact va_AO.moved hW.alike hz
  · cases h
theorem nw_same {w : Cond} (h : nwOK w = true) {u U : State} (e : u.vm = U.vm) (hz : va_Nw w u) : va_Nw w U := by
  unfold nwOK at h
  split at h
  · exact va_Nw.same rfl e hz
  · exact va_Nw.same rfl e hz
  · exact va_Nw.same rfl e hz
  · exact va_Nw.same rfl e hz
  · exact va_AO.moved (by rw [e]; exact Vm.Alike.refl _) hz
  · cases h
theorem NW_ok : ∀ w ∈ NW, nwOK w = true := by decide +kernel
theorem gK.moved {G : GT} {s U : State} (h : gK G s) (hW : s.WarmedH U.vm) : gK G U := ⟨va_K.moved hW.alike h.1, fun w hw => nw_moved (NW_ok w hw) hW (h.2 w hw)⟩
theorem gK.same {G : GT} {u U : State} (h : gK G u) (e : u.vm = U.vm) : gK G U := ⟨va_K.moved (by rw [e]; exact Vm.Alike.refl _) h.1, fun w hw => nw_same (NW_ok w hw) e (h.2 w hw)⟩
theorem cPre_blind {G : GT} {as : List Value} {L : List Nat} {f : Nat → va_E} : FrameBlind (cPre G as L f) := fun _ _ _ _ h => ⟨h.1, h.2.1, h.2.2.1, h.2.2.2.same rfl⟩
theorem big_good {y : MethodName} {b : ByteArray} {mL : Nat} {ret : Option FieldType} (h : Cond.code y b mL ret ∈ BIG) : GoodIn BIG (.code y b mL ret :: BIG) := fun w hw => by
  rcases List.mem_cons.mp hw with rfl | hw
  · exact BIG_ok _ h
  · exact BIG_ok _ hw
/-- what is known of a method that is called: its code, its class is initialised, how many parameters -/
def CY (y : MethodName) (b : ByteArray) (mL : Nat) (ret : Option FieldType) (np : Nat) : Prop := Cond.code y b mL ret ∈ BIG ∧ Cond.initialized y.cls ∈ BIG ∧ (y.cls ≠ "java/lang/invoke/MethodHandle" ∧ y.cls ≠ "java/lang/invoke/VarHandle" ∧ (parseMethodDescriptor y.desc).map (fun d => d.parameters.length) = some np)
section VCALL
variable {G : GT} {R : Room} {nL : Nat} {x : XT} {cc : ByteArray} {own : String} {L : List Nat} {f : Nat → va_E} {k n : Nat} {lv : List (Option Value)} {pc : Nat} {rest st0 : List Value}
theorem v_run {mc ms : Nat} {Post : Option Value → List Nat → (Nat → va_E) → Prop} {a : Array Value} (hr : ∀ (H : Heap) (locs : List Loc) (ls : Array Slot), gP G L f H → x.2.2.1.heap.size ≤ H.size → ls.size = nL → va_Run x.1 G.1 x.2.1 R x.2.2.1 x.2.2.2.1 x.2.2.2.2.1 x.2.2.2.2.2.1 x.2.2.2.2.2.2.1 x.2.2.2.2.2.2.2.1 H locs k n mc ms (F0 x.2.2.2.1 pc ls st0) rest (cPost G Post a) (gB G))
    (kk : ∀ (v : Option Value) (L' : List Nat) (f' : Nat → va_E), Post v L' f' → V G R nL x L' f' (k + mc) (n + ms) lv (pc + 3) (v.toList ++ rest)) : V G R nL x L f k n lv pc st0 := by
  intro H locs ls hP hS hl T hT X
  obtain ⟨v, st₀, t, T', L1, h0, X', hL, e1, e2, ⟨⟨v', L', f', hv, hp, hg⟩, hz, hk⟩, st⟩ := hr H locs ls hP hS.1 hl.1 T hT X
  cases hv
  rw [h0] at hz hk
  obtain ⟨t2, a1, b1⟩ := kk v L' f' hp T'.heap (locs ++ L1) ls (by rw [e1]; exact hg)
    ⟨Nat.le_trans hS.1 (by rw [e1]; exact hz), fun q h1 h2 => by rw [e1, hk q (Nat.lt_of_lt_of_le h1 hS.1) h2]; exact hS.2.1 q h1 h2, fun q hq => by
      rcases List.mem_append.mp hq with h | h
      · exact hS.2.2 q h
      · exact hL q h⟩ hl T' rfl X'
  exact ⟨t2, st t2 a1, b1⟩
theorem vx_pre (hx : KX G nL x cc own) {as : List Value} {H : Heap} (hP : gP G L f H) (hz : x.2.2.1.heap.size ≤ H.size) : PreS x.2.2.1 H (cPre G as L f) as := ⟨cPre_blind, fun U hU hW => ⟨rfl, by rw [hU]; exact Nat.le_trans hx.2.2.2.2.2.2.1 hz, by rw [hU]; exact hP, hx.2.2.2.2.2.1.moved hW⟩⟩
theorem vx_recv (hx : KX G nL x cc own) {b ci : Nat} {fs : List Value} {q : vw_C} {H : Heap} (hP : gP G L f H) (hb : b ∈ L) (hf : f b = .inr (ci, fs)) (hc : CL[ci]? = some q) : ∃ cell : Cell, H[b]? = some cell ∧ cell.vm.isStatics = false ∧ x.2.2.1.vm.findClass q.1 = some cell.cls := by
  obtain ⟨q0, hq⟩ := gP.pos (G := G) (f := f) (H := H) hb
  rw [hf] at hq
  exact va_recv hx.2.2.2.2.2.1.1 hP.1 hc hq
theorem v_callS (hx : KX G nL x cc own) {y : MethodName} {b : ByteArray} {mL np fr lo mc ms index : Nat} {ret : Option FieldType} {as : List Value} {Post : Option Value → List Nat → (Nat → va_E) → Prop} (hM : Con G y (.code y b mL ret :: BIG) fr lo mc ms as L f Post) (hY : CY y b mL ret np) (hlink : Cond.methodLink own index y ∈ BIG) (hst : Cond.static y ∈ BIG) (hd : decode cc pc = .ok (.invokestatic index, 3)) (hR : fr + 1 ≤ R.frames ∧ 8 + (mL + 11) + lo ≤ R.locals) (hf : k + mc ≤ R.cells ∧ n + ms ≤ R.slots) (hnp : as.length = np) (hstk : st0 = as.reverse ++ rest) (hro : (rest.map fun v => v.category).sum ≤ 8)
    (kk : ∀ (v : Option Value) (L' : List Nat) (f' : Nat → va_E), Post v L' f' → V G R nL x L' f' (k + mc) (n + ms) lv (pc + 3) (v.toList ++ rest)) : V G R nL x L f k n lv pc st0 :=
  v_run (fun H locs ls hP hz hs => va_runS (As := as) ⟨hx.1, hx.2.1, hx.2.2.1, hx.2.2.2.1, hx.2.2.2.2.1⟩ hM ⟨callB_of np hx.2.2.2.2.1 (big_good hY.1) rfl rfl rfl (hx.2.2.2.2.1 _ hY.2.1) (hx.2.2.2.2.1 _ hlink) hY.2.2 hR, hx.2.2.2.2.1 _ hst⟩ (vx_pre hx hP hz) rfl hnp hs hstk (lv_room hro) hd hf) kk
theorem v_callSN (hx : KX G nL x cc own) {y : MethodName} {b : ByteArray} {mL np fr lo mc ms index : Nat} {ret : Option FieldType} {host : String} {as : List Value} {Post : Option Value → List Nat → (Nat → va_E) → Prop} (hM : Con G y (.code y b mL ret :: BIG) fr lo mc ms as L f Post) (hY : CY y b mL ret np) (hlink : Cond.methodLinkNest own index y host ∈ NW) (hst : Cond.static y ∈ BIG) (hd : decode cc pc = .ok (.invokestatic index, 3)) (hR : fr + 1 ≤ R.frames ∧ 8 + (mL + 11) + lo ≤ R.locals) (hf : k + mc ≤ R.cells ∧ n + ms ≤ R.slots) (hnp : as.length = np) (hstk : st0 = as.reverse ++ rest) (hro : (rest.map fun v => v.category).sum ≤ 8)
    (kk : ∀ (v : Option Value) (L' : List Nat) (f' : Nat → va_E), Post v L' f' → V G R nL x L' f' (k + mc) (n + ms) lv (pc + 3) (v.toList ++ rest)) : V G R nL x L f k n lv pc st0 :=
  v_run (fun H locs ls hP hz hs => va_runSN (As := as) ⟨hx.1, hx.2.1, hx.2.2.1, hx.2.2.2.1, hx.2.2.2.2.1⟩ hM ⟨va_cnB np hx.2.2.2.2.1 (big_good hY.1) rfl rfl rfl (hx.2.2.2.2.2.1.2 _ hlink) (hx.2.2.2.2.1 _ hY.2.1) hY.2.2 hR, hx.2.2.2.2.1 _ hst, trivial⟩ (vx_pre hx hP hz) rfl hnp hs hstk (lv_room hro) hd hf) kk
theorem v_callV (hx : KX G nL x cc own) {y : MethodName} {b : ByteArray} {mL np fr lo mc ms index o ci : Nat} {ret : Option FieldType} {as fs : List Value} {q : vw_C} {Post : Option Value → List Nat → (Nat → va_E) → Prop} (hM : Con G y (.code y b mL ret :: BIG) fr lo mc ms (.ref o :: as) L f Post) (hY : CY y b mL ret np) (hlink : Cond.methodLink own index y ∈ BIG) (hin : Cond.instanceMethod y ∈ BIG) (hsel : Cond.selects q.1 y y ∈ BIG) (hd : decode cc pc = .ok (.invokevirtual index, 3)) (hR : fr + 1 ≤ R.frames ∧ 8 + (mL + 11) + lo ≤ R.locals) (hc : CL[ci]? = some q) (ho : o ∈ L) (hfo : f o = .inr (ci, fs)) (hf : k + mc ≤ R.cells ∧ n + ms ≤ R.slots) (hnp : as.length = np) (hstk : st0 = as.reverse ++ .ref o :: rest) (hro : (rest.map fun v => v.category).sum ≤ 8)
    (kk : ∀ (v : Option Value) (L' : List Nat) (f' : Nat → va_E), Post v L' f' → V G R nL x L' f' (k + mc) (n + ms) lv (pc + 3) (v.toList ++ rest)) : V G R nL x L f k n lv pc st0 :=
  v_run (fun H locs ls hP hz hs => va_runV (As := as) ⟨hx.1, hx.2.1, hx.2.2.1, hx.2.2.2.1, hx.2.2.2.2.1⟩ hM ⟨callB_of np hx.2.2.2.2.1 (big_good hY.1) rfl rfl rfl (hx.2.2.2.2.1 _ hY.2.1) (hx.2.2.2.2.1 _ hlink) hY.2.2 hR, hx.2.2.2.2.1 _ hin, hx.2.2.2.2.1 _ hsel⟩ ⟨(vx_pre hx hP hz).1, vx_recv hx hP ho hfo hc, (vx_pre hx hP hz).2⟩ rfl hnp hs hstk (lv_room hro) hd hf) kk
theorem v_callVN (hx : KX G nL x cc own) {y : MethodName} {b : ByteArray} {mL np fr lo mc ms index o ci : Nat} {ret : Option FieldType} {host : String} {as fs : List Value} {q : vw_C} {Post : Option Value → List Nat → (Nat → va_E) → Prop} (hM : Con G y (.code y b mL ret :: BIG) fr lo mc ms (.ref o :: as) L f Post) (hY : CY y b mL ret np) (hlink : Cond.methodLinkNest own index y host ∈ NW) (hin : Cond.instanceMethod y ∈ BIG) (hsel : Cond.selects q.1 y y ∈ BIG) (hd : decode cc pc = .ok (.invokevirtual index, 3)) (hR : fr + 1 ≤ R.frames ∧ 8 + (mL + 11) + lo ≤ R.locals) (hc : CL[ci]? = some q) (ho : o ∈ L) (hfo : f o = .inr (ci, fs)) (hf : k + mc ≤ R.cells ∧ n + ms ≤ R.slots) (hnp : as.length = np) (hstk : st0 = as.reverse ++ .ref o :: rest) (hro : (rest.map fun v => v.category).sum ≤ 8)
    (kk : ∀ (v : Option Value) (L' : List Nat) (f' : Nat → va_E), Post v L' f' → V G R nL x L' f' (k + mc) (n + ms) lv (pc + 3) (v.toList ++ rest)) : V G R nL x L f k n lv pc st0 :=
  v_run (fun H locs ls hP hz hs => va_runVN (As := as) ⟨hx.1, hx.2.1, hx.2.2.1, hx.2.2.2.1, hx.2.2.2.2.1⟩ hM ⟨va_cnB np hx.2.2.2.2.1 (big_good hY.1) rfl rfl rfl (hx.2.2.2.2.2.1.2 _ hlink) (hx.2.2.2.2.1 _ hY.2.1) hY.2.2 hR, hx.2.2.2.2.1 _ hin, hx.2.2.2.2.1 _ hsel⟩ ⟨(vx_pre hx hP hz).1, vx_recv hx hP ho hfo hc, (vx_pre hx hP hz).2⟩ rfl hnp hs hstk (lv_room hro) hd hf) kk
theorem v_callI (hx : KX G nL x cc own) {y : MethodName} {b : ByteArray} {mL np fr lo mc ms index o : Nat} {as : List Value} {Post : Option Value → List Nat → (Nat → va_E) → Prop} (hM : Con G y (.code y b mL none :: BIG) fr lo mc ms (.ref o :: as) L f Post) (hY : CY y b mL none np) (hlink : Cond.methodLink own index y ∈ BIG) (hin : Cond.instanceMethod y ∈ BIG) (hy1 : y.name = "<init>") (hd : decode cc pc = .ok (.invokespecial index, 3)) (hR : fr + 1 ≤ R.frames ∧ 8 + (mL + 11) + lo ≤ R.locals) (hf : k + mc ≤ R.cells ∧ n + ms ≤ R.slots) (hnp : as.length = np) (hstk : st0 = as.reverse ++ .ref o :: rest) (hro : (rest.map fun v => v.category).sum ≤ 8)
    (kk : ∀ (v : Option Value) (L' : List Nat) (f' : Nat → va_E), Post v L' f' → V G R nL x L' f' (k + mc) (n + ms) lv (pc + 3) (v.toList ++ rest)) : V G R nL x L f k n lv pc st0 :=
  v_run (fun H locs ls hP hz hs => va_runI (As := as) ⟨hx.1, hx.2.1, hx.2.2.1, hx.2.2.2.1, hx.2.2.2.2.1⟩ hM ⟨callB_of np hx.2.2.2.2.1 (big_good hY.1) rfl rfl rfl (hx.2.2.2.2.1 _ hY.2.1) (hx.2.2.2.2.1 _ hlink) hY.2.2 hR, hy1, hx.2.2.2.2.1 _ hin⟩ (vx_pre hx hP hz) rfl hnp hs hstk (lv_room hro) hd hf) kk
theorem v_callIN (hx : KX G nL x cc own) {y : MethodName} {b : ByteArray} {mL np fr lo mc ms index o : Nat} {host : String} {as : List Value} {Post : Option Value → List Nat → (Nat → va_E) → Prop} (hM : Con G y (.code y b mL none :: BIG) fr lo mc ms (.ref o :: as) L f Post) (hY : CY y b mL none np) (hlink : Cond.methodLinkNest own index y host ∈ NW) (hin : Cond.instanceMethod y ∈ BIG) (hy1 : y.name = "<init>") (hd : decode cc pc = .ok (.invokespecial index, 3)) (hR : fr + 1 ≤ R.frames ∧ 8 + (mL + 11) + lo ≤ R.locals) (hf : k + mc ≤ R.cells ∧ n + ms ≤ R.slots) (hnp : as.length = np) (hstk : st0 = as.reverse ++ .ref o :: rest) (hro : (rest.map fun v => v.category).sum ≤ 8)
    (kk : ∀ (v : Option Value) (L' : List Nat) (f' : Nat → va_E), Post v L' f' → V G R nL x L' f' (k + mc) (n + ms) lv (pc + 3) (v.toList ++ rest)) : V G R nL x L f k n lv pc st0 :=
  v_run (fun H locs ls hP hz hs => va_runIN (As := as) ⟨hx.1, hx.2.1, hx.2.2.1, hx.2.2.2.1, hx.2.2.2.2.1⟩ hM ⟨va_cnB np hx.2.2.2.2.1 (big_good hY.1) rfl rfl rfl (hx.2.2.2.2.2.1.2 _ hlink) (hx.2.2.2.2.1 _ hY.2.1) hY.2.2 hR, hy1, hx.2.2.2.2.1 _ hin⟩ (vx_pre hx hP hz) rfl hnp hs hstk (lv_room hro) hd hf) kk
/-- Object's constructor -/
theorem v_objInit (hx : KX G nL x cc own) {o index : Nat} (h1 : Cond.methodLink own index objectInit ∈ BIG) (h2 : Cond.instanceMethod objectInit ∈ BIG) (h3 : Cond.code objectInit ⟨#[0xb1]⟩ 1 none ∈ BIG) (hd : decode cc pc = .ok (.invokespecial index, 3)) (hR : 1 ≤ R.frames ∧ 12 ≤ R.locals) (kk : V G R nL x L f k n lv (pc + 3) []) : V G R nL x L f k n lv pc [.ref o] := by
  intro H locs ls hP hS hl
  exact W.objInit hx.1 hx.2.1 hx.2.2.2.1 (hx.2.2.2.2.1 _ h1) (hx.2.2.2.2.1 _ h2) (hx.2.2.2.2.1 _ h3) rfl (by rw [hx.2.2.1]; exact hl.1) rfl hd hR.1 hR.2 (kk H locs ls hP hS hl)
theorem v_iret (hx : KX G nL x cc own) {Post : Option Value → List Nat → (Nat → va_E) → Prop} {v : Int32} (hr : RX G x Post k n (some .int)) (hd : decode cc pc = .ok (.ireturn, 1)) (hp : Post (some (.int v)) L f) : V G R nL x L f k n lv pc [.int v] := by
  intro H locs ls hP hS hl
  rw [hr.1]
  exact W.iret hx.1 hx.2.1 hr.2 (fun t ht _ => ⟨⟨some (.int v), L, f, rfl, hp, by rw [ht]; exact hP⟩, hS.F ht⟩) hS.2.2 hd hx.2.2.2.2.2.2.2
theorem v_zret (hx : KX G nL x cc own) {Post : Option Value → List Nat → (Nat → va_E) → Prop} {v : Int32} (hr : RX G x Post k n (some .boolean)) (hd : decode cc pc = .ok (.ireturn, 1)) (hv : narrow .boolean (.int v) = .int v) (hp : Post (some (.int v)) L f) : V G R nL x L f k n lv pc [.int v] := by
  intro H locs ls hP hS hl
  rw [hr.1]
  exact W.zret hx.1 hx.2.1 hr.2 hv (fun t ht _ => ⟨⟨some (.int v), L, f, rfl, hp, by rw [ht]; exact hP⟩, hS.F ht⟩) hS.2.2 hd hx.2.2.2.2.2.2.2
theorem v_vret (hx : KX G nL x cc own) {Post : Option Value → List Nat → (Nat → va_E) → Prop} (hr : RX G x Post k n none) (hd : decode cc pc = .ok (.return_, 1)) (hp : Post none L f) : V G R nL x L f k n lv pc [] := by
  intro H locs ls hP hS hl
  rw [hr.1]
  exact W.vret hx.1 hx.2.1 hr.2 (fun t ht _ => ⟨⟨none, L, f, rfl, hp, by rw [ht]; exact hP⟩, hS.F ht⟩) hS.2.2 hd hx.2.2.2.2.2.2.2
theorem v_aret (hx : KX G nL x cc own) {Post : Option Value → List Nat → (Nat → va_E) → Prop} {v : Value} {rt : FieldType} (hr : RX G x Post k n (some rt)) (hrt : (∃ n, rt = .object n) ∨ ∃ t, rt = .array t) (hv : v = .null ∨ ∃ a, v = .ref a) (hd : decode cc pc = .ok (.areturn, 1)) (hp : Post (some v) L f) : V G R nL x L f k n lv pc [v] := by
  intro H locs ls hP hS hl
  rw [hr.1]
  exact W.aret hx.1 hx.2.1 hr.2 hrt hv (fun t ht _ => ⟨⟨some v, L, f, rfl, hp, by rw [ht]; exact hP⟩, hS.F ht⟩) hS.2.2 hd hx.2.2.2.2.2.2.2
end VCALL
theorem lv_args_at : ∀ (as : List Value) (o i : Nat) (v : Value), (∀ w ∈ as, w.category = 1) → as[i]? = some v → (o + i, v) ∈ lv_args o as
  | [], _, _, _, _, h => by simp at h
  | a :: as, o, i, v, hc, h => by
    have ha : ¬ a.category = 2 := by rw [hc a List.mem_cons_self]; decide
    simp only [lv_args, if_neg ha]
    cases i with
    | zero => simp at h; subst h; exact List.mem_cons_self
    | succ i =>
      have h2 : as[i]? = some v := by simpa using h
      have := lv_args_at as (o + 1) i v (fun w hw => hc w (List.mem_cons_of_mem _ hw)) h2
      rw [show o + (i + 1) = o + 1 + i by omega]
      exact List.mem_cons_of_mem _ this
def lvE (as : List Value) (nL : Nat) : List (Option Value) := as.map some ++ List.replicate (nL - as.length) none
theorem lvE_has {as : List Value} {nL : Nat} (hc : ∀ w ∈ as, w.category = 1) (h : (lg_sl as).length ≤ nL) : vl_has ((lg_sl as ++ List.replicate (nL - (lg_sl as).length) Slot.unset).toArray) nL (lvE as nL) := by
  have hl := lv_entry as h
  refine ⟨hl.1, hl.2.1, fun i v hi => ?_⟩
  have hi2 : as[i]? = some v := by
    unfold lvE at hi
    rw [List.getElem?_append] at hi
    split at hi
    · rename_i h1
      rw [List.getElem?_map] at hi
      cases h2 : as[i]? with
      | none => rw [h2] at hi; cases hi
      | some w => rw [h2] at hi; simp at hi; rw [hi]
    · rw [List.getElem?_replicate] at hi
      split at hi <;> cases hi
  refine ⟨hc v (List.mem_of_getElem? hi2), ?_⟩
  have := hl.2.2 (0 + i, v) (lv_args_at as 0 i v hc hi2)
  rw [Nat.zero_add] at this
  exact this
/-- a contract by a walk from the entry -/
theorem con_of {G : GT} {y : MethodName} {fr lo mc ms mL : Nat} {as : List Value} {L : List Nat} {f : Nat → va_E} {Post : Option Value → List Nat → (Nat → va_E) → Prop} {cc : ByteArray} {ret : Option FieldType} {lv : List (Option Value)} (hy : plainName y.cls = true) (hc : ∀ w ∈ as, w.category = 1) (h : (lg_sl as).length ≤ mL) (hlv : lvE as mL = lv)
    (body : ∀ x : XT, KX G mL x cc y.cls → RX G x Post mc ms ret → x.2.2.2.2.2.2.1.name = y.name → V G { frames := fr, cells := mc, slots := ms, locals := lo } mL x L f 0 0 lv 0 []) : Con G y (.code y cc mL ret :: BIG) fr lo mc ms as L f Post := by
  refine Met.ofW (cc := cc) (maxL := mL) (ret := ret) hy rfl ?_
  intro p e s m args below meth c s₁ B hml hv
  obtain ⟨rfl, hbase, hP, hK⟩ := hv
  have hts := atoms_spec (ws := .code y cc mL ret :: BIG) B.pre
  have hown : s.vm.findClass y.cls = some m.cls := findClass_of_methodNamed B.named
  have hV := body (p, e, s, m, as.toArray, below, meth, c, MQ below (cPost G Post) as.toArray s mc ms (gB G)) ⟨B.exec, B.bytes, hml, hown, fun w h => hts w (List.mem_cons_of_mem _ h), hK, hbase, B.notSynchronized⟩ ⟨rfl, B.returns⟩ (name_of_methodNamed B.named B.method).1
  subst hlv
  rw [lg_entry_eq]
  exact hV s.heap [] _ hP va_S.rf (lvE_has hc h)
end
section
/-! ===== modules of cells ===== -/
/-- the addresses A 0 .. A (N - 1) are ours, apart, and owned by id -/
def Own (L : List Nat) (w : Nat → Nat) (id : Nat) (A : Nat → Nat) (N : Nat) : Prop := (∀ i, i < N → A i ∈ L ∧ w (A i) = id) ∧ ∀ i j, i < N → j < N → A i = A j → i = j
theorem Own.mem {L : List Nat} {w : Nat → Nat} {id : Nat} {A : Nat → Nat} {N : Nat} (h : Own L w id A N) {i : Nat} (hi : i < N) : A i ∈ L := (h.1 i hi).1
theorem Own.own {L : List Nat} {w : Nat → Nat} {id : Nat} {A : Nat → Nat} {N : Nat} (h : Own L w id A N) {i : Nat} (hi : i < N) : w (A i) = id := (h.1 i hi).2
theorem Own.ne {L : List Nat} {w : Nat → Nat} {id : Nat} {A : Nat → Nat} {N : Nat} (h : Own L w id A N) {i j : Nat} (hi : i < N) (hj : j < N) (e : i ≠ j) : A i ≠ A j := fun q => e (h.2 i j hi hj q)
theorem Own.move {L L' : List Nat} {w w' : Nat → Nat} {id : Nat} {A : Nat → Nat} {N : Nat} (h : Own L w id A N) (hL : ∀ q, q ∈ L → q ∈ L') (hw : ∀ q, q ∈ L → w' q = w q) : Own L' w' id A N := ⟨fun i hi => ⟨hL _ (h.mem hi), (hw _ (h.mem hi)).trans (h.own hi)⟩, h.2⟩
/-- nothing has changed but what id owns -/
def gF (w : Nat → Nat) (id : Nat) (f f' : Nat → va_E) : Prop := ∀ q, w q ≠ id → f' q = f q
theorem gF.rf {w : Nat → Nat} {id : Nat} {f : Nat → va_E} : gF w id f f := fun _ _ => rfl
theorem gF.up {w : Nat → Nat} {id a : Nat} {f f1 f2 : Nat → va_E} {e : va_E} (h : gF w id f f1) (he : f2 = va_up f1 a e) (ha : w a = id) : gF w id f f2 := fun q hq => by
  rw [he, va_up_ne _ _ (fun z => hq (by rw [z]; exact ha))]
  exact h q hq
theorem gF.tr {w : Nat → Nat} {id : Nat} {f f1 f2 : Nat → va_E} (h : gF w id f f1) (h2 : gF w id f1 f2) : gF w id f f2 := fun q hq => (h2 q hq).trans (h q hq)
theorem own_of {L : List Nat} {w : Nat → Nat} {id o : Nat} (qs : List Nat) (ho : o ∈ L) (hw : w o = id) (hn : qs.Nodup) (hf : ∀ q ∈ qs, q ∉ L) : Own (L ++ qs) (fun q => if q ∈ L then w q else id) id (fun i => (o :: qs).getD i 0) (qs.length + 1) := by
  refine ⟨fun i hi => ?_, fun i j hi hj e => ?_⟩
  · cases i with
    | zero => exact ⟨List.mem_append_left _ ho, by show (if o ∈ L then w o else id) = id; rw [if_pos ho]; exact hw⟩
    | succ i =>
      have hi2 : i < qs.length := by omega
      have hq : qs[i] ∈ qs := List.getElem_mem hi2
      have e1 : (o :: qs).getD (i + 1) 0 = qs[i] := by simp [hi2]
      show (o :: qs).getD (i + 1) 0 ∈ L ++ qs ∧ (if (o :: qs).getD (i + 1) 0 ∈ L then w ((o :: qs).getD (i + 1) 0) else id) = id
      rw [e1]
      exact ⟨List.mem_append_right _ hq, if_neg (hf _ hq)⟩
  · have hnd : (o :: qs).Nodup := List.nodup_cons.mpr ⟨fun h => hf o h ho, hn⟩
    have hi2 : i < (o :: qs).length := hi
    have hj2 : j < (o :: qs).length := hj
    have e1 : (o :: qs)[i] = (o :: qs)[j] := by
      have a1 : (o :: qs).getD i 0 = (o :: qs)[i] := by rw [List.getD_eq_getElem?_getD, List.getElem?_eq_getElem hi2]; rfl
      have a2 : (o :: qs).getD j 0 = (o :: qs)[j] := by rw [List.getD_eq_getElem?_getD, List.getElem?_eq_getElem hj2]; rfl
      rw [← a1, ← a2]; exact e
    have hp := List.pairwise_iff_getElem.mp hnd
    rcases Nat.lt_trichotomy i j with c | c | c
    · exact absurd e1 (hp i j hi2 hj2 c)
    · exact c
    · exact absurd e1.symm (hp j i hj2 hi2 c)
def MaAt (G : GT) (L : List Nat) (f : Nat → va_E) (w : Nat → Nat) (id : Nat) (A : Nat → Nat) (nx : Nat → Nat) (ou : Nat → Nat) (lo : Nat → Nat) (fi : Nat → Nat) (n : Nat) (k : Nat) (b : Nat) : Prop := Own L w id A 5 ∧ f (A 0) = .inr (1, [.ref (A 1), .ref (A 2), .ref (A 3), .ref (A 4), .int (nI n), .int (nI k), .int (nI b)]) ∧ f (A 1) = aI G 160 nx ∧ f (A 2) = aI G 160 ou ∧ f (A 3) = aI G 40 lo ∧ f (A 4) = aI G 40 fi
theorem MaAt.m0 {G : GT} {L : List Nat} {f : Nat → va_E} {w : Nat → Nat} {id : Nat} {A : Nat → Nat} {nx : Nat → Nat} {ou : Nat → Nat} {lo : Nat → Nat} {fi : Nat → Nat} {n : Nat} {k : Nat} {b : Nat} (h : MaAt G L f w id A nx ou lo fi n k b) : A 0 ∈ L := h.1.mem (by decide)
theorem MaAt.o0 {G : GT} {L : List Nat} {f : Nat → va_E} {w : Nat → Nat} {id : Nat} {A : Nat → Nat} {nx : Nat → Nat} {ou : Nat → Nat} {lo : Nat → Nat} {fi : Nat → Nat} {n : Nat} {k : Nat} {b : Nat} (h : MaAt G L f w id A nx ou lo fi n k b) : w (A 0) = id := h.1.own (by decide)
theorem MaAt.f0 {G : GT} {L : List Nat} {f : Nat → va_E} {w : Nat → Nat} {id : Nat} {A : Nat → Nat} {nx : Nat → Nat} {ou : Nat → Nat} {lo : Nat → Nat} {fi : Nat → Nat} {n : Nat} {k : Nat} {b : Nat} (h : MaAt G L f w id A nx ou lo fi n k b) : f (A 0) = .inr (1, [.ref (A 1), .ref (A 2), .ref (A 3), .ref (A 4), .int (nI n), .int (nI k), .int (nI b)]) := h.2.1
theorem MaAt.m1 {G : GT} {L : List Nat} {f : Nat → va_E} {w : Nat → Nat} {id : Nat} {A : Nat → Nat} {nx : Nat → Nat} {ou : Nat → Nat} {lo : Nat → Nat} {fi : Nat → Nat} {n : Nat} {k : Nat} {b : Nat} (h : MaAt G L f w id A nx ou lo fi n k b) : A 1 ∈ L := h.1.mem (by decide)
theorem MaAt.o1 {G : GT} {L : List Nat} {f : Nat → va_E} {w : Nat → Nat} {id : Nat} {A : Nat → Nat} {nx : Nat → Nat} {ou : Nat → Nat} {lo : Nat → Nat} {fi : Nat → Nat} {n : Nat} {k : Nat} {b : Nat} (h : MaAt G L f w id A nx ou lo fi n k b) : w (A 1) = id := h.1.own (by decide)
theorem MaAt.f1 {G : GT} {L : List Nat} {f : Nat → va_E} {w : Nat → Nat} {id : Nat} {A : Nat → Nat} {nx : Nat → Nat} {ou : Nat → Nat} {lo : Nat → Nat} {fi : Nat → Nat} {n : Nat} {k : Nat} {b : Nat} (h : MaAt G L f w id A nx ou lo fi n k b) : f (A 1) = aI G 160 nx := h.2.2.1
theorem MaAt.m2 {G : GT} {L : List Nat} {f : Nat → va_E} {w : Nat → Nat} {id : Nat} {A : Nat → Nat} {nx : Nat → Nat} {ou : Nat → Nat} {lo : Nat → Nat} {fi : Nat → Nat} {n : Nat} {k : Nat} {b : Nat} (h : MaAt G L f w id A nx ou lo fi n k b) : A 2 ∈ L := h.1.mem (by decide)
theorem MaAt.o2 {G : GT} {L : List Nat} {f : Nat → va_E} {w : Nat → Nat} {id : Nat} {A : Nat → Nat} {nx : Nat → Nat} {ou : Nat → Nat} {lo : Nat → Nat} {fi : Nat → Nat} {n : Nat} {k : Nat} {b : Nat} (h : MaAt G L f w id A nx ou lo fi n k b) : w (A 2) = id := h.1.own (by decide)
theorem MaAt.f2 {G : GT} {L : List Nat} {f : Nat → va_E} {w : Nat → Nat} {id : Nat} {A : Nat → Nat} {nx : Nat → Nat} {ou : Nat → Nat} {lo : Nat → Nat} {fi : Nat → Nat} {n : Nat} {k : Nat} {b : Nat} (h : MaAt G L f w id A nx ou lo fi n k b) : f (A 2) = aI G 160 ou := h.2.2.2.1
theorem MaAt.m3 {G : GT} {L : List Nat} {f : Nat → va_E} {w : Nat → Nat} {id : Nat} {A : Nat → Nat} {nx : Nat → Nat} {ou : Nat → Nat} {lo : Nat → Nat} {fi : Nat → Nat} {n : Nat} {k : Nat} {b : Nat} (h : MaAt G L f w id A nx ou lo fi n k b) : A 3 ∈ L := h.1.mem (by decide)
theorem MaAt.o3 {G : GT} {L : List Nat} {f : Nat → va_E} {w : Nat → Nat} {id : Nat} {A : Nat → Nat} {nx : Nat → Nat} {ou : Nat → Nat} {lo : Nat → Nat} {fi : Nat → Nat} {n : Nat} {k : Nat} {b : Nat} (h : MaAt G L f w id A nx ou lo fi n k b) : w (A 3) = id := h.1.own (by decide)
theorem MaAt.f3 {G : GT} {L : List Nat} {f : Nat → va_E} {w : Nat → Nat} {id : Nat} {A : Nat → Nat} {nx : Nat → Nat} {ou : Nat → Nat} {lo : Nat → Nat} {fi : Nat → Nat} {n : Nat} {k : Nat} {b : Nat} (h : MaAt G L f w id A nx ou lo fi n k b) : f (A 3) = aI G 40 lo := h.2.2.2.2.1
theorem MaAt.m4 {G : GT} {L : List Nat} {f : Nat → va_E} {w : Nat → Nat} {id : Nat} {A : Nat → Nat} {nx : Nat → Nat} {ou : Nat → Nat} {lo : Nat → Nat} {fi : Nat → Nat} {n : Nat} {k : Nat} {b : Nat} (h : MaAt G L f w id A nx ou lo fi n k b) : A 4 ∈ L := h.1.mem (by decide)
theorem MaAt.o4 {G : GT} {L : List Nat} {f : Nat → va_E} {w : Nat → Nat} {id : Nat} {A : Nat → Nat} {nx : Nat → Nat} {ou : Nat → Nat} {lo : Nat → Nat} {fi : Nat → Nat} {n : Nat} {k : Nat} {b : Nat} (h : MaAt G L f w id A nx ou lo fi n k b) : w (A 4) = id := h.1.own (by decide)
theorem MaAt.f4 {G : GT} {L : List Nat} {f : Nat → va_E} {w : Nat → Nat} {id : Nat} {A : Nat → Nat} {nx : Nat → Nat} {ou : Nat → Nat} {lo : Nat → Nat} {fi : Nat → Nat} {n : Nat} {k : Nat} {b : Nat} (h : MaAt G L f w id A nx ou lo fi n k b) : f (A 4) = aI G 40 fi := h.2.2.2.2.2
theorem MaAt.up0 {G : GT} {L : List Nat} {f : Nat → va_E} {w : Nat → Nat} {id : Nat} {A : Nat → Nat} {nx : Nat → Nat} {ou : Nat → Nat} {lo : Nat → Nat} {fi : Nat → Nat} {n : Nat} {k : Nat} {b : Nat} {n' : Nat} {k' : Nat} {b' : Nat} {f' : Nat → va_E} (h : MaAt G L f w id A nx ou lo fi n k b) (e : f' = va_up f (A 0) (.inr (1, [.ref (A 1), .ref (A 2), .ref (A 3), .ref (A 4), .int (nI n'), .int (nI k'), .int (nI b')]))) : MaAt G L f' w id A nx ou lo fi n' k' b' := by
  subst e
  exact ⟨h.1, va_up_self _ _ _, (va_up_ne _ _ (h.1.ne (by decide) (by decide) (by decide))).trans h.f1, (va_up_ne _ _ (h.1.ne (by decide) (by decide) (by decide))).trans h.f2, (va_up_ne _ _ (h.1.ne (by decide) (by decide) (by decide))).trans h.f3, (va_up_ne _ _ (h.1.ne (by decide) (by decide) (by decide))).trans h.f4⟩
theorem MaAt.up1 {G : GT} {L : List Nat} {f : Nat → va_E} {w : Nat → Nat} {id : Nat} {A : Nat → Nat} {nx : Nat → Nat} {ou : Nat → Nat} {lo : Nat → Nat} {fi : Nat → Nat} {n : Nat} {k : Nat} {b : Nat} {nx' : Nat → Nat} {f' : Nat → va_E} (h : MaAt G L f w id A nx ou lo fi n k b) (e : f' = va_up f (A 1) (aI G 160 nx')) : MaAt G L f' w id A nx' ou lo fi n k b := by
  subst e
  exact ⟨h.1, (va_up_ne _ _ (h.1.ne (by decide) (by decide) (by decide))).trans h.f0, va_up_self _ _ _, (va_up_ne _ _ (h.1.ne (by decide) (by decide) (by decide))).trans h.f2, (va_up_ne _ _ (h.1.ne (by decide) (by decide) (by decide))).trans h.f3, (va_up_ne _ _ (h.1.ne (by decide) (by decide) (by decide))).trans h.f4⟩
theorem MaAt.up2 {G : GT} {L : List Nat} {f : Nat → va_E} {w : Nat → Nat} {id : Nat} {A : Nat → Nat} {nx : Nat → Nat} {ou : Nat → Nat} {lo : Nat → Nat} {fi : Nat → Nat} {n : Nat} {k : Nat} {b : Nat} {ou' : Nat → Nat} {f' : Nat → va_E} (h : MaAt G L f w id A nx ou lo fi n k b) (e : f' = va_up f (A 2) (aI G 160 ou')) : MaAt G L f' w id A nx ou' lo fi n k b := by
  subst e
  exact ⟨h.1, (va_up_ne _ _ (h.1.ne (by decide) (by decide) (by decide))).trans h.f0, (va_up_ne _ _ (h.1.ne (by decide) (by decide) (by decide))).trans h.f1, va_up_self _ _ _, (va_up_ne _ _ (h.1.ne (by decide) (by decide) (by decide))).trans h.f3, (va_up_ne _ _ (h.1.ne (by decide) (by decide) (by decide))).trans h.f4⟩
theorem MaAt.up3 {G : GT} {L : List Nat} {f : Nat → va_E} {w : Nat → Nat} {id : Nat} {A : Nat → Nat} {nx : Nat → Nat} {ou : Nat → Nat} {lo : Nat → Nat} {fi : Nat → Nat} {n : Nat} {k : Nat} {b : Nat} {lo' : Nat → Nat} {f' : Nat → va_E} (h : MaAt G L f w id A nx ou lo fi n k b) (e : f' = va_up f (A 3) (aI G 40 lo')) : MaAt G L f' w id A nx ou lo' fi n k b := by
  subst e
  exact ⟨h.1, (va_up_ne _ _ (h.1.ne (by decide) (by decide) (by decide))).trans h.f0, (va_up_ne _ _ (h.1.ne (by decide) (by decide) (by decide))).trans h.f1, (va_up_ne _ _ (h.1.ne (by decide) (by decide) (by decide))).trans h.f2, va_up_self _ _ _, (va_up_ne _ _ (h.1.ne (by decide) (by decide) (by decide))).trans h.f4⟩
theorem MaAt.up4 {G : GT} {L : List Nat} {f : Nat → va_E} {w : Nat → Nat} {id : Nat} {A : Nat → Nat} {nx : Nat → Nat} {ou : Nat → Nat} {lo : Nat → Nat} {fi : Nat → Nat} {n : Nat} {k : Nat} {b : Nat} {fi' : Nat → Nat} {f' : Nat → va_E} (h : MaAt G L f w id A nx ou lo fi n k b) (e : f' = va_up f (A 4) (aI G 40 fi')) : MaAt G L f' w id A nx ou lo fi' n k b := by
  subst e
  exact ⟨h.1, (va_up_ne _ _ (h.1.ne (by decide) (by decide) (by decide))).trans h.f0, (va_up_ne _ _ (h.1.ne (by decide) (by decide) (by decide))).trans h.f1, (va_up_ne _ _ (h.1.ne (by decide) (by decide) (by decide))).trans h.f2, (va_up_ne _ _ (h.1.ne (by decide) (by decide) (by decide))).trans h.f3, va_up_self _ _ _⟩
theorem MaAt.move {G : GT} {L : List Nat} {f : Nat → va_E} {w : Nat → Nat} {id : Nat} {A : Nat → Nat} {nx : Nat → Nat} {ou : Nat → Nat} {lo : Nat → Nat} {fi : Nat → Nat} {n : Nat} {k : Nat} {b : Nat} {L' : List Nat} {w' : Nat → Nat} {f' : Nat → va_E} (h : MaAt G L f w id A nx ou lo fi n k b) (hL : ∀ q, q ∈ L → q ∈ L') (hw : ∀ q, q ∈ L → w' q = w q) (hf : ∀ q, q ∈ L → w q = id → f' q = f q) : MaAt G L' f' w' id A nx ou lo fi n k b := ⟨h.1.move hL hw, (hf _ h.m0 h.o0).trans h.f0, (hf _ h.m1 h.o1).trans h.f1, (hf _ h.m2 h.o2).trans h.f2, (hf _ h.m3 h.o3).trans h.f3, (hf _ h.m4 h.o4).trans h.f4⟩
def SeAt (G : GT) (L : List Nat) (f : Nat → va_E) (w : Nat → Nat) (id : Nat) (A : Nat → Nat) (nm : Nat → Option Nat) (pl : Nat → Nat) (st : Nat → Nat) (c : Nat) : Prop := Own L w id A 4 ∧ f (A 0) = .inr (2, [.ref (A 1), .ref (A 2), .ref (A 3), .int (nI c)]) ∧ f (A 1) = aO G 4096 nm ∧ f (A 2) = aI G 4096 pl ∧ f (A 3) = aI G 4096 st
theorem SeAt.m0 {G : GT} {L : List Nat} {f : Nat → va_E} {w : Nat → Nat} {id : Nat} {A : Nat → Nat} {nm : Nat → Option Nat} {pl : Nat → Nat} {st : Nat → Nat} {c : Nat} (h : SeAt G L f w id A nm pl st c) : A 0 ∈ L := h.1.mem (by decide)
theorem SeAt.o0 {G : GT} {L : List Nat} {f : Nat → va_E} {w : Nat → Nat} {id : Nat} {A : Nat → Nat} {nm : Nat → Option Nat} {pl : Nat → Nat} {st : Nat → Nat} {c : Nat} (h : SeAt G L f w id A nm pl st c) : w (A 0) = id := h.1.own (by decide)
theorem SeAt.f0 {G : GT} {L : List Nat} {f : Nat → va_E} {w : Nat → Nat} {id : Nat} {A : Nat → Nat} {nm : Nat → Option Nat} {pl : Nat → Nat} {st : Nat → Nat} {c : Nat} (h : SeAt G L f w id A nm pl st c) : f (A 0) = .inr (2, [.ref (A 1), .ref (A 2), .ref (A 3), .int (nI c)]) := h.2.1
theorem SeAt.m1 {G : GT} {L : List Nat} {f : Nat → va_E} {w : Nat → Nat} {id : Nat} {A : Nat → Nat} {nm : Nat → Option Nat} {pl : Nat → Nat} {st : Nat → Nat} {c : Nat} (h : SeAt G L f w id A nm pl st c) : A 1 ∈ L := h.1.mem (by decide)
theorem SeAt.o1 {G : GT} {L : List Nat} {f : Nat → va_E} {w : Nat → Nat} {id : Nat} {A : Nat → Nat} {nm : Nat → Option Nat} {pl : Nat → Nat} {st : Nat → Nat} {c : Nat} (h : SeAt G L f w id A nm pl st c) : w (A 1) = id := h.1.own (by decide)
theorem SeAt.f1 {G : GT} {L : List Nat} {f : Nat → va_E} {w : Nat → Nat} {id : Nat} {A : Nat → Nat} {nm : Nat → Option Nat} {pl : Nat → Nat} {st : Nat → Nat} {c : Nat} (h : SeAt G L f w id A nm pl st c) : f (A 1) = aO G 4096 nm := h.2.2.1
theorem SeAt.m2 {G : GT} {L : List Nat} {f : Nat → va_E} {w : Nat → Nat} {id : Nat} {A : Nat → Nat} {nm : Nat → Option Nat} {pl : Nat → Nat} {st : Nat → Nat} {c : Nat} (h : SeAt G L f w id A nm pl st c) : A 2 ∈ L := h.1.mem (by decide)
theorem SeAt.o2 {G : GT} {L : List Nat} {f : Nat → va_E} {w : Nat → Nat} {id : Nat} {A : Nat → Nat} {nm : Nat → Option Nat} {pl : Nat → Nat} {st : Nat → Nat} {c : Nat} (h : SeAt G L f w id A nm pl st c) : w (A 2) = id := h.1.own (by decide)
theorem SeAt.f2 {G : GT} {L : List Nat} {f : Nat → va_E} {w : Nat → Nat} {id : Nat} {A : Nat → Nat} {nm : Nat → Option Nat} {pl : Nat → Nat} {st : Nat → Nat} {c : Nat} (h : SeAt G L f w id A nm pl st c) : f (A 2) = aI G 4096 pl := h.2.2.2.1
theorem SeAt.m3 {G : GT} {L : List Nat} {f : Nat → va_E} {w : Nat → Nat} {id : Nat} {A : Nat → Nat} {nm : Nat → Option Nat} {pl : Nat → Nat} {st : Nat → Nat} {c : Nat} (h : SeAt G L f w id A nm pl st c) : A 3 ∈ L := h.1.mem (by decide)
theorem SeAt.o3 {G : GT} {L : List Nat} {f : Nat → va_E} {w : Nat → Nat} {id : Nat} {A : Nat → Nat} {nm : Nat → Option Nat} {pl : Nat → Nat} {st : Nat → Nat} {c : Nat} (h : SeAt G L f w id A nm pl st c) : w (A 3) = id := h.1.own (by decide)
theorem SeAt.f3 {G : GT} {L : List Nat} {f : Nat → va_E} {w : Nat → Nat} {id : Nat} {A : Nat → Nat} {nm : Nat → Option Nat} {pl : Nat → Nat} {st : Nat → Nat} {c : Nat} (h : SeAt G L f w id A nm pl st c) : f (A 3) = aI G 4096 st := h.2.2.2.2
theorem SeAt.up0 {G : GT} {L : List Nat} {f : Nat → va_E} {w : Nat → Nat} {id : Nat} {A : Nat → Nat} {nm : Nat → Option Nat} {pl : Nat → Nat} {st : Nat → Nat} {c : Nat} {c' : Nat} {f' : Nat → va_E} (h : SeAt G L f w id A nm pl st c) (e : f' = va_up f (A 0) (.inr (2, [.ref (A 1), .ref (A 2), .ref (A 3), .int (nI c')]))) : SeAt G L f' w id A nm pl st c' := by
  subst e
  exact ⟨h.1, va_up_self _ _ _, (va_up_ne _ _ (h.1.ne (by decide) (by decide) (by decide))).trans h.f1, (va_up_ne _ _ (h.1.ne (by decide) (by decide) (by decide))).trans h.f2, (va_up_ne _ _ (h.1.ne (by decide) (by decide) (by decide))).trans h.f3⟩
theorem SeAt.up1 {G : GT} {L : List Nat} {f : Nat → va_E} {w : Nat → Nat} {id : Nat} {A : Nat → Nat} {nm : Nat → Option Nat} {pl : Nat → Nat} {st : Nat → Nat} {c : Nat} {nm' : Nat → Option Nat} {f' : Nat → va_E} (h : SeAt G L f w id A nm pl st c) (e : f' = va_up f (A 1) (aO G 4096 nm')) : SeAt G L f' w id A nm' pl st c := by
  subst e
  exact ⟨h.1, (va_up_ne _ _ (h.1.ne (by decide) (by decide) (by decide))).trans h.f0, va_up_self _ _ _, (va_up_ne _ _ (h.1.ne (by decide) (by decide) (by decide))).trans h.f2, (va_up_ne _ _ (h.1.ne (by decide) (by decide) (by decide))).trans h.f3⟩
theorem SeAt.up2 {G : GT} {L : List Nat} {f : Nat → va_E} {w : Nat → Nat} {id : Nat} {A : Nat → Nat} {nm : Nat → Option Nat} {pl : Nat → Nat} {st : Nat → Nat} {c : Nat} {pl' : Nat → Nat} {f' : Nat → va_E} (h : SeAt G L f w id A nm pl st c) (e : f' = va_up f (A 2) (aI G 4096 pl')) : SeAt G L f' w id A nm pl' st c := by
  subst e
  exact ⟨h.1, (va_up_ne _ _ (h.1.ne (by decide) (by decide) (by decide))).trans h.f0, (va_up_ne _ _ (h.1.ne (by decide) (by decide) (by decide))).trans h.f1, va_up_self _ _ _, (va_up_ne _ _ (h.1.ne (by decide) (by decide) (by decide))).trans h.f3⟩
theorem SeAt.up3 {G : GT} {L : List Nat} {f : Nat → va_E} {w : Nat → Nat} {id : Nat} {A : Nat → Nat} {nm : Nat → Option Nat} {pl : Nat → Nat} {st : Nat → Nat} {c : Nat} {st' : Nat → Nat} {f' : Nat → va_E} (h : SeAt G L f w id A nm pl st c) (e : f' = va_up f (A 3) (aI G 4096 st')) : SeAt G L f' w id A nm pl st' c := by
  subst e
  exact ⟨h.1, (va_up_ne _ _ (h.1.ne (by decide) (by decide) (by decide))).trans h.f0, (va_up_ne _ _ (h.1.ne (by decide) (by decide) (by decide))).trans h.f1, (va_up_ne _ _ (h.1.ne (by decide) (by decide) (by decide))).trans h.f2, va_up_self _ _ _⟩
theorem SeAt.move {G : GT} {L : List Nat} {f : Nat → va_E} {w : Nat → Nat} {id : Nat} {A : Nat → Nat} {nm : Nat → Option Nat} {pl : Nat → Nat} {st : Nat → Nat} {c : Nat} {L' : List Nat} {w' : Nat → Nat} {f' : Nat → va_E} (h : SeAt G L f w id A nm pl st c) (hL : ∀ q, q ∈ L → q ∈ L') (hw : ∀ q, q ∈ L → w' q = w q) (hf : ∀ q, q ∈ L → w q = id → f' q = f q) : SeAt G L' f' w' id A nm pl st c := ⟨h.1.move hL hw, (hf _ h.m0 h.o0).trans h.f0, (hf _ h.m1 h.o1).trans h.f1, (hf _ h.m2 h.o2).trans h.f2, (hf _ h.m3 h.o3).trans h.f3⟩
def FaAt (G : GT) (L : List Nat) (f : Nat → va_E) (w : Nat → Nat) (id : Nat) (A : Nat → Nat) (ss : Nat → Nat) (sz : Nat → Nat) (bo : Nat → Nat) (c : Nat) : Prop := Own L w id A 4 ∧ f (A 0) = .inr (0, [.ref (A 1), .ref (A 2), .ref (A 3), .int (nI c)]) ∧ f (A 1) = aI G 3600 ss ∧ f (A 2) = aI G 300 sz ∧ f (A 3) = aI G 10 bo
theorem FaAt.m0 {G : GT} {L : List Nat} {f : Nat → va_E} {w : Nat → Nat} {id : Nat} {A : Nat → Nat} {ss : Nat → Nat} {sz : Nat → Nat} {bo : Nat → Nat} {c : Nat} (h : FaAt G L f w id A ss sz bo c) : A 0 ∈ L := h.1.mem (by decide)
theorem FaAt.o0 {G : GT} {L : List Nat} {f : Nat → va_E} {w : Nat → Nat} {id : Nat} {A : Nat → Nat} {ss : Nat → Nat} {sz : Nat → Nat} {bo : Nat → Nat} {c : Nat} (h : FaAt G L f w id A ss sz bo c) : w (A 0) = id := h.1.own (by decide)
theorem FaAt.f0 {G : GT} {L : List Nat} {f : Nat → va_E} {w : Nat → Nat} {id : Nat} {A : Nat → Nat} {ss : Nat → Nat} {sz : Nat → Nat} {bo : Nat → Nat} {c : Nat} (h : FaAt G L f w id A ss sz bo c) : f (A 0) = .inr (0, [.ref (A 1), .ref (A 2), .ref (A 3), .int (nI c)]) := h.2.1
theorem FaAt.m1 {G : GT} {L : List Nat} {f : Nat → va_E} {w : Nat → Nat} {id : Nat} {A : Nat → Nat} {ss : Nat → Nat} {sz : Nat → Nat} {bo : Nat → Nat} {c : Nat} (h : FaAt G L f w id A ss sz bo c) : A 1 ∈ L := h.1.mem (by decide)
theorem FaAt.o1 {G : GT} {L : List Nat} {f : Nat → va_E} {w : Nat → Nat} {id : Nat} {A : Nat → Nat} {ss : Nat → Nat} {sz : Nat → Nat} {bo : Nat → Nat} {c : Nat} (h : FaAt G L f w id A ss sz bo c) : w (A 1) = id := h.1.own (by decide)
theorem FaAt.f1 {G : GT} {L : List Nat} {f : Nat → va_E} {w : Nat → Nat} {id : Nat} {A : Nat → Nat} {ss : Nat → Nat} {sz : Nat → Nat} {bo : Nat → Nat} {c : Nat} (h : FaAt G L f w id A ss sz bo c) : f (A 1) = aI G 3600 ss := h.2.2.1
theorem FaAt.m2 {G : GT} {L : List Nat} {f : Nat → va_E} {w : Nat → Nat} {id : Nat} {A : Nat → Nat} {ss : Nat → Nat} {sz : Nat → Nat} {bo : Nat → Nat} {c : Nat} (h : FaAt G L f w id A ss sz bo c) : A 2 ∈ L := h.1.mem (by decide)
theorem FaAt.o2 {G : GT} {L : List Nat} {f : Nat → va_E} {w : Nat → Nat} {id : Nat} {A : Nat → Nat} {ss : Nat → Nat} {sz : Nat → Nat} {bo : Nat → Nat} {c : Nat} (h : FaAt G L f w id A ss sz bo c) : w (A 2) = id := h.1.own (by decide)
theorem FaAt.f2 {G : GT} {L : List Nat} {f : Nat → va_E} {w : Nat → Nat} {id : Nat} {A : Nat → Nat} {ss : Nat → Nat} {sz : Nat → Nat} {bo : Nat → Nat} {c : Nat} (h : FaAt G L f w id A ss sz bo c) : f (A 2) = aI G 300 sz := h.2.2.2.1
theorem FaAt.m3 {G : GT} {L : List Nat} {f : Nat → va_E} {w : Nat → Nat} {id : Nat} {A : Nat → Nat} {ss : Nat → Nat} {sz : Nat → Nat} {bo : Nat → Nat} {c : Nat} (h : FaAt G L f w id A ss sz bo c) : A 3 ∈ L := h.1.mem (by decide)
theorem FaAt.o3 {G : GT} {L : List Nat} {f : Nat → va_E} {w : Nat → Nat} {id : Nat} {A : Nat → Nat} {ss : Nat → Nat} {sz : Nat → Nat} {bo : Nat → Nat} {c : Nat} (h : FaAt G L f w id A ss sz bo c) : w (A 3) = id := h.1.own (by decide)
theorem FaAt.f3 {G : GT} {L : List Nat} {f : Nat → va_E} {w : Nat → Nat} {id : Nat} {A : Nat → Nat} {ss : Nat → Nat} {sz : Nat → Nat} {bo : Nat → Nat} {c : Nat} (h : FaAt G L f w id A ss sz bo c) : f (A 3) = aI G 10 bo := h.2.2.2.2
theorem FaAt.up0 {G : GT} {L : List Nat} {f : Nat → va_E} {w : Nat → Nat} {id : Nat} {A : Nat → Nat} {ss : Nat → Nat} {sz : Nat → Nat} {bo : Nat → Nat} {c : Nat} {c' : Nat} {f' : Nat → va_E} (h : FaAt G L f w id A ss sz bo c) (e : f' = va_up f (A 0) (.inr (0, [.ref (A 1), .ref (A 2), .ref (A 3), .int (nI c')]))) : FaAt G L f' w id A ss sz bo c' := by
  subst e
  exact ⟨h.1, va_up_self _ _ _, (va_up_ne _ _ (h.1.ne (by decide) (by decide) (by decide))).trans h.f1, (va_up_ne _ _ (h.1.ne (by decide) (by decide) (by decide))).trans h.f2, (va_up_ne _ _ (h.1.ne (by decide) (by decide) (by decide))).trans h.f3⟩
theorem FaAt.up1 {G : GT} {L : List Nat} {f : Nat → va_E} {w : Nat → Nat} {id : Nat} {A : Nat → Nat} {ss : Nat → Nat} {sz : Nat → Nat} {bo : Nat → Nat} {c : Nat} {ss' : Nat → Nat} {f' : Nat → va_E} (h : FaAt G L f w id A ss sz bo c) (e : f' = va_up f (A 1) (aI G 3600 ss')) : FaAt G L f' w id A ss' sz bo c := by
  subst e
  exact ⟨h.1, (va_up_ne _ _ (h.1.ne (by decide) (by decide) (by decide))).trans h.f0, va_up_self _ _ _, (va_up_ne _ _ (h.1.ne (by decide) (by decide) (by decide))).trans h.f2, (va_up_ne _ _ (h.1.ne (by decide) (by decide) (by decide))).trans h.f3⟩
theorem FaAt.up2 {G : GT} {L : List Nat} {f : Nat → va_E} {w : Nat → Nat} {id : Nat} {A : Nat → Nat} {ss : Nat → Nat} {sz : Nat → Nat} {bo : Nat → Nat} {c : Nat} {sz' : Nat → Nat} {f' : Nat → va_E} (h : FaAt G L f w id A ss sz bo c) (e : f' = va_up f (A 2) (aI G 300 sz')) : FaAt G L f' w id A ss sz' bo c := by
  subst e
  exact ⟨h.1, (va_up_ne _ _ (h.1.ne (by decide) (by decide) (by decide))).trans h.f0, (va_up_ne _ _ (h.1.ne (by decide) (by decide) (by decide))).trans h.f1, va_up_self _ _ _, (va_up_ne _ _ (h.1.ne (by decide) (by decide) (by decide))).trans h.f3⟩
theorem FaAt.up3 {G : GT} {L : List Nat} {f : Nat → va_E} {w : Nat → Nat} {id : Nat} {A : Nat → Nat} {ss : Nat → Nat} {sz : Nat → Nat} {bo : Nat → Nat} {c : Nat} {bo' : Nat → Nat} {f' : Nat → va_E} (h : FaAt G L f w id A ss sz bo c) (e : f' = va_up f (A 3) (aI G 10 bo')) : FaAt G L f' w id A ss sz bo' c := by
  subst e
  exact ⟨h.1, (va_up_ne _ _ (h.1.ne (by decide) (by decide) (by decide))).trans h.f0, (va_up_ne _ _ (h.1.ne (by decide) (by decide) (by decide))).trans h.f1, (va_up_ne _ _ (h.1.ne (by decide) (by decide) (by decide))).trans h.f2, va_up_self _ _ _⟩
theorem FaAt.move {G : GT} {L : List Nat} {f : Nat → va_E} {w : Nat → Nat} {id : Nat} {A : Nat → Nat} {ss : Nat → Nat} {sz : Nat → Nat} {bo : Nat → Nat} {c : Nat} {L' : List Nat} {w' : Nat → Nat} {f' : Nat → va_E} (h : FaAt G L f w id A ss sz bo c) (hL : ∀ q, q ∈ L → q ∈ L') (hw : ∀ q, q ∈ L → w' q = w q) (hf : ∀ q, q ∈ L → w q = id → f' q = f q) : FaAt G L' f' w' id A ss sz bo c := ⟨h.1.move hL hw, (hf _ h.m0 h.o0).trans h.f0, (hf _ h.m1 h.o1).trans h.f1, (hf _ h.m2 h.o2).trans h.f2, (hf _ h.m3 h.o3).trans h.f3⟩
def MoAt (G : GT) (L : List Nat) (f : Nat → va_E) (w : Nat → Nat) (id : Nat) (A : Nat → Nat) (th : Nat) (mc : Nat) (sa : Nat → Nat) (ka : Nat → Nat) (nx : Nat → Nat) (ou : Nat → Nat) (wl : Nat) (wd : Nat → Nat) (ap : Nat → Bool) (fo : Nat) (se : Nat → Nat) (fr : Nat → Option Nat) (by_ : Nat → Nat) (is : Nat → Bool) (tr : Nat) (my : Nat → Nat) (ss : Nat → Nat) (tf : Nat → Option Nat) (tb : Nat → Nat) : Prop := Own L w id A 15 ∧ f (A 0) = .inr (4, [.int (nI th), .int (nI mc), .ref (A 1), .ref (A 2), .ref (A 3), .ref (A 4), .int (nI wl), .ref (A 5), .ref (A 6), .int (nI fo), .ref (A 7), .ref (A 8), .ref (A 9), .ref (A 10), .int (nI tr), .ref (A 11), .ref (A 12), .ref (A 13), .ref (A 14)]) ∧ f (A 1) = aI G 12 sa ∧ f (A 2) = aI G 12 ka ∧ f (A 3) = aI G 1920 nx ∧ f (A 4) = aI G 1920 ou ∧ f (A 5) = aI G 4200 wd ∧ f (A 6) = aB G 1600 ap ∧ f (A 7) = aI G 4096 se ∧ f (A 8) = aO G 4096 fr ∧ f (A 9) = aI G 4096 by_ ∧ f (A 10) = aB G 4096 is ∧ f (A 11) = aI G 301 my ∧ f (A 12) = aI G 3612 ss ∧ f (A 13) = aO G 301 tf ∧ f (A 14) = aI G 301 tb
theorem MoAt.m0 {G : GT} {L : List Nat} {f : Nat → va_E} {w : Nat → Nat} {id : Nat} {A : Nat → Nat} {th : Nat} {mc : Nat} {sa : Nat → Nat} {ka : Nat → Nat} {nx : Nat → Nat} {ou : Nat → Nat} {wl : Nat} {wd : Nat → Nat} {ap : Nat → Bool} {fo : Nat} {se : Nat → Nat} {fr : Nat → Option Nat} {by_ : Nat → Nat} {is : Nat → Bool} {tr : Nat} {my : Nat → Nat} {ss : Nat → Nat} {tf : Nat → Option Nat} {tb : Nat → Nat} (h : MoAt G L f w id A th mc sa ka nx ou wl wd ap fo se fr by_ is tr my ss tf tb) : A 0 ∈ L := h.1.mem (by decide)
theorem MoAt.o0 {G : GT} {L : List Nat} {f : Nat → va_E} {w : Nat → Nat} {id : Nat} {A : Nat → Nat} {th : Nat} {mc : Nat} {sa : Nat → Nat} {ka : Nat → Nat} {nx : Nat → Nat} {ou : Nat → Nat} {wl : Nat} {wd : Nat → Nat} {ap : Nat → Bool} {fo : Nat} {se : Nat → Nat} {fr : Nat → Option Nat} {by_ : Nat → Nat} {is : Nat → Bool} {tr : Nat} {my : Nat → Nat} {ss : Nat → Nat} {tf : Nat → Option Nat} {tb : Nat → Nat} (h : MoAt G L f w id A th mc sa ka nx ou wl wd ap fo se fr by_ is tr my ss tf tb) : w (A 0) = id := h.1.own (by decide)
theorem MoAt.f0 {G : GT} {L : List Nat} {f : Nat → va_E} {w : Nat → Nat} {id : Nat} {A : Nat → Nat} {th : Nat} {mc : Nat} {sa : Nat → Nat} {ka : Nat → Nat} {nx : Nat → Nat} {ou : Nat → Nat} {wl : Nat} {wd : Nat → Nat} {ap : Nat → Bool} {fo : Nat} {se : Nat → Nat} {fr : Nat → Option Nat} {by_ : Nat → Nat} {is : Nat → Bool} {tr : Nat} {my : Nat → Nat} {ss : Nat → Nat} {tf : Nat → Option Nat} {tb : Nat → Nat} (h : MoAt G L f w id A th mc sa ka nx ou wl wd ap fo se fr by_ is tr my ss tf tb) : f (A 0) = .inr (4, [.int (nI th), .int (nI mc), .ref (A 1), .ref (A 2), .ref (A 3), .ref (A 4), .int (nI wl), .ref (A 5), .ref (A 6), .int (nI fo), .ref (A 7), .ref (A 8), .ref (A 9), .ref (A 10), .int (nI tr), .ref (A 11), .ref (A 12), .ref (A 13), .ref (A 14)]) := h.2.1
theorem MoAt.m1 {G : GT} {L : List Nat} {f : Nat → va_E} {w : Nat → Nat} {id : Nat} {A : Nat → Nat} {th : Nat} {mc : Nat} {sa : Nat → Nat} {ka : Nat → Nat} {nx : Nat → Nat} {ou : Nat → Nat} {wl : Nat} {wd : Nat → Nat} {ap : Nat → Bool} {fo : Nat} {se : Nat → Nat} {fr : Nat → Option Nat} {by_ : Nat → Nat} {is : Nat → Bool} {tr : Nat} {my : Nat → Nat} {ss : Nat → Nat} {tf : Nat → Option Nat} {tb : Nat → Nat} (h : MoAt G L f w id A th mc sa ka nx ou wl wd ap fo se fr by_ is tr my ss tf tb) : A 1 ∈ L := h.1.mem (by decide)
theorem MoAt.o1 {G : GT} {L : List Nat} {f : Nat → va_E} {w : Nat → Nat} {id : Nat} {A : Nat → Nat} {th : Nat} {mc : Nat} {sa : Nat → Nat} {ka : Nat → Nat} {nx : Nat → Nat} {ou : Nat → Nat} {wl : Nat} {wd : Nat → Nat} {ap : Nat → Bool} {fo : Nat} {se : Nat → Nat} {fr : Nat → Option Nat} {by_ : Nat → Nat} {is : Nat → Bool} {tr : Nat} {my : Nat → Nat} {ss : Nat → Nat} {tf : Nat → Option Nat} {tb : Nat → Nat} (h : MoAt G L f w id A th mc sa ka nx ou wl wd ap fo se fr by_ is tr my ss tf tb) : w (A 1) = id := h.1.own (by decide)
theorem MoAt.f1 {G : GT} {L : List Nat} {f : Nat → va_E} {w : Nat → Nat} {id : Nat} {A : Nat → Nat} {th : Nat} {mc : Nat} {sa : Nat → Nat} {ka : Nat → Nat} {nx : Nat → Nat} {ou : Nat → Nat} {wl : Nat} {wd : Nat → Nat} {ap : Nat → Bool} {fo : Nat} {se : Nat → Nat} {fr : Nat → Option Nat} {by_ : Nat → Nat} {is : Nat → Bool} {tr : Nat} {my : Nat → Nat} {ss : Nat → Nat} {tf : Nat → Option Nat} {tb : Nat → Nat} (h : MoAt G L f w id A th mc sa ka nx ou wl wd ap fo se fr by_ is tr my ss tf tb) : f (A 1) = aI G 12 sa := h.2.2.1
theorem MoAt.m2 {G : GT} {L : List Nat} {f : Nat → va_E} {w : Nat → Nat} {id : Nat} {A : Nat → Nat} {th : Nat} {mc : Nat} {sa : Nat → Nat} {ka : Nat → Nat} {nx : Nat → Nat} {ou : Nat → Nat} {wl : Nat} {wd : Nat → Nat} {ap : Nat → Bool} {fo : Nat} {se : Nat → Nat} {fr : Nat → Option Nat} {by_ : Nat → Nat} {is : Nat → Bool} {tr : Nat} {my : Nat → Nat} {ss : Nat → Nat} {tf : Nat → Option Nat} {tb : Nat → Nat} (h : MoAt G L f w id A th mc sa ka nx ou wl wd ap fo se fr by_ is tr my ss tf tb) : A 2 ∈ L := h.1.mem (by decide)
theorem MoAt.o2 {G : GT} {L : List Nat} {f : Nat → va_E} {w : Nat → Nat} {id : Nat} {A : Nat → Nat} {th : Nat} {mc : Nat} {sa : Nat → Nat} {ka : Nat → Nat} {nx : Nat → Nat} {ou : Nat → Nat} {wl : Nat} {wd : Nat → Nat} {ap : Nat → Bool} {fo : Nat} {se : Nat → Nat} {fr : Nat → Option Nat} {by_ : Nat → Nat} {is : Nat → Bool} {tr : Nat} {my : Nat → Nat} {ss : Nat → Nat} {tf : Nat → Option Nat} {tb : Nat → Nat} (h : MoAt G L f w id A th mc sa ka nx ou wl wd ap fo se fr by_ is tr my ss tf tb) : w (A 2) = id := h.1.own (by decide)
theorem MoAt.f2 {G : GT} {L : List Nat} {f : Nat → va_E} {w : Nat → Nat} {id : Nat} {A : Nat → Nat} {th : Nat} {mc : Nat} {sa : Nat → Nat} {ka : Nat → Nat} {nx : Nat → Nat} {ou : Nat → Nat} {wl : Nat} {wd : Nat → Nat} {ap : Nat → Bool} {fo : Nat} {se : Nat → Nat} {fr : Nat → Option Nat} {by_ : Nat → Nat} {is : Nat → Bool} {tr : Nat} {my : Nat → Nat} {ss : Nat → Nat} {tf : Nat → Option Nat} {tb : Nat → Nat} (h : MoAt G L f w id A th mc sa ka nx ou wl wd ap fo se fr by_ is tr my ss tf tb) : f (A 2) = aI G 12 ka := h.2.2.2.1
theorem MoAt.m3 {G : GT} {L : List Nat} {f : Nat → va_E} {w : Nat → Nat} {id : Nat} {A : Nat → Nat} {th : Nat} {mc : Nat} {sa : Nat → Nat} {ka : Nat → Nat} {nx : Nat → Nat} {ou : Nat → Nat} {wl : Nat} {wd : Nat → Nat} {ap : Nat → Bool} {fo : Nat} {se : Nat → Nat} {fr : Nat → Option Nat} {by_ : Nat → Nat} {is : Nat → Bool} {tr : Nat} {my : Nat → Nat} {ss : Nat → Nat} {tf : Nat → Option Nat} {tb : Nat → Nat} (h : MoAt G L f w id A th mc sa ka nx ou wl wd ap fo se fr by_ is tr my ss tf tb) : A 3 ∈ L := h.1.mem (by decide)
theorem MoAt.o3 {G : GT} {L : List Nat} {f : Nat → va_E} {w : Nat → Nat} {id : Nat} {A : Nat → Nat} {th : Nat} {mc : Nat} {sa : Nat → Nat} {ka : Nat → Nat} {nx : Nat → Nat} {ou : Nat → Nat} {wl : Nat} {wd : Nat → Nat} {ap : Nat → Bool} {fo : Nat} {se : Nat → Nat} {fr : Nat → Option Nat} {by_ : Nat → Nat} {is : Nat → Bool} {tr : Nat} {my : Nat → Nat} {ss : Nat → Nat} {tf : Nat → Option Nat} {tb : Nat → Nat} (h : MoAt G L f w id A th mc sa ka nx ou wl wd ap fo se fr by_ is tr my ss tf tb) : w (A 3) = id := h.1.own (by decide)
theorem MoAt.f3 {G : GT} {L : List Nat} {f : Nat → va_E} {w : Nat → Nat} {id : Nat} {A : Nat → Nat} {th : Nat} {mc : Nat} {sa : Nat → Nat} {ka : Nat → Nat} {nx : Nat → Nat} {ou : Nat → Nat} {wl : Nat} {wd : Nat → Nat} {ap : Nat → Bool} {fo : Nat} {se : Nat → Nat} {fr : Nat → Option Nat} {by_ : Nat → Nat} {is : Nat → Bool} {tr : Nat} {my : Nat → Nat} {ss : Nat → Nat} {tf : Nat → Option Nat} {tb : Nat → Nat} (h : MoAt G L f w id A th mc sa ka nx ou wl wd ap fo se fr by_ is tr my ss tf tb) : f (A 3) = aI G 1920 nx := h.2.2.2.2.1
theorem MoAt.m4 {G : GT} {L : List Nat} {f : Nat → va_E} {w : Nat → Nat} {id : Nat} {A : Nat → Nat} {th : Nat} {mc : Nat} {sa : Nat → Nat} {ka : Nat → Nat} {nx : Nat → Nat} {ou : Nat → Nat} {wl : Nat} {wd : Nat → Nat} {ap : Nat → Bool} {fo : Nat} {se : Nat → Nat} {fr : Nat → Option Nat} {by_ : Nat → Nat} {is : Nat → Bool} {tr : Nat} {my : Nat → Nat} {ss : Nat → Nat} {tf : Nat → Option Nat} {tb : Nat → Nat} (h : MoAt G L f w id A th mc sa ka nx ou wl wd ap fo se fr by_ is tr my ss tf tb) : A 4 ∈ L := h.1.mem (by decide)
theorem MoAt.o4 {G : GT} {L : List Nat} {f : Nat → va_E} {w : Nat → Nat} {id : Nat} {A : Nat → Nat} {th : Nat} {mc : Nat} {sa : Nat → Nat} {ka : Nat → Nat} {nx : Nat → Nat} {ou : Nat → Nat} {wl : Nat} {wd : Nat → Nat} {ap : Nat → Bool} {fo : Nat} {se : Nat → Nat} {fr : Nat → Option Nat} {by_ : Nat → Nat} {is : Nat → Bool} {tr : Nat} {my : Nat → Nat} {ss : Nat → Nat} {tf : Nat → Option Nat} {tb : Nat → Nat} (h : MoAt G L f w id A th mc sa ka nx ou wl wd ap fo se fr by_ is tr my ss tf tb) : w (A 4) = id := h.1.own (by decide)
theorem MoAt.f4 {G : GT} {L : List Nat} {f : Nat → va_E} {w : Nat → Nat} {id : Nat} {A : Nat → Nat} {th : Nat} {mc : Nat} {sa : Nat → Nat} {ka : Nat → Nat} {nx : Nat → Nat} {ou : Nat → Nat} {wl : Nat} {wd : Nat → Nat} {ap : Nat → Bool} {fo : Nat} {se : Nat → Nat} {fr : Nat → Option Nat} {by_ : Nat → Nat} {is : Nat → Bool} {tr : Nat} {my : Nat → Nat} {ss : Nat → Nat} {tf : Nat → Option Nat} {tb : Nat → Nat} (h : MoAt G L f w id A th mc sa ka nx ou wl wd ap fo se fr by_ is tr my ss tf tb) : f (A 4) = aI G 1920 ou := h.2.2.2.2.2.1
theorem MoAt.m5 {G : GT} {L : List Nat} {f : Nat → va_E} {w : Nat → Nat} {id : Nat} {A : Nat → Nat} {th : Nat} {mc : Nat} {sa : Nat → Nat} {ka : Nat → Nat} {nx : Nat → Nat} {ou : Nat → Nat} {wl : Nat} {wd : Nat → Nat} {ap : Nat → Bool} {fo : Nat} {se : Nat → Nat} {fr : Nat → Option Nat} {by_ : Nat → Nat} {is : Nat → Bool} {tr : Nat} {my : Nat → Nat} {ss : Nat → Nat} {tf : Nat → Option Nat} {tb : Nat → Nat} (h : MoAt G L f w id A th mc sa ka nx ou wl wd ap fo se fr by_ is tr my ss tf tb) : A 5 ∈ L := h.1.mem (by decide)
theorem MoAt.o5 {G : GT} {L : List Nat} {f : Nat → va_E} {w : Nat → Nat} {id : Nat} {A : Nat → Nat} {th : Nat} {mc : Nat} {sa : Nat → Nat} {ka : Nat → Nat} {nx : Nat → Nat} {ou : Nat → Nat} {wl : Nat} {wd : Nat → Nat} {ap : Nat → Bool} {fo : Nat} {se : Nat → Nat} {fr : Nat → Option Nat} {by_ : Nat → Nat} {is : Nat → Bool} {tr : Nat} {my : Nat → Nat} {ss : Nat → Nat} {tf : Nat → Option Nat} {tb : Nat → Nat} (h : MoAt G L f w id A th mc sa ka nx ou wl wd ap fo se fr by_ is tr my ss tf tb) : w (A 5) = id := h.1.own (by decide)
theorem MoAt.f5 {G : GT} {L : List Nat} {f : Nat → va_E} {w : Nat → Nat} {id : Nat} {A : Nat → Nat} {th : Nat} {mc : Nat} {sa : Nat → Nat} {ka : Nat → Nat} {nx : Nat → Nat} {ou : Nat → Nat} {wl : Nat} {wd : Nat → Nat} {ap : Nat → Bool} {fo : Nat} {se : Nat → Nat} {fr : Nat → Option Nat} {by_ : Nat → Nat} {is : Nat → Bool} {tr : Nat} {my : Nat → Nat} {ss : Nat → Nat} {tf : Nat → Option Nat} {tb : Nat → Nat} (h : MoAt G L f w id A th mc sa ka nx ou wl wd ap fo se fr by_ is tr my ss tf tb) : f (A 5) = aI G 4200 wd := h.2.2.2.2.2.2.1
theorem MoAt.m6 {G : GT} {L : List Nat} {f : Nat → va_E} {w : Nat → Nat} {id : Nat} {A : Nat → Nat} {th : Nat} {mc : Nat} {sa : Nat → Nat} {ka : Nat → Nat} {nx : Nat → Nat} {ou : Nat → Nat} {wl : Nat} {wd : Nat → Nat} {ap : Nat → Bool} {fo : Nat} {se : Nat → Nat} {fr : Nat → Option Nat} {by_ : Nat → Nat} {is : Nat → Bool} {tr : Nat} {my : Nat → Nat} {ss : Nat → Nat} {tf : Nat → Option Nat} {tb : Nat → Nat} (h : MoAt G L f w id A th mc sa ka nx ou wl wd ap fo se fr by_ is tr my ss tf tb) : A 6 ∈ L := h.1.mem (by decide)
theorem MoAt.o6 {G : GT} {L : List Nat} {f : Nat → va_E} {w : Nat → Nat} {id : Nat} {A : Nat → Nat} {th : Nat} {mc : Nat} {sa : Nat → Nat} {ka : Nat → Nat} {nx : Nat → Nat} {ou : Nat → Nat} {wl : Nat} {wd : Nat → Nat} {ap : Nat → Bool} {fo : Nat} {se : Nat → Nat} {fr : Nat → Option Nat} {by_ : Nat → Nat} {is : Nat → Bool} {tr : Nat} {my : Nat → Nat} {ss : Nat → Nat} {tf : Nat → Option Nat} {tb : Nat → Nat} (h : MoAt G L f w id A th mc sa ka nx ou wl wd ap fo se fr by_ is tr my ss tf tb) : w (A 6) = id := h.1.own (by decide)
theorem MoAt.f6 {G : GT} {L : List Nat} {f : Nat → va_E} {w : Nat → Nat} {id : Nat} {A : Nat → Nat} {th : Nat} {mc : Nat} {sa : Nat → Nat} {ka : Nat → Nat} {nx : Nat → Nat} {ou : Nat → Nat} {wl : Nat} {wd : Nat → Nat} {ap : Nat → Bool} {fo : Nat} {se : Nat → Nat} {fr : Nat → Option Nat} {by_ : Nat → Nat} {is : Nat → Bool} {tr : Nat} {my : Nat → Nat} {ss : Nat → Nat} {tf : Nat → Option Nat} {tb : Nat → Nat} (h : MoAt G L f w id A th mc sa ka nx ou wl wd ap fo se fr by_ is tr my ss tf tb) : f (A 6) = aB G 1600 ap := h.2.2.2.2.2.2.2.1
theorem MoAt.m7 {G : GT} {L : List Nat} {f : Nat → va_E} {w : Nat → Nat} {id : Nat} {A : Nat → Nat} {th : Nat} {mc : Nat} {sa : Nat → Nat} {ka : Nat → Nat} {nx : Nat → Nat} {ou : Nat → Nat} {wl : Nat} {wd : Nat → Nat} {ap : Nat → Bool} {fo : Nat} {se : Nat → Nat} {fr : Nat → Option Nat} {by_ : Nat → Nat} {is : Nat → Bool} {tr : Nat} {my : Nat → Nat} {ss : Nat → Nat} {tf : Nat → Option Nat} {tb : Nat → Nat} (h : MoAt G L f w id A th mc sa ka nx ou wl wd ap fo se fr by_ is tr my ss tf tb) : A 7 ∈ L := h.1.mem (by decide)
theorem MoAt.o7 {G : GT} {L : List Nat} {f : Nat → va_E} {w : Nat → Nat} {id : Nat} {A : Nat → Nat} {th : Nat} {mc : Nat} {sa : Nat → Nat} {ka : Nat → Nat} {nx : Nat → Nat} {ou : Nat → Nat} {wl : Nat} {wd : Nat → Nat} {ap : Nat → Bool} {fo : Nat} {se : Nat → Nat} {fr : Nat → Option Nat} {by_ : Nat → Nat} {is : Nat → Bool} {tr : Nat} {my : Nat → Nat} {ss : Nat → Nat} {tf : Nat → Option Nat} {tb : Nat → Nat} (h : MoAt G L f w id A th mc sa ka nx ou wl wd ap fo se fr by_ is tr my ss tf tb) : w (A 7) = id := h.1.own (by decide)
theorem MoAt.f7 {G : GT} {L : List Nat} {f : Nat → va_E} {w : Nat → Nat} {id : Nat} {A : Nat → Nat} {th : Nat} {mc : Nat} {sa : Nat → Nat} {ka : Nat → Nat} {nx : Nat → Nat} {ou : Nat → Nat} {wl : Nat} {wd : Nat → Nat} {ap : Nat → Bool} {fo : Nat} {se : Nat → Nat} {fr : Nat → Option Nat} {by_ : Nat → Nat} {is : Nat → Bool} {tr : Nat} {my : Nat → Nat} {ss : Nat → Nat} {tf : Nat → Option Nat} {tb : Nat → Nat} (h : MoAt G L f w id A th mc sa ka nx ou wl wd ap fo se fr by_ is tr my ss tf tb) : f (A 7) = aI G 4096 se := h.2.2.2.2.2.2.2.2.1
theorem MoAt.m8 {G : GT} {L : List Nat} {f : Nat → va_E} {w : Nat → Nat} {id : Nat} {A : Nat → Nat} {th : Nat} {mc : Nat} {sa : Nat → Nat} {ka : Nat → Nat} {nx : Nat → Nat} {ou : Nat → Nat} {wl : Nat} {wd : Nat → Nat} {ap : Nat → Bool} {fo : Nat} {se : Nat → Nat} {fr : Nat → Option Nat} {by_ : Nat → Nat} {is : Nat → Bool} {tr : Nat} {my : Nat → Nat} {ss : Nat → Nat} {tf : Nat → Option Nat} {tb : Nat → Nat} (h : MoAt G L f w id A th mc sa ka nx ou wl wd ap fo se fr by_ is tr my ss tf tb) : A 8 ∈ L := h.1.mem (by decide)
theorem MoAt.o8 {G : GT} {L : List Nat} {f : Nat → va_E} {w : Nat → Nat} {id : Nat} {A : Nat → Nat} {th : Nat} {mc : Nat} {sa : Nat → Nat} {ka : Nat → Nat} {nx : Nat → Nat} {ou : Nat → Nat} {wl : Nat} {wd : Nat → Nat} {ap : Nat → Bool} {fo : Nat} {se : Nat → Nat} {fr : Nat → Option Nat} {by_ : Nat → Nat} {is : Nat → Bool} {tr : Nat} {my : Nat → Nat} {ss : Nat → Nat} {tf : Nat → Option Nat} {tb : Nat → Nat} (h : MoAt G L f w id A th mc sa ka nx ou wl wd ap fo se fr by_ is tr my ss tf tb) : w (A 8) = id := h.1.own (by decide)
theorem MoAt.f8 {G : GT} {L : List Nat} {f : Nat → va_E} {w : Nat → Nat} {id : Nat} {A : Nat → Nat} {th : Nat} {mc : Nat} {sa : Nat → Nat} {ka : Nat → Nat} {nx : Nat → Nat} {ou : Nat → Nat} {wl : Nat} {wd : Nat → Nat} {ap : Nat → Bool} {fo : Nat} {se : Nat → Nat} {fr : Nat → Option Nat} {by_ : Nat → Nat} {is : Nat → Bool} {tr : Nat} {my : Nat → Nat} {ss : Nat → Nat} {tf : Nat → Option Nat} {tb : Nat → Nat} (h : MoAt G L f w id A th mc sa ka nx ou wl wd ap fo se fr by_ is tr my ss tf tb) : f (A 8) = aO G 4096 fr := h.2.2.2.2.2.2.2.2.2.1
theorem MoAt.m9 {G : GT} {L : List Nat} {f : Nat → va_E} {w : Nat → Nat} {id : Nat} {A : Nat → Nat} {th : Nat} {mc : Nat} {sa : Nat → Nat} {ka : Nat → Nat} {nx : Nat → Nat} {ou : Nat → Nat} {wl : Nat} {wd : Nat → Nat} {ap : Nat → Bool} {fo : Nat} {se : Nat → Nat} {fr : Nat → Option Nat} {by_ : Nat → Nat} {is : Nat → Bool} {tr : Nat} {my : Nat → Nat} {ss : Nat → Nat} {tf : Nat → Option Nat} {tb : Nat → Nat} (h : MoAt G L f w id A th mc sa ka nx ou wl wd ap fo se fr by_ is tr my ss tf tb) : A 9 ∈ L := h.1.mem (by decide)
theorem MoAt.o9 {G : GT} {L : List Nat} {f : Nat → va_E} {w : Nat → Nat} {id : Nat} {A : Nat → Nat} {th : Nat} {mc : Nat} {sa : Nat → Nat} {ka : Nat → Nat} {nx : Nat → Nat} {ou : Nat → Nat} {wl : Nat} {wd : Nat → Nat} {ap : Nat → Bool} {fo : Nat} {se : Nat → Nat} {fr : Nat → Option Nat} {by_ : Nat → Nat} {is : Nat → Bool} {tr : Nat} {my : Nat → Nat} {ss : Nat → Nat} {tf : Nat → Option Nat} {tb : Nat → Nat} (h : MoAt G L f w id A th mc sa ka nx ou wl wd ap fo se fr by_ is tr my ss tf tb) : w (A 9) = id := h.1.own (by decide)
theorem MoAt.f9 {G : GT} {L : List Nat} {f : Nat → va_E} {w : Nat → Nat} {id : Nat} {A : Nat → Nat} {th : Nat} {mc : Nat} {sa : Nat → Nat} {ka : Nat → Nat} {nx : Nat → Nat} {ou : Nat → Nat} {wl : Nat} {wd : Nat → Nat} {ap : Nat → Bool} {fo : Nat} {se : Nat → Nat} {fr : Nat → Option Nat} {by_ : Nat → Nat} {is : Nat → Bool} {tr : Nat} {my : Nat → Nat} {ss : Nat → Nat} {tf : Nat → Option Nat} {tb : Nat → Nat} (h : MoAt G L f w id A th mc sa ka nx ou wl wd ap fo se fr by_ is tr my ss tf tb) : f (A 9) = aI G 4096 by_ := h.2.2.2.2.2.2.2.2.2.2.1
theorem MoAt.m10 {G : GT} {L : List Nat} {f : Nat → va_E} {w : Nat → Nat} {id : Nat} {A : Nat → Nat} {th : Nat} {mc : Nat} {sa : Nat → Nat} {ka : Nat → Nat} {nx : Nat → Nat} {ou : Nat → Nat} {wl : Nat} {wd : Nat → Nat} {ap : Nat → Bool} {fo : Nat} {se : Nat → Nat} {fr : Nat → Option Nat} {by_ : Nat → Nat} {is : Nat → Bool} {tr : Nat} {my : Nat → Nat} {ss : Nat → Nat} {tf : Nat → Option Nat} {tb : Nat → Nat} (h : MoAt G L f w id A th mc sa ka nx ou wl wd ap fo se fr by_ is tr my ss tf tb) : A 10 ∈ L := h.1.mem (by decide)
theorem MoAt.o10 {G : GT} {L : List Nat} {f : Nat → va_E} {w : Nat → Nat} {id : Nat} {A : Nat → Nat} {th : Nat} {mc : Nat} {sa : Nat → Nat} {ka : Nat → Nat} {nx : Nat → Nat} {ou : Nat → Nat} {wl : Nat} {wd : Nat → Nat} {ap : Nat → Bool} {fo : Nat} {se : Nat → Nat} {fr : Nat → Option Nat} {by_ : Nat → Nat} {is : Nat → Bool} {tr : Nat} {my : Nat → Nat} {ss : Nat → Nat} {tf : Nat → Option Nat} {tb : Nat → Nat} (h : MoAt G L f w id A th mc sa ka nx ou wl wd ap fo se fr by_ is tr my ss tf tb) : w (A 10) = id := h.1.own (by decide)
theorem MoAt.f10 {G : GT} {L : List Nat} {f : Nat → va_E} {w : Nat → Nat} {id : Nat} {A : Nat → Nat} {th : Nat} {mc : Nat} {sa : Nat → Nat} {ka : Nat → Nat} {nx : Nat → Nat} {ou : Nat → Nat} {wl : Nat} {wd : Nat → Nat} {ap : Nat → Bool} {fo : Nat} {se : Nat → Nat} {fr : Nat → Option Nat} {by_ : Nat → Nat} {is : Nat → Bool} {tr : Nat} {my : Nat → Nat} {ss : Nat → Nat} {tf : Nat → Option Nat} {tb : Nat → Nat} (h : MoAt G L f w id A th mc sa ka nx ou wl wd ap fo se fr by_ is tr my ss tf tb) : f (A 10) = aB G 4096 is := h.2.2.2.2.2.2.2.2.2.2.2.1
theorem MoAt.m11 {G : GT} {L : List Nat} {f : Nat → va_E} {w : Nat → Nat} {id : Nat} {A : Nat → Nat} {th : Nat} {mc : Nat} {sa : Nat → Nat} {ka : Nat → Nat} {nx : Nat → Nat} {ou : Nat → Nat} {wl : Nat} {wd : Nat → Nat} {ap : Nat → Bool} {fo : Nat} {se : Nat → Nat} {fr : Nat → Option Nat} {by_ : Nat → Nat} {is : Nat → Bool} {tr : Nat} {my : Nat → Nat} {ss : Nat → Nat} {tf : Nat → Option Nat} {tb : Nat → Nat} (h : MoAt G L f w id A th mc sa ka nx ou wl wd ap fo se fr by_ is tr my ss tf tb) : A 11 ∈ L := h.1.mem (by decide)
theorem MoAt.o11 {G : GT} {L : List Nat} {f : Nat → va_E} {w : Nat → Nat} {id : Nat} {A : Nat → Nat} {th : Nat} {mc : Nat} {sa : Nat → Nat} {ka : Nat → Nat} {nx : Nat → Nat} {ou : Nat → Nat} {wl : Nat} {wd : Nat → Nat} {ap : Nat → Bool} {fo : Nat} {se : Nat → Nat} {fr : Nat → Option Nat} {by_ : Nat → Nat} {is : Nat → Bool} {tr : Nat} {my : Nat → Nat} {ss : Nat → Nat} {tf : Nat → Option Nat} {tb : Nat → Nat} (h : MoAt G L f w id A th mc sa ka nx ou wl wd ap fo se fr by_ is tr my ss tf tb) : w (A 11) = id := h.1.own (by decide)
theorem MoAt.f11 {G : GT} {L : List Nat} {f : Nat → va_E} {w : Nat → Nat} {id : Nat} {A : Nat → Nat} {th : Nat} {mc : Nat} {sa : Nat → Nat} {ka : Nat → Nat} {nx : Nat → Nat} {ou : Nat → Nat} {wl : Nat} {wd : Nat → Nat} {ap : Nat → Bool} {fo : Nat} {se : Nat → Nat} {fr : Nat → Option Nat} {by_ : Nat → Nat} {is : Nat → Bool} {tr : Nat} {my : Nat → Nat} {ss : Nat → Nat} {tf : Nat → Option Nat} {tb : Nat → Nat} (h : MoAt G L f w id A th mc sa ka nx ou wl wd ap fo se fr by_ is tr my ss tf tb) : f (A 11) = aI G 301 my := h.2.2.2.2.2.2.2.2.2.2.2.2.1
theorem MoAt.m12 {G : GT} {L : List Nat} {f : Nat → va_E} {w : Nat → Nat} {id : Nat} {A : Nat → Nat} {th : Nat} {mc : Nat} {sa : Nat → Nat} {ka : Nat → Nat} {nx : Nat → Nat} {ou : Nat → Nat} {wl : Nat} {wd : Nat → Nat} {ap : Nat → Bool} {fo : Nat} {se : Nat → Nat} {fr : Nat → Option Nat} {by_ : Nat → Nat} {is : Nat → Bool} {tr : Nat} {my : Nat → Nat} {ss : Nat → Nat} {tf : Nat → Option Nat} {tb : Nat → Nat} (h : MoAt G L f w id A th mc sa ka nx ou wl wd ap fo se fr by_ is tr my ss tf tb) : A 12 ∈ L := h.1.mem (by decide)
theorem MoAt.o12 {G : GT} {L : List Nat} {f : Nat → va_E} {w : Nat → Nat} {id : Nat} {A : Nat → Nat} {th : Nat} {mc : Nat} {sa : Nat → Nat} {ka : Nat → Nat} {nx : Nat → Nat} {ou : Nat → Nat} {wl : Nat} {wd : Nat → Nat} {ap : Nat → Bool} {fo : Nat} {se : Nat → Nat} {fr : Nat → Option Nat} {by_ : Nat → Nat} {is : Nat → Bool} {tr : Nat} {my : Nat → Nat} {ss : Nat → Nat} {tf : Nat → Option Nat} {tb : Nat → Nat} (h : MoAt G L f w id A th mc sa ka nx ou wl wd ap fo se fr by_ is tr my ss tf tb) : w (A 12) = id := h.1.own (by decide)
theorem MoAt.f12 {G : GT} {L : List Nat} {f : Nat → va_E} {w : Nat → Nat} {id : Nat} {A : Nat → Nat} {th : Nat} {mc : Nat} {sa : Nat → Nat} {ka : Nat → Nat} {nx : Nat → Nat} {ou : Nat → Nat} {wl : Nat} {wd : Nat → Nat} {ap : Nat → Bool} {fo : Nat} {se : Nat → Nat} {fr : Nat → Option Nat} {by_ : Nat → Nat} {is : Nat → Bool} {tr : Nat} {my : Nat → Nat} {ss : Nat → Nat} {tf : Nat → Option Nat} {tb : Nat → Nat} (h : MoAt G L f w id A th mc sa ka nx ou wl wd ap fo se fr by_ is tr my ss tf tb) : f (A 12) = aI G 3612 ss := h.2.2.2.2.2.2.2.2.2.2.2.2.2.1
theorem MoAt.m13 {G : GT} {L : List Nat} {f : Nat → va_E} {w : Nat → Nat} {id : Nat} {A : Nat → Nat} {th : Nat} {mc : Nat} {sa : Nat → Nat} {ka : Nat → Nat} {nx : Nat → Nat} {ou : Nat → Nat} {wl : Nat} {wd : Nat → Nat} {ap : Nat → Bool} {fo : Nat} {se : Nat → Nat} {fr : Nat → Option Nat} {by_ : Nat → Nat} {is : Nat → Bool} {tr : Nat} {my : Nat → Nat} {ss : Nat → Nat} {tf : Nat → Option Nat} {tb : Nat → Nat} (h : MoAt G L f w id A th mc sa ka nx ou wl wd ap fo se fr by_ is tr my ss tf tb) : A 13 ∈ L := h.1.mem (by decide)
theorem MoAt.o13 {G : GT} {L : List Nat} {f : Nat → va_E} {w : Nat → Nat} {id : Nat} {A : Nat → Nat} {th : Nat} {mc : Nat} {sa : Nat → Nat} {ka : Nat → Nat} {nx : Nat → Nat} {ou : Nat → Nat} {wl : Nat} {wd : Nat → Nat} {ap : Nat → Bool} {fo : Nat} {se : Nat → Nat} {fr : Nat → Option Nat} {by_ : Nat → Nat} {is : Nat → Bool} {tr : Nat} {my : Nat → Nat} {ss : Nat → Nat} {tf : Nat → Option Nat} {tb : Nat → Nat} (h : MoAt G L f w id A th mc sa ka nx ou wl wd ap fo se fr by_ is tr my ss tf tb) : w (A 13) = id := h.1.own (by decide)
theorem MoAt.f13 {G : GT} {L : List Nat} {f : Nat → va_E} {w : Nat → Nat} {id : Nat} {A : Nat → Nat} {th : Nat} {mc : Nat} {sa : Nat → Nat} {ka : Nat → Nat} {nx : Nat → Nat} {ou : Nat → Nat} {wl : Nat} {wd : Nat → Nat} {ap : Nat → Bool} {fo : Nat} {se : Nat → Nat} {fr : Nat → Option Nat} {by_ : Nat → Nat} {is : Nat → Bool} {tr : Nat} {my : Nat → Nat} {ss : Nat → Nat} {tf : Nat → Option Nat} {tb : Nat → Nat} (h : MoAt G L f w id A th mc sa ka nx ou wl wd ap fo se fr by_ is tr my ss tf tb) : f (A 13) = aO G 301 tf := h.2.2.2.2.2.2.2.2.2.2.2.2.2.2.1
theorem MoAt.m14 {G : GT} {L : List Nat} {f : Nat → va_E} {w : Nat → Nat} {id : Nat} {A : Nat → Nat} {th : Nat} {mc : Nat} {sa : Nat → Nat} {ka : Nat → Nat} {nx : Nat → Nat} {ou : Nat → Nat} {wl : Nat} {wd : Nat → Nat} {ap : Nat → Bool} {fo : Nat} {se : Nat → Nat} {fr : Nat → Option Nat} {by_ : Nat → Nat} {is : Nat → Bool} {tr : Nat} {my : Nat → Nat} {ss : Nat → Nat} {tf : Nat → Option Nat} {tb : Nat → Nat} (h : MoAt G L f w id A th mc sa ka nx ou wl wd ap fo se fr by_ is tr my ss tf tb) : A 14 ∈ L := h.1.mem (by decide)
theorem MoAt.o14 {G : GT} {L : List Nat} {f : Nat → va_E} {w : Nat → Nat} {id : Nat} {A : Nat → Nat} {th : Nat} {mc : Nat} {sa : Nat → Nat} {ka : Nat → Nat} {nx : Nat → Nat} {ou : Nat → Nat} {wl : Nat} {wd : Nat → Nat} {ap : Nat → Bool} {fo : Nat} {se : Nat → Nat} {fr : Nat → Option Nat} {by_ : Nat → Nat} {is : Nat → Bool} {tr : Nat} {my : Nat → Nat} {ss : Nat → Nat} {tf : Nat → Option Nat} {tb : Nat → Nat} (h : MoAt G L f w id A th mc sa ka nx ou wl wd ap fo se fr by_ is tr my ss tf tb) : w (A 14) = id := h.1.own (by decide)
theorem MoAt.f14 {G : GT} {L : List Nat} {f : Nat → va_E} {w : Nat → Nat} {id : Nat} {A : Nat → Nat} {th : Nat} {mc : Nat} {sa : Nat → Nat} {ka : Nat → Nat} {nx : Nat → Nat} {ou : Nat → Nat} {wl : Nat} {wd : Nat → Nat} {ap : Nat → Bool} {fo : Nat} {se : Nat → Nat} {fr : Nat → Option Nat} {by_ : Nat → Nat} {is : Nat → Bool} {tr : Nat} {my : Nat → Nat} {ss : Nat → Nat} {tf : Nat → Option Nat} {tb : Nat → Nat} (h : MoAt G L f w id A th mc sa ka nx ou wl wd ap fo se fr by_ is tr my ss tf tb) : f (A 14) = aI G 301 tb := h.2.2.2.2.2.2.2.2.2.2.2.2.2.2.2
theorem MoAt.up0 {G : GT} {L : List Nat} {f : Nat → va_E} {w : Nat → Nat} {id : Nat} {A : Nat → Nat} {th : Nat} {mc : Nat} {sa : Nat → Nat} {ka : Nat → Nat} {nx : Nat → Nat} {ou : Nat → Nat} {wl : Nat} {wd : Nat → Nat} {ap : Nat → Bool} {fo : Nat} {se : Nat → Nat} {fr : Nat → Option Nat} {by_ : Nat → Nat} {is : Nat → Bool} {tr : Nat} {my : Nat → Nat} {ss : Nat → Nat} {tf : Nat → Option Nat} {tb : Nat → Nat} {th' : Nat} {mc' : Nat} {wl' : Nat} {fo' : Nat} {tr' : Nat} {f' : Nat → va_E} (h : MoAt G L f w id A th mc sa ka nx ou wl wd ap fo se fr by_ is tr my ss tf tb) (e : f' = va_up f (A 0) (.inr (4, [.int (nI th'), .int (nI mc'), .ref (A 1), .ref (A 2), .ref (A 3), .ref (A 4), .int (nI wl'), .ref (A 5), .ref (A 6), .int (nI fo'), .ref (A 7), .ref (A 8), .ref (A 9), .ref (A 10), .int (nI tr'), .ref (A 11), .ref (A 12), .ref (A 13), .ref (A 14)]))) : MoAt G L f' w id A th' mc' sa ka nx ou wl' wd ap fo' se fr by_ is tr' my ss tf tb := by
  subst e
  exact ⟨h.1, va_up_self _ _ _, (va_up_ne _ _ (h.1.ne (by decide) (by decide) (by decide))).trans h.f1, (va_up_ne _ _ (h.1.ne (by decide) (by decide) (by decide))).trans h.f2, (va_up_ne _ _ (h.1.ne (by decide) (by decide) (by decide))).trans h.f3, (va_up_ne _ _ (h.1.ne (by decide) (by decide) (by decide))).trans h.f4, (va_up_ne _ _ (h.1.ne (by decide) (by decide) (by decide))).trans h.f5, (va_up_ne _ _ (h.1.ne (by decide) (by decide) (by decide))).trans h.f6, (va_up_ne _ _ (h.1.ne (by decide) (by decide) (by decide))).trans h.f7, (va_up_ne _ _ (h.1.ne (by decide) (by decide) (by decide))).trans h.f8, (va_up_ne _ _ (h.1.ne (by decide) (by decide) (by decide))).trans h.f9, (va_up_ne _ _ (h.1.ne (by decide) (by decide) (by decide))).trans h.f10, (va_up_ne _ _ (h.1.ne (by decide) (by decide) (by decide))).trans h.f11, (va_up_ne _ _ (h.1.ne (by decide) (by decide) (by decide))).trans h.f12, (va_up_ne _ _ (h.1.ne (by decide) (by decide) (by decide))).trans h.f13, (va_up_ne _ _ (h.1.ne (by decide) (by decide) (by decide))).trans h.f14⟩
theorem MoAt.up1 {G : GT} {L : List Nat} {f : Nat → va_E} {w : Nat → Nat} {id : Nat} {A : Nat → Nat} {th : Nat} {mc : Nat} {sa : Nat → Nat} {ka : Nat → Nat} {nx : Nat → Nat} {ou : Nat → Nat} {wl : Nat} {wd : Nat → Nat} {ap : Nat → Bool} {fo : Nat} {se : Nat → Nat} {fr : Nat → Option Nat} {by_ : Nat → Nat} {is : Nat → Bool} {tr : Nat} {my : Nat → Nat} {ss : Nat → Nat} {tf : Nat → Option Nat} {tb : Nat → Nat} {sa' : Nat → Nat} {f' : Nat → va_E} (h : MoAt G L f w id A th mc sa ka nx ou wl wd ap fo se fr by_ is tr my ss tf tb) (e : f' = va_up f (A 1) (aI G 12 sa')) : MoAt G L f' w id A th mc sa' ka nx ou wl wd ap fo se fr by_ is tr my ss tf tb := by
  subst e
  exact ⟨h.1, (va_up_ne _ _ (h.1.ne (by decide) (by decide) (by decide))).trans h.f0, va_up_self _ _ _, (va_up_ne _ _ (h.1.ne (by decide) (by decide) (by decide))).trans h.f2, (va_up_ne _ _ (h.1.ne (by decide) (by decide) (by decide))).trans h.f3, (va_up_ne _ _ (h.1.ne (by decide) (by decide) (by decide))).trans h.f4, (va_up_ne _ _ (h.1.ne (by decide) (by decide) (by decide))).trans h.f5, (va_up_ne _ _ (h.1.ne (by decide) (by decide) (by decide))).trans h.f6, (va_up_ne _ _ (h.1.ne (by decide) (by decide) (by decide))).trans h.f7, (va_up_ne _ _ (h.1.ne (by decide) (by decide) (by decide))).trans h.f8, (va_up_ne _ _ (h.1.ne (by decide) (by decide) (by decide))).trans h.f9, (va_up_ne _ _ (h.1.ne (by decide) (by decide) (by decide))).trans h.f10, (va_up_ne _ _ (h.1.ne (by decide) (by decide) (by decide))).trans h.f11, (va_up_ne _ _ (h.1.ne (by decide) (by decide) (by decide))).trans h.f12, (va_up_ne _ _ (h.1.ne (by decide) (by decide) (by decide))).trans h.f13, (va_up_ne _ _ (h.1.ne (by decide) (by decide) (by decide))).trans h.f14⟩
theorem MoAt.up2 {G : GT} {L : List Nat} {f : Nat → va_E} {w : Nat → Nat} {id : Nat} {A : Nat → Nat} {th : Nat} {mc : Nat} {sa : Nat → Nat} {ka : Nat → Nat} {nx : Nat → Nat} {ou : Nat → Nat} {wl : Nat} {wd : Nat → Nat} {ap : Nat → Bool} {fo : Nat} {se : Nat → Nat} {fr : Nat → Option Nat} {by_ : Nat → Nat} {is : Nat → Bool} {tr : Nat} {my : Nat → Nat} {ss : Nat → Nat} {tf : Nat → Option Nat} {tb : Nat → Nat} {ka' : Nat → Nat} {f' : Nat → va_E} (h : MoAt G L f w id A th mc sa ka nx ou wl wd ap fo se fr by_ is tr my ss tf tb) (e : f' = va_up f (A 2) (aI G 12 ka')) : MoAt G L f' w id A th mc sa ka' nx ou wl wd ap fo se fr by_ is tr my ss tf tb := by
  subst e
  exact ⟨h.1, (va_up_ne _ _ (h.1.ne (by decide) (by decide) (by decide))).trans h.f0, (va_up_ne _ _ (h.1.ne (by decide) (by decide) (by decide))).trans h.f1, va_up_self _ _ _, (va_up_ne _ _ (h.1.ne (by decide) (by decide) (by decide))).trans h.f3, (va_up_ne _ _ (h.1.ne (by decide) (by decide) (by decide))).trans h.f4, (va_up_ne _ _ (h.1.ne (by decide) (by decide) (by decide))).trans h.f5, (va_up_ne _ _ (h.1.ne (by decide) (by decide) (by decide))).trans h.f6, (va_up_ne _ _ (h.1.ne (by decide) (by decide) (by decide))).trans h.f7, (va_up_ne _ _ (h.1.ne (by decide) (by decide) (by decide))).trans h.f8, (va_up_ne _ _ (h.1.ne (by decide) (by decide) (by decide))).trans h.f9, (va_up_ne _ _ (h.1.ne (by decide) (by decide) (by decide))).trans h.f10, (va_up_ne _ _ (h.1.ne (by decide) (by decide) (by decide))).trans h.f11, (va_up_ne _ _ (h.1.ne (by decide) (by decide) (by decide))).trans h.f12, (va_up_ne _ _ (h.1.ne (by decide) (by decide) (by decide))).trans h.f13, (va_up_ne _ _ (h.1.ne (by decide) (by decide) (by decide))).trans h.f14⟩
theorem MoAt.up3 {G : GT} {L : List Nat} {f : Nat → va_E} {w : Nat → Nat} {id : Nat} {A : Nat → Nat} {th : Nat} {mc : Nat} {sa : Nat → Nat} {ka : Nat → Nat} {nx : Nat → Nat} {ou : Nat → Nat} {wl : Nat} {wd : Nat → Nat} {ap : Nat → Bool} {fo : Nat} {se : Nat → Nat} {fr : Nat → Option Nat} {by_ : Nat → Nat} {is : Nat → Bool} {tr : Nat} {my : Nat → Nat} {ss : Nat → Nat} {tf : Nat → Option Nat} {tb : Nat → Nat} {nx' : Nat → Nat} {f' : Nat → va_E} (h : MoAt G L f w id A th mc sa ka nx ou wl wd ap fo se fr by_ is tr my ss tf tb) (e : f' = va_up f (A 3) (aI G 1920 nx')) : MoAt G L f' w id A th mc sa ka nx' ou wl wd ap fo se fr by_ is tr my ss tf tb := by
  subst e
  exact ⟨h.1, (va_up_ne _ _ (h.1.ne (by decide) (by decide) (by decide))).trans h.f0, (va_up_ne _ _ (h.1.ne (by decide) (by decide) (by decide))).trans h.f1, (va_up_ne _ _ (h.1.ne (by decide) (by decide) (by decide))).trans h.f2, va_up_self _ _ _, (va_up_ne _ _ (h.1.ne (by decide) (by decide) (by decide))).trans h.f4, (va_up_ne _ _ (h.1.ne (by decide) (by decide) (by decide))).trans h.f5, (va_up_ne _ _ (h.1.ne (by decide) (by decide) (by decide))).trans h.f6, (va_up_ne _ _ (h.1.ne (by decide) (by decide) (by decide))).trans h.f7, (va_up_ne _ _ (h.1.ne (by decide) (by decide) (by decide))).trans h.f8, (va_up_ne _ _ (h.1.ne (by decide) (by decide) (by decide))).trans h.f9, (va_up_ne _ _ (h.1.ne (by decide) (by decide) (by decide))).trans h.f10, (va_up_ne _ _ (h.1.ne (by decide) (by decide) (by decide))).trans h.f11, (va_up_ne _ _ (h.1.ne (by decide) (by decide) (by decide))).trans h.f12, (va_up_ne _ _ (h.1.ne (by decide) (by decide) (by decide))).trans h.f13, (va_up_ne _ _ (h.1.ne (by decide) (by decide) (by decide))).trans h.f14⟩
theorem MoAt.up4 {G : GT} {L : List Nat} {f : Nat → va_E} {w : Nat → Nat} {id : Nat} {A : Nat → Nat} {th : Nat} {mc : Nat} {sa : Nat → Nat} {ka : Nat → Nat} {nx : Nat → Nat} {ou : Nat → Nat} {wl : Nat} {wd : Nat → Nat} {ap : Nat → Bool} {fo : Nat} {se : Nat → Nat} {fr : Nat → Option Nat} {by_ : Nat → Nat} {is : Nat → Bool} {tr : Nat} {my : Nat → Nat} {ss : Nat → Nat} {tf : Nat → Option Nat} {tb : Nat → Nat} {ou' : Nat → Nat} {f' : Nat → va_E} (h : MoAt G L f w id A th mc sa ka nx ou wl wd ap fo se fr by_ is tr my ss tf tb) (e : f' = va_up f (A 4) (aI G 1920 ou')) : MoAt G L f' w id A th mc sa ka nx ou' wl wd ap fo se fr by_ is tr my ss tf tb := by
  subst e
  exact ⟨h.1, (va_up_ne _ _ (h.1.ne (by decide) (by decide) (by decide))).trans h.f0, (va_up_ne _ _ (h.1.ne (by decide) (by decide) (by decide))).trans h.f1, (va_up_ne _ _ (h.1.ne (by decide) (by decide) (by decide))).trans h.f2, (va_up_ne _ _ (h.1.ne (by decide) (by decide) (by decide))).trans h.f3, va_up_self _ _ _, (va_up_ne _ _ (h.1.ne (by decide) (by decide) (by decide))).trans h.f5, (va_up_ne _ _ (h.1.ne (by decide) (by decide) (by decide))).trans h.f6, (va_up_ne _ _ (h.1.ne (by decide) (by decide) (by decide))).trans h.f7, (va_up_ne _ _ (h.1.ne (by decide) (by decide) (by decide))).trans h.f8, (va_up_ne _ _ (h.1.ne (by decide) (by decide) (by decide))).trans h.f9, (va_up_ne _ _ (h.1.ne (by decide) (by decide) (by decide))).trans h.f10, (va_up_ne _ _ (h.1.ne (by decide) (by decide) (by decide))).trans h.f11, (va_up_ne _ _ (h.1.ne (by decide) (by decide) (by decide))).trans h.f12, (va_up_ne _ _ (h.1.ne (by decide) (by decide) (by decide))).trans h.f13, (va_up_ne _ _ (h.1.ne (by decide) (by decide) (by decide))).trans h.f14⟩
theorem MoAt.up5 {G : GT} {L : List Nat} {f : Nat → va_E} {w : Nat → Nat} {id : Nat} {A : Nat → Nat} {th : Nat} {mc : Nat} {sa : Nat → Nat} {ka : Nat → Nat} {nx : Nat → Nat} {ou : Nat → Nat} {wl : Nat} {wd : Nat → Nat} {ap : Nat → Bool} {fo : Nat} {se : Nat → Nat} {fr : Nat → Option Nat} {by_ : Nat → Nat} {is : Nat → Bool} {tr : Nat} {my : Nat → Nat} {ss : Nat → Nat} {tf : Nat → Option Nat} {tb : Nat → Nat} {wd' : Nat → Nat} {f' : Nat → va_E} (h : MoAt G L f w id A th mc sa ka nx ou wl wd ap fo se fr by_ is tr my ss tf tb) (e : f' = va_up f (A 5) (aI G 4200 wd')) : MoAt G L f' w id A th mc sa ka nx ou wl wd' ap fo se fr by_ is tr my ss tf tb := by
  subst e
  exact ⟨h.1, (va_up_ne _ _ (h.1.ne (by decide) (by decide) (by decide))).trans h.f0, (va_up_ne _ _ (h.1.ne (by decide) (by decide) (by decide))).trans h.f1, (va_up_ne _ _ (h.1.ne (by decide) (by decide) (by decide))).trans h.f2, (va_up_ne _ _ (h.1.ne (by decide) (by decide) (by decide))).trans h.f3, (va_up_ne _ _ (h.1.ne (by decide) (by decide) (by decide))).trans h.f4, va_up_self _ _ _, (va_up_ne _ _ (h.1.ne (by decide) (by decide) (by decide))).trans h.f6, (va_up_ne _ _ (h.1.ne (by decide) (by decide) (by decide))).trans h.f7, (va_up_ne _ _ (h.1.ne (by decide) (by decide) (by decide))).trans h.f8, (va_up_ne _ _ (h.1.ne (by decide) (by decide) (by decide))).trans h.f9, (va_up_ne _ _ (h.1.ne (by decide) (by decide) (by decide))).trans h.f10, (va_up_ne _ _ (h.1.ne (by decide) (by decide) (by decide))).trans h.f11, (va_up_ne _ _ (h.1.ne (by decide) (by decide) (by decide))).trans h.f12, (va_up_ne _ _ (h.1.ne (by decide) (by decide) (by decide))).trans h.f13, (va_up_ne _ _ (h.1.ne (by decide) (by decide) (by decide))).trans h.f14⟩
theorem MoAt.up6 {G : GT} {L : List Nat} {f : Nat → va_E} {w : Nat → Nat} {id : Nat} {A : Nat → Nat} {th : Nat} {mc : Nat} {sa : Nat → Nat} {ka : Nat → Nat} {nx : Nat → Nat} {ou : Nat → Nat} {wl : Nat} {wd : Nat → Nat} {ap : Nat → Bool} {fo : Nat} {se : Nat → Nat} {fr : Nat → Option Nat} {by_ : Nat → Nat} {is : Nat → Bool} {tr : Nat} {my : Nat → Nat} {ss : Nat → Nat} {tf : Nat → Option Nat} {tb : Nat → Nat} {ap' : Nat → Bool} {f' : Nat → va_E} (h : MoAt G L f w id A th mc sa ka nx ou wl wd ap fo se fr by_ is tr my ss tf tb) (e : f' = va_up f (A 6) (aB G 1600 ap')) : MoAt G L f' w id A th mc sa ka nx ou wl wd ap' fo se fr by_ is tr my ss tf tb := by
  subst e
  exact ⟨h.1, (va_up_ne _ _ (h.1.ne (by decide) (by decide) (by decide))).trans h.f0, (va_up_ne _ _ (h.1.ne (by decide) (by decide) (by decide))).trans h.f1, (va_up_ne _ _ (h.1.ne (by decide) (by decide) (by decide))).trans h.f2, (va_up_ne _ _ (h.1.ne (by decide) (by decide) (by decide))).trans h.f3, (va_up_ne _ _ (h.1.ne (by decide) (by decide) (by decide))).trans h.f4, (va_up_ne _ _ (h.1.ne (by decide) (by decide) (by decide))).trans h.f5, va_up_self _ _ _, (va_up_ne _ _ (h.1.ne (by decide) (by decide) (by decide))).trans h.f7, (va_up_ne _ _ (h.1.ne (by decide) (by decide) (by decide))).trans h.f8, (va_up_ne _ _ (h.1.ne (by decide) (by decide) (by decide))).trans h.f9, (va_up_ne _ _ (h.1.ne (by decide) (by decide) (by decide))).trans h.f10, (va_up_ne _ _ (h.1.ne (by decide) (by decide) (by decide))).trans h.f11, (va_up_ne _ _ (h.1.ne (by decide) (by decide) (by decide))).trans h.f12, (va_up_ne _ _ (h.1.ne (by decide) (by decide) (by decide))).trans h.f13, (va_up_ne _ _ (h.1.ne (by decide) (by decide) (by decide))).trans h.f14⟩
theorem MoAt.up7 {G : GT} {L : List Nat} {f : Nat → va_E} {w : Nat → Nat} {id : Nat} {A : Nat → Nat} {th : Nat} {mc : Nat} {sa : Nat → Nat} {ka : Nat → Nat} {nx : Nat → Nat} {ou : Nat → Nat} {wl : Nat} {wd : Nat → Nat} {ap : Nat → Bool} {fo : Nat} {se : Nat → Nat} {fr : Nat → Option Nat} {by_ : Nat → Nat} {is : Nat → Bool} {tr : Nat} {my : Nat → Nat} {ss : Nat → Nat} {tf : Nat → Option Nat} {tb : Nat → Nat} {se' : Nat → Nat} {f' : Nat → va_E} (h : MoAt G L f w id A th mc sa ka nx ou wl wd ap fo se fr by_ is tr my ss tf tb) (e : f' = va_up f (A 7) (aI G 4096 se')) : MoAt G L f' w id A th mc sa ka nx ou wl wd ap fo se' fr by_ is tr my ss tf tb := by
  subst e
  exact ⟨h.1, (va_up_ne _ _ (h.1.ne (by decide) (by decide) (by decide))).trans h.f0, (va_up_ne _ _ (h.1.ne (by decide) (by decide) (by decide))).trans h.f1, (va_up_ne _ _ (h.1.ne (by decide) (by decide) (by decide))).trans h.f2, (va_up_ne _ _ (h.1.ne (by decide) (by decide) (by decide))).trans h.f3, (va_up_ne _ _ (h.1.ne (by decide) (by decide) (by decide))).trans h.f4, (va_up_ne _ _ (h.1.ne (by decide) (by decide) (by decide))).trans h.f5, (va_up_ne _ _ (h.1.ne (by decide) (by decide) (by decide))).trans h.f6, va_up_self _ _ _, (va_up_ne _ _ (h.1.ne (by decide) (by decide) (by decide))).trans h.f8, (va_up_ne _ _ (h.1.ne (by decide) (by decide) (by decide))).trans h.f9, (va_up_ne _ _ (h.1.ne (by decide) (by decide) (by decide))).trans h.f10, (va_up_ne _ _ (h.1.ne (by decide) (by decide) (by decide))).trans h.f11, (va_up_ne _ _ (h.1.ne (by decide) (by decide) (by decide))).trans h.f12, (va_up_ne _ _ (h.1.ne (by decide) (by decide) (by decide))).trans h.f13, (va_up_ne _ _ (h.1.ne (by decide) (by decide) (by decide))).trans h.f14⟩
theorem MoAt.up8 {G : GT} {L : List Nat} {f : Nat → va_E} {w : Nat → Nat} {id : Nat} {A : Nat → Nat} {th : Nat} {mc : Nat} {sa : Nat → Nat} {ka : Nat → Nat} {nx : Nat → Nat} {ou : Nat → Nat} {wl : Nat} {wd : Nat → Nat} {ap : Nat → Bool} {fo : Nat} {se : Nat → Nat} {fr : Nat → Option Nat} {by_ : Nat → Nat} {is : Nat → Bool} {tr : Nat} {my : Nat → Nat} {ss : Nat → Nat} {tf : Nat → Option Nat} {tb : Nat → Nat} {fr' : Nat → Option Nat} {f' : Nat → va_E} (h : MoAt G L f w id A th mc sa ka nx ou wl wd ap fo se fr by_ is tr my ss tf tb) (e : f' = va_up f (A 8) (aO G 4096 fr')) : MoAt G L f' w id A th mc sa ka nx ou wl wd ap fo se fr' by_ is tr my ss tf tb := by
  subst e
  exact ⟨h.1, (va_up_ne _ _ (h.1.ne (by decide) (by decide) (by decide))).trans h.f0, (va_up_ne _ _ (h.1.ne (by decide) (by decide) (by decide))).trans h.f1, (va_up_ne _ _ (h.1.ne (by decide) (by decide) (by decide))).trans h.f2, (va_up_ne _ _ (h.1.ne (by decide) (by decide) (by decide))).trans h.f3, (va_up_ne _ _ (h.1.ne (by decide) (by decide) (by decide))).trans h.f4, (va_up_ne _ _ (h.1.ne (by decide) (by decide) (by decide))).trans h.f5, (va_up_ne _ _ (h.1.ne (by decide) (by decide) (by decide))).trans h.f6, (va_up_ne _ _ (h.1.ne (by decide) (by decide) (by decide))).trans h.f7, va_up_self _ _ _, (va_up_ne _ _ (h.1.ne (by decide) (by decide) (by decide))).trans h.f9, (va_up_ne _ _ (h.1.ne (by decide) (by decide) (by decide))).trans h.f10, (va_up_ne _ _ (h.1.ne (by decide) (by decide) (by decide))).trans h.f11, (va_up_ne _ _ (h.1.ne (by decide) (by decide) (by decide))).trans h.f12, (va_up_ne _ _ (h.1.ne (by decide) (by decide) (by decide))).trans h.f13, (va_up_ne _ _ (h.1.ne (by decide) (by decide) (by decide))).trans h.f14⟩
theorem MoAt.up9 {G : GT} {L : List Nat} {f : Nat → va_E} {w : Nat → Nat} {id : Nat} {A : Nat → Nat} {th : Nat} {mc : Nat} {sa : Nat → Nat} {ka : Nat → Nat} {nx : Nat → Nat} {ou : Nat → Nat} {wl : Nat} {wd : Nat → Nat} {ap : Nat → Bool} {fo : Nat} {se : Nat → Nat} {fr : Nat → Option Nat} {by_ : Nat → Nat} {is : Nat → Bool} {tr : Nat} {my : Nat → Nat} {ss : Nat → Nat} {tf : Nat → Option Nat} {tb : Nat → Nat} {by_' : Nat → Nat} {f' : Nat → va_E} (h : MoAt G L f w id A th mc sa ka nx ou wl wd ap fo se fr by_ is tr my ss tf tb) (e : f' = va_up f (A 9) (aI G 4096 by_')) : MoAt G L f' w id A th mc sa ka nx ou wl wd ap fo se fr by_' is tr my ss tf tb := by
  subst e
  exact ⟨h.1, (va_up_ne _ _ (h.1.ne (by decide) (by decide) (by decide))).trans h.f0, (va_up_ne _ _ (h.1.ne (by decide) (by decide) (by decide))).trans h.f1, (va_up_ne _ _ (h.1.ne (by decide) (by decide) (by decide))).trans h.f2, (va_up_ne _ _ (h.1.ne (by decide) (by decide) (by decide))).trans h.f3, (va_up_ne _ _ (h.1.ne (by decide) (by decide) (by decide))).trans h.f4, (va_up_ne _ _ (h.1.ne (by decide) (by decide) (by decide))).trans h.f5, (va_up_ne _ _ (h.1.ne (by decide) (by decide) (by decide))).trans h.f6, (va_up_ne _ _ (h.1.ne (by decide) (by decide) (by decide))).trans h.f7, (va_up_ne _ _ (h.1.ne (by decide) (by decide) (by decide))).trans h.f8, va_up_self _ _ _, (va_up_ne _ _ (h.1.ne (by decide) (by decide) (by decide))).trans h.f10, (va_up_ne _ _ (h.1.ne (by decide) (by decide) (by decide))).trans h.f11, (va_up_ne _ _ (h.1.ne (by decide) (by decide) (by decide))).trans h.f12, (va_up_ne _ _ (h.1.ne (by decide) (by decide) (by decide))).trans h.f13, (va_up_ne _ _ (h.1.ne (by decide) (by decide) (by decide))).trans h.f14⟩
theorem MoAt.up10 {G : GT} {L : List Nat} {f : Nat → va_E} {w : Nat → Nat} {id : Nat} {A : Nat → Nat} {th : Nat} {mc : Nat} {sa : Nat → Nat} {ka : Nat → Nat} {nx : Nat → Nat} {ou : Nat → Nat} {wl : Nat} {wd : Nat → Nat} {ap : Nat → Bool} {fo : Nat} {se : Nat → Nat} {fr : Nat → Option Nat} {by_ : Nat → Nat} {is : Nat → Bool} {tr : Nat} {my : Nat → Nat} {ss : Nat → Nat} {tf : Nat → Option Nat} {tb : Nat → Nat} {is' : Nat → Bool} {f' : Nat → va_E} (h : MoAt G L f w id A th mc sa ka nx ou wl wd ap fo se fr by_ is tr my ss tf tb) (e : f' = va_up f (A 10) (aB G 4096 is')) : MoAt G L f' w id A th mc sa ka nx ou wl wd ap fo se fr by_ is' tr my ss tf tb := by
  subst e
  exact ⟨h.1, (va_up_ne _ _ (h.1.ne (by decide) (by decide) (by decide))).trans h.f0, (va_up_ne _ _ (h.1.ne (by decide) (by decide) (by decide))).trans h.f1, (va_up_ne _ _ (h.1.ne (by decide) (by decide) (by decide))).trans h.f2, (va_up_ne _ _ (h.1.ne (by decide) (by decide) (by decide))).trans h.f3, (va_up_ne _ _ (h.1.ne (by decide) (by decide) (by decide))).trans h.f4, (va_up_ne _ _ (h.1.ne (by decide) (by decide) (by decide))).trans h.f5, (va_up_ne _ _ (h.1.ne (by decide) (by decide) (by decide))).trans h.f6, (va_up_ne _ _ (h.1.ne (by decide) (by decide) (by decide))).trans h.f7, (va_up_ne _ _ (h.1.ne (by decide) (by decide) (by decide))).trans h.f8, (va_up_ne _ _ (h.1.ne (by decide) (by decide) (by decide))).trans h.f9, va_up_self _ _ _, (va_up_ne _ _ (h.1.ne (by decide) (by decide) (by decide))).trans h.f11, (va_up_ne _ _ (h.1.ne (by decide) (by decide) (by decide))).trans h.f12, (va_up_ne _ _ (h.1.ne (by decide) (by decide) (by decide))).trans h.f13, (va_up_ne _ _ (h.1.ne (by decide) (by decide) (by decide))).trans h.f14⟩
theorem MoAt.up11 {G : GT} {L : List Nat} {f : Nat → va_E} {w : Nat → Nat} {id : Nat} {A : Nat → Nat} {th : Nat} {mc : Nat} {sa : Nat → Nat} {ka : Nat → Nat} {nx : Nat → Nat} {ou : Nat → Nat} {wl : Nat} {wd : Nat → Nat} {ap : Nat → Bool} {fo : Nat} {se : Nat → Nat} {fr : Nat → Option Nat} {by_ : Nat → Nat} {is : Nat → Bool} {tr : Nat} {my : Nat → Nat} {ss : Nat → Nat} {tf : Nat → Option Nat} {tb : Nat → Nat} {my' : Nat → Nat} {f' : Nat → va_E} (h : MoAt G L f w id A th mc sa ka nx ou wl wd ap fo se fr by_ is tr my ss tf tb) (e : f' = va_up f (A 11) (aI G 301 my')) : MoAt G L f' w id A th mc sa ka nx ou wl wd ap fo se fr by_ is tr my' ss tf tb := by
  subst e
  exact ⟨h.1, (va_up_ne _ _ (h.1.ne (by decide) (by decide) (by decide))).trans h.f0, (va_up_ne _ _ (h.1.ne (by decide) (by decide) (by decide))).trans h.f1, (va_up_ne _ _ (h.1.ne (by decide) (by decide) (by decide))).trans h.f2, (va_up_ne _ _ (h.1.ne (by decide) (by decide) (by decide))).trans h.f3, (va_up_ne _ _ (h.1.ne (by decide) (by decide) (by decide))).trans h.f4, (va_up_ne _ _ (h.1.ne (by decide) (by decide) (by decide))).trans h.f5, (va_up_ne _ _ (h.1.ne (by decide) (by decide) (by decide))).trans h.f6, (va_up_ne _ _ (h.1.ne (by decide) (by decide) (by decide))).trans h.f7, (va_up_ne _ _ (h.1.ne (by decide) (by decide) (by decide))).trans h.f8, (va_up_ne _ _ (h.1.ne (by decide) (by decide) (by decide))).trans h.f9, (va_up_ne _ _ (h.1.ne (by decide) (by decide) (by decide))).trans h.f10, va_up_self _ _ _, (va_up_ne _ _ (h.1.ne (by decide) (by decide) (by decide))).trans h.f12, (va_up_ne _ _ (h.1.ne (by decide) (by decide) (by decide))).trans h.f13, (va_up_ne _ _ (h.1.ne (by decide) (by decide) (by decide))).trans h.f14⟩
theorem MoAt.up12 {G : GT} {L : List Nat} {f : Nat → va_E} {w : Nat → Nat} {id : Nat} {A : Nat → Nat} {th : Nat} {mc : Nat} {sa : Nat → Nat} {ka : Nat → Nat} {nx : Nat → Nat} {ou : Nat → Nat} {wl : Nat} {wd : Nat → Nat} {ap : Nat → Bool} {fo : Nat} {se : Nat → Nat} {fr : Nat → Option Nat} {by_ : Nat → Nat} {is : Nat → Bool} {tr : Nat} {my : Nat → Nat} {ss : Nat → Nat} {tf : Nat → Option Nat} {tb : Nat → Nat} {ss' : Nat → Nat} {f' : Nat → va_E} (h : MoAt G L f w id A th mc sa ka nx ou wl wd ap fo se fr by_ is tr my ss tf tb) (e : f' = va_up f (A 12) (aI G 3612 ss')) : MoAt G L f' w id A th mc sa ka nx ou wl wd ap fo se fr by_ is tr my ss' tf tb := by
  subst e
  exact ⟨h.1, (va_up_ne _ _ (h.1.ne (by decide) (by decide) (by decide))).trans h.f0, (va_up_ne _ _ (h.1.ne (by decide) (by decide) (by decide))).trans h.f1, (va_up_ne _ _ (h.1.ne (by decide) (by decide) (by decide))).trans h.f2, (va_up_ne _ _ (h.1.ne (by decide) (by decide) (by decide))).trans h.f3, (va_up_ne _ _ (h.1.ne (by decide) (by decide) (by decide))).trans h.f4, (va_up_ne _ _ (h.1.ne (by decide) (by decide) (by decide))).trans h.f5, (va_up_ne _ _ (h.1.ne (by decide) (by decide) (by decide))).trans h.f6, (va_up_ne _ _ (h.1.ne (by decide) (by decide) (by decide))).trans h.f7, (va_up_ne _ _ (h.1.ne (by decide) (by decide) (by decide))).trans h.f8, (va_up_ne _ _ (h.1.ne (by decide) (by decide) (by decide))).trans h.f9, (va_up_ne _ _ (h.1.ne (by decide) (by decide) (by decide))).trans h.f10, (va_up_ne _ _ (h.1.ne (by decide) (by decide) (by decide))).trans h.f11, va_up_self _ _ _, (va_up_ne _ _ (h.1.ne (by decide) (by decide) (by decide))).trans h.f13, (va_up_ne _ _ (h.1.ne (by decide) (by decide) (by decide))).trans h.f14⟩
theorem MoAt.up13 {G : GT} {L : List Nat} {f : Nat → va_E} {w : Nat → Nat} {id : Nat} {A : Nat → Nat} {th : Nat} {mc : Nat} {sa : Nat → Nat} {ka : Nat → Nat} {nx : Nat → Nat} {ou : Nat → Nat} {wl : Nat} {wd : Nat → Nat} {ap : Nat → Bool} {fo : Nat} {se : Nat → Nat} {fr : Nat → Option Nat} {by_ : Nat → Nat} {is : Nat → Bool} {tr : Nat} {my : Nat → Nat} {ss : Nat → Nat} {tf : Nat → Option Nat} {tb : Nat → Nat} {tf' : Nat → Option Nat} {f' : Nat → va_E} (h : MoAt G L f w id A th mc sa ka nx ou wl wd ap fo se fr by_ is tr my ss tf tb) (e : f' = va_up f (A 13) (aO G 301 tf')) : MoAt G L f' w id A th mc sa ka nx ou wl wd ap fo se fr by_ is tr my ss tf' tb := by
  subst e
  exact ⟨h.1, (va_up_ne _ _ (h.1.ne (by decide) (by decide) (by decide))).trans h.f0, (va_up_ne _ _ (h.1.ne (by decide) (by decide) (by decide))).trans h.f1, (va_up_ne _ _ (h.1.ne (by decide) (by decide) (by decide))).trans h.f2, (va_up_ne _ _ (h.1.ne (by decide) (by decide) (by decide))).trans h.f3, (va_up_ne _ _ (h.1.ne (by decide) (by decide) (by decide))).trans h.f4, (va_up_ne _ _ (h.1.ne (by decide) (by decide) (by decide))).trans h.f5, (va_up_ne _ _ (h.1.ne (by decide) (by decide) (by decide))).trans h.f6, (va_up_ne _ _ (h.1.ne (by decide) (by decide) (by decide))).trans h.f7, (va_up_ne _ _ (h.1.ne (by decide) (by decide) (by decide))).trans h.f8, (va_up_ne _ _ (h.1.ne (by decide) (by decide) (by decide))).trans h.f9, (va_up_ne _ _ (h.1.ne (by decide) (by decide) (by decide))).trans h.f10, (va_up_ne _ _ (h.1.ne (by decide) (by decide) (by decide))).trans h.f11, (va_up_ne _ _ (h.1.ne (by decide) (by decide) (by decide))).trans h.f12, va_up_self _ _ _, (va_up_ne _ _ (h.1.ne (by decide) (by decide) (by decide))).trans h.f14⟩
theorem MoAt.up14 {G : GT} {L : List Nat} {f : Nat → va_E} {w : Nat → Nat} {id : Nat} {A : Nat → Nat} {th : Nat} {mc : Nat} {sa : Nat → Nat} {ka : Nat → Nat} {nx : Nat → Nat} {ou : Nat → Nat} {wl : Nat} {wd : Nat → Nat} {ap : Nat → Bool} {fo : Nat} {se : Nat → Nat} {fr : Nat → Option Nat} {by_ : Nat → Nat} {is : Nat → Bool} {tr : Nat} {my : Nat → Nat} {ss : Nat → Nat} {tf : Nat → Option Nat} {tb : Nat → Nat} {tb' : Nat → Nat} {f' : Nat → va_E} (h : MoAt G L f w id A th mc sa ka nx ou wl wd ap fo se fr by_ is tr my ss tf tb) (e : f' = va_up f (A 14) (aI G 301 tb')) : MoAt G L f' w id A th mc sa ka nx ou wl wd ap fo se fr by_ is tr my ss tf tb' := by
  subst e
  exact ⟨h.1, (va_up_ne _ _ (h.1.ne (by decide) (by decide) (by decide))).trans h.f0, (va_up_ne _ _ (h.1.ne (by decide) (by decide) (by decide))).trans h.f1, (va_up_ne _ _ (h.1.ne (by decide) (by decide) (by decide))).trans h.f2, (va_up_ne _ _ (h.1.ne (by decide) (by decide) (by decide))).trans h.f3, (va_up_ne _ _ (h.1.ne (by decide) (by decide) (by decide))).trans h.f4, (va_up_ne _ _ (h.1.ne (by decide) (by decide) (by decide))).trans h.f5, (va_up_ne _ _ (h.1.ne (by decide) (by decide) (by decide))).trans h.f6, (va_up_ne _ _ (h.1.ne (by decide) (by decide) (by decide))).trans h.f7, (va_up_ne _ _ (h.1.ne (by decide) (by decide) (by decide))).trans h.f8, (va_up_ne _ _ (h.1.ne (by decide) (by decide) (by decide))).trans h.f9, (va_up_ne _ _ (h.1.ne (by decide) (by decide) (by decide))).trans h.f10, (va_up_ne _ _ (h.1.ne (by decide) (by decide) (by decide))).trans h.f11, (va_up_ne _ _ (h.1.ne (by decide) (by decide) (by decide))).trans h.f12, (va_up_ne _ _ (h.1.ne (by decide) (by decide) (by decide))).trans h.f13, va_up_self _ _ _⟩
theorem MoAt.move {G : GT} {L : List Nat} {f : Nat → va_E} {w : Nat → Nat} {id : Nat} {A : Nat → Nat} {th : Nat} {mc : Nat} {sa : Nat → Nat} {ka : Nat → Nat} {nx : Nat → Nat} {ou : Nat → Nat} {wl : Nat} {wd : Nat → Nat} {ap : Nat → Bool} {fo : Nat} {se : Nat → Nat} {fr : Nat → Option Nat} {by_ : Nat → Nat} {is : Nat → Bool} {tr : Nat} {my : Nat → Nat} {ss : Nat → Nat} {tf : Nat → Option Nat} {tb : Nat → Nat} {L' : List Nat} {w' : Nat → Nat} {f' : Nat → va_E} (h : MoAt G L f w id A th mc sa ka nx ou wl wd ap fo se fr by_ is tr my ss tf tb) (hL : ∀ q, q ∈ L → q ∈ L') (hw : ∀ q, q ∈ L → w' q = w q) (hf : ∀ q, q ∈ L → w q = id → f' q = f q) : MoAt G L' f' w' id A th mc sa ka nx ou wl wd ap fo se fr by_ is tr my ss tf tb := ⟨h.1.move hL hw, (hf _ h.m0 h.o0).trans h.f0, (hf _ h.m1 h.o1).trans h.f1, (hf _ h.m2 h.o2).trans h.f2, (hf _ h.m3 h.o3).trans h.f3, (hf _ h.m4 h.o4).trans h.f4, (hf _ h.m5 h.o5).trans h.f5, (hf _ h.m6 h.o6).trans h.f6, (hf _ h.m7 h.o7).trans h.f7, (hf _ h.m8 h.o8).trans h.f8, (hf _ h.m9 h.o9).trans h.f9, (hf _ h.m10 h.o10).trans h.f10, (hf _ h.m11 h.o11).trans h.f11, (hf _ h.m12 h.o12).trans h.f12, (hf _ h.m13 h.o13).trans h.f13, (hf _ h.m14 h.o14).trans h.f14⟩
theorem cf_Fa : CF 0 R_Fa T_Fa 4 t_Fa := ⟨rfl, uw_Fa, by decide +kernel, by decide +kernel⟩
theorem cf_Ma : CF 1 R_Ma T_Ma 7 t_Ma := ⟨rfl, uw_Ma, by decide +kernel, by decide +kernel⟩
theorem cf_Se : CF 2 R_Se T_Se 4 t_Se := ⟨rfl, uw_Se, by decide +kernel, by decide +kernel⟩
theorem cf_MT : CF 3 R_MT T_MT 5 t_MT := ⟨rfl, uw_MT, by decide +kernel, by decide +kernel⟩
theorem cf_Mo : CF 4 R_Mo T_Mo 19 t_Mo := ⟨rfl, uw_Mo, by decide +kernel, by decide +kernel⟩
theorem cf_XI : CF 5 R_XI T_XI 6 t_XI := ⟨rfl, uw_XI, by decide +kernel, by decide +kernel⟩
theorem cf_XA : CF 6 R_XA T_XA 6 t_XA := ⟨rfl, uw_XA, by decide +kernel, by decide +kernel⟩
theorem cf_XN : CF 7 R_XN T_XN 6 t_XN := ⟨rfl, uw_XN, by decide +kernel, by decide +kernel⟩
theorem kN_over : Cond.arrayOver (FieldType.object "MachineTables$Machine") ∈ NW := List.mem_of_getElem? (i := 0) rfl
theorem kN_MT_101 : Cond.fieldLinkNest "MachineTables" 101 "MachineTables$Search" "count" "I" "MachineTables" ∈ NW := List.mem_of_getElem? (i := 1) rfl
theorem kN_MT_185 : Cond.fieldLinkNest "MachineTables" 185 "MachineTables$Families" "count" "I" "MachineTables" ∈ NW := List.mem_of_getElem? (i := 2) rfl
theorem kN_Fa_25 : Cond.fieldLinkNest "MachineTables$Families" 25 "MachineTables$Machine" "states" "I" "MachineTables" ∈ NW := List.mem_of_getElem? (i := 3) rfl
theorem kN_MT_102 : Cond.fieldLinkNest "MachineTables" 102 "MachineTables$Machine" "states" "I" "MachineTables" ∈ NW := List.mem_of_getElem? (i := 4) rfl
theorem kN_MT_85 : Cond.fieldLinkNest "MachineTables" 85 "MachineTables$Machine" "inputs" "I" "MachineTables" ∈ NW := List.mem_of_getElem? (i := 5) rfl
theorem cy_MT_init : CY y_MT_init b_MT_init 1 none 0 := ⟨kc_MT_init, kz_MT, by decide +kernel⟩
theorem cy_Se_init : CY y_Se_init b_Se_init 1 none 0 := ⟨kc_Se_init, kz_Se, by decide +kernel⟩
theorem cy_Fa_init : CY y_Fa_init b_Fa_init 1 none 0 := ⟨kc_Fa_init, kz_Fa, by decide +kernel⟩
theorem cy_MT_machine : CY y_MT_machine b_MT_machine 3 (some .int) 2 := ⟨kc_MT_machine, kz_MT, by decide +kernel⟩
theorem cy_MT_isFull : CY y_MT_isFull b_MT_isFull 1 (some .boolean) 0 := ⟨kc_MT_isFull, kz_MT, by decide +kernel⟩
theorem cy_MT_add : CY y_MT_add b_MT_add 4 (some (.object "MachineTables$Machine")) 2 := ⟨kc_MT_add, kz_MT, by decide +kernel⟩
theorem cy_Ma_init : CY y_Ma_init b_Ma_init 1 none 0 := ⟨kc_Ma_init, kz_Ma, by decide +kernel⟩
theorem cy_Ma_begin : CY y_Ma_begin b_Ma_begin 5 none 2 := ⟨kc_Ma_begin, kz_Ma, by decide +kernel⟩
theorem cy_Ma_setArrow : CY y_Ma_setArrow b_Ma_setArrow 5 none 4 := ⟨kc_Ma_setArrow, kz_Ma, by decide +kernel⟩
theorem cy_MT_arrow : CY y_MT_arrow b_MT_arrow 7 (some .boolean) 5 := ⟨kc_MT_arrow, kz_MT, by decide +kernel⟩
theorem cy_MT_find : CY y_MT_find b_MT_find 2 (some (.object "MachineTables$Machine")) 1 := ⟨kc_MT_find, kz_MT, by decide +kernel⟩
theorem cy_Ma_hasState : CY y_Ma_hasState b_Ma_hasState 2 (some .boolean) 1 := ⟨kc_Ma_hasState, kz_Ma, by decide +kernel⟩
theorem cy_Ma_hasInput : CY y_Ma_hasInput b_Ma_hasInput 2 (some .boolean) 1 := ⟨kc_Ma_hasInput, kz_Ma, by decide +kernel⟩
theorem cy_MT_look : CY y_MT_look b_MT_look 6 (some .int) 4 := ⟨kc_MT_look, kz_MT, by decide +kernel⟩
theorem cy_Ma_nextOf : CY y_Ma_nextOf b_Ma_nextOf 3 (some .int) 2 := ⟨kc_Ma_nextOf, kz_Ma, by decide +kernel⟩
theorem cy_Ma_outputOf : CY y_Ma_outputOf b_Ma_outputOf 3 (some .int) 2 := ⟨kc_Ma_outputOf, kz_Ma, by decide +kernel⟩
theorem cy_MT_classes : CY y_MT_classes b_MT_classes 3 (some .int) 1 := ⟨kc_MT_classes, kz_MT, by decide +kernel⟩
theorem cy_Ma_settle : CY y_Ma_settle b_Ma_settle 3 none 0 := ⟨kc_Ma_settle, kz_Ma, by decide +kernel⟩
theorem cy_Ar_fill : CY y_Ar_fill b_Ar_fill 5 none 4 := ⟨kc_Ar_fill, kz_Ar, by decide +kernel⟩
theorem cy_Ar_rangeCheck : CY y_Ar_rangeCheck b_Ar_rangeCheck 3 none 3 := ⟨kc_Ar_rangeCheck, kz_Ar, by decide +kernel⟩
theorem cy_XT_init : CY y_XT_init b_XT_init 1 none 0 := ⟨kc_XT_init, kz_XT, by decide +kernel⟩
theorem cy_XI_init : CY y_XI_init b_XI_init 2 none 1 := ⟨kc_XI_init, kz_XI, by decide +kernel⟩
theorem cy_XR_init : CY y_XR_init b_XR_init 2 none 1 := ⟨kc_XR_init, kz_XR, by decide +kernel⟩
theorem cy_XE_init : CY y_XE_init b_XE_init 2 none 1 := ⟨kc_XE_init, kz_XE, by decide +kernel⟩
theorem cy_XT_init2 : CY y_XT_init2 b_XT_init2 2 none 1 := ⟨kc_XT_init2, kz_XT, by decide +kernel⟩
theorem cy_Ma_splitSets : CY y_Ma_splitSets b_Ma_splitSets 3 (some .boolean) 0 := ⟨kc_Ma_splitSets, kz_Ma, by decide +kernel⟩
theorem cy_Ma_leastThatAgrees : CY y_Ma_leastThatAgrees b_Ma_leastThatAgrees 3 (some .int) 1 := ⟨kc_Ma_leastThatAgrees, kz_Ma, by decide +kernel⟩
theorem cy_Ma_isAgreed : CY y_Ma_isAgreed b_Ma_isAgreed 4 (some .boolean) 2 := ⟨kc_Ma_isAgreed, kz_Ma, by decide +kernel⟩
theorem cy_Ma_countSets : CY y_Ma_countSets b_Ma_countSets 3 (some .int) 0 := ⟨kc_Ma_countSets, kz_Ma, by decide +kernel⟩
theorem cy_MT_like : CY y_MT_like b_MT_like 4 (some .int) 2 := ⟨kc_MT_like, kz_MT, by decide +kernel⟩
theorem cy_Ma_leastLike : CY y_Ma_leastLike b_Ma_leastLike 2 (some .int) 1 := ⟨kc_Ma_leastLike, kz_Ma, by decide +kernel⟩
theorem cy_MT_least : CY y_MT_least b_MT_least 8 (some .int) 1 := ⟨kc_MT_least, kz_MT, by decide +kernel⟩
theorem cy_MT_numberSets : CY y_MT_numberSets b_MT_numberSets 5 none 1 := ⟨kc_MT_numberSets, kz_MT, by decide +kernel⟩
theorem cy_Se_begin : CY y_Se_begin b_Se_begin 2 none 1 := ⟨kc_Se_begin, kz_Se, by decide +kernel⟩
theorem cy_Se_reach : CY y_Se_reach b_Se_reach 4 none 3 := ⟨kc_Se_reach, kz_Se, by decide +kernel⟩
theorem cy_Se_note : CY y_Se_note b_Se_note 3 (some .int) 2 := ⟨kc_Se_note, kz_Se, by decide +kernel⟩
theorem cy_Se_placeAt : CY y_Se_placeAt b_Se_placeAt 2 (some .int) 1 := ⟨kc_Se_placeAt, kz_Se, by decide +kernel⟩
theorem cy_Se_numberOf : CY y_Se_numberOf b_Se_numberOf 2 (some .int) 1 := ⟨kc_Se_numberOf, kz_Se, by decide +kernel⟩
theorem cy_MT_part : CY y_MT_part b_MT_part 4 (some .int) 2 := ⟨kc_MT_part, kz_MT, by decide +kernel⟩
theorem cy_MT_reset : CY y_MT_reset b_MT_reset 4 (some .int) 1 := ⟨kc_MT_reset, kz_MT, by decide +kernel⟩
theorem cy_MT_findSmall : CY y_MT_findSmall b_MT_findSmall 3 (some (.object "MachineTables$Machine")) 1 := ⟨kc_MT_findSmall, kz_MT, by decide +kernel⟩
theorem cy_MT_seekReset : CY y_MT_seekReset b_MT_seekReset 5 (some .int) 1 := ⟨kc_MT_seekReset, kz_MT, by decide +kernel⟩
theorem cy_In_bitCount : CY y_In_bitCount b_In_bitCount 1 (some .int) 1 := ⟨kc_In_bitCount, kz_In, by decide +kernel⟩
theorem cy_Ma_reachedFrom : CY y_Ma_reachedFrom b_Ma_reachedFrom 5 (some .int) 2 := ⟨kc_Ma_reachedFrom, kz_Ma, by decide +kernel⟩
theorem cy_MT_tell : CY y_MT_tell b_MT_tell 2 (some .int) 1 := ⟨kc_MT_tell, kz_MT, by decide +kernel⟩
theorem cy_Se_wordTo : CY y_Se_wordTo b_Se_wordTo 6 (some (.array .int)) 1 := ⟨kc_Se_wordTo, kz_Se, by decide +kernel⟩
theorem cy_MT_along : CY y_MT_along b_MT_along 6 (some .int) 2 := ⟨kc_MT_along, kz_MT, by decide +kernel⟩
theorem cy_MT_clear : CY y_MT_clear b_MT_clear 1 none 0 := ⟨kc_MT_clear, kz_MT, by decide +kernel⟩
theorem cy_MT_total : CY y_MT_total b_MT_total 4 (some .int) 1 := ⟨kc_MT_total, kz_MT, by decide +kernel⟩
theorem cy_MT_alike : CY y_MT_alike b_MT_alike 8 (some .boolean) 4 := ⟨kc_MT_alike, kz_MT, by decide +kernel⟩
theorem cy_MT_seekWitness : CY y_MT_seekWitness b_MT_seekWitness 9 (some .int) 4 := ⟨kc_MT_seekWitness, kz_MT, by decide +kernel⟩
theorem cy_MT_pairOf : CY y_MT_pairOf b_MT_pairOf 2 (some .int) 2 := ⟨kc_MT_pairOf, kz_MT, by decide +kernel⟩
theorem cy_MT_firstOf : CY y_MT_firstOf b_MT_firstOf 1 (some .int) 1 := ⟨kc_MT_firstOf, kz_MT, by decide +kernel⟩
theorem cy_MT_secondOf : CY y_MT_secondOf b_MT_secondOf 1 (some .int) 1 := ⟨kc_MT_secondOf, kz_MT, by decide +kernel⟩
theorem cy_MT_home : CY y_MT_home b_MT_home 4 (some .int) 1 := ⟨kc_MT_home, kz_MT, by decide +kernel⟩
theorem cy_MT_seekHomed : CY y_MT_seekHomed b_MT_seekHomed 5 (some .int) 1 := ⟨kc_MT_seekHomed, kz_MT, by decide +kernel⟩
theorem cy_Fa_begin : CY y_Fa_begin b_Fa_begin 4 none 1 := ⟨kc_Fa_begin, kz_Fa, by decide +kernel⟩
theorem cy_Fa_put : CY y_Fa_put b_Fa_put 4 none 1 := ⟨kc_Fa_put, kz_Fa, by decide +kernel⟩
theorem cy_Fa_liesInOne : CY y_Fa_liesInOne b_Fa_liesInOne 3 (some .boolean) 1 := ⟨kc_Fa_liesInOne, kz_Fa, by decide +kernel⟩
theorem cy_Fa_leaveOutThoseIn : CY y_Fa_leaveOutThoseIn b_Fa_leaveOutThoseIn 6 none 1 := ⟨kc_Fa_leaveOutThoseIn, kz_Fa, by decide +kernel⟩
theorem cy_Fa_openOneIsSingles : CY y_Fa_openOneIsSingles b_Fa_openOneIsSingles 2 (some .boolean) 0 := ⟨kc_Fa_openOneIsSingles, kz_Fa, by decide +kernel⟩
theorem cy_Fa_keepOpenOne : CY y_Fa_keepOpenOne b_Fa_keepOpenOne 1 none 0 := ⟨kc_Fa_keepOpenOne, kz_Fa, by decide +kernel⟩
theorem cy_Fa_follow : CY y_Fa_follow b_Fa_follow 5 none 3 := ⟨kc_Fa_follow, kz_Fa, by decide +kernel⟩
theorem cy_Fa_putParted : CY y_Fa_putParted b_Fa_putParted 5 none 3 := ⟨kc_Fa_putParted, kz_Fa, by decide +kernel⟩
theorem cy_Ar_fill2 : CY y_Ar_fill2 b_Ar_fill2 4 none 2 := ⟨kc_Ar_fill2, kz_Ar, by decide +kernel⟩
theorem cy_Fa_openOneIsKnown : CY y_Fa_openOneIsKnown b_Fa_openOneIsKnown 2 (some .boolean) 0 := ⟨kc_Fa_openOneIsKnown, kz_Fa, by decide +kernel⟩
theorem cy_Fa_openOneIs : CY y_Fa_openOneIs b_Fa_openOneIs 3 (some .boolean) 1 := ⟨kc_Fa_openOneIs, kz_Fa, by decide +kernel⟩
theorem cy_XA_init : CY y_XA_init b_XA_init 2 none 1 := ⟨kc_XA_init, kz_XA, by decide +kernel⟩
theorem cy_MT_chain : CY y_MT_chain b_MT_chain 11 (some .int) 2 := ⟨kc_MT_chain, kz_MT, by decide +kernel⟩
theorem cy_MT_numberPairs : CY y_MT_numberPairs b_MT_numberPairs 6 (some .boolean) 2 := ⟨kc_MT_numberPairs, kz_MT, by decide +kernel⟩
theorem cy_MT_pairBehind : CY y_MT_pairBehind b_MT_pairBehind 5 (some .int) 4 := ⟨kc_MT_pairBehind, kz_MT, by decide +kernel⟩
theorem cy_MT_letter : CY y_MT_letter b_MT_letter 2 (some .int) 1 := ⟨kc_MT_letter, kz_MT, by decide +kernel⟩
theorem cy_XN_init : CY y_XN_init b_XN_init 2 none 1 := ⟨kc_XN_init, kz_XN, by decide +kernel⟩
theorem cy_Mo_init : CY y_Mo_init b_Mo_init 1 none 0 := ⟨kc_Mo_init, kz_Mo, by decide +kernel⟩
theorem cy_Mo_thrown : CY y_Mo_thrown b_Mo_thrown 1 (some .int) 0 := ⟨kc_Mo_thrown, kz_Mo, by decide +kernel⟩
theorem cy_Mo_machine : CY y_Mo_machine b_Mo_machine 3 (some .int) 2 := ⟨kc_Mo_machine, kz_Mo, by decide +kernel⟩
theorem cy_Mo_in : CY y_Mo_in b_Mo_in 3 (some .boolean) 3 := ⟨kc_Mo_in, kz_Mo, by decide +kernel⟩
theorem cy_Mo_newMachine : CY y_Mo_newMachine b_Mo_newMachine 5 (some .int) 2 := ⟨kc_Mo_newMachine, kz_Mo, by decide +kernel⟩
theorem cy_Mo_arrow : CY y_Mo_arrow b_Mo_arrow 6 (some .boolean) 5 := ⟨kc_Mo_arrow, kz_Mo, by decide +kernel⟩
theorem cy_Mo_isState : CY y_Mo_isState b_Mo_isState 3 (some .boolean) 2 := ⟨kc_Mo_isState, kz_Mo, by decide +kernel⟩
theorem cy_Mo_isMachine : CY y_Mo_isMachine b_Mo_isMachine 2 (some .boolean) 1 := ⟨kc_Mo_isMachine, kz_Mo, by decide +kernel⟩
theorem cy_Mo_look : CY y_Mo_look b_Mo_look 5 (some .int) 4 := ⟨kc_Mo_look, kz_Mo, by decide +kernel⟩
theorem cy_Mo_classes : CY y_Mo_classes b_Mo_classes 4 (some .int) 1 := ⟨kc_Mo_classes, kz_Mo, by decide +kernel⟩
theorem cy_Mo_mark : CY y_Mo_mark b_Mo_mark 5 none 1 := ⟨kc_Mo_mark, kz_Mo, by decide +kernel⟩
theorem cy_Mo_isApart : CY y_Mo_isApart b_Mo_isApart 7 (some .boolean) 3 := ⟨kc_Mo_isApart, kz_Mo, by decide +kernel⟩
theorem cy_Mo_firstLike : CY y_Mo_firstLike b_Mo_firstLike 3 (some .int) 1 := ⟨kc_Mo_firstLike, kz_Mo, by decide +kernel⟩
theorem cy_Mo_like : CY y_Mo_like b_Mo_like 3 (some .int) 2 := ⟨kc_Mo_like, kz_Mo, by decide +kernel⟩
theorem cy_Mo_alike : CY y_Mo_alike b_Mo_alike 9 (some .boolean) 4 := ⟨kc_Mo_alike, kz_Mo, by decide +kernel⟩
theorem cy_Mo_begin : CY y_Mo_begin b_Mo_begin 3 none 1 := ⟨kc_Mo_begin, kz_Mo, by decide +kernel⟩
theorem cy_Mo_come : CY y_Mo_come b_Mo_come 4 none 3 := ⟨kc_Mo_come, kz_Mo, by decide +kernel⟩
theorem cy_Mo_tell : CY y_Mo_tell b_Mo_tell 5 none 2 := ⟨kc_Mo_tell, kz_Mo, by decide +kernel⟩
theorem cy_Mo_least : CY y_Mo_least b_Mo_least 5 (some .int) 1 := ⟨kc_Mo_least, kz_Mo, by decide +kernel⟩
theorem cy_Mo_findParts : CY y_Mo_findParts b_Mo_findParts 4 none 1 := ⟨kc_Mo_findParts, kz_Mo, by decide +kernel⟩
theorem cy_Mo_partOf : CY y_Mo_partOf b_Mo_partOf 4 (some .int) 1 := ⟨kc_Mo_partOf, kz_Mo, by decide +kernel⟩
theorem cy_Mo_part : CY y_Mo_part b_Mo_part 3 (some .int) 2 := ⟨kc_Mo_part, kz_Mo, by decide +kernel⟩
theorem cy_Mo_reset : CY y_Mo_reset b_Mo_reset 4 (some .int) 1 := ⟨kc_Mo_reset, kz_Mo, by decide +kernel⟩
theorem cy_Mo_ones : CY y_Mo_ones b_Mo_ones 3 (some .int) 1 := ⟨kc_Mo_ones, kz_Mo, by decide +kernel⟩
theorem cy_Mo_moved : CY y_Mo_moved b_Mo_moved 6 (some .int) 3 := ⟨kc_Mo_moved, kz_Mo, by decide +kernel⟩
theorem cy_Mo_home : CY y_Mo_home b_Mo_home 5 (some .int) 1 := ⟨kc_Mo_home, kz_Mo, by decide +kernel⟩
theorem cy_Mo_put : CY y_Mo_put b_Mo_put 6 none 2 := ⟨kc_Mo_put, kz_Mo, by decide +kernel⟩
theorem cy_Mo_isHome : CY y_Mo_isHome b_Mo_isHome 3 (some .boolean) 1 := ⟨kc_Mo_isHome, kz_Mo, by decide +kernel⟩
theorem cy_Mo_told : CY y_Mo_told b_Mo_told 4 (some .int) 1 := ⟨kc_Mo_told, kz_Mo, by decide +kernel⟩
theorem cy_Mo_lead : CY y_Mo_lead b_Mo_lead 10 none 4 := ⟨kc_Mo_lead, kz_Mo, by decide +kernel⟩
theorem cy_Mo_isTried : CY y_Mo_isTried b_Mo_isTried 5 (some .boolean) 1 := ⟨kc_Mo_isTried, kz_Mo, by decide +kernel⟩
theorem cy_Mo_raise : CY y_Mo_raise b_Mo_raise 1 (some .int) 0 := ⟨kc_Mo_raise, kz_Mo, by decide +kernel⟩
theorem cy_Mo_chain : CY y_Mo_chain b_Mo_chain 8 (some .int) 2 := ⟨kc_Mo_chain, kz_Mo, by decide +kernel⟩
theorem cy_Mo_chains : CY y_Mo_chains b_Mo_chains 6 (some .boolean) 2 := ⟨kc_Mo_chains, kz_Mo, by decide +kernel⟩
theorem cy_Mo_placeOf : CY y_Mo_placeOf b_Mo_placeOf 3 (some .int) 1 := ⟨kc_Mo_placeOf, kz_Mo, by decide +kernel⟩
theorem cy_Mo_letter : CY y_Mo_letter b_Mo_letter 2 (some .int) 1 := ⟨kc_Mo_letter, kz_Mo, by decide +kernel⟩
theorem cy_Mo_along : CY y_Mo_along b_Mo_along 5 (some .int) 2 := ⟨kc_Mo_along, kz_Mo, by decide +kernel⟩
theorem cy_Mo_clear : CY y_Mo_clear b_Mo_clear 1 none 0 := ⟨kc_Mo_clear, kz_Mo, by decide +kernel⟩
theorem cy_Mo_total : CY y_Mo_total b_Mo_total 2 (some .int) 1 := ⟨kc_Mo_total, kz_Mo, by decide +kernel⟩
end
section
/-! ===== numbers that are asked for ===== -/
/-- which of n places an int names -/
def ix (p : Int32) (n : Nat) : Option Nat := if 0 ≤ p.toInt ∧ p.toInt < (n : Int) then some p.toInt.toNat else none
theorem ix_nI {j n : Nat} (h : j < n) (hn : n < 2 ^ 31) : ix (nI j) n = some j := by
  have e : (nI j).toInt = (j : Int) := nI_toInt (by omega)
  unfold ix
  rw [e, if_pos (by omega)]
  rfl
theorem ix_neg {p : Int32} {n : Nat} (h : p < 0) : ix p n = none := by
  unfold ix
  rw [if_neg]
  intro q
  have : p.toInt < 0 := by have := Int32.lt_iff_toInt_lt.mp h; simpa using this
  omega
theorem ix_ge {p : Int32} {n : Nat} (hn : n < 2 ^ 31) (h : nI n ≤ p) : ix p n = none := by
  unfold ix
  rw [if_neg]
  intro q
  have h1 : (nI n).toInt ≤ p.toInt := Int32.le_iff_toInt_le.mp h
  rw [nI_toInt hn] at h1
  omega
theorem ix_some {p : Int32} {n j : Nat} (hn : n < 2 ^ 31) (h : ix p n = some j) : j < n ∧ p = nI j := by
  unfold ix at h
  split at h
  · rename_i q
    cases h
    obtain ⟨i, hi, e⟩ := vp_in_of (vp_in_iff.mpr q) hn
    subst e
    rw [nI_toInt (by omega)]
    exact ⟨by simpa using hi, by simp⟩
  · cases h
theorem ix_in {p : Int32} {n : Nat} (hn : n < 2 ^ 31) (h1 : ¬ p < 0) (h2 : ¬ nI n ≤ p) : ∃ j, ix p n = some j ∧ j < n ∧ p = nI j := by
  rcases pk_ix p hn with h | h | ⟨j, hj, e⟩
  · exact absurd h h1
  · exact absurd h h2
  · exact ⟨j, by rw [e]; exact ix_nI hj hn, hj, e⟩
theorem ix_cases (p : Int32) {n : Nat} (hn : n < 2 ^ 31) : (ix p n = none ∧ (p < 0 ∨ nI n ≤ p)) ∨ ∃ j, ix p n = some j ∧ j < n ∧ p = nI j := by
  rcases pk_ix p hn with h | h | ⟨j, hj, e⟩
  · exact Or.inl ⟨ix_neg h, Or.inl h⟩
  · exact Or.inl ⟨ix_ge hn h, Or.inr h⟩
  · exact Or.inr ⟨j, by rw [e]; exact ix_nI hj hn, hj, e⟩
theorem bI_t : bI true = 1 := rfl
theorem bI_f : bI false = 0 := rfl
theorem bI_0 (b : Bool) : bI b = 0 ↔ b = false := by cases b <;> decide
theorem nI_one : nI 1 = bI true := by decide
theorem nI_zer : nI 0 = bI false := by decide
theorem bI_nar (b : Bool) : narrow .boolean (.int (bI b)) = .int (bI b) := by cases b <;> rfl
theorem oI_none : oI none = -1 := rfl
theorem oI_some (k : Nat) : oI (some k) = nI k := rfl
theorem oI_m1 {o : Option Nat} (h : ∀ k, o = some k → k < 2 ^ 31) : oI o = -1 ↔ o = none := by
  cases o with
  | none => exact ⟨fun _ => rfl, fun _ => rfl⟩
  | some k =>
    refine ⟨fun e => ?_, fun e => by cases e⟩
    exact absurd (show nI k < 0 by rw [show nI k = -1 from e]; decide) (nI_pos (h k rfl))
/-- the masks' bits -/
theorem bit_or {a j : Nat} (ha : a < 2 ^ 12) (hj : j < 12) : nI a ||| (nI 1 <<< (nI j &&& 31)) = nI (a ||| 2 ^ j) := by
  have e : nI 1 <<< (nI j &&& 31) = nI (2 ^ j) := by
    have := pk_shlN (n := 1) (nI j &&& 31) j (by
      have : ∀ q, q < 12 → ((nI q &&& 31).toBitVec.smod 32).toNat = q := by decide
      exact this j hj) (by
      have : ∀ q, q < 12 → 1 * 2 ^ q < 2 ^ 32 := by decide
      exact this j hj)
    rw [Nat.one_mul] at this
    exact this
  rw [e]
  apply Int32.toBitVec_inj.mp
  apply BitVec.eq_of_toNat_eq
  have hb : 2 ^ j < 2 ^ 12 := Nat.pow_lt_pow_right (by decide) hj
  have hc : a ||| 2 ^ j < 2 ^ 12 := Nat.or_lt_two_pow ha hb
  rw [Int32.toBitVec_or, BitVec.toNat_or, pk_tn (by omega), pk_tn (by omega), pk_tn (by omega)]
theorem bit_shr {a j : Nat} (ha : a < 2 ^ 12) (hj : j < 12) : nI a >>> (nI j &&& 31) = nI (a / 2 ^ j) := pk_shrN (by omega) _ j (by
  have : ∀ q, q < 12 → ((nI q &&& 31).toBitVec.smod 32).toNat = q := by decide
  exact this j hj)
theorem bit_and1 (a : Nat) (ha : a < 2 ^ 31) : nI a &&& nI 1 = nI (a % 2) := pk_andN (by omega) 1 (by decide)
end
section
set_option maxHeartbeats 4000000 in
set_option maxRecDepth 100000 in
/-- whether there is such a number -/
theorem c_Ma_hasState {G : GT} {L : List Nat} {f : Nat → va_E} {w : Nat → Nat} {id : Nat} {A : Nat → Nat} {nx ou lo fi : Nat → Nat} {n k b : Nat} (hM : MaAt G L f w id A nx ou lo fi n k b) (hn : n < 2 ^ 31) (p : Int32) : Con G y_Ma_hasState (.code y_Ma_hasState b_Ma_hasState 2 (some .boolean) :: BIG) 0 0 0 0 [.ref (A 0), .int p] L f (fun v L' f' => v = some (.int (bI (ix p n).isSome)) ∧ L' = L ∧ f' = f) := by
  refine con_of (cc := b_Ma_hasState) (mL := 2) (lv := [some (.ref (A 0)), some (.int p)]) (by decide) (by intro w hw; simp at hw; rcases hw with rfl | rfl <;> rfl) (by first | exact Nat.le_of_ble_eq_true rfl | decide) rfl ?_
  intro x hx hr hin
  refine v_iload_n hx d_Ma_hasState_0 rfl rfl ?_
  refine v_if_lt (tgt := 16) hx d_Ma_hasState_1 (by decide) (fun c1 => ?_) (fun c1 => ?_)
  · refine v_iconst (v := (nI 0)) hx d_Ma_hasState_16 rfl ?_
    exact v_zret hx hr d_Ma_hasState_17 rfl ⟨by rw [ix_neg c1]; rfl, rfl, rfl⟩
  · refine v_iload_n hx d_Ma_hasState_4 rfl rfl ?_
    refine v_aload_n hx d_Ma_hasState_5 rfl rfl ?_
    refine v_get hx cf_Ma 4 (by decide) k_Ma_24 d_Ma_hasState_6 hM.m0 hM.f0 rfl ?_
    refine v_icmp_ge (tgt := 16) hx d_Ma_hasState_9 (by decide) (fun c9 => ?_) (fun c9 => ?_)
    · refine v_iconst (v := (nI 0)) hx d_Ma_hasState_16 rfl ?_
      exact v_zret hx hr d_Ma_hasState_17 rfl ⟨by rw [ix_ge hn c9]; rfl, rfl, rfl⟩
    · refine v_iconst (v := (nI 1)) hx d_Ma_hasState_12 rfl ?_
      refine v_goto (tgt := 17) hx d_Ma_hasState_13 (by decide) ?_
      exact v_zret hx hr d_Ma_hasState_17 rfl ⟨by obtain ⟨j, e, -, -⟩ := ix_in hn c1 c9; rw [e]; rfl, rfl, rfl⟩
set_option maxHeartbeats 4000000 in
set_option maxRecDepth 100000 in
/-- whether there is such a number -/
theorem c_Ma_hasInput {G : GT} {L : List Nat} {f : Nat → va_E} {w : Nat → Nat} {id : Nat} {A : Nat → Nat} {nx ou lo fi : Nat → Nat} {n k b : Nat} (hM : MaAt G L f w id A nx ou lo fi n k b) (hn : k < 2 ^ 31) (p : Int32) : Con G y_Ma_hasInput (.code y_Ma_hasInput b_Ma_hasInput 2 (some .boolean) :: BIG) 0 0 0 0 [.ref (A 0), .int p] L f (fun v L' f' => v = some (.int (bI (ix p k).isSome)) ∧ L' = L ∧ f' = f) := by
  refine con_of (cc := b_Ma_hasInput) (mL := 2) (lv := [some (.ref (A 0)), some (.int p)]) (by decide) (by intro w hw; simp at hw; rcases hw with rfl | rfl <;> rfl) (by first | exact Nat.le_of_ble_eq_true rfl | decide) rfl ?_
  intro x hx hr hin
  refine v_iload_n hx d_Ma_hasInput_0 rfl rfl ?_
  refine v_if_lt (tgt := 16) hx d_Ma_hasInput_1 (by decide) (fun c1 => ?_) (fun c1 => ?_)
  · refine v_iconst (v := (nI 0)) hx d_Ma_hasInput_16 rfl ?_
    exact v_zret hx hr d_Ma_hasInput_17 rfl ⟨by rw [ix_neg c1]; rfl, rfl, rfl⟩
  · refine v_iload_n hx d_Ma_hasInput_4 rfl rfl ?_
    refine v_aload_n hx d_Ma_hasInput_5 rfl rfl ?_
    refine v_get hx cf_Ma 5 (by decide) k_Ma_28 d_Ma_hasInput_6 hM.m0 hM.f0 rfl ?_
    refine v_icmp_ge (tgt := 16) hx d_Ma_hasInput_9 (by decide) (fun c9 => ?_) (fun c9 => ?_)
    · refine v_iconst (v := (nI 0)) hx d_Ma_hasInput_16 rfl ?_
      exact v_zret hx hr d_Ma_hasInput_17 rfl ⟨by rw [ix_ge hn c9]; rfl, rfl, rfl⟩
    · refine v_iconst (v := (nI 1)) hx d_Ma_hasInput_12 rfl ?_
      refine v_goto (tgt := 17) hx d_Ma_hasInput_13 (by decide) ?_
      exact v_zret hx hr d_Ma_hasInput_17 rfl ⟨by obtain ⟨j, e, -, -⟩ := ix_in hn c1 c9; rw [e]; rfl, rfl, rfl⟩
set_option maxHeartbeats 4000000 in
set_option maxRecDepth 100000 in
/-- an arrow's half -/
theorem c_Ma_nextOf {G : GT} {L : List Nat} {f : Nat → va_E} {w : Nat → Nat} {id : Nat} {A : Nat → Nat} {nx ou lo fi : Nat → Nat} {n k b : Nat} (hM : MaAt G L f w id A nx ou lo fi n k b) (s i : Nat) (hs : s < 40) (hi : i < 4) : Con G y_Ma_nextOf (.code y_Ma_nextOf b_Ma_nextOf 3 (some .int) :: BIG) 0 0 0 0 [.ref (A 0), .int (nI s), .int (nI i)] L f (fun v L' f' => v = some (.int (nI (nx (s * 4 + i)))) ∧ L' = L ∧ f' = f) := by
  refine con_of (cc := b_Ma_nextOf) (mL := 3) (lv := [some (.ref (A 0)), some (.int (nI s)), some (.int (nI i))]) (by decide) (by intro w hw; simp at hw; rcases hw with rfl | rfl | rfl <;> rfl) (by first | exact Nat.le_of_ble_eq_true rfl | decide) rfl ?_
  intro x hx hr hin
  refine v_aload_n hx d_Ma_nextOf_0 rfl rfl ?_
  refine v_get hx cf_Ma 0 (by decide) k_Ma_9 d_Ma_nextOf_1 hM.m0 hM.f0 rfl ?_
  refine v_iload_n hx d_Ma_nextOf_4 rfl rfl ?_
  refine v_iconst (v := (nI 4)) hx d_Ma_nextOf_5 rfl ?_
  refine n_imul hx d_Ma_nextOf_6 ?_
  refine v_iload_n hx d_Ma_nextOf_7 rfl rfl ?_
  refine n_iadd hx d_Ma_nextOf_8 ?_
  refine n_iald hx d_Ma_nextOf_9 hM.m1 hM.f1 (by omega) (by decide) ?_
  exact v_iret hx hr d_Ma_nextOf_10 ⟨rfl, rfl, rfl⟩
set_option maxHeartbeats 4000000 in
set_option maxRecDepth 100000 in
/-- an arrow's half -/
theorem c_Ma_outputOf {G : GT} {L : List Nat} {f : Nat → va_E} {w : Nat → Nat} {id : Nat} {A : Nat → Nat} {nx ou lo fi : Nat → Nat} {n k b : Nat} (hM : MaAt G L f w id A nx ou lo fi n k b) (s i : Nat) (hs : s < 40) (hi : i < 4) : Con G y_Ma_outputOf (.code y_Ma_outputOf b_Ma_outputOf 3 (some .int) :: BIG) 0 0 0 0 [.ref (A 0), .int (nI s), .int (nI i)] L f (fun v L' f' => v = some (.int (nI (ou (s * 4 + i)))) ∧ L' = L ∧ f' = f) := by
  refine con_of (cc := b_Ma_outputOf) (mL := 3) (lv := [some (.ref (A 0)), some (.int (nI s)), some (.int (nI i))]) (by decide) (by intro w hw; simp at hw; rcases hw with rfl | rfl | rfl <;> rfl) (by first | exact Nat.le_of_ble_eq_true rfl | decide) rfl ?_
  intro x hx hr hin
  refine v_aload_n hx d_Ma_outputOf_0 rfl rfl ?_
  refine v_get hx cf_Ma 1 (by decide) k_Ma_15 d_Ma_outputOf_1 hM.m0 hM.f0 rfl ?_
  refine v_iload_n hx d_Ma_outputOf_4 rfl rfl ?_
  refine v_iconst (v := (nI 4)) hx d_Ma_outputOf_5 rfl ?_
  refine n_imul hx d_Ma_outputOf_6 ?_
  refine v_iload_n hx d_Ma_outputOf_7 rfl rfl ?_
  refine n_iadd hx d_Ma_outputOf_8 ?_
  refine n_iald hx d_Ma_outputOf_9 hM.m2 hM.f2 (by omega) (by decide) ?_
  exact v_iret hx hr d_Ma_outputOf_10 ⟨rfl, rfl, rfl⟩
set_option maxHeartbeats 4000000 in
set_option maxRecDepth 100000 in
/-- the least that is like -/
theorem c_Ma_leastLike {G : GT} {L : List Nat} {f : Nat → va_E} {w : Nat → Nat} {id : Nat} {A : Nat → Nat} {nx ou lo fi : Nat → Nat} {n k b : Nat} (hM : MaAt G L f w id A nx ou lo fi n k b) (s : Nat) (hs : s < 40) : Con G y_Ma_leastLike (.code y_Ma_leastLike b_Ma_leastLike 2 (some .int) :: BIG) 0 0 0 0 [.ref (A 0), .int (nI s)] L f (fun v L' f' => v = some (.int (nI (lo s))) ∧ L' = L ∧ f' = f) := by
  refine con_of (cc := b_Ma_leastLike) (mL := 2) (lv := [some (.ref (A 0)), some (.int (nI s))]) (by decide) (by intro w hw; simp at hw; rcases hw with rfl | rfl <;> rfl) (by first | exact Nat.le_of_ble_eq_true rfl | decide) rfl ?_
  intro x hx hr hin
  refine v_aload_n hx d_Ma_leastLike_0 rfl rfl ?_
  refine v_get hx cf_Ma 2 (by decide) k_Ma_18 d_Ma_leastLike_1 hM.m0 hM.f0 rfl ?_
  refine v_iload_n hx d_Ma_leastLike_4 rfl rfl ?_
  refine n_iald hx d_Ma_leastLike_5 hM.m3 hM.f3 (by omega) (by decide) ?_
  exact v_iret hx hr d_Ma_leastLike_6 ⟨rfl, rfl, rfl⟩
set_option maxHeartbeats 4000000 in
set_option maxRecDepth 100000 in
/-- one arrow is written; nothing is settled then -/
theorem c_Ma_setArrow {G : GT} {L : List Nat} {f : Nat → va_E} {w : Nat → Nat} {id : Nat} {A : Nat → Nat} {nx ou lo fi : Nat → Nat} {n k b : Nat} (hM : MaAt G L f w id A nx ou lo fi n k b) (s i t o : Nat) (hs : s < 40) (hi : i < 4) : Con G y_Ma_setArrow (.code y_Ma_setArrow b_Ma_setArrow 5 none :: BIG) 0 0 0 0 [.ref (A 0), .int (nI s), .int (nI i), .int (nI t), .int (nI o)] L f (fun v L' f' => v = none ∧ L' = L ∧ MaAt G L f' w id A (va_up nx (s * 4 + i) t) (va_up ou (s * 4 + i) o) lo fi n k 0 ∧ gF w id f f') := by
  refine con_of (cc := b_Ma_setArrow) (mL := 5) (lv := [some (.ref (A 0)), some (.int (nI s)), some (.int (nI i)), some (.int (nI t)), some (.int (nI o))]) (by decide) (by intro w hw; simp at hw; rcases hw with rfl | rfl | rfl | rfl | rfl <;> rfl) (by first | exact Nat.le_of_ble_eq_true rfl | decide) rfl ?_
  intro x hx hr hin
  refine v_aload_n hx d_Ma_setArrow_0 rfl rfl ?_
  refine v_get hx cf_Ma 0 (by decide) k_Ma_9 d_Ma_setArrow_1 hM.m0 hM.f0 rfl ?_
  refine v_iload_n hx d_Ma_setArrow_4 rfl rfl ?_
  refine v_iconst (v := (nI 4)) hx d_Ma_setArrow_5 rfl ?_
  refine n_imul hx d_Ma_setArrow_6 ?_
  refine v_iload_n hx d_Ma_setArrow_7 rfl rfl ?_
  refine n_iadd hx d_Ma_setArrow_8 ?_
  refine v_iload_n hx d_Ma_setArrow_9 rfl rfl ?_
  refine nn_iast hx d_Ma_setArrow_10 hM.m1 hM.f1 (by omega) (by decide) (fun f1 hf1 => ?_)
  have hF := gF.up (gF.rf (w := w) (id := id) (f := f)) hf1 hM.o1
  have hM := hM.up1 hf1
  refine v_aload_n hx d_Ma_setArrow_11 rfl rfl ?_
  refine v_get hx cf_Ma 1 (by decide) k_Ma_15 d_Ma_setArrow_12 hM.m0 hM.f0 rfl ?_
  refine v_iload_n hx d_Ma_setArrow_15 rfl rfl ?_
  refine v_iconst (v := (nI 4)) hx d_Ma_setArrow_16 rfl ?_
  refine n_imul hx d_Ma_setArrow_17 ?_
  refine v_iload_n hx d_Ma_setArrow_18 rfl rfl ?_
  refine n_iadd hx d_Ma_setArrow_19 ?_
  refine v_iload hx d_Ma_setArrow_20 rfl ?_
  refine nn_iast hx d_Ma_setArrow_22 hM.m2 hM.f2 (by omega) (by decide) (fun f2 hf2 => ?_)
  have hF := hF.up hf2 hM.o2
  have hM := hM.up2 hf2
  refine v_aload_n hx d_Ma_setArrow_23 rfl rfl ?_
  refine v_iconst (v := (nI 0)) hx d_Ma_setArrow_24 rfl ?_
  refine v_put hx cf_Ma 6 (by decide) k_Ma_35 rfl rfl rfl d_Ma_setArrow_25 hM.m0 hM.f0 (Nat.le_of_ble_eq_true rfl) (fun f3 hf3 => ?_)
  have hF := hF.up hf3 hM.o0
  have hM := hM.up0 hf3
  exact v_vret hx hr d_Ma_setArrow_28 ⟨rfl, rfl, hM, hF⟩
end
section
def fil (h : Nat → Int32) (a i : Nat) (v : Int32) : Nat → Int32 := fun j => if a ≤ j ∧ j < i then v else h j
theorem fil_0 (h : Nat → Int32) (a : Nat) (v : Int32) : fil h a a v = h := by
  funext j
  simp only [fil]
  rw [if_neg (by omega)]
theorem fil_s (h : Nat → Int32) {a i : Nat} (hi : a ≤ i) (v : Int32) : upd (fil h a i v) i v = fil h a (i + 1) v := by
  funext j
  simp only [fil, upd]
  split
  · rename_i e; subst e; rw [if_pos (by omega)]
  · split
    · rw [if_pos (by omega)]
    · rw [if_neg (by omega)]
set_option maxHeartbeats 4000000 in
set_option maxRecDepth 100000 in
/-- nothing is wrong -/
theorem c_Ar_rangeCheck {G : GT} {L : List Nat} {f : Nat → va_E} (N a b : Nat) (hN : N < 2 ^ 31) (h1 : a ≤ b) (h2 : b ≤ N) : Con G y_Ar_rangeCheck (.code y_Ar_rangeCheck b_Ar_rangeCheck 3 none :: BIG) 0 0 0 0 [.int (nI N), .int (nI a), .int (nI b)] L f (fun v L' f' => v = none ∧ L' = L ∧ f' = f) := by
  refine con_of (cc := b_Ar_rangeCheck) (mL := 3) (lv := [some (.int (nI N)), some (.int (nI a)), some (.int (nI b))]) (by decide) (by intro w hw; simp at hw; rcases hw with rfl | rfl | rfl <;> rfl) (by first | exact Nat.le_of_ble_eq_true rfl | decide) rfl ?_
  intro x hx hr hin
  refine v_iload_n hx d_Ar_rangeCheck_0 rfl rfl ?_
  refine v_iload_n hx d_Ar_rangeCheck_1 rfl rfl ?_
  refine n_icmp_le (tgt := 46) hx d_Ar_rangeCheck_2 (by decide) (by omega) (by omega) (fun c2 => ?_) (fun c2 => ?_)
  · refine v_iload_n hx d_Ar_rangeCheck_46 rfl rfl ?_
    refine n_if_ge (tgt := 59) hx d_Ar_rangeCheck_47 (by decide) (by omega) ?_
    refine v_iload_n hx d_Ar_rangeCheck_59 rfl rfl ?_
    refine v_iload_n hx d_Ar_rangeCheck_60 rfl rfl ?_
    refine n_icmp_le (tgt := 73) hx d_Ar_rangeCheck_61 (by decide) (by omega) (by omega) (fun c61 => ?_) (fun c61 => ?_)
    · exact v_vret hx hr d_Ar_rangeCheck_73 ⟨rfl, rfl, rfl⟩
    · exact absurd h2 (by omega)
  · exact absurd h1 (by omega)
set_option maxHeartbeats 4000000 in
set_option maxRecDepth 100000 in
theorem lp_Ar_fill {G : GT} {L : List Nat} {f : Nat → va_E} {x : XT} (hx : KX G 5 x b_Ar_fill R_Ar) {p N : Nat} {h : Nat → Int32} (hp : p ∈ L) (hN : N < 2 ^ 31) (a b : Nat) (v : Int32) (h1 : a ≤ b) (h2 : b ≤ N) (hk : V G { frames := 1, cells := 0, slots := 0, locals := 22 } 5 x L (va_up f p (.inl (G.2.2.1 0, N, .inl (fil h a b v)))) 0 0 [some (.ref p), some (.int (nI a)), some (.int (nI b)), some (.int v), some (.int (nI b))] 27 []) : ∀ m i : Nat, b - i < m → a ≤ i → i ≤ b → V G { frames := 1, cells := 0, slots := 0, locals := 22 } 5 x L (va_up f p (.inl (G.2.2.1 0, N, .inl (fil h a i v)))) 0 0 [some (.ref p), some (.int (nI a)), some (.int (nI b)), some (.int v), some (.int (nI i))] 10 [] := by
  intro m
  induction m with
  | zero => intro i hm; exact absurd hm (by omega)
  | succ m ih =>
    intro i hm ha hb
    refine v_iload hx d_Ar_fill_10 rfl ?_
    refine v_iload_n hx d_Ar_fill_12 rfl rfl ?_
    refine n_icmp_ge (tgt := 27) hx d_Ar_fill_13 (by decide) (by omega) (by omega) (fun c13 => ?_) (fun c13 => ?_)
    · have e : i = b := by omega
      subst e
      exact hk
    · refine v_aload_n hx d_Ar_fill_16 rfl rfl ?_
      refine v_iload hx d_Ar_fill_17 rfl ?_
      refine v_iload_n hx d_Ar_fill_19 rfl rfl ?_
      refine nr_iast hx d_Ar_fill_20 hp (va_up_self _ _ _) (by omega) hN (fun f1 hf1 => ?_)
      rw [bx_uu, fil_s h ha v] at hf1
      rw [hf1]
      refine n_iinc (lv' := [some (.ref p), some (.int (nI a)), some (.int (nI b)), some (.int v), some (.int (nI (i + 1)))]) hx d_Ar_fill_21 rfl (by decide) rfl ?_
      refine v_goto (tgt := 10) hx d_Ar_fill_24 (by decide) ?_
      exact ih (i + 1) (by omega) (by omega) (by omega)
set_option maxHeartbeats 4000000 in
set_option maxRecDepth 100000 in
/-- a stretch is filled -/
theorem c_Ar_fill {G : GT} {L : List Nat} {f : Nat → va_E} {p N : Nat} {h : Nat → Int32} (hp : p ∈ L) (hf : f p = .inl (G.2.2.1 0, N, .inl h)) (hN : N < 2 ^ 31) (a b : Nat) (v : Int32) (h1 : a ≤ b) (h2 : b ≤ N) : Con G y_Ar_fill (.code y_Ar_fill b_Ar_fill 5 none :: BIG) 1 22 0 0 [.ref p, .int (nI a), .int (nI b), .int v] L f (fun w L' f' => w = none ∧ L' = L ∧ f' = va_up f p (.inl (G.2.2.1 0, N, .inl (fil h a b v)))) := by
  refine con_of (cc := b_Ar_fill) (mL := 5) (lv := [some (.ref p), some (.int (nI a)), some (.int (nI b)), some (.int v), none]) (by decide) (by intro w hw; simp at hw; rcases hw with rfl | rfl | rfl | rfl <;> rfl) (by first | exact Nat.le_of_ble_eq_true rfl | decide) rfl ?_
  intro x hx hr hin
  refine v_aload_n hx d_Ar_fill_0 rfl rfl ?_
  refine v_alen hx d_Ar_fill_1 hp hf ?_
  refine v_iload_n hx d_Ar_fill_2 rfl rfl ?_
  refine v_iload_n hx d_Ar_fill_3 rfl rfl ?_
  refine v_callS (as := [.int (nI N), .int (nI a), .int (nI b)]) hx (c_Ar_rangeCheck N a b hN h1 h2) cy_Ar_rangeCheck k_Ar_13 ks_Ar_rangeCheck d_Ar_fill_4 (by decide) (by decide) rfl rfl (by decide) (fun v1 L f p1 => ?_)
  obtain ⟨rfl, rfl, rfl⟩ := p1
  refine v_iload_n hx d_Ar_fill_7 rfl rfl ?_
  refine v_istore (lv' := [some (.ref p), some (.int (nI a)), some (.int (nI b)), some (.int v), some (.int (nI a))]) hx d_Ar_fill_8 (by decide) rfl ?_
  have e : va_up f p (.inl (G.2.2.1 0, N, .inl (fil h a a v))) = f := by rw [fil_0, ← hf]; exact up_same f p
  have q := lp_Ar_fill (f := f) (h := h) hx hp hN a b v h1 h2 (v_vret hx hr d_Ar_fill_27 ⟨rfl, rfl, rfl⟩) (b - a + 1) a (by omega) (Nat.le_refl _) (by omega)
  rw [e] at q
  exact q
set_option maxHeartbeats 4000000 in
set_option maxRecDepth 100000 in
theorem lp_Ar_fill2 {G : GT} {L : List Nat} {f : Nat → va_E} {x : XT} (hx : KX G 4 x b_Ar_fill2 R_Ar) {p N : Nat} {h : Nat → Int32} (hp : p ∈ L) (hN : N < 2 ^ 31) (b : Nat) (v : Int32) (h1 : 0 ≤ b) (h2 : b ≤ N) (hk : V G { frames := 0, cells := 0, slots := 0, locals := 0 } 4 x L (va_up f p (.inl (G.2.2.1 0, N, .inl (fil h 0 b v)))) 0 0 [some (.ref p), some (.int v), some (.int (nI b)), some (.int (nI b))] 20 []) : ∀ m i : Nat, b - i < m → 0 ≤ i → i ≤ b → V G { frames := 0, cells := 0, slots := 0, locals := 0 } 4 x L (va_up f p (.inl (G.2.2.1 0, N, .inl (fil h 0 i v)))) 0 0 [some (.ref p), some (.int v), some (.int (nI i)), some (.int (nI b))] 5 [] := by
  intro m
  induction m with
  | zero => intro i hm; exact absurd hm (by omega)
  | succ m ih =>
    intro i hm ha hb
    refine v_iload_n hx d_Ar_fill2_5 rfl rfl ?_
    refine v_iload_n hx d_Ar_fill2_6 rfl rfl ?_
    refine n_icmp_ge (tgt := 20) hx d_Ar_fill2_7 (by decide) (by omega) (by omega) (fun c7 => ?_) (fun c7 => ?_)
    · have e : i = b := by omega
      subst e
      exact hk
    · refine v_aload_n hx d_Ar_fill2_10 rfl rfl ?_
      refine v_iload_n hx d_Ar_fill2_11 rfl rfl ?_
      refine v_iload_n hx d_Ar_fill2_12 rfl rfl ?_
      refine nr_iast hx d_Ar_fill2_13 hp (va_up_self _ _ _) (by omega) hN (fun f1 hf1 => ?_)
      rw [bx_uu, fil_s h ha v] at hf1
      rw [hf1]
      refine n_iinc (lv' := [some (.ref p), some (.int v), some (.int (nI (i + 1))), some (.int (nI b))]) hx d_Ar_fill2_14 rfl (by decide) rfl ?_
      refine v_goto (tgt := 5) hx d_Ar_fill2_17 (by decide) ?_
      exact ih (i + 1) (by omega) (by omega) (by omega)
set_option maxHeartbeats 4000000 in
set_option maxRecDepth 100000 in
/-- a stretch is filled -/
theorem c_Ar_fill2 {G : GT} {L : List Nat} {f : Nat → va_E} {p N : Nat} {h : Nat → Int32} (hp : p ∈ L) (hf : f p = .inl (G.2.2.1 0, N, .inl h)) (hN : N < 2 ^ 31) (v : Int32) : Con G y_Ar_fill2 (.code y_Ar_fill2 b_Ar_fill2 4 none :: BIG) 0 0 0 0 [.ref p, .int v] L f (fun w L' f' => w = none ∧ L' = L ∧ f' = va_up f p (.inl (G.2.2.1 0, N, .inl (fil h 0 N v)))) := by
  refine con_of (cc := b_Ar_fill2) (mL := 4) (lv := [some (.ref p), some (.int v), none, none]) (by decide) (by intro w hw; simp at hw; rcases hw with rfl | rfl <;> rfl) (by first | exact Nat.le_of_ble_eq_true rfl | decide) rfl ?_
  intro x hx hr hin
  refine v_iconst (v := (nI 0)) hx d_Ar_fill2_0 rfl ?_
  refine v_istore_n (lv' := [some (.ref p), some (.int v), some (.int (nI 0)), none]) hx d_Ar_fill2_1 rfl (by decide) rfl ?_
  refine v_aload_n hx d_Ar_fill2_2 rfl rfl ?_
  refine v_alen hx d_Ar_fill2_3 hp hf ?_
  refine v_istore_n (lv' := [some (.ref p), some (.int v), some (.int (nI 0)), some (.int (nI N))]) hx d_Ar_fill2_4 rfl (by decide) rfl ?_
  have e : va_up f p (.inl (G.2.2.1 0, N, .inl (fil h 0 0 v))) = f := by rw [fil_0, ← hf]; exact up_same f p
  have q := lp_Ar_fill2 (f := f) (h := h) hx hp hN N v (Nat.zero_le _) (Nat.le_refl _) (v_vret hx hr d_Ar_fill2_20 ⟨rfl, rfl, rfl⟩) (N - 0 + 1) 0 (by omega) (Nat.le_refl _) (by omega)
  rw [e] at q
  exact q
end
section
/-! ===== what Machine's loops compute ===== -/
/-- the bits that one comes to from the bits of S below s -/
def mv (g : Nat → Nat) (S : Nat) : Nat → Nat
  | 0 => 0
  | s + 1 => if S / 2 ^ s % 2 = 1 then mv g S s ||| 2 ^ g s else mv g S s
theorem mv_lt {g : Nat → Nat} {S n : Nat} (h : ∀ s, s < n → g s < 12) : ∀ s, s ≤ n → mv g S s < 2 ^ 12
  | 0, _ => by simp [mv]
  | s + 1, hs => by
    have h1 := mv_lt (S := S) h s (by omega)
    simp only [mv]
    split
    · exact Nat.or_lt_two_pow h1 (Nat.pow_lt_pow_right (by decide) (h s (by omega)))
    · exact h1
theorem mv_congr {g g' : Nat → Nat} {S n : Nat} (h : ∀ s, s < n → g s = g' s) : ∀ s, s ≤ n → mv g S s = mv g' S s
  | 0, _ => rfl
  | s + 1, hs => by simp only [mv]; rw [mv_congr h s (by omega), h s (by omega)]
/-- how many of the first s are their own least ones -/
def cn (lo : Nat → Nat) : Nat → Nat
  | 0 => 0
  | s + 1 => if lo s = s then cn lo s + 1 else cn lo s
theorem cn_le (lo : Nat → Nat) : ∀ s, cn lo s ≤ s
  | 0 => Nat.le_refl _
  | s + 1 => by have := cn_le lo s; simp only [cn]; split <;> omega
theorem cn_congr {lo lo' : Nat → Nat} : ∀ {n : Nat}, (∀ s, s < n → lo s = lo' s) → cn lo n = cn lo' n
  | 0, _ => rfl
  | n + 1, h => by simp only [cn]; rw [h n (by omega), cn_congr (fun s hs => h s (by omega))]
/-- one step more tells nothing: the outputs agree and the next ones have the same least one -/
def agr (lo nx ou : Nat → Nat) (k a b : Nat) : Prop := lo a = lo b ∧ ∀ i, i < k → ou (a * 4 + i) = ou (b * 4 + i) ∧ lo (nx (a * 4 + i)) = lo (nx (b * 4 + i))
theorem agr.rf {lo nx ou : Nat → Nat} {k a : Nat} : agr lo nx ou k a a := ⟨rfl, fun _ _ => ⟨rfl, rfl⟩⟩
theorem agr.sym {lo nx ou : Nat → Nat} {k a b : Nat} (h : agr lo nx ou k a b) : agr lo nx ou k b a := ⟨h.1.symm, fun i hi => ⟨(h.2 i hi).1.symm, (h.2 i hi).2.symm⟩⟩
theorem agr.tr {lo nx ou : Nat → Nat} {k a b c : Nat} (h : agr lo nx ou k a b) (h2 : agr lo nx ou k b c) : agr lo nx ou k a c := ⟨h.1.trans h2.1, fun i hi => ⟨(h.2 i hi).1.trans (h2.2 i hi).1, (h.2 i hi).2.trans (h2.2 i hi).2⟩⟩
/-- z is the least one up to s that agrees with s -/
def lag (lo nx ou : Nat → Nat) (k s z : Nat) : Prop := z ≤ s ∧ agr lo nx ou k z s ∧ ∀ o, o < z → ¬ agr lo nx ou k o s
theorem lag.uniq {lo nx ou : Nat → Nat} {k s y z : Nat} (h : lag lo nx ou k s y) (h2 : lag lo nx ou k s z) : y = z := by
  rcases Nat.lt_trichotomy y z with e | e | e
  · exact absurd h.2.1 (h2.2.2 y e)
  · exact e
  · exact absurd h2.2.1 (h.2.2 z e)
/-- what is known of a machine's arrows: next ones are states, outputs below 10 -/
def okA (nx ou : Nat → Nat) (n k : Nat) : Prop := 1 ≤ n ∧ n ≤ 40 ∧ 1 ≤ k ∧ k ≤ 4 ∧ ∀ s i, s < n → i < k → nx (s * 4 + i) < n ∧ ou (s * 4 + i) < 10
/-- ones among the first bits -/
def pcn (S : Nat) : Nat → Nat
  | 0 => 0
  | k + 1 => pcn S k + S / 2 ^ k % 2
end
section
def bcX (S : Nat) : Int32 := ((((((((nI S) - (((((nI S)).toUInt32 >>> (((nI 1)).toUInt32 &&& Int32.toUInt32 31)).toInt32) &&& (1431655765))) &&& (858993459)) + ((((((nI S) - (((((nI S)).toUInt32 >>> (((nI 1)).toUInt32 &&& Int32.toUInt32 31)).toInt32) &&& (1431655765)))).toUInt32 >>> (((nI 2)).toUInt32 &&& Int32.toUInt32 31)).toInt32) &&& (858993459))) + (((((((nI S) - (((((nI S)).toUInt32 >>> (((nI 1)).toUInt32 &&& Int32.toUInt32 31)).toInt32) &&& (1431655765))) &&& (858993459)) + ((((((nI S) - (((((nI S)).toUInt32 >>> (((nI 1)).toUInt32 &&& Int32.toUInt32 31)).toInt32) &&& (1431655765)))).toUInt32 >>> (((nI 2)).toUInt32 &&& Int32.toUInt32 31)).toInt32) &&& (858993459)))).toUInt32 >>> (((nI 4)).toUInt32 &&& Int32.toUInt32 31)).toInt32)) &&& (252645135)) + (((((((((nI S) - (((((nI S)).toUInt32 >>> (((nI 1)).toUInt32 &&& Int32.toUInt32 31)).toInt32) &&& (1431655765))) &&& (858993459)) + ((((((nI S) - (((((nI S)).toUInt32 >>> (((nI 1)).toUInt32 &&& Int32.toUInt32 31)).toInt32) &&& (1431655765)))).toUInt32 >>> (((nI 2)).toUInt32 &&& Int32.toUInt32 31)).toInt32) &&& (858993459))) + (((((((nI S) - (((((nI S)).toUInt32 >>> (((nI 1)).toUInt32 &&& Int32.toUInt32 31)).toInt32) &&& (1431655765))) &&& (858993459)) + ((((((nI S) - (((((nI S)).toUInt32 >>> (((nI 1)).toUInt32 &&& Int32.toUInt32 31)).toInt32) &&& (1431655765)))).toUInt32 >>> (((nI 2)).toUInt32 &&& Int32.toUInt32 31)).toInt32) &&& (858993459)))).toUInt32 >>> (((nI 4)).toUInt32 &&& Int32.toUInt32 31)).toInt32)) &&& (252645135))).toUInt32 >>> (((nI 8)).toUInt32 &&& Int32.toUInt32 31)).toInt32)) + ((((((((((nI S) - (((((nI S)).toUInt32 >>> (((nI 1)).toUInt32 &&& Int32.toUInt32 31)).toInt32) &&& (1431655765))) &&& (858993459)) + ((((((nI S) - (((((nI S)).toUInt32 >>> (((nI 1)).toUInt32 &&& Int32.toUInt32 31)).toInt32) &&& (1431655765)))).toUInt32 >>> (((nI 2)).toUInt32 &&& Int32.toUInt32 31)).toInt32) &&& (858993459))) + (((((((nI S) - (((((nI S)).toUInt32 >>> (((nI 1)).toUInt32 &&& Int32.toUInt32 31)).toInt32) &&& (1431655765))) &&& (858993459)) + ((((((nI S) - (((((nI S)).toUInt32 >>> (((nI 1)).toUInt32 &&& Int32.toUInt32 31)).toInt32) &&& (1431655765)))).toUInt32 >>> (((nI 2)).toUInt32 &&& Int32.toUInt32 31)).toInt32) &&& (858993459)))).toUInt32 >>> (((nI 4)).toUInt32 &&& Int32.toUInt32 31)).toInt32)) &&& (252645135)) + (((((((((nI S) - (((((nI S)).toUInt32 >>> (((nI 1)).toUInt32 &&& Int32.toUInt32 31)).toInt32) &&& (1431655765))) &&& (858993459)) + ((((((nI S) - (((((nI S)).toUInt32 >>> (((nI 1)).toUInt32 &&& Int32.toUInt32 31)).toInt32) &&& (1431655765)))).toUInt32 >>> (((nI 2)).toUInt32 &&& Int32.toUInt32 31)).toInt32) &&& (858993459))) + (((((((nI S) - (((((nI S)).toUInt32 >>> (((nI 1)).toUInt32 &&& Int32.toUInt32 31)).toInt32) &&& (1431655765))) &&& (858993459)) + ((((((nI S) - (((((nI S)).toUInt32 >>> (((nI 1)).toUInt32 &&& Int32.toUInt32 31)).toInt32) &&& (1431655765)))).toUInt32 >>> (((nI 2)).toUInt32 &&& Int32.toUInt32 31)).toInt32) &&& (858993459)))).toUInt32 >>> (((nI 4)).toUInt32 &&& Int32.toUInt32 31)).toInt32)) &&& (252645135))).toUInt32 >>> (((nI 8)).toUInt32 &&& Int32.toUInt32 31)).toInt32))).toUInt32 >>> (((nI 16)).toUInt32 &&& Int32.toUInt32 31)).toInt32)) &&& (nI 63)
set_option maxRecDepth 100000 in
theorem bitc0 : ∀ a, a < 64 → ∀ b, b < 64 → bcX (64 * a + b) = nI (pcn (64 * a + b) 12) := by decide +kernel
theorem bitc (S : Nat) (h : S < 4096) : bcX S = nI (pcn S 12) := by
  have q := bitc0 (S / 64) (by omega) (S % 64) (by omega)
  rw [show 64 * (S / 64) + S % 64 = S by omega] at q
  exact q
set_option maxHeartbeats 4000000 in
set_option maxRecDepth 100000 in
/-- how many ones -/
theorem c_In_bitCount {G : GT} {L : List Nat} {f : Nat → va_E} (S : Nat) (hS : S < 4096) : Con G y_In_bitCount (.code y_In_bitCount b_In_bitCount 1 (some .int) :: BIG) 0 0 0 0 [.int (nI S)] L f (fun v L' f' => v = some (.int (nI (pcn S 12))) ∧ L' = L ∧ f' = f) := by
  refine con_of (cc := b_In_bitCount) (mL := 1) (lv := [some (.int (nI S))]) (by decide) (by intro w hw; simp at hw; rcases hw with rfl <;> rfl) (by first | exact Nat.le_of_ble_eq_true rfl | decide) rfl ?_
  intro x hx hr hin
  refine v_iload_n hx d_In_bitCount_0 rfl rfl ?_
  refine v_iload_n hx d_In_bitCount_1 rfl rfl ?_
  refine v_iconst (v := (nI 1)) hx d_In_bitCount_2 rfl ?_
  refine v_iushr hx d_In_bitCount_3 rfl ?_
  refine v_ldcw hx k_In_265 d_In_bitCount_4 ?_
  refine v_iand hx d_In_bitCount_7 rfl ?_
  refine v_isub hx d_In_bitCount_8 rfl ?_
  refine v_istore_n (lv' := [some (.int ((nI S) - (((((nI S)).toUInt32 >>> (((nI 1)).toUInt32 &&& Int32.toUInt32 31)).toInt32) &&& (1431655765))))]) hx d_In_bitCount_9 rfl (by decide) rfl ?_
  refine v_iload_n hx d_In_bitCount_10 rfl rfl ?_
  refine v_ldcw hx k_In_266 d_In_bitCount_11 ?_
  refine v_iand hx d_In_bitCount_14 rfl ?_
  refine v_iload_n hx d_In_bitCount_15 rfl rfl ?_
  refine v_iconst (v := (nI 2)) hx d_In_bitCount_16 rfl ?_
  refine v_iushr hx d_In_bitCount_17 rfl ?_
  refine v_ldcw hx k_In_266 d_In_bitCount_18 ?_
  refine v_iand hx d_In_bitCount_21 rfl ?_
  refine v_iadd hx d_In_bitCount_22 rfl ?_
  refine v_istore_n (lv' := [some (.int ((((nI S) - (((((nI S)).toUInt32 >>> (((nI 1)).toUInt32 &&& Int32.toUInt32 31)).toInt32) &&& (1431655765))) &&& (858993459)) + ((((((nI S) - (((((nI S)).toUInt32 >>> (((nI 1)).toUInt32 &&& Int32.toUInt32 31)).toInt32) &&& (1431655765)))).toUInt32 >>> (((nI 2)).toUInt32 &&& Int32.toUInt32 31)).toInt32) &&& (858993459))))]) hx d_In_bitCount_23 rfl (by decide) rfl ?_
  refine v_iload_n hx d_In_bitCount_24 rfl rfl ?_
  refine v_iload_n hx d_In_bitCount_25 rfl rfl ?_
  refine v_iconst (v := (nI 4)) hx d_In_bitCount_26 rfl ?_
  refine v_iushr hx d_In_bitCount_27 rfl ?_
  refine v_iadd hx d_In_bitCount_28 rfl ?_
  refine v_ldcw hx k_In_267 d_In_bitCount_29 ?_
  refine v_iand hx d_In_bitCount_32 rfl ?_
  refine v_istore_n (lv' := [some (.int ((((((nI S) - (((((nI S)).toUInt32 >>> (((nI 1)).toUInt32 &&& Int32.toUInt32 31)).toInt32) &&& (1431655765))) &&& (858993459)) + ((((((nI S) - (((((nI S)).toUInt32 >>> (((nI 1)).toUInt32 &&& Int32.toUInt32 31)).toInt32) &&& (1431655765)))).toUInt32 >>> (((nI 2)).toUInt32 &&& Int32.toUInt32 31)).toInt32) &&& (858993459))) + (((((((nI S) - (((((nI S)).toUInt32 >>> (((nI 1)).toUInt32 &&& Int32.toUInt32 31)).toInt32) &&& (1431655765))) &&& (858993459)) + ((((((nI S) - (((((nI S)).toUInt32 >>> (((nI 1)).toUInt32 &&& Int32.toUInt32 31)).toInt32) &&& (1431655765)))).toUInt32 >>> (((nI 2)).toUInt32 &&& Int32.toUInt32 31)).toInt32) &&& (858993459)))).toUInt32 >>> (((nI 4)).toUInt32 &&& Int32.toUInt32 31)).toInt32)) &&& (252645135)))]) hx d_In_bitCount_33 rfl (by decide) rfl ?_
  refine v_iload_n hx d_In_bitCount_34 rfl rfl ?_
  refine v_iload_n hx d_In_bitCount_35 rfl rfl ?_
  refine v_bipush (v := (nI 8)) hx d_In_bitCount_36 rfl ?_
  refine v_iushr hx d_In_bitCount_38 rfl ?_
  refine v_iadd hx d_In_bitCount_39 rfl ?_
  refine v_istore_n (lv' := [some (.int (((((((nI S) - (((((nI S)).toUInt32 >>> (((nI 1)).toUInt32 &&& Int32.toUInt32 31)).toInt32) &&& (1431655765))) &&& (858993459)) + ((((((nI S) - (((((nI S)).toUInt32 >>> (((nI 1)).toUInt32 &&& Int32.toUInt32 31)).toInt32) &&& (1431655765)))).toUInt32 >>> (((nI 2)).toUInt32 &&& Int32.toUInt32 31)).toInt32) &&& (858993459))) + (((((((nI S) - (((((nI S)).toUInt32 >>> (((nI 1)).toUInt32 &&& Int32.toUInt32 31)).toInt32) &&& (1431655765))) &&& (858993459)) + ((((((nI S) - (((((nI S)).toUInt32 >>> (((nI 1)).toUInt32 &&& Int32.toUInt32 31)).toInt32) &&& (1431655765)))).toUInt32 >>> (((nI 2)).toUInt32 &&& Int32.toUInt32 31)).toInt32) &&& (858993459)))).toUInt32 >>> (((nI 4)).toUInt32 &&& Int32.toUInt32 31)).toInt32)) &&& (252645135)) + (((((((((nI S) - (((((nI S)).toUInt32 >>> (((nI 1)).toUInt32 &&& Int32.toUInt32 31)).toInt32) &&& (1431655765))) &&& (858993459)) + ((((((nI S) - (((((nI S)).toUInt32 >>> (((nI 1)).toUInt32 &&& Int32.toUInt32 31)).toInt32) &&& (1431655765)))).toUInt32 >>> (((nI 2)).toUInt32 &&& Int32.toUInt32 31)).toInt32) &&& (858993459))) + (((((((nI S) - (((((nI S)).toUInt32 >>> (((nI 1)).toUInt32 &&& Int32.toUInt32 31)).toInt32) &&& (1431655765))) &&& (858993459)) + ((((((nI S) - (((((nI S)).toUInt32 >>> (((nI 1)).toUInt32 &&& Int32.toUInt32 31)).toInt32) &&& (1431655765)))).toUInt32 >>> (((nI 2)).toUInt32 &&& Int32.toUInt32 31)).toInt32) &&& (858993459)))).toUInt32 >>> (((nI 4)).toUInt32 &&& Int32.toUInt32 31)).toInt32)) &&& (252645135))).toUInt32 >>> (((nI 8)).toUInt32 &&& Int32.toUInt32 31)).toInt32)))]) hx d_In_bitCount_40 rfl (by decide) rfl ?_
  refine v_iload_n hx d_In_bitCount_41 rfl rfl ?_
  refine v_iload_n hx d_In_bitCount_42 rfl rfl ?_
  refine v_bipush (v := (nI 16)) hx d_In_bitCount_43 rfl ?_
  refine v_iushr hx d_In_bitCount_45 rfl ?_
  refine v_iadd hx d_In_bitCount_46 rfl ?_
  refine v_istore_n (lv' := [some (.int ((((((((nI S) - (((((nI S)).toUInt32 >>> (((nI 1)).toUInt32 &&& Int32.toUInt32 31)).toInt32) &&& (1431655765))) &&& (858993459)) + ((((((nI S) - (((((nI S)).toUInt32 >>> (((nI 1)).toUInt32 &&& Int32.toUInt32 31)).toInt32) &&& (1431655765)))).toUInt32 >>> (((nI 2)).toUInt32 &&& Int32.toUInt32 31)).toInt32) &&& (858993459))) + (((((((nI S) - (((((nI S)).toUInt32 >>> (((nI 1)).toUInt32 &&& Int32.toUInt32 31)).toInt32) &&& (1431655765))) &&& (858993459)) + ((((((nI S) - (((((nI S)).toUInt32 >>> (((nI 1)).toUInt32 &&& Int32.toUInt32 31)).toInt32) &&& (1431655765)))).toUInt32 >>> (((nI 2)).toUInt32 &&& Int32.toUInt32 31)).toInt32) &&& (858993459)))).toUInt32 >>> (((nI 4)).toUInt32 &&& Int32.toUInt32 31)).toInt32)) &&& (252645135)) + (((((((((nI S) - (((((nI S)).toUInt32 >>> (((nI 1)).toUInt32 &&& Int32.toUInt32 31)).toInt32) &&& (1431655765))) &&& (858993459)) + ((((((nI S) - (((((nI S)).toUInt32 >>> (((nI 1)).toUInt32 &&& Int32.toUInt32 31)).toInt32) &&& (1431655765)))).toUInt32 >>> (((nI 2)).toUInt32 &&& Int32.toUInt32 31)).toInt32) &&& (858993459))) + (((((((nI S) - (((((nI S)).toUInt32 >>> (((nI 1)).toUInt32 &&& Int32.toUInt32 31)).toInt32) &&& (1431655765))) &&& (858993459)) + ((((((nI S) - (((((nI S)).toUInt32 >>> (((nI 1)).toUInt32 &&& Int32.toUInt32 31)).toInt32) &&& (1431655765)))).toUInt32 >>> (((nI 2)).toUInt32 &&& Int32.toUInt32 31)).toInt32) &&& (858993459)))).toUInt32 >>> (((nI 4)).toUInt32 &&& Int32.toUInt32 31)).toInt32)) &&& (252645135))).toUInt32 >>> (((nI 8)).toUInt32 &&& Int32.toUInt32 31)).toInt32)) + ((((((((((nI S) - (((((nI S)).toUInt32 >>> (((nI 1)).toUInt32 &&& Int32.toUInt32 31)).toInt32) &&& (1431655765))) &&& (858993459)) + ((((((nI S) - (((((nI S)).toUInt32 >>> (((nI 1)).toUInt32 &&& Int32.toUInt32 31)).toInt32) &&& (1431655765)))).toUInt32 >>> (((nI 2)).toUInt32 &&& Int32.toUInt32 31)).toInt32) &&& (858993459))) + (((((((nI S) - (((((nI S)).toUInt32 >>> (((nI 1)).toUInt32 &&& Int32.toUInt32 31)).toInt32) &&& (1431655765))) &&& (858993459)) + ((((((nI S) - (((((nI S)).toUInt32 >>> (((nI 1)).toUInt32 &&& Int32.toUInt32 31)).toInt32) &&& (1431655765)))).toUInt32 >>> (((nI 2)).toUInt32 &&& Int32.toUInt32 31)).toInt32) &&& (858993459)))).toUInt32 >>> (((nI 4)).toUInt32 &&& Int32.toUInt32 31)).toInt32)) &&& (252645135)) + (((((((((nI S) - (((((nI S)).toUInt32 >>> (((nI 1)).toUInt32 &&& Int32.toUInt32 31)).toInt32) &&& (1431655765))) &&& (858993459)) + ((((((nI S) - (((((nI S)).toUInt32 >>> (((nI 1)).toUInt32 &&& Int32.toUInt32 31)).toInt32) &&& (1431655765)))).toUInt32 >>> (((nI 2)).toUInt32 &&& Int32.toUInt32 31)).toInt32) &&& (858993459))) + (((((((nI S) - (((((nI S)).toUInt32 >>> (((nI 1)).toUInt32 &&& Int32.toUInt32 31)).toInt32) &&& (1431655765))) &&& (858993459)) + ((((((nI S) - (((((nI S)).toUInt32 >>> (((nI 1)).toUInt32 &&& Int32.toUInt32 31)).toInt32) &&& (1431655765)))).toUInt32 >>> (((nI 2)).toUInt32 &&& Int32.toUInt32 31)).toInt32) &&& (858993459)))).toUInt32 >>> (((nI 4)).toUInt32 &&& Int32.toUInt32 31)).toInt32)) &&& (252645135))).toUInt32 >>> (((nI 8)).toUInt32 &&& Int32.toUInt32 31)).toInt32))).toUInt32 >>> (((nI 16)).toUInt32 &&& Int32.toUInt32 31)).toInt32)))]) hx d_In_bitCount_47 rfl (by decide) rfl ?_
  refine v_iload_n hx d_In_bitCount_48 rfl rfl ?_
  refine v_bipush (v := (nI 63)) hx d_In_bitCount_49 rfl ?_
  refine v_iand hx d_In_bitCount_51 rfl ?_
  exact v_iret hx hr d_In_bitCount_52 ⟨by rw [← bitc S hS]; rfl, rfl, rfl⟩
set_option maxHeartbeats 4000000 in
set_option maxRecDepth 100000 in
/-- the states, as a mask, that one comes to -/
theorem c_Ma_reachedFrom {G : GT} {L : List Nat} {f : Nat → va_E} {w : Nat → Nat} {id : Nat} {A : Nat → Nat} {nx ou lo fi : Nat → Nat} {n k b : Nat} (hM : MaAt G L f w id A nx ou lo fi n k b) (S i : Nat) (hS : S < 2 ^ 12) (hi : i < 4) (hn : n ≤ 12) (hN : ∀ s, s < n → nx (s * 4 + i) < 12) : Con G y_Ma_reachedFrom (.code y_Ma_reachedFrom b_Ma_reachedFrom 5 (some .int) :: BIG) 1 22 0 0 [.ref (A 0), .int (nI S), .int (nI i)] L f (fun v L' f' => v = some (.int (nI (mv (fun s => nx (s * 4 + i)) S n))) ∧ L' = L ∧ f' = f) := by
  refine con_of (cc := b_Ma_reachedFrom) (mL := 5) (lv := [some (.ref (A 0)), some (.int (nI S)), some (.int (nI i)), none, none]) (by decide) (by intro w hw; simp at hw; rcases hw with rfl | rfl | rfl <;> rfl) (by first | exact Nat.le_of_ble_eq_true rfl | decide) rfl ?_
  intro x hx hr hin
  refine v_iconst (v := (nI 0)) hx d_Ma_reachedFrom_0 rfl ?_
  refine v_istore_n (lv' := [some (.ref (A 0)), some (.int (nI S)), some (.int (nI i)), some (.int (nI 0)), none]) hx d_Ma_reachedFrom_1 rfl (by decide) rfl ?_
  refine v_iconst (v := (nI 0)) hx d_Ma_reachedFrom_2 rfl ?_
  refine v_istore (lv' := [some (.ref (A 0)), some (.int (nI S)), some (.int (nI i)), some (.int (nI 0)), some (.int (nI 0))]) hx d_Ma_reachedFrom_3 (by decide) rfl ?_
  have H5 : ∀ (m : Nat) (s : Nat), n - s < m → s ≤ n → V G { frames := 1, cells := 0, slots := 0, locals := 22 } 5 x L f 0 0 [some (.ref (A 0)), some (.int (nI S)), some (.int (nI i)), some (.int (nI (mv (fun s => nx (s * 4 + i)) S s))), some (.int (nI s))] 5 [] := by
    intro m
    induction m with
    | zero => intro s hm; exact absurd hm (Nat.not_lt_zero _)
    | succ m ih =>
      intro s hm hs
      refine v_iload hx d_Ma_reachedFrom_5 rfl ?_
      refine v_aload_n hx d_Ma_reachedFrom_7 rfl rfl ?_
      refine v_get hx cf_Ma 4 (by decide) k_Ma_24 d_Ma_reachedFrom_8 hM.m0 hM.f0 rfl ?_
      refine n_icmp_ge (tgt := 41) hx d_Ma_reachedFrom_11 (by decide) (by omega) (by omega) (fun c11 => ?_) (fun c11 => ?_)
      · have e : s = n := by omega
        rw [e]
        refine v_iload_n hx d_Ma_reachedFrom_41 rfl rfl ?_
        exact v_iret hx hr d_Ma_reachedFrom_42 ⟨rfl, rfl, rfl⟩
      · refine v_iload_n hx d_Ma_reachedFrom_14 rfl rfl ?_
        refine v_iload hx d_Ma_reachedFrom_15 rfl ?_
        refine v_ishr (v := (nI (S / 2 ^ s))) hx d_Ma_reachedFrom_17 (bit_shr hS (by omega)) ?_
        refine v_iconst (v := (nI 1)) hx d_Ma_reachedFrom_18 rfl ?_
        refine v_iand (v := (nI (S / 2 ^ s % 2))) hx d_Ma_reachedFrom_19 (bit_and1 _ (Nat.lt_of_le_of_lt (Nat.div_le_self _ _) (by omega))) ?_
        refine n_if_eq (tgt := 35) hx d_Ma_reachedFrom_20 (by decide) (by omega) (fun c20 => ?_) (fun c20 => ?_)
        · refine n_iinc (lv' := [some (.ref (A 0)), some (.int (nI S)), some (.int (nI i)), some (.int (nI (mv (fun s => nx (s * 4 + i)) S s))), some (.int (nI (s + 1)))]) hx d_Ma_reachedFrom_35 rfl (by decide) rfl ?_
          refine v_goto (tgt := 5) hx d_Ma_reachedFrom_38 (by decide) ?_
          have q := ih (s + 1) (by omega) (by omega)
          have e : mv (fun s => nx (s * 4 + i)) S (s + 1) = mv (fun s => nx (s * 4 + i)) S s := if_neg (by omega)
          rw [e] at q
          exact q
        · refine v_iload_n hx d_Ma_reachedFrom_23 rfl rfl ?_
          refine v_iconst (v := (nI 1)) hx d_Ma_reachedFrom_24 rfl ?_
          refine v_aload_n hx d_Ma_reachedFrom_25 rfl rfl ?_
          refine v_iload hx d_Ma_reachedFrom_26 rfl ?_
          refine v_iload_n hx d_Ma_reachedFrom_28 rfl rfl ?_
          refine v_callV (as := [.int (nI s), .int (nI i)]) (q := (R_Ma, T_Ma, 7)) hx (c_Ma_nextOf hM s i (by omega) hi) cy_Ma_nextOf k_Ma_39 ki_Ma_nextOf kl_Ma_nextOf d_Ma_reachedFrom_29 (by decide) (ci := 1) rfl hM.m0 hM.f0 (by decide) rfl rfl (Nat.le_of_ble_eq_true rfl) (fun v1 L f p1 => ?_)
          obtain ⟨rfl, rfl, rfl⟩ := p1
          refine v_ishl hx d_Ma_reachedFrom_32 rfl ?_
          refine v_ior (v := (nI (mv (fun s => nx (s * 4 + i)) S s ||| 2 ^ nx (s * 4 + i)))) hx d_Ma_reachedFrom_33 (bit_or (mv_lt hN s (by omega)) (hN s (by omega))) ?_
          refine v_istore_n (lv' := [some (.ref (A 0)), some (.int (nI S)), some (.int (nI i)), some (.int (nI (mv (fun s => nx (s * 4 + i)) S s ||| 2 ^ nx (s * 4 + i)))), some (.int (nI s))]) hx d_Ma_reachedFrom_34 rfl (by decide) rfl ?_
          refine n_iinc (lv' := [some (.ref (A 0)), some (.int (nI S)), some (.int (nI i)), some (.int (nI (mv (fun s => nx (s * 4 + i)) S s ||| 2 ^ nx (s * 4 + i)))), some (.int (nI (s + 1)))]) hx d_Ma_reachedFrom_35 rfl (by decide) rfl ?_
          refine v_goto (tgt := 5) hx d_Ma_reachedFrom_38 (by decide) ?_
          have q := ih (s + 1) (by omega) (by omega)
          have e : mv (fun s => nx (s * 4 + i)) S (s + 1) = mv (fun s => nx (s * 4 + i)) S s ||| 2 ^ nx (s * 4 + i) := if_pos (by omega)
          rw [e] at q
          exact q
  exact H5 _ 0 (Nat.lt_succ_self _) (Nat.zero_le _)
set_option maxHeartbeats 4000000 in
set_option maxRecDepth 100000 in
/-- how many sets -/
theorem c_Ma_countSets {G : GT} {L : List Nat} {f : Nat → va_E} {w : Nat → Nat} {id : Nat} {A : Nat → Nat} {nx ou lo fi : Nat → Nat} {n k b : Nat} (hM : MaAt G L f w id A nx ou lo fi n k b) (hn : n ≤ 40) (hlo : ∀ s, s < n → lo s < 40) : Con G y_Ma_countSets (.code y_Ma_countSets b_Ma_countSets 3 (some .int) :: BIG) 0 0 0 0 [.ref (A 0)] L f (fun v L' f' => v = some (.int (nI (cn lo n))) ∧ L' = L ∧ f' = f) := by
  refine con_of (cc := b_Ma_countSets) (mL := 3) (lv := [some (.ref (A 0)), none, none]) (by decide) (by intro w hw; simp at hw; rcases hw with rfl <;> rfl) (by first | exact Nat.le_of_ble_eq_true rfl | decide) rfl ?_
  intro x hx hr hin
  refine v_iconst (v := (nI 0)) hx d_Ma_countSets_0 rfl ?_
  refine v_istore_n (lv' := [some (.ref (A 0)), some (.int (nI 0)), none]) hx d_Ma_countSets_1 rfl (by decide) rfl ?_
  refine v_iconst (v := (nI 0)) hx d_Ma_countSets_2 rfl ?_
  refine v_istore_n (lv' := [some (.ref (A 0)), some (.int (nI 0)), some (.int (nI 0))]) hx d_Ma_countSets_3 rfl (by decide) rfl ?_
  have H4 : ∀ (m : Nat) (s : Nat), n - s < m → s ≤ n → V G { frames := 0, cells := 0, slots := 0, locals := 0 } 3 x L f 0 0 [some (.ref (A 0)), some (.int (nI (cn lo s))), some (.int (nI s))] 4 [] := by
    intro m
    induction m with
    | zero => intro s hm; exact absurd hm (Nat.not_lt_zero _)
    | succ m ih =>
      intro s hm hs
      refine v_iload_n hx d_Ma_countSets_4 rfl rfl ?_
      refine v_aload_n hx d_Ma_countSets_5 rfl rfl ?_
      refine v_get hx cf_Ma 4 (by decide) k_Ma_24 d_Ma_countSets_6 hM.m0 hM.f0 rfl ?_
      refine n_icmp_ge (tgt := 31) hx d_Ma_countSets_9 (by decide) (by omega) (by omega) (fun c9 => ?_) (fun c9 => ?_)
      · have e : s = n := by omega
        rw [e]
        refine v_iload_n hx d_Ma_countSets_31 rfl rfl ?_
        exact v_iret hx hr d_Ma_countSets_32 ⟨rfl, rfl, rfl⟩
      · refine v_aload_n hx d_Ma_countSets_12 rfl rfl ?_
        refine v_get hx cf_Ma 2 (by decide) k_Ma_18 d_Ma_countSets_13 hM.m0 hM.f0 rfl ?_
        refine v_iload_n hx d_Ma_countSets_16 rfl rfl ?_
        refine n_iald hx d_Ma_countSets_17 hM.m3 hM.f3 (by omega) (by decide) ?_
        refine v_iload_n hx d_Ma_countSets_18 rfl rfl ?_
        have hb1 := hlo s (by omega)
        refine n_icmp_ne (tgt := 25) hx d_Ma_countSets_19 (by decide) (by omega) (by omega) (fun c19 => ?_) (fun c19 => ?_)
        · refine n_iinc (lv' := [some (.ref (A 0)), some (.int (nI (cn lo s))), some (.int (nI (s + 1)))]) hx d_Ma_countSets_25 rfl (by decide) rfl ?_
          refine v_goto (tgt := 4) hx d_Ma_countSets_28 (by decide) ?_
          have q := ih (s + 1) (by omega) (by omega)
          have e : cn lo (s + 1) = cn lo s := if_neg c19
          rw [e] at q
          exact q
        · refine n_iinc (lv' := [some (.ref (A 0)), some (.int (nI (cn lo s + 1))), some (.int (nI s))]) hx d_Ma_countSets_22 rfl (by decide) rfl ?_
          refine n_iinc (lv' := [some (.ref (A 0)), some (.int (nI (cn lo s + 1))), some (.int (nI (s + 1)))]) hx d_Ma_countSets_25 rfl (by decide) rfl ?_
          refine v_goto (tgt := 4) hx d_Ma_countSets_28 (by decide) ?_
          have q := ih (s + 1) (by omega) (by omega)
          have e : cn lo (s + 1) = cn lo s + 1 := if_pos c19
          rw [e] at q
          exact q
  exact H4 _ 0 (Nat.lt_succ_self _) (Nat.zero_le _)
end
section
set_option maxHeartbeats 4000000 in
set_option maxRecDepth 100000 in
/-- whether two agree -/
theorem c_Ma_isAgreed {G : GT} {L : List Nat} {f : Nat → va_E} {w : Nat → Nat} {id : Nat} {A : Nat → Nat} {nx ou lo fi : Nat → Nat} {n k b : Nat} (hM : MaAt G L f w id A nx ou lo fi n k b) (hA : okA nx ou n k) (hlo : ∀ s, s < n → lo s < 40) (a b_ : Nat) (ha : a < n) (hb : b_ < n) : Con G y_Ma_isAgreed (.code y_Ma_isAgreed b_Ma_isAgreed 4 (some .boolean) :: BIG) 1 22 0 0 [.ref (A 0), .int (nI a), .int (nI b_)] L f (fun v L' f' => (v = some (.int (nI 1)) ∧ agr lo nx ou k a b_ ∨ v = some (.int (nI 0)) ∧ ¬ agr lo nx ou k a b_) ∧ L' = L ∧ f' = f) := by
  refine con_of (cc := b_Ma_isAgreed) (mL := 4) (lv := [some (.ref (A 0)), some (.int (nI a)), some (.int (nI b_)), none]) (by decide) (by intro w hw; simp at hw; rcases hw with rfl | rfl | rfl <;> rfl) (by first | exact Nat.le_of_ble_eq_true rfl | decide) rfl ?_
  intro x hx hr hin
  have hA_ := hA
  obtain ⟨hn1, hn2, hk1, hk2, hnx⟩ := hA_
  have ha4 := hlo a ha
  have hb4 := hlo b_ hb
  refine v_aload_n hx d_Ma_isAgreed_0 rfl rfl ?_
  refine v_get hx cf_Ma 2 (by decide) k_Ma_18 d_Ma_isAgreed_1 hM.m0 hM.f0 rfl ?_
  refine v_iload_n hx d_Ma_isAgreed_4 rfl rfl ?_
  refine n_iald hx d_Ma_isAgreed_5 hM.m3 hM.f3 (by omega) (by decide) ?_
  refine v_aload_n hx d_Ma_isAgreed_6 rfl rfl ?_
  refine v_get hx cf_Ma 2 (by decide) k_Ma_18 d_Ma_isAgreed_7 hM.m0 hM.f0 rfl ?_
  refine v_iload_n hx d_Ma_isAgreed_10 rfl rfl ?_
  refine n_iald hx d_Ma_isAgreed_11 hM.m3 hM.f3 (by omega) (by decide) ?_
  refine n_icmp_eq (tgt := 17) hx d_Ma_isAgreed_12 (by decide) (by omega) (by omega) (fun c12 => ?_) (fun c12 => ?_)
  · refine v_iconst (v := (nI 0)) hx d_Ma_isAgreed_17 rfl ?_
    refine v_istore_n (lv' := [some (.ref (A 0)), some (.int (nI a)), some (.int (nI b_)), some (.int (nI 0))]) hx d_Ma_isAgreed_18 rfl (by decide) rfl ?_
    have H19 : ∀ (m : Nat) (i : Nat), k - i < m → (i ≤ k) → (∀ j, j < i → ou (a * 4 + j) = ou (b_ * 4 + j) ∧ lo (nx (a * 4 + j)) = lo (nx (b_ * 4 + j))) → V G { frames := 1, cells := 0, slots := 0, locals := 22 } 4 x L f 0 0 [some (.ref (A 0)), some (.int (nI a)), some (.int (nI b_)), some (.int (nI i))] 19 [] := by
      intro m
      induction m with
      | zero => intro i hm; exact absurd hm (Nat.not_lt_zero _)
      | succ m ih =>
        intro i hm hi hj
        refine v_iload_n hx d_Ma_isAgreed_19 rfl rfl ?_
        refine v_aload_n hx d_Ma_isAgreed_20 rfl rfl ?_
        refine v_get hx cf_Ma 5 (by decide) k_Ma_28 d_Ma_isAgreed_21 hM.m0 hM.f0 rfl ?_
        refine n_icmp_ge (tgt := 77) hx d_Ma_isAgreed_24 (by decide) (by omega) (by omega) (fun c24 => ?_) (fun c24 => ?_)
        · refine v_iconst (v := (nI 1)) hx d_Ma_isAgreed_77 rfl ?_
          exact v_zret hx hr d_Ma_isAgreed_78 rfl ⟨Or.inl ⟨rfl, c12, fun j hj2 => hj j (by omega)⟩, rfl, rfl⟩
        · have hxa := hnx a i ha (by omega)
          have hxb := hnx b_ i hb (by omega)
          have hla := hlo _ hxa.1
          have hlb := hlo _ hxb.1
          refine v_aload_n hx d_Ma_isAgreed_27 rfl rfl ?_
          refine v_iload_n hx d_Ma_isAgreed_28 rfl rfl ?_
          refine v_iload_n hx d_Ma_isAgreed_29 rfl rfl ?_
          refine v_callV (as := [.int (nI a), .int (nI i)]) (q := (R_Ma, T_Ma, 7)) hx (c_Ma_outputOf hM a i (by omega) (by omega)) cy_Ma_outputOf k_Ma_67 ki_Ma_outputOf kl_Ma_outputOf d_Ma_isAgreed_30 (by decide) (ci := 1) rfl hM.m0 hM.f0 (by decide) rfl rfl (Nat.le_of_ble_eq_true rfl) (fun v1 L f p1 => ?_)
          obtain ⟨rfl, rfl, rfl⟩ := p1
          refine v_aload_n hx d_Ma_isAgreed_33 rfl rfl ?_
          refine v_iload_n hx d_Ma_isAgreed_34 rfl rfl ?_
          refine v_iload_n hx d_Ma_isAgreed_35 rfl rfl ?_
          refine v_callV (as := [.int (nI b_), .int (nI i)]) (q := (R_Ma, T_Ma, 7)) hx (c_Ma_outputOf hM b_ i (by omega) (by omega)) cy_Ma_outputOf k_Ma_67 ki_Ma_outputOf kl_Ma_outputOf d_Ma_isAgreed_36 (by decide) (ci := 1) rfl hM.m0 hM.f0 (by decide) rfl rfl (Nat.le_of_ble_eq_true rfl) (fun v2 L f p2 => ?_)
          obtain ⟨rfl, rfl, rfl⟩ := p2
          refine n_icmp_eq (tgt := 44) hx d_Ma_isAgreed_39 (by decide) (by omega) (by omega) (fun c39 => ?_) (fun c39 => ?_)
          · refine v_aload_n hx d_Ma_isAgreed_44 rfl rfl ?_
            refine v_get hx cf_Ma 2 (by decide) k_Ma_18 d_Ma_isAgreed_45 hM.m0 hM.f0 rfl ?_
            refine v_aload_n hx d_Ma_isAgreed_48 rfl rfl ?_
            refine v_iload_n hx d_Ma_isAgreed_49 rfl rfl ?_
            refine v_iload_n hx d_Ma_isAgreed_50 rfl rfl ?_
            refine v_callV (as := [.int (nI a), .int (nI i)]) (q := (R_Ma, T_Ma, 7)) hx (c_Ma_nextOf hM a i (by omega) (by omega)) cy_Ma_nextOf k_Ma_39 ki_Ma_nextOf kl_Ma_nextOf d_Ma_isAgreed_51 (by decide) (ci := 1) rfl hM.m0 hM.f0 (by decide) rfl rfl (Nat.le_of_ble_eq_true rfl) (fun v3 L f p3 => ?_)
            obtain ⟨rfl, rfl, rfl⟩ := p3
            refine n_iald hx d_Ma_isAgreed_54 hM.m3 hM.f3 (by omega) (by decide) ?_
            refine v_aload_n hx d_Ma_isAgreed_55 rfl rfl ?_
            refine v_get hx cf_Ma 2 (by decide) k_Ma_18 d_Ma_isAgreed_56 hM.m0 hM.f0 rfl ?_
            refine v_aload_n hx d_Ma_isAgreed_59 rfl rfl ?_
            refine v_iload_n hx d_Ma_isAgreed_60 rfl rfl ?_
            refine v_iload_n hx d_Ma_isAgreed_61 rfl rfl ?_
            refine v_callV (as := [.int (nI b_), .int (nI i)]) (q := (R_Ma, T_Ma, 7)) hx (c_Ma_nextOf hM b_ i (by omega) (by omega)) cy_Ma_nextOf k_Ma_39 ki_Ma_nextOf kl_Ma_nextOf d_Ma_isAgreed_62 (by decide) (ci := 1) rfl hM.m0 hM.f0 (by decide) rfl rfl (Nat.le_of_ble_eq_true rfl) (fun v4 L f p4 => ?_)
            obtain ⟨rfl, rfl, rfl⟩ := p4
            refine n_iald hx d_Ma_isAgreed_65 hM.m3 hM.f3 (by omega) (by decide) ?_
            refine n_icmp_eq (tgt := 71) hx d_Ma_isAgreed_66 (by decide) (by omega) (by omega) (fun c66 => ?_) (fun c66 => ?_)
            · refine n_iinc (lv' := [some (.ref (A 0)), some (.int (nI a)), some (.int (nI b_)), some (.int (nI (i + 1)))]) hx d_Ma_isAgreed_71 rfl (by decide) rfl ?_
              refine v_goto (tgt := 19) hx d_Ma_isAgreed_74 (by decide) ?_
              exact ih (i + 1) (by omega) (by omega) (lt_s hj ⟨c39, c66⟩)
            · refine v_iconst (v := (nI 0)) hx d_Ma_isAgreed_69 rfl ?_
              exact v_zret hx hr d_Ma_isAgreed_70 rfl ⟨Or.inr ⟨rfl, fun h => c66 (h.2 i c24).2⟩, rfl, rfl⟩
          · refine v_iconst (v := (nI 0)) hx d_Ma_isAgreed_42 rfl ?_
            exact v_zret hx hr d_Ma_isAgreed_43 rfl ⟨Or.inr ⟨rfl, fun h => c39 (h.2 i c24).1⟩, rfl, rfl⟩
    exact H19 _ 0 (Nat.lt_succ_self _) (Nat.zero_le _) (fun _ h => absurd h (Nat.not_lt_zero _))
  · refine v_iconst (v := (nI 0)) hx d_Ma_isAgreed_15 rfl ?_
    exact v_zret hx hr d_Ma_isAgreed_16 rfl ⟨Or.inr ⟨rfl, fun h => c12 h.1⟩, rfl, rfl⟩
set_option maxHeartbeats 4000000 in
set_option maxRecDepth 100000 in
/-- the least one that agrees -/
theorem c_Ma_leastThatAgrees {G : GT} {L : List Nat} {f : Nat → va_E} {w : Nat → Nat} {id : Nat} {A : Nat → Nat} {nx ou lo fi : Nat → Nat} {n k b : Nat} (hM : MaAt G L f w id A nx ou lo fi n k b) (hA : okA nx ou n k) (hlo : ∀ s, s < n → lo s < 40) (s : Nat) (hs : s < n) (hfi : ∀ o, o < s → lag lo nx ou k o (fi o)) : Con G y_Ma_leastThatAgrees (.code y_Ma_leastThatAgrees b_Ma_leastThatAgrees 3 (some .int) :: BIG) 2 45 0 0 [.ref (A 0), .int (nI s)] L f (fun v L' f' => (∃ z, v = some (.int (nI z)) ∧ lag lo nx ou k s z) ∧ L' = L ∧ f' = f) := by
  refine con_of (cc := b_Ma_leastThatAgrees) (mL := 3) (lv := [some (.ref (A 0)), some (.int (nI s)), none]) (by decide) (by intro w hw; simp at hw; rcases hw with rfl | rfl <;> rfl) (by first | exact Nat.le_of_ble_eq_true rfl | decide) rfl ?_
  intro x hx hr hin
  have hA_ := hA
  obtain ⟨hn1, hn2, hk1, hk2, hnx⟩ := hA_
  refine v_iconst (v := (nI 0)) hx d_Ma_leastThatAgrees_0 rfl ?_
  refine v_istore_n (lv' := [some (.ref (A 0)), some (.int (nI s)), some (.int (nI 0))]) hx d_Ma_leastThatAgrees_1 rfl (by decide) rfl ?_
  have H2 : ∀ (m : Nat) (o : Nat), s - o < m → (o ≤ s) → (∀ o2, o2 < o → ¬ agr lo nx ou k o2 s) → V G { frames := 2, cells := 0, slots := 0, locals := 45 } 3 x L f 0 0 [some (.ref (A 0)), some (.int (nI s)), some (.int (nI o))] 2 [] := by
    intro m
    induction m with
    | zero => intro o hm; exact absurd hm (Nat.not_lt_zero _)
    | succ m ih =>
      intro o hm ho hj
      refine v_iload_n hx d_Ma_leastThatAgrees_2 rfl rfl ?_
      refine v_iload_n hx d_Ma_leastThatAgrees_3 rfl rfl ?_
      refine n_icmp_ge (tgt := 34) hx d_Ma_leastThatAgrees_4 (by decide) (by omega) (by omega) (fun c4 => ?_) (fun c4 => ?_)
      · refine v_iload_n hx d_Ma_leastThatAgrees_34 rfl rfl ?_
        exact v_iret hx hr d_Ma_leastThatAgrees_35 ⟨⟨s, rfl, Nat.le_refl _, agr.rf, fun o2 h2 => hj o2 (by omega)⟩, rfl, rfl⟩
      · have hf := hfi o c4
        refine v_aload_n hx d_Ma_leastThatAgrees_7 rfl rfl ?_
        refine v_get hx cf_Ma 3 (by decide) k_Ma_21 d_Ma_leastThatAgrees_8 hM.m0 hM.f0 rfl ?_
        refine v_iload_n hx d_Ma_leastThatAgrees_11 rfl rfl ?_
        refine n_iald hx d_Ma_leastThatAgrees_12 hM.m4 hM.f4 (by omega) (by decide) ?_
        refine v_iload_n hx d_Ma_leastThatAgrees_13 rfl rfl ?_
        refine n_icmp_ne (tgt := 28) hx d_Ma_leastThatAgrees_14 (by decide) (by have := hf.1; omega) (by have := hf.1; omega) (fun c14 => ?_) (fun c14 => ?_)
        · refine n_iinc (lv' := [some (.ref (A 0)), some (.int (nI s)), some (.int (nI (o + 1)))]) hx d_Ma_leastThatAgrees_28 rfl (by decide) rfl ?_
          refine v_goto (tgt := 2) hx d_Ma_leastThatAgrees_31 (by decide) ?_
          refine ih (o + 1) (by omega) (by omega) (lt_s hj ?_)
          first | exact hq | (intro hq2; exact c14 (hf.uniq ⟨Nat.le_refl _, agr.rf, fun o2 ho2 h2 => hj o2 ho2 (h2.tr hq2)⟩))
        · refine v_aload_n hx d_Ma_leastThatAgrees_17 rfl rfl ?_
          refine v_iload_n hx d_Ma_leastThatAgrees_18 rfl rfl ?_
          refine v_iload_n hx d_Ma_leastThatAgrees_19 rfl rfl ?_
          refine v_callV (as := [.int (nI o), .int (nI s)]) (q := (R_Ma, T_Ma, 7)) hx (c_Ma_isAgreed hM hA hlo o s (by omega) hs) cy_Ma_isAgreed k_Ma_63 ki_Ma_isAgreed kl_Ma_isAgreed d_Ma_leastThatAgrees_20 (by decide) (ci := 1) rfl hM.m0 hM.f0 (by decide) rfl rfl (Nat.le_of_ble_eq_true rfl) (fun v1 L f p1 => ?_)
          obtain ⟨(⟨rfl, hq⟩ | ⟨rfl, hq⟩), rfl, rfl⟩ := p1
          · refine n_if_eq (tgt := 28) hx d_Ma_leastThatAgrees_23 (by decide) (by omega) (fun c23 => ?_) (fun c23 => ?_)
            · exact absurd c23 (by omega)
            · refine v_iload_n hx d_Ma_leastThatAgrees_26 rfl rfl ?_
              exact v_iret hx hr d_Ma_leastThatAgrees_27 ⟨⟨o, rfl, by omega, hq, hj⟩, rfl, rfl⟩
          · refine n_if_eq (tgt := 28) hx d_Ma_leastThatAgrees_23 (by decide) (by omega) (fun c23 => ?_) (fun c23 => ?_)
            · refine n_iinc (lv' := [some (.ref (A 0)), some (.int (nI s)), some (.int (nI (o + 1)))]) hx d_Ma_leastThatAgrees_28 rfl (by decide) rfl ?_
              refine v_goto (tgt := 2) hx d_Ma_leastThatAgrees_31 (by decide) ?_
              refine ih (o + 1) (by omega) (by omega) (lt_s hj ?_)
              first | exact hq | (intro hq2; exact c14 (hf.uniq ⟨Nat.le_refl _, agr.rf, fun o2 ho2 h2 => hj o2 ho2 (h2.tr hq2)⟩))
            · exact absurd c23 (by omega)
  exact H2 _ 0 (Nat.lt_succ_self _) (Nat.zero_le _) (fun _ h => absurd h (Nat.not_lt_zero _))
def spk (sp : Bool) (s : Nat) (fi lo : Nat → Nat) : Prop := (sp = true ↔ ∃ o, o < s ∧ fi o ≠ lo o)
set_option maxHeartbeats 4000000 in
set_option maxRecDepth 100000 in
/-- one round -/
theorem c_Ma_splitSets {G : GT} {L : List Nat} {f : Nat → va_E} {w : Nat → Nat} {id : Nat} {A : Nat → Nat} {nx ou lo fi : Nat → Nat} {n k b : Nat} (hM : MaAt G L f w id A nx ou lo fi n k b) (hA : okA nx ou n k) (hlo : ∀ s, s < n → lo s < 40) : Con G y_Ma_splitSets (.code y_Ma_splitSets b_Ma_splitSets 3 (some .boolean) :: BIG) 3 67 0 0 [.ref (A 0)] L f (fun v L' f' => ∃ fi' lo' : Nat → Nat, ∃ sp : Bool, v = some (.int (bI sp)) ∧ L' = L ∧ MaAt G L f' w id A nx ou lo' fi' n k b ∧ gF w id f f' ∧ (∀ s, s < n → lag lo nx ou k s (lo' s)) ∧ (sp = true ↔ ∃ s, s < n ∧ lo' s ≠ lo s)) := by
  refine con_of (cc := b_Ma_splitSets) (mL := 3) (lv := [some (.ref (A 0)), none, none]) (by decide) (by intro w hw; simp at hw; rcases hw with rfl <;> rfl) (by first | exact Nat.le_of_ble_eq_true rfl | decide) rfl ?_
  intro x hx hr hin
  have hA_ := hA
  obtain ⟨hn1, hn2, hk1, hk2, hnx⟩ := hA_
  refine v_iconst (v := (nI 0)) hx d_Ma_splitSets_0 rfl ?_
  refine v_istore_n (lv' := [some (.ref (A 0)), some (.int (nI 0)), none]) hx d_Ma_splitSets_1 rfl (by decide) rfl ?_
  refine v_iconst (v := (nI 0)) hx d_Ma_splitSets_2 rfl ?_
  refine v_istore_n (lv' := [some (.ref (A 0)), some (.int (nI 0)), some (.int (nI 0))]) hx d_Ma_splitSets_3 rfl (by decide) rfl ?_
  have hF0 := gF.rf (w := w) (id := id) (f := f)
  generalize hf0 : f = f0 at hF0 hr
  have H4 : ∀ (m : Nat) (s : Nat) (sp : Bool) (f : Nat → va_E) (fi : Nat → Nat), n - s < m → (s ≤ n) → (MaAt G L f w id A nx ou lo fi n k b) → (gF w id f0 f) → (∀ o, o < s → lag lo nx ou k o (fi o)) → (spk sp s fi lo) → V G { frames := 3, cells := 0, slots := 0, locals := 67 } 3 x L f 0 0 [some (.ref (A 0)), some (.int (bI sp)), some (.int (nI s))] 4 [] := by
    intro m
    induction m with
    | zero => intro s sp f fi hm; exact absurd hm (Nat.not_lt_zero _)
    | succ m ih =>
      intro s sp f fi hm hs hM hF hfi hsp
      refine v_iload_n hx d_Ma_splitSets_4 rfl rfl ?_
      refine v_aload_n hx d_Ma_splitSets_5 rfl rfl ?_
      refine v_get hx cf_Ma 4 (by decide) k_Ma_24 d_Ma_splitSets_6 hM.m0 hM.f0 rfl ?_
      refine n_icmp_ge (tgt := 52) hx d_Ma_splitSets_9 (by decide) (by omega) (by omega) (fun c9 => ?_) (fun c9 => ?_)
      · refine v_aload_n hx d_Ma_splitSets_52 rfl rfl ?_
        refine v_get hx cf_Ma 3 (by decide) k_Ma_21 d_Ma_splitSets_53 hM.m0 hM.f0 rfl ?_
        refine v_iconst (v := (nI 0)) hx d_Ma_splitSets_56 rfl ?_
        refine v_aload_n hx d_Ma_splitSets_57 rfl rfl ?_
        refine v_get hx cf_Ma 2 (by decide) k_Ma_18 d_Ma_splitSets_58 hM.m0 hM.f0 rfl ?_
        refine v_iconst (v := (nI 0)) hx d_Ma_splitSets_61 rfl ?_
        refine v_aload_n hx d_Ma_splitSets_62 rfl rfl ?_
        refine v_get hx cf_Ma 4 (by decide) k_Ma_24 d_Ma_splitSets_63 hM.m0 hM.f0 rfl ?_
        refine nn_copy hx k_Ma_57 kn_Sy_arraycopy ks_Sy_arraycopy kz_Sy d_Ma_splitSets_66 hM.m4 hM.f4 hM.m3 hM.f3 (by omega) (by omega) (by decide) (by decide) (by decide) (fun f1 hf1 => ?_)
        have hF := hF.up hf1 hM.o3
        have hM := hM.up3 hf1
        refine v_iload_n hx d_Ma_splitSets_69 rfl rfl ?_
        exact v_zret hx hr d_Ma_splitSets_70 (bI_nar sp) ⟨fi, _, sp, rfl, rfl, hM, hF, fun s2 h2 => by rw [if_pos h2]; exact hfi s2 (by omega), by rw [show s = n by omega] at hsp; exact Iff.trans hsp ⟨fun ⟨o, h1, h2⟩ => ⟨o, h1, by rw [if_pos h1]; exact h2⟩, fun ⟨o, h1, h2⟩ => ⟨o, h1, by rw [if_pos h1] at h2; exact h2⟩⟩⟩
      · refine v_aload_n hx d_Ma_splitSets_12 rfl rfl ?_
        refine v_get hx cf_Ma 3 (by decide) k_Ma_21 d_Ma_splitSets_13 hM.m0 hM.f0 rfl ?_
        refine v_iload_n hx d_Ma_splitSets_16 rfl rfl ?_
        refine v_aload_n hx d_Ma_splitSets_17 rfl rfl ?_
        refine v_iload_n hx d_Ma_splitSets_18 rfl rfl ?_
        refine v_callV (as := [.int (nI s)]) (q := (R_Ma, T_Ma, 7)) hx (c_Ma_leastThatAgrees hM hA hlo s (by omega) hfi) cy_Ma_leastThatAgrees k_Ma_53 ki_Ma_leastThatAgrees kl_Ma_leastThatAgrees d_Ma_splitSets_19 (by decide) (ci := 1) rfl hM.m0 hM.f0 (by decide) rfl rfl (Nat.le_of_ble_eq_true rfl) (fun v2 L f p2 => ?_)
        obtain ⟨⟨z, rfl, hz⟩, rfl, rfl⟩ := p2
        refine nn_iast hx d_Ma_splitSets_22 hM.m4 hM.f4 (by omega) (by decide) (fun f3 hf3 => ?_)
        have hF := hF.up hf3 hM.o4
        have hM := hM.up4 hf3
        have ezz : va_up fi s z s = z := va_up_self _ _ _
        have hz40 : z < 40 := by have := hz.1; omega
        have hls := hlo s (by omega)
        refine v_iload_n hx d_Ma_splitSets_23 rfl rfl ?_
        refine v_aload_n hx d_Ma_splitSets_24 rfl rfl ?_
        refine v_get hx cf_Ma 3 (by decide) k_Ma_21 d_Ma_splitSets_25 hM.m0 hM.f0 rfl ?_
        refine v_iload_n hx d_Ma_splitSets_28 rfl rfl ?_
        refine n_iald hx d_Ma_splitSets_29 hM.m4 hM.f4 (by omega) (by decide) ?_
        refine v_aload_n hx d_Ma_splitSets_30 rfl rfl ?_
        refine v_get hx cf_Ma 2 (by decide) k_Ma_18 d_Ma_splitSets_31 hM.m0 hM.f0 rfl ?_
        refine v_iload_n hx d_Ma_splitSets_34 rfl rfl ?_
        refine n_iald hx d_Ma_splitSets_35 hM.m3 hM.f3 (by omega) (by decide) ?_
        refine n_icmp_eq (tgt := 43) hx d_Ma_splitSets_36 (by decide) (by first | omega | (rw [ezz]; omega)) (by first | omega | (rw [ezz]; omega)) (fun c36 => ?_) (fun c36 => ?_)
        · refine v_iconst (v := (nI 0)) hx d_Ma_splitSets_43 rfl ?_
          refine v_ior (v := (bI (sp || false))) hx d_Ma_splitSets_44 (by cases sp <;> rfl) ?_
          refine v_istore_n (lv' := [some (.ref (A 0)), some (.int (bI (sp || false))), some (.int (nI s))]) hx d_Ma_splitSets_45 rfl (by decide) rfl ?_
          refine n_iinc (lv' := [some (.ref (A 0)), some (.int (bI (sp || false))), some (.int (nI (s + 1)))]) hx d_Ma_splitSets_46 rfl (by decide) rfl ?_
          refine v_goto (tgt := 4) hx d_Ma_splitSets_49 (by decide) ?_
          refine ih (s + 1) _ f3 (va_up fi s z) (by omega) (by omega) hM hF ?_ ?_
          · intro o ho
            rcases Nat.lt_succ_iff_lt_or_eq.mp ho with h | h
            · rw [va_up_ne _ _ (Nat.ne_of_lt h)]; exact hfi o h
            · subst h; rw [ezz]; exact hz
          · rw [Bool.or_false]
            refine Iff.trans hsp ⟨fun ⟨o, h1, h2⟩ => ⟨o, Nat.lt_succ_of_lt h1, by rw [va_up_ne _ _ (Nat.ne_of_lt h1)]; exact h2⟩, fun ⟨o, h1, h2⟩ => ?_⟩
            rcases Nat.lt_succ_iff_lt_or_eq.mp h1 with h | h
            · exact ⟨o, h, by rw [va_up_ne _ _ (Nat.ne_of_lt h)] at h2; exact h2⟩
            · subst h; exact absurd c36 h2
        · refine v_iconst (v := (nI 1)) hx d_Ma_splitSets_39 rfl ?_
          refine v_goto (tgt := 44) hx d_Ma_splitSets_40 (by decide) ?_
          refine v_ior (v := (bI (sp || true))) hx d_Ma_splitSets_44 (by cases sp <;> rfl) ?_
          refine v_istore_n (lv' := [some (.ref (A 0)), some (.int (bI (sp || true))), some (.int (nI s))]) hx d_Ma_splitSets_45 rfl (by decide) rfl ?_
          refine n_iinc (lv' := [some (.ref (A 0)), some (.int (bI (sp || true))), some (.int (nI (s + 1)))]) hx d_Ma_splitSets_46 rfl (by decide) rfl ?_
          refine v_goto (tgt := 4) hx d_Ma_splitSets_49 (by decide) ?_
          refine ih (s + 1) _ f3 (va_up fi s z) (by omega) (by omega) hM hF ?_ ?_
          · intro o ho
            rcases Nat.lt_succ_iff_lt_or_eq.mp ho with h | h
            · rw [va_up_ne _ _ (Nat.ne_of_lt h)]; exact hfi o h
            · subst h; rw [ezz]; exact hz
          · rw [Bool.or_true]; exact Iff.intro (fun _ => ⟨s, Nat.lt_succ_self _, c36⟩) (fun _ => rfl)
  exact H4 _ 0 false f0 fi (Nat.lt_succ_self _) (Nat.zero_le _) (hf0 ▸ hM) hF0 (fun _ h => absurd h (Nat.not_lt_zero _)) ⟨fun h => (by cases h), fun ⟨_, h, _⟩ => absurd h (Nat.not_lt_zero _)⟩
end
section
/-! ===== which states are like: the largest relation that the steps keep ===== -/
def bisim (nx ou : Nat → Nat) (k : Nat) (R : Nat → Nat → Prop) : Prop := ∀ a b, R a b → ∀ i, i < k → ou (a * 4 + i) = ou (b * 4 + i) ∧ R (nx (a * 4 + i)) (nx (b * 4 + i))
def Bis (nx ou : Nat → Nat) (k a b : Nat) : Prop := ∃ R : Nat → Nat → Prop, bisim nx ou k R ∧ R a b
theorem Bis.step {nx ou : Nat → Nat} {k a b : Nat} (h : Bis nx ou k a b) {i : Nat} (hi : i < k) : ou (a * 4 + i) = ou (b * 4 + i) ∧ Bis nx ou k (nx (a * 4 + i)) (nx (b * 4 + i)) := by
  obtain ⟨R, hR, hab⟩ := h
  exact ⟨(hR a b hab i hi).1, R, hR, (hR a b hab i hi).2⟩
theorem Bis.rf {nx ou : Nat → Nat} {k a : Nat} : Bis nx ou k a a := ⟨fun x y => x = y, fun x y h i _ => by subst h; exact ⟨rfl, rfl⟩, rfl⟩
theorem Bis.sym {nx ou : Nat → Nat} {k a b : Nat} (h : Bis nx ou k a b) : Bis nx ou k b a := by
  obtain ⟨R, hR, hab⟩ := h
  exact ⟨fun x y => R y x, fun x y q i hi => ⟨(hR y x q i hi).1.symm, (hR y x q i hi).2⟩, hab⟩
theorem Bis.tr {nx ou : Nat → Nat} {k a b c : Nat} (h : Bis nx ou k a b) (h2 : Bis nx ou k b c) : Bis nx ou k a c := by
  obtain ⟨R, hR, hab⟩ := h
  obtain ⟨S, hS, hbc⟩ := h2
  exact ⟨fun x z => ∃ y, R x y ∧ S y z, fun x z ⟨y, q1, q2⟩ i hi => ⟨(hR x y q1 i hi).1.trans (hS y z q2 i hi).1, _, (hR x y q1 i hi).2, (hS y z q2 i hi).2⟩, b, hab, hbc⟩
/-- lo s is the least state that is like s -/
def Lk (nx ou : Nat → Nat) (n k : Nat) (lo : Nat → Nat) : Prop := ∀ s, s < n → lo s ≤ s ∧ Bis nx ou k (lo s) s ∧ ∀ t, t < n → Bis nx ou k t s → lo s ≤ t
theorem Lk.ker {nx ou lo : Nat → Nat} {n k a b : Nat} (h : Lk nx ou n k lo) (ha : a < n) (hb : b < n) : lo a = lo b ↔ Bis nx ou k a b := by
  obtain ⟨h1, h2, h3⟩ := h a ha
  obtain ⟨g1, g2, g3⟩ := h b hb
  refine ⟨fun e => ?_, fun e => ?_⟩
  · rw [e] at h2; exact h2.sym.tr g2
  · have := h3 (lo b) (by omega) (g2.tr e.sym)
    have := g3 (lo a) (by omega) (h2.tr e)
    omega
theorem Lk.uniq {nx ou lo lo' : Nat → Nat} {n k : Nat} (h : Lk nx ou n k lo) (h' : Lk nx ou n k lo') {s : Nat} (hs : s < n) : lo s = lo' s := by
  obtain ⟨h1, h2, h3⟩ := h s hs
  obtain ⟨g1, g2, g3⟩ := h' s hs
  have := h3 (lo' s) (by omega) g2
  have := g3 (lo s) (by omega) h2
  omega
/-- what holds at each round -/
def Lr (nx ou : Nat → Nat) (n k : Nat) (lo : Nat → Nat) : Prop := (∀ s, s < n → lo s ≤ s ∧ lo (lo s) = lo s) ∧ (∀ s t, s < n → t < n → lo t = lo s → lo s ≤ t) ∧ ∀ a b, a < n → b < n → Bis nx ou k a b → lo a = lo b
theorem Lr.start {nx ou lo : Nat → Nat} {n k : Nat} (h : ∀ s, s < n → lo s = 0) : Lr nx ou n k lo := by
  refine ⟨fun s hs => ?_, fun s t hs _ _ => ?_, fun a b ha hb _ => ?_⟩
  · rw [h s hs]; exact ⟨Nat.zero_le _, h 0 (by omega)⟩
  · rw [h s hs]; exact Nat.zero_le _
  · rw [h a ha, h b hb]
theorem lag_ker {lo lo' nx ou : Nat → Nat} {n k : Nat} (h : ∀ s, s < n → lag lo nx ou k s (lo' s)) {a b : Nat} (ha : a < n) (hb : b < n) : lo' a = lo' b ↔ agr lo nx ou k a b := by
  have h1 := h a ha
  have h2 := h b hb
  refine ⟨fun e => ?_, fun e => ?_⟩
  · have q := h1.2.1
    rw [e] at q
    exact q.sym.tr h2.2.1
  · rcases Nat.lt_trichotomy (lo' a) (lo' b) with c | c | c
    · exact absurd (h1.2.1.tr e) (h2.2.2 _ c)
    · exact c
    · exact absurd (h2.2.1.tr e.sym) (h1.2.2 _ c)
theorem Lr.next {nx ou lo lo' : Nat → Nat} {n k : Nat} (hA : okA nx ou n k) (hL : Lr nx ou n k lo) (h : ∀ s, s < n → lag lo nx ou k s (lo' s)) : Lr nx ou n k lo' := by
  refine ⟨fun s hs => ⟨(h s hs).1, ?_⟩, fun s t hs ht e => ?_, fun a b ha hb e => ?_⟩
  · have q := h s hs
    exact (lag_ker h (by have := q.1; omega) hs).mpr q.2.1
  · have q := (lag_ker h ht hs).mp e
    rcases Nat.lt_or_ge t (lo' s) with c | c
    · exact absurd q ((h s hs).2.2 t c)
    · exact c
  · refine (lag_ker h ha hb).mpr ⟨hL.2.2 a b ha hb e, fun i hi => ⟨(e.step hi).1, hL.2.2 _ _ (hA.2.2.2.2 a i ha hi).1 (hA.2.2.2.2 b i hb hi).1 (e.step hi).2⟩⟩
theorem cn_lt {lo lo' : Nat → Nat} : ∀ {n : Nat}, (∀ s, s < n → lo s = s → lo' s = s) → (∃ t, t < n ∧ lo' t = t ∧ lo t ≠ t) → cn lo n < cn lo' n
  | 0, _, h => by obtain ⟨t, ht, _⟩ := h; omega
  | n + 1, h1, ⟨t, ht, h2, h3⟩ => by
    have mono : ∀ m, m ≤ n + 1 → cn lo m ≤ cn lo' m := by
      intro m
      induction m with
      | zero => intro _; exact Nat.le_refl _
      | succ m ih =>
        intro hm
        have q := ih (by omega)
        simp only [cn]
        by_cases e : lo m = m
        · rw [if_pos e, if_pos (h1 m (by omega) e)]; omega
        · rw [if_neg e]; split <;> omega
    have hn := mono n (by omega)
    simp only [cn]
    rcases Nat.lt_succ_iff_lt_or_eq.mp ht with c | c
    · have q := cn_lt (n := n) (fun s hs => h1 s (by omega)) ⟨t, c, h2, h3⟩
      by_cases e : lo n = n
      · rw [if_pos e, if_pos (h1 n (by omega) e)]; omega
      · rw [if_neg e]; split <;> omega
    · subst c
      rw [if_neg h3, if_pos h2]; omega
theorem Lr.grows {nx ou lo lo' : Nat → Nat} {n k : Nat} (hL : Lr nx ou n k lo) (h : ∀ s, s < n → lag lo nx ou k s (lo' s)) (hx : ∃ s, s < n ∧ lo' s ≠ lo s) : cn lo n < cn lo' n := by
  refine cn_lt (fun s hs e => ?_) ?_
  · have q := h s hs
    have h1 := q.1
    have h2 := hL.2.1 s (lo' s) hs (by omega) q.2.1.1
    omega
  · obtain ⟨s, hs, hne⟩ := hx
    have q := h s hs
    have h1 := q.1
    refine ⟨lo' s, by omega, (lag_ker h (by omega) hs).mpr q.2.1, fun e => hne ?_⟩
    have := q.2.1.1
    omega
theorem Lr.done {nx ou lo lo' : Nat → Nat} {n k : Nat} (hA : okA nx ou n k) (hL : Lr nx ou n k lo) (h : ∀ s, s < n → lag lo nx ou k s (lo' s)) (hx : ∀ s, s < n → lo' s = lo s) : Lk nx ou n k lo' := by
  have hb : ∀ a b, a < n → b < n → lo a = lo b → Bis nx ou k a b := by
    intro a b ha hb e
    refine ⟨fun x y => x < n ∧ y < n ∧ lo x = lo y, fun x y ⟨h1, h2, h3⟩ i hi => ?_, ha, hb, e⟩
    have q := (lag_ker h h1 h2).mp (by rw [hx x h1, hx y h2]; exact h3)
    exact ⟨(q.2 i hi).1, (hA.2.2.2.2 x i h1 hi).1, (hA.2.2.2.2 y i h2 hi).1, (q.2 i hi).2⟩
  have hL' := hL.next hA h
  intro s hs
  refine ⟨(hL'.1 s hs).1, ?_, fun t ht e => ?_⟩
  · have h1 := (hL'.1 s hs).1
    refine hb _ _ (by omega) hs ?_
    have h2 := (hL'.1 s hs).2
    rw [hx _ (by omega), hx s hs] at h2
    rw [hx s hs]
    exact h2
  · exact hL'.2.1 s t hs ht (hL'.2.2 t s ht hs e)
theorem fil_nI (g : Nat → Nat) (a b v : Nat) : fil (fun k => nI (g k)) a b (nI v) = fun k => nI (if a ≤ k ∧ k < b then v else g k) := by
  funext j
  simp only [fil]
  split <;> rfl
end
section
theorem cn1 {lo : Nat → Nat} (h : lo 0 = 0) : ∀ {n : Nat}, 1 ≤ n → 0 + 1 ≤ cn lo n
  | 0, h1 => by omega
  | 1, _ => by simp [cn, h]
  | n + 2, _ => by
    have := cn1 h (n := n + 1) (by omega)
    show 0 + 1 ≤ (if lo (n + 1) = n + 1 then cn lo (n + 1) + 1 else cn lo (n + 1))
    split <;> omega
set_option maxHeartbeats 4000000 in
set_option maxRecDepth 100000 in
/-- finds which are like -/
theorem c_Ma_settle {G : GT} {L : List Nat} {f : Nat → va_E} {w : Nat → Nat} {id : Nat} {A : Nat → Nat} {nx ou lo fi : Nat → Nat} {n k b : Nat} (hM : MaAt G L f w id A nx ou lo fi n k b) (hA : okA nx ou n k) (hb : b = 0 ∨ b = 1 ∧ Lk nx ou n k lo) : Con G y_Ma_settle (.code y_Ma_settle b_Ma_settle 3 none :: BIG) 4 89 0 0 [.ref (A 0)] L f (fun v L' f' => v = none ∧ L' = L ∧ ∃ lo' fi' : Nat → Nat, MaAt G L f' w id A nx ou lo' fi' n k 1 ∧ gF w id f f' ∧ Lk nx ou n k lo') := by
  refine con_of (cc := b_Ma_settle) (mL := 3) (lv := [some (.ref (A 0)), none, none]) (by decide) (by intro w hw; simp at hw; rcases hw with rfl <;> rfl) (by first | exact Nat.le_of_ble_eq_true rfl | decide) rfl ?_
  intro x hx hr hin
  have hA_ := hA
  obtain ⟨hn1, hn2, hk1, hk2, hnx⟩ := hA_
  refine v_aload_n hx d_Ma_settle_0 rfl rfl ?_
  refine v_get hx cf_Ma 6 (by decide) k_Ma_35 d_Ma_settle_1 hM.m0 hM.f0 rfl ?_
  refine n_if_eq (tgt := 8) hx d_Ma_settle_4 (by decide) (by rcases hb with h | h <;> omega) (fun c4 => ?_) (fun c4 => ?_)
  · refine v_aload_n hx d_Ma_settle_8 rfl rfl ?_
    refine v_get hx cf_Ma 2 (by decide) k_Ma_18 d_Ma_settle_9 hM.m0 hM.f0 rfl ?_
    refine v_iconst (v := (nI 0)) hx d_Ma_settle_12 rfl ?_
    refine v_aload_n hx d_Ma_settle_13 rfl rfl ?_
    refine v_get hx cf_Ma 4 (by decide) k_Ma_24 d_Ma_settle_14 hM.m0 hM.f0 rfl ?_
    refine v_iconst (v := (nI 0)) hx d_Ma_settle_17 rfl ?_
    refine v_callS (as := [.ref (A 3), .int (nI 0), .int (nI n), .int (nI 0)]) hx (c_Ar_fill hM.m3 hM.f3 (by decide) 0 n (nI 0) (Nat.zero_le _) (by omega)) cy_Ar_fill k_Ma_43 ks_Ar_fill d_Ma_settle_18 (by decide) (by decide) rfl rfl (Nat.le_of_ble_eq_true rfl) (fun v1 L f1 p1 => ?_)
    obtain ⟨rfl, rfl, e18⟩ := p1
    rw [fil_nI] at e18
    have hF := gF.up (gF.rf (w := w) (id := id) (f := f)) e18 hM.o3
    have hM := hM.up3 e18
    refine v_iconst (v := (nI 1)) hx d_Ma_settle_21 rfl ?_
    refine v_istore_n (lv' := [some (.ref (A 0)), some (.int (nI 1)), none]) hx d_Ma_settle_22 rfl (by decide) rfl ?_
    refine v_iconst (v := (nI 0)) hx d_Ma_settle_23 rfl ?_
    refine v_istore_n (lv' := [some (.ref (A 0)), some (.int (nI 1)), some (.int (nI 0))]) hx d_Ma_settle_24 rfl (by decide) rfl ?_
    have H25 : ∀ (m : Nat) (rd : Nat) (sp : Bool) (f1 : Nat → va_E) (lo : Nat → Nat) (fi : Nat → Nat), n - rd < m → (rd ≤ n) → (MaAt G L f1 w id A nx ou lo fi n k b) → (gF w id f f1) → (Lr nx ou n k lo) → (sp = true → rd + 1 ≤ cn lo n) → (sp = false → Lk nx ou n k lo) → V G { frames := 4, cells := 0, slots := 0, locals := 89 } 3 x L f1 0 0 [some (.ref (A 0)), some (.int (bI sp)), some (.int (nI rd))] 25 [] := by
      intro m
      induction m with
      | zero => intro rd sp f1 lo fi hm; exact absurd hm (Nat.not_lt_zero _)
      | succ m ih =>
        intro rd sp f1 lo fi hm hrd hM hF hL hsp hdn
        refine v_iload_n hx d_Ma_settle_25 rfl rfl ?_
        refine v_aload_n hx d_Ma_settle_26 rfl rfl ?_
        refine v_get hx cf_Ma 4 (by decide) k_Ma_24 d_Ma_settle_27 hM.m0 hM.f0 rfl ?_
        refine n_icmp_ge (tgt := 48) hx d_Ma_settle_30 (by decide) (by omega) (by omega) (fun c30 => ?_) (fun c30 => ?_)
        · have hst : sp = false := by first | exact (bI_0 sp).mp c34 | exact Bool.eq_false_iff.mpr (fun hs0 => by have := hsp hs0; have := cn_le lo n; omega)
          have hLk := hdn hst
          refine v_aload_n hx d_Ma_settle_48 rfl rfl ?_
          refine v_iconst (v := (nI 1)) hx d_Ma_settle_49 rfl ?_
          refine v_put hx cf_Ma 6 (by decide) k_Ma_35 rfl rfl rfl d_Ma_settle_50 hM.m0 hM.f0 (Nat.le_of_ble_eq_true rfl) (fun f2 hf2 => ?_)
          have hF := hF.up hf2 hM.o0
          have hM := hM.up0 hf2
          exact v_vret hx hr d_Ma_settle_53 ⟨rfl, rfl, lo, fi, hM, hF, hLk⟩
        · refine v_iload_n hx d_Ma_settle_33 rfl rfl ?_
          refine v_if_eq (tgt := 48) hx d_Ma_settle_34 (by decide) (fun c34 => ?_) (fun c34 => ?_)
          · have hst : sp = false := by first | exact (bI_0 sp).mp c34 | exact Bool.eq_false_iff.mpr (fun hs0 => by have := hsp hs0; have := cn_le lo n; omega)
            have hLk := hdn hst
            refine v_aload_n hx d_Ma_settle_48 rfl rfl ?_
            refine v_iconst (v := (nI 1)) hx d_Ma_settle_49 rfl ?_
            refine v_put hx cf_Ma 6 (by decide) k_Ma_35 rfl rfl rfl d_Ma_settle_50 hM.m0 hM.f0 (Nat.le_of_ble_eq_true rfl) (fun f3 hf3 => ?_)
            have hF := hF.up hf3 hM.o0
            have hM := hM.up0 hf3
            exact v_vret hx hr d_Ma_settle_53 ⟨rfl, rfl, lo, fi, hM, hF, hLk⟩
          · refine v_aload_n hx d_Ma_settle_37 rfl rfl ?_
            refine v_callV (as := []) (q := (R_Ma, T_Ma, 7)) hx (c_Ma_splitSets hM hA (fun s hs => by have := (hL.1 s hs).1; omega)) cy_Ma_splitSets k_Ma_49 ki_Ma_splitSets kl_Ma_splitSets d_Ma_settle_38 (by decide) (ci := 1) rfl hM.m0 hM.f0 (by decide) rfl rfl (Nat.le_of_ble_eq_true rfl) (fun v4 L f2 p4 => ?_)
            obtain ⟨fi2, lo2, sp2, rfl, rfl, hM2, hF2, hlag, hsp2⟩ := p4
            refine v_istore_n (lv' := [some (.ref (A 0)), some (.int (bI sp2)), some (.int (nI rd))]) hx d_Ma_settle_41 rfl (by decide) rfl ?_
            refine n_iinc (lv' := [some (.ref (A 0)), some (.int (bI sp2)), some (.int (nI (rd + 1)))]) hx d_Ma_settle_42 rfl (by decide) rfl ?_
            refine v_goto (tgt := 25) hx d_Ma_settle_45 (by decide) ?_
            refine ih (rd + 1) sp2 f2 lo2 fi2 (by omega) (by omega) hM2 (hF.tr hF2) (hL.next hA hlag) (fun e => ?_) (fun e => ?_)
            · have q := hL.grows hlag (hsp2.mp e)
              have hs1 : sp = true := Bool.of_not_eq_false (fun h => c34 ((bI_0 sp).mpr h))
              have := hsp hs1
              omega
            · refine hL.done hA hlag (fun s hs => ?_)
              rcases Nat.decEq (lo2 s) (lo s) with c | c
              · exact absurd (hsp2.mpr ⟨s, hs, c⟩) (by rw [e]; decide)
              · exact c
    exact H25 _ 0 true _ _ _ (Nat.lt_succ_self _) (Nat.zero_le _) hM hF (Lr.start (fun s hs => if_pos ⟨Nat.zero_le _, hs⟩)) (fun _ => cn1 (lo := fun k => if 0 ≤ k ∧ k < n then 0 else lo k) (if_pos ⟨Nat.zero_le _, by omega⟩) (by omega)) (fun e => by cases e)
  · obtain ⟨hb1, hLk⟩ : b = 1 ∧ Lk nx ou n k lo := hb.resolve_left (by omega)
    subst hb1
    exact v_vret hx hr d_Ma_settle_7 ⟨rfl, rfl, lo, fi, hM, gF.rf, hLk⟩
set_option maxHeartbeats 4000000 in
set_option maxRecDepth 100000 in
/-- a machine afresh -/
theorem c_Ma_begin {G : GT} {L : List Nat} {f : Nat → va_E} {w : Nat → Nat} {id : Nat} {A : Nat → Nat} {nx ou lo fi : Nat → Nat} {n k b : Nat} (hM : MaAt G L f w id A nx ou lo fi n k b) (n' k' : Nat) (hn : 1 ≤ n' ∧ n' ≤ 40) (hk : 1 ≤ k' ∧ k' ≤ 4) : Con G y_Ma_begin (.code y_Ma_begin b_Ma_begin 5 none :: BIG) 1 24 0 0 [.ref (A 0), .int (nI n'), .int (nI k')] L f (fun v L' f' => v = none ∧ L' = L ∧ ∃ nx' ou' : Nat → Nat, MaAt G L f' w id A nx' ou' lo fi n' k' 0 ∧ gF w id f f' ∧ ∀ s i, s < n' → i < k' → nx' (s * 4 + i) = s ∧ ou' (s * 4 + i) = 0) := by
  refine con_of (cc := b_Ma_begin) (mL := 5) (lv := [some (.ref (A 0)), some (.int (nI n')), some (.int (nI k')), none, none]) (by decide) (by intro w hw; simp at hw; rcases hw with rfl | rfl | rfl <;> rfl) (by first | exact Nat.le_of_ble_eq_true rfl | decide) rfl ?_
  intro x hx hr hin
  refine v_aload_n hx d_Ma_begin_0 rfl rfl ?_
  refine v_iload_n hx d_Ma_begin_1 rfl rfl ?_
  refine v_put hx cf_Ma 4 (by decide) k_Ma_24 rfl rfl rfl d_Ma_begin_2 hM.m0 hM.f0 (Nat.le_of_ble_eq_true rfl) (fun f1 hf1 => ?_)
  have hF := gF.up (gF.rf (w := w) (id := id) (f := f)) hf1 hM.o0
  have hM := hM.up0 hf1
  refine v_aload_n hx d_Ma_begin_5 rfl rfl ?_
  refine v_iload_n hx d_Ma_begin_6 rfl rfl ?_
  refine v_put hx cf_Ma 5 (by decide) k_Ma_28 rfl rfl rfl d_Ma_begin_7 hM.m0 hM.f0 (Nat.le_of_ble_eq_true rfl) (fun f2 hf2 => ?_)
  have hF := hF.up hf2 hM.o0
  have hM := hM.up0 hf2
  refine v_iconst (v := (nI 0)) hx d_Ma_begin_10 rfl ?_
  refine v_istore_n (lv' := [some (.ref (A 0)), some (.int (nI n')), some (.int (nI k')), some (.int (nI 0)), none]) hx d_Ma_begin_11 rfl (by decide) rfl ?_
  have H12 : ∀ (m : Nat) (s : Nat) (f1 : Nat → va_E) (nx : Nat → Nat) (ou : Nat → Nat) (b : Nat), n' - s < m → (s ≤ n') → (MaAt G L f1 w id A nx ou lo fi n' k' b) → (gF w id f f1) → (1 ≤ s → b = 0) → (∀ a c, a < s → c < k' → nx (a * 4 + c) = a ∧ ou (a * 4 + c) = 0) → V G { frames := 1, cells := 0, slots := 0, locals := 24 } 5 x L f1 0 0 [some (.ref (A 0)), some (.int (nI n')), some (.int (nI k')), some (.int (nI s)), none] 12 [] := by
    intro m
    induction m with
    | zero => intro s f1 nx ou b hm; exact absurd hm (Nat.not_lt_zero _)
    | succ m ih =>
      intro s f1 nx ou b hm hs hM hF hb hv
      have ihO := ih
      refine v_iload_n hx d_Ma_begin_12 rfl rfl ?_
      refine v_aload_n hx d_Ma_begin_13 rfl rfl ?_
      refine v_get hx cf_Ma 4 (by decide) k_Ma_24 d_Ma_begin_14 hM.m0 hM.f0 rfl ?_
      refine n_icmp_ge (tgt := 53) hx d_Ma_begin_17 (by decide) (by omega) (by omega) (fun c17 => ?_) (fun c17 => ?_)
      · have hs2 : s = n' := by omega
        have hb0 := hb (by omega)
        subst hb0
        exact v_vret hx hr d_Ma_begin_53 ⟨rfl, rfl, nx, ou, hM, hF, fun a c h1 h2 => hv a c (by omega) h2⟩
      · refine v_iconst (v := (nI 0)) hx d_Ma_begin_20 rfl ?_
        refine v_istore (lv' := [some (.ref (A 0)), some (.int (nI n')), some (.int (nI k')), some (.int (nI s)), some (.int (nI 0))]) hx d_Ma_begin_21 (by decide) rfl ?_
        have H23 : ∀ (m : Nat) (i : Nat) (f1 : Nat → va_E) (nx : Nat → Nat) (ou : Nat → Nat) (b : Nat), k' - i < m → (i ≤ k') → (MaAt G L f1 w id A nx ou lo fi n' k' b) → (gF w id f f1) → (1 ≤ s + i → b = 0) → (∀ a c, (a < s ∨ a = s ∧ c < i) → c < k' → nx (a * 4 + c) = a ∧ ou (a * 4 + c) = 0) → V G { frames := 1, cells := 0, slots := 0, locals := 24 } 5 x L f1 0 0 [some (.ref (A 0)), some (.int (nI n')), some (.int (nI k')), some (.int (nI s)), some (.int (nI i))] 23 [] := by
          intro m
          induction m with
          | zero => intro i f1 nx ou b hm; exact absurd hm (Nat.not_lt_zero _)
          | succ m ih =>
            intro i f1 nx ou b hm hi hM hF hb hv
            refine v_iload hx d_Ma_begin_23 rfl ?_
            refine v_aload_n hx d_Ma_begin_25 rfl rfl ?_
            refine v_get hx cf_Ma 5 (by decide) k_Ma_28 d_Ma_begin_26 hM.m0 hM.f0 rfl ?_
            refine n_icmp_ge (tgt := 47) hx d_Ma_begin_29 (by decide) (by omega) (by omega) (fun c29 => ?_) (fun c29 => ?_)
            · refine n_iinc (lv' := [some (.ref (A 0)), some (.int (nI n')), some (.int (nI k')), some (.int (nI (s + 1))), some (.int (nI i))]) hx d_Ma_begin_47 rfl (by decide) rfl ?_
              refine v_goto (tgt := 12) hx d_Ma_begin_50 (by decide) ?_
              exact v_weak (by simp [vsub]) (ihO (s + 1) f1 nx ou b (by omega) (by omega) hM hF (fun _ => hb (by omega)) (fun a c h1 h2 => hv a c (by omega) h2))
            · refine v_aload_n hx d_Ma_begin_32 rfl rfl ?_
              refine v_iload_n hx d_Ma_begin_33 rfl rfl ?_
              refine v_iload hx d_Ma_begin_34 rfl ?_
              refine v_iload_n hx d_Ma_begin_36 rfl rfl ?_
              refine v_iconst (v := (nI 0)) hx d_Ma_begin_37 rfl ?_
              refine v_callV (as := [.int (nI s), .int (nI i), .int (nI s), .int (nI 0)]) (q := (R_Ma, T_Ma, 7)) hx (c_Ma_setArrow hM s i s 0 (by omega) (by omega)) cy_Ma_setArrow k_Ma_31 ki_Ma_setArrow kl_Ma_setArrow d_Ma_begin_38 (by decide) (ci := 1) rfl hM.m0 hM.f0 (by decide) rfl rfl (Nat.le_of_ble_eq_true rfl) (fun v3 L f2 p3 => ?_)
              obtain ⟨rfl, rfl, hM2, hF2⟩ := p3
              refine n_iinc (lv' := [some (.ref (A 0)), some (.int (nI n')), some (.int (nI k')), some (.int (nI s)), some (.int (nI (i + 1)))]) hx d_Ma_begin_41 rfl (by decide) rfl ?_
              refine v_goto (tgt := 23) hx d_Ma_begin_44 (by decide) ?_
              refine ih (i + 1) f2 _ _ _ (by omega) (by omega) hM2 (hF.tr hF2) (fun _ => rfl) (fun a c h1 h2 => ?_)
              by_cases e : a * 4 + c = s * 4 + i
              · rw [e, va_up_self, va_up_self]; exact ⟨by omega, rfl⟩
              · rw [va_up_ne _ _ e, va_up_ne _ _ e]; exact hv a c (by omega) h2
        exact H23 _ 0 f1 nx ou b (Nat.lt_succ_self _) (Nat.zero_le _) hM hF (fun h => hb (by omega)) (fun a c h1 h2 => hv a c (by omega) h2)
  exact H12 _ 0 _ nx ou b (Nat.lt_succ_self _) (Nat.zero_le _) hM hF (fun h => by omega) (fun a c h1 h2 => by omega)
set_option maxHeartbeats 4000000 in
set_option maxRecDepth 100000 in
/-- a new machine object -/
theorem c_Ma_init {G : GT} {L : List Nat} {f : Nat → va_E} {w : Nat → Nat} {id o : Nat} (ho : o ∈ L) (hw : w o = id) (hf : f o = .inr (1, [.null, .null, .null, .null, .int 0, .int 0, .int 0])) : Con G y_Ma_init (.code y_Ma_init b_Ma_init 1 none :: BIG) 1 12 4 400 [.ref o] L f (fun v L' f' => v = none ∧ ∃ (A w' : Nat → Nat), A 0 = o ∧ (∀ q, q ∈ L → q ∈ L') ∧ (∀ q, q ∈ L → w' q = w q) ∧ (∀ q, q ∉ L → w' q = id) ∧ MaAt G L' f' w' id A (fun _ => 0) (fun _ => 0) (fun _ => 0) (fun _ => 0) 0 0 0 ∧ ∀ q, q ∈ L → q ≠ o → f' q = f q) := by
  refine con_of (cc := b_Ma_init) (mL := 1) (lv := [some (.ref o)]) (by decide) (by intro w hw; simp at hw; rcases hw with rfl <;> rfl) (by first | exact Nat.le_of_ble_eq_true rfl | decide) rfl ?_
  intro x hx hr hin
  refine v_aload_n hx d_Ma_init_0 rfl rfl ?_
  refine v_objInit hx k_Ma_3 ki_Ob_init kc_Ob_init d_Ma_init_1 (by decide) ?_
  refine v_aload_n hx d_Ma_init_4 rfl rfl ?_
  refine v_sipush (v := (nI 160)) hx d_Ma_init_5 rfl ?_
  refine m_newa hx d_Ma_init_8 (by decide) (by decide) (by decide) (fun q1 g1 hq1 eq1 => ?_)
  have mo1 := List.mem_append_left [q1] ho
  have z1 : o ≠ q1 := fun z => hq1 (z ▸ ho)
  have po1 := (congrFun eq1 o).trans ((va_up_ne _ _ z1).trans hf)
  refine v_putF hx cf_Ma 0 (by decide) k_Ma_9 rfl hin rfl rfl rfl d_Ma_init_10 mo1 po1 (Nat.le_of_ble_eq_true rfl) (fun k1 hk1 => ?_)
  have ho1 := (congrFun hk1 o).trans (va_up_self _ _ _)
  refine v_aload_n hx d_Ma_init_13 rfl rfl ?_
  refine v_sipush (v := (nI 160)) hx d_Ma_init_14 rfl ?_
  refine m_newa hx d_Ma_init_17 (by decide) (by decide) (by decide) (fun q2 g2 hq2 eq2 => ?_)
  have mo2 := List.mem_append_left [q2] mo1
  have z2 : o ≠ q2 := fun z => hq2 (z ▸ mo1)
  have po2 := (congrFun eq2 o).trans ((va_up_ne _ _ z2).trans ho1)
  refine v_putF hx cf_Ma 1 (by decide) k_Ma_15 rfl hin rfl rfl rfl d_Ma_init_19 mo2 po2 (Nat.le_of_ble_eq_true rfl) (fun k2 hk2 => ?_)
  have ho2 := (congrFun hk2 o).trans (va_up_self _ _ _)
  refine v_aload_n hx d_Ma_init_22 rfl rfl ?_
  refine v_bipush (v := (nI 40)) hx d_Ma_init_23 rfl ?_
  refine m_newa hx d_Ma_init_25 (by decide) (by decide) (by decide) (fun q3 g3 hq3 eq3 => ?_)
  have mo3 := List.mem_append_left [q3] mo2
  have z3 : o ≠ q3 := fun z => hq3 (z ▸ mo2)
  have po3 := (congrFun eq3 o).trans ((va_up_ne _ _ z3).trans ho2)
  refine v_putF hx cf_Ma 2 (by decide) k_Ma_18 rfl hin rfl rfl rfl d_Ma_init_27 mo3 po3 (Nat.le_of_ble_eq_true rfl) (fun k3 hk3 => ?_)
  have ho3 := (congrFun hk3 o).trans (va_up_self _ _ _)
  refine v_aload_n hx d_Ma_init_30 rfl rfl ?_
  refine v_bipush (v := (nI 40)) hx d_Ma_init_31 rfl ?_
  refine m_newa hx d_Ma_init_33 (by decide) (by decide) (by decide) (fun q4 g4 hq4 eq4 => ?_)
  have mo4 := List.mem_append_left [q4] mo3
  have z4 : o ≠ q4 := fun z => hq4 (z ▸ mo3)
  have po4 := (congrFun eq4 o).trans ((va_up_ne _ _ z4).trans ho3)
  refine v_putF hx cf_Ma 3 (by decide) k_Ma_21 rfl hin rfl rfl rfl d_Ma_init_35 mo4 po4 (Nat.le_of_ble_eq_true rfl) (fun k4 hk4 => ?_)
  have ho4 := (congrFun hk4 o).trans (va_up_self _ _ _)
  have hL : L ++ [q1] ++ [q2] ++ [q3] ++ [q4] = L ++ [q1, q2, q3, q4] := by simp
  have n1 : q1 ≠ o := Ne.symm z1
  have n2 : q2 ≠ o := Ne.symm z2
  have n3 : q3 ≠ o := Ne.symm z3
  have n4 : q4 ≠ o := Ne.symm z4
  simp only [List.mem_append, List.mem_singleton, not_or] at hq1 hq2 hq3 hq4
  have hO := own_of (L := L) (w := w) (id := id) (o := o) [q1, q2, q3, q4] ho hw (by simp [Ne.symm hq2.2, Ne.symm hq3.1.2, Ne.symm hq3.2, Ne.symm hq4.1.1.2, Ne.symm hq4.1.2, Ne.symm hq4.2]) (by simp [hq1, hq2, hq3, hq4])
  rw [hL]
  refine v_vret hx hr d_Ma_init_38 ⟨rfl, _, _, rfl, fun q h => List.mem_append_left _ h, fun q h => if_pos h, fun q h => if_neg h, ⟨hO, ho4, ?_, ?_, ?_, ?_⟩, fun q h1 h2 => ?_⟩
  · show k4 q1 = _; rw [hk4, va_up_ne _ _ n1, eq4, va_up_ne _ _ (Ne.symm hq4.1.1.2), hk3, va_up_ne _ _ n1, eq3, va_up_ne _ _ (Ne.symm hq3.1.2), hk2, va_up_ne _ _ n1, eq2, va_up_ne _ _ (Ne.symm hq2.2), hk1, va_up_ne _ _ n1, eq1, va_up_self]
  · show k4 q2 = _; rw [hk4, va_up_ne _ _ n2, eq4, va_up_ne _ _ (Ne.symm hq4.1.2), hk3, va_up_ne _ _ n2, eq3, va_up_ne _ _ (Ne.symm hq3.2), hk2, va_up_ne _ _ n2, eq2, va_up_self]
  · show k4 q3 = _; rw [hk4, va_up_ne _ _ n3, eq4, va_up_ne _ _ (Ne.symm hq4.2), hk3, va_up_ne _ _ n3, eq3, va_up_self]
  · show k4 q4 = _; rw [hk4, va_up_ne _ _ n4, eq4, va_up_self]
  · rw [hk4, va_up_ne _ _ h2, eq4, va_up_ne _ _ (show q ≠ q4 from fun z => hq4.1.1.1 (z ▸ h1)), hk3, va_up_ne _ _ h2, eq3, va_up_ne _ _ (show q ≠ q3 from fun z => hq3.1.1 (z ▸ h1)), hk2, va_up_ne _ _ h2, eq2, va_up_ne _ _ (show q ≠ q2 from fun z => hq2.1 (z ▸ h1)), hk1, va_up_ne _ _ h2, eq1, va_up_ne _ _ (show q ≠ q1 from fun z => hq1 (z ▸ h1))]
end
section
/-! ===== rows of places found one behind the other ===== -/
/-- (place, number from which it was found, input) -/
abbrev Qu : Type := List (Nat × Nat × Nat)
def qP (q : Qu) (i : Nat) : Nat := (q.getD i (0, 0, 0)).1
def qF (q : Qu) (i : Nat) : Nat := (q.getD i (0, 0, 0)).2.1
def qB (q : Qu) (i : Nat) : Nat := (q.getD i (0, 0, 0)).2.2
abbrev qPs (q : Qu) : List Nat := q.map Prod.fst
/-- a place is come to -/
def qr (q : Qu) (p fr i : Nat) : Qu := if p ∈ qPs q then q else q ++ [(p, fr, i)]
theorem qP_old {q : Qu} {e : Nat × Nat × Nat} {i : Nat} (h : i < q.length) : qP (q ++ [e]) i = qP q i := by simp [qP, List.getElem?_append, h]
theorem qF_old {q : Qu} {e : Nat × Nat × Nat} {i : Nat} (h : i < q.length) : qF (q ++ [e]) i = qF q i := by simp [qF, List.getElem?_append, h]
theorem qB_old {q : Qu} {e : Nat × Nat × Nat} {i : Nat} (h : i < q.length) : qB (q ++ [e]) i = qB q i := by simp [qB, List.getElem?_append, h]
theorem qP_new {q : Qu} {p a b : Nat} : qP (q ++ [(p, a, b)]) q.length = p := by simp [qP]
theorem qF_new {q : Qu} {p a b : Nat} : qF (q ++ [(p, a, b)]) q.length = a := by simp [qF]
theorem qB_new {q : Qu} {p a b : Nat} : qB (q ++ [(p, a, b)]) q.length = b := by simp [qB]
theorem qP_mem {q : Qu} {i : Nat} (h : i < q.length) : qP q i ∈ qPs q := by
  refine List.mem_map.mpr ⟨q[i], List.getElem_mem h, ?_⟩
  simp [qP, h]
theorem qP_ex {q : Qu} {p : Nat} (h : p ∈ qPs q) : ∃ i, i < q.length ∧ qP q i = p := by
  obtain ⟨e, he, rfl⟩ := List.mem_map.mp h
  obtain ⟨i, hi, h2⟩ := List.mem_iff_getElem.mp he
  exact ⟨i, hi, by simp [qP, hi, h2]⟩
theorem qP_inj {q : Qu} (hn : (qPs q).Nodup) {i j : Nat} (hi : i < q.length) (hj : j < q.length) (e : qP q i = qP q j) : i = j := by
  have hp := List.pairwise_iff_getElem.mp hn
  have a1 : ∀ m (hm : m < q.length), qP q m = (qPs q)[m]'(by simpa using hm) := fun m hm => by simp [qP, hm]
  rcases Nat.lt_trichotomy i j with c | c | c
  · exact absurd (by rw [← a1 i hi, ← a1 j hj]; exact e) (hp i j (by simpa using hi) (by simpa using hj) c)
  · exact c
  · exact absurd (by rw [← a1 i hi, ← a1 j hj]; exact e.symm) (hp j i (by simpa using hj) (by simpa using hi) c)
/-- no more different numbers below D than D -/
theorem pigeon : ∀ (D : Nat) (l : List Nat), l.Nodup → (∀ p ∈ l, p < D) → l.length ≤ D
  | 0, l, _, h => by
    cases l with
    | nil => exact Nat.le_refl _
    | cons a l => exact absurd (h a List.mem_cons_self) (Nat.not_lt_zero _)
  | D + 1, l, hn, h => by
    have h1 := pigeon D (l.filter (fun p => decide (p ≠ D))) (hn.filter _) (fun p hp => by
      have := List.mem_filter.mp hp
      have h2 := h p this.1
      have h3 : p ≠ D := by simpa using this.2
      omega)
    have h2 : l.length ≤ (l.filter (fun p => decide (p ≠ D))).length + 1 := by
      clear h1 h
      induction l with
      | nil => simp
      | cons a l ih =>
        have hn' := List.nodup_cons.mp hn
        by_cases e : a = D
        · subst e
          have e2 : l.filter (fun p => decide (p ≠ a)) = l := List.filter_eq_self.mpr (fun p hp => by
            have : p ≠ a := fun z => hn'.1 (z ▸ hp)
            simpa using this)
          rw [List.filter_cons_of_neg (by simp), e2]
          simp
        · rw [List.filter_cons_of_pos (by simpa using e)]
          have := ih hn'.2
          simp only [List.length_cons]
          omega
    omega
/-- a row that is well made: each found from one ahead, by an input -/
def qOK (q : Qu) (D : Nat) : Prop := (qPs q).Nodup ∧ (∀ p ∈ qPs q, p < D) ∧ ∀ i, i < q.length → qB q i < 4 ∧ (0 < i → qF q i < i) ∧ (i = 0 → qF q i = 0)
theorem qOK.len {q : Qu} {D : Nat} (h : qOK q D) : q.length ≤ D := by
  have := pigeon D (qPs q) h.1 h.2.1
  simpa using this
theorem qOK.add {q : Qu} {D p fr i : Nat} (h : qOK q D) (hp : p < D) (hf : fr < q.length ∨ q.length = 0 ∧ fr = 0) (hi : i < 4) (hn : p ∉ qPs q) : qOK (q ++ [(p, fr, i)]) D := by
  refine ⟨?_, ?_, ?_⟩
  · have : qPs (q ++ [(p, fr, i)]) = qPs q ++ [p] := by simp [qPs]
    rw [this]
    exact List.nodup_append.mpr ⟨h.1, by simp, fun a ha b hb => by simp at hb; subst hb; exact fun z => hn (z ▸ ha)⟩
  · intro a ha
    have e : qPs (q ++ [(p, fr, i)]) = qPs q ++ [p] := by simp [qPs]
    rw [e] at ha
    rcases List.mem_append.mp ha with c | c
    · exact h.2.1 a c
    · simp at c; omega
  · intro j hj
    have hj' : j < q.length + 1 := by simpa using hj
    rcases Nat.lt_succ_iff_lt_or_eq.mp hj' with c | c
    · rw [qB_old c, qF_old c]; exact h.2.2 j c
    · subst c; rw [qB_new, qF_new]; exact ⟨hi, fun _ => by omega, fun _ => by omega⟩
theorem qOK.r {q : Qu} {D p fr i : Nat} (h : qOK q D) (hp : p < D) (hf : fr < q.length ∨ q.length = 0 ∧ fr = 0) (hi : i < 4) : qOK (qr q p fr i) D := by
  unfold qr
  split
  · exact h
  · rename_i c; exact h.add hp hf hi c
theorem qr_len (q : Qu) (p fr i : Nat) : q.length ≤ (qr q p fr i).length := by
  unfold qr
  split
  · exact Nat.le_refl _
  · simp
theorem qr_pre {q : Qu} {p fr i j : Nat} (h : j < q.length) : qP (qr q p fr i) j = qP q j := by
  unfold qr
  split
  · rfl
  · exact qP_old h
/-- Search holds the row q of places below D -/
def SeQ (nm : Nat → Option Nat) (pl st : Nat → Nat) (c D : Nat) (q : Qu) : Prop := c = q.length ∧ (∀ i, i < c → pl i = qP q i ∧ st i = qF q i * 4 + qB q i ∧ nm (qP q i) = some i) ∧ ∀ p, p < D → p ∉ qPs q → nm p = none
theorem SeQ.add {nm : Nat → Option Nat} {pl st : Nat → Nat} {c D p fr i : Nat} {q : Qu} (h : SeQ nm pl st c D q) (hp : p < D) (hn : p ∉ qPs q) : SeQ (va_up nm p (some c)) (va_up pl c p) (va_up st c (fr * 4 + i)) (c + 1) D (q ++ [(p, fr, i)]) := by
  obtain ⟨rfl, h2, h3⟩ := h
  refine ⟨by simp, fun j hj => ?_, fun r hr hr2 => ?_⟩
  · rcases Nat.lt_succ_iff_lt_or_eq.mp hj with e | e
    · have q1 : qP q j ≠ p := fun z => hn (z ▸ qP_mem e)
      rw [qP_old e, qF_old e, qB_old e, va_up_ne _ _ (Nat.ne_of_lt e), va_up_ne _ _ (Nat.ne_of_lt e), va_up_ne _ _ q1]
      exact h2 j e
    · subst e
      rw [qP_new, qF_new, qB_new, va_up_self, va_up_self, va_up_self]
      exact ⟨rfl, rfl, rfl⟩
  · have e : qPs (q ++ [(p, fr, i)]) = qPs q ++ [p] := by simp [qPs]
    rw [e] at hr2
    simp only [List.mem_append, List.mem_singleton, not_or] at hr2
    rw [va_up_ne _ _ hr2.2]
    exact h3 r hr hr2.1
theorem SeQ.none_iff {nm : Nat → Option Nat} {pl st : Nat → Nat} {c D p : Nat} {q : Qu} (h : SeQ nm pl st c D q) (hp : p < D) : nm p = none ↔ p ∉ qPs q := by
  refine ⟨fun e hm => ?_, h.2.2 p hp⟩
  obtain ⟨i, hi, rfl⟩ := qP_ex hm
  rw [(h.2.1 i (by rw [h.1]; exact hi)).2.2] at e
  cases e
/-- the inputs that lead to a number -/
def wdL (F B : Nat → Nat) : Nat → Nat → List Nat
  | 0, _ => []
  | m + 1, a => if a = 0 then [] else wdL F B m (F a) ++ [B a]
theorem wdL_fuel {F B : Nat → Nat} {N : Nat} (h : ∀ a, 0 < a → a < N → F a < a) : ∀ (m m' a : Nat), a ≤ m → a ≤ m' → a < N → wdL F B m a = wdL F B m' a
  | 0, m', a, h1, h2, h3 => by
    have : a = 0 := by omega
    subst this
    cases m' <;> simp [wdL]
  | m + 1, m', a, h1, h2, h3 => by
    cases m' with
    | zero =>
      have : a = 0 := by omega
      subst this
      simp [wdL]
    | succ m' =>
      by_cases e : a = 0
      · simp [wdL, e]
      · have q := h a (by omega) h3
        simp only [wdL, if_neg e]
        rw [wdL_fuel h m m' (F a) (by omega) (by omega) (by omega)]
/-- the word that leads to number a -/
def wdA (F B : Nat → Nat) (a : Nat) : List Nat := wdL F B a a
theorem wdA_0 {F B : Nat → Nat} : wdA F B 0 = [] := rfl
theorem wdA_s {F B : Nat → Nat} {N a : Nat} (h : ∀ a, 0 < a → a < N → F a < a) (h0 : 0 < a) (ha : a < N) : wdA F B a = wdA F B (F a) ++ [B a] := by
  have q := h a h0 ha
  unfold wdA
  rw [wdL_fuel h a (a - 1 + 1) a (Nat.le_refl _) (by omega) ha]
  show (if a = 0 then [] else wdL F B (a - 1) (F a) ++ [B a]) = _
  rw [if_neg (by omega), wdL_fuel h (a - 1) (F a) (F a) (by omega) (Nat.le_refl _) (by omega)]
theorem wdA_len {F B : Nat → Nat} {N : Nat} (h : ∀ a, 0 < a → a < N → F a < a) : ∀ (m a : Nat), a ≤ m → a < N → (wdA F B a).length ≤ a
  | 0, a, h1, h2 => by
    have : a = 0 := by omega
    subst this
    exact Nat.le_refl _
  | m + 1, a, h1, h2 => by
    by_cases e : a = 0
    · subst e; exact Nat.le_refl _
    · have q := h a (by omega) h2
      rw [wdA_s h (by omega) h2, List.length_append]
      have := wdA_len (B := B) h m (F a) (by omega) (by omega)
      simp only [List.length_cons, List.length_nil]
      omega
theorem wdA_congr {F F' B B' : Nat → Nat} {N : Nat} (h : ∀ a, 0 < a → a < N → F a < a) (hF : ∀ a, 0 < a → a < N → F a = F' a ∧ B a = B' a) : ∀ (m a : Nat), a ≤ m → a < N → wdA F B a = wdA F' B' a
  | 0, a, h1, h2 => by
    have : a = 0 := by omega
    subst this
    rfl
  | m + 1, a, h1, h2 => by
    by_cases e : a = 0
    · subst e; rfl
    · have q := h a (by omega) h2
      have h' : ∀ a, 0 < a → a < N → F' a < a := fun a h0 h1 => by rw [← (hF a h0 h1).1]; exact h a h0 h1
      rw [wdA_s h (by omega) h2, wdA_s h' (by omega) h2, ← (hF a (by omega) h2).1, ← (hF a (by omega) h2).2, wdA_congr h hF m (F a) (by omega) (by omega)]
end
section
set_option maxHeartbeats 4000000 in
set_option maxRecDepth 100000 in
theorem c_Se_placeAt {G : GT} {L : List Nat} {f : Nat → va_E} {w : Nat → Nat} {id : Nat} {A : Nat → Nat} {nm : Nat → Option Nat} {pl st : Nat → Nat} {c : Nat} (hM : SeAt G L f w id A nm pl st c) (i : Nat) (hi : i < 4096) : Con G y_Se_placeAt (.code y_Se_placeAt b_Se_placeAt 2 (some .int) :: BIG) 0 0 0 0 [.ref (A 0), .int (nI i)] L f (fun v L' f' => v = some (.int (nI (pl i))) ∧ L' = L ∧ f' = f) := by
  refine con_of (cc := b_Se_placeAt) (mL := 2) (lv := [some (.ref (A 0)), some (.int (nI i))]) (by decide) (by intro w hw; simp at hw; rcases hw with rfl | rfl <;> rfl) (by first | exact Nat.le_of_ble_eq_true rfl | decide) rfl ?_
  intro x hx hr hin
  refine v_aload_n hx d_Se_placeAt_0 rfl rfl ?_
  refine v_get hx cf_Se 1 (by decide) k_Se_15 d_Se_placeAt_1 hM.m0 hM.f0 rfl ?_
  refine v_iload_n hx d_Se_placeAt_4 rfl rfl ?_
  refine n_iald hx d_Se_placeAt_5 hM.m2 hM.f2 (by omega) (by decide) ?_
  exact v_iret hx hr d_Se_placeAt_6 ⟨rfl, rfl, rfl⟩
set_option maxHeartbeats 4000000 in
set_option maxRecDepth 100000 in
theorem c_Se_numberOf {G : GT} {L : List Nat} {f : Nat → va_E} {w : Nat → Nat} {id : Nat} {A : Nat → Nat} {nm : Nat → Option Nat} {pl st : Nat → Nat} {c : Nat} (hM : SeAt G L f w id A nm pl st c) (i : Nat) (hi : i < 4096) : Con G y_Se_numberOf (.code y_Se_numberOf b_Se_numberOf 2 (some .int) :: BIG) 0 0 0 0 [.ref (A 0), .int (nI i)] L f (fun v L' f' => v = some (.int (oI (nm i))) ∧ L' = L ∧ f' = f) := by
  refine con_of (cc := b_Se_numberOf) (mL := 2) (lv := [some (.ref (A 0)), some (.int (nI i))]) (by decide) (by intro w hw; simp at hw; rcases hw with rfl | rfl <;> rfl) (by first | exact Nat.le_of_ble_eq_true rfl | decide) rfl ?_
  intro x hx hr hin
  refine v_aload_n hx d_Se_numberOf_0 rfl rfl ?_
  refine v_get hx cf_Se 0 (by decide) k_Se_9 d_Se_numberOf_1 hM.m0 hM.f0 rfl ?_
  refine v_iload_n hx d_Se_numberOf_4 rfl rfl ?_
  refine n_iald hx d_Se_numberOf_5 hM.m1 hM.f1 (by omega) (by decide) ?_
  exact v_iret hx hr d_Se_numberOf_6 ⟨rfl, rfl, rfl⟩
set_option maxHeartbeats 4000000 in
set_option maxRecDepth 100000 in
theorem c_Se_note {G : GT} {L : List Nat} {f : Nat → va_E} {w : Nat → Nat} {id : Nat} {A : Nat → Nat} {nm : Nat → Option Nat} {pl st : Nat → Nat} {c : Nat} (hM : SeAt G L f w id A nm pl st c) (fr i : Nat) (hc : c < 4096) : Con G y_Se_note (.code y_Se_note b_Se_note 3 (some .int) :: BIG) 0 0 0 0 [.ref (A 0), .int (nI fr), .int (nI i)] L f (fun v L' f' => v = some (.int (nI c)) ∧ L' = L ∧ SeAt G L f' w id A nm pl (va_up st c (fr * 4 + i)) (c + 1) ∧ gF w id f f') := by
  refine con_of (cc := b_Se_note) (mL := 3) (lv := [some (.ref (A 0)), some (.int (nI fr)), some (.int (nI i))]) (by decide) (by intro w hw; simp at hw; rcases hw with rfl | rfl | rfl <;> rfl) (by first | exact Nat.le_of_ble_eq_true rfl | decide) rfl ?_
  intro x hx hr hin
  refine v_aload_n hx d_Se_note_0 rfl rfl ?_
  refine v_get hx cf_Se 2 (by decide) k_Se_18 d_Se_note_1 hM.m0 hM.f0 rfl ?_
  refine v_aload_n hx d_Se_note_4 rfl rfl ?_
  refine v_get hx cf_Se 3 (by decide) k_Se_27 d_Se_note_5 hM.m0 hM.f0 rfl ?_
  refine v_iload_n hx d_Se_note_8 rfl rfl ?_
  refine v_iconst (v := (nI 4)) hx d_Se_note_9 rfl ?_
  refine n_imul hx d_Se_note_10 ?_
  refine v_iload_n hx d_Se_note_11 rfl rfl ?_
  refine n_iadd hx d_Se_note_12 ?_
  refine nn_iast hx d_Se_note_13 hM.m3 hM.f3 (by omega) (by decide) (fun f1 hf1 => ?_)
  have hF := gF.up (gF.rf (w := w) (id := id) (f := f)) hf1 hM.o3
  have hM := hM.up3 hf1
  refine v_aload_n hx d_Se_note_14 rfl rfl ?_
  refine v_dup hx d_Se_note_15 rfl ?_
  refine v_get hx cf_Se 3 (by decide) k_Se_27 d_Se_note_16 hM.m0 hM.f0 rfl ?_
  refine v_iconst (v := (nI 1)) hx d_Se_note_19 rfl ?_
  refine n_iadd hx d_Se_note_20 ?_
  refine v_put hx cf_Se 3 (by decide) k_Se_27 rfl rfl rfl d_Se_note_21 hM.m0 hM.f0 (Nat.le_of_ble_eq_true rfl) (fun f2 hf2 => ?_)
  have hF := hF.up hf2 hM.o0
  have hM := hM.up0 hf2
  refine v_aload_n hx d_Se_note_24 rfl rfl ?_
  refine v_get hx cf_Se 3 (by decide) k_Se_27 d_Se_note_25 hM.m0 hM.f0 rfl ?_
  refine v_iconst (v := (nI 1)) hx d_Se_note_28 rfl ?_
  refine n_isub hx d_Se_note_29 (by omega) ?_
  exact v_iret hx hr d_Se_note_30 ⟨by rw [Nat.add_sub_cancel], rfl, hM, hF⟩
theorem fil_oI (g : Nat → Option Nat) (a b : Nat) : fil (fun k => oI (g k)) a b (-1) = fun k => oI (if a ≤ k ∧ k < b then none else g k) := by
  funext j
  simp only [fil]
  split <;> rfl
set_option maxHeartbeats 4000000 in
set_option maxRecDepth 100000 in
theorem c_Se_begin {G : GT} {L : List Nat} {f : Nat → va_E} {w : Nat → Nat} {id : Nat} {A : Nat → Nat} {nm : Nat → Option Nat} {pl st : Nat → Nat} {c : Nat} (hM : SeAt G L f w id A nm pl st c) (D : Nat) (hD : D ≤ 4096) : Con G y_Se_begin (.code y_Se_begin b_Se_begin 2 none :: BIG) 2 46 0 0 [.ref (A 0), .int (nI D)] L f (fun v L' f' => v = none ∧ L' = L ∧ (∃ nm' : Nat → Option Nat, SeAt G L f' w id A nm' pl st 0 ∧ SeQ nm' pl st 0 D []) ∧ gF w id f f') := by
  refine con_of (cc := b_Se_begin) (mL := 2) (lv := [some (.ref (A 0)), some (.int (nI D))]) (by decide) (by intro w hw; simp at hw; rcases hw with rfl | rfl <;> rfl) (by first | exact Nat.le_of_ble_eq_true rfl | decide) rfl ?_
  intro x hx hr hin
  refine v_aload_n hx d_Se_begin_0 rfl rfl ?_
  refine v_get hx cf_Se 0 (by decide) k_Se_9 d_Se_begin_1 hM.m0 hM.f0 rfl ?_
  refine v_iconst (v := (nI 0)) hx d_Se_begin_4 rfl ?_
  refine v_iload_n hx d_Se_begin_5 rfl rfl ?_
  refine v_iconst (v := (-1)) hx d_Se_begin_6 rfl ?_
  refine v_callS (as := [.ref (A 1), .int (nI 0), .int (nI D), .int (-1)]) hx (c_Ar_fill hM.m1 hM.f1 (by decide) 0 D (-1) (Nat.zero_le _) hD) cy_Ar_fill k_Se_21 ks_Ar_fill d_Se_begin_7 (by decide) (by decide) rfl rfl (Nat.le_of_ble_eq_true rfl) (fun v1 L f1 p1 => ?_)
  obtain ⟨rfl, rfl, e7⟩ := p1
  rw [fil_oI] at e7
  have hF := gF.up (gF.rf (w := w) (id := id) (f := f)) e7 hM.o1
  have hM := hM.up1 e7
  refine v_aload_n hx d_Se_begin_10 rfl rfl ?_
  refine v_iconst (v := (nI 0)) hx d_Se_begin_11 rfl ?_
  refine v_put hx cf_Se 3 (by decide) k_Se_27 rfl rfl rfl d_Se_begin_12 hM.m0 hM.f0 (Nat.le_of_ble_eq_true rfl) (fun f2 hf2 => ?_)
  have hF := hF.up hf2 hM.o0
  have hM := hM.up0 hf2
  exact v_vret hx hr d_Se_begin_15 ⟨rfl, rfl, ⟨_, hM, rfl, fun i hi => absurd hi (Nat.not_lt_zero _), fun p hp _ => if_pos ⟨Nat.zero_le _, hp⟩⟩, hF⟩
set_option maxHeartbeats 4000000 in
set_option maxRecDepth 100000 in
theorem c_Se_reach {G : GT} {L : List Nat} {f : Nat → va_E} {w : Nat → Nat} {id : Nat} {A : Nat → Nat} {nm : Nat → Option Nat} {pl st : Nat → Nat} {c : Nat} (hM : SeAt G L f w id A nm pl st c) {D : Nat} {q : Qu} (hQ : SeQ nm pl st c D q) (hO : qOK q D) (p fr i : Nat) (hD : D ≤ 4096) (hp : p < D) (hfr : fr < q.length ∨ q.length = 0 ∧ fr = 0) (hi : i < 4) : Con G y_Se_reach (.code y_Se_reach b_Se_reach 4 none :: BIG) 1 22 0 0 [.ref (A 0), .int (nI p), .int (nI fr), .int (nI i)] L f (fun v L' f' => v = none ∧ L' = L ∧ (∃ (nm' : Nat → Option Nat) (pl' st' : Nat → Nat), SeAt G L f' w id A nm' pl' st' (qr q p fr i).length ∧ SeQ nm' pl' st' (qr q p fr i).length D (qr q p fr i)) ∧ gF w id f f') := by
  refine con_of (cc := b_Se_reach) (mL := 4) (lv := [some (.ref (A 0)), some (.int (nI p)), some (.int (nI fr)), some (.int (nI i))]) (by decide) (by intro w hw; simp at hw; rcases hw with rfl | rfl | rfl | rfl <;> rfl) (by first | exact Nat.le_of_ble_eq_true rfl | decide) rfl ?_
  intro x hx hr hin
  have hcl := hO.len
  have hce := hQ.1
  have hnk : ∀ k, nm p = some k → k < 2 ^ 31 := by
    intro k hk
    by_cases hm : p ∈ qPs q
    · obtain ⟨j, hj, e⟩ := qP_ex hm
      have := (hQ.2.1 j (by omega)).2.2
      rw [e, hk] at this; cases this; omega
    · rw [hQ.2.2 p hp hm] at hk; cases hk
  refine v_aload_n hx d_Se_reach_0 rfl rfl ?_
  refine v_get hx cf_Se 0 (by decide) k_Se_9 d_Se_reach_1 hM.m0 hM.f0 rfl ?_
  refine v_iload_n hx d_Se_reach_4 rfl rfl ?_
  refine n_iald hx d_Se_reach_5 hM.m1 hM.f1 (by omega) (by decide) ?_
  refine v_iconst (v := (-1)) hx d_Se_reach_6 rfl ?_
  refine v_icmp_ne (tgt := 32) hx d_Se_reach_7 (by decide) (fun c7 => ?_) (fun c7 => ?_)
  · have hm : p ∈ qPs q := Classical.not_not.mp (fun z => c7 (by rw [(hQ.none_iff hp).mpr z]; rfl))
    have e7 : qr q p fr i = q := if_pos hm
    exact v_vret hx hr d_Se_reach_32 ⟨rfl, rfl, ⟨nm, pl, st, by rw [e7, ← hce]; exact hM, by rw [e7, ← hce]; exact hQ⟩, gF.rf⟩
  · have hno : nm p = none := (oI_m1 hnk).mp c7
    have hnm := (hQ.none_iff hp).mp hno
    have hO2 := (hO.add hp hfr hi hnm).len
    have hcc : c < 4096 := by simp at hO2; omega
    refine v_aload_n hx d_Se_reach_10 rfl rfl ?_
    refine v_get hx cf_Se 1 (by decide) k_Se_15 d_Se_reach_11 hM.m0 hM.f0 rfl ?_
    refine v_aload_n hx d_Se_reach_14 rfl rfl ?_
    refine v_get hx cf_Se 3 (by decide) k_Se_27 d_Se_reach_15 hM.m0 hM.f0 rfl ?_
    refine v_iload_n hx d_Se_reach_18 rfl rfl ?_
    refine nn_iast hx d_Se_reach_19 hM.m2 hM.f2 (by omega) (by decide) (fun f1 hf1 => ?_)
    have hF := gF.up (gF.rf (w := w) (id := id) (f := f)) hf1 hM.o2
    have hM := hM.up2 hf1
    refine v_aload_n hx d_Se_reach_20 rfl rfl ?_
    refine v_get hx cf_Se 0 (by decide) k_Se_9 d_Se_reach_21 hM.m0 hM.f0 rfl ?_
    refine v_iload_n hx d_Se_reach_24 rfl rfl ?_
    refine v_aload_n hx d_Se_reach_25 rfl rfl ?_
    refine v_iload_n hx d_Se_reach_26 rfl rfl ?_
    refine v_iload_n hx d_Se_reach_27 rfl rfl ?_
    refine v_callV (as := [.int (nI fr), .int (nI i)]) (q := (R_Se, T_Se, 4)) hx (c_Se_note hM fr i hcc) cy_Se_note k_Se_31 ki_Se_note kl_Se_note d_Se_reach_28 (by decide) (ci := 2) rfl hM.m0 hM.f0 (by decide) rfl rfl (Nat.le_of_ble_eq_true rfl) (fun v2 L f5 p2 => ?_)
    obtain ⟨rfl, rfl, hM5, hF5⟩ := p2
    have hF := hF.tr hF5
    have hM := hM5
    refine no_iast (v := some c) hx d_Se_reach_31 hM.m1 hM.f1 (by omega) (by decide) (fun f3 hf3 => ?_)
    have hF := hF.up hf3 hM.o1
    have hM := hM.up1 hf3
    have e9 : qr q p fr i = q ++ [(p, fr, i)] := if_neg hnm
    have e8 : (q ++ [(p, fr, i)]).length = c + 1 := by simp; omega
    exact v_vret hx hr d_Se_reach_32 ⟨rfl, rfl, ⟨_, _, _, by rw [e9, e8]; exact hM, by rw [e9, e8]; exact hQ.add hp hnm⟩, hF⟩
set_option maxHeartbeats 4000000 in
set_option maxRecDepth 100000 in
/-- a new search -/
theorem c_Se_init {G : GT} {L : List Nat} {f : Nat → va_E} {w : Nat → Nat} {id o : Nat} (ho : o ∈ L) (hw : w o = id) (hf : f o = .inr (2, [.null, .null, .null, .int 0])) : Con G y_Se_init (.code y_Se_init b_Se_init 1 none :: BIG) 1 12 3 12288 [.ref o] L f (fun v L' f' => v = none ∧ ∃ (A w' : Nat → Nat), A 0 = o ∧ (∀ q, q ∈ L → q ∈ L') ∧ (∀ q, q ∈ L → w' q = w q) ∧ (∀ q, q ∉ L → w' q = id) ∧ SeAt G L' f' w' id A (fun _ => some 0) (fun _ => 0) (fun _ => 0) 0 ∧ ∀ q, q ∈ L → q ≠ o → f' q = f q) := by
  refine con_of (cc := b_Se_init) (mL := 1) (lv := [some (.ref o)]) (by decide) (by intro w hw; simp at hw; rcases hw with rfl <;> rfl) (by first | exact Nat.le_of_ble_eq_true rfl | decide) rfl ?_
  intro x hx hr hin
  refine v_aload_n hx d_Se_init_0 rfl rfl ?_
  refine v_objInit hx k_Se_3 ki_Ob_init kc_Ob_init d_Se_init_1 (by decide) ?_
  refine v_aload_n hx d_Se_init_4 rfl rfl ?_
  refine v_sipush (v := (nI 4096)) hx d_Se_init_5 rfl ?_
  refine m_newa hx d_Se_init_8 (by decide) (by decide) (by decide) (fun q1 g1 hq1 eq1 => ?_)
  have mo1 := List.mem_append_left [q1] ho
  have z1 : o ≠ q1 := fun z => hq1 (z ▸ ho)
  have po1 := (congrFun eq1 o).trans ((va_up_ne _ _ z1).trans hf)
  refine v_putF hx cf_Se 0 (by decide) k_Se_9 rfl hin rfl rfl rfl d_Se_init_10 mo1 po1 (Nat.le_of_ble_eq_true rfl) (fun k1 hk1 => ?_)
  have ho1 := (congrFun hk1 o).trans (va_up_self _ _ _)
  refine v_aload_n hx d_Se_init_13 rfl rfl ?_
  refine v_sipush (v := (nI 4096)) hx d_Se_init_14 rfl ?_
  refine m_newa hx d_Se_init_17 (by decide) (by decide) (by decide) (fun q2 g2 hq2 eq2 => ?_)
  have mo2 := List.mem_append_left [q2] mo1
  have z2 : o ≠ q2 := fun z => hq2 (z ▸ mo1)
  have po2 := (congrFun eq2 o).trans ((va_up_ne _ _ z2).trans ho1)
  refine v_putF hx cf_Se 1 (by decide) k_Se_15 rfl hin rfl rfl rfl d_Se_init_19 mo2 po2 (Nat.le_of_ble_eq_true rfl) (fun k2 hk2 => ?_)
  have ho2 := (congrFun hk2 o).trans (va_up_self _ _ _)
  refine v_aload_n hx d_Se_init_22 rfl rfl ?_
  refine v_sipush (v := (nI 4096)) hx d_Se_init_23 rfl ?_
  refine m_newa hx d_Se_init_26 (by decide) (by decide) (by decide) (fun q3 g3 hq3 eq3 => ?_)
  have mo3 := List.mem_append_left [q3] mo2
  have z3 : o ≠ q3 := fun z => hq3 (z ▸ mo2)
  have po3 := (congrFun eq3 o).trans ((va_up_ne _ _ z3).trans ho2)
  refine v_putF hx cf_Se 2 (by decide) k_Se_18 rfl hin rfl rfl rfl d_Se_init_28 mo3 po3 (Nat.le_of_ble_eq_true rfl) (fun k3 hk3 => ?_)
  have ho3 := (congrFun hk3 o).trans (va_up_self _ _ _)
  have hL : L ++ [q1] ++ [q2] ++ [q3] = L ++ [q1, q2, q3] := by simp
  have n1 : q1 ≠ o := Ne.symm z1
  have n2 : q2 ≠ o := Ne.symm z2
  have n3 : q3 ≠ o := Ne.symm z3
  simp only [List.mem_append, List.mem_singleton, not_or] at hq1 hq2 hq3
  have hO := own_of (L := L) (w := w) (id := id) (o := o) [q1, q2, q3] ho hw (by simp [Ne.symm hq2.2, Ne.symm hq3.1.2, Ne.symm hq3.2]) (by simp [hq1, hq2, hq3])
  rw [hL]
  refine v_vret hx hr d_Se_init_31 ⟨rfl, _, _, rfl, fun q h => List.mem_append_left _ h, fun q h => if_pos h, fun q h => if_neg h, ⟨hO, ho3, ?_, ?_, ?_⟩, fun q h1 h2 => ?_⟩
  · show k3 q1 = _; rw [hk3, va_up_ne _ _ n1, eq3, va_up_ne _ _ (Ne.symm hq3.1.2), hk2, va_up_ne _ _ n1, eq2, va_up_ne _ _ (Ne.symm hq2.2), hk1, va_up_ne _ _ n1, eq1, va_up_self]; first | done | rfl
  · show k3 q2 = _; rw [hk3, va_up_ne _ _ n2, eq3, va_up_ne _ _ (Ne.symm hq3.2), hk2, va_up_ne _ _ n2, eq2, va_up_self]; first | done | rfl
  · show k3 q3 = _; rw [hk3, va_up_ne _ _ n3, eq3, va_up_self]; first | done | rfl
  · rw [hk3, va_up_ne _ _ h2, eq3, va_up_ne _ _ (show q ≠ q3 from fun z => hq3.1.1 (z ▸ h1)), hk2, va_up_ne _ _ h2, eq2, va_up_ne _ _ (show q ≠ q2 from fun z => hq2.1 (z ▸ h1)), hk1, va_up_ne _ _ h2, eq1, va_up_ne _ _ (show q ≠ q1 from fun z => hq1 (z ▸ h1))]
set_option maxHeartbeats 4000000 in
set_option maxRecDepth 100000 in
/-- new families -/
theorem c_Fa_init {G : GT} {L : List Nat} {f : Nat → va_E} {w : Nat → Nat} {id o : Nat} (ho : o ∈ L) (hw : w o = id) (hf : f o = .inr (0, [.null, .null, .null, .int 0])) : Con G y_Fa_init (.code y_Fa_init b_Fa_init 1 none :: BIG) 1 12 3 3910 [.ref o] L f (fun v L' f' => v = none ∧ ∃ (A w' : Nat → Nat), A 0 = o ∧ (∀ q, q ∈ L → q ∈ L') ∧ (∀ q, q ∈ L → w' q = w q) ∧ (∀ q, q ∉ L → w' q = id) ∧ FaAt G L' f' w' id A (fun _ => 0) (fun _ => 0) (fun _ => 0) 0 ∧ ∀ q, q ∈ L → q ≠ o → f' q = f q) := by
  refine con_of (cc := b_Fa_init) (mL := 1) (lv := [some (.ref o)]) (by decide) (by intro w hw; simp at hw; rcases hw with rfl <;> rfl) (by first | exact Nat.le_of_ble_eq_true rfl | decide) rfl ?_
  intro x hx hr hin
  refine v_aload_n hx d_Fa_init_0 rfl rfl ?_
  refine v_objInit hx k_Fa_3 ki_Ob_init kc_Ob_init d_Fa_init_1 (by decide) ?_
  refine v_aload_n hx d_Fa_init_4 rfl rfl ?_
  refine v_sipush (v := (nI 3600)) hx d_Fa_init_5 rfl ?_
  refine m_newa hx d_Fa_init_8 (by decide) (by decide) (by decide) (fun q1 g1 hq1 eq1 => ?_)
  have mo1 := List.mem_append_left [q1] ho
  have z1 : o ≠ q1 := fun z => hq1 (z ▸ ho)
  have po1 := (congrFun eq1 o).trans ((va_up_ne _ _ z1).trans hf)
  refine v_putF hx cf_Fa 0 (by decide) k_Fa_9 rfl hin rfl rfl rfl d_Fa_init_10 mo1 po1 (Nat.le_of_ble_eq_true rfl) (fun k1 hk1 => ?_)
  have ho1 := (congrFun hk1 o).trans (va_up_self _ _ _)
  refine v_aload_n hx d_Fa_init_13 rfl rfl ?_
  refine v_sipush (v := (nI 300)) hx d_Fa_init_14 rfl ?_
  refine m_newa hx d_Fa_init_17 (by decide) (by decide) (by decide) (fun q2 g2 hq2 eq2 => ?_)
  have mo2 := List.mem_append_left [q2] mo1
  have z2 : o ≠ q2 := fun z => hq2 (z ▸ mo1)
  have po2 := (congrFun eq2 o).trans ((va_up_ne _ _ z2).trans ho1)
  refine v_putF hx cf_Fa 1 (by decide) k_Fa_15 rfl hin rfl rfl rfl d_Fa_init_19 mo2 po2 (Nat.le_of_ble_eq_true rfl) (fun k2 hk2 => ?_)
  have ho2 := (congrFun hk2 o).trans (va_up_self _ _ _)
  refine v_aload_n hx d_Fa_init_22 rfl rfl ?_
  refine v_bipush (v := (nI 10)) hx d_Fa_init_23 rfl ?_
  refine m_newa hx d_Fa_init_25 (by decide) (by decide) (by decide) (fun q3 g3 hq3 eq3 => ?_)
  have mo3 := List.mem_append_left [q3] mo2
  have z3 : o ≠ q3 := fun z => hq3 (z ▸ mo2)
  have po3 := (congrFun eq3 o).trans ((va_up_ne _ _ z3).trans ho2)
  refine v_putF hx cf_Fa 2 (by decide) k_Fa_18 rfl hin rfl rfl rfl d_Fa_init_27 mo3 po3 (Nat.le_of_ble_eq_true rfl) (fun k3 hk3 => ?_)
  have ho3 := (congrFun hk3 o).trans (va_up_self _ _ _)
  have hL : L ++ [q1] ++ [q2] ++ [q3] = L ++ [q1, q2, q3] := by simp
  have n1 : q1 ≠ o := Ne.symm z1
  have n2 : q2 ≠ o := Ne.symm z2
  have n3 : q3 ≠ o := Ne.symm z3
  simp only [List.mem_append, List.mem_singleton, not_or] at hq1 hq2 hq3
  have hO := own_of (L := L) (w := w) (id := id) (o := o) [q1, q2, q3] ho hw (by simp [Ne.symm hq2.2, Ne.symm hq3.1.2, Ne.symm hq3.2]) (by simp [hq1, hq2, hq3])
  rw [hL]
  refine v_vret hx hr d_Fa_init_30 ⟨rfl, _, _, rfl, fun q h => List.mem_append_left _ h, fun q h => if_pos h, fun q h => if_neg h, ⟨hO, ho3, ?_, ?_, ?_⟩, fun q h1 h2 => ?_⟩
  · show k3 q1 = _; rw [hk3, va_up_ne _ _ n1, eq3, va_up_ne _ _ (Ne.symm hq3.1.2), hk2, va_up_ne _ _ n1, eq2, va_up_ne _ _ (Ne.symm hq2.2), hk1, va_up_ne _ _ n1, eq1, va_up_self]; first | done | rfl
  · show k3 q2 = _; rw [hk3, va_up_ne _ _ n2, eq3, va_up_ne _ _ (Ne.symm hq3.2), hk2, va_up_ne _ _ n2, eq2, va_up_self]; first | done | rfl
  · show k3 q3 = _; rw [hk3, va_up_ne _ _ n3, eq3, va_up_self]; first | done | rfl
  · rw [hk3, va_up_ne _ _ h2, eq3, va_up_ne _ _ (show q ≠ q3 from fun z => hq3.1.1 (z ▸ h1)), hk2, va_up_ne _ _ h2, eq2, va_up_ne _ _ (show q ≠ q2 from fun z => hq2.1 (z ▸ h1)), hk1, va_up_ne _ _ h2, eq1, va_up_ne _ _ (show q ≠ q1 from fun z => hq1 (z ▸ h1))]
end
section
theorem dec1 (t : Nat) : nI t + Int32.ofInt (-1) = nI t - nI 1 := by
  rw [Int32.sub_eq_add_neg]
  rfl
theorem getD_mid {l r : List Nat} {b : Nat} : (l ++ (b :: r)).getD l.length 0 = b := by simp
set_option maxHeartbeats 4000000 in
set_option maxRecDepth 100000 in
/-- the word that leads to a number -/
theorem c_Se_wordTo {G : GT} {L : List Nat} {f : Nat → va_E} {w : Nat → Nat} {id : Nat} {A : Nat → Nat} {nm : Nat → Option Nat} {pl st : Nat → Nat} {c : Nat} (hM : SeAt G L f w id A nm pl st c) (N num : Nat) (hN : N ≤ 4096) (hnum : num < N) (hst : ∀ a, 0 < a → a < N → st a / 4 < a) (hs2 : ∀ a, a < N → st a < 2 ^ 31) : Con G y_Se_wordTo (.code y_Se_wordTo b_Se_wordTo 6 (some (.array .int)) :: BIG) 0 0 1 4096 [.ref (A 0), .int (nI num)] L f (fun v L' f' => ∃ q, v = some (.ref q) ∧ q ∉ L ∧ L' = L ++ [q] ∧ (∃ g : Nat → Nat, f' q = aI G (wdA (fun a => st a / 4) (fun a => st a % 4) num).length g ∧ ∀ j, j < (wdA (fun a => st a / 4) (fun a => st a % 4) num).length → g j = (wdA (fun a => st a / 4) (fun a => st a % 4) num).getD j 0) ∧ ∀ p, p ≠ q → f' p = f p) := by
  refine con_of (cc := b_Se_wordTo) (mL := 6) (lv := [some (.ref (A 0)), some (.int (nI num)), none, none, none, none]) (by decide) (by intro w hw; simp at hw; rcases hw with rfl | rfl <;> rfl) (by first | exact Nat.le_of_ble_eq_true rfl | decide) rfl ?_
  intro x hx hr hin
  have hWl := wdA_len (B := (fun a => st a % 4)) hst num num (Nat.le_refl _) hnum
  generalize hW : (wdA (fun a => st a / 4) (fun a => st a % 4) num) = W at hWl hr
  refine v_iconst (v := (nI 0)) hx d_Se_wordTo_0 rfl ?_
  refine v_istore_n (lv' := [some (.ref (A 0)), some (.int (nI num)), some (.int (nI 0)), none, none, none]) hx d_Se_wordTo_1 rfl (by decide) rfl ?_
  refine v_iload_n hx d_Se_wordTo_2 rfl rfl ?_
  refine v_istore_n (lv' := [some (.ref (A 0)), some (.int (nI num)), some (.int (nI 0)), some (.int (nI num)), none, none]) hx d_Se_wordTo_3 rfl (by decide) rfl ?_
  have H4 : ∀ (m : Nat) (len : Nat) (a : Nat), a < m → (a < N) → (len + (wdA (fun a => st a / 4) (fun a => st a % 4) a).length = W.length) → V G { frames := 0, cells := 1, slots := 4096, locals := 0 } 6 x L f 0 0 [some (.ref (A 0)), some (.int (nI num)), some (.int (nI len)), some (.int (nI a)), none, none] 4 [] := by
    intro m
    induction m with
    | zero => intro len a hm; exact absurd hm (Nat.not_lt_zero _)
    | succ m ih =>
      intro len a hm ha hl
      refine v_iload_n hx d_Se_wordTo_4 rfl rfl ?_
      refine n_if_le (tgt := 30) hx d_Se_wordTo_5 (by decide) (by omega) (fun c5 => ?_) (fun c5 => ?_)
      · refine v_iload_n hx d_Se_wordTo_30 rfl rfl ?_
        have e0 : len = W.length := by rw [← hl, c5]; rfl
        refine m_newa hx d_Se_wordTo_31 (by omega) (by decide) (by show 0 + len ≤ 4096; omega) (fun q1 g1 hq1 eq1 => ?_)
        refine v_astore_n (lv' := [some (.ref (A 0)), some (.int (nI num)), some (.int (nI len)), some (.ref q1), none, none]) hx d_Se_wordTo_33 rfl (by decide) rfl ?_
        refine v_iload_n hx d_Se_wordTo_34 rfl rfl ?_
        refine v_istore (lv' := [some (.ref (A 0)), some (.int (nI num)), some (.int (nI len)), some (.ref q1), some (.int (nI num)), none]) hx d_Se_wordTo_35 (by decide) rfl ?_
        refine v_iload_n hx d_Se_wordTo_37 rfl rfl ?_
        refine v_iconst (v := (nI 1)) hx d_Se_wordTo_38 rfl ?_
        refine v_isub hx d_Se_wordTo_39 rfl ?_
        refine v_istore (lv' := [some (.ref (A 0)), some (.int (nI num)), some (.int (nI len)), some (.ref q1), some (.int (nI num)), some (.int ((nI len) - (nI 1)))]) hx d_Se_wordTo_40 (by decide) rfl ?_
        have H42 : ∀ (t : Nat) (a : Nat) (f2 : Nat → va_E) (g : Nat → Nat), (a < N) → (t ≤ len) → ((wdA (fun a => st a / 4) (fun a => st a % 4) a).length = t) → (∃ suf, W = wdA (fun a => st a / 4) (fun a => st a % 4) a ++ suf) → (f2 q1 = aI G len g) → (∀ j, t ≤ j → j < len → g j = W.getD j 0) → (∀ p, p ≠ q1 → f2 p = f p) → V G { frames := 0, cells := 1, slots := 4096, locals := 0 } 6 x (L ++ [q1]) f2 (0 + 1) (0 + len) [some (.ref (A 0)), some (.int (nI num)), some (.int (nI len)), some (.ref q1), some (.int (nI a)), some (.int (nI t - nI 1))] 42 [] := by
          intro t
          induction t with
          | zero =>
            intro a f2 g ha ht hla hsuf hq hg hfr
            refine v_iload hx d_Se_wordTo_42 rfl ?_
            refine v_if_lt (tgt := 77) hx d_Se_wordTo_44 (by decide) (fun c44 => ?_) (fun c44 => ?_)
            · refine v_aload_n hx d_Se_wordTo_77 rfl rfl ?_
              refine v_widen (k' := 1) (n' := 4096) (by omega) (by omega) ?_
              exact v_aret hx hr (Or.inr ⟨_, rfl⟩) (Or.inr ⟨_, rfl⟩) d_Se_wordTo_78 ⟨q1, rfl, hq1, rfl, ⟨g, by rw [← e0]; exact hq, fun j hj => hg j (Nat.zero_le _) (by omega)⟩, hfr⟩
            · exact absurd (by decide) c44
          | succ t ih =>
            intro a f2 g ha ht hla hsuf hq hg hfr
            have e1 : nI (t + 1) - nI 1 = nI t := pk_sub (by omega)
            rw [e1]
            have ha0 : 0 < a := Nat.pos_of_ne_zero (fun z => by rw [z, wdA_0] at hla; cases hla)
            have hs := wdA_s (B := (fun a => st a % 4)) hst ha0 ha
            have hd := hst a ha0 ha
            have hl2 : (wdA (fun a => st a / 4) (fun a => st a % 4) (st a / 4)).length = t := by rw [hs, List.length_append] at hla; simpa using hla
            have hm1 : q1 ∈ L ++ [q1] := List.mem_append_right _ List.mem_cons_self
            have hM2 : SeAt G (L ++ [q1]) f2 w id A nm pl st c := hM.move (fun q h => List.mem_append_left _ h) (fun _ _ => rfl) (fun q h _ => hfr q (fun z => hq1 (z ▸ h)))
            refine v_iload hx d_Se_wordTo_42 rfl ?_
            refine n_if_lt (tgt := 77) hx d_Se_wordTo_44 (by decide) (by omega) ?_
            refine v_aload_n hx d_Se_wordTo_47 rfl rfl ?_
            refine v_iload hx d_Se_wordTo_48 rfl ?_
            refine v_aload_n hx d_Se_wordTo_50 rfl rfl ?_
            refine v_get hx cf_Se 2 (by decide) k_Se_18 d_Se_wordTo_51 hM2.m0 hM2.f0 rfl ?_
            refine v_iload hx d_Se_wordTo_54 rfl ?_
            refine n_iald hx d_Se_wordTo_56 hM2.m3 hM2.f3 (by omega) (by decide) ?_
            refine v_iconst (v := (nI 4)) hx d_Se_wordTo_57 rfl ?_
            refine n_irem hx d_Se_wordTo_58 (hs2 a ha) (by decide) (by decide) ?_
            refine nn_iast hx d_Se_wordTo_59 hm1 hq (by omega) (by omega) (fun f1 hf1 => ?_)
            have hq3 := (congrFun hf1 q1).trans (va_up_self _ _ _)
            have hfr1 : ∀ p, p ≠ q1 → f1 p = f p := fun p hp => by rw [hf1, va_up_ne _ _ hp]; exact hfr p hp
            have hM2 : SeAt G (L ++ [q1]) f1 w id A nm pl st c := hM.move (fun q h => List.mem_append_left _ h) (fun _ _ => rfl) (fun q h _ => hfr1 q (fun z => hq1 (z ▸ h)))
            refine v_aload_n hx d_Se_wordTo_60 rfl rfl ?_
            refine v_get hx cf_Se 2 (by decide) k_Se_18 d_Se_wordTo_61 hM2.m0 hM2.f0 rfl ?_
            refine v_iload hx d_Se_wordTo_64 rfl ?_
            refine n_iald hx d_Se_wordTo_66 hM2.m3 hM2.f3 (by omega) (by decide) ?_
            refine v_iconst (v := (nI 4)) hx d_Se_wordTo_67 rfl ?_
            refine n_idiv hx d_Se_wordTo_68 (hs2 a ha) (by decide) (by decide) ?_
            refine v_istore (lv' := [some (.ref (A 0)), some (.int (nI num)), some (.int (nI len)), some (.ref q1), some (.int (nI ((st a) / 4))), some (.int (nI t))]) hx d_Se_wordTo_69 (by decide) rfl ?_
            refine v_iinc (v := (nI t - nI 1)) (lv' := [some (.ref (A 0)), some (.int (nI num)), some (.int (nI len)), some (.ref q1), some (.int (nI ((st a) / 4))), some (.int (nI t - nI 1))]) hx d_Se_wordTo_71 rfl (dec1 _) (by decide) rfl ?_
            refine v_goto (tgt := 42) hx d_Se_wordTo_74 (by decide) ?_
            obtain ⟨suf, hsuf⟩ := hsuf
            have hW2 : W = wdA (fun a => st a / 4) (fun a => st a % 4) (st a / 4) ++ (st a % 4 :: suf) := by rw [hsuf, hs]; simp
            refine ih (st a / 4) f1 _ (by omega) (by omega) hl2 ⟨_, hW2⟩ hq3 (fun j h1 h2 => ?_) hfr1
            · by_cases e : j = t
              · subst e; rw [va_up_self, hW2, ← hl2]; exact getD_mid.symm
              · rw [va_up_ne _ _ e]; exact hg j (by omega) h2
        refine H42 len num g1 _ hnum (Nat.le_refl _) (by rw [hW, e0]) ⟨[], by rw [hW, List.append_nil]⟩ ((congrFun eq1 q1).trans (va_up_self _ _ _)) (fun j h1 h2 => absurd h1 (by omega)) (fun p hp => by rw [eq1, va_up_ne _ _ hp])
      · have hs := wdA_s (B := (fun a => st a % 4)) hst c5 ha
        have hs1 : (wdA (fun a => st a / 4) (fun a => st a % 4) a).length = (wdA (fun a => st a / 4) (fun a => st a % 4) (st a / 4)).length + 1 := by rw [hs, List.length_append]; rfl
        refine v_iload_n hx d_Se_wordTo_8 rfl rfl ?_
        refine v_sipush (v := (nI 4096)) hx d_Se_wordTo_9 rfl ?_
        refine n_icmp_ge (tgt := 30) hx d_Se_wordTo_12 (by decide) (by omega) (by omega) (fun c12 => ?_) (fun c12 => ?_)
        · exact absurd c12 (by omega)
        · have hs := wdA_s (B := (fun a => st a % 4)) hst c5 ha
          have hd := hst a c5 ha
          refine n_iinc (lv' := [some (.ref (A 0)), some (.int (nI num)), some (.int (nI (len + 1))), some (.int (nI a)), none, none]) hx d_Se_wordTo_15 rfl (by decide) rfl ?_
          refine v_aload_n hx d_Se_wordTo_18 rfl rfl ?_
          refine v_get hx cf_Se 2 (by decide) k_Se_18 d_Se_wordTo_19 hM.m0 hM.f0 rfl ?_
          refine v_iload_n hx d_Se_wordTo_22 rfl rfl ?_
          refine n_iald hx d_Se_wordTo_23 hM.m3 hM.f3 (by omega) (by decide) ?_
          refine v_iconst (v := (nI 4)) hx d_Se_wordTo_24 rfl ?_
          refine n_idiv hx d_Se_wordTo_25 (hs2 a ha) (by decide) (by decide) ?_
          refine v_istore_n (lv' := [some (.ref (A 0)), some (.int (nI num)), some (.int (nI (len + 1))), some (.int (nI ((st a) / 4))), none, none]) hx d_Se_wordTo_26 rfl (by decide) rfl ?_
          refine v_goto (tgt := 4) hx d_Se_wordTo_27 (by decide) ?_
          exact ih (len + 1) (st a / 4) (by omega) (by omega) (by omega)
  exact H4 _ 0 num (Nat.lt_succ_self _) hnum (by rw [hW, Nat.zero_add])
end
section
/-! ===== families of sets ===== -/
/-- a lies in b -/
def inn (a b : Nat) : Bool := decide (a &&& b = a)
theorem bv_in (A B : BitVec 32) : A &&& (B ^^^ BitVec.allOnes 32) = 0#32 ↔ A &&& B = A := by
  constructor
  · intro h
    apply BitVec.eq_of_getLsbD_eq
    intro i hi
    have q := congrArg (fun z => BitVec.getLsbD z i) h
    simp only [BitVec.getLsbD_and, BitVec.getLsbD_xor, BitVec.getLsbD_allOnes, BitVec.getLsbD_zero, hi, decide_true] at q
    rw [BitVec.getLsbD_and]
    cases ha : A.getLsbD i <;> cases hb : B.getLsbD i <;> simp [ha, hb] at q ⊢
  · intro h
    apply BitVec.eq_of_getLsbD_eq
    intro i hi
    have q := congrArg (fun z => BitVec.getLsbD z i) h
    simp only [BitVec.getLsbD_and, BitVec.getLsbD_xor, BitVec.getLsbD_allOnes, BitVec.getLsbD_zero, hi, decide_true] at q ⊢
    cases ha : A.getLsbD i <;> cases hb : B.getLsbD i <;> simp [ha, hb] at q ⊢
theorem inn_iff {a b : Nat} (ha : a < 4096) (hb : b < 4096) : nI a &&& (nI b ^^^ (-1)) = 0 ↔ inn a b = true := by
  have e1 : (nI a &&& (nI b ^^^ (-1))).toBitVec = (nI a).toBitVec &&& ((nI b).toBitVec ^^^ BitVec.allOnes 32) := rfl
  have e2 : (nI a).toBitVec.toNat = a := pk_tn (by omega)
  have e3 : (nI b).toBitVec.toNat = b := pk_tn (by omega)
  have h1 : nI a &&& (nI b ^^^ (-1)) = 0 ↔ (nI a).toBitVec &&& ((nI b).toBitVec ^^^ BitVec.allOnes 32) = 0#32 := by
    rw [← e1]
    exact ⟨fun h => by rw [h]; rfl, fun h => Int32.toBitVec_inj.mp (by rw [h]; rfl)⟩
  rw [h1, bv_in]
  simp only [inn, decide_eq_true_eq]
  constructor
  · intro h
    have := congrArg BitVec.toNat h
    rw [BitVec.toNat_and, e2, e3] at this
    exact this
  · intro h
    apply BitVec.eq_of_toNat_eq
    rw [BitVec.toNat_and, e2, e3]
    exact h
/-- where a set is put in, from behind -/
def ip (g : Nat → Nat) (s : Nat) : Nat → Nat
  | 0 => 0
  | m + 1 => if s < g m then ip g s m else m + 1
theorem ip_le (g : Nat → Nat) (s : Nat) : ∀ m, ip g s m ≤ m
  | 0 => Nat.le_refl _
  | m + 1 => by
    simp only [ip]
    split
    · exact Nat.le_trans (ip_le g s m) (Nat.le_succ _)
    · exact Nat.le_refl _
def insr (s : Nat) (l : List Nat) : List Nat := l.take (ip (fun i => l.getD i 0) s l.length) ++ s :: l.drop (ip (fun i => l.getD i 0) s l.length)
def fput (l : List Nat) (s : Nat) : List Nat := if l.any (fun o => inn s o) then l else insr s (l.filter (fun o => !inn o s))
/-- the bits of the least ones behind the states of S with output o, below s -/
def mo (S : Nat) (og g : Nat → Nat) (o : Nat) : Nat → Nat
  | 0 => 0
  | s + 1 => if S / 2 ^ s % 2 = 1 ∧ og s = o then mo S og g o s ||| 2 ^ g s else mo S og g o s
theorem mo_lt {S o n : Nat} {og g : Nat → Nat} (h : ∀ s, s < n → g s < 12) : ∀ s, s ≤ n → mo S og g o s < 2 ^ 12
  | 0, _ => by simp [mo]
  | s + 1, hs => by
    have h1 := mo_lt (S := S) (o := o) (og := og) h s (by omega)
    simp only [mo]
    split
    · exact Nat.or_lt_two_pow h1 (Nat.pow_lt_pow_right (by decide) (h s (by omega)))
    · exact h1
theorem mo_congr {S o n : Nat} {og g og' g' : Nat → Nat} (h : ∀ s, s < n → g s = g' s ∧ og s = og' s) : ∀ s, s ≤ n → mo S og g o s = mo S og' g' o s
  | 0, _ => rfl
  | s + 1, hs => by simp only [mo]; rw [mo_congr h s (by omega), (h s (by omega)).1, (h s (by omega)).2]
def fpart (S : Nat) (og g : Nat → Nat) (n : Nat) (l : List Nat) : Nat → List Nat
  | 0 => l
  | o + 1 => if mo S og g o n = 0 then fpart S og g n l o else fput (fpart S og g n l o) (mo S og g o n)
def ffol (og g : Nat → Nat) (n : Nat) (sets : List Nat) : Nat → List Nat
  | 0 => []
  | i + 1 => fpart (sets.getD i 0) og g n (ffol og g n sets i) 10
/-- how many states the sets have in all -/
def fsum (l : List Nat) : Nat := (l.map (fun s => pcn s 12)).sum
theorem pcn_bit (S k : Nat) : S / 2 ^ k % 2 = (S.testBit k).toNat := by
  rw [Nat.testBit_eq_decide_div_mod_eq]
  rcases Nat.mod_two_eq_zero_or_one (S / 2 ^ k) with h | h <;> simp [h]
theorem pcn_or (x j : Nat) : ∀ m, pcn (x ||| 2 ^ j) m ≤ pcn x m + (if j < m then 1 else 0)
  | 0 => by simp [pcn]
  | m + 1 => by
    have ih := pcn_or x j m
    simp only [pcn, pcn_bit, Nat.testBit_or, Nat.testBit_two_pow]
    by_cases e : j = m
    · subst e
      rw [if_neg (by omega)] at ih
      rw [if_pos (by omega)]
      simp only [decide_true, Bool.or_true, Bool.toNat_true]
      omega
    · simp only [e, decide_false, Bool.or_false]
      by_cases c : j < m
      · rw [if_pos c] at ih; rw [if_pos (by omega)]; omega
      · rw [if_neg c] at ih; rw [if_neg (by omega)]; omega
theorem pcn_pos {S : Nat} : ∀ m, 0 < S → S < 2 ^ m → 0 < pcn S m
  | 0, h, h2 => by simp at h2; omega
  | m + 1, h, h2 => by
    simp only [pcn]
    by_cases c : S < 2 ^ m
    · have := pcn_pos m h c; omega
    · have e : S / 2 ^ m = 1 := by
        have h3 : 0 < 2 ^ m := Nat.two_pow_pos m
        have h4 : 2 ^ (m + 1) = 2 ^ m * 2 := Nat.pow_succ 2 m
        have h5 : S / 2 ^ m < 2 := Nat.div_lt_of_lt_mul (by omega)
        have h6 : 1 ≤ S / 2 ^ m := (Nat.le_div_iff_mul_le h3).mpr (by omega)
        omega
      rw [e]
      omega
theorem sum_le_of_sub {l : List Nat} {p : Nat → Bool} : fsum (l.filter p) ≤ fsum l := by
  induction l with
  | nil => exact Nat.le_refl _
  | cons a l ih =>
    simp only [fsum, List.filter_cons] at ih ⊢
    split
    · simp only [List.map_cons, List.sum_cons]; omega
    · simp only [List.map_cons, List.sum_cons]; omega
theorem insr_sum (s : Nat) (l : List Nat) : fsum (insr s l) = fsum l + pcn s 12 := by
  unfold insr fsum
  generalize ip (fun i => l.getD i 0) s l.length = p
  have h : ((l.take p).map (fun s => pcn s 12)).sum + ((l.drop p).map (fun s => pcn s 12)).sum = (l.map (fun s => pcn s 12)).sum := by
    rw [← List.sum_append, ← List.map_append, List.take_append_drop]
  simp only [List.map_append, List.map_cons, List.sum_append, List.sum_cons]
  omega
theorem fput_sum (l : List Nat) (s : Nat) : fsum (fput l s) ≤ fsum l + pcn s 12 := by
  unfold fput
  split
  · omega
  · rw [insr_sum]
    have := sum_le_of_sub (l := l) (p := fun o => !inn o s)
    omega
/-- the sets are some, none empty, and have at most 12 states in all -/
def fOK (l : List Nat) (m : Nat) : Prop := (∀ s ∈ l, 0 < s ∧ s < 4096) ∧ fsum l ≤ m
theorem fOK.len {l : List Nat} {m : Nat} (h : fOK l m) : l.length ≤ m := by
  refine Nat.le_trans ?_ h.2
  have h1 := h.1
  clear h
  induction l with
  | nil => exact Nat.le_refl _
  | cons a l ih =>
    have q := ih (fun s hs => h1 s (List.mem_cons_of_mem _ hs))
    have p := pcn_pos 12 (h1 a List.mem_cons_self).1 (by simpa using (h1 a List.mem_cons_self).2)
    simp only [fsum, List.map_cons, List.sum_cons, List.length_cons] at q ⊢
    omega
theorem insr_mem {s t : Nat} {l : List Nat} (h : t ∈ insr s l) : t = s ∨ t ∈ l := by
  unfold insr at h
  rcases List.mem_append.mp h with c | c
  · exact Or.inr (List.mem_of_mem_take c)
  · rcases List.mem_cons.mp c with c | c
    · exact Or.inl c
    · exact Or.inr (List.mem_of_mem_drop c)
theorem fput_mem {s t : Nat} {l : List Nat} (h : t ∈ fput l s) : t = s ∨ t ∈ l := by
  unfold fput at h
  split at h
  · exact Or.inr h
  · rcases insr_mem h with c | c
    · exact Or.inl c
    · exact Or.inr (List.mem_filter.mp c).1
theorem fOK.put {l : List Nat} {m s : Nat} (h : fOK l m) (h0 : 0 < s) (h1 : s < 4096) : fOK (fput l s) (m + pcn s 12) := by
  refine ⟨fun t ht => ?_, Nat.le_trans (fput_sum l s) (Nat.add_le_add_right h.2 _)⟩
  rcases fput_mem ht with e | e
  · subst e; exact ⟨h0, h1⟩
  · exact h.1 t e
/-- sums of what goes to each output -/
def mosum (S : Nat) (og g : Nat → Nat) (n : Nat) : Nat → Nat
  | 0 => 0
  | o + 1 => mosum S og g n o + pcn (mo S og g o n) 12
theorem mosum_le {S : Nat} {og g : Nat → Nat} : ∀ (n : Nat), (∀ s, s < n → g s < 12) → ∀ O, mosum S og g n O ≤ pcn S n
  | 0, _, O => by
    have h0 : ∀ o, pcn 0 o = 0 := by intro o; induction o with | zero => rfl | succ o ih => simp [pcn, ih]
    have : mosum S og g 0 O = 0 := by induction O with | zero => rfl | succ O ih => simp [mosum, mo, ih, h0]
    rw [this]
    exact Nat.zero_le _
  | n + 1, h, O => by
    have ih := mosum_le (S := S) (og := og) n (fun s hs => h s (by omega)) O
    simp only [pcn]
    by_cases hb : S / 2 ^ n % 2 = 1
    · rw [hb]
      have key : ∀ O, mosum S og g (n + 1) O ≤ mosum S og g n O + (if og n < O then 1 else 0) := by
        intro O
        induction O with
        | zero => simp [mosum]
        | succ O ih2 =>
          simp only [mosum]
          by_cases e : og n = O
          · have e1 : mo S og g O (n + 1) = mo S og g O n ||| 2 ^ g n := if_pos ⟨hb, e⟩
            rw [e1, if_pos (by omega)]
            rw [if_neg (by omega)] at ih2
            have := pcn_or (mo S og g O n) (g n) 12
            rw [if_pos (h n (by omega))] at this
            omega
          · have e1 : mo S og g O (n + 1) = mo S og g O n := if_neg (fun q => e q.2)
            rw [e1]
            by_cases c : og n < O
            · rw [if_pos c] at ih2; rw [if_pos (by omega)]; omega
            · rw [if_neg c] at ih2; rw [if_neg (by omega)]; omega
      have := key O
      split at this <;> omega
    · have e1 : ∀ o, mo S og g o (n + 1) = mo S og g o n := fun o => if_neg (fun q => hb q.1)
      have e2 : mosum S og g (n + 1) O = mosum S og g n O := by
        clear ih
        induction O with
        | zero => rfl
        | succ O ih2 => simp only [mosum]; rw [ih2, e1]
      rw [e2]
      omega
theorem pcn_mono (S : Nat) {a b : Nat} (h : a ≤ b) : pcn S a ≤ pcn S b := by
  induction b with
  | zero => have : a = 0 := by omega
            subst this; exact Nat.le_refl _
  | succ b ih =>
    rcases Nat.lt_or_ge a (b + 1) with c | c
    · have := ih (by omega); simp only [pcn]; omega
    · have : a = b + 1 := by omega
      subst this; exact Nat.le_refl _
theorem fOK.part {S n m : Nat} {og g : Nat → Nat} {l : List Nat} (hl : fOK l m) (h : ∀ s, s < n → g s < 12) : ∀ O, fOK (fpart S og g n l O) (m + mosum S og g n O)
  | 0 => hl
  | O + 1 => by
    have ih := fOK.part (S := S) (og := og) hl h O
    simp only [fpart, mosum]
    split
    · exact ⟨ih.1, Nat.le_trans ih.2 (by omega)⟩
    · rename_i c
      have q := ih.put (s := mo S og g O n) (by omega) (by have := mo_lt (S := S) (o := O) (og := og) h n (Nat.le_refl _); simpa using this)
      rw [Nat.add_assoc] at q
      exact q
/-- the row t of the sets is l -/
def rowAt (ss sz : Nat → Nat) (t : Nat) (l : List Nat) : Prop := sz t = l.length ∧ ∀ i, i < l.length → ss (t * 12 + i) = l.getD i 0
theorem rowAt.get {ss sz : Nat → Nat} {t i : Nat} {l : List Nat} (h : rowAt ss sz t l) (hi : i < l.length) : ss (t * 12 + i) = l.getD i 0 := h.2 i hi
theorem rowAt.lt {ss sz : Nat → Nat} {t i : Nat} {l : List Nat} {m : Nat} (h : rowAt ss sz t l) (ho : fOK l m) (hi : i < l.length) : 0 < ss (t * 12 + i) ∧ ss (t * 12 + i) < 4096 := by
  rw [h.2 i hi]
  have : l.getD i 0 = l[i] := by simp [hi]
  rw [this]
  exact ho.1 _ (List.getElem_mem hi)
theorem getD_mem {l : List Nat} {i : Nat} (hi : i < l.length) : l.getD i 0 ∈ l := by
  have : l.getD i 0 = l[i] := by simp [hi]
  rw [this]
  exact List.getElem_mem hi
theorem any_false {l : List Nat} {p : Nat → Bool} (h : ∀ j, j < l.length → p (l.getD j 0) = false) : l.any p = false := by
  rw [List.any_eq_false]
  intro x hx
  obtain ⟨i, hi, rfl⟩ := List.mem_iff_getElem.mp hx
  have q := h i hi
  have : l.getD i 0 = l[i] := by simp [hi]
  rw [this] at q
  simp [q]
theorem any_true {l : List Nat} {p : Nat → Bool} {i : Nat} (hi : i < l.length) (h : p (l.getD i 0) = true) : l.any p = true := List.any_eq_true.mpr ⟨_, getD_mem hi, h⟩
theorem take_s {l : List Nat} {i : Nat} (hi : i < l.length) : l.take (i + 1) = l.take i ++ [l.getD i 0] := by
  have : l.getD i 0 = l[i] := by simp [hi]
  rw [this]
  exact (List.take_append_getElem hi).symm
theorem getD_app1 {l r : List Nat} {j : Nat} (h : j < l.length) : (l ++ r).getD j 0 = l.getD j 0 := by
  simp [List.getElem?_append, h]
theorem insr_len (s : Nat) (l : List Nat) : (insr s l).length = l.length + 1 := by
  unfold insr
  have := ip_le (fun i => l.getD i 0) s l.length
  simp only [List.length_append, List.length_take, List.length_cons, List.length_drop]
  omega
theorem insr_lo {s j : Nat} {l : List Nat} (h : j < ip (fun i => l.getD i 0) s l.length) : (insr s l).getD j 0 = l.getD j 0 := by
  unfold insr
  have := ip_le (fun i => l.getD i 0) s l.length
  rw [getD_app1 (by rw [List.length_take]; omega)]
  rw [List.getD_eq_getElem?_getD, List.getElem?_take, if_pos h, ← List.getD_eq_getElem?_getD]
theorem insr_at {s : Nat} {l : List Nat} : (insr s l).getD (ip (fun i => l.getD i 0) s l.length) 0 = s := by
  have := ip_le (fun i => l.getD i 0) s l.length
  have e : (l.take (ip (fun i => l.getD i 0) s l.length)).length = ip (fun i => l.getD i 0) s l.length := by rw [List.length_take]; omega
  unfold insr
  generalize ip (fun i => l.getD i 0) s l.length = p at e ⊢
  have q := getD_mid (l := l.take p) (r := l.drop p) (b := s)
  rw [e] at q
  exact q
theorem insr_hi {s j : Nat} {l : List Nat} (h : ip (fun i => l.getD i 0) s l.length < j) (hj : j ≤ l.length) : (insr s l).getD j 0 = l.getD (j - 1) 0 := by
  have := ip_le (fun i => l.getD i 0) s l.length
  have e : (l.take (ip (fun i => l.getD i 0) s l.length)).length = ip (fun i => l.getD i 0) s l.length := by rw [List.length_take]; omega
  unfold insr
  generalize ip (fun i => l.getD i 0) s l.length = p at e h ⊢
  obtain ⟨d, rfl⟩ : ∃ d, j = p + 1 + d := ⟨j - p - 1, by omega⟩
  rw [List.getD_eq_getElem?_getD, List.getD_eq_getElem?_getD, List.getElem?_append_right (by omega), e]
  rw [show p + 1 + d - p = d + 1 by omega, List.getElem?_cons_succ, List.getElem?_drop]
  rw [show p + 1 + d - 1 = p + d by omega]
end
section
set_option maxHeartbeats 4000000 in
set_option maxRecDepth 100000 in
theorem c_Fa_keepOpenOne {G : GT} {L : List Nat} {f : Nat → va_E} {w : Nat → Nat} {id : Nat} {A : Nat → Nat} {ss sz bo : Nat → Nat} {c : Nat} (hM : FaAt G L f w id A ss sz bo c) : Con G y_Fa_keepOpenOne (.code y_Fa_keepOpenOne b_Fa_keepOpenOne 1 none :: BIG) 0 0 0 0 [.ref (A 0)] L f (fun v L' f' => v = none ∧ L' = L ∧ FaAt G L f' w id A ss sz bo (c + 1) ∧ gF w id f f') := by
  refine con_of (cc := b_Fa_keepOpenOne) (mL := 1) (lv := [some (.ref (A 0))]) (by decide) (by intro w hw; simp at hw; rcases hw with rfl <;> rfl) (by first | exact Nat.le_of_ble_eq_true rfl | decide) rfl ?_
  intro x hx hr hin
  refine v_aload_n hx d_Fa_keepOpenOne_0 rfl rfl ?_
  refine v_dup hx d_Fa_keepOpenOne_1 rfl ?_
  refine v_get hx cf_Fa 3 (by decide) k_Fa_21 d_Fa_keepOpenOne_2 hM.m0 hM.f0 rfl ?_
  refine v_iconst (v := (nI 1)) hx d_Fa_keepOpenOne_5 rfl ?_
  refine n_iadd hx d_Fa_keepOpenOne_6 ?_
  refine v_put hx cf_Fa 3 (by decide) k_Fa_21 rfl rfl rfl d_Fa_keepOpenOne_7 hM.m0 hM.f0 (Nat.le_of_ble_eq_true rfl) (fun f1 hf1 => ?_)
  have hF := gF.up (gF.rf (w := w) (id := id) (f := f)) hf1 hM.o0
  have hM := hM.up0 hf1
  exact v_vret hx hr d_Fa_keepOpenOne_10 ⟨rfl, rfl, hM, hF⟩
set_option maxHeartbeats 4000000 in
set_option maxRecDepth 100000 in
theorem c_Fa_liesInOne {G : GT} {L : List Nat} {f : Nat → va_E} {w : Nat → Nat} {id : Nat} {A : Nat → Nat} {ss sz bo : Nat → Nat} {c : Nat} (hM : FaAt G L f w id A ss sz bo c) {l : List Nat} (hR : rowAt ss sz c l) (hO : fOK l 12) (hc : c < 300) (s : Nat) (hs : s < 4096) : Con G y_Fa_liesInOne (.code y_Fa_liesInOne b_Fa_liesInOne 3 (some .boolean) :: BIG) 0 0 0 0 [.ref (A 0), .int (nI s)] L f (fun v L' f' => v = some (.int (bI (l.any (fun o => inn s o)))) ∧ L' = L ∧ f' = f) := by
  refine con_of (cc := b_Fa_liesInOne) (mL := 3) (lv := [some (.ref (A 0)), some (.int (nI s)), none]) (by decide) (by intro w hw; simp at hw; rcases hw with rfl | rfl <;> rfl) (by first | exact Nat.le_of_ble_eq_true rfl | decide) rfl ?_
  intro x hx hr hin
  have hll := hO.len
  have hsz := hR.1
  refine v_iconst (v := (nI 0)) hx d_Fa_liesInOne_0 rfl ?_
  refine v_istore_n (lv' := [some (.ref (A 0)), some (.int (nI s)), some (.int (nI 0))]) hx d_Fa_liesInOne_1 rfl (by decide) rfl ?_
  have H2 : ∀ (fu : Nat) (i : Nat), l.length - i < fu → (i ≤ l.length) → (∀ j, j < i → inn s (l.getD j 0) = false) → V G { frames := 0, cells := 0, slots := 0, locals := 0 } 3 x L f 0 0 [some (.ref (A 0)), some (.int (nI s)), some (.int (nI i))] 2 [] := by
    intro fu
    induction fu with
    | zero => intro i hm; exact absurd hm (Nat.not_lt_zero _)
    | succ fu ih =>
      intro i hm hi hj
      refine v_iload_n hx d_Fa_liesInOne_2 rfl rfl ?_
      refine v_aload_n hx d_Fa_liesInOne_3 rfl rfl ?_
      refine v_get hx cf_Fa 1 (by decide) k_Fa_15 d_Fa_liesInOne_4 hM.m0 hM.f0 rfl ?_
      refine v_aload_n hx d_Fa_liesInOne_7 rfl rfl ?_
      refine v_get hx cf_Fa 3 (by decide) k_Fa_21 d_Fa_liesInOne_8 hM.m0 hM.f0 rfl ?_
      refine n_iald hx d_Fa_liesInOne_11 hM.m2 hM.f2 (by omega) (by decide) ?_
      refine n_icmp_ge (tgt := 44) hx d_Fa_liesInOne_12 (by decide) (by omega) (by omega) (fun c12 => ?_) (fun c12 => ?_)
      · refine v_iconst (v := (nI 0)) hx d_Fa_liesInOne_44 rfl ?_
        exact v_zret hx hr d_Fa_liesInOne_45 rfl ⟨by rw [any_false (fun j hj2 => hj j (by omega))]; rfl, rfl, rfl⟩
      · have hg := hR.get (i := i) (by omega)
        have hlt := (hR.lt hO (i := i) (by omega)).2
        refine v_iload_n hx d_Fa_liesInOne_15 rfl rfl ?_
        refine v_aload_n hx d_Fa_liesInOne_16 rfl rfl ?_
        refine v_get hx cf_Fa 0 (by decide) k_Fa_9 d_Fa_liesInOne_17 hM.m0 hM.f0 rfl ?_
        refine v_aload_n hx d_Fa_liesInOne_20 rfl rfl ?_
        refine v_get hx cf_Fa 3 (by decide) k_Fa_21 d_Fa_liesInOne_21 hM.m0 hM.f0 rfl ?_
        refine v_bipush (v := (nI 12)) hx d_Fa_liesInOne_24 rfl ?_
        refine n_imul hx d_Fa_liesInOne_26 ?_
        refine v_iload_n hx d_Fa_liesInOne_27 rfl rfl ?_
        refine n_iadd hx d_Fa_liesInOne_28 ?_
        refine n_iald hx d_Fa_liesInOne_29 hM.m1 hM.f1 (by omega) (by decide) ?_
        refine v_iconst (v := (-1)) hx d_Fa_liesInOne_30 rfl ?_
        refine v_ixor hx d_Fa_liesInOne_31 rfl ?_
        refine v_iand hx d_Fa_liesInOne_32 rfl ?_
        refine v_if_ne (tgt := 38) hx d_Fa_liesInOne_33 (by decide) (fun c33 => ?_) (fun c33 => ?_)
        · refine n_iinc (lv' := [some (.ref (A 0)), some (.int (nI s)), some (.int (nI (i + 1)))]) hx d_Fa_liesInOne_38 rfl (by decide) rfl ?_
          refine v_goto (tgt := 2) hx d_Fa_liesInOne_41 (by decide) ?_
          exact ih (i + 1) (by omega) (by omega) (lt_s hj (by rw [← hg]; exact Bool.eq_false_iff.mpr (fun z => c33 ((inn_iff hs hlt).mpr z))))
        · refine v_iconst (v := (nI 1)) hx d_Fa_liesInOne_36 rfl ?_
          exact v_zret hx hr d_Fa_liesInOne_37 rfl ⟨by rw [any_true (i := i) (by omega) (by rw [← hg]; exact (inn_iff hs hlt).mp c33)]; rfl, rfl, rfl⟩
  exact H2 _ 0 (Nat.lt_succ_self _) (Nat.zero_le _) (fun _ h => absurd h (Nat.not_lt_zero _))
set_option maxHeartbeats 4000000 in
set_option maxRecDepth 100000 in
theorem c_Fa_leaveOutThoseIn {G : GT} {L : List Nat} {f : Nat → va_E} {w : Nat → Nat} {id : Nat} {A : Nat → Nat} {ss sz bo : Nat → Nat} {c : Nat} (hM : FaAt G L f w id A ss sz bo c) {l : List Nat} (hR : rowAt ss sz c l) (hO : fOK l 12) (hc : c < 300) (s : Nat) (hs : s < 4096) : Con G y_Fa_leaveOutThoseIn (.code y_Fa_leaveOutThoseIn b_Fa_leaveOutThoseIn 6 none :: BIG) 0 0 0 0 [.ref (A 0), .int (nI s)] L f (fun v L' f' => v = none ∧ L' = L ∧ (∃ ss' sz' : Nat → Nat, FaAt G L f' w id A ss' sz' bo c ∧ rowAt ss' sz' c (l.filter (fun o => !inn o s)) ∧ (∀ j, j < c * 12 → ss' j = ss j) ∧ ∀ t, t ≠ c → sz' t = sz t) ∧ gF w id f f') := by
  refine con_of (cc := b_Fa_leaveOutThoseIn) (mL := 6) (lv := [some (.ref (A 0)), some (.int (nI s)), none, none, none, none]) (by decide) (by intro w hw; simp at hw; rcases hw with rfl | rfl <;> rfl) (by first | exact Nat.le_of_ble_eq_true rfl | decide) rfl ?_
  intro x hx hr hin
  have hll := hO.len
  have hsz := hR.1
  refine v_aload_n hx d_Fa_leaveOutThoseIn_0 rfl rfl ?_
  refine v_get hx cf_Fa 3 (by decide) k_Fa_21 d_Fa_leaveOutThoseIn_1 hM.m0 hM.f0 rfl ?_
  refine v_bipush (v := (nI 12)) hx d_Fa_leaveOutThoseIn_4 rfl ?_
  refine n_imul hx d_Fa_leaveOutThoseIn_6 ?_
  refine v_istore_n (lv' := [some (.ref (A 0)), some (.int (nI s)), some (.int (nI (c * 12))), none, none, none]) hx d_Fa_leaveOutThoseIn_7 rfl (by decide) rfl ?_
  refine v_iconst (v := (nI 0)) hx d_Fa_leaveOutThoseIn_8 rfl ?_
  refine v_istore_n (lv' := [some (.ref (A 0)), some (.int (nI s)), some (.int (nI (c * 12))), some (.int (nI 0)), none, none]) hx d_Fa_leaveOutThoseIn_9 rfl (by decide) rfl ?_
  refine v_iconst (v := (nI 0)) hx d_Fa_leaveOutThoseIn_10 rfl ?_
  refine v_istore (lv' := [some (.ref (A 0)), some (.int (nI s)), some (.int (nI (c * 12))), some (.int (nI 0)), some (.int (nI 0)), none]) hx d_Fa_leaveOutThoseIn_11 (by decide) rfl ?_
  have H13 : ∀ (fu : Nat) (left : Nat) (i : Nat) (f1 : Nat → va_E) (ss1 : Nat → Nat), l.length - i < fu → (i ≤ l.length) → (left ≤ i) → (FaAt G L f1 w id A ss1 sz bo c) → (gF w id f f1) → (left = ((l.take i).filter (fun o => !inn o s)).length) → (∀ j, j < left → ss1 (c * 12 + j) = ((l.take i).filter (fun o => !inn o s)).getD j 0) → (∀ j, i ≤ j → j < l.length → ss1 (c * 12 + j) = l.getD j 0) → (∀ j, j < c * 12 → ss1 j = ss j) → V G { frames := 0, cells := 0, slots := 0, locals := 0 } 6 x L f1 0 0 [some (.ref (A 0)), some (.int (nI s)), some (.int (nI (c * 12))), some (.int (nI left)), some (.int (nI i)), none] 13 [] := by
    intro fu
    induction fu with
    | zero => intro left i f1 ss1 hm; exact absurd hm (Nat.not_lt_zero _)
    | succ fu ih =>
      intro left i f1 ss1 hm hi hle hM hF hlf h1 h2 h3
      refine v_iload hx d_Fa_leaveOutThoseIn_13 rfl ?_
      refine v_aload_n hx d_Fa_leaveOutThoseIn_15 rfl rfl ?_
      refine v_get hx cf_Fa 1 (by decide) k_Fa_15 d_Fa_leaveOutThoseIn_16 hM.m0 hM.f0 rfl ?_
      refine v_aload_n hx d_Fa_leaveOutThoseIn_19 rfl rfl ?_
      refine v_get hx cf_Fa 3 (by decide) k_Fa_21 d_Fa_leaveOutThoseIn_20 hM.m0 hM.f0 rfl ?_
      refine n_iald hx d_Fa_leaveOutThoseIn_23 hM.m2 hM.f2 (by omega) (by decide) ?_
      refine n_icmp_ge (tgt := 66) hx d_Fa_leaveOutThoseIn_24 (by decide) (by omega) (by omega) (fun c24 => ?_) (fun c24 => ?_)
      · have hil : i = l.length := by omega
        rw [hil, List.take_length] at hlf h1
        refine v_aload_n hx d_Fa_leaveOutThoseIn_66 rfl rfl ?_
        refine v_get hx cf_Fa 1 (by decide) k_Fa_15 d_Fa_leaveOutThoseIn_67 hM.m0 hM.f0 rfl ?_
        refine v_aload_n hx d_Fa_leaveOutThoseIn_70 rfl rfl ?_
        refine v_get hx cf_Fa 3 (by decide) k_Fa_21 d_Fa_leaveOutThoseIn_71 hM.m0 hM.f0 rfl ?_
        refine v_iload_n hx d_Fa_leaveOutThoseIn_74 rfl rfl ?_
        refine nn_iast hx d_Fa_leaveOutThoseIn_75 hM.m2 hM.f2 (by omega) (by decide) (fun f2 hf2 => ?_)
        have hF := hF.up hf2 hM.o2
        have hM := hM.up2 hf2
        exact v_vret hx hr d_Fa_leaveOutThoseIn_76 ⟨rfl, rfl, ⟨ss1, _, hM, ⟨by rw [va_up_self, ← hlf], fun j hj => h1 j (by omega)⟩, h3, fun t ht => va_up_ne _ _ ht⟩, hF⟩
      · have hg := h2 i (Nat.le_refl _) (by omega)
        have hlt : ss1 (c * 12 + i) < 4096 := by rw [hg]; exact (hO.1 _ (getD_mem (by omega))).2
        have hts := take_s (l := l) (i := i) (by omega)
        refine v_aload_n hx d_Fa_leaveOutThoseIn_27 rfl rfl ?_
        refine v_get hx cf_Fa 0 (by decide) k_Fa_9 d_Fa_leaveOutThoseIn_28 hM.m0 hM.f0 rfl ?_
        refine v_iload_n hx d_Fa_leaveOutThoseIn_31 rfl rfl ?_
        refine v_iload hx d_Fa_leaveOutThoseIn_32 rfl ?_
        refine n_iadd hx d_Fa_leaveOutThoseIn_34 ?_
        refine n_iald hx d_Fa_leaveOutThoseIn_35 hM.m1 hM.f1 (by omega) (by decide) ?_
        refine v_istore (lv' := [some (.ref (A 0)), some (.int (nI s)), some (.int (nI (c * 12))), some (.int (nI left)), some (.int (nI i)), some (.int (nI (ss1 ((c * 12) + i))))]) hx d_Fa_leaveOutThoseIn_36 (by decide) rfl ?_
        refine v_iload hx d_Fa_leaveOutThoseIn_38 rfl ?_
        refine v_iload_n hx d_Fa_leaveOutThoseIn_40 rfl rfl ?_
        refine v_iconst (v := (-1)) hx d_Fa_leaveOutThoseIn_41 rfl ?_
        refine v_ixor hx d_Fa_leaveOutThoseIn_42 rfl ?_
        refine v_iand hx d_Fa_leaveOutThoseIn_43 rfl ?_
        refine v_if_eq (tgt := 60) hx d_Fa_leaveOutThoseIn_44 (by decide) (fun c44 => ?_) (fun c44 => ?_)
        · refine n_iinc (lv' := [some (.ref (A 0)), some (.int (nI s)), some (.int (nI (c * 12))), some (.int (nI left)), some (.int (nI (i + 1))), some (.int (nI (ss1 ((c * 12) + i))))]) hx d_Fa_leaveOutThoseIn_60 rfl (by decide) rfl ?_
          refine v_goto (tgt := 13) hx d_Fa_leaveOutThoseIn_63 (by decide) ?_
          have hno : inn (l.getD i 0) s = true := by rw [← hg]; exact (inn_iff hlt hs).mp c44
          have hT : (l.take (i + 1)).filter (fun o => !inn o s) = ((l.take i).filter (fun o => !inn o s)) := by rw [hts, List.filter_append, List.filter_cons_of_neg (by rw [hno]; decide), List.filter_nil, List.append_nil]
          exact v_weak (by simp [vsub]) (ih left (i + 1) f1 ss1 (by omega) (by omega) (by omega) hM hF (by rw [hT]; exact hlf) (fun j hj => by rw [hT]; exact h1 j hj) (fun j q1 q2 => h2 j (by omega) q2) h3)
        · refine v_aload_n hx d_Fa_leaveOutThoseIn_47 rfl rfl ?_
          refine v_get hx cf_Fa 0 (by decide) k_Fa_9 d_Fa_leaveOutThoseIn_48 hM.m0 hM.f0 rfl ?_
          refine v_iload_n hx d_Fa_leaveOutThoseIn_51 rfl rfl ?_
          refine v_iload_n hx d_Fa_leaveOutThoseIn_52 rfl rfl ?_
          refine n_iadd hx d_Fa_leaveOutThoseIn_53 ?_
          refine v_iload hx d_Fa_leaveOutThoseIn_54 rfl ?_
          refine nn_iast hx d_Fa_leaveOutThoseIn_56 hM.m1 hM.f1 (by omega) (by decide) (fun f3 hf3 => ?_)
          have hF := hF.up hf3 hM.o1
          have hM := hM.up1 hf3
          refine n_iinc (lv' := [some (.ref (A 0)), some (.int (nI s)), some (.int (nI (c * 12))), some (.int (nI (left + 1))), some (.int (nI i)), some (.int (nI (ss1 ((c * 12) + i))))]) hx d_Fa_leaveOutThoseIn_57 rfl (by decide) rfl ?_
          refine n_iinc (lv' := [some (.ref (A 0)), some (.int (nI s)), some (.int (nI (c * 12))), some (.int (nI (left + 1))), some (.int (nI (i + 1))), some (.int (nI (ss1 ((c * 12) + i))))]) hx d_Fa_leaveOutThoseIn_60 rfl (by decide) rfl ?_
          refine v_goto (tgt := 13) hx d_Fa_leaveOutThoseIn_63 (by decide) ?_
          have hno : inn (l.getD i 0) s = false := by rw [← hg]; exact Bool.eq_false_iff.mpr (fun z => c44 ((inn_iff hlt hs).mpr z))
          have hT : (l.take (i + 1)).filter (fun o => !inn o s) = ((l.take i).filter (fun o => !inn o s)) ++ [l.getD i 0] := by rw [hts, List.filter_append, List.filter_cons_of_pos (by rw [hno]; rfl), List.filter_nil]
          refine v_weak (by simp [vsub]) (ih (left + 1) (i + 1) f3 _ (by omega) (by omega) (by omega) hM hF (by rw [hT, List.length_append, ← hlf]; rfl) (fun j hj => ?_) (fun j q1 q2 => ?_) (fun j hj => ?_))
          · rw [hT]
            by_cases e : j = left
            · subst e
              rw [va_up_self, hg, hlf]
              exact getD_mid.symm
            · rw [va_up_ne _ _ (by omega), h1 j (by omega), getD_app1 (by omega)]
          · rw [va_up_ne _ _ (by omega)]; exact h2 j (by omega) q2
          · rw [va_up_ne _ _ (by omega)]; exact h3 j hj
  exact H13 _ 0 0 f ss (Nat.lt_succ_self _) (Nat.zero_le _) (Nat.le_refl _) hM gF.rf rfl (fun _ h => absurd h (Nat.not_lt_zero _)) (fun j _ h => hR.get h) (fun _ _ => rfl)
set_option maxHeartbeats 4000000 in
set_option maxRecDepth 100000 in
theorem c_Fa_put {G : GT} {L : List Nat} {f : Nat → va_E} {w : Nat → Nat} {id : Nat} {A : Nat → Nat} {ss sz bo : Nat → Nat} {c : Nat} (hM : FaAt G L f w id A ss sz bo c) {l : List Nat} (hR : rowAt ss sz c l) (hO : fOK l 12) (hc : c < 300) (s : Nat) (hs : s < 4096) (hs0 : 0 < s) (hsum : fsum l + pcn s 12 ≤ 12) : Con G y_Fa_put (.code y_Fa_put b_Fa_put 4 none :: BIG) 1 25 0 0 [.ref (A 0), .int (nI s)] L f (fun v L' f' => v = none ∧ L' = L ∧ (∃ ss' sz' : Nat → Nat, FaAt G L f' w id A ss' sz' bo c ∧ rowAt ss' sz' c (fput l s) ∧ (∀ j, j < c * 12 → ss' j = ss j) ∧ ∀ t, t ≠ c → sz' t = sz t) ∧ gF w id f f') := by
  refine con_of (cc := b_Fa_put) (mL := 4) (lv := [some (.ref (A 0)), some (.int (nI s)), none, none]) (by decide) (by intro w hw; simp at hw; rcases hw with rfl | rfl <;> rfl) (by first | exact Nat.le_of_ble_eq_true rfl | decide) rfl ?_
  intro x hx hr hin
  have hll := hO.len
  have hsz := hR.1
  refine v_aload_n hx d_Fa_put_0 rfl rfl ?_
  refine v_iload_n hx d_Fa_put_1 rfl rfl ?_
  refine v_callV (as := [.int (nI s)]) (q := (R_Fa, T_Fa, 4)) hx (c_Fa_liesInOne hM hR hO hc s hs) cy_Fa_liesInOne k_Fa_55 ki_Fa_liesInOne kl_Fa_liesInOne d_Fa_put_2 (by decide) (ci := 0) rfl hM.m0 hM.f0 (by decide) rfl rfl (Nat.le_of_ble_eq_true rfl) (fun v1 L f p1 => ?_)
  obtain ⟨rfl, rfl, rfl⟩ := p1
  refine v_if_eq (tgt := 9) hx d_Fa_put_5 (by decide) (fun c5 => ?_) (fun c5 => ?_)
  · have hany : l.any (fun o => inn s o) = false := (bI_0 _).mp c5
    refine v_aload_n hx d_Fa_put_9 rfl rfl ?_
    refine v_iload_n hx d_Fa_put_10 rfl rfl ?_
    refine v_callV (as := [.int (nI s)]) (q := (R_Fa, T_Fa, 4)) hx (c_Fa_leaveOutThoseIn hM hR hO hc s hs) cy_Fa_leaveOutThoseIn k_Fa_59 ki_Fa_leaveOutThoseIn kl_Fa_leaveOutThoseIn d_Fa_put_11 (by decide) (ci := 0) rfl hM.m0 hM.f0 (by decide) rfl rfl (Nat.le_of_ble_eq_true rfl) (fun v2 L f1 p2 => ?_)
    obtain ⟨rfl, rfl, ⟨ss1, sz1, hM1, hR1, hj1, ht1⟩, hF⟩ := p2
    have hM := hM1
    generalize hl2 : l.filter (fun o => !inn o s) = l2 at hR1
    have hsum2 : fsum l2 + pcn s 12 ≤ 12 := by rw [← hl2]; have := sum_le_of_sub (l := l) (p := (fun o => !inn o s)); omega
    have hO2 : fOK l2 (12 - pcn s 12) := ⟨fun z hz => hO.1 z (by rw [← hl2] at hz; exact (List.mem_filter.mp hz).1), by omega⟩
    have hp0 := pcn_pos 12 hs0 (by simpa using hs)
    have hl2l := hO2.len
    have hsz1 := hR1.1
    refine v_aload_n hx d_Fa_put_14 rfl rfl ?_
    refine v_get hx cf_Fa 3 (by decide) k_Fa_21 d_Fa_put_15 hM.m0 hM.f0 rfl ?_
    refine v_bipush (v := (nI 12)) hx d_Fa_put_18 rfl ?_
    refine n_imul hx d_Fa_put_20 ?_
    refine v_istore_n (lv' := [some (.ref (A 0)), some (.int (nI s)), some (.int (nI (c * 12))), none]) hx d_Fa_put_21 rfl (by decide) rfl ?_
    refine v_aload_n hx d_Fa_put_22 rfl rfl ?_
    refine v_get hx cf_Fa 1 (by decide) k_Fa_15 d_Fa_put_23 hM.m0 hM.f0 rfl ?_
    refine v_aload_n hx d_Fa_put_26 rfl rfl ?_
    refine v_get hx cf_Fa 3 (by decide) k_Fa_21 d_Fa_put_27 hM.m0 hM.f0 rfl ?_
    refine n_iald hx d_Fa_put_30 hM.m2 hM.f2 (by omega) (by decide) ?_
    refine v_istore_n (lv' := [some (.ref (A 0)), some (.int (nI s)), some (.int (nI (c * 12))), some (.int (nI (sz1 c)))]) hx d_Fa_put_31 rfl (by decide) rfl ?_
    have H32 : ∀ (fu : Nat) (m : Nat) (f2 : Nat → va_E) (ss2 : Nat → Nat), m < fu → (m ≤ l2.length) → (FaAt G L f2 w id A ss2 sz1 bo c) → (gF w id f f2) → (ip (fun i => l2.getD i 0) s l2.length = ip (fun i => l2.getD i 0) s m) → (∀ j, j < m → ss2 (c * 12 + j) = l2.getD j 0) → (∀ j, m < j → j ≤ l2.length → ss2 (c * 12 + j) = l2.getD (j - 1) 0) → (∀ j, j < c * 12 → ss2 j = ss j) → V G { frames := 1, cells := 0, slots := 0, locals := 25 } 4 x L f2 0 0 [some (.ref (A 0)), some (.int (nI s)), some (.int (nI (c * 12))), some (.int (nI m))] 32 [] := by
      intro fu
      induction fu with
      | zero => intro m f2 ss2 hm; exact absurd hm (Nat.not_lt_zero _)
      | succ fu ih =>
        intro m f2 ss2 hm hml hM hF hip h1 h2 h3
        refine v_iload_n hx d_Fa_put_32 rfl rfl ?_
        refine n_if_le (tgt := 74) hx d_Fa_put_33 (by decide) (by omega) (fun c33 => ?_) (fun c33 => ?_)
        · have hpm : ip (fun i => l2.getD i 0) s l2.length = m := by
            rw [hip]
            first
            | (rw [c33]; rfl)
            | (rw [show m = m - 1 + 1 by omega]; exact (if_neg (by show ¬ s < l2.getD (m - 1) 0; omega)))
          refine v_aload_n hx d_Fa_put_74 rfl rfl ?_
          refine v_get hx cf_Fa 0 (by decide) k_Fa_9 d_Fa_put_75 hM.m0 hM.f0 rfl ?_
          refine v_iload_n hx d_Fa_put_78 rfl rfl ?_
          refine v_iload_n hx d_Fa_put_79 rfl rfl ?_
          refine n_iadd hx d_Fa_put_80 ?_
          refine v_iload_n hx d_Fa_put_81 rfl rfl ?_
          refine nn_iast hx d_Fa_put_82 hM.m1 hM.f1 (by omega) (by decide) (fun f3 hf3 => ?_)
          have hF := hF.up hf3 hM.o1
          have hM := hM.up1 hf3
          refine v_aload_n hx d_Fa_put_83 rfl rfl ?_
          refine v_get hx cf_Fa 1 (by decide) k_Fa_15 d_Fa_put_84 hM.m0 hM.f0 rfl ?_
          refine v_aload_n hx d_Fa_put_87 rfl rfl ?_
          refine v_get hx cf_Fa 3 (by decide) k_Fa_21 d_Fa_put_88 hM.m0 hM.f0 rfl ?_
          refine v_dup2 hx d_Fa_put_91 rfl rfl ?_
          refine n_iald hx d_Fa_put_92 hM.m2 hM.f2 (by omega) (by decide) ?_
          refine v_iconst (v := (nI 1)) hx d_Fa_put_93 rfl ?_
          refine n_iadd hx d_Fa_put_94 ?_
          refine nn_iast hx d_Fa_put_95 hM.m2 hM.f2 (by omega) (by decide) (fun f4 hf4 => ?_)
          have hF := hF.up hf4 hM.o2
          have hM := hM.up2 hf4
          have hfp : fput l s = insr s l2 := by unfold fput; rw [if_neg (by rw [hany]; decide), hl2]
          have hrow : ∀ j, j < (insr s l2).length → va_up ss2 (c * 12 + m) s (c * 12 + j) = (insr s l2).getD j 0 := by
            intro j hj
            rw [insr_len] at hj
            rcases Nat.lt_trichotomy j m with e | e | e
            · rw [va_up_ne _ _ (by omega), insr_lo (by omega)]; exact h1 j e
            · rw [e, va_up_self, ← hpm, insr_at]
            · rw [va_up_ne _ _ (by omega), insr_hi (by omega) (by omega)]; exact h2 j e (by omega)
          exact v_vret hx hr d_Fa_put_96 ⟨rfl, rfl, ⟨_, _, hM, ⟨by rw [va_up_self, hsz1, hfp, insr_len], by rw [hfp]; exact hrow⟩, fun j hj => by rw [va_up_ne _ _ (by omega)]; exact h3 j hj, fun t ht => by rw [va_up_ne _ _ ht]; exact ht1 t ht⟩, hF⟩
        · have hg : ss2 (c * 12 + m - 1) = l2.getD (m - 1) 0 := by rw [show c * 12 + m - 1 = c * 12 + (m - 1) by omega]; exact h1 _ (by omega)
          have hlt : ss2 (c * 12 + m - 1) < 4096 := by rw [hg]; exact (hO2.1 _ (getD_mem (by omega))).2
          refine v_aload_n hx d_Fa_put_36 rfl rfl ?_
          refine v_get hx cf_Fa 0 (by decide) k_Fa_9 d_Fa_put_37 hM.m0 hM.f0 rfl ?_
          refine v_iload_n hx d_Fa_put_40 rfl rfl ?_
          refine v_iload_n hx d_Fa_put_41 rfl rfl ?_
          refine n_iadd hx d_Fa_put_42 ?_
          refine v_iconst (v := (nI 1)) hx d_Fa_put_43 rfl ?_
          refine n_isub hx d_Fa_put_44 (by omega) ?_
          refine n_iald hx d_Fa_put_45 hM.m1 hM.f1 (by omega) (by decide) ?_
          refine v_iload_n hx d_Fa_put_46 rfl rfl ?_
          refine n_icmp_le (tgt := 74) hx d_Fa_put_47 (by decide) (by omega) (by omega) (fun c47 => ?_) (fun c47 => ?_)
          · have hpm : ip (fun i => l2.getD i 0) s l2.length = m := by
              rw [hip]
              first
              | (rw [c33]; rfl)
              | (rw [show m = m - 1 + 1 by omega]; exact (if_neg (by show ¬ s < l2.getD (m - 1) 0; omega)))
            refine v_aload_n hx d_Fa_put_74 rfl rfl ?_
            refine v_get hx cf_Fa 0 (by decide) k_Fa_9 d_Fa_put_75 hM.m0 hM.f0 rfl ?_
            refine v_iload_n hx d_Fa_put_78 rfl rfl ?_
            refine v_iload_n hx d_Fa_put_79 rfl rfl ?_
            refine n_iadd hx d_Fa_put_80 ?_
            refine v_iload_n hx d_Fa_put_81 rfl rfl ?_
            refine nn_iast hx d_Fa_put_82 hM.m1 hM.f1 (by omega) (by decide) (fun f5 hf5 => ?_)
            have hF := hF.up hf5 hM.o1
            have hM := hM.up1 hf5
            refine v_aload_n hx d_Fa_put_83 rfl rfl ?_
            refine v_get hx cf_Fa 1 (by decide) k_Fa_15 d_Fa_put_84 hM.m0 hM.f0 rfl ?_
            refine v_aload_n hx d_Fa_put_87 rfl rfl ?_
            refine v_get hx cf_Fa 3 (by decide) k_Fa_21 d_Fa_put_88 hM.m0 hM.f0 rfl ?_
            refine v_dup2 hx d_Fa_put_91 rfl rfl ?_
            refine n_iald hx d_Fa_put_92 hM.m2 hM.f2 (by omega) (by decide) ?_
            refine v_iconst (v := (nI 1)) hx d_Fa_put_93 rfl ?_
            refine n_iadd hx d_Fa_put_94 ?_
            refine nn_iast hx d_Fa_put_95 hM.m2 hM.f2 (by omega) (by decide) (fun f6 hf6 => ?_)
            have hF := hF.up hf6 hM.o2
            have hM := hM.up2 hf6
            have hfp : fput l s = insr s l2 := by unfold fput; rw [if_neg (by rw [hany]; decide), hl2]
            have hrow : ∀ j, j < (insr s l2).length → va_up ss2 (c * 12 + m) s (c * 12 + j) = (insr s l2).getD j 0 := by
              intro j hj
              rw [insr_len] at hj
              rcases Nat.lt_trichotomy j m with e | e | e
              · rw [va_up_ne _ _ (by omega), insr_lo (by omega)]; exact h1 j e
              · rw [e, va_up_self, ← hpm, insr_at]
              · rw [va_up_ne _ _ (by omega), insr_hi (by omega) (by omega)]; exact h2 j e (by omega)
            exact v_vret hx hr d_Fa_put_96 ⟨rfl, rfl, ⟨_, _, hM, ⟨by rw [va_up_self, hsz1, hfp, insr_len], by rw [hfp]; exact hrow⟩, fun j hj => by rw [va_up_ne _ _ (by omega)]; exact h3 j hj, fun t ht => by rw [va_up_ne _ _ ht]; exact ht1 t ht⟩, hF⟩
          · refine v_aload_n hx d_Fa_put_50 rfl rfl ?_
            refine v_get hx cf_Fa 0 (by decide) k_Fa_9 d_Fa_put_51 hM.m0 hM.f0 rfl ?_
            refine v_iload_n hx d_Fa_put_54 rfl rfl ?_
            refine v_iload_n hx d_Fa_put_55 rfl rfl ?_
            refine n_iadd hx d_Fa_put_56 ?_
            refine v_aload_n hx d_Fa_put_57 rfl rfl ?_
            refine v_get hx cf_Fa 0 (by decide) k_Fa_9 d_Fa_put_58 hM.m0 hM.f0 rfl ?_
            refine v_iload_n hx d_Fa_put_61 rfl rfl ?_
            refine v_iload_n hx d_Fa_put_62 rfl rfl ?_
            refine n_iadd hx d_Fa_put_63 ?_
            refine v_iconst (v := (nI 1)) hx d_Fa_put_64 rfl ?_
            refine n_isub hx d_Fa_put_65 (by omega) ?_
            refine n_iald hx d_Fa_put_66 hM.m1 hM.f1 (by omega) (by decide) ?_
            refine nn_iast hx d_Fa_put_67 hM.m1 hM.f1 (by omega) (by decide) (fun f7 hf7 => ?_)
            have hF := hF.up hf7 hM.o1
            have hM := hM.up1 hf7
            refine n_idec (lv' := [some (.ref (A 0)), some (.int (nI s)), some (.int (nI (c * 12))), some (.int (nI (m - 1)))]) hx d_Fa_put_68 rfl (by omega) (by decide) rfl ?_
            refine v_goto (tgt := 32) hx d_Fa_put_71 (by decide) ?_
            have hips : ip (fun i => l2.getD i 0) s m = ip (fun i => l2.getD i 0) s (m - 1) := by
              rw [show m = m - 1 + 1 by omega]
              exact if_pos (by show s < l2.getD (m - 1) 0; omega)
            refine ih (m - 1) f7 _ (by omega) (by omega) hM hF (hip.trans hips) (fun j hj => ?_) (fun j q1 q2 => ?_) (fun j hj => ?_)
            · rw [va_up_ne _ _ (by omega)]; exact h1 j (by omega)
            · by_cases e : j = m
              · subst e; rw [va_up_self, hg]
              · rw [va_up_ne _ _ (by omega)]; exact h2 j (by omega) q2
            · rw [va_up_ne _ _ (by omega)]; exact h3 j hj
    rw [hsz1]
    exact H32 _ l2.length f1 ss1 (Nat.lt_succ_self _) (Nat.le_refl _) hM hF rfl (fun j hj => hR1.get hj) (fun j q1 q2 => absurd q1 (by omega)) hj1
  · have hany : l.any (fun o => inn s o) = true := Bool.of_not_eq_false (fun z => c5 ((bI_0 _).mpr z))
    exact v_vret hx hr d_Fa_put_8 ⟨rfl, rfl, ⟨ss, sz, hM, by unfold fput; rw [if_pos hany]; exact hR, fun _ _ => rfl, fun _ _ => rfl⟩, gF.rf⟩
end
section
/-! ===== modules apart; what Families' loops compute ===== -/
theorem MaAt.fr {G : GT} {L : List Nat} {f f' : Nat → va_E} {w : Nat → Nat} {id idM : Nat} {B : Nat → Nat} {nx ou lo fi : Nat → Nat} {n k b : Nat} (h : MaAt G L f w idM B nx ou lo fi n k b) (hF : gF w id f f') (hne : idM ≠ id) : MaAt G L f' w idM B nx ou lo fi n k b := h.move (fun _ q => q) (fun _ _ => rfl) (fun q _ hw => hF q (by rw [hw]; exact hne))
theorem SeAt.fr {G : GT} {L : List Nat} {f f' : Nat → va_E} {w : Nat → Nat} {id idM : Nat} {B : Nat → Nat} {nm : Nat → Option Nat} {pl st : Nat → Nat} {c : Nat} (h : SeAt G L f w idM B nm pl st c) (hF : gF w id f f') (hne : idM ≠ id) : SeAt G L f' w idM B nm pl st c := h.move (fun _ q => q) (fun _ _ => rfl) (fun q _ hw => hF q (by rw [hw]; exact hne))
theorem FaAt.fr {G : GT} {L : List Nat} {f f' : Nat → va_E} {w : Nat → Nat} {id idM : Nat} {B : Nat → Nat} {ss sz bo : Nat → Nat} {c : Nat} (h : FaAt G L f w idM B ss sz bo c) (hF : gF w id f f') (hne : idM ≠ id) : FaAt G L f' w idM B ss sz bo c := h.move (fun _ q => q) (fun _ _ => rfl) (fun q _ hw => hF q (by rw [hw]; exact hne))
theorem fil_n2 (g : Nat → Nat) (N v : Nat) : fil (fun k => nI (g k)) 0 N (nI v) = fun k => nI (if k < N then v else g k) := by
  rw [fil_nI]
  funext k
  simp
def alm (lo : Nat → Nat) : Nat → Nat
  | 0 => 0
  | s + 1 => alm lo s ||| 2 ^ lo s
theorem alm_lt {lo : Nat → Nat} {n : Nat} (h : ∀ s, s < n → lo s < 12) : ∀ s, s ≤ n → alm lo s < 2 ^ 12
  | 0, _ => by simp [alm]
  | s + 1, hs => Nat.or_lt_two_pow (alm_lt h s (by omega)) (Nat.pow_lt_pow_right (by decide) (h s (by omega)))
theorem pcn_0 : ∀ m, pcn 0 m = 0
  | 0 => rfl
  | m + 1 => by simp [pcn, pcn_0 m]
theorem alm_pcn {lo : Nat → Nat} {n : Nat} (h : ∀ s, s < n → lo s < 12) : ∀ s, s ≤ n → pcn (alm lo s) 12 ≤ s
  | 0, _ => by simp [alm, pcn_0]
  | s + 1, hs => by
    have h1 := alm_pcn h s (by omega)
    have h2 := pcn_or (alm lo s) (lo s) 12
    rw [if_pos (h s (by omega))] at h2
    simp only [alm]
    omega
theorem alm_pos {lo : Nat → Nat} {n : Nat} (h1 : 1 ≤ n) : 0 < alm lo n := by
  obtain ⟨m, rfl⟩ : ∃ m, n = m + 1 := ⟨n - 1, by omega⟩
  simp only [alm]
  have : 2 ^ lo m ≤ alm lo m ||| 2 ^ lo m := Nat.right_le_or
  have := Nat.two_pow_pos (lo m)
  omega
theorem alm_congr {lo lo' : Nat → Nat} : ∀ {n : Nat}, (∀ s, s < n → lo s = lo' s) → alm lo n = alm lo' n
  | 0, _ => rfl
  | n + 1, h => by simp only [alm]; rw [h n (by omega), alm_congr (fun s hs => h s (by omega))]
theorem fput_nil (s : Nat) : fput [] s = [s] := rfl
theorem fsum_take {l : List Nat} {i : Nat} (hi : i < l.length) : fsum (l.take (i + 1)) = fsum (l.take i) + pcn (l.getD i 0) 12 := by
  rw [take_s hi]
  simp [fsum]
theorem fsum_take_le (l : List Nat) (i : Nat) : fsum (l.take i) ≤ fsum l := by
  have h : fsum (l.take i) + fsum (l.drop i) = fsum l := by
    unfold fsum
    rw [← List.sum_append, ← List.map_append, List.take_append_drop]
  omega
theorem ffol_ok {og g : Nat → Nat} {n : Nat} {l : List Nat} (h : ∀ s, s < n → g s < 12) (hn : n ≤ 12) : ∀ i, i ≤ l.length → fOK (ffol og g n l i) (fsum (l.take i))
  | 0, _ => ⟨fun _ q => absurd q List.not_mem_nil, Nat.zero_le _⟩
  | i + 1, hi => by
    have ih := ffol_ok (og := og) (l := l) h hn i (by omega)
    have q := ih.part (S := l.getD i 0) (og := og) h 10
    have q2 := mosum_le (S := l.getD i 0) (og := og) n h 10
    have q3 := pcn_mono (l.getD i 0) hn
    rw [fsum_take (by omega)]
    exact ⟨q.1, Nat.le_trans q.2 (by omega)⟩
theorem all_false {l : List Nat} {p : Nat → Bool} {i : Nat} (hi : i < l.length) (h : p (l.getD i 0) = false) : l.all p = false := by
  rw [List.all_eq_false]
  exact ⟨_, getD_mem hi, by rw [h]; decide⟩
theorem all_true {l : List Nat} {p : Nat → Bool} (h : ∀ j, j < l.length → p (l.getD j 0) = true) : l.all p = true := by
  rw [List.all_eq_true]
  intro x hx
  obtain ⟨i, hi, rfl⟩ := List.mem_iff_getElem.mp hx
  have q := h i hi
  have : l.getD i 0 = l[i] := by simp [hi]
  rw [this] at q
  exact q
theorem list_eq {l m : List Nat} (h : l.length = m.length) (h2 : ∀ j, j < l.length → l.getD j 0 = m.getD j 0) : l = m := by
  apply List.ext_getElem h
  intro i h1 h3
  have q := h2 i h1
  simpa [h1, h3] using q
end
section
set_option maxHeartbeats 4000000 in
set_option maxRecDepth 100000 in
theorem c_Fa_begin {G : GT} {L : List Nat} {f : Nat → va_E} {w : Nat → Nat} {id : Nat} {A : Nat → Nat} {ss sz bo : Nat → Nat} {c : Nat} (hM : FaAt G L f w id A ss sz bo c) {idM : Nat} {B : Nat → Nat} {nx ou lo fi : Nat → Nat} {n k b : Nat} (hMa : MaAt G L f w idM B nx ou lo fi n k b) (hid : idM ≠ id) (hA : okA nx ou n k) (hn12 : n ≤ 12) (hlo : ∀ s, s < n → lo s ≤ s) : Con G y_Fa_begin (.code y_Fa_begin b_Fa_begin 4 none :: BIG) 2 48 0 0 [.ref (A 0), .ref (B 0)] L f (fun v L' f' => v = none ∧ L' = L ∧ (∃ ss' sz' : Nat → Nat, FaAt G L f' w id A ss' sz' bo 0 ∧ rowAt ss' sz' 0 [alm lo n]) ∧ gF w id f f') := by
  refine con_of (cc := b_Fa_begin) (mL := 4) (lv := [some (.ref (A 0)), some (.ref (B 0)), none, none]) (by decide) (by intro w hw; simp at hw; rcases hw with rfl | rfl <;> rfl) (by first | exact Nat.le_of_ble_eq_true rfl | decide) rfl ?_
  intro x hx hr hin
  have hF := gF.rf (w := w) (id := id) (f := f)
  have hA_ := hA
  obtain ⟨hn1, hn2, hk1, hk2, hnx⟩ := hA_
  have hlo12 : ∀ s, s < n → lo s < 12 := fun s hs => by have := hlo s hs; omega
  refine v_aload_n hx d_Fa_begin_0 rfl rfl ?_
  refine v_iconst (v := (nI 0)) hx d_Fa_begin_1 rfl ?_
  refine v_put hx cf_Fa 3 (by decide) k_Fa_21 rfl rfl rfl d_Fa_begin_2 hM.m0 hM.f0 (Nat.le_of_ble_eq_true rfl) (fun f1 hf1 => ?_)
  have hF := hF.up hf1 hM.o0
  have hM := hM.up0 hf1
  refine v_aload_n hx d_Fa_begin_5 rfl rfl ?_
  refine v_get hx cf_Fa 1 (by decide) k_Fa_15 d_Fa_begin_6 hM.m0 hM.f0 rfl ?_
  refine v_iconst (v := (nI 0)) hx d_Fa_begin_9 rfl ?_
  refine v_iconst (v := (nI 0)) hx d_Fa_begin_10 rfl ?_
  refine nn_iast hx d_Fa_begin_11 hM.m2 hM.f2 (by omega) (by decide) (fun f2 hf2 => ?_)
  have hF := hF.up hf2 hM.o2
  have hM := hM.up2 hf2
  refine v_iconst (v := (nI 0)) hx d_Fa_begin_12 rfl ?_
  refine v_istore_n (lv' := [some (.ref (A 0)), some (.ref (B 0)), some (.int (nI 0)), none]) hx d_Fa_begin_13 rfl (by decide) rfl ?_
  refine v_iconst (v := (nI 0)) hx d_Fa_begin_14 rfl ?_
  refine v_istore_n (lv' := [some (.ref (A 0)), some (.ref (B 0)), some (.int (nI 0)), some (.int (nI 0))]) hx d_Fa_begin_15 rfl (by decide) rfl ?_
  have H16 : ∀ (fu : Nat) (s : Nat), n - s < fu → (s ≤ n) → V G { frames := 2, cells := 0, slots := 0, locals := 48 } 4 x L f2 0 0 [some (.ref (A 0)), some (.ref (B 0)), some (.int (nI (alm lo s))), some (.int (nI s))] 16 [] := by
    intro fu
    induction fu with
    | zero => intro s hm; exact absurd hm (Nat.not_lt_zero _)
    | succ fu ih =>
      intro s hm hs
      refine v_iload_n hx d_Fa_begin_16 rfl rfl ?_
      refine v_aload_n hx d_Fa_begin_17 rfl rfl ?_
      refine v_getN hx cf_Ma 4 (by decide) kN_Fa_25 d_Fa_begin_18 (hMa.fr hF hid).m0 (hMa.fr hF hid).f0 rfl ?_
      refine n_icmp_ge (tgt := 40) hx d_Fa_begin_21 (by decide) (by omega) (by omega) (fun c21 => ?_) (fun c21 => ?_)
      · have hsn : s = n := by omega
        refine v_aload_n hx d_Fa_begin_40 rfl rfl ?_
        refine v_iload_n hx d_Fa_begin_41 rfl rfl ?_
        refine v_callV (as := [.int (nI (alm lo s))]) (q := (R_Fa, T_Fa, 4)) hx (c_Fa_put hM (l := []) ⟨va_up_self _ _ _, fun _ h => absurd h (Nat.not_lt_zero _)⟩ ⟨fun _ h => absurd h List.not_mem_nil, Nat.zero_le _⟩ (by decide) (alm lo s) (by have := alm_lt hlo12 s (by omega); simpa using this) (alm_pos (by omega)) (by have := alm_pcn hlo12 s (by omega); simp [fsum]; omega)) cy_Fa_put k_Fa_34 ki_Fa_put kl_Fa_put d_Fa_begin_42 (by decide) (ci := 0) rfl hM.m0 hM.f0 (by decide) rfl rfl (Nat.le_of_ble_eq_true rfl) (fun v3 L f9 p3 => ?_)
        obtain ⟨rfl, rfl, ⟨ss9, sz9, hM9, hR9, -, -⟩, hF9⟩ := p3
        exact v_vret hx hr d_Fa_begin_45 ⟨rfl, rfl, ⟨ss9, sz9, hM9, (by rw [← hsn]; exact hR9)⟩, hF.tr hF9⟩
      · refine v_iload_n hx d_Fa_begin_24 rfl rfl ?_
        refine v_iconst (v := (nI 1)) hx d_Fa_begin_25 rfl ?_
        refine v_aload_n hx d_Fa_begin_26 rfl rfl ?_
        refine v_iload_n hx d_Fa_begin_27 rfl rfl ?_
        refine v_callV (as := [.int (nI s)]) (q := (R_Ma, T_Ma, 7)) hx (c_Ma_leastLike (hMa.fr hF hid) s (by omega)) cy_Ma_leastLike k_Fa_30 ki_Ma_leastLike kl_Ma_leastLike d_Fa_begin_28 (by decide) (ci := 1) rfl (hMa.fr hF hid).m0 (hMa.fr hF hid).f0 (by decide) rfl rfl (Nat.le_of_ble_eq_true rfl) (fun v4 L f2 p4 => ?_)
        obtain ⟨rfl, rfl, rfl⟩ := p4
        refine v_ishl hx d_Fa_begin_31 rfl ?_
        refine v_ior (v := (nI (alm lo s ||| 2 ^ lo s))) hx d_Fa_begin_32 (bit_or (alm_lt hlo12 s (by omega)) (hlo12 s (by omega))) ?_
        refine v_istore_n (lv' := [some (.ref (A 0)), some (.ref (B 0)), some (.int (nI (alm lo s ||| 2 ^ lo s))), some (.int (nI s))]) hx d_Fa_begin_33 rfl (by decide) rfl ?_
        refine n_iinc (lv' := [some (.ref (A 0)), some (.ref (B 0)), some (.int (nI (alm lo s ||| 2 ^ lo s))), some (.int (nI (s + 1)))]) hx d_Fa_begin_34 rfl (by decide) rfl ?_
        refine v_goto (tgt := 16) hx d_Fa_begin_37 (by decide) ?_
        exact ih (s + 1) (by omega) (by omega)
  exact H16 _ 0 (Nat.lt_succ_self _) (Nat.zero_le _)
theorem pcn_le (S : Nat) : ∀ m, pcn S m ≤ m
  | 0 => Nat.le_refl _
  | m + 1 => by have := pcn_le S m; have := Nat.mod_lt (S / 2 ^ m) (show 0 < 2 by decide); simp only [pcn]; omega
theorem pcn_small (S : Nat) : pcn S 12 < 2 ^ 31 := by have := pcn_le S 12; omega
set_option maxHeartbeats 4000000 in
set_option maxRecDepth 100000 in
theorem c_Fa_openOneIsSingles {G : GT} {L : List Nat} {f : Nat → va_E} {w : Nat → Nat} {id : Nat} {A : Nat → Nat} {ss sz bo : Nat → Nat} {c : Nat} (hM : FaAt G L f w id A ss sz bo c) {l : List Nat} (hR : rowAt ss sz c l) (hO : fOK l 12) (hc : c < 300) : Con G y_Fa_openOneIsSingles (.code y_Fa_openOneIsSingles b_Fa_openOneIsSingles 2 (some .boolean) :: BIG) 1 20 0 0 [.ref (A 0)] L f (fun v L' f' => v = some (.int (bI (l.all (fun s => decide (pcn s 12 = 1))))) ∧ L' = L ∧ f' = f) := by
  refine con_of (cc := b_Fa_openOneIsSingles) (mL := 2) (lv := [some (.ref (A 0)), none]) (by decide) (by intro w hw; simp at hw; rcases hw with rfl <;> rfl) (by first | exact Nat.le_of_ble_eq_true rfl | decide) rfl ?_
  intro x hx hr hin
  have hll := hO.len
  have hsz := hR.1
  refine v_iconst (v := (nI 0)) hx d_Fa_openOneIsSingles_0 rfl ?_
  refine v_istore_n (lv' := [some (.ref (A 0)), some (.int (nI 0))]) hx d_Fa_openOneIsSingles_1 rfl (by decide) rfl ?_
  have H2 : ∀ (fu : Nat) (i : Nat), l.length - i < fu → (i ≤ l.length) → (∀ j, j < i → decide (pcn (l.getD j 0) 12 = 1) = true) → V G { frames := 1, cells := 0, slots := 0, locals := 20 } 2 x L f 0 0 [some (.ref (A 0)), some (.int (nI i))] 2 [] := by
    intro fu
    induction fu with
    | zero => intro i hm; exact absurd hm (Nat.not_lt_zero _)
    | succ fu ih =>
      intro i hm hi hj
      refine v_iload_n hx d_Fa_openOneIsSingles_2 rfl rfl ?_
      refine v_aload_n hx d_Fa_openOneIsSingles_3 rfl rfl ?_
      refine v_get hx cf_Fa 1 (by decide) k_Fa_15 d_Fa_openOneIsSingles_4 hM.m0 hM.f0 rfl ?_
      refine v_aload_n hx d_Fa_openOneIsSingles_7 rfl rfl ?_
      refine v_get hx cf_Fa 3 (by decide) k_Fa_21 d_Fa_openOneIsSingles_8 hM.m0 hM.f0 rfl ?_
      refine n_iald hx d_Fa_openOneIsSingles_11 hM.m2 hM.f2 (by omega) (by decide) ?_
      refine n_icmp_ge (tgt := 44) hx d_Fa_openOneIsSingles_12 (by decide) (by omega) (by omega) (fun c12 => ?_) (fun c12 => ?_)
      · refine v_iconst (v := (nI 1)) hx d_Fa_openOneIsSingles_44 rfl ?_
        exact v_zret hx hr d_Fa_openOneIsSingles_45 rfl ⟨by rw [all_true (fun j hj2 => hj j (by omega))]; rfl, rfl, rfl⟩
      · have hg := hR.get (i := i) (by omega)
        have hlt := (hR.lt hO (i := i) (by omega)).2
        have hpl : pcn (ss (c * 12 + i)) 12 < 2 ^ 31 := pcn_small _
        refine v_aload_n hx d_Fa_openOneIsSingles_15 rfl rfl ?_
        refine v_get hx cf_Fa 0 (by decide) k_Fa_9 d_Fa_openOneIsSingles_16 hM.m0 hM.f0 rfl ?_
        refine v_aload_n hx d_Fa_openOneIsSingles_19 rfl rfl ?_
        refine v_get hx cf_Fa 3 (by decide) k_Fa_21 d_Fa_openOneIsSingles_20 hM.m0 hM.f0 rfl ?_
        refine v_bipush (v := (nI 12)) hx d_Fa_openOneIsSingles_23 rfl ?_
        refine n_imul hx d_Fa_openOneIsSingles_25 ?_
        refine v_iload_n hx d_Fa_openOneIsSingles_26 rfl rfl ?_
        refine n_iadd hx d_Fa_openOneIsSingles_27 ?_
        refine n_iald hx d_Fa_openOneIsSingles_28 hM.m1 hM.f1 (by omega) (by decide) ?_
        refine v_callS (as := [.int (nI (ss ((c * 12) + i)))]) hx (c_In_bitCount (ss (c * 12 + i)) hlt) cy_In_bitCount k_Fa_62 ks_In_bitCount d_Fa_openOneIsSingles_29 (by decide) (by decide) rfl rfl (Nat.le_of_ble_eq_true rfl) (fun v1 L f p1 => ?_)
        obtain ⟨rfl, rfl, rfl⟩ := p1
        refine v_iconst (v := (nI 1)) hx d_Fa_openOneIsSingles_32 rfl ?_
        refine n_icmp_eq (tgt := 38) hx d_Fa_openOneIsSingles_33 (by decide) (by omega) (by omega) (fun c33 => ?_) (fun c33 => ?_)
        · refine n_iinc (lv' := [some (.ref (A 0)), some (.int (nI (i + 1)))]) hx d_Fa_openOneIsSingles_38 rfl (by decide) rfl ?_
          refine v_goto (tgt := 2) hx d_Fa_openOneIsSingles_41 (by decide) ?_
          exact ih (i + 1) (by omega) (by omega) (lt_s hj (by rw [← hg]; exact decide_eq_true c33))
        · refine v_iconst (v := (nI 0)) hx d_Fa_openOneIsSingles_36 rfl ?_
          exact v_zret hx hr d_Fa_openOneIsSingles_37 rfl ⟨by rw [all_false (i := i) (by omega) (by rw [← hg]; exact decide_eq_false c33)]; rfl, rfl, rfl⟩
  exact H2 _ 0 (Nat.lt_succ_self _) (Nat.zero_le _) (fun _ h => absurd h (Nat.not_lt_zero _))
set_option maxHeartbeats 4000000 in
set_option maxRecDepth 100000 in
theorem c_Fa_openOneIs {G : GT} {L : List Nat} {f : Nat → va_E} {w : Nat → Nat} {id : Nat} {A : Nat → Nat} {ss sz bo : Nat → Nat} {c : Nat} (hM : FaAt G L f w id A ss sz bo c) {l : List Nat} (hR : rowAt ss sz c l) (hO : fOK l 12) (hc : c < 300) {lk : List Nat} (t : Nat) (ht : t < 300) (hRk : rowAt ss sz t lk) (hOk : fOK lk 12) : Con G y_Fa_openOneIs (.code y_Fa_openOneIs b_Fa_openOneIs 3 (some .boolean) :: BIG) 0 0 0 0 [.ref (A 0), .int (nI t)] L f (fun v L' f' => v = some (.int (bI (decide (lk = l)))) ∧ L' = L ∧ f' = f) := by
  refine con_of (cc := b_Fa_openOneIs) (mL := 3) (lv := [some (.ref (A 0)), some (.int (nI t)), none]) (by decide) (by intro w hw; simp at hw; rcases hw with rfl | rfl <;> rfl) (by first | exact Nat.le_of_ble_eq_true rfl | decide) rfl ?_
  intro x hx hr hin
  have hll := hO.len
  have hsz := hR.1
  have hlk := hOk.len
  have hszk := hRk.1
  refine v_aload_n hx d_Fa_openOneIs_0 rfl rfl ?_
  refine v_get hx cf_Fa 1 (by decide) k_Fa_15 d_Fa_openOneIs_1 hM.m0 hM.f0 rfl ?_
  refine v_iload_n hx d_Fa_openOneIs_4 rfl rfl ?_
  refine n_iald hx d_Fa_openOneIs_5 hM.m2 hM.f2 (by omega) (by decide) ?_
  refine v_aload_n hx d_Fa_openOneIs_6 rfl rfl ?_
  refine v_get hx cf_Fa 1 (by decide) k_Fa_15 d_Fa_openOneIs_7 hM.m0 hM.f0 rfl ?_
  refine v_aload_n hx d_Fa_openOneIs_10 rfl rfl ?_
  refine v_get hx cf_Fa 3 (by decide) k_Fa_21 d_Fa_openOneIs_11 hM.m0 hM.f0 rfl ?_
  refine n_iald hx d_Fa_openOneIs_14 hM.m2 hM.f2 (by omega) (by decide) ?_
  refine n_icmp_eq (tgt := 20) hx d_Fa_openOneIs_15 (by decide) (by omega) (by omega) (fun c15 => ?_) (fun c15 => ?_)
  · refine v_iconst (v := (nI 0)) hx d_Fa_openOneIs_20 rfl ?_
    refine v_istore_n (lv' := [some (.ref (A 0)), some (.int (nI t)), some (.int (nI 0))]) hx d_Fa_openOneIs_21 rfl (by decide) rfl ?_
    have H22 : ∀ (fu : Nat) (i : Nat), l.length - i < fu → (i ≤ l.length) → (∀ j, j < i → lk.getD j 0 = l.getD j 0) → V G { frames := 0, cells := 0, slots := 0, locals := 0 } 3 x L f 0 0 [some (.ref (A 0)), some (.int (nI t)), some (.int (nI i))] 22 [] := by
      intro fu
      induction fu with
      | zero => intro i hm; exact absurd hm (Nat.not_lt_zero _)
      | succ fu ih =>
        intro i hm hi hj
        refine v_iload_n hx d_Fa_openOneIs_22 rfl rfl ?_
        refine v_aload_n hx d_Fa_openOneIs_23 rfl rfl ?_
        refine v_get hx cf_Fa 1 (by decide) k_Fa_15 d_Fa_openOneIs_24 hM.m0 hM.f0 rfl ?_
        refine v_aload_n hx d_Fa_openOneIs_27 rfl rfl ?_
        refine v_get hx cf_Fa 3 (by decide) k_Fa_21 d_Fa_openOneIs_28 hM.m0 hM.f0 rfl ?_
        refine n_iald hx d_Fa_openOneIs_31 hM.m2 hM.f2 (by omega) (by decide) ?_
        refine n_icmp_ge (tgt := 71) hx d_Fa_openOneIs_32 (by decide) (by omega) (by omega) (fun c32 => ?_) (fun c32 => ?_)
        · refine v_iconst (v := (nI 1)) hx d_Fa_openOneIs_71 rfl ?_
          exact v_zret hx hr d_Fa_openOneIs_72 rfl ⟨by rw [decide_eq_true (list_eq (by omega) (fun j hj2 => hj j (by omega)))]; rfl, rfl, rfl⟩
        · have hg := hR.get (i := i) (by omega)
          have hgk := hRk.get (i := i) (by omega)
          have hlt := (hR.lt hO (i := i) (by omega)).2
          have hltk := (hRk.lt hOk (i := i) (by omega)).2
          refine v_aload_n hx d_Fa_openOneIs_35 rfl rfl ?_
          refine v_get hx cf_Fa 0 (by decide) k_Fa_9 d_Fa_openOneIs_36 hM.m0 hM.f0 rfl ?_
          refine v_iload_n hx d_Fa_openOneIs_39 rfl rfl ?_
          refine v_bipush (v := (nI 12)) hx d_Fa_openOneIs_40 rfl ?_
          refine n_imul hx d_Fa_openOneIs_42 ?_
          refine v_iload_n hx d_Fa_openOneIs_43 rfl rfl ?_
          refine n_iadd hx d_Fa_openOneIs_44 ?_
          refine n_iald hx d_Fa_openOneIs_45 hM.m1 hM.f1 (by omega) (by decide) ?_
          refine v_aload_n hx d_Fa_openOneIs_46 rfl rfl ?_
          refine v_get hx cf_Fa 0 (by decide) k_Fa_9 d_Fa_openOneIs_47 hM.m0 hM.f0 rfl ?_
          refine v_aload_n hx d_Fa_openOneIs_50 rfl rfl ?_
          refine v_get hx cf_Fa 3 (by decide) k_Fa_21 d_Fa_openOneIs_51 hM.m0 hM.f0 rfl ?_
          refine v_bipush (v := (nI 12)) hx d_Fa_openOneIs_54 rfl ?_
          refine n_imul hx d_Fa_openOneIs_56 ?_
          refine v_iload_n hx d_Fa_openOneIs_57 rfl rfl ?_
          refine n_iadd hx d_Fa_openOneIs_58 ?_
          refine n_iald hx d_Fa_openOneIs_59 hM.m1 hM.f1 (by omega) (by decide) ?_
          refine n_icmp_eq (tgt := 65) hx d_Fa_openOneIs_60 (by decide) (by omega) (by omega) (fun c60 => ?_) (fun c60 => ?_)
          · refine n_iinc (lv' := [some (.ref (A 0)), some (.int (nI t)), some (.int (nI (i + 1)))]) hx d_Fa_openOneIs_65 rfl (by decide) rfl ?_
            refine v_goto (tgt := 22) hx d_Fa_openOneIs_68 (by decide) ?_
            exact ih (i + 1) (by omega) (by omega) (lt_s hj (by rw [← hg, ← hgk]; exact c60))
          · refine v_iconst (v := (nI 0)) hx d_Fa_openOneIs_63 rfl ?_
            exact v_zret hx hr d_Fa_openOneIs_64 rfl ⟨by rw [decide_eq_false (fun e => c60 (by rw [hg, hgk, e]))]; rfl, rfl, rfl⟩
    exact H22 _ 0 (Nat.lt_succ_self _) (Nat.zero_le _) (fun _ h => absurd h (Nat.not_lt_zero _))
  · refine v_iconst (v := (nI 0)) hx d_Fa_openOneIs_18 rfl ?_
    exact v_zret hx hr d_Fa_openOneIs_19 rfl ⟨by rw [decide_eq_false (fun e => c15 (by rw [hszk, hsz, e]))]; rfl, rfl, rfl⟩
set_option maxHeartbeats 4000000 in
set_option maxRecDepth 100000 in
theorem c_Fa_openOneIsKnown {G : GT} {L : List Nat} {f : Nat → va_E} {w : Nat → Nat} {id : Nat} {A : Nat → Nat} {ss sz bo : Nat → Nat} {c : Nat} (hM : FaAt G L f w id A ss sz bo c) {l : List Nat} (hR : rowAt ss sz c l) (hO : fOK l 12) (hc : c < 300) {rows : Nat → List Nat} (hRs : ∀ t, t < c → rowAt ss sz t (rows t) ∧ fOK (rows t) 12) : Con G y_Fa_openOneIsKnown (.code y_Fa_openOneIsKnown b_Fa_openOneIsKnown 2 (some .boolean) :: BIG) 1 22 0 0 [.ref (A 0)] L f (fun v L' f' => (∃ sp : Bool, v = some (.int (bI sp)) ∧ (sp = true ↔ ∃ t, t < c ∧ rows t = l)) ∧ L' = L ∧ f' = f) := by
  refine con_of (cc := b_Fa_openOneIsKnown) (mL := 2) (lv := [some (.ref (A 0)), none]) (by decide) (by intro w hw; simp at hw; rcases hw with rfl <;> rfl) (by first | exact Nat.le_of_ble_eq_true rfl | decide) rfl ?_
  intro x hx hr hin
  refine v_iconst (v := (nI 0)) hx d_Fa_openOneIsKnown_0 rfl ?_
  refine v_istore_n (lv' := [some (.ref (A 0)), some (.int (nI 0))]) hx d_Fa_openOneIsKnown_1 rfl (by decide) rfl ?_
  have H2 : ∀ (fu : Nat) (t : Nat), c - t < fu → (t ≤ c) → (∀ j, j < t → rows j ≠ l) → V G { frames := 1, cells := 0, slots := 0, locals := 22 } 2 x L f 0 0 [some (.ref (A 0)), some (.int (nI t))] 2 [] := by
    intro fu
    induction fu with
    | zero => intro t hm; exact absurd hm (Nat.not_lt_zero _)
    | succ fu ih =>
      intro t hm ht hj
      refine v_iload_n hx d_Fa_openOneIsKnown_2 rfl rfl ?_
      refine v_aload_n hx d_Fa_openOneIsKnown_3 rfl rfl ?_
      refine v_get hx cf_Fa 3 (by decide) k_Fa_21 d_Fa_openOneIsKnown_4 hM.m0 hM.f0 rfl ?_
      refine n_icmp_ge (tgt := 26) hx d_Fa_openOneIsKnown_7 (by decide) (by omega) (by omega) (fun c7 => ?_) (fun c7 => ?_)
      · refine v_iconst (v := (nI 0)) hx d_Fa_openOneIsKnown_26 rfl ?_
        exact v_zret hx hr d_Fa_openOneIsKnown_27 rfl ⟨⟨false, rfl, ⟨fun e => (by cases e), fun ⟨j, h1, h2⟩ => absurd h2 (hj j (by omega))⟩⟩, rfl, rfl⟩
      · refine v_aload_n hx d_Fa_openOneIsKnown_10 rfl rfl ?_
        refine v_iload_n hx d_Fa_openOneIsKnown_11 rfl rfl ?_
        refine v_callV (as := [.int (nI t)]) (q := (R_Fa, T_Fa, 4)) hx (c_Fa_openOneIs hM hR hO hc t (by omega) (hRs t (by omega)).1 (hRs t (by omega)).2) cy_Fa_openOneIs k_Fa_67 ki_Fa_openOneIs kl_Fa_openOneIs d_Fa_openOneIsKnown_12 (by decide) (ci := 0) rfl hM.m0 hM.f0 (by decide) rfl rfl (Nat.le_of_ble_eq_true rfl) (fun v1 L f p1 => ?_)
        obtain ⟨rfl, rfl, rfl⟩ := p1
        refine v_if_eq (tgt := 20) hx d_Fa_openOneIsKnown_15 (by decide) (fun c15 => ?_) (fun c15 => ?_)
        · refine n_iinc (lv' := [some (.ref (A 0)), some (.int (nI (t + 1)))]) hx d_Fa_openOneIsKnown_20 rfl (by decide) rfl ?_
          refine v_goto (tgt := 2) hx d_Fa_openOneIsKnown_23 (by decide) ?_
          exact ih (t + 1) (by omega) (by omega) (lt_s hj (of_decide_eq_false ((bI_0 _).mp c15)))
        · refine v_iconst (v := (nI 1)) hx d_Fa_openOneIsKnown_18 rfl ?_
          exact v_zret hx hr d_Fa_openOneIsKnown_19 rfl ⟨⟨true, rfl, ⟨fun _ => ⟨t, c7, of_decide_eq_true (Bool.of_not_eq_false (fun z => c15 ((bI_0 _).mpr z)))⟩, fun _ => rfl⟩⟩, rfl, rfl⟩
  exact H2 _ 0 (Nat.lt_succ_self _) (Nat.zero_le _) (fun _ h => absurd h (Nat.not_lt_zero _))
set_option maxHeartbeats 4000000 in
set_option maxRecDepth 100000 in
theorem c_Fa_putParted {G : GT} {L : List Nat} {f : Nat → va_E} {w : Nat → Nat} {id : Nat} {A : Nat → Nat} {ss sz bo : Nat → Nat} {c : Nat} (hM : FaAt G L f w id A ss sz bo c) {idM : Nat} {B : Nat → Nat} {nx ou lo fi : Nat → Nat} {n k b : Nat} (hMa : MaAt G L f w idM B nx ou lo fi n k b) (hid : idM ≠ id) (hA : okA nx ou n k) (hn12 : n ≤ 12) (hlo : ∀ s, s < n → lo s ≤ s) {l : List Nat} {m : Nat} (hR : rowAt ss sz c l) (hO : fOK l m) (hc : c < 300) (S i : Nat) (hS : S < 4096) (hi : i < k) (hmS : m + pcn S 12 ≤ 12) : Con G y_Fa_putParted (.code y_Fa_putParted b_Fa_putParted 5 none :: BIG) 2 48 0 0 [.ref (A 0), .ref (B 0), .int (nI S), .int (nI i)] L f (fun v L' f' => v = none ∧ L' = L ∧ (∃ ss' sz' bo' : Nat → Nat, FaAt G L f' w id A ss' sz' bo' c ∧ rowAt ss' sz' c (fpart S (fun s => ou (s * 4 + i)) (fun s => lo (nx (s * 4 + i))) n l 10) ∧ (∀ j, j < c * 12 → ss' j = ss j) ∧ (∀ t, t ≠ c → sz' t = sz t)) ∧ gF w id f f') := by
  refine con_of (cc := b_Fa_putParted) (mL := 5) (lv := [some (.ref (A 0)), some (.ref (B 0)), some (.int (nI S)), some (.int (nI i)), none]) (by decide) (by intro w hw; simp at hw; rcases hw with rfl | rfl | rfl | rfl <;> rfl) (by first | exact Nat.le_of_ble_eq_true rfl | decide) rfl ?_
  intro x hx hr hin
  have hF := gF.rf (w := w) (id := id) (f := f)
  have hA_ := hA
  obtain ⟨hn1, hn2, hk1, hk2, hnx⟩ := hA_
  have hg12 : ∀ s, s < n → (fun s => lo (nx (s * 4 + i))) s < 12 := fun s hs => by have h1 := (hnx s i hs hi).1; have := hlo _ h1; show lo (nx (s * 4 + i)) < 12; omega
  have hS2 : S < 2 ^ 12 := by simpa using hS
  refine v_aload_n hx d_Fa_putParted_0 rfl rfl ?_
  refine v_get hx cf_Fa 2 (by decide) k_Fa_18 d_Fa_putParted_1 hM.m0 hM.f0 rfl ?_
  refine v_iconst (v := (nI 0)) hx d_Fa_putParted_4 rfl ?_
  refine v_callS (as := [.ref (A 3), .int (nI 0)]) hx (c_Ar_fill2 hM.m3 hM.f3 (by decide) (nI 0)) cy_Ar_fill2 k_Fa_42 ks_Ar_fill2 d_Fa_putParted_5 (by decide) (by decide) rfl rfl (Nat.le_of_ble_eq_true rfl) (fun v1 L f1 p1 => ?_)
  obtain ⟨rfl, rfl, e5⟩ := p1
  rw [fil_n2] at e5
  have hF := hF.up e5 hM.o3
  have hM := hM.up3 e5
  refine v_iconst (v := (nI 0)) hx d_Fa_putParted_8 rfl ?_
  refine v_istore (lv' := [some (.ref (A 0)), some (.ref (B 0)), some (.int (nI S)), some (.int (nI i)), some (.int (nI 0))]) hx d_Fa_putParted_9 (by decide) rfl ?_
  have H11 : ∀ (fu : Nat) (s : Nat) (f2 : Nat → va_E) (bo1 : Nat → Nat), n - s < fu → (s ≤ n) → (FaAt G L f2 w id A ss sz bo1 c) → (gF w id f f2) → (∀ o, o < 10 → bo1 o = mo S (fun s => ou (s * 4 + i)) (fun s => lo (nx (s * 4 + i))) o s) → V G { frames := 2, cells := 0, slots := 0, locals := 48 } 5 x L f2 0 0 [some (.ref (A 0)), some (.ref (B 0)), some (.int (nI S)), some (.int (nI i)), some (.int (nI s))] 11 [] := by
    intro fu
    induction fu with
    | zero => intro s f2 bo1 hm; exact absurd hm (Nat.not_lt_zero _)
    | succ fu ih =>
      intro s f2 bo1 hm hs hM hF hb
      refine v_iload hx d_Fa_putParted_11 rfl ?_
      refine v_aload_n hx d_Fa_putParted_13 rfl rfl ?_
      refine v_getN hx cf_Ma 4 (by decide) kN_Fa_25 d_Fa_putParted_14 (hMa.fr hF hid).m0 (hMa.fr hF hid).f0 rfl ?_
      refine n_icmp_ge (tgt := 63) hx d_Fa_putParted_17 (by decide) (by omega) (by omega) (fun c17 => ?_) (fun c17 => ?_)
      · refine v_iconst (v := (nI 0)) hx d_Fa_putParted_63 rfl ?_
        refine v_istore (lv' := [some (.ref (A 0)), some (.ref (B 0)), some (.int (nI S)), some (.int (nI i)), some (.int (nI 0))]) hx d_Fa_putParted_64 (by decide) rfl ?_
        have hsn : s = n := by omega
        rw [hsn] at hb
        have H66 : ∀ (fu : Nat) (o : Nat) (f3 : Nat → va_E) (ss1 : Nat → Nat) (sz1 : Nat → Nat), 10 - o < fu → (o ≤ 10) → (FaAt G L f3 w id A ss1 sz1 bo1 c) → (gF w id f f3) → (rowAt ss1 sz1 c (fpart S (fun s => ou (s * 4 + i)) (fun s => lo (nx (s * 4 + i))) n l o)) → (∀ j, j < c * 12 → ss1 j = ss j) → (∀ t, t ≠ c → sz1 t = sz t) → V G { frames := 2, cells := 0, slots := 0, locals := 48 } 5 x L f3 0 0 [some (.ref (A 0)), some (.ref (B 0)), some (.int (nI S)), some (.int (nI i)), some (.int (nI o))] 66 [] := by
          intro fu
          induction fu with
          | zero => intro o f3 ss1 sz1 hm; exact absurd hm (Nat.not_lt_zero _)
          | succ fu ih =>
            intro o f3 ss1 sz1 hm ho hM hF hR1 hj1 ht1
            refine v_iload hx d_Fa_putParted_66 rfl ?_
            refine v_bipush (v := (nI 10)) hx d_Fa_putParted_68 rfl ?_
            refine n_icmp_ge (tgt := 100) hx d_Fa_putParted_70 (by decide) (by omega) (by omega) (fun c70 => ?_) (fun c70 => ?_)
            · exact v_vret hx hr d_Fa_putParted_100 ⟨rfl, rfl, ⟨ss1, sz1, bo1, hM, (by rw [show o = 10 by omega] at hR1; exact hR1), hj1, ht1⟩, hF⟩
            · have hbo := hb o (by omega)
              have hml := mo_lt (S := S) (o := o) (og := (fun s => ou (s * 4 + i))) hg12 n (Nat.le_refl _)
              have hOo := hO.part (S := S) (og := (fun s => ou (s * 4 + i))) hg12 o
              have hms := mosum_le (S := S) (og := (fun s => ou (s * 4 + i))) n hg12 (o + 1)
              have hpm := pcn_mono S hn12
              simp only [mosum] at hms
              refine v_aload_n hx d_Fa_putParted_73 rfl rfl ?_
              refine v_get hx cf_Fa 2 (by decide) k_Fa_18 d_Fa_putParted_74 hM.m0 hM.f0 rfl ?_
              refine v_iload hx d_Fa_putParted_77 rfl ?_
              refine n_iald hx d_Fa_putParted_79 hM.m3 hM.f3 (by omega) (by decide) ?_
              refine n_if_eq (tgt := 94) hx d_Fa_putParted_80 (by decide) (by rw [hbo]; omega) (fun c80 => ?_) (fun c80 => ?_)
              · refine n_iinc (lv' := [some (.ref (A 0)), some (.ref (B 0)), some (.int (nI S)), some (.int (nI i)), some (.int (nI (o + 1)))]) hx d_Fa_putParted_94 rfl (by decide) rfl ?_
                refine v_goto (tgt := 66) hx d_Fa_putParted_97 (by decide) ?_
                exact ih (o + 1) f3 ss1 sz1 (by omega) (by omega) hM hF (by have e : (fpart S (fun s => ou (s * 4 + i)) (fun s => lo (nx (s * 4 + i))) n l (o + 1)) = (fpart S (fun s => ou (s * 4 + i)) (fun s => lo (nx (s * 4 + i))) n l o) := if_pos (by rw [← hbo]; exact c80); rw [e]; exact hR1) hj1 ht1
              · refine v_aload_n hx d_Fa_putParted_83 rfl rfl ?_
                refine v_aload_n hx d_Fa_putParted_84 rfl rfl ?_
                refine v_get hx cf_Fa 2 (by decide) k_Fa_18 d_Fa_putParted_85 hM.m0 hM.f0 rfl ?_
                refine v_iload hx d_Fa_putParted_88 rfl ?_
                refine n_iald hx d_Fa_putParted_90 hM.m3 hM.f3 (by omega) (by decide) ?_
                refine v_callV (as := [.int (nI (bo1 o))]) (q := (R_Fa, T_Fa, 4)) hx (c_Fa_put hM hR1 ⟨hOo.1, Nat.le_trans hOo.2 (by omega)⟩ hc (bo1 o) (by rw [hbo]; simpa using hml) c80 (by rw [hbo]; have := hOo.2; omega)) cy_Fa_put k_Fa_34 ki_Fa_put kl_Fa_put d_Fa_putParted_91 (by decide) (ci := 0) rfl hM.m0 hM.f0 (by decide) rfl rfl (Nat.le_of_ble_eq_true rfl) (fun v2 L f9 p2 => ?_)
                obtain ⟨rfl, rfl, ⟨ss9, sz9, hM9, hR9, hj9, ht9⟩, hF9⟩ := p2
                refine n_iinc (lv' := [some (.ref (A 0)), some (.ref (B 0)), some (.int (nI S)), some (.int (nI i)), some (.int (nI (o + 1)))]) hx d_Fa_putParted_94 rfl (by decide) rfl ?_
                refine v_goto (tgt := 66) hx d_Fa_putParted_97 (by decide) ?_
                exact ih (o + 1) f9 ss9 sz9 (by omega) (by omega) hM9 (hF.tr hF9) (by have e : (fpart S (fun s => ou (s * 4 + i)) (fun s => lo (nx (s * 4 + i))) n l (o + 1)) = fput (fpart S (fun s => ou (s * 4 + i)) (fun s => lo (nx (s * 4 + i))) n l o) (bo1 o) := (by rw [hbo]; exact if_neg (by rw [hbo] at c80; omega)); rw [e]; exact hR9) (fun j hj => (hj9 j hj).trans (hj1 j hj)) (fun t ht => (ht9 t ht).trans (ht1 t ht))
        exact H66 _ 0 f2 ss sz (Nat.lt_succ_self _) (Nat.zero_le _) hM hF hR (fun _ _ => rfl) (fun _ _ => rfl)
      · have hxs := hnx s i (by omega) hi
        have hgs := hg12 s (by omega)
        have hbo := hb (ou (s * 4 + i)) hxs.2
        have hbl := mo_lt (S := S) (o := ou (s * 4 + i)) (og := (fun s => ou (s * 4 + i))) hg12 s (by omega)
        refine v_iload_n hx d_Fa_putParted_20 rfl rfl ?_
        refine v_iload hx d_Fa_putParted_21 rfl ?_
        refine v_ishr (v := (nI (S / 2 ^ s))) hx d_Fa_putParted_23 (bit_shr hS2 (by omega)) ?_
        refine v_iconst (v := (nI 1)) hx d_Fa_putParted_24 rfl ?_
        refine v_iand (v := (nI (S / 2 ^ s % 2))) hx d_Fa_putParted_25 (bit_and1 _ (Nat.lt_of_le_of_lt (Nat.div_le_self _ _) (by omega))) ?_
        refine n_if_eq (tgt := 57) hx d_Fa_putParted_26 (by decide) (by omega) (fun c26 => ?_) (fun c26 => ?_)
        · refine n_iinc (lv' := [some (.ref (A 0)), some (.ref (B 0)), some (.int (nI S)), some (.int (nI i)), some (.int (nI (s + 1)))]) hx d_Fa_putParted_57 rfl (by decide) rfl ?_
          refine v_goto (tgt := 11) hx d_Fa_putParted_60 (by decide) ?_
          exact ih (s + 1) f2 bo1 (by omega) (by omega) hM hF (fun o ho => by rw [hb o ho]; exact (if_neg (fun q => by omega) : mo S (fun s => ou (s * 4 + i)) (fun s => lo (nx (s * 4 + i))) o (s + 1) = _).symm)
        · refine v_aload_n hx d_Fa_putParted_29 rfl rfl ?_
          refine v_get hx cf_Fa 2 (by decide) k_Fa_18 d_Fa_putParted_30 hM.m0 hM.f0 rfl ?_
          refine v_aload_n hx d_Fa_putParted_33 rfl rfl ?_
          refine v_iload hx d_Fa_putParted_34 rfl ?_
          refine v_iload_n hx d_Fa_putParted_36 rfl rfl ?_
          refine v_callV (as := [.int (nI s), .int (nI i)]) (q := (R_Ma, T_Ma, 7)) hx (c_Ma_outputOf (hMa.fr hF hid) s i (by omega) (by omega)) cy_Ma_outputOf k_Fa_48 ki_Ma_outputOf kl_Ma_outputOf d_Fa_putParted_37 (by decide) (ci := 1) rfl (hMa.fr hF hid).m0 (hMa.fr hF hid).f0 (by decide) rfl rfl (Nat.le_of_ble_eq_true rfl) (fun v2 L f2 p2 => ?_)
          obtain ⟨rfl, rfl, rfl⟩ := p2
          refine v_dup2 hx d_Fa_putParted_40 rfl rfl ?_
          refine n_iald hx d_Fa_putParted_41 hM.m3 hM.f3 (by omega) (by decide) ?_
          refine v_iconst (v := (nI 1)) hx d_Fa_putParted_42 rfl ?_
          refine v_aload_n hx d_Fa_putParted_43 rfl rfl ?_
          refine v_aload_n hx d_Fa_putParted_44 rfl rfl ?_
          refine v_iload hx d_Fa_putParted_45 rfl ?_
          refine v_iload_n hx d_Fa_putParted_47 rfl rfl ?_
          refine v_callV (as := [.int (nI s), .int (nI i)]) (q := (R_Ma, T_Ma, 7)) hx (c_Ma_nextOf (hMa.fr hF hid) s i (by omega) (by omega)) cy_Ma_nextOf k_Fa_52 ki_Ma_nextOf kl_Ma_nextOf d_Fa_putParted_48 (by decide) (ci := 1) rfl (hMa.fr hF hid).m0 (hMa.fr hF hid).f0 (by decide) rfl rfl (Nat.le_of_ble_eq_true rfl) (fun v3 L f2 p3 => ?_)
          obtain ⟨rfl, rfl, rfl⟩ := p3
          refine v_callV (as := [.int (nI (nx (s * 4 + i)))]) (q := (R_Ma, T_Ma, 7)) hx (c_Ma_leastLike (hMa.fr hF hid) (nx (s * 4 + i)) (by omega)) cy_Ma_leastLike k_Fa_30 ki_Ma_leastLike kl_Ma_leastLike d_Fa_putParted_51 (by decide) (ci := 1) rfl (hMa.fr hF hid).m0 (hMa.fr hF hid).f0 (by decide) rfl rfl (Nat.le_of_ble_eq_true rfl) (fun v4 L f2 p4 => ?_)
          obtain ⟨rfl, rfl, rfl⟩ := p4
          refine v_ishl hx d_Fa_putParted_54 rfl ?_
          refine v_ior (v := (nI (bo1 (ou (s * 4 + i)) ||| 2 ^ lo (nx (s * 4 + i))))) hx d_Fa_putParted_55 (bit_or (by rw [hbo]; exact hbl) hgs) ?_
          refine nn_iast hx d_Fa_putParted_56 hM.m3 hM.f3 (by omega) (by decide) (fun f5 hf5 => ?_)
          have hF := hF.up hf5 hM.o3
          have hM := hM.up3 hf5
          refine n_iinc (lv' := [some (.ref (A 0)), some (.ref (B 0)), some (.int (nI S)), some (.int (nI i)), some (.int (nI (s + 1)))]) hx d_Fa_putParted_57 rfl (by decide) rfl ?_
          refine v_goto (tgt := 11) hx d_Fa_putParted_60 (by decide) ?_
          refine ih (s + 1) f5 _ (by omega) (by omega) hM hF (fun o ho => ?_)
          by_cases e : o = ou (s * 4 + i)
          · rw [e, va_up_self, hbo]; exact (if_pos ⟨by omega, rfl⟩ : mo S (fun s => ou (s * 4 + i)) (fun s => lo (nx (s * 4 + i))) (ou (s * 4 + i)) (s + 1) = _).symm
          · rw [va_up_ne _ _ e, hb o ho]; exact (if_neg (fun q => e q.2.symm) : mo S (fun s => ou (s * 4 + i)) (fun s => lo (nx (s * 4 + i))) o (s + 1) = _).symm
  exact H11 _ 0 f1 _ (Nat.lt_succ_self _) (Nat.zero_le _) hM hF (fun o ho => if_pos ho)
set_option maxHeartbeats 4000000 in
set_option maxRecDepth 100000 in
theorem c_Fa_follow {G : GT} {L : List Nat} {f : Nat → va_E} {w : Nat → Nat} {id : Nat} {A : Nat → Nat} {ss sz bo : Nat → Nat} {c : Nat} (hM : FaAt G L f w id A ss sz bo c) {idM : Nat} {B : Nat → Nat} {nx ou lo fi : Nat → Nat} {n k b : Nat} (hMa : MaAt G L f w idM B nx ou lo fi n k b) (hid : idM ≠ id) (hA : okA nx ou n k) (hn12 : n ≤ 12) (hlo : ∀ s, s < n → lo s ≤ s) {lf : List Nat} (t i : Nat) (ht : t < c) (hRf : rowAt ss sz t lf) (hOf : fOK lf 12) (hc : c < 300) (hi : i < k) : Con G y_Fa_follow (.code y_Fa_follow b_Fa_follow 5 none :: BIG) 3 72 0 0 [.ref (A 0), .ref (B 0), .int (nI t), .int (nI i)] L f (fun v L' f' => v = none ∧ L' = L ∧ (∃ ss' sz' bo' : Nat → Nat, FaAt G L f' w id A ss' sz' bo' c ∧ rowAt ss' sz' c (ffol (fun s => ou (s * 4 + i)) (fun s => lo (nx (s * 4 + i))) n lf lf.length) ∧ (∀ j, j < c * 12 → ss' j = ss j) ∧ (∀ z, z ≠ c → sz' z = sz z)) ∧ gF w id f f') := by
  refine con_of (cc := b_Fa_follow) (mL := 5) (lv := [some (.ref (A 0)), some (.ref (B 0)), some (.int (nI t)), some (.int (nI i)), none]) (by decide) (by intro w hw; simp at hw; rcases hw with rfl | rfl | rfl | rfl <;> rfl) (by first | exact Nat.le_of_ble_eq_true rfl | decide) rfl ?_
  intro x hx hr hin
  have hF := gF.rf (w := w) (id := id) (f := f)
  have hA_ := hA
  obtain ⟨hn1, hn2, hk1, hk2, hnx⟩ := hA_
  have hll := hOf.len
  have hszf := hRf.1
  have hg12 : ∀ s, s < n → (fun s => lo (nx (s * 4 + i))) s < 12 := fun s hs => by have h1 := (hnx s i hs hi).1; have := hlo _ h1; show lo (nx (s * 4 + i)) < 12; omega
  refine v_aload_n hx d_Fa_follow_0 rfl rfl ?_
  refine v_get hx cf_Fa 1 (by decide) k_Fa_15 d_Fa_follow_1 hM.m0 hM.f0 rfl ?_
  refine v_aload_n hx d_Fa_follow_4 rfl rfl ?_
  refine v_get hx cf_Fa 3 (by decide) k_Fa_21 d_Fa_follow_5 hM.m0 hM.f0 rfl ?_
  refine v_iconst (v := (nI 0)) hx d_Fa_follow_8 rfl ?_
  refine nn_iast hx d_Fa_follow_9 hM.m2 hM.f2 (by omega) (by decide) (fun f1 hf1 => ?_)
  have hF := hF.up hf1 hM.o2
  have hM := hM.up2 hf1
  refine v_iconst (v := (nI 0)) hx d_Fa_follow_10 rfl ?_
  refine v_istore (lv' := [some (.ref (A 0)), some (.ref (B 0)), some (.int (nI t)), some (.int (nI i)), some (.int (nI 0))]) hx d_Fa_follow_11 (by decide) rfl ?_
  have H13 : ∀ (fu : Nat) (q : Nat) (f2 : Nat → va_E) (ss1 : Nat → Nat) (sz1 : Nat → Nat) (bo1 : Nat → Nat), lf.length - q < fu → (q ≤ lf.length) → (FaAt G L f2 w id A ss1 sz1 bo1 c) → (gF w id f f2) → (rowAt ss1 sz1 c (ffol (fun s => ou (s * 4 + i)) (fun s => lo (nx (s * 4 + i))) n lf q)) → (∀ j, j < c * 12 → ss1 j = ss j) → (∀ z, z ≠ c → sz1 z = sz z) → V G { frames := 3, cells := 0, slots := 0, locals := 72 } 5 x L f2 0 0 [some (.ref (A 0)), some (.ref (B 0)), some (.int (nI t)), some (.int (nI i)), some (.int (nI q))] 13 [] := by
    intro fu
    induction fu with
    | zero => intro q f2 ss1 sz1 bo1 hm; exact absurd hm (Nat.not_lt_zero _)
    | succ fu ih =>
      intro q f2 ss1 sz1 bo1 hm hq hM hF hR1 hj1 ht1
      have hst : sz1 t = lf.length := (ht1 t (by omega)).trans hszf
      refine v_iload hx d_Fa_follow_13 rfl ?_
      refine v_aload_n hx d_Fa_follow_15 rfl rfl ?_
      refine v_get hx cf_Fa 1 (by decide) k_Fa_15 d_Fa_follow_16 hM.m0 hM.f0 rfl ?_
      refine v_iload_n hx d_Fa_follow_19 rfl rfl ?_
      refine n_iald hx d_Fa_follow_20 hM.m2 hM.f2 (by omega) (by decide) ?_
      refine n_icmp_ge (tgt := 48) hx d_Fa_follow_21 (by decide) (by omega) (by omega) (fun c21 => ?_) (fun c21 => ?_)
      · exact v_vret hx hr d_Fa_follow_48 ⟨rfl, rfl, ⟨ss1, sz1, bo1, hM, (by rw [show q = lf.length by omega] at hR1; exact hR1), hj1, ht1⟩, hF⟩
      · have hgs : ss1 (t * 12 + q) = lf.getD q 0 := (hj1 _ (by omega)).trans (hRf.get (by omega))
        have hm4 := hOf.1 _ (getD_mem (l := lf) (i := q) (by omega))
        have hoq := ffol_ok (og := (fun s => ou (s * 4 + i))) (l := lf) hg12 hn12 q (by omega)
        have hs1 := fsum_take (l := lf) (i := q) (by omega)
        have hs2 := fsum_take_le lf (q + 1)
        have hs3 := hOf.2
        refine v_aload_n hx d_Fa_follow_24 rfl rfl ?_
        refine v_aload_n hx d_Fa_follow_25 rfl rfl ?_
        refine v_aload_n hx d_Fa_follow_26 rfl rfl ?_
        refine v_get hx cf_Fa 0 (by decide) k_Fa_9 d_Fa_follow_27 hM.m0 hM.f0 rfl ?_
        refine v_iload_n hx d_Fa_follow_30 rfl rfl ?_
        refine v_bipush (v := (nI 12)) hx d_Fa_follow_31 rfl ?_
        refine n_imul hx d_Fa_follow_33 ?_
        refine v_iload hx d_Fa_follow_34 rfl ?_
        refine n_iadd hx d_Fa_follow_36 ?_
        refine n_iald hx d_Fa_follow_37 hM.m1 hM.f1 (by omega) (by decide) ?_
        refine v_iload_n hx d_Fa_follow_38 rfl rfl ?_
        refine v_callV (as := [.ref (B 0), .int (nI (ss1 ((t * 12) + q))), .int (nI i)]) (q := (R_Fa, T_Fa, 4)) hx (c_Fa_putParted hM (hMa.fr hF hid) hid hA hn12 hlo hR1 hoq hc (ss1 (t * 12 + q)) i (by rw [hgs]; exact hm4.2) hi (by rw [hgs]; omega)) cy_Fa_putParted k_Fa_38 ki_Fa_putParted kl_Fa_putParted d_Fa_follow_39 (by decide) (ci := 0) rfl hM.m0 hM.f0 (by decide) rfl rfl (Nat.le_of_ble_eq_true rfl) (fun v2 L f9 p2 => ?_)
        obtain ⟨rfl, rfl, ⟨ss9, sz9, bo9, hM9, hR9, hj9, ht9⟩, hF9⟩ := p2
        refine n_iinc (lv' := [some (.ref (A 0)), some (.ref (B 0)), some (.int (nI t)), some (.int (nI i)), some (.int (nI (q + 1)))]) hx d_Fa_follow_42 rfl (by decide) rfl ?_
        refine v_goto (tgt := 13) hx d_Fa_follow_45 (by decide) ?_
        exact ih (q + 1) f9 ss9 sz9 bo9 (by omega) (by omega) hM9 (hF.tr hF9) (by rw [hgs] at hR9; exact hR9) (fun j hj => (hj9 j hj).trans (hj1 j hj)) (fun z hz => (ht9 z hz).trans (ht1 z hz))
  exact H13 _ 0 f1 ss _ bo (Nat.lt_succ_self _) (Nat.zero_le _) hM hF ⟨va_up_self _ _ _, fun _ h => absurd h (Nat.not_lt_zero _)⟩ (fun _ _ => rfl) (fun z hz => va_up_ne _ _ hz)
end
section
/-! ===== rows for arrays of machines; the tables' own cells ===== -/
section VQ
variable {G : GT} {R : Room} {nL : Nat} {x : XT} {cc : ByteArray} {own : String} {L : List Nat} {f : Nat → va_E} {k n : Nat} {lv : List (Option Value)} {pc : Nat} {rest : List Value}
theorem n_aald (hx : KX G nL x cc own) {a N : Nat} {g : Nat → Option Nat} {i : Nat} (hd : decode cc pc = .ok (.aaload, 1)) (ha : a ∈ L) (hf : f a = aQ G N g) (hi : i < N) (hN : N < 2 ^ 31) (kk : V G R nL x L f k n lv (pc + 1) (va_rf (g i) :: rest)) : V G R nL x L f k n lv pc (.int (nI i) :: .ref a :: rest) := by
  intro H locs ls hP hS hl
  obtain ⟨q0, hq⟩ := gP.pos (G := G) (f := f) (H := H) ha
  rw [hf] at hq
  refine va_aldq (C := "MachineTables$Machine") hx.1 hx.2.1 hx.2.2.2.2.2.1.1 hP.1 q0 2 hq rfl (vp_in_nI hi hN) hd ?_
  rw [nI_clamp (Nat.lt_trans hi hN)]
  exact kk H locs ls hP hS hl
theorem n_aaldS (hx : KX G nL x cc own) {a N b : Nat} {g : Nat → Option Nat} {i : Nat} (hd : decode cc pc = .ok (.aaload, 1)) (ha : a ∈ L) (hf : f a = aQ G N g) (hi : i < N) (hN : N < 2 ^ 31) (hb : g i = some b) (kk : V G R nL x L f k n lv (pc + 1) (.ref b :: rest)) : V G R nL x L f k n lv pc (.int (nI i) :: .ref a :: rest) := n_aald hx hd ha hf hi hN (by rw [hb]; exact kk)
theorem n_aaldN (hx : KX G nL x cc own) {a N : Nat} {g : Nat → Option Nat} {i : Nat} (hd : decode cc pc = .ok (.aaload, 1)) (ha : a ∈ L) (hf : f a = aQ G N g) (hi : i < N) (hN : N < 2 ^ 31) (hb : g i = none) (kk : V G R nL x L f k n lv (pc + 1) (.null :: rest)) : V G R nL x L f k n lv pc (.int (nI i) :: .ref a :: rest) := n_aald hx hd ha hf hi hN (by rw [hb]; exact kk)
theorem n_aast (hx : KX G nL x cc own) {a N b : Nat} {g : Nat → Option Nat} {i : Nat} {vs : List Value} (hd : decode cc pc = .ok (.aastore, 1)) (ha : a ∈ L) (hf : f a = aQ G N g) (hi : i < N) (hN : N < 2 ^ 31) (hb : b ∈ L) (hfb : f b = .inr (1, vs)) (kk : ∀ f' : Nat → va_E, f' = va_up f a (aQ G N (va_up g i (some b))) → V G R nL x L f' k n lv (pc + 1) rest) : V G R nL x L f k n lv pc (.ref b :: .int (nI i) :: .ref a :: rest) := by
  intro H locs ls hP hS hl
  obtain ⟨q0, hq⟩ := gP.pos (G := G) (f := f) (H := H) ha
  obtain ⟨q1, hq1⟩ := gP.pos (G := G) (f := f) (H := H) hb
  have hq' := hq
  rw [hf] at hq'
  rw [hfb] at hq1
  refine va_astq (r := (R_Ma, T_Ma, 7)) hx.1 hx.2.1 hx.2.2.2.2.2.1.1 hP.1 hP.2 hS q0 2 q1 1 hq' rfl hq1 rfl (vp_in_nI hi hN) hd (fun H1 locs1 h1 h2 h3 => kk _ rfl H1 locs1 ls ?_ h3 hl)
  rw [nI_clamp (Nat.lt_trans hi hN)] at h1 h2
  exact hP.set ha hq h1 h2
theorem m_anew (hx : KX G nL x cc own) {N index : Nat} (hcl : Cond.classLink own index "MachineTables$Machine" ∈ BIG) (hd : decode cc pc = .ok (.anewarray index, 3)) (hN : N < 2 ^ 26) (hk : k + 1 ≤ R.cells) (hs : n + N ≤ R.slots) (kk : ∀ (q : Nat) (f' : Nat → va_E), q ∉ L → f' = va_up f q (aQ G N (fun _ => none)) → V G R nL x (L ++ [q]) f' (k + 1) (n + N) lv (pc + 3) (.ref q :: rest)) : V G R nL x L f k n lv pc (.int (nI N) :: rest) := by
  intro H locs ls hP hS hl
  refine va_newq (C := "MachineTables$Machine") (N' := N) hx.1 hx.2.1 hx.2.2.2.1 (hx.2.2.2.2.1 _ hcl) (hx.2.2.2.2.2.1.2 _ kN_over) hx.2.2.2.2.2.1.1 hP.1 hP.2 hS hx.hA (nI_pos (by omega)) (nI_clamp (by omega)) (by omega) hk hs hd (fun q cA H1 h0 h1 h2 h3 => ?_)
  have e1 := (h0.2 (TY G.2.2.1).length (cA, .object "MachineTables$Machine") (by simp)).2
  have e2 := (hx.2.2.2.2.2.1.1.2 2 (G.2.2.1 2, .object "MachineTables$Machine") rfl).2
  obtain ⟨_, _, _, _, _, d1⟩ := e1
  obtain ⟨_, _, _, _, _, d2⟩ := e2
  have e3 : cA = G.2.2.1 2 := Option.some.inj (d1.symm.trans d2)
  subst e3
  obtain ⟨g1, g2⟩ := gP.push h1 h2
  exact kk q _ g1 rfl H1 locs ls g2 h3 hl
end VQ
def TbAt (G : GT) (L : List Nat) (f : Nat → va_E) (w : Nat → Nat) (id : Nat) (A : Nat → Nat) (sa : Nat) (fa : Nat) (c : Nat) (wa : Nat) (mp : Nat → Option Nat) : Prop := Own L w id A 2 ∧ f (A 0) = .inr (3, [.ref (A 1), .ref sa, .ref fa, .int (nI c), .ref wa]) ∧ f (A 1) = aQ G 12 mp
theorem TbAt.m0 {G : GT} {L : List Nat} {f : Nat → va_E} {w : Nat → Nat} {id : Nat} {A : Nat → Nat} {sa : Nat} {fa : Nat} {c : Nat} {wa : Nat} {mp : Nat → Option Nat} (h : TbAt G L f w id A sa fa c wa mp) : A 0 ∈ L := h.1.mem (by decide)
theorem TbAt.o0 {G : GT} {L : List Nat} {f : Nat → va_E} {w : Nat → Nat} {id : Nat} {A : Nat → Nat} {sa : Nat} {fa : Nat} {c : Nat} {wa : Nat} {mp : Nat → Option Nat} (h : TbAt G L f w id A sa fa c wa mp) : w (A 0) = id := h.1.own (by decide)
theorem TbAt.f0 {G : GT} {L : List Nat} {f : Nat → va_E} {w : Nat → Nat} {id : Nat} {A : Nat → Nat} {sa : Nat} {fa : Nat} {c : Nat} {wa : Nat} {mp : Nat → Option Nat} (h : TbAt G L f w id A sa fa c wa mp) : f (A 0) = .inr (3, [.ref (A 1), .ref sa, .ref fa, .int (nI c), .ref wa]) := h.2.1
theorem TbAt.m1 {G : GT} {L : List Nat} {f : Nat → va_E} {w : Nat → Nat} {id : Nat} {A : Nat → Nat} {sa : Nat} {fa : Nat} {c : Nat} {wa : Nat} {mp : Nat → Option Nat} (h : TbAt G L f w id A sa fa c wa mp) : A 1 ∈ L := h.1.mem (by decide)
theorem TbAt.o1 {G : GT} {L : List Nat} {f : Nat → va_E} {w : Nat → Nat} {id : Nat} {A : Nat → Nat} {sa : Nat} {fa : Nat} {c : Nat} {wa : Nat} {mp : Nat → Option Nat} (h : TbAt G L f w id A sa fa c wa mp) : w (A 1) = id := h.1.own (by decide)
theorem TbAt.f1 {G : GT} {L : List Nat} {f : Nat → va_E} {w : Nat → Nat} {id : Nat} {A : Nat → Nat} {sa : Nat} {fa : Nat} {c : Nat} {wa : Nat} {mp : Nat → Option Nat} (h : TbAt G L f w id A sa fa c wa mp) : f (A 1) = aQ G 12 mp := h.2.2
theorem TbAt.up0 {G : GT} {L : List Nat} {f : Nat → va_E} {w : Nat → Nat} {id : Nat} {A : Nat → Nat} {sa : Nat} {fa : Nat} {c : Nat} {wa : Nat} {mp : Nat → Option Nat} {sa' : Nat} {fa' : Nat} {c' : Nat} {wa' : Nat} {f' : Nat → va_E} (h : TbAt G L f w id A sa fa c wa mp) (e : f' = va_up f (A 0) (.inr (3, [.ref (A 1), .ref sa', .ref fa', .int (nI c'), .ref wa']))) : TbAt G L f' w id A sa' fa' c' wa' mp := by
  subst e
  exact ⟨h.1, va_up_self _ _ _, (va_up_ne _ _ (h.1.ne (by decide) (by decide) (by decide))).trans h.f1⟩
theorem TbAt.up1 {G : GT} {L : List Nat} {f : Nat → va_E} {w : Nat → Nat} {id : Nat} {A : Nat → Nat} {sa : Nat} {fa : Nat} {c : Nat} {wa : Nat} {mp : Nat → Option Nat} {mp' : Nat → Option Nat} {f' : Nat → va_E} (h : TbAt G L f w id A sa fa c wa mp) (e : f' = va_up f (A 1) (aQ G 12 mp')) : TbAt G L f' w id A sa fa c wa mp' := by
  subst e
  exact ⟨h.1, (va_up_ne _ _ (h.1.ne (by decide) (by decide) (by decide))).trans h.f0, va_up_self _ _ _⟩
theorem TbAt.move {G : GT} {L : List Nat} {f : Nat → va_E} {w : Nat → Nat} {id : Nat} {A : Nat → Nat} {sa : Nat} {fa : Nat} {c : Nat} {wa : Nat} {mp : Nat → Option Nat} {L' : List Nat} {w' : Nat → Nat} {f' : Nat → va_E} (h : TbAt G L f w id A sa fa c wa mp) (hL : ∀ q, q ∈ L → q ∈ L') (hw : ∀ q, q ∈ L → w' q = w q) (hf : ∀ q, q ∈ L → w q = id → f' q = f q) : TbAt G L' f' w' id A sa fa c wa mp := ⟨h.1.move hL hw, (hf _ h.m0 h.o0).trans h.f0, (hf _ h.m1 h.o1).trans h.f1⟩
theorem TbAt.fr {G : GT} {L : List Nat} {f f' : Nat → va_E} {w : Nat → Nat} {id idM : Nat} {B : Nat → Nat} {sa fa c wa : Nat} {mp : Nat → Option Nat} (h : TbAt G L f w idM B sa fa c wa mp) (hF : gF w id f f') (hne : idM ≠ id) : TbAt G L f' w idM B sa fa c wa mp := h.move (fun _ q => q) (fun _ _ => rfl) (fun q _ hw => hF q (by rw [hw]; exact hne))
end
section
/-! ===== those found first are looked at first, with inputs in order ===== -/
/-- the row q behind the inputs below i at number a -/
def bin (nxt : Nat → Nat → Nat) (q : Qu) (a : Nat) : Nat → Qu
  | 0 => q
  | i + 1 => qr (bin nxt q a i) (nxt (qP q a) i) a i
/-- the row behind all numbers below a -/
def bout (nxt : Nat → Nat → Nat) (K : Nat) (q : Qu) : Nat → Qu
  | 0 => q
  | a + 1 => bin nxt (bout nxt K q a) a K
theorem bin_len (nxt : Nat → Nat → Nat) (q : Qu) (a : Nat) : ∀ i, q.length ≤ (bin nxt q a i).length
  | 0 => Nat.le_refl _
  | i + 1 => Nat.le_trans (bin_len nxt q a i) (qr_len _ _ _ _)
theorem bin_mono (nxt : Nat → Nat → Nat) (q : Qu) (a : Nat) {i j : Nat} (h : i ≤ j) : (bin nxt q a i).length ≤ (bin nxt q a j).length := by
  induction j with
  | zero => have : i = 0 := by omega
            subst this; exact Nat.le_refl _
  | succ j ih =>
    rcases Nat.lt_or_ge i (j + 1) with c | c
    · exact Nat.le_trans (ih (by omega)) (qr_len _ _ _ _)
    · have : i = j + 1 := by omega
      subst this; exact Nat.le_refl _
/-- two rows agree on the numbers of the first -/
def qSub (q r : Qu) : Prop := q.length ≤ r.length ∧ ∀ i, i < q.length → qP r i = qP q i ∧ qF r i = qF q i ∧ qB r i = qB q i
theorem qSub.rf (q : Qu) : qSub q q := ⟨Nat.le_refl _, fun _ _ => ⟨rfl, rfl, rfl⟩⟩
theorem qSub.tr {q r s : Qu} (h : qSub q r) (h2 : qSub r s) : qSub q s := ⟨Nat.le_trans h.1 h2.1, fun i hi => by
  have a := h.2 i hi
  have b := h2.2 i (Nat.lt_of_lt_of_le hi h.1)
  exact ⟨b.1.trans a.1, b.2.1.trans a.2.1, b.2.2.trans a.2.2⟩⟩
theorem qSub.r (q : Qu) (p fr i : Nat) : qSub q (qr q p fr i) := by
  unfold qr
  split
  · exact qSub.rf q
  · exact ⟨by simp, fun j hj => ⟨qP_old hj, qF_old hj, qB_old hj⟩⟩
theorem bin_sub (nxt : Nat → Nat → Nat) (q : Qu) (a : Nat) : ∀ i, qSub q (bin nxt q a i)
  | 0 => qSub.rf q
  | i + 1 => (bin_sub nxt q a i).tr (qSub.r _ _ _ _)
theorem bout_sub (nxt : Nat → Nat → Nat) (K : Nat) (q : Qu) {a b : Nat} (h : a ≤ b) : qSub (bout nxt K q a) (bout nxt K q b) := by
  induction b with
  | zero => have : a = 0 := by omega
            subst this; exact qSub.rf _
  | succ b ih =>
    rcases Nat.lt_or_ge a (b + 1) with c | c
    · exact (ih (by omega)).tr (bin_sub _ _ _ _)
    · have : a = b + 1 := by omega
      subst this; exact qSub.rf _
/-- all places of a row are such -/
def qI (P : Nat → Prop) (q : Qu) : Prop := ∀ p ∈ qPs q, P p
theorem qI.r {P : Nat → Prop} {q : Qu} {p fr i : Nat} (h : qI P q) (hp : P p) : qI P (qr q p fr i) := by
  unfold qr
  split
  · exact h
  · intro a ha
    have e : qPs (q ++ [(p, fr, i)]) = qPs q ++ [p] := by simp [qPs]
    rw [e] at ha
    rcases List.mem_append.mp ha with c | c
    · exact h a c
    · simp at c; rw [c]; exact hp
theorem bin_ok {P : Nat → Prop} {nxt : Nat → Nat → Nat} {q : Qu} {a D K : Nat} (h : qOK q D) (hI : qI P q) (ha : a < q.length) (hK : K ≤ 4) (hD : ∀ p, P p → p < D) (hn : ∀ p i, P p → i < K → P (nxt p i)) : ∀ i, i ≤ K → qOK (bin nxt q a i) D ∧ qI P (bin nxt q a i)
  | 0, _ => ⟨h, hI⟩
  | i + 1, hi => by
    have h1 := bin_ok h hI ha hK hD hn i (by omega)
    have h2 := hn _ i (hI _ (qP_mem ha)) (show i < K by omega)
    exact ⟨h1.1.r (hD _ h2) (Or.inl (Nat.lt_of_lt_of_le ha (bin_len _ _ _ _))) (by omega), h1.2.r h2⟩
theorem bout_ok {P : Nat → Prop} {nxt : Nat → Nat → Nat} {q : Qu} {D K : Nat} (h : qOK q D) (hI : qI P q) (hK : K ≤ 4) (hD : ∀ p, P p → p < D) (hn : ∀ p i, P p → i < K → P (nxt p i)) : ∀ a, (∀ b, b < a → b < (bout nxt K q b).length) → qOK (bout nxt K q a) D ∧ qI P (bout nxt K q a)
  | 0, _ => ⟨h, hI⟩
  | a + 1, hb => by
    have h1 := bout_ok h hI hK hD hn a (fun b hb2 => hb b (by omega))
    exact bin_ok h1.1 h1.2 (hb a (Nat.lt_succ_self _)) hK hD hn K (Nat.le_refl _)
/-- the row is at its end with N numbers looked at -/
def BEnd (nxt : Nat → Nat → Nat) (K : Nat) (q : Qu) (N : Nat) : Prop := (bout nxt K q N).length ≤ N ∧ ∀ a, a < N → a < (bout nxt K q a).length
theorem BEnd.uniq {nxt : Nat → Nat → Nat} {K N M : Nat} {q : Qu} (h : BEnd nxt K q N) (h2 : BEnd nxt K q M) : N = M := by
  rcases Nat.lt_trichotomy N M with c | c | c
  · have := h2.2 N c; have := h.1; omega
  · exact c
  · have := h.2 M c; have := h2.1; omega
theorem BEnd.len {nxt : Nat → Nat → Nat} {K N : Nat} {q : Qu} (h : BEnd nxt K q N) (h1 : 1 ≤ q.length) : (bout nxt K q N).length = N := by
  refine Nat.le_antisymm h.1 ?_
  rcases Nat.eq_zero_or_pos N with c | c
  · omega
  · have h2 := h.2 (N - 1) (by omega)
    have h3 := (bout_sub nxt K q (a := N - 1) (b := N) (by omega)).1
    omega
theorem BEnd.lt {nxt : Nat → Nat → Nat} {K N a : Nat} {q : Qu} (h : BEnd nxt K q N) (ha : ∀ b, b ≤ a → b < (bout nxt K q b).length) : a < N := by
  rcases Nat.lt_or_ge a N with c | c
  · exact c
  · have := ha N c; have := h.1; omega
theorem bout_congr {P : Nat → Prop} {nxt nxt' : Nat → Nat → Nat} {K D : Nat} {q : Qu} (hq : qOK q D) (hI : qI P q) (hK : K ≤ 4) (hD : ∀ p, P p → p < D) (hn : ∀ p i, P p → i < K → P (nxt p i)) (he : ∀ p i, P p → i < K → nxt p i = nxt' p i) : ∀ a, (∀ b, b < a → b < (bout nxt K q b).length) → bout nxt K q a = bout nxt' K q a
  | 0, _ => rfl
  | a + 1, hb => by
    have ih := bout_congr hq hI hK hD hn he a (fun b hb2 => hb b (by omega))
    have hok := (bout_ok hq hI hK hD hn a (fun b hb2 => hb b (by omega))).2
    have ha := hb a (Nat.lt_succ_self _)
    show bin nxt (bout nxt K q a) a K = bin nxt' (bout nxt' K q a) a K
    rw [← ih]
    have key : ∀ i, i ≤ K → bin nxt (bout nxt K q a) a i = bin nxt' (bout nxt K q a) a i := by
      intro i
      induction i with
      | zero => intro _; rfl
      | succ i ih2 =>
        intro hi
        simp only [bin]
        rw [ih2 (by omega), he _ i (hok _ (qP_mem ha)) (by omega)]
    exact key K (Nat.le_refl _)
theorem q0_ok {p D : Nat} (hp : p < D) : qOK [(p, 0, 0)] D := by
  refine ⟨by simp [qPs], ?_, ?_⟩
  · intro a ha; simp [qPs] at ha; omega
  · intro i hi
    have : i = 0 := by simp at hi; omega
    subst this
    exact ⟨(show (0 : Nat) < 4 by decide), fun h => absurd h (Nat.lt_irrefl _), fun _ => rfl⟩
theorem q0_I {P : Nat → Prop} {p : Nat} (hp : P p) : qI P [(p, 0, 0)] := fun a ha => by simp [qPs] at ha; rw [ha]; exact hp
theorem q0_r (p : Nat) : qr [] p 0 0 = [(p, 0, 0)] := rfl
/-- the words of a row: those of its own numbers -/
def qW (q : Qu) (a : Nat) : List Nat := wdA (qF q) (qB q) a
theorem qOK.F {q : Qu} {D : Nat} (h : qOK q D) : ∀ a, 0 < a → a < q.length → qF q a < a := fun a h0 ha => (h.2.2 a ha).2.1 h0
theorem qW_sub {q r : Qu} {D : Nat} (h : qOK q D) (hs : qSub q r) {a : Nat} (ha : a < q.length) : qW r a = qW q a := (wdA_congr h.F (fun b _ hb => ⟨(hs.2 b hb).2.1.symm, (hs.2 b hb).2.2.symm⟩) a a (Nat.le_refl _) ha).symm
theorem qW_lt {q : Qu} {D : Nat} (h : qOK q D) : ∀ (m a : Nat), a ≤ m → a < q.length → ∀ x ∈ qW q a, x < 4
  | 0, a, h1, h2 => by
    have : a = 0 := by omega
    subst this
    intro x hx; exact absurd hx List.not_mem_nil
  | m + 1, a, h1, h2 => by
    by_cases e : a = 0
    · subst e; intro x hx; exact absurd hx List.not_mem_nil
    · intro x hx
      have hs : qW q a = qW q (qF q a) ++ [qB q a] := wdA_s h.F (by omega) h2
      rw [hs] at hx
      have hf := h.F a (by omega) h2
      rcases List.mem_append.mp hx with c | c
      · exact qW_lt h m (qF q a) (by omega) (by omega) x c
      · simp at c; rw [c]; exact (h.2.2 a h2).1
/-- the first number and input where something is told apart, or the row's end -/
def Wit (nxt : Nat → Nat → Nat) (bad : Nat → Nat → Prop) (K : Nat) (q : Qu) : Option (Nat × Nat) → Prop
  | none => ∃ N, BEnd nxt K q N ∧ ∀ a, a < N → ∀ i, i < K → ¬ bad (qP (bout nxt K q a) a) i
  | some (a, i) => (∀ b, b ≤ a → b < (bout nxt K q b).length) ∧ (∀ b, b < a → ∀ j, j < K → ¬ bad (qP (bout nxt K q b) b) j) ∧ i < K ∧ bad (qP (bout nxt K q a) a) i ∧ ∀ j, j < i → ¬ bad (qP (bout nxt K q a) a) j
theorem Wit.uniq {nxt : Nat → Nat → Nat} {bad : Nat → Nat → Prop} {K : Nat} {q : Qu} {r s : Option (Nat × Nat)} (h : Wit nxt bad K q r) (h2 : Wit nxt bad K q s) : r = s := by
  rcases r with _ | ⟨a, i⟩ <;> rcases s with _ | ⟨b, j⟩
  · rfl
  · obtain ⟨N, hN, hg⟩ := h
    obtain ⟨g1, -, g3, g4, -⟩ := h2
    exact absurd g4 (hg b (hN.lt g1) j g3)
  · obtain ⟨N, hN, hg⟩ := h2
    obtain ⟨g1, -, g3, g4, -⟩ := h
    exact absurd g4 (hg a (hN.lt g1) i g3)
  · obtain ⟨g1, g2, g3, g4, g5⟩ := h
    obtain ⟨k1, k2, k3, k4, k5⟩ := h2
    have e : a = b := by
      rcases Nat.lt_trichotomy a b with c | c | c
      · exact absurd g4 (k2 a c i g3)
      · exact c
      · exact absurd k4 (g2 b c j k3)
    subst e
    have e2 : i = j := by
      rcases Nat.lt_trichotomy i j with c | c | c
      · exact absurd g4 (k5 i c)
      · exact c
      · exact absurd k4 (g5 j c)
    subst e2
    rfl
/-- the first number whose place does, or none -/
def Fst (nxt : Nat → Nat → Nat) (ok : Nat → Prop) (K : Nat) (q : Qu) : Option Nat → Prop
  | none => ∃ N, BEnd nxt K q N ∧ ∀ a, a < N → ¬ ok (qP (bout nxt K q a) a)
  | some a => (∀ b, b ≤ a → b < (bout nxt K q b).length) ∧ (∀ b, b < a → ¬ ok (qP (bout nxt K q b) b)) ∧ ok (qP (bout nxt K q a) a)
theorem Fst.uniq {nxt : Nat → Nat → Nat} {ok : Nat → Prop} {K : Nat} {q : Qu} {r s : Option Nat} (h : Fst nxt ok K q r) (h2 : Fst nxt ok K q s) : r = s := by
  rcases r with _ | a <;> rcases s with _ | b
  · rfl
  · obtain ⟨N, hN, hg⟩ := h
    exact absurd h2.2.2 (hg b (hN.lt h2.1))
  · obtain ⟨N, hN, hg⟩ := h2
    exact absurd h.2.2 (hg a (hN.lt h.1))
  · rcases Nat.lt_trichotomy a b with c | c | c
    · exact absurd h.2.2 (h2.2.1 a c)
    · rw [c]
    · exact absurd h2.2.2 (h.2.1 b c)
end
section
/-! ===== words out of a search ===== -/
theorem SeQ.st {nm : Nat → Option Nat} {pl st : Nat → Nat} {c D : Nat} {q : Qu} (h : SeQ nm pl st c D q) (ho : qOK q D) {a : Nat} (ha : a < q.length) : st a / 4 = qF q a ∧ st a % 4 = qB q a ∧ (D ≤ 4096 → st a < 2 ^ 31) := by
  have h1 := (h.2.1 a (by rw [h.1]; exact ha)).2.1
  have h2 := ho.2.2 a ha
  have h3 := ho.len
  refine ⟨by omega, by omega, fun hD => ?_⟩
  rcases Nat.eq_zero_or_pos a with z | z
  · have := h2.2.2 z; omega
  · have := h2.2.1 z; omega
theorem SeQ.word {nm : Nat → Option Nat} {pl st : Nat → Nat} {c D : Nat} {q : Qu} (h : SeQ nm pl st c D q) (ho : qOK q D) {a : Nat} (ha : a < q.length) : wdA (fun a => st a / 4) (fun a => st a % 4) a = qW q a :=
  (wdA_congr ho.F (fun b _ hb => ⟨((h.st ho hb).1).symm, ((h.st ho hb).2.1).symm⟩) a a (Nat.le_refl _) ha).symm
/-- with one step more noted -/
theorem SeQ.word1 {nm : Nat → Option Nat} {pl st : Nat → Nat} {c D a i : Nat} {q : Qu} (h : SeQ nm pl st c D q) (ho : qOK q D) (ha : a < q.length) (hi : i < 4) (h1 : 1 ≤ q.length) : wdA (fun b => va_up st c (a * 4 + i) b / 4) (fun b => va_up st c (a * 4 + i) b % 4) c = qW q a ++ [i] := by
  have hc := h.1
  have hF : ∀ b, 0 < b → b < c + 1 → va_up st c (a * 4 + i) b / 4 < b := by
    intro b h0 hb
    by_cases e : b = c
    · rw [e, va_up_self]; omega
    · rw [va_up_ne _ _ e]
      have := (h.st ho (a := b) (by omega)).1
      have := ho.F b h0 (by omega)
      omega
  rw [wdA_s hF (by omega) (by omega)]
  have e1 : va_up st c (a * 4 + i) c / 4 = a := by rw [va_up_self]; omega
  have e2 : va_up st c (a * 4 + i) c % 4 = i := by rw [va_up_self]; omega
  simp only [e1, e2]
  congr 1
  rw [← h.word ho ha]
  refine wdA_congr (N := c) (fun b h0 hb => hF b h0 (by omega)) (fun b h0 hb => ?_) a a (Nat.le_refl _) (by omega)
  rw [va_up_ne _ _ (by omega)]
  exact ⟨rfl, rfl⟩
theorem ix_isSome {o k : Nat} (ho : o < 2 ^ 31) (hk : k < 2 ^ 31) : (ix (nI o) k).isSome = decide (o < k) := by
  rcases Nat.lt_or_ge o k with c | c
  · rw [ix_nI c hk]; simp [c]
  · rw [ix_ge hk (nI_le c ho)]; simp [Nat.not_lt.mpr c]
end
section
set_option maxHeartbeats 4000000 in
set_option maxRecDepth 100000 in
theorem c_MT_pairOf {G : GT} {L : List Nat} {f : Nat → va_E} (a b : Nat) : Con G y_MT_pairOf (.code y_MT_pairOf b_MT_pairOf 2 (some .int) :: BIG) 0 0 0 0 [.int (nI a), .int (nI b)] L f (fun v L' f' => v = some (.int (nI (a * 40 + b))) ∧ L' = L ∧ f' = f) := by
  refine con_of (cc := b_MT_pairOf) (mL := 2) (lv := [some (.int (nI a)), some (.int (nI b))]) (by decide) (by intro w hw; simp at hw; rcases hw with rfl | rfl <;> rfl) (by first | exact Nat.le_of_ble_eq_true rfl | decide) rfl ?_
  intro x hx hr hin
  refine v_iload_n hx d_MT_pairOf_0 rfl rfl ?_
  refine v_bipush (v := (nI 40)) hx d_MT_pairOf_1 rfl ?_
  refine n_imul hx d_MT_pairOf_3 ?_
  refine v_iload_n hx d_MT_pairOf_4 rfl rfl ?_
  refine n_iadd hx d_MT_pairOf_5 ?_
  exact v_iret hx hr d_MT_pairOf_6 ⟨rfl, rfl, rfl⟩
set_option maxHeartbeats 4000000 in
set_option maxRecDepth 100000 in
theorem c_MT_firstOf {G : GT} {L : List Nat} {f : Nat → va_E} (p : Nat) (hp : p < 2 ^ 31) : Con G y_MT_firstOf (.code y_MT_firstOf b_MT_firstOf 1 (some .int) :: BIG) 0 0 0 0 [.int (nI p)] L f (fun v L' f' => v = some (.int (nI (p / 40))) ∧ L' = L ∧ f' = f) := by
  refine con_of (cc := b_MT_firstOf) (mL := 1) (lv := [some (.int (nI p))]) (by decide) (by intro w hw; simp at hw; rcases hw with rfl <;> rfl) (by first | exact Nat.le_of_ble_eq_true rfl | decide) rfl ?_
  intro x hx hr hin
  refine v_iload_n hx d_MT_firstOf_0 rfl rfl ?_
  refine v_bipush (v := (nI 40)) hx d_MT_firstOf_1 rfl ?_
  refine n_idiv hx d_MT_firstOf_3 hp (by decide) (by decide) ?_
  exact v_iret hx hr d_MT_firstOf_4 ⟨rfl, rfl, rfl⟩
set_option maxHeartbeats 4000000 in
set_option maxRecDepth 100000 in
theorem c_MT_secondOf {G : GT} {L : List Nat} {f : Nat → va_E} (p : Nat) (hp : p < 2 ^ 31) : Con G y_MT_secondOf (.code y_MT_secondOf b_MT_secondOf 1 (some .int) :: BIG) 0 0 0 0 [.int (nI p)] L f (fun v L' f' => v = some (.int (nI (p % 40))) ∧ L' = L ∧ f' = f) := by
  refine con_of (cc := b_MT_secondOf) (mL := 1) (lv := [some (.int (nI p))]) (by decide) (by intro w hw; simp at hw; rcases hw with rfl <;> rfl) (by first | exact Nat.le_of_ble_eq_true rfl | decide) rfl ?_
  intro x hx hr hin
  refine v_iload_n hx d_MT_secondOf_0 rfl rfl ?_
  refine v_bipush (v := (nI 40)) hx d_MT_secondOf_1 rfl ?_
  refine n_irem hx d_MT_secondOf_3 hp (by decide) (by decide) ?_
  exact v_iret hx hr d_MT_secondOf_4 ⟨rfl, rfl, rfl⟩
set_option maxHeartbeats 4000000 in
set_option maxRecDepth 100000 in
theorem c_MT_isFull {G : GT} {L : List Nat} {f : Nat → va_E} {w : Nat → Nat} {A S Fm : Nat → Nat} {c wa : Nat} {mp : Nat → Option Nat} (hT : TbAt G L f w 0 A (S 0) (Fm 0) c wa mp) (hc : c ≤ 12) : Con G y_MT_isFull (.code y_MT_isFull b_MT_isFull 1 (some .boolean) :: BIG) 0 0 0 0 [.ref (A 0)] L f (fun v L' f' => v = some (.int (bI (decide (12 ≤ c)))) ∧ L' = L ∧ f' = f) := by
  refine con_of (cc := b_MT_isFull) (mL := 1) (lv := [some (.ref (A 0))]) (by decide) (by intro w hw; simp at hw; rcases hw with rfl <;> rfl) (by first | exact Nat.le_of_ble_eq_true rfl | decide) rfl ?_
  intro x hx hr hin
  refine v_aload_n hx d_MT_isFull_0 rfl rfl ?_
  refine v_get hx cf_MT 3 (by decide) k_MT_29 d_MT_isFull_1 hT.m0 hT.f0 rfl ?_
  refine v_bipush (v := (nI 12)) hx d_MT_isFull_4 rfl ?_
  refine n_icmp_lt (tgt := 13) hx d_MT_isFull_6 (by decide) (by omega) (by omega) (fun c6 => ?_) (fun c6 => ?_)
  · refine v_iconst (v := (nI 0)) hx d_MT_isFull_13 rfl ?_
    exact v_zret hx hr d_MT_isFull_14 rfl ⟨by rw [decide_eq_false (by omega)]; rfl, rfl, rfl⟩
  · refine v_iconst (v := (nI 1)) hx d_MT_isFull_9 rfl ?_
    refine v_goto (tgt := 14) hx d_MT_isFull_10 (by decide) ?_
    exact v_zret hx hr d_MT_isFull_14 rfl ⟨by rw [decide_eq_true c6]; rfl, rfl, rfl⟩
set_option maxHeartbeats 4000000 in
set_option maxRecDepth 100000 in
theorem c_MT_find {G : GT} {L : List Nat} {f : Nat → va_E} {w : Nat → Nat} {A S Fm : Nat → Nat} {c wa : Nat} {mp : Nat → Option Nat} (hT : TbAt G L f w 0 A (S 0) (Fm 0) c wa mp) {M nx ou lo fi : Nat → Nat → Nat} {n k b : Nat → Nat} (hMs : ∀ j, j < c → mp j = some (M j 0) ∧ MaAt G L f w (10 + j) (M j) (nx j) (ou j) (lo j) (fi j) (n j) (k j) (b j)) (hc : c ≤ 12) (p : Int32) : Con G y_MT_find (.code y_MT_find b_MT_find 2 (some (.object "MachineTables$Machine")) :: BIG) 0 0 0 0 [.ref (A 0), .int p] L f (fun v L' f' => (ix p c = none ∧ v = some .null ∨ ∃ j, ix p c = some j ∧ j < c ∧ v = some (.ref (M j 0))) ∧ L' = L ∧ f' = f) := by
  refine con_of (cc := b_MT_find) (mL := 2) (lv := [some (.ref (A 0)), some (.int p)]) (by decide) (by intro w hw; simp at hw; rcases hw with rfl | rfl <;> rfl) (by first | exact Nat.le_of_ble_eq_true rfl | decide) rfl ?_
  intro x hx hr hin
  refine v_iload_n hx d_MT_find_0 rfl rfl ?_
  refine v_if_lt (tgt := 21) hx d_MT_find_1 (by decide) (fun c1 => ?_) (fun c1 => ?_)
  · refine v_null hx d_MT_find_21 ?_
    exact v_aret hx hr (Or.inl ⟨_, rfl⟩) (Or.inl rfl) d_MT_find_22 ⟨Or.inl ⟨ix_neg c1, rfl⟩, rfl, rfl⟩
  · refine v_iload_n hx d_MT_find_4 rfl rfl ?_
    refine v_aload_n hx d_MT_find_5 rfl rfl ?_
    refine v_get hx cf_MT 3 (by decide) k_MT_29 d_MT_find_6 hT.m0 hT.f0 rfl ?_
    refine v_icmp_ge (tgt := 21) hx d_MT_find_9 (by decide) (fun c9 => ?_) (fun c9 => ?_)
    · refine v_null hx d_MT_find_21 ?_
      exact v_aret hx hr (Or.inl ⟨_, rfl⟩) (Or.inl rfl) d_MT_find_22 ⟨Or.inl ⟨ix_ge (by omega) c9, rfl⟩, rfl, rfl⟩
    · obtain ⟨j, ej, hj, e⟩ := ix_in (by omega) c1 c9
      subst e
      refine v_aload_n hx d_MT_find_12 rfl rfl ?_
      refine v_get hx cf_MT 0 (by decide) k_MT_11 d_MT_find_13 hT.m0 hT.f0 rfl ?_
      refine v_iload_n hx d_MT_find_16 rfl rfl ?_
      refine n_aaldS hx d_MT_find_17 hT.m1 hT.f1 (by omega) (by decide) (hMs j hj).1 ?_
      refine v_goto (tgt := 22) hx d_MT_find_18 (by decide) ?_
      exact v_aret hx hr (Or.inl ⟨_, rfl⟩) (Or.inr ⟨_, rfl⟩) d_MT_find_22 ⟨Or.inr ⟨j, ej, hj, rfl⟩, rfl, rfl⟩
set_option maxHeartbeats 4000000 in
set_option maxRecDepth 100000 in
theorem c_MT_findSmall {G : GT} {L : List Nat} {f : Nat → va_E} {w : Nat → Nat} {A S Fm : Nat → Nat} {c wa : Nat} {mp : Nat → Option Nat} (hT : TbAt G L f w 0 A (S 0) (Fm 0) c wa mp) {M nx ou lo fi : Nat → Nat → Nat} {n k b : Nat → Nat} (hMs : ∀ j, j < c → mp j = some (M j 0) ∧ MaAt G L f w (10 + j) (M j) (nx j) (ou j) (lo j) (fi j) (n j) (k j) (b j)) (hc : c ≤ 12) (hn : ∀ j, j < c → n j ≤ 40) (p : Int32) : Con G y_MT_findSmall (.code y_MT_findSmall b_MT_findSmall 3 (some (.object "MachineTables$Machine")) :: BIG) 1 21 0 0 [.ref (A 0), .int p] L f (fun v L' f' => ((ix p c = none ∨ ∃ j, ix p c = some j ∧ 12 < n j) ∧ v = some .null ∨ ∃ j, ix p c = some j ∧ j < c ∧ n j ≤ 12 ∧ v = some (.ref (M j 0))) ∧ L' = L ∧ f' = f) := by
  refine con_of (cc := b_MT_findSmall) (mL := 3) (lv := [some (.ref (A 0)), some (.int p), none]) (by decide) (by intro w hw; simp at hw; rcases hw with rfl | rfl <;> rfl) (by first | exact Nat.le_of_ble_eq_true rfl | decide) rfl ?_
  intro x hx hr hin
  refine v_aload_n hx d_MT_findSmall_0 rfl rfl ?_
  refine v_iload_n hx d_MT_findSmall_1 rfl rfl ?_
  refine v_callV (as := [.int p]) (q := (R_MT, T_MT, 5)) hx (c_MT_find hT hMs hc p) cy_MT_find k_MT_45 ki_MT_find kl_MT_find d_MT_findSmall_2 (by decide) (ci := 3) rfl hT.m0 hT.f0 (by decide) rfl rfl (Nat.le_of_ble_eq_true rfl) (fun v1 L f p1 => ?_)
  obtain ⟨(⟨e, rfl⟩ | ⟨j, e, hj, rfl⟩), rfl, rfl⟩ := p1
  · refine v_astore_nN (lv' := [some (.ref (A 0)), some (.int p), some (.null)]) hx d_MT_findSmall_5 rfl (by decide) rfl ?_
    refine v_aload_nN hx d_MT_findSmall_6 rfl rfl ?_
    refine v_ifnullN (tgt := 19) hx d_MT_findSmall_7 (by decide) ?_
    refine v_null hx d_MT_findSmall_19 ?_
    refine v_goto (tgt := 24) hx d_MT_findSmall_20 (by decide) ?_
    exact v_aret hx hr (Or.inl ⟨_, rfl⟩) (Or.inl rfl) d_MT_findSmall_24 ⟨Or.inl ⟨Or.inl e, rfl⟩, rfl, rfl⟩
  · have hnj := hn j hj
    refine v_astore_n (lv' := [some (.ref (A 0)), some (.int p), some (.ref (M j 0))]) hx d_MT_findSmall_5 rfl (by decide) rfl ?_
    refine v_aload_n hx d_MT_findSmall_6 rfl rfl ?_
    refine v_ifnull hx d_MT_findSmall_7 ?_
    refine v_aload_n hx d_MT_findSmall_10 rfl rfl ?_
    refine v_getN hx cf_Ma 4 (by decide) kN_MT_102 d_MT_findSmall_11 (hMs j hj).2.m0 (hMs j hj).2.f0 rfl ?_
    refine v_bipush (v := (nI 12)) hx d_MT_findSmall_14 rfl ?_
    refine n_icmp_le (tgt := 23) hx d_MT_findSmall_16 (by decide) (by omega) (by omega) (fun c16 => ?_) (fun c16 => ?_)
    · refine v_aload_n hx d_MT_findSmall_23 rfl rfl ?_
      exact v_aret hx hr (Or.inl ⟨_, rfl⟩) (Or.inr ⟨_, rfl⟩) d_MT_findSmall_24 ⟨Or.inr ⟨j, e, hj, c16, rfl⟩, rfl, rfl⟩
    · refine v_null hx d_MT_findSmall_19 ?_
      refine v_goto (tgt := 24) hx d_MT_findSmall_20 (by decide) ?_
      exact v_aret hx hr (Or.inl ⟨_, rfl⟩) (Or.inl rfl) d_MT_findSmall_24 ⟨Or.inl ⟨Or.inr ⟨j, e, c16⟩, rfl⟩, rfl, rfl⟩
set_option maxHeartbeats 4000000 in
set_option maxRecDepth 100000 in
theorem c_MT_pairBehind {G : GT} {L : List Nat} {f : Nat → va_E} {w : Nat → Nat} {id1 : Nat} {Ba nx1 ou1 lo1 fi1 : Nat → Nat} {n1 k1 b1 : Nat} (hM1 : MaAt G L f w id1 Ba nx1 ou1 lo1 fi1 n1 k1 b1) {id2 : Nat} {Bb nx2 ou2 lo2 fi2 : Nat → Nat} {n2 k2 b2 : Nat} (hM2 : MaAt G L f w id2 Bb nx2 ou2 lo2 fi2 n2 k2 b2) (hA1 : okA nx1 ou1 n1 k1) (hA2 : okA nx2 ou2 n2 k2) (p i : Nat) (h1 : p / 40 < n1) (h2 : p % 40 < n2) (hp : p < 1600) (hi : i < k1) : Con G y_MT_pairBehind (.code y_MT_pairBehind b_MT_pairBehind 5 (some .int) :: BIG) 1 22 0 0 [.ref (Ba 0), .ref (Bb 0), .int (nI p), .int (nI i)] L f (fun v L' f' => (ou1 (p / 40 * 4 + i) < k2 ∧ v = some (.int (nI (nx1 (p / 40 * 4 + i) * 40 + nx2 (p % 40 * 4 + ou1 (p / 40 * 4 + i))))) ∨ k2 ≤ ou1 (p / 40 * 4 + i) ∧ v = some (.int (-1))) ∧ L' = L ∧ f' = f) := by
  refine con_of (cc := b_MT_pairBehind) (mL := 5) (lv := [some (.ref (Ba 0)), some (.ref (Bb 0)), some (.int (nI p)), some (.int (nI i)), none]) (by decide) (by intro w hw; simp at hw; rcases hw with rfl | rfl | rfl | rfl <;> rfl) (by first | exact Nat.le_of_ble_eq_true rfl | decide) rfl ?_
  intro x hx hr hin
  obtain ⟨a1, a2, a3, a4, a5⟩ := hA1
  obtain ⟨d1, d2, d3, d4, d5⟩ := hA2
  have hx1 := a5 (p / 40) i h1 hi
  refine v_aload_n hx d_MT_pairBehind_0 rfl rfl ?_
  refine v_iload_n hx d_MT_pairBehind_1 rfl rfl ?_
  refine v_callS (as := [.int (nI p)]) hx (c_MT_firstOf p (by omega)) cy_MT_firstOf k_MT_132 ks_MT_firstOf d_MT_pairBehind_2 (by decide) (by decide) rfl rfl (Nat.le_of_ble_eq_true rfl) (fun v1 L f p1 => ?_)
  obtain ⟨rfl, rfl, rfl⟩ := p1
  refine v_iload_n hx d_MT_pairBehind_5 rfl rfl ?_
  refine v_callV (as := [.int (nI (p / 40)), .int (nI i)]) (q := (R_Ma, T_Ma, 7)) hx (c_Ma_outputOf hM1 (p / 40) i (by omega) (by omega)) cy_Ma_outputOf k_MT_64 ki_Ma_outputOf kl_Ma_outputOf d_MT_pairBehind_6 (by decide) (ci := 1) rfl hM1.m0 hM1.f0 (by decide) rfl rfl (Nat.le_of_ble_eq_true rfl) (fun v2 L f p2 => ?_)
  obtain ⟨rfl, rfl, rfl⟩ := p2
  refine v_istore (lv' := [some (.ref (Ba 0)), some (.ref (Bb 0)), some (.int (nI p)), some (.int (nI i)), some (.int (nI (ou1 (p / 40 * 4 + i))))]) hx d_MT_pairBehind_9 (by decide) rfl ?_
  refine v_aload_n hx d_MT_pairBehind_11 rfl rfl ?_
  refine v_iload hx d_MT_pairBehind_12 rfl ?_
  refine v_callV (as := [.int (nI (ou1 (p / 40 * 4 + i)))]) (q := (R_Ma, T_Ma, 7)) hx (c_Ma_hasInput hM2 (by omega) (nI (ou1 (p / 40 * 4 + i)))) cy_Ma_hasInput k_MT_53 ki_Ma_hasInput kl_Ma_hasInput d_MT_pairBehind_14 (by decide) (ci := 1) rfl hM2.m0 hM2.f0 (by decide) rfl rfl (Nat.le_of_ble_eq_true rfl) (fun v3 L f p3 => ?_)
  obtain ⟨rfl, rfl, rfl⟩ := p3
  rw [ix_isSome (by omega) (by omega)]
  refine v_if_ne (tgt := 22) hx d_MT_pairBehind_17 (by decide) (fun c17 => ?_) (fun c17 => ?_)
  · have hk : ou1 (p / 40 * 4 + i) < k2 := of_decide_eq_true (Bool.of_not_eq_false (fun z => c17 ((bI_0 _).mpr z)))
    refine v_aload_n hx d_MT_pairBehind_22 rfl rfl ?_
    refine v_iload_n hx d_MT_pairBehind_23 rfl rfl ?_
    refine v_callS (as := [.int (nI p)]) hx (c_MT_firstOf p (by omega)) cy_MT_firstOf k_MT_132 ks_MT_firstOf d_MT_pairBehind_24 (by decide) (by decide) rfl rfl (Nat.le_of_ble_eq_true rfl) (fun v4 L f p4 => ?_)
    obtain ⟨rfl, rfl, rfl⟩ := p4
    refine v_iload_n hx d_MT_pairBehind_27 rfl rfl ?_
    refine v_callV (as := [.int (nI (p / 40)), .int (nI i)]) (q := (R_Ma, T_Ma, 7)) hx (c_Ma_nextOf hM1 (p / 40) i (by omega) (by omega)) cy_Ma_nextOf k_MT_60 ki_Ma_nextOf kl_Ma_nextOf d_MT_pairBehind_28 (by decide) (ci := 1) rfl hM1.m0 hM1.f0 (by decide) rfl rfl (Nat.le_of_ble_eq_true rfl) (fun v5 L f p5 => ?_)
    obtain ⟨rfl, rfl, rfl⟩ := p5
    refine v_aload_n hx d_MT_pairBehind_31 rfl rfl ?_
    refine v_iload_n hx d_MT_pairBehind_32 rfl rfl ?_
    refine v_callS (as := [.int (nI p)]) hx (c_MT_secondOf p (by omega)) cy_MT_secondOf k_MT_139 ks_MT_secondOf d_MT_pairBehind_33 (by decide) (by decide) rfl rfl (Nat.le_of_ble_eq_true rfl) (fun v6 L f p6 => ?_)
    obtain ⟨rfl, rfl, rfl⟩ := p6
    refine v_iload hx d_MT_pairBehind_36 rfl ?_
    refine v_callV (as := [.int (nI (p % 40)), .int (nI (ou1 (p / 40 * 4 + i)))]) (q := (R_Ma, T_Ma, 7)) hx (c_Ma_nextOf hM2 (p % 40) (ou1 (p / 40 * 4 + i)) (by omega) (by omega)) cy_Ma_nextOf k_MT_60 ki_Ma_nextOf kl_Ma_nextOf d_MT_pairBehind_38 (by decide) (ci := 1) rfl hM2.m0 hM2.f0 (by decide) rfl rfl (Nat.le_of_ble_eq_true rfl) (fun v7 L f p7 => ?_)
    obtain ⟨rfl, rfl, rfl⟩ := p7
    refine v_callS (as := [.int (nI (nx1 (p / 40 * 4 + i))), .int (nI (nx2 (p % 40 * 4 + ou1 (p / 40 * 4 + i))))]) hx (c_MT_pairOf _ _) cy_MT_pairOf k_MT_159 ks_MT_pairOf d_MT_pairBehind_41 (by decide) (by decide) rfl rfl (Nat.le_of_ble_eq_true rfl) (fun v8 L f p8 => ?_)
    obtain ⟨rfl, rfl, rfl⟩ := p8
    exact v_iret hx hr d_MT_pairBehind_44 ⟨Or.inl ⟨hk, rfl⟩, rfl, rfl⟩
  · refine v_iconst (v := (-1)) hx d_MT_pairBehind_20 rfl ?_
    exact v_iret hx hr d_MT_pairBehind_21 ⟨Or.inr ⟨Nat.le_of_not_lt (of_decide_eq_false ((bI_0 _).mp c17)), rfl⟩, rfl, rfl⟩
end
section
/-! ===== the four searches' own steps ===== -/
def wNx (nx1 nx2 : Nat → Nat) (p i : Nat) : Nat := nx1 (p / 40 * 4 + i) * 40 + nx2 (p % 40 * 4 + i)
def wBad (ou1 ou2 : Nat → Nat) (p i : Nat) : Prop := ou1 (p / 40 * 4 + i) ≠ ou2 (p % 40 * 4 + i)
def wP (n1 n2 p : Nat) : Prop := p / 40 < n1 ∧ p % 40 < n2
theorem wP_lt {nx1 ou1 nx2 ou2 : Nat → Nat} {n1 n2 k1 k2 : Nat} (h1 : okA nx1 ou1 n1 k1) (h2 : okA nx2 ou2 n2 k2) : ∀ p, wP n1 n2 p → p < 1600 := fun p h => by have := h.1; have := h1.2.1; omega
theorem wP_mk {n1 n2 a b : Nat} (ha : a < n1) (hb : b < n2) (h2 : n2 ≤ 40) : wP n1 n2 (a * 40 + b) := ⟨by omega, by omega⟩
theorem wP_nx {nx1 ou1 nx2 ou2 : Nat → Nat} {n1 n2 k : Nat} (h1 : okA nx1 ou1 n1 k) (h2 : okA nx2 ou2 n2 k) : ∀ p i, wP n1 n2 p → i < k → wP n1 n2 (wNx nx1 nx2 p i) := fun p i h hi => wP_mk (h1.2.2.2.2 _ i h.1 hi).1 (h2.2.2.2.2 _ i h.2 hi).1 h2.2.1
theorem qOK_nil (D : Nat) : qOK [] D := ⟨List.nodup_nil, fun _ h => absurd h List.not_mem_nil, fun _ h => absurd h (Nat.not_lt_zero _)⟩
/-- sets of like states -/
def nNx (lo nx : Nat → Nat) (p i : Nat) : Nat := lo (nx (p * 4 + i))
/-- masks -/
def rNx (nx : Nat → Nat) (n p i : Nat) : Nat := mv (fun s => nx (s * 4 + i)) p n
def rP (n p : Nat) : Prop := p < 2 ^ n
theorem rP_nx {nx ou : Nat → Nat} {n k : Nat} (h : okA nx ou n k) (hn : n ≤ 12) : ∀ p i, rP n p → i < k → rP n (rNx nx n p i) := by
  intro p i _ hi
  unfold rP rNx
  have key : ∀ s, s ≤ n → mv (fun s => nx (s * 4 + i)) p s < 2 ^ n := by
    intro s
    induction s with
    | zero => intro _; exact Nat.two_pow_pos n
    | succ s ih =>
      intro hs
      simp only [mv]
      split
      · exact Nat.or_lt_two_pow (ih (by omega)) (Nat.pow_lt_pow_right (by decide) (h.2.2.2.2 s i (by omega) hi).1)
      · exact ih (by omega)
  exact key n (Nat.le_refl _)
theorem rP_lt {n : Nat} (hn : n ≤ 12) : ∀ p, rP n p → p < 4096 := fun p h => Nat.lt_of_lt_of_le h (by have := Nat.pow_le_pow_right (show 0 < 2 by decide) hn; simpa using this)
/-- pairs of a chain -/
def cNx (nx1 ou1 nx2 : Nat → Nat) (p i : Nat) : Nat := nx1 (p / 40 * 4 + i) * 40 + nx2 (p % 40 * 4 + ou1 (p / 40 * 4 + i))
def cBad (ou1 : Nat → Nat) (k2 p i : Nat) : Prop := k2 ≤ ou1 (p / 40 * 4 + i)
end
section
theorem lt_le {P : Nat → Prop} {a : Nat} (h : ∀ b, b < a → P b) (ha : P a) : ∀ b, b ≤ a → P b := fun b hb => by
  rcases Nat.lt_or_ge b a with c | c
  · exact h b c
  · have e : b = a := Nat.le_antisymm hb c
    rw [e]; exact ha
set_option maxHeartbeats 4000000 in
set_option maxRecDepth 100000 in
theorem c_MT_seekWitness {G : GT} {L : List Nat} {f : Nat → va_E} {w : Nat → Nat} {A S Fm : Nat → Nat} {c wa : Nat} {mp : Nat → Option Nat} (hT : TbAt G L f w 0 A (S 0) (Fm 0) c wa mp) {nm : Nat → Option Nat} {pl st : Nat → Nat} {sc : Nat} (hS : SeAt G L f w 1 S nm pl st sc) {id1 : Nat} {Ba nx1 ou1 lo1 fi1 : Nat → Nat} {n1 k1 b1 : Nat} (hM1 : MaAt G L f w id1 Ba nx1 ou1 lo1 fi1 n1 k1 b1) {id2 : Nat} {Bb nx2 ou2 lo2 fi2 : Nat → Nat} {n2 k2 b2 : Nat} (hM2 : MaAt G L f w id2 Bb nx2 ou2 lo2 fi2 n2 k2 b2) (hi1 : id1 ≠ 1) (hi2 : id2 ≠ 1) (hA1 : okA nx1 ou1 n1 k1) (hA2 : okA nx2 ou2 n2 k1) (s t : Nat) (hs : s < n1) (ht : t < n2) : Con G y_MT_seekWitness (.code y_MT_seekWitness b_MT_seekWitness 9 (some .int) :: BIG) 3 67 0 0 [.ref (A 0), .ref (Ba 0), .int (nI s), .ref (Bb 0), .int (nI t)] L f (fun v L' f' => L' = L ∧ gF w 1 f f' ∧ (Wit (wNx nx1 nx2) (wBad ou1 ou2) k1 [(s * 40 + t, 0, 0)] none ∧ v = some (.int (-1)) ∧ (∃ (nm : Nat → Option Nat) (pl st : Nat → Nat) (sc : Nat), SeAt G L f' w 1 S nm pl st sc) ∨ ∃ (a i : Nat) (nm : Nat → Option Nat) (pl st : Nat → Nat) (sc : Nat), Wit (wNx nx1 nx2) (wBad ou1 ou2) k1 [(s * 40 + t, 0, 0)] (some (a, i)) ∧ v = some (.int (nI sc)) ∧ SeAt G L f' w 1 S nm pl (va_up st sc (a * 4 + i)) (sc + 1) ∧ SeQ nm pl st sc 1600 (bin (wNx nx1 nx2) (bout (wNx nx1 nx2) k1 [(s * 40 + t, 0, 0)] a) a i) ∧ qOK (bin (wNx nx1 nx2) (bout (wNx nx1 nx2) k1 [(s * 40 + t, 0, 0)] a) a i) 1600)) := by
  refine con_of (cc := b_MT_seekWitness) (mL := 9) (lv := [some (.ref (A 0)), some (.ref (Ba 0)), some (.int (nI s)), some (.ref (Bb 0)), some (.int (nI t)), none, none, none, none]) (by decide) (by intro w hw; simp at hw; rcases hw with rfl | rfl | rfl | rfl | rfl <;> rfl) (by first | exact Nat.le_of_ble_eq_true rfl | decide) rfl ?_
  intro x hx hr hin
  have hF := gF.rf (w := w) (id := 1) (f := f)
  have hA1_ := hA1
  have hA2_ := hA2
  obtain ⟨a1, a2, a3, a4, a5⟩ := hA1_
  obtain ⟨d1, d2, d3, d4, d5⟩ := hA2_
  have hlt := wP_lt hA1 hA2
  have hnP := wP_nx hA1 hA2
  have hP0 : wP n1 n2 (s * 40 + t) := wP_mk hs ht d2
  have hq0 : qOK [(s * 40 + t, 0, 0)] 1600 := q0_ok (hlt _ hP0)
  have hI0 : qI (wP n1 n2) [(s * 40 + t, 0, 0)] := q0_I hP0
  refine v_aload_n hx d_MT_seekWitness_0 rfl rfl ?_
  refine v_get hx cf_MT 1 (by decide) k_MT_18 d_MT_seekWitness_1 (hT.fr hF (by decide)).m0 (hT.fr hF (by decide)).f0 rfl ?_
  refine v_sipush (v := (nI 1600)) hx d_MT_seekWitness_4 rfl ?_
  refine v_callV (as := [.int (nI 1600)]) (q := (R_Se, T_Se, 4)) hx (c_Se_begin hS 1600 (by decide)) cy_Se_begin k_MT_156 ki_Se_begin kl_Se_begin d_MT_seekWitness_7 (by decide) (ci := 2) rfl hS.m0 hS.f0 (by decide) rfl rfl (Nat.le_of_ble_eq_true rfl) (fun v1 L f1 p1 => ?_)
  obtain ⟨rfl, rfl, ⟨nm1, hS1, hQ1⟩, hF1⟩ := p1
  have hF := hF1
  refine v_aload_n hx d_MT_seekWitness_10 rfl rfl ?_
  refine v_get hx cf_MT 1 (by decide) k_MT_18 d_MT_seekWitness_11 (hT.fr hF (by decide)).m0 (hT.fr hF (by decide)).f0 rfl ?_
  refine v_iload_n hx d_MT_seekWitness_14 rfl rfl ?_
  refine v_iload hx d_MT_seekWitness_15 rfl ?_
  refine v_callS (as := [.int (nI s), .int (nI t)]) hx (c_MT_pairOf _ _) cy_MT_pairOf k_MT_159 ks_MT_pairOf d_MT_seekWitness_17 (by decide) (by decide) rfl rfl (Nat.le_of_ble_eq_true rfl) (fun v2 L f1 p2 => ?_)
  obtain ⟨rfl, rfl, rfl⟩ := p2
  refine v_iconst (v := (nI 0)) hx d_MT_seekWitness_20 rfl ?_
  refine v_iconst (v := (nI 0)) hx d_MT_seekWitness_21 rfl ?_
  refine v_callV (as := [.int (nI (s * 40 + t)), .int (nI 0), .int (nI 0)]) (q := (R_Se, T_Se, 4)) hx (c_Se_reach hS1 hQ1 (qOK_nil _) (s * 40 + t) 0 0 (by decide) (hlt _ hP0) (Or.inr ⟨rfl, rfl⟩) (by decide)) cy_Se_reach k_MT_162 ki_Se_reach kl_Se_reach d_MT_seekWitness_22 (by decide) (ci := 2) rfl hS1.m0 hS1.f0 (by decide) rfl rfl (Nat.le_of_ble_eq_true rfl) (fun v3 L f2 p3 => ?_)
  obtain ⟨rfl, rfl, ⟨nm2, pl2, st2, hS2, hQ2⟩, hF2⟩ := p3
  have hF := hF.tr hF2
  refine v_iconst (v := (nI 0)) hx d_MT_seekWitness_25 rfl ?_
  refine v_istore (lv' := [some (.ref (A 0)), some (.ref (Ba 0)), some (.int (nI s)), some (.ref (Bb 0)), some (.int (nI t)), some (.int (nI 0)), none, none, none]) hx d_MT_seekWitness_26 (by decide) rfl ?_
  have H28 : ∀ (fu : Nat) (a : Nat) (f3 : Nat → va_E) (nm1 : Nat → Option Nat) (pl1 : Nat → Nat) (st1 : Nat → Nat) (sc1 : Nat), 1600 - a < fu → (a ≤ 1600) → (∀ b, b < a → b < (bout (wNx nx1 nx2) k1 [(s * 40 + t, 0, 0)] b).length) → (∀ b, b < a → ∀ j, j < k1 → ¬ (wBad ou1 ou2) (qP (bout (wNx nx1 nx2) k1 [(s * 40 + t, 0, 0)] b) b) j) → (SeAt G L f3 w 1 S nm1 pl1 st1 sc1) → (SeQ nm1 pl1 st1 sc1 1600 (bout (wNx nx1 nx2) k1 [(s * 40 + t, 0, 0)] a)) → (gF w 1 f f3) → V G { frames := 3, cells := 0, slots := 0, locals := 67 } 9 x L f3 0 0 [some (.ref (A 0)), some (.ref (Ba 0)), some (.int (nI s)), some (.ref (Bb 0)), some (.int (nI t)), some (.int (nI a)), none, none, none] 28 [] := by
    intro fu
    induction fu with
    | zero => intro a f3 nm1 pl1 st1 sc1 hm; exact absurd hm (Nat.not_lt_zero _)
    | succ fu ih =>
      intro a f3 nm1 pl1 st1 sc1 hm ha0 hr1 hg1 hM hQ hF
      have ihO := ih
      have hok := bout_ok hq0 hI0 a4 hlt hnP a hr1
      have hlen := hok.1.len
      have hce := hQ.1
      refine v_iload hx d_MT_seekWitness_28 rfl ?_
      refine v_aload_n hx d_MT_seekWitness_30 rfl rfl ?_
      refine v_get hx cf_MT 1 (by decide) k_MT_18 d_MT_seekWitness_31 (hT.fr hF (by decide)).m0 (hT.fr hF (by decide)).f0 rfl ?_
      refine v_getN hx cf_Se 3 (by decide) kN_MT_101 d_MT_seekWitness_34 hM.m0 hM.f0 rfl ?_
      refine n_icmp_ge (tgt := 161) hx d_MT_seekWitness_37 (by decide) (by omega) (by omega) (fun c37 => ?_) (fun c37 => ?_)
      · refine v_iconst (v := (-1)) hx d_MT_seekWitness_161 rfl ?_
        exact v_iret hx hr d_MT_seekWitness_162 ⟨rfl, hF, Or.inl ⟨⟨a, ⟨by omega, hr1⟩, hg1⟩, rfl, nm1, pl1, st1, sc1, hM⟩⟩
      · refine v_iload hx d_MT_seekWitness_40 rfl ?_
        refine v_sipush (v := (nI 1600)) hx d_MT_seekWitness_42 rfl ?_
        refine n_icmp_ge (tgt := 161) hx d_MT_seekWitness_45 (by decide) (by omega) (by omega) (fun c45 => ?_) (fun c45 => ?_)
        · exact absurd c45 (by omega)
        · have haL : a < (bout (wNx nx1 nx2) k1 [(s * 40 + t, 0, 0)] a).length := by omega
          have hpa : pl1 a = qP (bout (wNx nx1 nx2) k1 [(s * 40 + t, 0, 0)] a) a := (hQ.2.1 a (by omega)).1
          have hPa : wP n1 n2 (pl1 a) := by rw [hpa]; exact hok.2 _ (qP_mem haL)
          have hPa1 := hPa.1
          have hPa2 := hPa.2
          have hpl := hlt _ hPa
          refine v_aload_n hx d_MT_seekWitness_48 rfl rfl ?_
          refine v_get hx cf_MT 1 (by decide) k_MT_18 d_MT_seekWitness_49 (hT.fr hF (by decide)).m0 (hT.fr hF (by decide)).f0 rfl ?_
          refine v_iload hx d_MT_seekWitness_52 rfl ?_
          refine v_callV (as := [.int (nI a)]) (q := (R_Se, T_Se, 4)) hx (c_Se_placeAt hM a (by omega)) cy_Se_placeAt k_MT_105 ki_Se_placeAt kl_Se_placeAt d_MT_seekWitness_54 (by decide) (ci := 2) rfl hM.m0 hM.f0 (by decide) rfl rfl (Nat.le_of_ble_eq_true rfl) (fun v4 L f3 p4 => ?_)
          obtain ⟨rfl, rfl, rfl⟩ := p4
          refine v_callS (as := [.int (nI (pl1 a))]) hx (c_MT_firstOf (pl1 a) (by omega)) cy_MT_firstOf k_MT_132 ks_MT_firstOf d_MT_seekWitness_57 (by decide) (by decide) rfl rfl (Nat.le_of_ble_eq_true rfl) (fun v5 L f3 p5 => ?_)
          obtain ⟨rfl, rfl, rfl⟩ := p5
          refine v_istore (lv' := [some (.ref (A 0)), some (.ref (Ba 0)), some (.int (nI s)), some (.ref (Bb 0)), some (.int (nI t)), some (.int (nI a)), some (.int (nI (pl1 a / 40))), none, none]) hx d_MT_seekWitness_60 (by decide) rfl ?_
          refine v_aload_n hx d_MT_seekWitness_62 rfl rfl ?_
          refine v_get hx cf_MT 1 (by decide) k_MT_18 d_MT_seekWitness_63 (hT.fr hF (by decide)).m0 (hT.fr hF (by decide)).f0 rfl ?_
          refine v_iload hx d_MT_seekWitness_66 rfl ?_
          refine v_callV (as := [.int (nI a)]) (q := (R_Se, T_Se, 4)) hx (c_Se_placeAt hM a (by omega)) cy_Se_placeAt k_MT_105 ki_Se_placeAt kl_Se_placeAt d_MT_seekWitness_68 (by decide) (ci := 2) rfl hM.m0 hM.f0 (by decide) rfl rfl (Nat.le_of_ble_eq_true rfl) (fun v6 L f3 p6 => ?_)
          obtain ⟨rfl, rfl, rfl⟩ := p6
          refine v_callS (as := [.int (nI (pl1 a))]) hx (c_MT_secondOf (pl1 a) (by omega)) cy_MT_secondOf k_MT_139 ks_MT_secondOf d_MT_seekWitness_71 (by decide) (by decide) rfl rfl (Nat.le_of_ble_eq_true rfl) (fun v7 L f3 p7 => ?_)
          obtain ⟨rfl, rfl, rfl⟩ := p7
          refine v_istore (lv' := [some (.ref (A 0)), some (.ref (Ba 0)), some (.int (nI s)), some (.ref (Bb 0)), some (.int (nI t)), some (.int (nI a)), some (.int (nI (pl1 a / 40))), some (.int (nI (pl1 a % 40))), none]) hx d_MT_seekWitness_74 (by decide) rfl ?_
          refine v_iconst (v := (nI 0)) hx d_MT_seekWitness_76 rfl ?_
          refine v_istore (lv' := [some (.ref (A 0)), some (.ref (Ba 0)), some (.int (nI s)), some (.ref (Bb 0)), some (.int (nI t)), some (.int (nI a)), some (.int (nI (pl1 a / 40))), some (.int (nI (pl1 a % 40))), some (.int (nI 0))]) hx d_MT_seekWitness_77 (by decide) rfl ?_
          have H79 : ∀ (fu : Nat) (i : Nat) (f4 : Nat → va_E) (nm2 : Nat → Option Nat) (pl2 : Nat → Nat) (st2 : Nat → Nat) (sc2 : Nat), k1 - i < fu → (i ≤ k1) → (∀ j, j < i → ¬ (wBad ou1 ou2) (pl1 a) j) → (SeAt G L f4 w 1 S nm2 pl2 st2 sc2) → (SeQ nm2 pl2 st2 sc2 1600 (bin (wNx nx1 nx2) (bout (wNx nx1 nx2) k1 [(s * 40 + t, 0, 0)] a) a i)) → (gF w 1 f f4) → V G { frames := 3, cells := 0, slots := 0, locals := 67 } 9 x L f4 0 0 [some (.ref (A 0)), some (.ref (Ba 0)), some (.int (nI s)), some (.ref (Bb 0)), some (.int (nI t)), some (.int (nI a)), some (.int (nI (pl1 a / 40))), some (.int (nI (pl1 a % 40))), some (.int (nI i))] 79 [] := by
            intro fu
            induction fu with
            | zero => intro i f4 nm2 pl2 st2 sc2 hm; exact absurd hm (Nat.not_lt_zero _)
            | succ fu ih =>
              intro i f4 nm2 pl2 st2 sc2 hm hi hgi hM2_ hQ2_ hF
              have hoki := bin_ok hok.1 hok.2 haL a4 hlt hnP i hi
              have hlen2 := hoki.1.len
              have hce2 := hQ2_.1
              have hbl := bin_len (wNx nx1 nx2) (bout (wNx nx1 nx2) k1 [(s * 40 + t, 0, 0)] a) a i
              refine v_iload hx d_MT_seekWitness_79 rfl ?_
              refine v_aload_n hx d_MT_seekWitness_81 rfl rfl ?_
              refine v_getN hx cf_Ma 5 (by decide) kN_MT_85 d_MT_seekWitness_82 (hM1.fr hF hi1).m0 (hM1.fr hF hi1).f0 rfl ?_
              refine n_icmp_ge (tgt := 155) hx d_MT_seekWitness_85 (by decide) (by omega) (by omega) (fun c85 => ?_) (fun c85 => ?_)
              · refine n_iinc (lv' := [some (.ref (A 0)), some (.ref (Ba 0)), some (.int (nI s)), some (.ref (Bb 0)), some (.int (nI t)), some (.int (nI (a + 1))), some (.int (nI (pl1 a / 40))), some (.int (nI (pl1 a % 40))), some (.int (nI i))]) hx d_MT_seekWitness_155 rfl (by decide) rfl ?_
                refine v_goto (tgt := 28) hx d_MT_seekWitness_158 (by decide) ?_
                have e6 : i = k1 := by omega
                refine v_weak (by simp [vsub]) (ihO (a + 1) f4 nm2 pl2 st2 sc2 (by omega) (by omega) (lt_s hr1 haL) (lt_s hg1 (fun j hj => by rw [← hpa]; exact hgi j (by omega))) hM2_ (by rw [e6] at hQ2_; exact hQ2_) hF)
              · have hxa := a5 (pl1 a / 40) i hPa1 (by omega)
                have hxb := d5 (pl1 a % 40) i hPa2 (by omega)
                refine v_aload_n hx d_MT_seekWitness_88 rfl rfl ?_
                refine v_iload hx d_MT_seekWitness_89 rfl ?_
                refine v_iload hx d_MT_seekWitness_91 rfl ?_
                refine v_callV (as := [.int (nI (pl1 a / 40)), .int (nI i)]) (q := (R_Ma, T_Ma, 7)) hx (c_Ma_outputOf (hM1.fr hF hi1) (pl1 a / 40) i (by omega) (by omega)) cy_Ma_outputOf k_MT_64 ki_Ma_outputOf kl_Ma_outputOf d_MT_seekWitness_93 (by decide) (ci := 1) rfl (hM1.fr hF hi1).m0 (hM1.fr hF hi1).f0 (by decide) rfl rfl (Nat.le_of_ble_eq_true rfl) (fun v4 L f4 p4 => ?_)
                obtain ⟨rfl, rfl, rfl⟩ := p4
                refine v_aload_n hx d_MT_seekWitness_96 rfl rfl ?_
                refine v_iload hx d_MT_seekWitness_97 rfl ?_
                refine v_iload hx d_MT_seekWitness_99 rfl ?_
                refine v_callV (as := [.int (nI (pl1 a % 40)), .int (nI i)]) (q := (R_Ma, T_Ma, 7)) hx (c_Ma_outputOf (hM2.fr hF hi2) (pl1 a % 40) i (by omega) (by omega)) cy_Ma_outputOf k_MT_64 ki_Ma_outputOf kl_Ma_outputOf d_MT_seekWitness_101 (by decide) (ci := 1) rfl (hM2.fr hF hi2).m0 (hM2.fr hF hi2).f0 (by decide) rfl rfl (Nat.le_of_ble_eq_true rfl) (fun v5 L f4 p5 => ?_)
                obtain ⟨rfl, rfl, rfl⟩ := p5
                refine n_icmp_eq (tgt := 119) hx d_MT_seekWitness_104 (by decide) (by omega) (by omega) (fun c104 => ?_) (fun c104 => ?_)
                · refine v_aload_n hx d_MT_seekWitness_119 rfl rfl ?_
                  refine v_get hx cf_MT 1 (by decide) k_MT_18 d_MT_seekWitness_120 (hT.fr hF (by decide)).m0 (hT.fr hF (by decide)).f0 rfl ?_
                  refine v_aload_n hx d_MT_seekWitness_123 rfl rfl ?_
                  refine v_iload hx d_MT_seekWitness_124 rfl ?_
                  refine v_iload hx d_MT_seekWitness_126 rfl ?_
                  refine v_callV (as := [.int (nI (pl1 a / 40)), .int (nI i)]) (q := (R_Ma, T_Ma, 7)) hx (c_Ma_nextOf (hM1.fr hF hi1) (pl1 a / 40) i (by omega) (by omega)) cy_Ma_nextOf k_MT_60 ki_Ma_nextOf kl_Ma_nextOf d_MT_seekWitness_128 (by decide) (ci := 1) rfl (hM1.fr hF hi1).m0 (hM1.fr hF hi1).f0 (by decide) rfl rfl (Nat.le_of_ble_eq_true rfl) (fun v6 L f4 p6 => ?_)
                  obtain ⟨rfl, rfl, rfl⟩ := p6
                  refine v_aload_n hx d_MT_seekWitness_131 rfl rfl ?_
                  refine v_iload hx d_MT_seekWitness_132 rfl ?_
                  refine v_iload hx d_MT_seekWitness_134 rfl ?_
                  refine v_callV (as := [.int (nI (pl1 a % 40)), .int (nI i)]) (q := (R_Ma, T_Ma, 7)) hx (c_Ma_nextOf (hM2.fr hF hi2) (pl1 a % 40) i (by omega) (by omega)) cy_Ma_nextOf k_MT_60 ki_Ma_nextOf kl_Ma_nextOf d_MT_seekWitness_136 (by decide) (ci := 1) rfl (hM2.fr hF hi2).m0 (hM2.fr hF hi2).f0 (by decide) rfl rfl (Nat.le_of_ble_eq_true rfl) (fun v7 L f4 p7 => ?_)
                  obtain ⟨rfl, rfl, rfl⟩ := p7
                  refine v_callS (as := [.int (nI (nx1 (pl1 a / 40 * 4 + i))), .int (nI (nx2 (pl1 a % 40 * 4 + i)))]) hx (c_MT_pairOf _ _) cy_MT_pairOf k_MT_159 ks_MT_pairOf d_MT_seekWitness_139 (by decide) (by decide) rfl rfl (Nat.le_of_ble_eq_true rfl) (fun v8 L f4 p8 => ?_)
                  obtain ⟨rfl, rfl, rfl⟩ := p8
                  refine v_iload hx d_MT_seekWitness_142 rfl ?_
                  refine v_iload hx d_MT_seekWitness_144 rfl ?_
                  refine v_callV (as := [.int (nI (nx1 (pl1 a / 40 * 4 + i) * 40 + nx2 (pl1 a % 40 * 4 + i))), .int (nI a), .int (nI i)]) (q := (R_Se, T_Se, 4)) hx (c_Se_reach hM2_ hQ2_ hoki.1 _ a i (by decide) (hlt _ (hnP _ i hPa (by omega))) (Or.inl (by omega)) (by omega)) cy_Se_reach k_MT_162 ki_Se_reach kl_Se_reach d_MT_seekWitness_146 (by decide) (ci := 2) rfl hM2_.m0 hM2_.f0 (by decide) rfl rfl (Nat.le_of_ble_eq_true rfl) (fun v9 L f5 p9 => ?_)
                  obtain ⟨rfl, rfl, ⟨nm5, pl5, st5, hS5, hQ5⟩, hF5⟩ := p9
                  refine n_iinc (lv' := [some (.ref (A 0)), some (.ref (Ba 0)), some (.int (nI s)), some (.ref (Bb 0)), some (.int (nI t)), some (.int (nI a)), some (.int (nI (pl1 a / 40))), some (.int (nI (pl1 a % 40))), some (.int (nI (i + 1)))]) hx d_MT_seekWitness_149 rfl (by decide) rfl ?_
                  refine v_goto (tgt := 79) hx d_MT_seekWitness_152 (by decide) ?_
                  have e5 : (bin (wNx nx1 nx2) (bout (wNx nx1 nx2) k1 [(s * 40 + t, 0, 0)] a) a (i + 1)) = qr (bin (wNx nx1 nx2) (bout (wNx nx1 nx2) k1 [(s * 40 + t, 0, 0)] a) a i) ((wNx nx1 nx2) (pl1 a) i) a i := by rw [hpa]; rfl
                  refine ih (i + 1) f5 nm5 pl5 st5 _ (by omega) (by omega) (lt_s hgi (fun z => z c104)) hS5 ?_ (hF.tr hF5)
                  rw [e5]
                  exact hQ5
                · refine v_aload_n hx d_MT_seekWitness_107 rfl rfl ?_
                  refine v_get hx cf_MT 1 (by decide) k_MT_18 d_MT_seekWitness_108 (hT.fr hF (by decide)).m0 (hT.fr hF (by decide)).f0 rfl ?_
                  refine v_iload hx d_MT_seekWitness_111 rfl ?_
                  refine v_iload hx d_MT_seekWitness_113 rfl ?_
                  refine v_callV (as := [.int (nI a), .int (nI i)]) (q := (R_Se, T_Se, 4)) hx (c_Se_note hM2_ a i (by omega)) cy_Se_note k_MT_166 ki_Se_note kl_Se_note d_MT_seekWitness_115 (by decide) (ci := 2) rfl hM2_.m0 hM2_.f0 (by decide) rfl rfl (Nat.le_of_ble_eq_true rfl) (fun v10 L f5 p10 => ?_)
                  obtain ⟨rfl, rfl, hM5, hF5⟩ := p10
                  exact v_iret hx hr d_MT_seekWitness_118 ⟨rfl, hF.tr hF5, Or.inr ⟨a, i, nm2, pl2, st2, sc2, ⟨lt_le hr1 haL, hg1, by omega, by rw [← hpa]; exact c104, fun j hj => by rw [← hpa]; exact hgi j hj⟩, rfl, hM5, hQ2_, hoki.1⟩⟩
          exact H79 _ 0 f3 nm1 pl1 st1 sc1 (Nat.lt_succ_self _) (Nat.zero_le _) (fun _ h => absurd h (Nat.not_lt_zero _)) hM hQ hF
  exact H28 _ 0 f2 nm2 pl2 st2 _ (Nat.lt_succ_self _) (Nat.zero_le _) (fun _ h => absurd h (Nat.not_lt_zero _)) (fun _ h => absurd h (Nat.not_lt_zero _)) hS2 hQ2 hF
end
