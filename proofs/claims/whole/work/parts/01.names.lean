-- ===== PART A: goes FIRST, ahead of the names: the tables' words, and 'selects' of the private methods out of them =====
/-- a private method of a class that the tables say can be made, by its rows of tables_1 -/
def lw_okq (q : MethodName × Nat) : Prop := (q.1.cls ≠ "java/lang/invoke/MethodHandle" ∧ q.1.cls ≠ "java/lang/invoke/VarHandle") ∧ Cond.instantiable q.1.cls q.2 ∈ tables_1 ∧ Cond.privateMethod q.1 ∈ tables_1 ∧ Cond.instanceMethod q.1 ∈ tables_1
theorem lw_p0 : lw_okq (⟨"TenMachine", "step", "()I"⟩, 7) := ⟨⟨by decide +kernel, by decide +kernel⟩, List.mem_of_getElem? (i := 7) (by decide +kernel), List.mem_of_getElem? (i := 57) (by decide +kernel), List.mem_of_getElem? (i := 58) (by decide +kernel)⟩
theorem lw_p1 : lw_okq (⟨"TenMachine", "fetch", "(I)Z"⟩, 7) := ⟨⟨by decide +kernel, by decide +kernel⟩, List.mem_of_getElem? (i := 7) (by decide +kernel), List.mem_of_getElem? (i := 61) (by decide +kernel), List.mem_of_getElem? (i := 62) (by decide +kernel)⟩
theorem lw_p2 : lw_okq (⟨"TenMachine", "address", "(J)I"⟩, 7) := ⟨⟨by decide +kernel, by decide +kernel⟩, List.mem_of_getElem? (i := 7) (by decide +kernel), List.mem_of_getElem? (i := 65) (by decide +kernel), List.mem_of_getElem? (i := 66) (by decide +kernel)⟩
theorem lw_p3 : lw_okq (⟨"TenMachine", "perform", "()I"⟩, 7) := ⟨⟨by decide +kernel, by decide +kernel⟩, List.mem_of_getElem? (i := 7) (by decide +kernel), List.mem_of_getElem? (i := 74) (by decide +kernel), List.mem_of_getElem? (i := 75) (by decide +kernel)⟩
theorem lw_p4 : lw_okq (⟨"TenMachine", "performTwoHundreds", "()I"⟩, 7) := ⟨⟨by decide +kernel, by decide +kernel⟩, List.mem_of_getElem? (i := 7) (by decide +kernel), List.mem_of_getElem? (i := 78) (by decide +kernel), List.mem_of_getElem? (i := 79) (by decide +kernel)⟩
theorem lw_p5 : lw_okq (⟨"TenMachine", "family", "()I"⟩, 7) := ⟨⟨by decide +kernel, by decide +kernel⟩, List.mem_of_getElem? (i := 7) (by decide +kernel), List.mem_of_getElem? (i := 82) (by decide +kernel), List.mem_of_getElem? (i := 83) (by decide +kernel)⟩
theorem lw_p6 : lw_okq (⟨"TenMachine", "move", "()I"⟩, 7) := ⟨⟨by decide +kernel, by decide +kernel⟩, List.mem_of_getElem? (i := 7) (by decide +kernel), List.mem_of_getElem? (i := 86) (by decide +kernel), List.mem_of_getElem? (i := 87) (by decide +kernel)⟩
theorem lw_p7 : lw_okq (⟨"TenMachine", "lacksOperand", "()Z"⟩, 7) := ⟨⟨by decide +kernel, by decide +kernel⟩, List.mem_of_getElem? (i := 7) (by decide +kernel), List.mem_of_getElem? (i := 90) (by decide +kernel), List.mem_of_getElem? (i := 91) (by decide +kernel)⟩
theorem lw_p8 : lw_okq (⟨"TenMachine", "mode", "()I"⟩, 7) := ⟨⟨by decide +kernel, by decide +kernel⟩, List.mem_of_getElem? (i := 7) (by decide +kernel), List.mem_of_getElem? (i := 94) (by decide +kernel), List.mem_of_getElem? (i := 95) (by decide +kernel)⟩
theorem lw_p9 : lw_okq (⟨"TenMachine", "operand", "()J"⟩, 7) := ⟨⟨by decide +kernel, by decide +kernel⟩, List.mem_of_getElem? (i := 7) (by decide +kernel), List.mem_of_getElem? (i := 98) (by decide +kernel), List.mem_of_getElem? (i := 99) (by decide +kernel)⟩
theorem lw_p10 : lw_okq (⟨"TenMachine", "storeSelf", "(J)I"⟩, 7) := ⟨⟨by decide +kernel, by decide +kernel⟩, List.mem_of_getElem? (i := 7) (by decide +kernel), List.mem_of_getElem? (i := 111) (by decide +kernel), List.mem_of_getElem? (i := 112) (by decide +kernel)⟩
theorem lw_p11 : lw_okq (⟨"TenMachine", "result", "(J)J"⟩, 7) := ⟨⟨by decide +kernel, by decide +kernel⟩, List.mem_of_getElem? (i := 7) (by decide +kernel), List.mem_of_getElem? (i := 115) (by decide +kernel), List.mem_of_getElem? (i := 116) (by decide +kernel)⟩
theorem lw_p12 : lw_okq (⟨"TenMachine", "calculate", "()I"⟩, 7) := ⟨⟨by decide +kernel, by decide +kernel⟩, List.mem_of_getElem? (i := 7) (by decide +kernel), List.mem_of_getElem? (i := 119) (by decide +kernel), List.mem_of_getElem? (i := 120) (by decide +kernel)⟩
theorem lw_p13 : lw_okq (⟨"TenMachine", "storeBoth", "(J)I"⟩, 7) := ⟨⟨by decide +kernel, by decide +kernel⟩, List.mem_of_getElem? (i := 7) (by decide +kernel), List.mem_of_getElem? (i := 123) (by decide +kernel), List.mem_of_getElem? (i := 124) (by decide +kernel)⟩
theorem lw_p14 : lw_okq (⟨"TenMachine", "product", "(JJ)J"⟩, 7) := ⟨⟨by decide +kernel, by decide +kernel⟩, List.mem_of_getElem? (i := 7) (by decide +kernel), List.mem_of_getElem? (i := 127) (by decide +kernel), List.mem_of_getElem? (i := 128) (by decide +kernel)⟩
theorem lw_p15 : lw_okq (⟨"TenMachine", "divide", "()I"⟩, 7) := ⟨⟨by decide +kernel, by decide +kernel⟩, List.mem_of_getElem? (i := 7) (by decide +kernel), List.mem_of_getElem? (i := 135) (by decide +kernel), List.mem_of_getElem? (i := 136) (by decide +kernel)⟩
def lw_privs_1 : List (MethodName × Nat) := [(⟨"TenMachine", "step", "()I"⟩, 7), (⟨"TenMachine", "fetch", "(I)Z"⟩, 7), (⟨"TenMachine", "address", "(J)I"⟩, 7), (⟨"TenMachine", "perform", "()I"⟩, 7), (⟨"TenMachine", "performTwoHundreds", "()I"⟩, 7), (⟨"TenMachine", "family", "()I"⟩, 7), (⟨"TenMachine", "move", "()I"⟩, 7), (⟨"TenMachine", "lacksOperand", "()Z"⟩, 7), (⟨"TenMachine", "mode", "()I"⟩, 7), (⟨"TenMachine", "operand", "()J"⟩, 7), (⟨"TenMachine", "storeSelf", "(J)I"⟩, 7), (⟨"TenMachine", "result", "(J)J"⟩, 7), (⟨"TenMachine", "calculate", "()I"⟩, 7), (⟨"TenMachine", "storeBoth", "(J)I"⟩, 7), (⟨"TenMachine", "product", "(JJ)J"⟩, 7), (⟨"TenMachine", "divide", "()I"⟩, 7)]
theorem lw_r1 : ∀ q ∈ lw_privs_1, lw_okq q := List.forall_mem_cons.mpr ⟨lw_p0, List.forall_mem_cons.mpr ⟨lw_p1, List.forall_mem_cons.mpr ⟨lw_p2, List.forall_mem_cons.mpr ⟨lw_p3, List.forall_mem_cons.mpr ⟨lw_p4, List.forall_mem_cons.mpr ⟨lw_p5, List.forall_mem_cons.mpr ⟨lw_p6, List.forall_mem_cons.mpr ⟨lw_p7, List.forall_mem_cons.mpr ⟨lw_p8, List.forall_mem_cons.mpr ⟨lw_p9, List.forall_mem_cons.mpr ⟨lw_p10, List.forall_mem_cons.mpr ⟨lw_p11, List.forall_mem_cons.mpr ⟨lw_p12, List.forall_mem_cons.mpr ⟨lw_p13, List.forall_mem_cons.mpr ⟨lw_p14, List.forall_mem_cons.mpr ⟨lw_p15, fun _ h => absurd h List.not_mem_nil⟩⟩⟩⟩⟩⟩⟩⟩⟩⟩⟩⟩⟩⟩⟩⟩
theorem lw_p16 : lw_okq (⟨"TenMachine", "acAfter", "()I"⟩, 7) := ⟨⟨by decide +kernel, by decide +kernel⟩, List.mem_of_getElem? (i := 7) (by decide +kernel), List.mem_of_getElem? (i := 141) (by decide +kernel), List.mem_of_getElem? (i := 142) (by decide +kernel)⟩
theorem lw_p17 : lw_okq (⟨"TenMachine", "shiftOrFindFirstOne", "()I"⟩, 7) := ⟨⟨by decide +kernel, by decide +kernel⟩, List.mem_of_getElem? (i := 7) (by decide +kernel), List.mem_of_getElem? (i := 145) (by decide +kernel), List.mem_of_getElem? (i := 146) (by decide +kernel)⟩
theorem lw_p18 : lw_okq (⟨"TenMachine", "places", "()I"⟩, 7) := ⟨⟨by decide +kernel, by decide +kernel⟩, List.mem_of_getElem? (i := 7) (by decide +kernel), List.mem_of_getElem? (i := 149) (by decide +kernel), List.mem_of_getElem? (i := 150) (by decide +kernel)⟩
theorem lw_p19 : lw_okq (⟨"TenMachine", "shiftedWithSign", "(JI)J"⟩, 7) := ⟨⟨by decide +kernel, by decide +kernel⟩, List.mem_of_getElem? (i := 7) (by decide +kernel), List.mem_of_getElem? (i := 154) (by decide +kernel), List.mem_of_getElem? (i := 155) (by decide +kernel)⟩
theorem lw_p20 : lw_okq (⟨"TenMachine", "findFirstOne", "()I"⟩, 7) := ⟨⟨by decide +kernel, by decide +kernel⟩, List.mem_of_getElem? (i := 7) (by decide +kernel), List.mem_of_getElem? (i := 172) (by decide +kernel), List.mem_of_getElem? (i := 173) (by decide +kernel)⟩
theorem lw_p21 : lw_okq (⟨"TenMachine", "jumpIf", "(Z)I"⟩, 7) := ⟨⟨by decide +kernel, by decide +kernel⟩, List.mem_of_getElem? (i := 7) (by decide +kernel), List.mem_of_getElem? (i := 183) (by decide +kernel), List.mem_of_getElem? (i := 184) (by decide +kernel)⟩
theorem lw_p22 : lw_okq (⟨"TenMachine", "useStack", "()I"⟩, 7) := ⟨⟨by decide +kernel, by decide +kernel⟩, List.mem_of_getElem? (i := 7) (by decide +kernel), List.mem_of_getElem? (i := 187) (by decide +kernel), List.mem_of_getElem? (i := 188) (by decide +kernel)⟩
theorem lw_p23 : lw_okq (⟨"TenMachine", "push", "(J)Z"⟩, 7) := ⟨⟨by decide +kernel, by decide +kernel⟩, List.mem_of_getElem? (i := 7) (by decide +kernel), List.mem_of_getElem? (i := 191) (by decide +kernel), List.mem_of_getElem? (i := 192) (by decide +kernel)⟩
theorem lw_p24 : lw_okq (⟨"TenMachine", "pop", "()I"⟩, 7) := ⟨⟨by decide +kernel, by decide +kernel⟩, List.mem_of_getElem? (i := 7) (by decide +kernel), List.mem_of_getElem? (i := 198) (by decide +kernel), List.mem_of_getElem? (i := 199) (by decide +kernel)⟩
theorem lw_p25 : lw_okq (⟨"TenMachine", "popToPc", "()I"⟩, 7) := ⟨⟨by decide +kernel, by decide +kernel⟩, List.mem_of_getElem? (i := 7) (by decide +kernel), List.mem_of_getElem? (i := 202) (by decide +kernel), List.mem_of_getElem? (i := 203) (by decide +kernel)⟩
theorem lw_p26 : lw_okq (⟨"TenMachine", "performSingle", "()I"⟩, 7) := ⟨⟨by decide +kernel, by decide +kernel⟩, List.mem_of_getElem? (i := 7) (by decide +kernel), List.mem_of_getElem? (i := 206) (by decide +kernel), List.mem_of_getElem? (i := 207) (by decide +kernel)⟩
theorem lw_p27 : lw_okq (⟨"TenMachine", "exchange", "()I"⟩, 7) := ⟨⟨by decide +kernel, by decide +kernel⟩, List.mem_of_getElem? (i := 7) (by decide +kernel), List.mem_of_getElem? (i := 210) (by decide +kernel), List.mem_of_getElem? (i := 211) (by decide +kernel)⟩
theorem lw_p28 : lw_okq (⟨"TenMachine", "transferBlock", "()I"⟩, 7) := ⟨⟨by decide +kernel, by decide +kernel⟩, List.mem_of_getElem? (i := 7) (by decide +kernel), List.mem_of_getElem? (i := 214) (by decide +kernel), List.mem_of_getElem? (i := 215) (by decide +kernel)⟩
theorem lw_p29 : lw_okq (⟨"TenMachine", "countBothHalves", "(Z)I"⟩, 7) := ⟨⟨by decide +kernel, by decide +kernel⟩, List.mem_of_getElem? (i := 7) (by decide +kernel), List.mem_of_getElem? (i := 221) (by decide +kernel), List.mem_of_getElem? (i := 222) (by decide +kernel)⟩
theorem lw_p30 : lw_okq (⟨"TenMachine", "jumpOnOverflow", "()I"⟩, 7) := ⟨⟨by decide +kernel, by decide +kernel⟩, List.mem_of_getElem? (i := 7) (by decide +kernel), List.mem_of_getElem? (i := 225) (by decide +kernel), List.mem_of_getElem? (i := 226) (by decide +kernel)⟩
theorem lw_p31 : lw_okq (⟨"TenMachine", "callStoringAtE", "()I"⟩, 7) := ⟨⟨by decide +kernel, by decide +kernel⟩, List.mem_of_getElem? (i := 7) (by decide +kernel), List.mem_of_getElem? (i := 229) (by decide +kernel), List.mem_of_getElem? (i := 230) (by decide +kernel)⟩
def lw_privs_2 : List (MethodName × Nat) := [(⟨"TenMachine", "acAfter", "()I"⟩, 7), (⟨"TenMachine", "shiftOrFindFirstOne", "()I"⟩, 7), (⟨"TenMachine", "places", "()I"⟩, 7), (⟨"TenMachine", "shiftedWithSign", "(JI)J"⟩, 7), (⟨"TenMachine", "findFirstOne", "()I"⟩, 7), (⟨"TenMachine", "jumpIf", "(Z)I"⟩, 7), (⟨"TenMachine", "useStack", "()I"⟩, 7), (⟨"TenMachine", "push", "(J)Z"⟩, 7), (⟨"TenMachine", "pop", "()I"⟩, 7), (⟨"TenMachine", "popToPc", "()I"⟩, 7), (⟨"TenMachine", "performSingle", "()I"⟩, 7), (⟨"TenMachine", "exchange", "()I"⟩, 7), (⟨"TenMachine", "transferBlock", "()I"⟩, 7), (⟨"TenMachine", "countBothHalves", "(Z)I"⟩, 7), (⟨"TenMachine", "jumpOnOverflow", "()I"⟩, 7), (⟨"TenMachine", "callStoringAtE", "()I"⟩, 7)]
theorem lw_r2 : ∀ q ∈ lw_privs_2, lw_okq q := List.forall_mem_cons.mpr ⟨lw_p16, List.forall_mem_cons.mpr ⟨lw_p17, List.forall_mem_cons.mpr ⟨lw_p18, List.forall_mem_cons.mpr ⟨lw_p19, List.forall_mem_cons.mpr ⟨lw_p20, List.forall_mem_cons.mpr ⟨lw_p21, List.forall_mem_cons.mpr ⟨lw_p22, List.forall_mem_cons.mpr ⟨lw_p23, List.forall_mem_cons.mpr ⟨lw_p24, List.forall_mem_cons.mpr ⟨lw_p25, List.forall_mem_cons.mpr ⟨lw_p26, List.forall_mem_cons.mpr ⟨lw_p27, List.forall_mem_cons.mpr ⟨lw_p28, List.forall_mem_cons.mpr ⟨lw_p29, List.forall_mem_cons.mpr ⟨lw_p30, List.forall_mem_cons.mpr ⟨lw_p31, fun _ h => absurd h List.not_mem_nil⟩⟩⟩⟩⟩⟩⟩⟩⟩⟩⟩⟩⟩⟩⟩⟩
theorem lw_p32 : lw_okq (⟨"TenMachine", "compare", "()I"⟩, 7) := ⟨⟨by decide +kernel, by decide +kernel⟩, List.mem_of_getElem? (i := 7) (by decide +kernel), List.mem_of_getElem? (i := 233) (by decide +kernel), List.mem_of_getElem? (i := 234) (by decide +kernel)⟩
theorem lw_p33 : lw_okq (⟨"TenMachine", "holds", "(JJ)Z"⟩, 7) := ⟨⟨by decide +kernel, by decide +kernel⟩, List.mem_of_getElem? (i := 7) (by decide +kernel), List.mem_of_getElem? (i := 237) (by decide +kernel), List.mem_of_getElem? (i := 238) (by decide +kernel)⟩
theorem lw_p34 : lw_okq (⟨"TenMachine", "skipIf", "(Z)I"⟩, 7) := ⟨⟨by decide +kernel, by decide +kernel⟩, List.mem_of_getElem? (i := 7) (by decide +kernel), List.mem_of_getElem? (i := 241) (by decide +kernel), List.mem_of_getElem? (i := 242) (by decide +kernel)⟩
theorem lw_p35 : lw_okq (⟨"TenMachine", "skipOnWord", "(J)I"⟩, 7) := ⟨⟨by decide +kernel, by decide +kernel⟩, List.mem_of_getElem? (i := 7) (by decide +kernel), List.mem_of_getElem? (i := 245) (by decide +kernel), List.mem_of_getElem? (i := 246) (by decide +kernel)⟩
theorem lw_p36 : lw_okq (⟨"TenMachine", "countAc", "(I)I"⟩, 7) := ⟨⟨by decide +kernel, by decide +kernel⟩, List.mem_of_getElem? (i := 7) (by decide +kernel), List.mem_of_getElem? (i := 249) (by decide +kernel), List.mem_of_getElem? (i := 250) (by decide +kernel)⟩
theorem lw_p37 : lw_okq (⟨"TenMachine", "countWord", "(I)I"⟩, 7) := ⟨⟨by decide +kernel, by decide +kernel⟩, List.mem_of_getElem? (i := 7) (by decide +kernel), List.mem_of_getElem? (i := 253) (by decide +kernel), List.mem_of_getElem? (i := 254) (by decide +kernel)⟩
theorem lw_p38 : lw_okq (⟨"TenMachine", "combineBits", "()I"⟩, 7) := ⟨⟨by decide +kernel, by decide +kernel⟩, List.mem_of_getElem? (i := 7) (by decide +kernel), List.mem_of_getElem? (i := 257) (by decide +kernel), List.mem_of_getElem? (i := 258) (by decide +kernel)⟩
theorem lw_p39 : lw_okq (⟨"TenMachine", "moveHalf", "()I"⟩, 7) := ⟨⟨by decide +kernel, by decide +kernel⟩, List.mem_of_getElem? (i := 7) (by decide +kernel), List.mem_of_getElem? (i := 264) (by decide +kernel), List.mem_of_getElem? (i := 265) (by decide +kernel)⟩
theorem lw_p40 : lw_okq (⟨"TenMachine", "withHalfMoved", "(JJ)J"⟩, 7) := ⟨⟨by decide +kernel, by decide +kernel⟩, List.mem_of_getElem? (i := 7) (by decide +kernel), List.mem_of_getElem? (i := 268) (by decide +kernel), List.mem_of_getElem? (i := 269) (by decide +kernel)⟩
theorem lw_p41 : lw_okq (⟨"TenMachine", "otherHalf", "(II)I"⟩, 7) := ⟨⟨by decide +kernel, by decide +kernel⟩, List.mem_of_getElem? (i := 7) (by decide +kernel), List.mem_of_getElem? (i := 272) (by decide +kernel), List.mem_of_getElem? (i := 273) (by decide +kernel)⟩
theorem lw_p42 : lw_okq (⟨"TenMachine", "testBits", "()I"⟩, 7) := ⟨⟨by decide +kernel, by decide +kernel⟩, List.mem_of_getElem? (i := 7) (by decide +kernel), List.mem_of_getElem? (i := 276) (by decide +kernel), List.mem_of_getElem? (i := 277) (by decide +kernel)⟩
theorem lw_p43 : lw_okq (⟨"TenMachine", "changed", "(JJ)J"⟩, 7) := ⟨⟨by decide +kernel, by decide +kernel⟩, List.mem_of_getElem? (i := 7) (by decide +kernel), List.mem_of_getElem? (i := 280) (by decide +kernel), List.mem_of_getElem? (i := 281) (by decide +kernel)⟩
theorem lw_p44 : lw_okq (⟨"TenMachineModel", "instruction", "()I"⟩, 5) := ⟨⟨by decide +kernel, by decide +kernel⟩, List.mem_of_getElem? (i := 299) (by decide +kernel), List.mem_of_getElem? (i := 297) (by decide +kernel), List.mem_of_getElem? (i := 298) (by decide +kernel)⟩
theorem lw_p45 : lw_okq (⟨"TenMachineModel", "address", "(J)I"⟩, 5) := ⟨⟨by decide +kernel, by decide +kernel⟩, List.mem_of_getElem? (i := 299) (by decide +kernel), List.mem_of_getElem? (i := 302) (by decide +kernel), List.mem_of_getElem? (i := 303) (by decide +kernel)⟩
theorem lw_p46 : lw_okq (⟨"TenMachineModel", "perform", "(III)I"⟩, 5) := ⟨⟨by decide +kernel, by decide +kernel⟩, List.mem_of_getElem? (i := 299) (by decide +kernel), List.mem_of_getElem? (i := 310) (by decide +kernel), List.mem_of_getElem? (i := 311) (by decide +kernel)⟩
theorem lw_p47 : lw_okq (⟨"TenMachineModel", "move", "(IIII)I"⟩, 5) := ⟨⟨by decide +kernel, by decide +kernel⟩, List.mem_of_getElem? (i := 299) (by decide +kernel), List.mem_of_getElem? (i := 316) (by decide +kernel), List.mem_of_getElem? (i := 317) (by decide +kernel)⟩
def lw_privs_3 : List (MethodName × Nat) := [(⟨"TenMachine", "compare", "()I"⟩, 7), (⟨"TenMachine", "holds", "(JJ)Z"⟩, 7), (⟨"TenMachine", "skipIf", "(Z)I"⟩, 7), (⟨"TenMachine", "skipOnWord", "(J)I"⟩, 7), (⟨"TenMachine", "countAc", "(I)I"⟩, 7), (⟨"TenMachine", "countWord", "(I)I"⟩, 7), (⟨"TenMachine", "combineBits", "()I"⟩, 7), (⟨"TenMachine", "moveHalf", "()I"⟩, 7), (⟨"TenMachine", "withHalfMoved", "(JJ)J"⟩, 7), (⟨"TenMachine", "otherHalf", "(II)I"⟩, 7), (⟨"TenMachine", "testBits", "()I"⟩, 7), (⟨"TenMachine", "changed", "(JJ)J"⟩, 7), (⟨"TenMachineModel", "instruction", "()I"⟩, 5), (⟨"TenMachineModel", "address", "(J)I"⟩, 5), (⟨"TenMachineModel", "perform", "(III)I"⟩, 5), (⟨"TenMachineModel", "move", "(IIII)I"⟩, 5)]
theorem lw_r3 : ∀ q ∈ lw_privs_3, lw_okq q := List.forall_mem_cons.mpr ⟨lw_p32, List.forall_mem_cons.mpr ⟨lw_p33, List.forall_mem_cons.mpr ⟨lw_p34, List.forall_mem_cons.mpr ⟨lw_p35, List.forall_mem_cons.mpr ⟨lw_p36, List.forall_mem_cons.mpr ⟨lw_p37, List.forall_mem_cons.mpr ⟨lw_p38, List.forall_mem_cons.mpr ⟨lw_p39, List.forall_mem_cons.mpr ⟨lw_p40, List.forall_mem_cons.mpr ⟨lw_p41, List.forall_mem_cons.mpr ⟨lw_p42, List.forall_mem_cons.mpr ⟨lw_p43, List.forall_mem_cons.mpr ⟨lw_p44, List.forall_mem_cons.mpr ⟨lw_p45, List.forall_mem_cons.mpr ⟨lw_p46, List.forall_mem_cons.mpr ⟨lw_p47, fun _ h => absurd h List.not_mem_nil⟩⟩⟩⟩⟩⟩⟩⟩⟩⟩⟩⟩⟩⟩⟩⟩
theorem lw_p48 : lw_okq (⟨"TenMachineModel", "turned", "(IJ)J"⟩, 5) := ⟨⟨by decide +kernel, by decide +kernel⟩, List.mem_of_getElem? (i := 299) (by decide +kernel), List.mem_of_getElem? (i := 323) (by decide +kernel), List.mem_of_getElem? (i := 324) (by decide +kernel)⟩
theorem lw_p49 : lw_okq (⟨"TenMachineModel", "reckon", "(IIII)I"⟩, 5) := ⟨⟨by decide +kernel, by decide +kernel⟩, List.mem_of_getElem? (i := 299) (by decide +kernel), List.mem_of_getElem? (i := 347) (by decide +kernel), List.mem_of_getElem? (i := 348) (by decide +kernel)⟩
theorem lw_p50 : lw_okq (⟨"TenMachineModel", "give", "(IIIJ)V"⟩, 5) := ⟨⟨by decide +kernel, by decide +kernel⟩, List.mem_of_getElem? (i := 299) (by decide +kernel), List.mem_of_getElem? (i := 352) (by decide +kernel), List.mem_of_getElem? (i := 353) (by decide +kernel)⟩
theorem lw_p51 : lw_okq (⟨"TenMachineModel", "bits", "(IIII)I"⟩, 5) := ⟨⟨by decide +kernel, by decide +kernel⟩, List.mem_of_getElem? (i := 299) (by decide +kernel), List.mem_of_getElem? (i := 366) (by decide +kernel), List.mem_of_getElem? (i := 367) (by decide +kernel)⟩
theorem lw_p52 : lw_okq (⟨"TenMachineModel", "half", "(III)I"⟩, 5) := ⟨⟨by decide +kernel, by decide +kernel⟩, List.mem_of_getElem? (i := 299) (by decide +kernel), List.mem_of_getElem? (i := 372) (by decide +kernel), List.mem_of_getElem? (i := 373) (by decide +kernel)⟩
theorem lw_p53 : lw_okq (⟨"TenMachineModel", "test", "(III)I"⟩, 5) := ⟨⟨by decide +kernel, by decide +kernel⟩, List.mem_of_getElem? (i := 299) (by decide +kernel), List.mem_of_getElem? (i := 378) (by decide +kernel), List.mem_of_getElem? (i := 379) (by decide +kernel)⟩
theorem lw_p54 : lw_okq (⟨"TenMachineModel", "compare", "(IIII)I"⟩, 5) := ⟨⟨by decide +kernel, by decide +kernel⟩, List.mem_of_getElem? (i := 299) (by decide +kernel), List.mem_of_getElem? (i := 384) (by decide +kernel), List.mem_of_getElem? (i := 385) (by decide +kernel)⟩
theorem lw_p55 : lw_okq (⟨"TenMachineModel", "next", "(JI)J"⟩, 5) := ⟨⟨by decide +kernel, by decide +kernel⟩, List.mem_of_getElem? (i := 299) (by decide +kernel), List.mem_of_getElem? (i := 391) (by decide +kernel), List.mem_of_getElem? (i := 392) (by decide +kernel)⟩
theorem lw_p56 : lw_okq (⟨"TenMachineModel", "shift", "(III)I"⟩, 5) := ⟨⟨by decide +kernel, by decide +kernel⟩, List.mem_of_getElem? (i := 299) (by decide +kernel), List.mem_of_getElem? (i := 397) (by decide +kernel), List.mem_of_getElem? (i := 398) (by decide +kernel)⟩
theorem lw_p57 : lw_okq (⟨"TenMachineModel", "odd", "(III)I"⟩, 5) := ⟨⟨by decide +kernel, by decide +kernel⟩, List.mem_of_getElem? (i := 299) (by decide +kernel), List.mem_of_getElem? (i := 406) (by decide +kernel), List.mem_of_getElem? (i := 407) (by decide +kernel)⟩
theorem lw_p58 : lw_okq (⟨"TenMachineModel", "calls", "(III)I"⟩, 5) := ⟨⟨by decide +kernel, by decide +kernel⟩, List.mem_of_getElem? (i := 299) (by decide +kernel), List.mem_of_getElem? (i := 416) (by decide +kernel), List.mem_of_getElem? (i := 417) (by decide +kernel)⟩
def lw_privs_4 : List (MethodName × Nat) := [(⟨"TenMachineModel", "turned", "(IJ)J"⟩, 5), (⟨"TenMachineModel", "reckon", "(IIII)I"⟩, 5), (⟨"TenMachineModel", "give", "(IIIJ)V"⟩, 5), (⟨"TenMachineModel", "bits", "(IIII)I"⟩, 5), (⟨"TenMachineModel", "half", "(III)I"⟩, 5), (⟨"TenMachineModel", "test", "(III)I"⟩, 5), (⟨"TenMachineModel", "compare", "(IIII)I"⟩, 5), (⟨"TenMachineModel", "next", "(JI)J"⟩, 5), (⟨"TenMachineModel", "shift", "(III)I"⟩, 5), (⟨"TenMachineModel", "odd", "(III)I"⟩, 5), (⟨"TenMachineModel", "calls", "(III)I"⟩, 5)]
theorem lw_r4 : ∀ q ∈ lw_privs_4, lw_okq q := List.forall_mem_cons.mpr ⟨lw_p48, List.forall_mem_cons.mpr ⟨lw_p49, List.forall_mem_cons.mpr ⟨lw_p50, List.forall_mem_cons.mpr ⟨lw_p51, List.forall_mem_cons.mpr ⟨lw_p52, List.forall_mem_cons.mpr ⟨lw_p53, List.forall_mem_cons.mpr ⟨lw_p54, List.forall_mem_cons.mpr ⟨lw_p55, List.forall_mem_cons.mpr ⟨lw_p56, List.forall_mem_cons.mpr ⟨lw_p57, List.forall_mem_cons.mpr ⟨lw_p58, fun _ h => absurd h List.not_mem_nil⟩⟩⟩⟩⟩⟩⟩⟩⟩⟩⟩
def lw_privs : List (MethodName × Nat) := lw_privs_1 ++ (lw_privs_2 ++ (lw_privs_3 ++ (lw_privs_4)))
def lw_tbl : List Cond := k2_sels lw_privs ++ tables_1
theorem lw_privs_ok : ∀ q ∈ lw_privs, lw_okq q := by
  show ∀ q ∈ lw_privs_1 ++ (lw_privs_2 ++ (lw_privs_3 ++ (lw_privs_4))), lw_okq q
  exact List.forall_mem_append.mpr ⟨lw_r1, List.forall_mem_append.mpr ⟨lw_r2, List.forall_mem_append.mpr ⟨lw_r3, lw_r4⟩⟩⟩

def R_x : String := "TenMachine"
def R_z : String := "TenMachineModel"
def R_jm : String := "java/lang/Math"
def R_jl : String := "java/lang/Long"
def R_ji : String := "java/lang/Integer"
def F_x : u_T := fun k => match k with
  | 0 => ("TenMachine", "word", "[J", true)
  | 1 => ("TenMachine", "pc", "I", false)
  | 2 => ("TenMachine", "overflow", "Z", false)
  | 3 => ("TenMachine", "doneByLatestGo", "I", false)
  | 4 => ("TenMachine", "op", "I", false)
  | 5 => ("TenMachine", "ac", "I", false)
  | _ => ("TenMachine", "e", "I", false)
def ty_x : Nat → FieldType := fun k => match k with
  | 0 => .array .long
  | 1 => .int
  | 2 => .boolean
  | 3 => .int
  | 4 => .int
  | 5 => .int
  | _ => .int
theorem nm_x : ∀ a, a < 7 → ∀ b, b < 7 → a ≠ b → (F_x a).2.1 ≠ (F_x b).2.1 := by decide +kernel
theorem tyok_x : ∀ k, k < 7 → parseFieldDescriptor (F_x k).2.2.1 = some (ty_x k) := by decide +kernel

def F_z : u_T := fun k => match k with
  | 0 => ("TenMachineModel", "words", "[J", true)
  | 1 => ("TenMachineModel", "counter", "I", false)
  | 2 => ("TenMachineModel", "behind", "I", false)
  | 3 => ("TenMachineModel", "done", "I", false)
  | _ => ("TenMachineModel", "overflow", "Z", false)
def ty_z : Nat → FieldType := fun k => match k with
  | 0 => .array .long
  | 1 => .int
  | 2 => .int
  | 3 => .int
  | _ => .boolean
theorem nm_z : ∀ a, a < 5 → ∀ b, b < 5 → a ≠ b → (F_z a).2.1 ≠ (F_z b).2.1 := by decide +kernel
theorem tyok_z : ∀ k, k < 5 → parseFieldDescriptor (F_z k).2.2.1 = some (ty_z k) := by decide +kernel

abbrev clT : List vw_C := [(R_x, F_x, 7), (R_z, F_z, 5)]
abbrev cx_init : ByteArray := prog_1_method_1_code
def yx_init : MethodName := ⟨R_x, "<init>", "()V"⟩
abbrev cz_init : ByteArray := prog_3_method_27_code
def yz_init : MethodName := ⟨R_z, "<init>", "()V"⟩
abbrev cx_put : ByteArray := prog_1_method_2_code
def yx_put : MethodName := ⟨R_x, "put", "(IJ)I"⟩
abbrev cx_get : ByteArray := prog_1_method_3_code
def yx_get : MethodName := ⟨R_x, "get", "(I)J"⟩
abbrev cx_go : ByteArray := prog_1_method_4_code
def yx_go : MethodName := ⟨R_x, "go", "(IIZ)I"⟩
abbrev cx_look : ByteArray := prog_1_method_5_code
def yx_look : MethodName := ⟨R_x, "look", "(I)I"⟩
abbrev cx_step : ByteArray := prog_1_method_6_code
def yx_step : MethodName := ⟨R_x, "step", "()I"⟩
abbrev cx_fetch : ByteArray := prog_1_method_7_code
def yx_fetch : MethodName := ⟨R_x, "fetch", "(I)Z"⟩
abbrev cx_address : ByteArray := prog_1_method_8_code
def yx_address : MethodName := ⟨R_x, "address", "(J)I"⟩
abbrev cx_perform : ByteArray := prog_1_method_9_code
def yx_perform : MethodName := ⟨R_x, "perform", "()I"⟩
abbrev cx_performTwoHundreds : ByteArray := prog_1_method_10_code
def yx_performTwoHundreds : MethodName := ⟨R_x, "performTwoHundreds", "()I"⟩
abbrev cx_performSingle : ByteArray := prog_1_method_11_code
def yx_performSingle : MethodName := ⟨R_x, "performSingle", "()I"⟩
abbrev cx_family : ByteArray := prog_1_method_12_code
def yx_family : MethodName := ⟨R_x, "family", "()I"⟩
abbrev cx_mode : ByteArray := prog_1_method_13_code
def yx_mode : MethodName := ⟨R_x, "mode", "()I"⟩
abbrev cx_lacksOperand : ByteArray := prog_1_method_14_code
def yx_lacksOperand : MethodName := ⟨R_x, "lacksOperand", "()Z"⟩
abbrev cx_operand : ByteArray := prog_1_method_15_code
def yx_operand : MethodName := ⟨R_x, "operand", "()J"⟩
abbrev cx_storeBoth : ByteArray := prog_1_method_16_code
def yx_storeBoth : MethodName := ⟨R_x, "storeBoth", "(J)I"⟩
abbrev cx_storeSelf : ByteArray := prog_1_method_17_code
def yx_storeSelf : MethodName := ⟨R_x, "storeSelf", "(J)I"⟩
abbrev cx_move : ByteArray := prog_1_method_18_code
def yx_move : MethodName := ⟨R_x, "move", "()I"⟩
abbrev cx_calculate : ByteArray := prog_1_method_19_code
def yx_calculate : MethodName := ⟨R_x, "calculate", "()I"⟩
abbrev cx_product : ByteArray := prog_1_method_20_code
def yx_product : MethodName := ⟨R_x, "product", "(JJ)J"⟩
abbrev cx_divide : ByteArray := prog_1_method_21_code
def yx_divide : MethodName := ⟨R_x, "divide", "()I"⟩
abbrev cx_acAfter : ByteArray := prog_1_method_22_code
def yx_acAfter : MethodName := ⟨R_x, "acAfter", "()I"⟩
abbrev cx_result : ByteArray := prog_1_method_23_code
def yx_result : MethodName := ⟨R_x, "result", "(J)J"⟩
abbrev cx_shiftOrFindFirstOne : ByteArray := prog_1_method_24_code
def yx_shiftOrFindFirstOne : MethodName := ⟨R_x, "shiftOrFindFirstOne", "()I"⟩
abbrev cx_places : ByteArray := prog_1_method_25_code
def yx_places : MethodName := ⟨R_x, "places", "()I"⟩
abbrev cx_shiftedWithSign : ByteArray := prog_1_method_26_code
def yx_shiftedWithSign : MethodName := ⟨R_x, "shiftedWithSign", "(JI)J"⟩
abbrev cx_turnedRound : ByteArray := prog_1_method_27_code
def yx_turnedRound : MethodName := ⟨R_x, "turnedRound", "(JI)J"⟩
abbrev cx_shiftedWithoutSign : ByteArray := prog_1_method_28_code
def yx_shiftedWithoutSign : MethodName := ⟨R_x, "shiftedWithoutSign", "(JI)J"⟩
abbrev cx_findFirstOne : ByteArray := prog_1_method_29_code
def yx_findFirstOne : MethodName := ⟨R_x, "findFirstOne", "()I"⟩
abbrev cx_exchange : ByteArray := prog_1_method_30_code
def yx_exchange : MethodName := ⟨R_x, "exchange", "()I"⟩
abbrev cx_transferBlock : ByteArray := prog_1_method_31_code
def yx_transferBlock : MethodName := ⟨R_x, "transferBlock", "()I"⟩
abbrev cx_countBothHalves : ByteArray := prog_1_method_32_code
def yx_countBothHalves : MethodName := ⟨R_x, "countBothHalves", "(Z)I"⟩
abbrev cx_jumpOnOverflow : ByteArray := prog_1_method_33_code
def yx_jumpOnOverflow : MethodName := ⟨R_x, "jumpOnOverflow", "()I"⟩
abbrev cx_callStoringAtE : ByteArray := prog_1_method_34_code
def yx_callStoringAtE : MethodName := ⟨R_x, "callStoringAtE", "()I"⟩
abbrev cx_useStack : ByteArray := prog_1_method_35_code
def yx_useStack : MethodName := ⟨R_x, "useStack", "()I"⟩
abbrev cx_push : ByteArray := prog_1_method_36_code
def yx_push : MethodName := ⟨R_x, "push", "(J)Z"⟩
abbrev cx_pop : ByteArray := prog_1_method_37_code
def yx_pop : MethodName := ⟨R_x, "pop", "()I"⟩
abbrev cx_popToPc : ByteArray := prog_1_method_38_code
def yx_popToPc : MethodName := ⟨R_x, "popToPc", "()I"⟩
abbrev cx_compare : ByteArray := prog_1_method_39_code
def yx_compare : MethodName := ⟨R_x, "compare", "()I"⟩
abbrev cx_skipOnWord : ByteArray := prog_1_method_40_code
def yx_skipOnWord : MethodName := ⟨R_x, "skipOnWord", "(J)I"⟩
abbrev cx_countAc : ByteArray := prog_1_method_41_code
def yx_countAc : MethodName := ⟨R_x, "countAc", "(I)I"⟩
abbrev cx_countWord : ByteArray := prog_1_method_42_code
def yx_countWord : MethodName := ⟨R_x, "countWord", "(I)I"⟩
abbrev cx_holds : ByteArray := prog_1_method_43_code
def yx_holds : MethodName := ⟨R_x, "holds", "(JJ)Z"⟩
abbrev cx_skipIf : ByteArray := prog_1_method_44_code
def yx_skipIf : MethodName := ⟨R_x, "skipIf", "(Z)I"⟩
abbrev cx_jumpIf : ByteArray := prog_1_method_45_code
def yx_jumpIf : MethodName := ⟨R_x, "jumpIf", "(Z)I"⟩
abbrev cx_combineBits : ByteArray := prog_1_method_46_code
def yx_combineBits : MethodName := ⟨R_x, "combineBits", "()I"⟩
abbrev cx_combined : ByteArray := prog_1_method_47_code
def yx_combined : MethodName := ⟨R_x, "combined", "(IJJ)J"⟩
abbrev cx_testBits : ByteArray := prog_1_method_48_code
def yx_testBits : MethodName := ⟨R_x, "testBits", "()I"⟩
abbrev cx_changed : ByteArray := prog_1_method_49_code
def yx_changed : MethodName := ⟨R_x, "changed", "(JJ)J"⟩
abbrev cx_moveHalf : ByteArray := prog_1_method_50_code
def yx_moveHalf : MethodName := ⟨R_x, "moveHalf", "()I"⟩
abbrev cx_withHalfMoved : ByteArray := prog_1_method_51_code
def yx_withHalfMoved : MethodName := ⟨R_x, "withHalfMoved", "(JJ)J"⟩
abbrev cx_otherHalf : ByteArray := prog_1_method_52_code
def yx_otherHalf : MethodName := ⟨R_x, "otherHalf", "(II)I"⟩
abbrev cx_isThere : ByteArray := prog_1_method_53_code
def yx_isThere : MethodName := ⟨R_x, "isThere", "(I)Z"⟩
abbrev cx_signed : ByteArray := prog_1_method_54_code
def yx_signed : MethodName := ⟨R_x, "signed", "(J)J"⟩
abbrev cx_left : ByteArray := prog_1_method_55_code
def yx_left : MethodName := ⟨R_x, "left", "(J)I"⟩
abbrev cx_right : ByteArray := prog_1_method_56_code
def yx_right : MethodName := ⟨R_x, "right", "(J)I"⟩
abbrev cx_joined : ByteArray := prog_1_method_57_code
def yx_joined : MethodName := ⟨R_x, "joined", "(II)J"⟩
abbrev cx_swapped : ByteArray := prog_1_method_58_code
def yx_swapped : MethodName := ⟨R_x, "swapped", "(J)J"⟩
abbrev cx_bothHalvesMore : ByteArray := prog_1_method_59_code
def yx_bothHalvesMore : MethodName := ⟨R_x, "bothHalvesMore", "(JI)J"⟩
abbrev cz_in : ByteArray := prog_3_method_1_code
def yz_in : MethodName := ⟨R_z, "in", "(JJJ)Z"⟩
abbrev cz_fits : ByteArray := prog_3_method_2_code
def yz_fits : MethodName := ⟨R_z, "fits", "(J)Z"⟩
abbrev cz_signed : ByteArray := prog_3_method_3_code
def yz_signed : MethodName := ⟨R_z, "signed", "(J)J"⟩
abbrev cz_left : ByteArray := prog_3_method_4_code
def yz_left : MethodName := ⟨R_z, "left", "(J)I"⟩
abbrev cz_right : ByteArray := prog_3_method_5_code
def yz_right : MethodName := ⟨R_z, "right", "(J)I"⟩
abbrev cz_halves : ByteArray := prog_3_method_6_code
def yz_halves : MethodName := ⟨R_z, "halves", "(II)J"⟩
abbrev cz_opposite : ByteArray := prog_3_method_7_code
def yz_opposite : MethodName := ⟨R_z, "opposite", "(J)J"⟩
abbrev cz_go : ByteArray := prog_3_method_8_code
def yz_go : MethodName := ⟨R_z, "go", "(IIZ)I"⟩
abbrev cz_address : ByteArray := prog_3_method_9_code
def yz_address : MethodName := ⟨R_z, "address", "(J)I"⟩
abbrev cz_instruction : ByteArray := prog_3_method_10_code
def yz_instruction : MethodName := ⟨R_z, "instruction", "()I"⟩
abbrev cz_isGone : ByteArray := prog_3_method_11_code
def yz_isGone : MethodName := ⟨R_z, "isGone", "(I)Z"⟩
abbrev cz_perform : ByteArray := prog_3_method_12_code
def yz_perform : MethodName := ⟨R_z, "perform", "(III)I"⟩
abbrev cz_turned : ByteArray := prog_3_method_13_code
def yz_turned : MethodName := ⟨R_z, "turned", "(IJ)J"⟩
abbrev cz_move : ByteArray := prog_3_method_14_code
def yz_move : MethodName := ⟨R_z, "move", "(IIII)I"⟩
abbrev cz_give : ByteArray := prog_3_method_15_code
def yz_give : MethodName := ⟨R_z, "give", "(IIIJ)V"⟩
abbrev cz_reckon : ByteArray := prog_3_method_16_code
def yz_reckon : MethodName := ⟨R_z, "reckon", "(IIII)I"⟩
abbrev cz_bits : ByteArray := prog_3_method_17_code
def yz_bits : MethodName := ⟨R_z, "bits", "(IIII)I"⟩
abbrev cz_half : ByteArray := prog_3_method_18_code
def yz_half : MethodName := ⟨R_z, "half", "(III)I"⟩
abbrev cz_test : ByteArray := prog_3_method_19_code
def yz_test : MethodName := ⟨R_z, "test", "(III)I"⟩
abbrev cz_holds : ByteArray := prog_3_method_20_code
def yz_holds : MethodName := ⟨R_z, "holds", "(IJJ)Z"⟩
abbrev cz_next : ByteArray := prog_3_method_21_code
def yz_next : MethodName := ⟨R_z, "next", "(JI)J"⟩
abbrev cz_compare : ByteArray := prog_3_method_22_code
def yz_compare : MethodName := ⟨R_z, "compare", "(IIII)I"⟩
abbrev cz_shift : ByteArray := prog_3_method_23_code
def yz_shift : MethodName := ⟨R_z, "shift", "(III)I"⟩
abbrev cz_both : ByteArray := prog_3_method_24_code
def yz_both : MethodName := ⟨R_z, "both", "(JI)J"⟩
abbrev cz_odd : ByteArray := prog_3_method_25_code
def yz_odd : MethodName := ⟨R_z, "odd", "(III)I"⟩
abbrev cz_calls : ByteArray := prog_3_method_26_code
def yz_calls : MethodName := ⟨R_z, "calls", "(III)I"⟩
abbrev cz_put : ByteArray := prog_3_method_28_code
def yz_put : MethodName := ⟨R_z, "put", "(IJ)I"⟩
abbrev cz_get : ByteArray := prog_3_method_29_code
def yz_get : MethodName := ⟨R_z, "get", "(I)J"⟩
abbrev cz_look : ByteArray := prog_3_method_30_code
def yz_look : MethodName := ⟨R_z, "look", "(I)I"⟩
abbrev cjm_abs : ByteArray := prog_6_method_59_code
def yjm_abs : MethodName := ⟨R_jm, "abs", "(I)I"⟩
abbrev cjm_absJ : ByteArray := prog_6_method_61_code
def yjm_absJ : MethodName := ⟨R_jm, "abs", "(J)J"⟩
abbrev cjm_floorMod : ByteArray := prog_6_method_50_code
def yjm_floorMod : MethodName := ⟨R_jm, "floorMod", "(II)I"⟩
abbrev cjm_max : ByteArray := prog_6_method_65_code
def yjm_max : MethodName := ⟨R_jm, "max", "(II)I"⟩
abbrev cjm_min : ByteArray := prog_6_method_69_code
def yjm_min : MethodName := ⟨R_jm, "min", "(II)I"⟩
abbrev cjm_multiplyHigh : ByteArray := prog_6_method_45_code
def yjm_multiplyHigh : MethodName := ⟨R_jm, "multiplyHigh", "(JJ)J"⟩
abbrev cjl_numberOfLeadingZeros : ByteArray := prog_5_method_48_code
def yjl_numberOfLeadingZeros : MethodName := ⟨R_jl, "numberOfLeadingZeros", "(J)I"⟩
abbrev cji_numberOfLeadingZeros : ByteArray := prog_4_method_47_code
def yji_numberOfLeadingZeros : MethodName := ⟨R_ji, "numberOfLeadingZeros", "(I)I"⟩
