section
-- ===== PART A: goes FIRST, ahead of the names: the tables' words, and 'selects' of the private methods out of them =====
/-- a private method of a class that the tables say can be made, by its rows of tables_1 -/
def lw_okq (q : MethodName × Nat) : Prop := (q.1.cls ≠ "java/lang/invoke/MethodHandle" ∧ q.1.cls ≠ "java/lang/invoke/VarHandle") ∧ Cond.instantiable q.1.cls q.2 ∈ tables_1 ∧ Cond.privateMethod q.1 ∈ tables_1 ∧ Cond.instanceMethod q.1 ∈ tables_1
theorem lw_p0 : lw_okq (⟨"TrapMachine", "step", "()V"⟩, 9) := ⟨⟨by decide +kernel, by decide +kernel⟩, List.mem_of_getElem? (i := 11) (by decide +kernel), List.mem_of_getElem? (i := 85) (by decide +kernel), List.mem_of_getElem? (i := 86) (by decide +kernel)⟩
theorem lw_p1 : lw_okq (⟨"TrapMachine$Controls", "isAsked", "()Z"⟩, 1) := ⟨⟨by decide +kernel, by decide +kernel⟩, List.mem_of_getElem? (i := 19) (by decide +kernel), List.mem_of_getElem? (i := 89) (by decide +kernel), List.mem_of_getElem? (i := 90) (by decide +kernel)⟩
theorem lw_p2 : lw_okq (⟨"TrapMachine$Controls", "isEnabled", "()Z"⟩, 1) := ⟨⟨by decide +kernel, by decide +kernel⟩, List.mem_of_getElem? (i := 19) (by decide +kernel), List.mem_of_getElem? (i := 93) (by decide +kernel), List.mem_of_getElem? (i := 94) (by decide +kernel)⟩
theorem lw_p3 : lw_okq (⟨"TrapMachine", "raise", "(I)V"⟩, 9) := ⟨⟨by decide +kernel, by decide +kernel⟩, List.mem_of_getElem? (i := 11) (by decide +kernel), List.mem_of_getElem? (i := 97) (by decide +kernel), List.mem_of_getElem? (i := 98) (by decide +kernel)⟩
theorem lw_p4 : lw_okq (⟨"TrapMachine$Controls", "enter", "(II)V"⟩, 1) := ⟨⟨by decide +kernel, by decide +kernel⟩, List.mem_of_getElem? (i := 19) (by decide +kernel), List.mem_of_getElem? (i := 101) (by decide +kernel), List.mem_of_getElem? (i := 102) (by decide +kernel)⟩
theorem lw_p5 : lw_okq (⟨"TrapMachine$Controls", "setDirect", "()V"⟩, 1) := ⟨⟨by decide +kernel, by decide +kernel⟩, List.mem_of_getElem? (i := 19) (by decide +kernel), List.mem_of_getElem? (i := 105) (by decide +kernel), List.mem_of_getElem? (i := 106) (by decide +kernel)⟩
theorem lw_p6 : lw_okq (⟨"TrapMachine$Controls", "get", "(I)I"⟩, 1) := ⟨⟨by decide +kernel, by decide +kernel⟩, List.mem_of_getElem? (i := 19) (by decide +kernel), List.mem_of_getElem? (i := 109) (by decide +kernel), List.mem_of_getElem? (i := 110) (by decide +kernel)⟩
theorem lw_p7 : lw_okq (⟨"TrapMachine", "perform", "()V"⟩, 9) := ⟨⟨by decide +kernel, by decide +kernel⟩, List.mem_of_getElem? (i := 11) (by decide +kernel), List.mem_of_getElem? (i := 113) (by decide +kernel), List.mem_of_getElem? (i := 114) (by decide +kernel)⟩
theorem lw_p8 : lw_okq (⟨"TrapMachine", "find", "(II)I"⟩, 9) := ⟨⟨by decide +kernel, by decide +kernel⟩, List.mem_of_getElem? (i := 11) (by decide +kernel), List.mem_of_getElem? (i := 117) (by decide +kernel), List.mem_of_getElem? (i := 118) (by decide +kernel)⟩
theorem lw_p9 : lw_okq (⟨"TrapMachine$Controls", "isDirect", "()Z"⟩, 1) := ⟨⟨by decide +kernel, by decide +kernel⟩, List.mem_of_getElem? (i := 19) (by decide +kernel), List.mem_of_getElem? (i := 121) (by decide +kernel), List.mem_of_getElem? (i := 122) (by decide +kernel)⟩
theorem lw_p10 : lw_okq (⟨"TrapMachine$Controls", "isInWindow", "(I)Z"⟩, 1) := ⟨⟨by decide +kernel, by decide +kernel⟩, List.mem_of_getElem? (i := 19) (by decide +kernel), List.mem_of_getElem? (i := 125) (by decide +kernel), List.mem_of_getElem? (i := 126) (by decide +kernel)⟩
theorem lw_p11 : lw_okq (⟨"TrapMachine", "findMapped", "(II)I"⟩, 9) := ⟨⟨by decide +kernel, by decide +kernel⟩, List.mem_of_getElem? (i := 11) (by decide +kernel), List.mem_of_getElem? (i := 129) (by decide +kernel), List.mem_of_getElem? (i := 130) (by decide +kernel)⟩
theorem lw_p12 : lw_okq (⟨"TrapMachine$Buffer", "find", "(III)I"⟩, 1) := ⟨⟨by decide +kernel, by decide +kernel⟩, List.mem_of_getElem? (i := 30) (by decide +kernel), List.mem_of_getElem? (i := 133) (by decide +kernel), List.mem_of_getElem? (i := 134) (by decide +kernel)⟩
theorem lw_p13 : lw_okq (⟨"TrapMachine$Buffer", "get", "(II)I"⟩, 1) := ⟨⟨by decide +kernel, by decide +kernel⟩, List.mem_of_getElem? (i := 30) (by decide +kernel), List.mem_of_getElem? (i := 137) (by decide +kernel), List.mem_of_getElem? (i := 138) (by decide +kernel)⟩
theorem lw_p14 : lw_okq (⟨"TrapMachine$Controls", "level", "()I"⟩, 1) := ⟨⟨by decide +kernel, by decide +kernel⟩, List.mem_of_getElem? (i := 19) (by decide +kernel), List.mem_of_getElem? (i := 141) (by decide +kernel), List.mem_of_getElem? (i := 142) (by decide +kernel)⟩
theorem lw_p15 : lw_okq (⟨"TrapMachine", "fail", "(II)V"⟩, 9) := ⟨⟨by decide +kernel, by decide +kernel⟩, List.mem_of_getElem? (i := 11) (by decide +kernel), List.mem_of_getElem? (i := 149) (by decide +kernel), List.mem_of_getElem? (i := 150) (by decide +kernel)⟩
def lw_privs_1 : List (MethodName × Nat) := [(⟨"TrapMachine", "step", "()V"⟩, 9), (⟨"TrapMachine$Controls", "isAsked", "()Z"⟩, 1), (⟨"TrapMachine$Controls", "isEnabled", "()Z"⟩, 1), (⟨"TrapMachine", "raise", "(I)V"⟩, 9), (⟨"TrapMachine$Controls", "enter", "(II)V"⟩, 1), (⟨"TrapMachine$Controls", "setDirect", "()V"⟩, 1), (⟨"TrapMachine$Controls", "get", "(I)I"⟩, 1), (⟨"TrapMachine", "perform", "()V"⟩, 9), (⟨"TrapMachine", "find", "(II)I"⟩, 9), (⟨"TrapMachine$Controls", "isDirect", "()Z"⟩, 1), (⟨"TrapMachine$Controls", "isInWindow", "(I)Z"⟩, 1), (⟨"TrapMachine", "findMapped", "(II)I"⟩, 9), (⟨"TrapMachine$Buffer", "find", "(III)I"⟩, 1), (⟨"TrapMachine$Buffer", "get", "(II)I"⟩, 1), (⟨"TrapMachine$Controls", "level", "()I"⟩, 1), (⟨"TrapMachine", "fail", "(II)V"⟩, 9)]
theorem lw_r1 : ∀ q ∈ lw_privs_1, lw_okq q := List.forall_mem_cons.mpr ⟨lw_p0, List.forall_mem_cons.mpr ⟨lw_p1, List.forall_mem_cons.mpr ⟨lw_p2, List.forall_mem_cons.mpr ⟨lw_p3, List.forall_mem_cons.mpr ⟨lw_p4, List.forall_mem_cons.mpr ⟨lw_p5, List.forall_mem_cons.mpr ⟨lw_p6, List.forall_mem_cons.mpr ⟨lw_p7, List.forall_mem_cons.mpr ⟨lw_p8, List.forall_mem_cons.mpr ⟨lw_p9, List.forall_mem_cons.mpr ⟨lw_p10, List.forall_mem_cons.mpr ⟨lw_p11, List.forall_mem_cons.mpr ⟨lw_p12, List.forall_mem_cons.mpr ⟨lw_p13, List.forall_mem_cons.mpr ⟨lw_p14, List.forall_mem_cons.mpr ⟨lw_p15, fun _ h => absurd h List.not_mem_nil⟩⟩⟩⟩⟩⟩⟩⟩⟩⟩⟩⟩⟩⟩⟩⟩
theorem lw_p16 : lw_okq (⟨"TrapMachine$Controls", "set", "(II)V"⟩, 1) := ⟨⟨by decide +kernel, by decide +kernel⟩, List.mem_of_getElem? (i := 19) (by decide +kernel), List.mem_of_getElem? (i := 153) (by decide +kernel), List.mem_of_getElem? (i := 154) (by decide +kernel)⟩
theorem lw_p17 : lw_okq (⟨"TrapMachine", "calculate", "(II)V"⟩, 9) := ⟨⟨by decide +kernel, by decide +kernel⟩, List.mem_of_getElem? (i := 11) (by decide +kernel), List.mem_of_getElem? (i := 157) (by decide +kernel), List.mem_of_getElem? (i := 158) (by decide +kernel)⟩
theorem lw_p18 : lw_okq (⟨"TrapMachine", "result", "(II)I"⟩, 9) := ⟨⟨by decide +kernel, by decide +kernel⟩, List.mem_of_getElem? (i := 11) (by decide +kernel), List.mem_of_getElem? (i := 161) (by decide +kernel), List.mem_of_getElem? (i := 162) (by decide +kernel)⟩
theorem lw_p19 : lw_okq (⟨"TrapMachine", "valueB", "(I)I"⟩, 9) := ⟨⟨by decide +kernel, by decide +kernel⟩, List.mem_of_getElem? (i := 11) (by decide +kernel), List.mem_of_getElem? (i := 165) (by decide +kernel), List.mem_of_getElem? (i := 166) (by decide +kernel)⟩
theorem lw_p20 : lw_okq (⟨"TrapMachine", "valueC", "(I)I"⟩, 9) := ⟨⟨by decide +kernel, by decide +kernel⟩, List.mem_of_getElem? (i := 11) (by decide +kernel), List.mem_of_getElem? (i := 169) (by decide +kernel), List.mem_of_getElem? (i := 170) (by decide +kernel)⟩
theorem lw_p21 : lw_okq (⟨"TrapMachine", "setA", "(II)V"⟩, 9) := ⟨⟨by decide +kernel, by decide +kernel⟩, List.mem_of_getElem? (i := 11) (by decide +kernel), List.mem_of_getElem? (i := 183) (by decide +kernel), List.mem_of_getElem? (i := 184) (by decide +kernel)⟩
theorem lw_p22 : lw_okq (⟨"TrapMachine", "loadWord", "(II)V"⟩, 9) := ⟨⟨by decide +kernel, by decide +kernel⟩, List.mem_of_getElem? (i := 11) (by decide +kernel), List.mem_of_getElem? (i := 187) (by decide +kernel), List.mem_of_getElem? (i := 188) (by decide +kernel)⟩
theorem lw_p23 : lw_okq (⟨"TrapMachine", "storeWord", "(II)V"⟩, 9) := ⟨⟨by decide +kernel, by decide +kernel⟩, List.mem_of_getElem? (i := 11) (by decide +kernel), List.mem_of_getElem? (i := 191) (by decide +kernel), List.mem_of_getElem? (i := 192) (by decide +kernel)⟩
theorem lw_p24 : lw_okq (⟨"TrapMachine", "valueA", "(I)I"⟩, 9) := ⟨⟨by decide +kernel, by decide +kernel⟩, List.mem_of_getElem? (i := 11) (by decide +kernel), List.mem_of_getElem? (i := 195) (by decide +kernel), List.mem_of_getElem? (i := 196) (by decide +kernel)⟩
theorem lw_p25 : lw_okq (⟨"TrapMachine", "branch", "(II)V"⟩, 9) := ⟨⟨by decide +kernel, by decide +kernel⟩, List.mem_of_getElem? (i := 11) (by decide +kernel), List.mem_of_getElem? (i := 199) (by decide +kernel), List.mem_of_getElem? (i := 200) (by decide +kernel)⟩
theorem lw_p26 : lw_okq (⟨"TrapMachine", "performPrivileged", "(II)V"⟩, 9) := ⟨⟨by decide +kernel, by decide +kernel⟩, List.mem_of_getElem? (i := 11) (by decide +kernel), List.mem_of_getElem? (i := 206) (by decide +kernel), List.mem_of_getElem? (i := 207) (by decide +kernel)⟩
theorem lw_p27 : lw_okq (⟨"TrapMachine", "useControl", "(II)V"⟩, 9) := ⟨⟨by decide +kernel, by decide +kernel⟩, List.mem_of_getElem? (i := 11) (by decide +kernel), List.mem_of_getElem? (i := 210) (by decide +kernel), List.mem_of_getElem? (i := 211) (by decide +kernel)⟩
theorem lw_p28 : lw_okq (⟨"TrapMachine$Controls", "write", "(III)V"⟩, 1) := ⟨⟨by decide +kernel, by decide +kernel⟩, List.mem_of_getElem? (i := 19) (by decide +kernel), List.mem_of_getElem? (i := 214) (by decide +kernel), List.mem_of_getElem? (i := 215) (by decide +kernel)⟩
theorem lw_p29 : lw_okq (⟨"TrapMachine", "useBuffer", "(I)V"⟩, 9) := ⟨⟨by decide +kernel, by decide +kernel⟩, List.mem_of_getElem? (i := 11) (by decide +kernel), List.mem_of_getElem? (i := 223) (by decide +kernel), List.mem_of_getElem? (i := 224) (by decide +kernel)⟩
theorem lw_p30 : lw_okq (⟨"TrapMachine", "searchEntry", "()V"⟩, 9) := ⟨⟨by decide +kernel, by decide +kernel⟩, List.mem_of_getElem? (i := 11) (by decide +kernel), List.mem_of_getElem? (i := 227) (by decide +kernel), List.mem_of_getElem? (i := 228) (by decide +kernel)⟩
theorem lw_p31 : lw_okq (⟨"TrapMachine$Controls", "setEmpty", "(Z)V"⟩, 1) := ⟨⟨by decide +kernel, by decide +kernel⟩, List.mem_of_getElem? (i := 19) (by decide +kernel), List.mem_of_getElem? (i := 231) (by decide +kernel), List.mem_of_getElem? (i := 232) (by decide +kernel)⟩
def lw_privs_2 : List (MethodName × Nat) := [(⟨"TrapMachine$Controls", "set", "(II)V"⟩, 1), (⟨"TrapMachine", "calculate", "(II)V"⟩, 9), (⟨"TrapMachine", "result", "(II)I"⟩, 9), (⟨"TrapMachine", "valueB", "(I)I"⟩, 9), (⟨"TrapMachine", "valueC", "(I)I"⟩, 9), (⟨"TrapMachine", "setA", "(II)V"⟩, 9), (⟨"TrapMachine", "loadWord", "(II)V"⟩, 9), (⟨"TrapMachine", "storeWord", "(II)V"⟩, 9), (⟨"TrapMachine", "valueA", "(I)I"⟩, 9), (⟨"TrapMachine", "branch", "(II)V"⟩, 9), (⟨"TrapMachine", "performPrivileged", "(II)V"⟩, 9), (⟨"TrapMachine", "useControl", "(II)V"⟩, 9), (⟨"TrapMachine$Controls", "write", "(III)V"⟩, 1), (⟨"TrapMachine", "useBuffer", "(I)V"⟩, 9), (⟨"TrapMachine", "searchEntry", "()V"⟩, 9), (⟨"TrapMachine$Controls", "setEmpty", "(Z)V"⟩, 1)]
theorem lw_r2 : ∀ q ∈ lw_privs_2, lw_okq q := List.forall_mem_cons.mpr ⟨lw_p16, List.forall_mem_cons.mpr ⟨lw_p17, List.forall_mem_cons.mpr ⟨lw_p18, List.forall_mem_cons.mpr ⟨lw_p19, List.forall_mem_cons.mpr ⟨lw_p20, List.forall_mem_cons.mpr ⟨lw_p21, List.forall_mem_cons.mpr ⟨lw_p22, List.forall_mem_cons.mpr ⟨lw_p23, List.forall_mem_cons.mpr ⟨lw_p24, List.forall_mem_cons.mpr ⟨lw_p25, List.forall_mem_cons.mpr ⟨lw_p26, List.forall_mem_cons.mpr ⟨lw_p27, List.forall_mem_cons.mpr ⟨lw_p28, List.forall_mem_cons.mpr ⟨lw_p29, List.forall_mem_cons.mpr ⟨lw_p30, List.forall_mem_cons.mpr ⟨lw_p31, fun _ h => absurd h List.not_mem_nil⟩⟩⟩⟩⟩⟩⟩⟩⟩⟩⟩⟩⟩⟩⟩⟩
theorem lw_p32 : lw_okq (⟨"TrapMachine", "readEntry", "(I)V"⟩, 9) := ⟨⟨by decide +kernel, by decide +kernel⟩, List.mem_of_getElem? (i := 11) (by decide +kernel), List.mem_of_getElem? (i := 237) (by decide +kernel), List.mem_of_getElem? (i := 238) (by decide +kernel)⟩
theorem lw_p33 : lw_okq (⟨"TrapMachine", "writeEntry", "(I)V"⟩, 9) := ⟨⟨by decide +kernel, by decide +kernel⟩, List.mem_of_getElem? (i := 11) (by decide +kernel), List.mem_of_getElem? (i := 241) (by decide +kernel), List.mem_of_getElem? (i := 242) (by decide +kernel)⟩
theorem lw_p34 : lw_okq (⟨"TrapMachine$Controls", "isEmpty", "()Z"⟩, 1) := ⟨⟨by decide +kernel, by decide +kernel⟩, List.mem_of_getElem? (i := 19) (by decide +kernel), List.mem_of_getElem? (i := 245) (by decide +kernel), List.mem_of_getElem? (i := 246) (by decide +kernel)⟩
theorem lw_p35 : lw_okq (⟨"TrapMachine$Controls", "code", "()I"⟩, 1) := ⟨⟨by decide +kernel, by decide +kernel⟩, List.mem_of_getElem? (i := 19) (by decide +kernel), List.mem_of_getElem? (i := 249) (by decide +kernel), List.mem_of_getElem? (i := 250) (by decide +kernel)⟩
theorem lw_p36 : lw_okq (⟨"TrapMachine$Buffer", "set", "(IZII)V"⟩, 1) := ⟨⟨by decide +kernel, by decide +kernel⟩, List.mem_of_getElem? (i := 30) (by decide +kernel), List.mem_of_getElem? (i := 253) (by decide +kernel), List.mem_of_getElem? (i := 254) (by decide +kernel)⟩
theorem lw_p37 : lw_okq (⟨"TrapMachine$Buffer", "setHalves", "(III)V"⟩, 1) := ⟨⟨by decide +kernel, by decide +kernel⟩, List.mem_of_getElem? (i := 30) (by decide +kernel), List.mem_of_getElem? (i := 257) (by decide +kernel), List.mem_of_getElem? (i := 258) (by decide +kernel)⟩
theorem lw_p38 : lw_okq (⟨"TrapMachine", "emptyEntries", "(I)V"⟩, 9) := ⟨⟨by decide +kernel, by decide +kernel⟩, List.mem_of_getElem? (i := 11) (by decide +kernel), List.mem_of_getElem? (i := 261) (by decide +kernel), List.mem_of_getElem? (i := 262) (by decide +kernel)⟩
theorem lw_p39 : lw_okq (⟨"TrapMachine$Buffer", "empty", "(III)V"⟩, 1) := ⟨⟨by decide +kernel, by decide +kernel⟩, List.mem_of_getElem? (i := 30) (by decide +kernel), List.mem_of_getElem? (i := 265) (by decide +kernel), List.mem_of_getElem? (i := 266) (by decide +kernel)⟩
theorem lw_p40 : lw_okq (⟨"TrapMachine$Buffer", "isOfKind", "(IIII)Z"⟩, 1) := ⟨⟨by decide +kernel, by decide +kernel⟩, List.mem_of_getElem? (i := 30) (by decide +kernel), List.mem_of_getElem? (i := 269) (by decide +kernel), List.mem_of_getElem? (i := 270) (by decide +kernel)⟩
theorem lw_p41 : lw_okq (⟨"TrapMachine", "goBack", "()V"⟩, 9) := ⟨⟨by decide +kernel, by decide +kernel⟩, List.mem_of_getElem? (i := 11) (by decide +kernel), List.mem_of_getElem? (i := 273) (by decide +kernel), List.mem_of_getElem? (i := 274) (by decide +kernel)⟩
theorem lw_p42 : lw_okq (⟨"TrapMachine$Controls", "leave", "()V"⟩, 1) := ⟨⟨by decide +kernel, by decide +kernel⟩, List.mem_of_getElem? (i := 19) (by decide +kernel), List.mem_of_getElem? (i := 277) (by decide +kernel), List.mem_of_getElem? (i := 278) (by decide +kernel)⟩
theorem lw_p43 : lw_okq (⟨"TrapMachine$Controls", "tick", "()V"⟩, 1) := ⟨⟨by decide +kernel, by decide +kernel⟩, List.mem_of_getElem? (i := 19) (by decide +kernel), List.mem_of_getElem? (i := 282) (by decide +kernel), List.mem_of_getElem? (i := 283) (by decide +kernel)⟩
theorem lw_p44 : lw_okq (⟨"java/lang/Throwable", "fillInStackTrace", "(I)Ljava/lang/Throwable;"⟩, 6) := ⟨⟨by decide +kernel, by decide +kernel⟩, List.mem_of_getElem? (i := 334) (by decide +kernel), List.mem_of_getElem? (i := 332) (by decide +kernel), List.mem_of_getElem? (i := 333) (by decide +kernel)⟩
theorem lw_p45 : lw_okq (⟨"TrapMachine$Controls", "setLine", "(IZ)V"⟩, 1) := ⟨⟨by decide +kernel, by decide +kernel⟩, List.mem_of_getElem? (i := 19) (by decide +kernel), List.mem_of_getElem? (i := 379) (by decide +kernel), List.mem_of_getElem? (i := 380) (by decide +kernel)⟩
theorem lw_p46 : lw_okq (⟨"TrapMachineModel", "refuse", "(I)I"⟩, 20) := ⟨⟨by decide +kernel, by decide +kernel⟩, List.mem_of_getElem? (i := 407) (by decide +kernel), List.mem_of_getElem? (i := 496) (by decide +kernel), List.mem_of_getElem? (i := 497) (by decide +kernel)⟩
theorem lw_p47 : lw_okq (⟨"TrapMachineModel", "step", "()V"⟩, 20) := ⟨⟨by decide +kernel, by decide +kernel⟩, List.mem_of_getElem? (i := 407) (by decide +kernel), List.mem_of_getElem? (i := 516) (by decide +kernel), List.mem_of_getElem? (i := 517) (by decide +kernel)⟩
def lw_privs_3 : List (MethodName × Nat) := [(⟨"TrapMachine", "readEntry", "(I)V"⟩, 9), (⟨"TrapMachine", "writeEntry", "(I)V"⟩, 9), (⟨"TrapMachine$Controls", "isEmpty", "()Z"⟩, 1), (⟨"TrapMachine$Controls", "code", "()I"⟩, 1), (⟨"TrapMachine$Buffer", "set", "(IZII)V"⟩, 1), (⟨"TrapMachine$Buffer", "setHalves", "(III)V"⟩, 1), (⟨"TrapMachine", "emptyEntries", "(I)V"⟩, 9), (⟨"TrapMachine$Buffer", "empty", "(III)V"⟩, 1), (⟨"TrapMachine$Buffer", "isOfKind", "(IIII)Z"⟩, 1), (⟨"TrapMachine", "goBack", "()V"⟩, 9), (⟨"TrapMachine$Controls", "leave", "()V"⟩, 1), (⟨"TrapMachine$Controls", "tick", "()V"⟩, 1), (⟨"java/lang/Throwable", "fillInStackTrace", "(I)Ljava/lang/Throwable;"⟩, 6), (⟨"TrapMachine$Controls", "setLine", "(IZ)V"⟩, 1), (⟨"TrapMachineModel", "refuse", "(I)I"⟩, 20), (⟨"TrapMachineModel", "step", "()V"⟩, 20)]
theorem lw_r3 : ∀ q ∈ lw_privs_3, lw_okq q := List.forall_mem_cons.mpr ⟨lw_p32, List.forall_mem_cons.mpr ⟨lw_p33, List.forall_mem_cons.mpr ⟨lw_p34, List.forall_mem_cons.mpr ⟨lw_p35, List.forall_mem_cons.mpr ⟨lw_p36, List.forall_mem_cons.mpr ⟨lw_p37, List.forall_mem_cons.mpr ⟨lw_p38, List.forall_mem_cons.mpr ⟨lw_p39, List.forall_mem_cons.mpr ⟨lw_p40, List.forall_mem_cons.mpr ⟨lw_p41, List.forall_mem_cons.mpr ⟨lw_p42, List.forall_mem_cons.mpr ⟨lw_p43, List.forall_mem_cons.mpr ⟨lw_p44, List.forall_mem_cons.mpr ⟨lw_p45, List.forall_mem_cons.mpr ⟨lw_p46, List.forall_mem_cons.mpr ⟨lw_p47, fun _ h => absurd h List.not_mem_nil⟩⟩⟩⟩⟩⟩⟩⟩⟩⟩⟩⟩⟩⟩⟩⟩
theorem lw_p48 : lw_okq (⟨"TrapMachineModel", "tick", "()V"⟩, 20) := ⟨⟨by decide +kernel, by decide +kernel⟩, List.mem_of_getElem? (i := 407) (by decide +kernel), List.mem_of_getElem? (i := 520) (by decide +kernel), List.mem_of_getElem? (i := 521) (by decide +kernel)⟩
theorem lw_p49 : lw_okq (⟨"TrapMachineModel", "with", "(III)I"⟩, 20) := ⟨⟨by decide +kernel, by decide +kernel⟩, List.mem_of_getElem? (i := 407) (by decide +kernel), List.mem_of_getElem? (i := 525) (by decide +kernel), List.mem_of_getElem? (i := 526) (by decide +kernel)⟩
theorem lw_p50 : lw_okq (⟨"TrapMachineModel", "instruction", "()I"⟩, 20) := ⟨⟨by decide +kernel, by decide +kernel⟩, List.mem_of_getElem? (i := 407) (by decide +kernel), List.mem_of_getElem? (i := 529) (by decide +kernel), List.mem_of_getElem? (i := 530) (by decide +kernel)⟩
theorem lw_p51 : lw_okq (⟨"TrapMachineModel", "lookUp", "(II)I"⟩, 20) := ⟨⟨by decide +kernel, by decide +kernel⟩, List.mem_of_getElem? (i := 407) (by decide +kernel), List.mem_of_getElem? (i := 533) (by decide +kernel), List.mem_of_getElem? (i := 534) (by decide +kernel)⟩
theorem lw_p52 : lw_okq (⟨"TrapMachineModel", "user", "()Z"⟩, 20) := ⟨⟨by decide +kernel, by decide +kernel⟩, List.mem_of_getElem? (i := 407) (by decide +kernel), List.mem_of_getElem? (i := 537) (by decide +kernel), List.mem_of_getElem? (i := 538) (by decide +kernel)⟩
theorem lw_p53 : lw_okq (⟨"TrapMachineModel", "map", "(II)I"⟩, 20) := ⟨⟨by decide +kernel, by decide +kernel⟩, List.mem_of_getElem? (i := 407) (by decide +kernel), List.mem_of_getElem? (i := 542) (by decide +kernel), List.mem_of_getElem? (i := 543) (by decide +kernel)⟩
theorem lw_p54 : lw_okq (⟨"TrapMachineModel", "fits", "(III)Z"⟩, 20) := ⟨⟨by decide +kernel, by decide +kernel⟩, List.mem_of_getElem? (i := 407) (by decide +kernel), List.mem_of_getElem? (i := 549) (by decide +kernel), List.mem_of_getElem? (i := 550) (by decide +kernel)⟩
theorem lw_p55 : lw_okq (⟨"TrapMachineModel", "reckon", "(IIII)I"⟩, 20) := ⟨⟨by decide +kernel, by decide +kernel⟩, List.mem_of_getElem? (i := 407) (by decide +kernel), List.mem_of_getElem? (i := 553) (by decide +kernel), List.mem_of_getElem? (i := 554) (by decide +kernel)⟩
theorem lw_p56 : lw_okq (⟨"TrapMachineModel", "put", "(II)V"⟩, 20) := ⟨⟨by decide +kernel, by decide +kernel⟩, List.mem_of_getElem? (i := 407) (by decide +kernel), List.mem_of_getElem? (i := 558) (by decide +kernel), List.mem_of_getElem? (i := 559) (by decide +kernel)⟩
theorem lw_p57 : lw_okq (⟨"TrapMachineModel", "reach", "(III)I"⟩, 20) := ⟨⟨by decide +kernel, by decide +kernel⟩, List.mem_of_getElem? (i := 407) (by decide +kernel), List.mem_of_getElem? (i := 562) (by decide +kernel), List.mem_of_getElem? (i := 563) (by decide +kernel)⟩
theorem lw_p58 : lw_okq (⟨"TrapMachineModel", "go", "(IIII)I"⟩, 20) := ⟨⟨by decide +kernel, by decide +kernel⟩, List.mem_of_getElem? (i := 407) (by decide +kernel), List.mem_of_getElem? (i := 566) (by decide +kernel), List.mem_of_getElem? (i := 567) (by decide +kernel)⟩
theorem lw_p59 : lw_okq (⟨"TrapMachineModel", "govern", "(IIII)I"⟩, 20) := ⟨⟨by decide +kernel, by decide +kernel⟩, List.mem_of_getElem? (i := 407) (by decide +kernel), List.mem_of_getElem? (i := 570) (by decide +kernel), List.mem_of_getElem? (i := 571) (by decide +kernel)⟩
theorem lw_p60 : lw_okq (⟨"TrapMachineModel", "controls", "(IIII)I"⟩, 20) := ⟨⟨by decide +kernel, by decide +kernel⟩, List.mem_of_getElem? (i := 407) (by decide +kernel), List.mem_of_getElem? (i := 574) (by decide +kernel), List.mem_of_getElem? (i := 575) (by decide +kernel)⟩
theorem lw_p61 : lw_okq (⟨"TrapMachineModel", "write", "(III)V"⟩, 20) := ⟨⟨by decide +kernel, by decide +kernel⟩, List.mem_of_getElem? (i := 407) (by decide +kernel), List.mem_of_getElem? (i := 578) (by decide +kernel), List.mem_of_getElem? (i := 579) (by decide +kernel)⟩
theorem lw_p62 : lw_okq (⟨"TrapMachineModel", "empty", "(III)I"⟩, 20) := ⟨⟨by decide +kernel, by decide +kernel⟩, List.mem_of_getElem? (i := 407) (by decide +kernel), List.mem_of_getElem? (i := 582) (by decide +kernel), List.mem_of_getElem? (i := 583) (by decide +kernel)⟩
theorem lw_p63 : lw_okq (⟨"TrapMachineModel", "search", "()V"⟩, 20) := ⟨⟨by decide +kernel, by decide +kernel⟩, List.mem_of_getElem? (i := 407) (by decide +kernel), List.mem_of_getElem? (i := 586) (by decide +kernel), List.mem_of_getElem? (i := 587) (by decide +kernel)⟩
def lw_privs_4 : List (MethodName × Nat) := [(⟨"TrapMachineModel", "tick", "()V"⟩, 20), (⟨"TrapMachineModel", "with", "(III)I"⟩, 20), (⟨"TrapMachineModel", "instruction", "()I"⟩, 20), (⟨"TrapMachineModel", "lookUp", "(II)I"⟩, 20), (⟨"TrapMachineModel", "user", "()Z"⟩, 20), (⟨"TrapMachineModel", "map", "(II)I"⟩, 20), (⟨"TrapMachineModel", "fits", "(III)Z"⟩, 20), (⟨"TrapMachineModel", "reckon", "(IIII)I"⟩, 20), (⟨"TrapMachineModel", "put", "(II)V"⟩, 20), (⟨"TrapMachineModel", "reach", "(III)I"⟩, 20), (⟨"TrapMachineModel", "go", "(IIII)I"⟩, 20), (⟨"TrapMachineModel", "govern", "(IIII)I"⟩, 20), (⟨"TrapMachineModel", "controls", "(IIII)I"⟩, 20), (⟨"TrapMachineModel", "write", "(III)V"⟩, 20), (⟨"TrapMachineModel", "empty", "(III)I"⟩, 20), (⟨"TrapMachineModel", "search", "()V"⟩, 20)]
theorem lw_r4 : ∀ q ∈ lw_privs_4, lw_okq q := List.forall_mem_cons.mpr ⟨lw_p48, List.forall_mem_cons.mpr ⟨lw_p49, List.forall_mem_cons.mpr ⟨lw_p50, List.forall_mem_cons.mpr ⟨lw_p51, List.forall_mem_cons.mpr ⟨lw_p52, List.forall_mem_cons.mpr ⟨lw_p53, List.forall_mem_cons.mpr ⟨lw_p54, List.forall_mem_cons.mpr ⟨lw_p55, List.forall_mem_cons.mpr ⟨lw_p56, List.forall_mem_cons.mpr ⟨lw_p57, List.forall_mem_cons.mpr ⟨lw_p58, List.forall_mem_cons.mpr ⟨lw_p59, List.forall_mem_cons.mpr ⟨lw_p60, List.forall_mem_cons.mpr ⟨lw_p61, List.forall_mem_cons.mpr ⟨lw_p62, List.forall_mem_cons.mpr ⟨lw_p63, fun _ h => absurd h List.not_mem_nil⟩⟩⟩⟩⟩⟩⟩⟩⟩⟩⟩⟩⟩⟩⟩⟩
theorem lw_p64 : lw_okq (⟨"TrapMachineModel", "read", "(I)V"⟩, 20) := ⟨⟨by decide +kernel, by decide +kernel⟩, List.mem_of_getElem? (i := 407) (by decide +kernel), List.mem_of_getElem? (i := 591) (by decide +kernel), List.mem_of_getElem? (i := 592) (by decide +kernel)⟩
theorem lw_p65 : lw_okq (⟨"TrapMachineModel", "fill", "(I)V"⟩, 20) := ⟨⟨by decide +kernel, by decide +kernel⟩, List.mem_of_getElem? (i := 407) (by decide +kernel), List.mem_of_getElem? (i := 595) (by decide +kernel), List.mem_of_getElem? (i := 596) (by decide +kernel)⟩
theorem lw_p66 : lw_okq (⟨"TrapMachineModel", "codeOf", "()I"⟩, 20) := ⟨⟨by decide +kernel, by decide +kernel⟩, List.mem_of_getElem? (i := 407) (by decide +kernel), List.mem_of_getElem? (i := 599) (by decide +kernel), List.mem_of_getElem? (i := 600) (by decide +kernel)⟩
theorem lw_p67 : lw_okq (⟨"TrapMachineModel", "enter", "(I)V"⟩, 20) := ⟨⟨by decide +kernel, by decide +kernel⟩, List.mem_of_getElem? (i := 407) (by decide +kernel), List.mem_of_getElem? (i := 603) (by decide +kernel), List.mem_of_getElem? (i := 604) (by decide +kernel)⟩
def lw_privs_5 : List (MethodName × Nat) := [(⟨"TrapMachineModel", "read", "(I)V"⟩, 20), (⟨"TrapMachineModel", "fill", "(I)V"⟩, 20), (⟨"TrapMachineModel", "codeOf", "()I"⟩, 20), (⟨"TrapMachineModel", "enter", "(I)V"⟩, 20)]
theorem lw_r5 : ∀ q ∈ lw_privs_5, lw_okq q := List.forall_mem_cons.mpr ⟨lw_p64, List.forall_mem_cons.mpr ⟨lw_p65, List.forall_mem_cons.mpr ⟨lw_p66, List.forall_mem_cons.mpr ⟨lw_p67, fun _ h => absurd h List.not_mem_nil⟩⟩⟩⟩
def lw_privs : List (MethodName × Nat) := lw_privs_1 ++ (lw_privs_2 ++ (lw_privs_3 ++ (lw_privs_4 ++ (lw_privs_5))))
def lw_tbl : List Cond := k2_sels lw_privs ++ tables_1
theorem lw_privs_ok : ∀ q ∈ lw_privs, lw_okq q := by
  show ∀ q ∈ lw_privs_1 ++ (lw_privs_2 ++ (lw_privs_3 ++ (lw_privs_4 ++ (lw_privs_5)))), lw_okq q
  exact List.forall_mem_append.mpr ⟨lw_r1, List.forall_mem_append.mpr ⟨lw_r2, List.forall_mem_append.mpr ⟨lw_r3, List.forall_mem_append.mpr ⟨lw_r4, lw_r5⟩⟩⟩⟩
/-! ===== BEGIN words of one list among another's, by their places ===== -/
theorem goodIn_r {big : List Cond} (ws : List Cond) (ps : List Nat) (hp : ws = ps.filterMap (fun i => big[i]?)) (h : ws.all goodWord = true) : GoodIn big ws := by
  intro w hw
  have h1 := List.all_eq_true.mp h w hw
  rw [hp] at hw
  obtain ⟨i, -, hi⟩ := List.mem_filterMap.mp hw
  have hm : w ∈ big := by first | exact List.mem_of_getElem? hi | exact List.getElem?_mem hi
  exact ⟨hm, good_of_word h1⟩
theorem goodIn_app {big a b : List Cond} (ha : GoodIn big a) (hb : GoodIn big b) : GoodIn big (a ++ b) := fun w h => (List.mem_append.mp h).elim (ha w) (hb w)
theorem goodIn_ca {big a b : List Cond} {c : Cond} (ha : GoodIn big (c :: a)) (hb : GoodIn big b) : GoodIn big (c :: (a ++ b)) := fun w h => (List.mem_cons.mp h).elim (fun e => ha w (List.mem_cons.mpr (Or.inl e))) (fun h => (List.mem_append.mp h).elim (fun h => ha w (List.mem_cons.mpr (Or.inr h))) (hb w))
theorem goodIn_sub {big ws : List Cond} (hm : ∀ w ∈ ws, w ∈ big) (h : ws.all goodWord = true) : GoodIn big ws := fun w hw => ⟨hm w hw, good_of_word (List.all_eq_true.mp h w hw)⟩
/-! ===== END ===== -/
end
section
/-! ===== BEGIN exceptions that leave a method, and their catching by the caller (launches without stack traces) ===== -/
section VXA
/-! The laws vx_back, vx_callV, vx_callS, vx_callSW, vx_throw0, vx_throwS follow proofs of the library, with one case more: JvmDerived/Free/Laws.lean (Back.of_free), Shelf42/LK1.lean (callV, callS), Shelf/KitTraced.lean (throwNew0V, throwNewS). -/
/-- where a method has thrown q: the class by its name, the cell, what was written, the world -/
def vx_T (XC : String → State → State → Prop) (st : State) (q : Addr) (t : State) (mc ms : Nat) (free : Addr → Prop) : Prop :=
  ∃ (E : String) (ce : Cell) (L : List Loc), XC E st t ∧ t.heap[q]? = some ce ∧ ce.vm = .none ∧ st.vm.findClass E = some ce.cls ∧ st.WarmedH t.vm ∧ st.sameButNew ({ t with vm := st.vm } : State) L mc ms ∧ ∀ z ∈ L, free z.base
def vx_Q (Qc : Array Value → State → Outcome → State → Prop) (XC : String → State → State → Prop) (mc ms : Nat) (free : Addr → Prop) : Array Value → State → Outcome → State → Prop := fun a st o t =>
  (Qc a st o t ∧ ∃ L, FrameEnd st o t L mc ms ∧ ∀ q ∈ L, free q.base) ∨ ∃ q, o = .threw q ∧ vx_T XC st q t mc ms free
/-- a callee that returns or throws -/
def vx_Met (l : Launch) (y : MethodName) (ws : List Cond) (rm : Room) (Pc : Array Value → State → Prop) (Qc : Array Value → State → Outcome → State → Prop) (XC : String → State → State → Prop) (mc ms : Nat) (free : Addr → Prop) : Prop :=
  MetFree l y (headSpec ws rm) Pc (fun _ _ _ _ _ => True) (vx_Q Qc XC mc ms free)
def vx_Post (XC : String → State → State → Prop) (mc ms : Nat) (free : Addr → Prop) : Pt → Array Value → Addr → Pt → Prop := fun A a q B =>
  ∃ (g : JFrame) (mk : MethodId) (t : State) (L : List Loc) (E : String) (ce : Cell), B.U.heap = t.heap ∧ B.U.vm = t.vm ∧ XC E (A.U.calling g mk a) t ∧ t.heap[q]? = some ce ∧ ce.vm = .none ∧ A.U.vm.findClass E = some ce.cls ∧ B.locs = A.locs ++ L ∧ (∀ z ∈ L, free z.base) ∧ B.cells = A.cells + mc ∧ B.slots = A.slots + ms
def vx_Back (l : Launch) (R : Room) (p : Program) (e : Env) (below : List Frame) (s : State) (sargs : Array Value) (y : MethodName) (len W9 : Nat)
    (Pre : Pt → Array Value → Prop) (Post : Pt → Array Value → Option Value → Pt → Prop) (PostX : Pt → Array Value → Addr → Pt → Prop) : Prop :=
  ∀ (m : MethodId) (meth : Method) (c : Code) (A : Pt) (g : JFrame) (ig : Instr) (mk : MethodId) (a : Array Value),
    Stand p l e R s m sargs below meth c A.U A.locs A.cells A.slots → g.method = m → g.locals.size = c.maxLocals → decode c.code g.pc = .ok (ig, len) →
    2 * g.monitorRoom + (g.stack.map fun v => v.category).sum ≤ W9 → A.U.methodNamed? y = some mk → Pre A a →
    (∃ (v : Option Value) (B : Pt), Stand p l e R s m sargs below meth c B.U B.locs B.cells B.slots ∧ Post A a v B ∧
      Steps p.tables e below (doInvoke e (A.U.setTop g) [] mk a).1 (B.U.setTop { g with pc := g.pc + len, stack := v.toList ++ g.stack })) ∨
    (∃ (q : Addr) (B : Pt), Stand p l e R s m sargs below meth c B.U B.locs B.cells B.slots ∧ PostX A a q B ∧
      Steps p.tables e below (doInvoke e (A.U.setTop g) [] mk a).1 ((B.U.setTop g).pushFrame (.throwing q)))
section Payer
variable {l : Launch} {R : Room} {p : Program} {e : Env} {below : List Frame} {s : State} {sargs : Array Value} {y : MethodName} {len W9 : Nat}
theorem vx_back {ws : List Cond} {rm : Room} {Pc : Array Value → State → Prop} {Qc : Array Value → State → Outcome → State → Prop} {XC : String → State → State → Prop} {mc ms : Nat} {free : Addr → Prop} {bytes : ByteArray} {maxL : Nat} {ret : Option FieldType}
    (hM : vx_Met l y ws rm Pc Qc XC mc ms free) (hblind : FrameBlind Pc) (hrc : rm.cells = mc) (hrs : rm.slots = ms)
    (hframes : rm.frames + 1 ≤ R.frames) (hlocals : W9 + (maxL + 11) + rm.locals ≤ R.locals)
    (hws : ∀ w ∈ ws, ∀ a' U, s.WarmedH U.vm → w.before a' U = true) (hcode : Cond.code y bytes maxL ret ∈ ws) (hinit : ∀ a' U, s.WarmedH U.vm → (Cond.initialized y.cls).before a' U = true) :
    vx_Back l R p e below s sargs y len W9 (PreOf R mc ms Pc) (PostOf Qc mc ms free) (vx_Post XC mc ms free) := by
  intro m meth c A g ig mk a X hg hsize hdg hW hn hp
  have h1 : (headSpec ws rm).pre.before a A.U = true := atoms_intro fun w hw => hws w hw _ _ X.warmed
  have h2 : (Cond.code y bytes maxL ret).before a A.U = true := hws _ hcode _ _ X.warmed
  have h3 : (Cond.initialized y.cls).before a A.U = true := hinit _ _ X.warmed
  have h4 : A.cells + (headSpec ws rm).room.cells ≤ R.cells := by rw [show (headSpec ws rm).room.cells = mc from hrc]; exact hp.1
  have h5 : A.slots + (headSpec ws rm).room.slots ≤ R.slots := by rw [show (headSpec ws rm).room.slots = ms from hrs]; exact hp.2.1
  have hPc : Pc a (A.U.calling g mk a) := hblind _ _ _ _ hp.2.2
  obtain ⟨U, Ls, c0, s0⟩ := A
  dsimp only [Pt.U, Pt.locs, Pt.cells, Pt.slots] at h1 h2 h3 h4 h5 X hn hPc ⊢
  obtain ⟨methY, cY, hmY, hcY, -, hlY, -, -, -, -⟩ := Cond.code_spec hn h2
  obtain ⟨kY, hkY, -⟩ := className_of_methodNamed hn
  have hinitY : kY.init = .initialized := Cond.initialized_spec (findClass_of_methodNamed hn) hkY h3
  have h : At U g.method c below := by rw [hg]; exact X.here
  have hlocals9 : W9 + (maxL + 11) + (headSpec ws rm).room.locals ≤ R.locals := hlocals
  have happ : (headSpec ws rm).appliesLoose y e.platform (U.calling g mk a) = true :=
    Spec.appliesLoose_calling (g := g) h hdg hn hkY hinitY
      (X.room_calling (g := g) (R' := (headSpec ws rm).room) hsize hmY hcY hframes (by rw [hlY]; omega) h4 h5) h1
  obtain ⟨mid, hmid⟩ := h.above
  have hfr : (U.setTop g).frames = (.java g :: mid) ++ below := by rw [State.frames_setTop' g h.top, hmid]; rfl
  obtain ⟨o, s₂, hsteps, -, hend, hq⟩ := Steps.callFree hM p X.admits X.cas X.clock (acts := []) hfr happ hPc trivial
  have hq' : vx_Q Qc XC mc ms free a (U.calling g mk a) o s₂ := hq
  rw [State.frames_setTop' g h.top] at hend
  obtain ⟨g₀, hg0⟩ := Option.isSome_iff_exists.mp h.top
  obtain ⟨r, hr⟩ := State.topJava?_eq_some.mp hg0
  have hr' : (({ U with heap := s₂.heap, slotsUsed := s₂.slotsUsed } : State).setVm s₂.vm).frames = .java g₀ :: r := hr
  rcases hq' with ⟨hqc, L, hfe, hL⟩ | ⟨q, rfl, E, ce, L, hx, hce, hcv, hcl, hW₂, hsm, hL⟩
  · obtain ⟨⟨v, rfl⟩, hW₂, e2, q2, q3, q4, q5, q6⟩ := id hfe
    have e3 : s₂ = ({ (U.calling g mk a).setFrames s₂.frames with heap := s₂.heap, slotsUsed := s₂.slotsUsed } : State).setVm s₂.vm := by
      have : s₂ = ({ s₂ with vm := (U.calling g mk a).vm } : State).setVm s₂.vm := rfl
      rw [e2] at this
      exact this
    obtain ⟨c₂, i₂, len₂, hc₂, hd₂, hf₂⟩ := hend
    have hW' : U.WarmedH s₂.vm := hW₂
    have hcc : c₂ = c := by
      have h1 : s₂.code? g.method = U.code? g.method := by
        rw [State.code?_eq, State.code?_eq, hW'.alike.method?]
      exact Option.some.inj (hc₂.symm.trans (h1.trans h.code))
    subst hcc
    have hlen : len₂ = len := by rw [hdg] at hd₂; cases hd₂; rfl
    subst hlen
    have hs₂ : s₂ = (({ U with heap := s₂.heap, slotsUsed := s₂.slotsUsed } : State).setVm s₂.vm).setTop { g with pc := g.pc + len₂, stack := v.toList ++ g.stack } := by
      refine e3.trans ?_
      rw [hf₂, State.calling_eq h.top, State.setFrames_setFrames, State.setTop_of_frames _ hr', hr]
      rfl
    have hsame : U.sameButNew ({ U with heap := s₂.heap, slotsUsed := s₂.slotsUsed } : State) L mc ms := by
      refine ⟨?_, q2, q3, q4, q5, q6⟩
      obtain ⟨t, ht, -⟩ := State.frames_cons hr
      show ({ U with heap := s₂.heap, slotsUsed := s₂.slotsUsed } : State) = { U.setFrames U.frames with heap := s₂.heap, slotsUsed := s₂.slotsUsed }
      rw [State.setFrames_self ht]
    subst hg
    refine Or.inl ⟨v, ⟨(({ U with heap := s₂.heap, slotsUsed := s₂.slotsUsed } : State).setVm s₂.vm), Ls ++ L, c0 + mc, s0 + ms⟩,
      ⟨X.admits, X.cas, X.clock, X.frames, X.room, X.hears, X.method, X.code, (X.here.setHeapUsed s₂.heap s₂.slotsUsed).setVm hW'.alike, X.tail, State.WarmedH.trans X.warmed hW', X.limits, X.bytes, X.same.trans (hsame.setVm s.vm)⟩,
      ⟨g, mk, s₂, L, rfl, rfl, hqc, rfl, hL, rfl, rfl⟩, ?_⟩
    show Steps p.tables e below _ ((({ U with heap := s₂.heap, slotsUsed := s₂.slotsUsed } : State).setVm s₂.vm).setTop { g with pc := g.pc + len₂, stack := v.toList ++ g.stack })
    rw [← hs₂]
    exact hsteps
  · obtain ⟨e2, q2, q3, q4, q5, q6⟩ := id hsm
    have e3 : s₂ = ({ (U.calling g mk a).setFrames s₂.frames with heap := s₂.heap, slotsUsed := s₂.slotsUsed } : State).setVm s₂.vm := by
      have : s₂ = ({ s₂ with vm := (U.calling g mk a).vm } : State).setVm s₂.vm := rfl
      rw [e2] at this
      exact this
    have hf₂ : s₂.frames = .throwing q :: .java g :: U.frames.tail := hend
    have hW' : U.WarmedH s₂.vm := hW₂
    have hs₂ : s₂ = ((({ U with heap := s₂.heap, slotsUsed := s₂.slotsUsed } : State).setVm s₂.vm).setTop g).pushFrame (.throwing q) := by
      refine e3.trans ?_
      rw [hf₂, State.calling_eq h.top, State.setFrames_setFrames, State.pushFrame, State.frames_setTop _ hr', State.setTop_of_frames _ hr', State.setFrames_setFrames, hr]
      rfl
    have hsame : U.sameButNew ({ U with heap := s₂.heap, slotsUsed := s₂.slotsUsed } : State) L mc ms := by
      refine ⟨?_, q2, q3, q4, q5, q6⟩
      obtain ⟨t, ht, -⟩ := State.frames_cons hr
      show ({ U with heap := s₂.heap, slotsUsed := s₂.slotsUsed } : State) = { U.setFrames U.frames with heap := s₂.heap, slotsUsed := s₂.slotsUsed }
      rw [State.setFrames_self ht]
    subst hg
    refine Or.inr ⟨q, ⟨(({ U with heap := s₂.heap, slotsUsed := s₂.slotsUsed } : State).setVm s₂.vm), Ls ++ L, c0 + mc, s0 + ms⟩,
      ⟨X.admits, X.cas, X.clock, X.frames, X.room, X.hears, X.method, X.code, (X.here.setHeapUsed s₂.heap s₂.slotsUsed).setVm hW'.alike, X.tail, State.WarmedH.trans X.warmed hW', X.limits, X.bytes, X.same.trans (hsame.setVm s.vm)⟩,
      ⟨g, mk, s₂, L, E, ce, rfl, rfl, hx, hce, hcv, hcl, rfl, hL, rfl, rfl⟩, ?_⟩
    show Steps p.tables e below _ (((({ U with heap := s₂.heap, slotsUsed := s₂.slotsUsed } : State).setVm s₂.vm).setTop g).pushFrame (.throwing q))
    rw [← hs₂]
    exact hsteps
end Payer
section Calls
variable {p : Program} {l : Launch} {e : Env} {R : Room} {s : State} {m : MethodId} {args : Array Value} {below : List Frame} {meth : Method} {c : Code} {T : State} {locs : List Loc} {cells slots : Nat}
theorem vx_callV (X : Stand p l e R s m args below meth c T locs cells slots) (hexec : p.tables.exec = Jvm.exec) {own C : String} {index : Nat} {y : MethodName} {bytes : ByteArray} {maxL : Nat} {ret : Option FieldType}
    (hown : s.vm.findClass own = some m.cls) (hlink : (Cond.methodLink own index y).before args s = true) (hinst : (Cond.instanceMethod y).before args s = true) (hsel : (Cond.selects C y y).before args s = true)
    (hcode : (Cond.code y bytes maxL ret).before args s = true) (hy : y.cls ≠ "java/lang/invoke/MethodHandle" ∧ y.cls ≠ "java/lang/invoke/VarHandle")
    {W9 : Nat} {Pre : Pt → Array Value → Prop} {Post : Pt → Array Value → Option Value → Pt → Prop} {PostX : Pt → Array Value → Addr → Pt → Prop} (hK : vx_Back l R p e below s args y 3 W9 Pre Post PostX)
    {b : Addr} {cellB : Cell} (hcell : T.heap[b]? = some cellB) (hobj : cellB.vm.isStatics = false) (hcls : s.vm.findClass C = some cellB.cls)
    {g : JFrame} (hg : g.method = m) (hsize : g.locals.size = c.maxLocals) {argsL rest : List Value} (hlen : ∀ sig, parseMethodDescriptor y.desc = some sig → argsL.length = sig.parameters.length)
    (hstack : g.stack = argsL.reverse ++ .ref b :: rest) (hW : 2 * g.monitorRoom + (rest.map fun v => v.category).sum ≤ W9) (hdg : decode c.code g.pc = .ok (.invokevirtual index, 3))
    (hpre : ∀ vm₁, s.WarmedH vm₁ → Pre ⟨T.setVm vm₁, locs, cells, slots⟩ (Value.ref b :: argsL).toArray) :
    (∃ (v : Option Value) (vm₁ : Vm) (B : Pt), s.WarmedH vm₁ ∧ Stand p l e R s m args below meth c B.U B.locs B.cells B.slots ∧ Post ⟨T.setVm vm₁, locs, cells, slots⟩ (Value.ref b :: argsL).toArray v B ∧
      ∀ target, Steps p.tables e below (B.U.setTop { g with pc := g.pc + 3, stack := v.toList ++ rest }) target → Steps p.tables e below (T.setTop g) target) ∨
    (∃ (q : Addr) (vm₁ : Vm) (B : Pt), s.WarmedH vm₁ ∧ Stand p l e R s m args below meth c B.U B.locs B.cells B.slots ∧ PostX ⟨T.setVm vm₁, locs, cells, slots⟩ (Value.ref b :: argsL).toArray q B ∧
      Steps p.tables e below (T.setTop g) ((B.U.setTop { g with stack := rest }).pushFrame (.throwing q))) := by
  obtain ⟨mk, methM, hnamed, hmethM, hstM, habM⟩ := Cond.instanceMethod_spec hinst
  obtain ⟨methM', cM, hmethM', -, -, -, -, -, -, hsigM⟩ := Cond.code_spec hnamed hcode
  cases hmethM.symm.trans hmethM'
  obtain ⟨c2, r2, m2, q1, q2, q3, q4, kP, hkP, hkPi⟩ := Cond.selects_spec hsel
  cases hcls.symm.trans q1
  cases (State.methodFound?_of_named hnamed hy).symm.trans q2
  cases hnamed.symm.trans q3
  have hselP : selectMethod e.platform s.vm cellB.cls mk = .method mk := by rw [Launch.admits_selectMethod X.admits]; exact q4
  obtain ⟨vm₁, X₁, hstep₁⟩ := X.invokevirtual hexec hown hlink hnamed hmethM hstM hkP hkPi hy (a := b) (cell := cellB) hcell
    (fun z h => by rw [h] at hobj; cases hobj) hselP hmethM habM hkP hkPi (g := g) hg (argsL := argsL) (rest := rest) (hlen _ hsigM) hstack hdg
  rcases hK m meth c ⟨T.setVm vm₁, locs, cells, slots⟩ { g with stack := rest } (.invokevirtual index) mk (Value.ref b :: argsL).toArray X₁ hg hsize hdg hW (X₁.named hnamed) (hpre vm₁ X₁.warmed) with ⟨v, B, X', hpost, hsteps⟩ | ⟨q, B, X', hpost, hsteps⟩
  · exact Or.inl ⟨v, vm₁, B, X₁.warmed, X', hpost, fun target h => hstep₁ _ fun acts => by rw [doInvoke_state]; exact hsteps.trans h⟩
  · exact Or.inr ⟨q, vm₁, B, X₁.warmed, X', hpost, hstep₁ _ fun acts => by rw [doInvoke_state]; exact hsteps⟩
theorem vx_callS (X : Stand p l e R s m args below meth c T locs cells slots) (hexec : p.tables.exec = Jvm.exec) {own : String} {index : Nat} {y : MethodName} {bytes : ByteArray} {maxL : Nat} {ret : Option FieldType}
    (hown : s.vm.findClass own = some m.cls) (hlink : (Cond.methodLink own index y).before args s = true) (hstat : (Cond.static y).before args s = true) (hinit : (Cond.initialized y.cls).before args s = true)
    (hcode : (Cond.code y bytes maxL ret).before args s = true) (hy : y.cls ≠ "java/lang/invoke/MethodHandle" ∧ y.cls ≠ "java/lang/invoke/VarHandle")
    {W9 : Nat} {Pre : Pt → Array Value → Prop} {Post : Pt → Array Value → Option Value → Pt → Prop} {PostX : Pt → Array Value → Addr → Pt → Prop} (hK : vx_Back l R p e below s args y 3 W9 Pre Post PostX)
    {g : JFrame} (hg : g.method = m) (hsize : g.locals.size = c.maxLocals) {argsL rest : List Value} (hlen : ∀ sig, parseMethodDescriptor y.desc = some sig → argsL.length = sig.parameters.length)
    (hstack : g.stack = argsL.reverse ++ rest) (hW : 2 * g.monitorRoom + (rest.map fun v => v.category).sum ≤ W9) (hdg : decode c.code g.pc = .ok (.invokestatic index, 3))
    (hpre : ∀ vm₁, s.WarmedH vm₁ → Pre ⟨T.setVm vm₁, locs, cells, slots⟩ argsL.toArray) :
    (∃ (v : Option Value) (vm₁ : Vm) (B : Pt), s.WarmedH vm₁ ∧ Stand p l e R s m args below meth c B.U B.locs B.cells B.slots ∧ Post ⟨T.setVm vm₁, locs, cells, slots⟩ argsL.toArray v B ∧
      ∀ target, Steps p.tables e below (B.U.setTop { g with pc := g.pc + 3, stack := v.toList ++ rest }) target → Steps p.tables e below (T.setTop g) target) ∨
    (∃ (q : Addr) (vm₁ : Vm) (B : Pt), s.WarmedH vm₁ ∧ Stand p l e R s m args below meth c B.U B.locs B.cells B.slots ∧ PostX ⟨T.setVm vm₁, locs, cells, slots⟩ argsL.toArray q B ∧
      Steps p.tables e below (T.setTop g) ((B.U.setTop { g with stack := rest }).pushFrame (.throwing q))) := by
  obtain ⟨mk, hnamed⟩ := Cond.code_named hcode
  obtain ⟨methM, cM, hmethM, -, -, -, -, -, -, hsigM⟩ := Cond.code_spec hnamed hcode
  have hstatic : methM.isStatic = true := Cond.static_spec hnamed hmethM hstat
  obtain ⟨kP, hkP, -⟩ := className_of_methodNamed hnamed
  have hinitP : kP.init = .initialized := Cond.initialized_spec (findClass_of_methodNamed hnamed) hkP hinit
  obtain ⟨vm₁, X₁, hstep₁⟩ := X.invokestatic hexec hown hlink hnamed hmethM hstatic hkP hinitP hy (g := g) hg (argsL := argsL) (rest := rest) (hlen _ hsigM) hstack hdg
  rcases hK m meth c ⟨T.setVm vm₁, locs, cells, slots⟩ { g with stack := rest } (.invokestatic index) mk argsL.toArray X₁ hg hsize hdg hW (X₁.named hnamed) (hpre vm₁ X₁.warmed) with ⟨v, B, X', hpost, hsteps⟩ | ⟨q, B, X', hpost, hsteps⟩
  · exact Or.inl ⟨v, vm₁, B, X₁.warmed, X', hpost, fun target h => hstep₁ _ fun acts => by rw [doInvoke_state]; exact hsteps.trans h⟩
  · exact Or.inr ⟨q, vm₁, B, X₁.warmed, X', hpost, hstep₁ _ fun acts => by rw [doInvoke_state]; exact hsteps⟩
end Calls
theorem vx_cls {s : State} {T : State} {vm₁ : Vm} {E : String} {k : ClassId} (hW : s.WarmedH vm₁) (h : (T.setVm vm₁).vm.findClass E = some k) : s.vm.findClass E = some k := by
  have h1 : vm₁.findClass E = some k := h
  rw [hW.alike.findClass] at h1
  exact h1
/-- the method's frame g, with q thrown over it -/
def vx_W (p : Program) (l : Launch) (e : Env) (R : Room) (s : State) (m : MethodId) (args : Array Value) (below : List Frame) (meth : Method) (c : Code) (H : Heap) (locs : List Loc) (cells slots : Nat) (Q : State → Prop) (g : JFrame) (q : Addr) : Prop :=
  ∀ T : State, T.heap = H → Stand p l e R s m args below meth c T locs cells slots → ∃ t, Steps p.tables e below ((T.setTop g).pushFrame (.throwing q)) t ∧ Q t
def vx_Run (p : Program) (l : Launch) (e : Env) (R : Room) (s : State) (m : MethodId) (args : Array Value) (below : List Frame) (meth : Method) (c : Code) (H : Heap) (locs : List Loc) (cells slots mc ms : Nat) (g : JFrame) (rest : List Value) (Qa : State → Outcome → State → Prop) (XC : String → State → State → Prop) (free : Addr → Prop) : Prop :=
  ∀ T : State, T.heap = H → Stand p l e R s m args below meth c T locs cells slots →
    (∃ (v : Option Value) (st₀ t T' : State) (L : List Loc), st₀.heap = H ∧ Stand p l e R s m args below meth c T' (locs ++ L) (cells + mc) (slots + ms) ∧ (∀ q ∈ L, free q.base) ∧ T'.heap = t.heap ∧ T'.vm = t.vm ∧ Qa st₀ (.returned v) t ∧
      Goes p e below T g T' { g with pc := g.pc + 3, stack := v.toList ++ rest }) ∨
    (∃ (q : Addr) (st₀ t T' : State) (L : List Loc) (E : String) (ce : Cell), st₀.heap = H ∧ Stand p l e R s m args below meth c T' (locs ++ L) (cells + mc) (slots + ms) ∧ (∀ z ∈ L, free z.base) ∧ T'.heap = t.heap ∧ T'.vm = t.vm ∧ XC E st₀ t ∧ t.heap[q]? = some ce ∧ ce.vm = .none ∧ s.vm.findClass E = some ce.cls ∧
      Steps p.tables e below (T.setTop g) ((T'.setTop { g with stack := rest }).pushFrame (.throwing q)))
def vx_X {S : Type} (px : S → Prop) (B : String → S → State → Prop) (A : Nat → Prop) : String → State → State → Prop := fun E st t => ∃ u : S, px u ∧ B E u t ∧ va_F A st t
section Runs
variable {p : Program} {l : Launch} {e : Env} {R : Room} {s : State} {m : MethodId} {args : Array Value} {below : List Frame} {meth : Method} {c : Code} {H : Heap} {locs : List Loc} {cells slots : Nat}
variable {y : MethodName} {bytes cc : ByteArray} {maxL nL mc ms n index : Nat} {ret : Option FieldType} {ws : List Cond} {rm : Room} {Pc : Array Value → State → Prop} {Qc : Array Value → State → Outcome → State → Prop} {XC : String → State → State → Prop} {free : Addr → Prop} {Ts : List Cond} {own C : String} {b : Addr} {As rest : List Value} {g : JFrame}
theorem vx_callBack (cb : CallB R s args own index y bytes maxL ret ws rm mc ms n) (hM : vx_Met l y ws rm Pc Qc XC mc ms free) (hbl : FrameBlind Pc) : vx_Back l R p e below s args y 3 8 (PreOf R mc ms Pc) (PostOf Qc mc ms free) (vx_Post XC mc ms free) := by
  obtain ⟨hrc, hrs, hfr, hlo, hws, hcw, -, hini, -⟩ := cb
  exact vx_back (bytes := bytes) (maxL := maxL) (ret := ret) hM hbl hrc hrs hfr hlo hws hcw (fun a' U hW => word_at hW (Or.inl (by first | rfl | simp [Cond.onTables, Cond.keeps, Cond.steady])) hini)
theorem vx_runV (S : CallFix p m c cc nL s args Ts own) (hM : vx_Met l y ws rm Pc Qc XC mc ms free) (cw : CallW R s args own C index y bytes maxL ret ws rm mc ms n) (hp : PreV s H C b Pc As)
    (hg : g.method = m) (hn : As.length = n) (hsize : g.locals.size = nL) (hstack : g.stack = As.reverse ++ .ref b :: rest) (hW : 2 * g.monitorRoom + (rest.map fun v => v.category).sum ≤ 8) (hdg : decode cc g.pc = .ok (.invokevirtual index, 3)) (hf : cells + mc ≤ R.cells ∧ slots + ms ≤ R.slots) :
    vx_Run p l e R s m args below meth c H locs cells slots mc ms g rest (Qc (Value.ref b :: As).toArray) XC free := by
  have hK : vx_Back l R p e below s args y 3 8 (PreOf R mc ms Pc) (PostOf Qc mc ms free) (vx_Post XC mc ms free) := vx_callBack cw.1 hM hp.1
  obtain ⟨⟨-, -, -, -, -, -, hcode, -, hy, hlen, hl⟩, hin, hse⟩ := cw
  obtain ⟨hx, hb, hml, ho, -⟩ := S
  obtain ⟨-, ⟨cellB, hcB, hoB, hclB⟩, hPc⟩ := hp
  intro T hT X
  rcases vx_callV X hx (C := C) (bytes := bytes) (maxL := maxL) (ret := ret) ho hl hin hse hcode hy hK (by rw [hT]; exact hcB) hoB hclB hg (hsize.trans hml.symm) (argsL := As) (rest := rest) (fun sig h => hn.trans (hlen sig h)) hstack hW (by rw [hb]; exact hdg)
    (fun vm₁ hW₁ => ⟨hf.1, hf.2, hPc (T.setVm vm₁) hT hW₁⟩) with ⟨v, vm₁, ⟨U', l2, c2, s2⟩, hW₁, X', ⟨g', mk, t, L, e1, e2, hq, h1, hL, h2, h3⟩, st⟩ | ⟨q, vm₁, ⟨U', l2, c2, s2⟩, hW₁, X', ⟨g', mk, t, L, E, ce, e1, e2, hq, hce, hcv, hcl, h1, hL, h2, h3⟩, st⟩
  · dsimp only [Pt.U, Pt.locs, Pt.cells, Pt.slots] at X' e1 e2 h1 h2 h3 st
    subst h1; subst h2; subst h3
    exact Or.inl ⟨v, (T.setVm vm₁).calling g' mk (Value.ref b :: As).toArray, t, U', L, hT, X', hL, e1, e2, hq, st⟩
  · dsimp only [Pt.U, Pt.locs, Pt.cells, Pt.slots] at X' e1 e2 h1 h2 h3 st hcl
    subst h1; subst h2; subst h3
    exact Or.inr ⟨q, (T.setVm vm₁).calling g' mk (Value.ref b :: As).toArray, t, U', L, E, ce, hT, X', hL, e1, e2, hq, hce, hcv, vx_cls hW₁ hcl, st⟩
theorem vx_runS (S : CallFix p m c cc nL s args Ts own) (hM : vx_Met l y ws rm Pc Qc XC mc ms free) (cw : CallB R s args own index y bytes maxL ret ws rm mc ms n ∧ (Cond.static y).before args s = true) (hp : PreS s H Pc As)
    (hg : g.method = m) (hn : As.length = n) (hsize : g.locals.size = nL) (hstack : g.stack = As.reverse ++ rest) (hW : 2 * g.monitorRoom + (rest.map fun v => v.category).sum ≤ 8) (hdg : decode cc g.pc = .ok (.invokestatic index, 3)) (hf : cells + mc ≤ R.cells ∧ slots + ms ≤ R.slots) :
    vx_Run p l e R s m args below meth c H locs cells slots mc ms g rest (Qc As.toArray) XC free := by
  have hK : vx_Back l R p e below s args y 3 8 (PreOf R mc ms Pc) (PostOf Qc mc ms free) (vx_Post XC mc ms free) := vx_callBack cw.1 hM hp.1
  obtain ⟨⟨-, -, -, -, -, -, hcode, hini, hy, hlen, hl⟩, hstt⟩ := cw
  obtain ⟨hx, hb, hml, ho, -⟩ := S
  intro T hT X
  rcases vx_callS X hx (bytes := bytes) (maxL := maxL) (ret := ret) ho hl hstt hini hcode hy hK hg (hsize.trans hml.symm) (argsL := As) (rest := rest) (fun sig h => hn.trans (hlen sig h)) hstack hW (by rw [hb]; exact hdg)
    (fun vm₁ hW₁ => ⟨hf.1, hf.2, hp.2 (T.setVm vm₁) hT hW₁⟩) with ⟨v, vm₁, ⟨U', l2, c2, s2⟩, hW₁, X', ⟨g', mk, t, L, e1, e2, hq, h1, hL, h2, h3⟩, st⟩ | ⟨q, vm₁, ⟨U', l2, c2, s2⟩, hW₁, X', ⟨g', mk, t, L, E, ce, e1, e2, hq, hce, hcv, hcl, h1, hL, h2, h3⟩, st⟩
  · dsimp only [Pt.U, Pt.locs, Pt.cells, Pt.slots] at X' e1 e2 h1 h2 h3 st
    subst h1; subst h2; subst h3
    exact Or.inl ⟨v, (T.setVm vm₁).calling g' mk As.toArray, t, U', L, hT, X', hL, e1, e2, hq, st⟩
  · dsimp only [Pt.U, Pt.locs, Pt.cells, Pt.slots] at X' e1 e2 h1 h2 h3 st hcl
    subst h1; subst h2; subst h3
    exact Or.inr ⟨q, (T.setVm vm₁).calling g' mk As.toArray, t, U', L, E, ce, hT, X', hL, e1, e2, hq, hce, hcv, vx_cls hW₁ hcl, st⟩
end Runs
section Rows
variable {p : Program} {l : Launch} {e : Env} {R : Room} {s : State} {m : MethodId} {args : Array Value} {below : List Frame} {meth : Method} {c : Code} {H : Heap} {locs : List Loc} {cells slots : Nat} {Q : State → Prop}
variable {mc ms : Nat} {free : Addr → Prop} {A0 A1 : Nat → Prop} {H0 : Heap} {a : Array Value} {pc : Nat} {ls : Array Slot} {st0 rest : List Value}
theorem vx_keep {st₀ t T' : State} {L : List Loc} (h0 : st₀.heap = H) (e1 : T'.heap = t.heap) (hS : va_S A0 H0 H locs) (hA : ∀ q, q < H.size → A1 q → A0 q) (hf : ∀ q, free q → A0 q) (hL : ∀ q ∈ L, free q.base) (hF : va_F A1 st₀ t) :
    H.size ≤ T'.heap.size ∧ (∀ q : Nat, q < H.size → ¬ A1 q → T'.heap[q]? = H[q]?) ∧ va_S A0 H0 T'.heap (locs ++ L) := by
  obtain ⟨hz, hk⟩ := hF
  rw [h0] at hz hk
  exact ⟨by rw [e1]; exact hz, fun q h1 h2 => by rw [e1]; exact hk q h1 h2,
    ⟨Nat.le_trans hS.1 (by rw [e1]; exact hz), fun q h1 h2 => by rw [e1, hk q (Nat.lt_of_lt_of_le h1 hS.1) (fun z => h2 (hA q (Nat.lt_of_lt_of_le h1 hS.1) z))]; exact hS.2.1 q h1 h2, fun q hq => by
      rcases List.mem_append.mp hq with h | h
      · exact hS.2.2 q h
      · exact hf _ (hL q h)⟩⟩
theorem vx_calli {S SX : Type} {post : Int32 → S → Prop} {px : SX → Prop} {B : S → State → Prop} {BX : String → SX → State → Prop} {AX : Nat → Prop} (hr : vx_Run p l e R s m args below meth c H locs cells slots mc ms (F0 m pc ls st0) rest (va_Qi post B A1 a) (vx_X px BX AX) free) (hS : va_S A0 H0 H locs) (hA : ∀ q, q < H.size → A1 q → A0 q) (hf : ∀ q, free q → A0 q) (hAX : ∀ q, q < H.size → AX q → A0 q)
    (kx : ∀ (E : String) (ce : Cell) (q9 : Addr) (u : SX) (t : State) (H1 : Heap) (locs1 : List Loc), t.heap = H1 → s.vm.Alike t.vm → px u → BX E u t → H.size ≤ H1.size → (∀ q : Nat, q < H.size → ¬ AX q → H1[q]? = H[q]?) → va_S A0 H0 H1 locs1 → H1[q9]? = some ce → ce.vm = .none → s.vm.findClass E = some ce.cls → vx_W p l e R s m args below meth c H1 locs1 (cells + mc) (slots + ms) Q (F0 m pc ls rest) q9)
    (kk : ∀ (r : Int32) (u : S) (t : State) (H1 : Heap) (locs1 : List Loc), t.heap = H1 → s.vm.Alike t.vm → post r u → B u t → H.size ≤ H1.size → (∀ q : Nat, q < H.size → ¬ A1 q → H1[q]? = H[q]?) → va_S A0 H0 H1 locs1 → W p l e R s m args below meth c H1 locs1 (cells + mc) (slots + ms) Q (F0 m (pc + 3) ls (.int r :: rest))) : W p l e R s m args below meth c H locs cells slots Q (F0 m pc ls st0) := by
  intro T hT X
  rcases hr T hT X with ⟨v, st₀, t, T', L, h0, X', hL, e1, e2, ⟨⟨r, u, hv, hp, hb⟩, hF⟩, st⟩ | ⟨q, st₀, t, T', L, E, ce, h0, X', hL, e1, e2, ⟨u, hp, hb, hF⟩, hce, hcv, hcl, st⟩
  · cases hv
    obtain ⟨k1, k2, k3⟩ := vx_keep h0 e1 hS hA hf hL hF
    obtain ⟨t2, a1, b1⟩ := kk r u t T'.heap (locs ++ L) e1.symm (by rw [← e2]; exact X'.warmed.alike) hp hb k1 k2 k3 T' rfl X'
    exact ⟨t2, st t2 a1, b1⟩
  · obtain ⟨k1, k2, k3⟩ := vx_keep h0 e1 hS hAX hf hL hF
    obtain ⟨t2, a1, b1⟩ := kx E ce q u t T'.heap (locs ++ L) e1.symm (by rw [← e2]; exact X'.warmed.alike) hp hb k1 k2 k3 (by rw [e1]; exact hce) hcv hcl T' rfl X'
    exact ⟨t2, st.trans a1, b1⟩
theorem vx_calll {S SX : Type} {post : Int64 → S → Prop} {px : SX → Prop} {B : S → State → Prop} {BX : String → SX → State → Prop} {AX : Nat → Prop} (hr : vx_Run p l e R s m args below meth c H locs cells slots mc ms (F0 m pc ls st0) rest (va_Ql post B A1 a) (vx_X px BX AX) free) (hS : va_S A0 H0 H locs) (hA : ∀ q, q < H.size → A1 q → A0 q) (hf : ∀ q, free q → A0 q) (hAX : ∀ q, q < H.size → AX q → A0 q)
    (kx : ∀ (E : String) (ce : Cell) (q9 : Addr) (u : SX) (t : State) (H1 : Heap) (locs1 : List Loc), t.heap = H1 → s.vm.Alike t.vm → px u → BX E u t → H.size ≤ H1.size → (∀ q : Nat, q < H.size → ¬ AX q → H1[q]? = H[q]?) → va_S A0 H0 H1 locs1 → H1[q9]? = some ce → ce.vm = .none → s.vm.findClass E = some ce.cls → vx_W p l e R s m args below meth c H1 locs1 (cells + mc) (slots + ms) Q (F0 m pc ls rest) q9)
    (kk : ∀ (r : Int64) (u : S) (t : State) (H1 : Heap) (locs1 : List Loc), t.heap = H1 → s.vm.Alike t.vm → post r u → B u t → H.size ≤ H1.size → (∀ q : Nat, q < H.size → ¬ A1 q → H1[q]? = H[q]?) → va_S A0 H0 H1 locs1 → W p l e R s m args below meth c H1 locs1 (cells + mc) (slots + ms) Q (F0 m (pc + 3) ls (.long r :: rest))) : W p l e R s m args below meth c H locs cells slots Q (F0 m pc ls st0) := by
  intro T hT X
  rcases hr T hT X with ⟨v, st₀, t, T', L, h0, X', hL, e1, e2, ⟨⟨r, u, hv, hp, hb⟩, hF⟩, st⟩ | ⟨q, st₀, t, T', L, E, ce, h0, X', hL, e1, e2, ⟨u, hp, hb, hF⟩, hce, hcv, hcl, st⟩
  · cases hv
    obtain ⟨k1, k2, k3⟩ := vx_keep h0 e1 hS hA hf hL hF
    obtain ⟨t2, a1, b1⟩ := kk r u t T'.heap (locs ++ L) e1.symm (by rw [← e2]; exact X'.warmed.alike) hp hb k1 k2 k3 T' rfl X'
    exact ⟨t2, st t2 a1, b1⟩
  · obtain ⟨k1, k2, k3⟩ := vx_keep h0 e1 hS hAX hf hL hF
    obtain ⟨t2, a1, b1⟩ := kx E ce q u t T'.heap (locs ++ L) e1.symm (by rw [← e2]; exact X'.warmed.alike) hp hb k1 k2 k3 (by rw [e1]; exact hce) hcv hcl T' rfl X'
    exact ⟨t2, st.trans a1, b1⟩
theorem vx_callf {S SX : Type} {post : UInt32 → S → Prop} {px : SX → Prop} {B : S → State → Prop} {BX : String → SX → State → Prop} {AX : Nat → Prop} (hr : vx_Run p l e R s m args below meth c H locs cells slots mc ms (F0 m pc ls st0) rest (va_Qf post B A1 a) (vx_X px BX AX) free) (hS : va_S A0 H0 H locs) (hA : ∀ q, q < H.size → A1 q → A0 q) (hf : ∀ q, free q → A0 q) (hAX : ∀ q, q < H.size → AX q → A0 q)
    (kx : ∀ (E : String) (ce : Cell) (q9 : Addr) (u : SX) (t : State) (H1 : Heap) (locs1 : List Loc), t.heap = H1 → s.vm.Alike t.vm → px u → BX E u t → H.size ≤ H1.size → (∀ q : Nat, q < H.size → ¬ AX q → H1[q]? = H[q]?) → va_S A0 H0 H1 locs1 → H1[q9]? = some ce → ce.vm = .none → s.vm.findClass E = some ce.cls → vx_W p l e R s m args below meth c H1 locs1 (cells + mc) (slots + ms) Q (F0 m pc ls rest) q9)
    (kk : ∀ (r : UInt32) (u : S) (t : State) (H1 : Heap) (locs1 : List Loc), t.heap = H1 → s.vm.Alike t.vm → post r u → B u t → H.size ≤ H1.size → (∀ q : Nat, q < H.size → ¬ A1 q → H1[q]? = H[q]?) → va_S A0 H0 H1 locs1 → W p l e R s m args below meth c H1 locs1 (cells + mc) (slots + ms) Q (F0 m (pc + 3) ls (.float r :: rest))) : W p l e R s m args below meth c H locs cells slots Q (F0 m pc ls st0) := by
  intro T hT X
  rcases hr T hT X with ⟨v, st₀, t, T', L, h0, X', hL, e1, e2, ⟨⟨r, u, hv, hp, hb⟩, hF⟩, st⟩ | ⟨q, st₀, t, T', L, E, ce, h0, X', hL, e1, e2, ⟨u, hp, hb, hF⟩, hce, hcv, hcl, st⟩
  · cases hv
    obtain ⟨k1, k2, k3⟩ := vx_keep h0 e1 hS hA hf hL hF
    obtain ⟨t2, a1, b1⟩ := kk r u t T'.heap (locs ++ L) e1.symm (by rw [← e2]; exact X'.warmed.alike) hp hb k1 k2 k3 T' rfl X'
    exact ⟨t2, st t2 a1, b1⟩
  · obtain ⟨k1, k2, k3⟩ := vx_keep h0 e1 hS hAX hf hL hF
    obtain ⟨t2, a1, b1⟩ := kx E ce q u t T'.heap (locs ++ L) e1.symm (by rw [← e2]; exact X'.warmed.alike) hp hb k1 k2 k3 (by rw [e1]; exact hce) hcv hcl T' rfl X'
    exact ⟨t2, st.trans a1, b1⟩
theorem vx_calld {S SX : Type} {post : UInt64 → S → Prop} {px : SX → Prop} {B : S → State → Prop} {BX : String → SX → State → Prop} {AX : Nat → Prop} (hr : vx_Run p l e R s m args below meth c H locs cells slots mc ms (F0 m pc ls st0) rest (va_Qd post B A1 a) (vx_X px BX AX) free) (hS : va_S A0 H0 H locs) (hA : ∀ q, q < H.size → A1 q → A0 q) (hf : ∀ q, free q → A0 q) (hAX : ∀ q, q < H.size → AX q → A0 q)
    (kx : ∀ (E : String) (ce : Cell) (q9 : Addr) (u : SX) (t : State) (H1 : Heap) (locs1 : List Loc), t.heap = H1 → s.vm.Alike t.vm → px u → BX E u t → H.size ≤ H1.size → (∀ q : Nat, q < H.size → ¬ AX q → H1[q]? = H[q]?) → va_S A0 H0 H1 locs1 → H1[q9]? = some ce → ce.vm = .none → s.vm.findClass E = some ce.cls → vx_W p l e R s m args below meth c H1 locs1 (cells + mc) (slots + ms) Q (F0 m pc ls rest) q9)
    (kk : ∀ (r : UInt64) (u : S) (t : State) (H1 : Heap) (locs1 : List Loc), t.heap = H1 → s.vm.Alike t.vm → post r u → B u t → H.size ≤ H1.size → (∀ q : Nat, q < H.size → ¬ A1 q → H1[q]? = H[q]?) → va_S A0 H0 H1 locs1 → W p l e R s m args below meth c H1 locs1 (cells + mc) (slots + ms) Q (F0 m (pc + 3) ls (.double r :: rest))) : W p l e R s m args below meth c H locs cells slots Q (F0 m pc ls st0) := by
  intro T hT X
  rcases hr T hT X with ⟨v, st₀, t, T', L, h0, X', hL, e1, e2, ⟨⟨r, u, hv, hp, hb⟩, hF⟩, st⟩ | ⟨q, st₀, t, T', L, E, ce, h0, X', hL, e1, e2, ⟨u, hp, hb, hF⟩, hce, hcv, hcl, st⟩
  · cases hv
    obtain ⟨k1, k2, k3⟩ := vx_keep h0 e1 hS hA hf hL hF
    obtain ⟨t2, a1, b1⟩ := kk r u t T'.heap (locs ++ L) e1.symm (by rw [← e2]; exact X'.warmed.alike) hp hb k1 k2 k3 T' rfl X'
    exact ⟨t2, st t2 a1, b1⟩
  · obtain ⟨k1, k2, k3⟩ := vx_keep h0 e1 hS hAX hf hL hF
    obtain ⟨t2, a1, b1⟩ := kx E ce q u t T'.heap (locs ++ L) e1.symm (by rw [← e2]; exact X'.warmed.alike) hp hb k1 k2 k3 (by rw [e1]; exact hce) hcv hcl T' rfl X'
    exact ⟨t2, st.trans a1, b1⟩
theorem vx_callv {S SX : Type} {post : S → Prop} {px : SX → Prop} {B : S → State → Prop} {BX : String → SX → State → Prop} {AX : Nat → Prop} (hr : vx_Run p l e R s m args below meth c H locs cells slots mc ms (F0 m pc ls st0) rest (va_Qv post B A1 a) (vx_X px BX AX) free) (hS : va_S A0 H0 H locs) (hA : ∀ q, q < H.size → A1 q → A0 q) (hf : ∀ q, free q → A0 q) (hAX : ∀ q, q < H.size → AX q → A0 q)
    (kx : ∀ (E : String) (ce : Cell) (q9 : Addr) (u : SX) (t : State) (H1 : Heap) (locs1 : List Loc), t.heap = H1 → s.vm.Alike t.vm → px u → BX E u t → H.size ≤ H1.size → (∀ q : Nat, q < H.size → ¬ AX q → H1[q]? = H[q]?) → va_S A0 H0 H1 locs1 → H1[q9]? = some ce → ce.vm = .none → s.vm.findClass E = some ce.cls → vx_W p l e R s m args below meth c H1 locs1 (cells + mc) (slots + ms) Q (F0 m pc ls rest) q9)
    (kk : ∀ (u : S) (t : State) (H1 : Heap) (locs1 : List Loc), t.heap = H1 → s.vm.Alike t.vm → post u → B u t → H.size ≤ H1.size → (∀ q : Nat, q < H.size → ¬ A1 q → H1[q]? = H[q]?) → va_S A0 H0 H1 locs1 → W p l e R s m args below meth c H1 locs1 (cells + mc) (slots + ms) Q (F0 m (pc + 3) ls (rest))) : W p l e R s m args below meth c H locs cells slots Q (F0 m pc ls st0) := by
  intro T hT X
  rcases hr T hT X with ⟨v, st₀, t, T', L, h0, X', hL, e1, e2, ⟨⟨u, hv, hp, hb⟩, hF⟩, st⟩ | ⟨q, st₀, t, T', L, E, ce, h0, X', hL, e1, e2, ⟨u, hp, hb, hF⟩, hce, hcv, hcl, st⟩
  · cases hv
    obtain ⟨k1, k2, k3⟩ := vx_keep h0 e1 hS hA hf hL hF
    obtain ⟨t2, a1, b1⟩ := kk u t T'.heap (locs ++ L) e1.symm (by rw [← e2]; exact X'.warmed.alike) hp hb k1 k2 k3 T' rfl X'
    exact ⟨t2, st t2 a1, b1⟩
  · obtain ⟨k1, k2, k3⟩ := vx_keep h0 e1 hS hAX hf hL hF
    obtain ⟨t2, a1, b1⟩ := kx E ce q u t T'.heap (locs ++ L) e1.symm (by rw [← e2]; exact X'.warmed.alike) hp hb k1 k2 k3 (by rw [e1]; exact hce) hcv hcl T' rfl X'
    exact ⟨t2, st.trans a1, b1⟩
end Rows
section Ends
variable {p : Program} {l : Launch} {e : Env} {R : Room} {s : State} {m : MethodId} {args : Array Value} {below : List Frame} {meth : Method} {c : Code} {H : Heap} {locs : List Loc} {cells slots : Nat} {Q : State → Prop}
variable {mc ms : Nat} {free : Addr → Prop} {A0 A1 : Nat → Prop} {H0 : Heap} {a : Array Value} {ls : Array Slot} {st0 rest : List Value}
variable {Qc : Array Value → State → Outcome → State → Prop} {XC : String → State → State → Prop}
/-- what a body that may throw owes at its end -/
def vx_MQ (below : List Frame) (Qc : Array Value → State → Outcome → State → Prop) (XC : String → State → State → Prop) (a : Array Value) (s : State) (mc ms : Nat) (free : Addr → Prop) : State → Prop := fun t =>
  ∃ o, t.status = .running ∧ Ended t below o ∧ vx_Q Qc XC mc ms free a s o t
theorem vx_ret {g : JFrame} {mc ms : Nat} (k : W p l e R s m args below meth c H locs cells slots (MQ below Qc args s mc ms free) g) : W p l e R s m args below meth c H locs cells slots (vx_MQ below Qc XC args s mc ms free) g := by
  intro T hT X
  obtain ⟨t, a1, o, b1, b2, b3, b4⟩ := k T hT X
  exact ⟨t, a1, o, b1, b2, Or.inl ⟨b3, b4⟩⟩
/-- not caught here: it goes on to the caller -/
theorem vx_widen {g : JFrame} {q : Addr} {k n : Nat} (h1 : cells ≤ k) (h2 : slots ≤ n) (kk : vx_W p l e R s m args below meth c H locs k n Q g q) : vx_W p l e R s m args below meth c H locs cells slots Q g q := fun T hT X => kk T hT (stand_widen X h1 h2)
theorem vx_out {pc : Nat} {E : String} {ce : Cell} {q : Addr} {mc ms : Nat} (hout : ∀ x ∈ c.exceptionTable.toList, covers x pc = false) (hlocks : meth.locks = false) (hcell : H[q]? = some ce) (hv : ce.vm = .none) (hcl : s.vm.findClass E = some ce.cls)
    (hx : ∀ t : State, t.heap = H → s.vm.Alike t.vm → XC E s t) (hf : ∀ z ∈ locs, free z.base) (hc : cells ≤ mc) (hs : slots ≤ ms) :
    vx_W p l e R s m args below meth c H locs cells slots (vx_MQ below Qc XC args s mc ms free) (F0 m pc ls rest) q := by
  intro T hT X
  obtain ⟨st1, hrun, hend, hW, hsm⟩ := X.leaveThrown q (g := F0 m pc ls rest) rfl rfl rfl hout hlocks
  have hcell9 : (T.setFrames (.throwing q :: below)).heap[q]? = some ce := by
    show T.heap[q]? = some ce
    rw [hT]; exact hcell
  exact ⟨_, st1, .threw q, hrun, hend, Or.inr ⟨q, rfl, E, ce, locs, hx _ hT hW.alike, hcell9, hv, hcl, hW, hsm.mono hc hs, hf⟩⟩
theorem vx_frame {U : State} {k n : Nat} (h : s.sameButNew ({ U with vm := s.vm } : State) locs k n) : s.heap.size ≤ U.heap.size ∧ ∀ q : Nat, q < s.heap.size → (∀ z ∈ locs, z.base ≠ q) → U.heap[q]? = s.heap[q]? := by
  obtain ⟨-, h2, -, -, -, h6⟩ := h
  refine ⟨h2, fun q hq hz => ?_⟩
  obtain ⟨c9, e1, e2, e3, e4⟩ := h6 q _ (Array.getElem?_eq_getElem hq)
  have hs : c9.slots = (s.heap[q]).slots := Array.ext_getElem? fun i => e4 i fun hm => hz _ hm rfl
  have h9 : c9 = s.heap[q] := by
    rw [hs] at e2
    exact e2
  have e5 : U.heap[q]? = some c9 := e1
  rw [e5, h9, Array.getElem?_eq_getElem hq]
/-- the words of a throw but the four that speak of the heap -/
def vx_no (w : Cond) : Bool := decide (w ≠ .isRef (.static Bundle.tN "UNASSIGNED_STACK" Bundle.steD)) && decide (w ≠ .isRef (.static Bundle.tN "SUPPRESSED_SENTINEL" Bundle.listD)) && decide (w ≠ .laysStatic Bundle.tN "UNASSIGNED_STACK" Bundle.steD) && decide (w ≠ .laysStatic Bundle.tN "SUPPRESSED_SENTINEL" Bundle.listD)
def vx_at0 (own : String) (ic : Nat) (X : String) (names : List String) : List Cond := (Bundle.ownAtoms0 own ic X names).filter vx_no
def vx_atS (own : String) (ic : Nat) (X : String) (names : List String) : List Cond := (Bundle.ownAtoms own ic X names).filter vx_no
/-- a word that the tables alone decide, or a good one -/
def vx_ot (w : Cond) : Bool := w.onTables || goodWord w
theorem vx_ot_at {args a' : Array Value} {s U : State} {w : Cond} (hW : s.WarmedH U.vm) (hvm : s.vm = U.vm) (hg : vx_ot w = true) (h : w.before args s = true) : w.before a' U = true := by
  simp only [vx_ot, Bool.or_eq_true] at hg
  rcases hg with hg | hg
  · exact va_tabs hg hvm h
  · exact word_at hW (good_of_word hg) h
/-- a list's words: the good ones out of the method's own list, the others by premises of their own -/
theorem vx_hat {args : Array Value} {s : State} {L B : List Cond} (h1 : ∀ w ∈ L.filter goodWord, w.before args s = true) (h2 : ∀ w ∈ L.filter (fun w => !goodWord w), w ∈ B) (h3 : ∀ w ∈ B, w.before args s = true) : ∀ w ∈ L, w.before args s = true := by
  intro w hw
  by_cases g : goodWord w = true
  · exact h1 w (List.mem_filter.mpr ⟨hw, g⟩)
  · refine h3 w (h2 w (List.mem_filter.mpr ⟨hw, ?_⟩))
    show (!goodWord w) = true
    cases hgw : goodWord w
    · rfl
    · exact absurd hgw g
theorem vx_c {args : Array Value} {s : State} {w : Cond} {B : List Cond} (h : w.before args s = true) (t : ∀ w ∈ B, w.before args s = true) : ∀ w' ∈ w :: B, w'.before args s = true := fun w' h' => (List.mem_cons.mp h').elim (fun e => by rw [e]; exact h) (t w')
theorem vx_n {args : Array Value} {s : State} : ∀ w ∈ ([] : List Cond), w.before args s = true := fun _ h => nomatch h
theorem vx_own {args : Array Value} {s : State} {L : List Cond} (h1 : ∀ w ∈ L.filter vx_no, w.before args s = true)
    (hU : (Cond.isRef (.static Bundle.tN "UNASSIGNED_STACK" Bundle.steD)).before args s = true) (hN : (Cond.isRef (.static Bundle.tN "SUPPRESSED_SENTINEL" Bundle.listD)).before args s = true)
    (lU : (Cond.laysStatic Bundle.tN "UNASSIGNED_STACK" Bundle.steD).before args s = true) (lN : (Cond.laysStatic Bundle.tN "SUPPRESSED_SENTINEL" Bundle.listD).before args s = true) : ∀ w ∈ L, w.before args s = true := by
  intro w hw
  by_cases e1 : w = .isRef (.static Bundle.tN "UNASSIGNED_STACK" Bundle.steD)
  · rw [e1]; exact hU
  · by_cases e2 : w = .isRef (.static Bundle.tN "SUPPRESSED_SENTINEL" Bundle.listD)
    · rw [e2]; exact hN
    · by_cases e3 : w = .laysStatic Bundle.tN "UNASSIGNED_STACK" Bundle.steD
      · rw [e3]; exact lU
      · by_cases e4 : w = .laysStatic Bundle.tN "SUPPRESSED_SENTINEL" Bundle.listD
        · rw [e4]; exact lN
        · exact h1 w (List.mem_filter.mpr ⟨hw, by unfold vx_no; rw [decide_eq_true e1, decide_eq_true e2, decide_eq_true e3, decide_eq_true e4]; rfl⟩)
/-- where a static field lies, its class's statics cell in H -/
def vx_L (C n d : String) (A : Nat → Prop) (U : State) (H : Heap) : Prop := ∃ (c : ClassId) (k : Class) (i : Nat) (f : Field) (a : Nat) (cell : Cell), U.vm.findClass C = some c ∧ U.fieldFound? C n d = some (c, k, i, f) ∧ f.isStatic = true ∧ k.statics = some a ∧ H[a]? = some cell ∧ cell.vm.isStatics = true ∧ cell.cls = c ∧ f.slot < cell.slots.size ∧ k.staticTypes[f.slot]? = some f.type ∧ ¬ A a
theorem vx_L.moved {C n d : String} {A : Nat → Prop} {u U : State} {H : Heap} (hvm : u.vm.Alike U.vm) (h : vx_L C n d A u H) : vx_L C n d A U H := by
  obtain ⟨c, k, i, f, a, cell, h1, h2, h3, h4, h5, h6, h7, h8, h9, h10⟩ := h
  obtain ⟨k', hi', he⟩ := State.fieldFound?_setVm hvm h2
  exact ⟨c, k', i, f, a, cell, by rw [hvm.findClass]; exact h1, hi', h3, by rw [he]; exact h4, h5, h6, h7, h8, by rw [he]; exact h9, h10⟩
theorem vx_L.kept {C n d : String} {A : Nat → Prop} {U : State} {H H1 : Heap} (h : vx_L C n d A U H) (hq : ∀ a : Nat, a < H.size → ¬ A a → H1[a]? = H[a]?) : vx_L C n d A U H1 := by
  obtain ⟨c, k, i, f, a, cell, h1, h2, h3, h4, h5, h6, h7, h8, h9, h10⟩ := h
  exact ⟨c, k, i, f, a, cell, h1, h2, h3, h4, by rw [hq a (Array.getElem?_eq_some_iff.mp h5).1 h10]; exact h5, h6, h7, h8, h9, h10⟩
theorem vx_L.narrow {C n d : String} {A B : Nat → Prop} {U : State} {H : Heap} (h : vx_L C n d A U H) (hAB : ∀ q, B q → A q) : vx_L C n d B U H := by
  obtain ⟨c, k, i, f, a, cell, h1, h2, h3, h4, h5, h6, h7, h8, h9, h10⟩ := h
  exact ⟨c, k, i, f, a, cell, h1, h2, h3, h4, h5, h6, h7, h8, h9, fun z => h10 (hAB _ z)⟩
theorem vx_L.word {C n d : String} {A : Nat → Prop} {s : State} {args : Array Value} (h : vx_L C n d A s s.heap) : (Cond.laysStatic C n d).before args s = true := by
  obtain ⟨c, k, i, f, a, cell, h1, h2, h3, h4, h5, h6, h7, h8, h9, -⟩ := h
  show (Cond.laysStatic C n d).holds args s none s [] = true
  exact Cond.laysStatic_of h1 h2 h3 h4 h5 h6 h7 h8 h9
/-- .. and what it holds: null or some reference -/
def vx_Zq (C n d : String) (A : Nat → Prop) (U : State) (H : Heap) : Prop := va_Zq C n d A U H ∧ vx_L C n d A U H
theorem vx_Zq.moved {C n d : String} {A : Nat → Prop} {u U : State} {H : Heap} (hvm : u.vm.Alike U.vm) (h : vx_Zq C n d A u H) : vx_Zq C n d A U H := ⟨va_Zq.moved hvm h.1, vx_L.moved hvm h.2⟩
theorem vx_Zq.kept {C n d : String} {A : Nat → Prop} {U : State} {H H1 : Heap} (h : vx_Zq C n d A U H) (hq : ∀ a : Nat, a < H.size → ¬ A a → H1[a]? = H[a]?) : vx_Zq C n d A U H1 := ⟨va_Zq.kept h.1 hq, vx_L.kept h.2 hq⟩
theorem vx_Zq.narrow {C n d : String} {A B : Nat → Prop} {U : State} {H : Heap} (h : vx_Zq C n d A U H) (hAB : ∀ q, B q → A q) : vx_Zq C n d B U H := ⟨va_Zq.narrow h.1 hAB, vx_L.narrow h.2 hAB⟩
theorem vx_Zqof {args : Array Value} {s : State} {C n d : String} {A : Nat → Prop} (hl : (Cond.laysStatic C n d).before args s = true) (hini : (Cond.initialized C).before args s = true) (h : (Cond.isRef (.static C n d)).before args s = true) (hA : ∀ a : Nat, a < s.heap.size → ¬ A a) : vx_Zq C n d A s s.heap := by
  refine ⟨va_Zqof hl hini h hA, ?_⟩
  obtain ⟨c, k, i, f, a, cell, h1, h2, h3, h4, h5, h6, h7, h8, h9⟩ := Cond.laysStatic_spec hl
  exact ⟨c, k, i, f, a, cell, h1, h2, h3, h4, h5, h6, h7, h8, h9, hA a (Array.getElem?_eq_some_iff.mp h5).1⟩
theorem vx_isRef {C n d : String} {v : Value} {A : Nat → Prop} {s : State} {args : Array Value} (h : va_Z C n d v A s s.heap) (hv : v.isRef = true) : (Cond.isRef (.static C n d)).before args s = true := by
  obtain ⟨cf, kf, fi, f, a, cell, h1, h2, h3, h4, h5, h6, h7, -⟩ := h
  have he : (Term.static C n d).eval args s none [] s = some v := by
    simp [Term.eval, State.fieldNamed?, h1, h2, h4, h5, h6, h7]
  simp only [Cond.before, Cond.holds, Cond.value, he]
  cases v <;> simp_all [Value.isRef]
theorem vx_isRefq {C n d : String} {A : Nat → Prop} {s : State} {args : Array Value} (h : va_Zq C n d A s s.heap) : (Cond.isRef (.static C n d)).before args s = true := by
  rcases h with h | ⟨t, h⟩
  · exact vx_isRef h rfl
  · exact vx_isRef h rfl
/-- the same frame, seen from here: as if the method were called anew in this heap -/
theorem vx_rebase {T : State} (X : Stand p l e R s m args below meth c T locs cells slots) {R' : Room} (hf : R'.frames ≤ R.frames) (hl : R'.locals ≤ R.locals) (hc : cells + R'.cells ≤ R.cells) (hs : slots + R'.slots ≤ R.slots) :
    Stand p l e R' ((T.setVm s.vm).setFrames (.invoking m args :: below)) m args below meth c T [] 0 0 := by
  have htop : (T.setVm s.vm).topJava?.isSome := X.here.top
  have hF : ((T.setVm s.vm).setFrames (.invoking m args :: below)).frames = .invoking m args :: below := State.frames_setFrames _ (State.cur_lt_of_top htop)
  obtain ⟨g₀, hg0⟩ := Option.isSome_iff_exists.mp htop
  obtain ⟨r, hr⟩ := State.topJava?_eq_some.mp hg0
  have hl9 : e.platform.stackLimits (T.setVm s.vm).me = e.platform.stackLimits s.me := X.limits
  have hb9 : (T.setVm s.vm).me.stackBytes = s.me.stackBytes := X.bytes
  refine ⟨X.admits, X.cas, X.clock, hF, ?_, X.hears, X.method, X.code, X.here, X.tail, X.warmed, ?_, ?_, ?_⟩
  · have h := X.room
    have hU : ((T.setVm s.vm).setFrames (.invoking m args :: below)).localsInUse = s.localsInUse := by
      rw [State.localsInUse_invoking hF (meth := meth) (c := c) X.method X.code, State.localsInUse_invoking X.frames X.method X.code]
    simp only [State.hasRoom, Bool.and_eq_true, decide_eq_true_eq] at h ⊢
    obtain ⟨⟨⟨⟨h1, h2, h3, h4, h5, h6⟩, h7⟩, h8⟩, h9⟩ := h
    rw [X.frames, List.length_cons] at h2 h3
    have q1 := X.heapSize
    have q2 := X.used
    simp only [hF, hU, List.length_cons, State.stackLimits_setFrames, State.stackBytes_setFrames, hl9, hb9]
    refine ⟨⟨⟨⟨by omega, by omega, by omega, by omega, by omega, h6⟩, ?_⟩, ?_⟩, X.book⟩
    · show T.heap.size + R'.cells ≤ e.platform.maxCells
      omega
    · show T.slotsUsed + R'.slots ≤ e.platform.maxSlots
      omega
  · rw [State.stackLimits_setFrames]; rfl
  · rw [State.stackBytes_setFrames]; rfl
  · refine ⟨?_, Nat.le_refl _, Nat.le_refl _, ?_, ?_, fun a c9 h9 => ⟨c9, h9, rfl, rfl, fun _ _ => rfl⟩⟩
    · obtain ⟨t, ht, -⟩ := State.frames_cons hr
      show T.setVm s.vm = { ((T.setVm s.vm).setFrames (.invoking m args :: below)).setFrames (T.setVm s.vm).frames with heap := T.heap, slotsUsed := T.slotsUsed }
      rw [State.setFrames_setFrames, State.setFrames_self ht]
      rfl
    · show T.slotsUsed = T.slotsUsed + ((T.heap.toList.drop T.heap.size).map (·.slots.size)).sum
      rw [List.drop_eq_nil_of_le (Nat.le_of_eq Array.length_toList)]
      rfl
    · show ((T.heap.toList.drop T.heap.size).map (·.slots.size)).sum ≤ 0
      rw [List.drop_eq_nil_of_le (Nat.le_of_eq Array.length_toList)]
      exact Nat.le_refl _
/-- 'throw new E()': new; dup; invokespecial; athrow -/
theorem vx_throw0 {cc : ByteArray} {pc : Nat} (hexec : p.tables.exec = Jvm.exec) (hb : c.code = cc) (hl : l.stackTraces = false) {own cls : String} {names : List String} {ik ic mc ms : Nat} {A : Nat → Prop}
    (hown : s.vm.findClass own = some m.cls) (hcls : Bundle.fit cls = true) (hnames : ∀ n ∈ names, Bundle.fit n = true)
    (hk : (Cond.classLink own ik cls).before args s = true) (hini : (Cond.initialized cls).before args s = true) (hat : ∀ w ∈ vx_at0 own ic cls names, w.before args s = true)
    (hgood : ∀ w ∈ Cond.classLink own ik cls :: Cond.initialized cls :: vx_at0 own ic cls names, vx_ot w = true)
    (hU : vx_Zq Bundle.tN "UNASSIGNED_STACK" Bundle.steD A s s.heap) (hN : vx_Zq Bundle.tN "SUPPRESSED_SENTINEL" Bundle.listD A s s.heap) (hS : va_S A s.heap H locs) (hsize : ls.size = c.maxLocals)
    (d0 : decode cc pc = .ok (.new ik, 3)) (d3 : decode cc (pc + 3) = .ok (.dup, 1)) (d4 : decode cc (pc + 4) = .ok (.invokespecial ic, 3)) (d7 : decode cc (pc + 7) = .ok (.athrow, 1))
    (hout : ∀ x ∈ c.exceptionTable.toList, covers x (pc + 7) = false)
    (hRframes : names.length + 3 < R.frames) (hRlocals : (rest.map fun v => v.category).sum + (13 * (names.length + 1) + 42) ≤ R.locals) (hRcells : cells + 1 ≤ R.cells) (hRslots : slots + 6 ≤ R.slots) (hlocks : meth.locks = false)
    (hx : ∀ t : State, s.vm.Alike t.vm → H.size ≤ t.heap.size → (∀ q : Nat, q < H.size → t.heap[q]? = H[q]?) → XC cls s t)
    (hf : ∀ z ∈ locs, free z.base) (hc : cells + 1 ≤ mc) (hs : slots + 6 ≤ ms) :
    W p l e R s m args below meth c H locs cells slots (vx_MQ below Qc XC args s mc ms free) (F0 m pc ls rest) := by
  intro T hT X
  have htr : e.platform.stackTraces = false := (show e.platform.stackTraces = l.stackTraces by rw [X.admits.platform]).trans hl
  have Y := vx_rebase X (R' := { frames := R.frames, locals := R.locals, cells := 1, slots := 6 }) (Nat.le_refl _) (Nat.le_refl _) hRcells hRslots
  obtain ⟨s', hA⟩ : ∃ z, z = (T.setVm s.vm).setFrames (.invoking m args :: below) := ⟨_, rfl⟩
  rw [← hA] at Y
  have hvm : s'.vm = s.vm := by rw [hA]; rfl
  have hhp : s'.heap = H := by rw [hA]; exact hT
  have hW0 : s.WarmedH s'.vm := by rw [hvm]; exact State.WarmedH.refl s
  have hat' : ∀ w ∈ vx_at0 own ic cls names, w.before args s' = true := fun w hw => vx_ot_at hW0 hvm.symm (hgood w (List.mem_cons_of_mem _ (List.mem_cons_of_mem _ hw))) (hat w hw)
  have hk' : (Cond.classLink own ik cls).before args s' = true := vx_ot_at hW0 hvm.symm (hgood _ List.mem_cons_self) hk
  have hini' : (Cond.initialized cls).before args s' = true := vx_ot_at hW0 hvm.symm (hgood _ (List.mem_cons_of_mem _ List.mem_cons_self)) hini
  have hU' : vx_Zq Bundle.tN "UNASSIGNED_STACK" Bundle.steD A s' s'.heap := by rw [hhp]; exact vx_Zq.moved hW0.alike (hU.kept hS.2.1)
  have hN' : vx_Zq Bundle.tN "SUPPRESSED_SENTINEL" Bundle.listD A s' s'.heap := by rw [hhp]; exact vx_Zq.moved hW0.alike (hN.kept hS.2.1)
  have h : ∀ w ∈ Bundle.ownAtoms0 own ic cls names, w.before args s' = true := vx_own hat' (vx_isRefq hU'.1) (vx_isRefq hN'.1) hU'.2.word hN'.2.word
  have hown' : s'.vm.findClass own = some m.cls := by rw [hvm]; exact hown
  have hins : (Cond.instantiable cls 6).before args s' = true := h _ (by simp [Bundle.ownAtoms0])
  obtain ⟨vm₁, cX, kX, hfX, hkX, -, -, X₁, st1⟩ := Y.newCold hexec (own := own) (C := cls) (index := ik) (n := 6) hown' hk' hins hini'
    (g := F0 m pc ls rest) rfl (by rw [hb]; exact d0) (Nat.le_refl _) (Nat.le_refl _)
  generalize hT1 : (T.setVm vm₁).pushCell { cls := cX, slots := kX.instanceTypes.map defaultValue, vm := .none } = T1 at X₁ st1
  have hcat : (Value.ref T.heap.size).category = 1 := rfl
  have hcellA : T1.heap[T.heap.size]? = some (freshCell cX kX) := by rw [← hT1]; exact State.heap_pushCell_size _ _
  have d3' : decode c.code (pc + 3) = .ok (.dup, 1) := by rw [hb]; exact d3
  obtain ⟨U, hsteps, hrun, hend, hW, hsame, ce, hce, hO⟩ := X₁.ctorThrow0 hexec htr (own := own) (cls := cls) (names := names) (ic := ic) hown' hcls hnames h (fun x hx => nomatch hx) hfX hkX hcellA (by rw [hhp, hT]; exact Nat.le_refl _)
    (g := { method := m, pc := pc + 4, locals := ls, stack := .ref T.heap.size :: .ref T.heap.size :: rest, locked := none }) rfl hsize rfl rfl (rest := rest) rfl
    (by rw [hb]; exact d4) (by rw [hb]; exact d7) hout hRframes (by simp only [List.map_cons, List.sum_cons, hcat]; omega) hlocks
  obtain ⟨f1, f2⟩ := vx_frame hsame
  rw [hhp] at f1 f2
  have hWs : s.WarmedH U.vm := State.WarmedH.trans hW0 hW
  have hcl : s.vm.findClass cls = some ce.cls := by
    have h9 := hO.cls
    rw [hvm] at h9
    exact h9
  have hall : s.sameButNew ({ U with vm := s.vm } : State) locs mc ms := by
    subst hA
    obtain ⟨e1, e2⟩ := hsame
    rw [State.setFrames_setFrames] at e1
    have h2 : (T.setVm s.vm).sameButNew ({ U with vm := s.vm } : State) [] (0 + 1) (0 + 6) := ⟨e1, e2⟩
    have h3 := X.same.trans h2
    rw [List.append_nil] at h3
    exact h3.mono hc hs
  refine ⟨U, ?_, .threw T.heap.size, hrun, hend, Or.inr ⟨T.heap.size, rfl, cls, ce, locs, hx U hWs.alike f1 (fun q hq => f2 q hq (fun z hz => nomatch hz)), hce, hO.vm, hcl, hWs, hall, hf⟩⟩
  refine st1 _ ?_
  show Steps p.tables e below (T1.setTop { method := m, pc := pc + 3, locals := ls, stack := .ref T.heap.size :: rest, locked := none }) _
  jvm_step X₁.here [X₁.here.top, hexec, d3', Value.category]
  exact hsteps
/-- 'throw new E("text")': new; dup; ldc; invokespecial; athrow -/
theorem vx_throwS {cc : ByteArray} {pc : Nat} (hexec : p.tables.exec = Jvm.exec) (hb : c.code = cc) (hl : l.stackTraces = false) {own cls text : String} {names : List String} {ik is ic mc ms sa : Nat} {A : Nat → Prop}
    (hown : s.vm.findClass own = some m.cls) (hcls : Bundle.fit cls = true) (hnames : ∀ n ∈ names, Bundle.fit n = true)
    (hk : (Cond.classLink own ik cls).before args s = true) (hini : (Cond.initialized cls).before args s = true) (hstr : vk_R own is text sa s) (hat : ∀ w ∈ vx_atS own ic cls names, w.before args s = true)
    (hgood : ∀ w ∈ Cond.classLink own ik cls :: Cond.initialized cls :: vx_atS own ic cls names, vx_ot w = true)
    (hU : vx_Zq Bundle.tN "UNASSIGNED_STACK" Bundle.steD A s s.heap) (hN : vx_Zq Bundle.tN "SUPPRESSED_SENTINEL" Bundle.listD A s s.heap) (hS : va_S A s.heap H locs) (hsize : ls.size = c.maxLocals)
    (d0 : decode cc pc = .ok (.new ik, 3)) (d3 : decode cc (pc + 3) = .ok (.dup, 1)) (d4 : decode cc (pc + 4) = .ok (.ldc is, 2)) (d6 : decode cc (pc + 6) = .ok (.invokespecial ic, 3)) (d9 : decode cc (pc + 9) = .ok (.athrow, 1))
    (hout : ∀ x ∈ c.exceptionTable.toList, covers x (pc + 9) = false)
    (hRframes : names.length + 3 < R.frames) (hRlocals : (rest.map fun v => v.category).sum + (13 * (names.length + 1) + 43) ≤ R.locals) (hRcells : cells + 1 ≤ R.cells) (hRslots : slots + 6 ≤ R.slots) (hlocks : meth.locks = false)
    (hx : ∀ t : State, s.vm.Alike t.vm → H.size ≤ t.heap.size → (∀ q : Nat, q < H.size → t.heap[q]? = H[q]?) → XC cls s t)
    (hf : ∀ z ∈ locs, free z.base) (hc : cells + 1 ≤ mc) (hs : slots + 6 ≤ ms) :
    W p l e R s m args below meth c H locs cells slots (vx_MQ below Qc XC args s mc ms free) (F0 m pc ls rest) := by
  intro T hT X
  have htr : e.platform.stackTraces = false := (show e.platform.stackTraces = l.stackTraces by rw [X.admits.platform]).trans hl
  have Y := vx_rebase X (R' := { frames := R.frames, locals := R.locals, cells := 1, slots := 6 }) (Nat.le_refl _) (Nat.le_refl _) hRcells hRslots
  obtain ⟨s', hA⟩ : ∃ z, z = (T.setVm s.vm).setFrames (.invoking m args :: below) := ⟨_, rfl⟩
  rw [← hA] at Y
  have hvm : s'.vm = s.vm := by rw [hA]; rfl
  have hhp : s'.heap = H := by rw [hA]; exact hT
  have hW0 : s.WarmedH s'.vm := by rw [hvm]; exact State.WarmedH.refl s
  have hat' : ∀ w ∈ vx_atS own ic cls names, w.before args s' = true := fun w hw => vx_ot_at hW0 hvm.symm (hgood w (List.mem_cons_of_mem _ (List.mem_cons_of_mem _ hw))) (hat w hw)
  have hk' : (Cond.classLink own ik cls).before args s' = true := vx_ot_at hW0 hvm.symm (hgood _ List.mem_cons_self) hk
  have hini' : (Cond.initialized cls).before args s' = true := vx_ot_at hW0 hvm.symm (hgood _ (List.mem_cons_of_mem _ List.mem_cons_self)) hini
  have hU' : vx_Zq Bundle.tN "UNASSIGNED_STACK" Bundle.steD A s' s'.heap := by rw [hhp]; exact vx_Zq.moved hW0.alike (hU.kept hS.2.1)
  have hN' : vx_Zq Bundle.tN "SUPPRESSED_SENTINEL" Bundle.listD A s' s'.heap := by rw [hhp]; exact vx_Zq.moved hW0.alike (hN.kept hS.2.1)
  have h : ∀ w ∈ Bundle.ownAtoms own ic cls names, w.before args s' = true := vx_own hat' (vx_isRefq hU'.1) (vx_isRefq hN'.1) hU'.2.word hN'.2.word
  have hown' : s'.vm.findClass own = some m.cls := by rw [hvm]; exact hown
  have hins : (Cond.instantiable cls 6).before args s' = true := h _ (by simp [Bundle.ownAtoms])
  obtain ⟨vm₁, cX, kX, hfX, hkX, -, -, X₁, st1⟩ := Y.newCold hexec (own := own) (C := cls) (index := ik) (n := 6) hown' hk' hins hini'
    (g := F0 m pc ls rest) rfl (by rw [hb]; exact d0) (Nat.le_refl _) (Nat.le_refl _)
  generalize hT1 : (T.setVm vm₁).pushCell { cls := cX, slots := kX.instanceTypes.map defaultValue, vm := .none } = T1 at X₁ st1
  have hcat : (Value.ref T.heap.size).category = 1 := rfl
  have hcellA : T1.heap[T.heap.size]? = some (freshCell cX kX) := by rw [← hT1]; exact State.heap_pushCell_size _ _
  have d3' : decode c.code (pc + 3) = .ok (.dup, 1) := by rw [hb]; exact d3
  have d4' : decode c.code (pc + 4) = .ok (.ldc is, 2) := by rw [hb]; exact d4
  have hstr' : vk_R own is text sa s' := vk_R.warm hW0 hstr
  obtain ⟨U, hsteps, hrun, hend, hW, hsame, ce, hce, hO⟩ := X₁.ctorThrowS hexec htr (own := own) (cls := cls) (names := names) (ic := ic) hown' hcls hnames h (fun x hx => nomatch hx) hfX hkX hcellA (by rw [hhp, hT]; exact Nat.le_refl _) (msg := .ref sa) rfl
    (g := { method := m, pc := pc + 6, locals := ls, stack := .ref sa :: .ref T.heap.size :: .ref T.heap.size :: rest, locked := none }) rfl hsize rfl rfl (rest := rest) rfl
    (by rw [hb]; exact d6) (by rw [hb]; exact d9) hout hRframes (by simp only [List.map_cons, List.sum_cons, hcat]; omega) hlocks
  obtain ⟨f1, f2⟩ := vx_frame hsame
  rw [hhp] at f1 f2
  have hWs : s.WarmedH U.vm := State.WarmedH.trans hW0 hW
  have hcl : s.vm.findClass cls = some ce.cls := by
    have h9 := hO.cls
    rw [hvm] at h9
    exact h9
  have hall : s.sameButNew ({ U with vm := s.vm } : State) locs mc ms := by
    subst hA
    obtain ⟨e1, e2⟩ := hsame
    rw [State.setFrames_setFrames] at e1
    have h2 : (T.setVm s.vm).sameButNew ({ U with vm := s.vm } : State) [] (0 + 1) (0 + 6) := ⟨e1, e2⟩
    have h3 := X.same.trans h2
    rw [List.append_nil] at h3
    exact h3.mono hc hs
  refine ⟨U, ?_, .threw T.heap.size, hrun, hend, Or.inr ⟨T.heap.size, rfl, cls, ce, locs, hx U hWs.alike f1 (fun q hq => f2 q hq (fun z hz => nomatch hz)), hce, hO.vm, hcl, hWs, hall, hf⟩⟩
  refine st1 _ ?_
  show Steps p.tables e below (T1.setTop { method := m, pc := pc + 3, locals := ls, stack := .ref T.heap.size :: rest, locked := none }) _
  jvm_step X₁.here [X₁.here.top, hexec, d3', Value.category]
  exact X₁.ldcString hexec (own := own) (text := text) (index := is) (a := sa) hown' hstr'.1 hstr'.2
    (g := { method := m, pc := pc + 4, locals := ls, stack := .ref T.heap.size :: .ref T.heap.size :: rest, locked := none }) rfl d4' _ hsteps
/-- 'throw new E("text")', the text by a wide index -/
theorem vx_throwSW {cc : ByteArray} {pc : Nat} (hexec : p.tables.exec = Jvm.exec) (hb : c.code = cc) (hl : l.stackTraces = false) {own cls text : String} {names : List String} {ik is ic mc ms sa : Nat} {A : Nat → Prop}
    (hown : s.vm.findClass own = some m.cls) (hcls : Bundle.fit cls = true) (hnames : ∀ n ∈ names, Bundle.fit n = true)
    (hk : (Cond.classLink own ik cls).before args s = true) (hini : (Cond.initialized cls).before args s = true) (hstr : vk_R own is text sa s) (hat : ∀ w ∈ vx_atS own ic cls names, w.before args s = true)
    (hgood : ∀ w ∈ Cond.classLink own ik cls :: Cond.initialized cls :: vx_atS own ic cls names, vx_ot w = true)
    (hU : vx_Zq Bundle.tN "UNASSIGNED_STACK" Bundle.steD A s s.heap) (hN : vx_Zq Bundle.tN "SUPPRESSED_SENTINEL" Bundle.listD A s s.heap) (hS : va_S A s.heap H locs) (hsize : ls.size = c.maxLocals)
    (d0 : decode cc pc = .ok (.new ik, 3)) (d3 : decode cc (pc + 3) = .ok (.dup, 1)) (d4 : decode cc (pc + 4) = .ok (.ldc_w is, 3)) (d7 : decode cc (pc + 7) = .ok (.invokespecial ic, 3)) (d10 : decode cc (pc + 10) = .ok (.athrow, 1))
    (hout : ∀ x ∈ c.exceptionTable.toList, covers x (pc + 10) = false)
    (hRframes : names.length + 3 < R.frames) (hRlocals : (rest.map fun v => v.category).sum + (13 * (names.length + 1) + 43) ≤ R.locals) (hRcells : cells + 1 ≤ R.cells) (hRslots : slots + 6 ≤ R.slots) (hlocks : meth.locks = false)
    (hx : ∀ t : State, s.vm.Alike t.vm → H.size ≤ t.heap.size → (∀ q : Nat, q < H.size → t.heap[q]? = H[q]?) → XC cls s t)
    (hf : ∀ z ∈ locs, free z.base) (hc : cells + 1 ≤ mc) (hs : slots + 6 ≤ ms) :
    W p l e R s m args below meth c H locs cells slots (vx_MQ below Qc XC args s mc ms free) (F0 m pc ls rest) := by
  intro T hT X
  have htr : e.platform.stackTraces = false := (show e.platform.stackTraces = l.stackTraces by rw [X.admits.platform]).trans hl
  have Y := vx_rebase X (R' := { frames := R.frames, locals := R.locals, cells := 1, slots := 6 }) (Nat.le_refl _) (Nat.le_refl _) hRcells hRslots
  obtain ⟨s', hA⟩ : ∃ z, z = (T.setVm s.vm).setFrames (.invoking m args :: below) := ⟨_, rfl⟩
  rw [← hA] at Y
  have hvm : s'.vm = s.vm := by rw [hA]; rfl
  have hhp : s'.heap = H := by rw [hA]; exact hT
  have hW0 : s.WarmedH s'.vm := by rw [hvm]; exact State.WarmedH.refl s
  have hat' : ∀ w ∈ vx_atS own ic cls names, w.before args s' = true := fun w hw => vx_ot_at hW0 hvm.symm (hgood w (List.mem_cons_of_mem _ (List.mem_cons_of_mem _ hw))) (hat w hw)
  have hk' : (Cond.classLink own ik cls).before args s' = true := vx_ot_at hW0 hvm.symm (hgood _ List.mem_cons_self) hk
  have hini' : (Cond.initialized cls).before args s' = true := vx_ot_at hW0 hvm.symm (hgood _ (List.mem_cons_of_mem _ List.mem_cons_self)) hini
  have hU' : vx_Zq Bundle.tN "UNASSIGNED_STACK" Bundle.steD A s' s'.heap := by rw [hhp]; exact vx_Zq.moved hW0.alike (hU.kept hS.2.1)
  have hN' : vx_Zq Bundle.tN "SUPPRESSED_SENTINEL" Bundle.listD A s' s'.heap := by rw [hhp]; exact vx_Zq.moved hW0.alike (hN.kept hS.2.1)
  have h : ∀ w ∈ Bundle.ownAtoms own ic cls names, w.before args s' = true := vx_own hat' (vx_isRefq hU'.1) (vx_isRefq hN'.1) hU'.2.word hN'.2.word
  have hown' : s'.vm.findClass own = some m.cls := by rw [hvm]; exact hown
  have hins : (Cond.instantiable cls 6).before args s' = true := h _ (by simp [Bundle.ownAtoms])
  obtain ⟨vm₁, cX, kX, hfX, hkX, -, -, X₁, st1⟩ := Y.newCold hexec (own := own) (C := cls) (index := ik) (n := 6) hown' hk' hins hini'
    (g := F0 m pc ls rest) rfl (by rw [hb]; exact d0) (Nat.le_refl _) (Nat.le_refl _)
  generalize hT1 : (T.setVm vm₁).pushCell { cls := cX, slots := kX.instanceTypes.map defaultValue, vm := .none } = T1 at X₁ st1
  have hcat : (Value.ref T.heap.size).category = 1 := rfl
  have hcellA : T1.heap[T.heap.size]? = some (freshCell cX kX) := by rw [← hT1]; exact State.heap_pushCell_size _ _
  have d3' : decode c.code (pc + 3) = .ok (.dup, 1) := by rw [hb]; exact d3
  have d4' : decode c.code (pc + 4) = .ok (.ldc_w is, 3) := by rw [hb]; exact d4
  have hstr' : vk_R own is text sa s' := vk_R.warm hW0 hstr
  obtain ⟨U, hsteps, hrun, hend, hW, hsame, ce, hce, hO⟩ := X₁.ctorThrowS hexec htr (own := own) (cls := cls) (names := names) (ic := ic) hown' hcls hnames h (fun x hx => nomatch hx) hfX hkX hcellA (by rw [hhp, hT]; exact Nat.le_refl _) (msg := .ref sa) rfl
    (g := { method := m, pc := pc + 7, locals := ls, stack := .ref sa :: .ref T.heap.size :: .ref T.heap.size :: rest, locked := none }) rfl hsize rfl rfl (rest := rest) rfl
    (by rw [hb]; exact d7) (by rw [hb]; exact d10) hout hRframes (by simp only [List.map_cons, List.sum_cons, hcat]; omega) hlocks
  obtain ⟨f1, f2⟩ := vx_frame hsame
  rw [hhp] at f1 f2
  have hWs : s.WarmedH U.vm := State.WarmedH.trans hW0 hW
  have hcl : s.vm.findClass cls = some ce.cls := by
    have h9 := hO.cls
    rw [hvm] at h9
    exact h9
  have hall : s.sameButNew ({ U with vm := s.vm } : State) locs mc ms := by
    subst hA
    obtain ⟨e1, e2⟩ := hsame
    rw [State.setFrames_setFrames] at e1
    have h2 : (T.setVm s.vm).sameButNew ({ U with vm := s.vm } : State) [] (0 + 1) (0 + 6) := ⟨e1, e2⟩
    have h3 := X.same.trans h2
    rw [List.append_nil] at h3
    exact h3.mono hc hs
  refine ⟨U, ?_, .threw T.heap.size, hrun, hend, Or.inr ⟨T.heap.size, rfl, cls, ce, locs, hx U hWs.alike f1 (fun q hq => f2 q hq (fun z hz => nomatch hz)), hce, hO.vm, hcl, hWs, hall, hf⟩⟩
  refine st1 _ ?_
  show Steps p.tables e below (T1.setTop { method := m, pc := pc + 3, locals := ls, stack := .ref T.heap.size :: rest, locked := none }) _
  jvm_step X₁.here [X₁.here.top, hexec, d3', Value.category]
  exact X₁.ldcStringW hexec (own := own) (text := text) (index := is) (a := sa) hown' hstr'.1 hstr'.2
    (g := { method := m, pc := pc + 4, locals := ls, stack := .ref T.heap.size :: .ref T.heap.size :: rest, locked := none }) rfl d4' _ hsteps
end Ends
section Bodies
variable {l : Launch}
theorem vx_ofW {y : MethodName} {ws ws' : List Cond} {rm : Room} {Pc : Array Value → State → Prop} {Qc : Array Value → State → Outcome → State → Prop} {XC : String → State → State → Prop} {mc ms : Nat} {free : Addr → Prop} {cc : ByteArray} {maxL : Nat} {ret : Option FieldType}
    (hy : plainName y.cls = true) (hw : ws = Cond.code y cc maxL ret :: ws')
    (body : ∀ p e s m args below meth c s₁, BodyLoose p l y (headSpec ws rm) cc maxL ret e s m args below meth c s₁ → c.maxLocals = maxL → (∀ x ∈ c.exceptionTable.toList, False) → Pc args s →
      W p l e (headSpec ws rm).room s m args below meth c s.heap [] 0 0 (vx_MQ below Qc XC args s mc ms free) (entryFrame m args maxL)) : vx_Met l y ws rm Pc Qc XC mc ms free := by
  refine MetFree.of_bodyS (code := cc) (maxLocals := maxL) (ret := ret) hy ?_ ?_
  · intro args s m h hn
    obtain ⟨meth, c, h1, h2, h3, h4, h5, h6, -, -⟩ := Cond.code_spec hn (atoms_spec (ws := ws) h _ (by rw [hw]; exact List.mem_cons_self))
    exact ⟨meth, c, h1, h2, h3, h4, h5, h6⟩
  · intro p e s m args below meth c s₁ B hml hP _
    have hh0 : s₁.heap = s.heap := by rw [B.state]; rfl
    have ht : ∀ x ∈ c.exceptionTable.toList, False := by
      obtain ⟨meth9, c9, h1, h2, -, -, -, -, h7, -⟩ := Cond.code_spec B.named (atoms_spec (ws := ws) B.pre _ (by rw [hw]; exact List.mem_cons_self))
      cases Option.some.inj (h1.symm.trans B.method)
      cases Option.some.inj (h2.symm.trans (Stand.of_body B).code)
      intro x hx
      rw [Array.isEmpty_iff.mp h7] at hx
      cases hx
    obtain ⟨t, a1, o, b1, b2, b3⟩ := body p e s m args below meth c s₁ B hml ht hP s₁ hh0 (Stand.of_body B)
    exact ⟨t, o, a1, b1, b2, b3⟩
/-- the table of a body with handlers -/
theorem vx_table {p : Program} {x y : MethodName} {S : Spec} {cc bytes : ByteArray} {maxL maxL' : Nat} {ret ret' : Option FieldType} {e : Env} {s s₁ : State} {m : MethodId} {args : Array Value} {below : List Frame} {meth : Method} {c : Code} {hh : List (Nat × Nat × Nat × Nat)}
    (B : BodyLoose p l y S cc maxL ret e s m args below meth c s₁) (h : (Cond.codeWith y bytes maxL' ret' hh).before args s = true) : c.exceptionTable.toList = tableOf hh := by
  obtain ⟨m9, meth9, c9, hn9, h1, h2, -, -, h6, -⟩ := Cond.codeWith_spec h
  cases Option.some.inj (hn9.symm.trans B.named)
  cases Option.some.inj (h1.symm.trans B.method)
  cases Option.some.inj (h2.symm.trans (Stand.of_body B).code)
  rw [← h6, table_eq]
end Bodies
end VXA
/-! ===== END ===== -/
/-! ===== BEGIN a static call of a method with an exception table ===== -/
section VXS
variable {p : Program} {l : Launch} {e : Env} {R : Room} {s : State} {m : MethodId} {args : Array Value} {below : List Frame} {meth : Method} {c : Code} {T : State} {H : Heap} {locs : List Loc} {cells slots : Nat}
abbrev vx_CSW (R : Room) (s : State) (args : Array Value) (own : String) (index : Nat) (y : MethodName) (bytes : ByteArray) (maxL : Nat) (ret : Option FieldType) (hh : List (Nat × Nat × Nat × Nat)) (ws : List Cond) (rm : Room) (mc ms n : Nat) : Prop :=
  (rm.cells = mc ∧ rm.slots = ms ∧ rm.frames + 1 ≤ R.frames ∧ 8 + (maxL + 11) + rm.locals ≤ R.locals ∧ (∀ w ∈ ws, ∀ (a' : Array Value) (U : State), s.WarmedH U.vm → w.before a' U = true) ∧ Cond.codeWith y bytes maxL ret hh ∈ ws) ∧
  (Cond.codeWith y bytes maxL ret hh).before args s = true ∧ (Cond.initialized y.cls).before args s = true ∧ (y.cls ≠ "java/lang/invoke/MethodHandle" ∧ y.cls ≠ "java/lang/invoke/VarHandle") ∧
  (∀ sig, parseMethodDescriptor y.desc = some sig → n = sig.parameters.length) ∧ (Cond.methodLink own index y).before args s = true ∧ (Cond.static y).before args s = true
theorem vx_cwSW {own : String} {index maxL mc ms : Nat} {y : MethodName} {bytes : ByteArray} {ret : Option FieldType} {hh : List (Nat × Nat × Nat × Nat)} {Ts ws ws' : List Cond} {rm : Room} (n : Nat) (ht : ∀ w ∈ Ts, w.before args s = true) (hT : GoodIn Ts (va_wsS own index y ws)) (hw : ws = Cond.codeWith y bytes maxL ret hh :: ws') (hrc : rm.cells = mc) (hrs : rm.slots = ms)
    (hd : y.cls ≠ "java/lang/invoke/MethodHandle" ∧ y.cls ≠ "java/lang/invoke/VarHandle" ∧ (parseMethodDescriptor y.desc).map (fun d => d.parameters.length) = some n) (hR : rm.frames + 1 ≤ R.frames ∧ 8 + (maxL + 11) + rm.locals ≤ R.locals) :
    vx_CSW R s args own index y bytes maxL ret hh ws rm mc ms n := by
  have ok : ∀ w ∈ va_wsS own index y ws, w.before args s = true := fun w h => ht w (hT w h).1
  have hG : GoodIn Ts ws := fun w h => hT w (by unfold va_wsS; exact List.mem_append_right _ h)
  have hc : Cond.codeWith y bytes maxL ret hh ∈ ws := by rw [hw]; exact List.mem_cons_self
  refine ⟨⟨hrc, hrs, hR.1, hR.2, pay_in ht hG, hc⟩, ht _ (hG _ hc).1, ok _ (by simp [va_wsS]), ⟨hd.1, hd.2.1⟩, fun sig h => ?_, ok _ (by simp [va_wsS]), ok _ (by simp [va_wsS])⟩
  have h2 := hd.2.2
  rw [h] at h2
  exact (Option.some.inj h2).symm
theorem vx_callSW (X : Stand p l e R s m args below meth c T locs cells slots) (hexec : p.tables.exec = Jvm.exec) {own : String} {index : Nat} {y : MethodName} {bytes : ByteArray} {maxL : Nat} {ret : Option FieldType} {hh : List (Nat × Nat × Nat × Nat)}
    (hown : s.vm.findClass own = some m.cls) (hlink : (Cond.methodLink own index y).before args s = true) (hstat : (Cond.static y).before args s = true) (hinit : (Cond.initialized y.cls).before args s = true)
    (hcode : (Cond.codeWith y bytes maxL ret hh).before args s = true) (hy : y.cls ≠ "java/lang/invoke/MethodHandle" ∧ y.cls ≠ "java/lang/invoke/VarHandle")
    {W9 : Nat} {Pre : Pt → Array Value → Prop} {Post : Pt → Array Value → Option Value → Pt → Prop} (hK : Back l R p e below s args y 3 W9 Pre Post)
    {g : JFrame} (hg : g.method = m) (hsize : g.locals.size = c.maxLocals) {argsL rest : List Value} (hlen : ∀ sig, parseMethodDescriptor y.desc = some sig → argsL.length = sig.parameters.length)
    (hstack : g.stack = argsL.reverse ++ rest) (hW : 2 * g.monitorRoom + (rest.map fun v => v.category).sum ≤ W9) (hdg : decode c.code g.pc = .ok (.invokestatic index, 3))
    (hpre : ∀ vm₁, s.WarmedH vm₁ → Pre ⟨T.setVm vm₁, locs, cells, slots⟩ argsL.toArray) :
    ∃ (v : Option Value) (vm₁ : Vm) (B : Pt), s.WarmedH vm₁ ∧ Stand p l e R s m args below meth c B.U B.locs B.cells B.slots ∧ Post ⟨T.setVm vm₁, locs, cells, slots⟩ argsL.toArray v B ∧
      ∀ target, Steps p.tables e below (B.U.setTop { g with pc := g.pc + 3, stack := v.toList ++ rest }) target → Steps p.tables e below (T.setTop g) target := by
  obtain ⟨mk, methM, cM, hnamed, hmethM, -, -, -, -, -, -, hsigM⟩ := Cond.codeWith_spec hcode
  have hstatic : methM.isStatic = true := Cond.static_spec hnamed hmethM hstat
  obtain ⟨kP, hkP, -⟩ := className_of_methodNamed hnamed
  have hinitP : kP.init = .initialized := Cond.initialized_spec (findClass_of_methodNamed hnamed) hkP hinit
  obtain ⟨vm₁, X₁, hstep₁⟩ := X.invokestatic hexec hown hlink hnamed hmethM hstatic hkP hinitP hy (g := g) hg (argsL := argsL) (rest := rest) (hlen _ hsigM) hstack hdg
  obtain ⟨v, B, X', hpost, hsteps⟩ := hK m meth c ⟨T.setVm vm₁, locs, cells, slots⟩ { g with stack := rest } (.invokestatic index) mk argsL.toArray X₁ hg hsize hdg hW (X₁.named hnamed) (hpre vm₁ X₁.warmed)
  exact ⟨v, vm₁, B, X₁.warmed, X', hpost, fun target h => hstep₁ _ fun acts => by rw [doInvoke_state]; exact hsteps.trans h⟩
theorem vx_runSW {y : MethodName} {bytes cc : ByteArray} {maxL nL mc ms n index : Nat} {ret : Option FieldType} {hh : List (Nat × Nat × Nat × Nat)} {ws : List Cond} {rm : Room} {Pc : Array Value → State → Prop} {Qc : Array Value → State → Outcome → State → Prop} {free : Addr → Prop} {Ts : List Cond} {own : String} {As rest : List Value} {g : JFrame}
    (S : CallFix p m c cc nL s args Ts own) (hM : Met l y ws rm Pc Qc mc ms free) (cw : vx_CSW R s args own index y bytes maxL ret hh ws rm mc ms n) (hp : PreS s H Pc As)
    (hg : g.method = m) (hn : As.length = n) (hsize : g.locals.size = nL) (hstack : g.stack = As.reverse ++ rest) (hW : 2 * g.monitorRoom + (rest.map fun v => v.category).sum ≤ 8) (hdg : decode cc g.pc = .ok (.invokestatic index, 3)) (hf : cells + mc ≤ R.cells ∧ slots + ms ≤ R.slots) :
    va_Run p l e R s m args below meth c H locs cells slots mc ms g rest (Qc As.toArray) (free) := by
  obtain ⟨⟨hrc, hrs, hfr, hlo, hws, hcw⟩, hcode, hini, hy, hlen, hl, hstt⟩ := cw
  have hK : Back l R p e below s args y 3 8 (PreOf R mc ms Pc) (PostOf Qc mc ms free) := va_backW (hh := hh) (bytes := bytes) (maxL := maxL) (ret := ret) hM hp.1 hrc hrs hfr hlo hws hcw (fun a' U hW => word_at hW (Or.inl (by first | rfl | simp [Cond.onTables, Cond.keeps, Cond.steady])) hini)
  obtain ⟨hx, hb, hml, ho, -⟩ := S
  intro T hT X
  obtain ⟨v, vm₁, ⟨U', l2, c2, s2⟩, hW₁, X', ⟨g', mk, t, L, e1, e2, hq, h1, hL, h2, h3⟩, st⟩ := vx_callSW X hx (hh := hh) (bytes := bytes) (maxL := maxL) (ret := ret) ho hl hstt hini hcode hy hK hg (hsize.trans hml.symm) (argsL := As) (rest := rest) (fun sig h => hn.trans (hlen sig h)) hstack hW (by rw [hb]; exact hdg)
    (fun vm₁ hW₁ => ⟨hf.1, hf.2, hp.2 (T.setVm vm₁) hT hW₁⟩)
  dsimp only [Pt.U, Pt.locs, Pt.cells, Pt.slots] at X' e1 e2 h1 h2 h3 st
  subst h1; subst h2; subst h3
  exact ⟨v, (T.setVm vm₁).calling g' mk As.toArray, t, U', L, hT, X', hL, e1, e2, hq, st⟩
/-- a thing of a world lies in the heap -/
theorem vx_lt {D : va_G} {cl : List vw_C} {ws : va_W} {H1 : Heap} (h : va_P D cl ws H1) {k : Nat} {q : Nat × va_E} (hk : ws[k]? = some q) : q.1 < H1.size := (h k q hk).lt
end VXS
/-! ===== END ===== -/
/-! ===== BEGIN methods with a table of their own: called by a name, returning or throwing ===== -/
section VXH
/-! vx_backW, vx_callVX, vx_callSX, vx_callVW, vx_runVW, vx_runVX, vx_runSX, vx_ofWH follow the same proofs as their sisters above (Free/Laws.lean, Shelf42/LK1.lean); vx_outP calls Shelf42/NT130.lean (outThrough). -/
section
variable {l : Launch} {R : Room} {p : Program} {e : Env} {below : List Frame} {s : State} {sargs : Array Value} {y : MethodName} {len W9 : Nat}
theorem vx_backW {ws : List Cond} {rm : Room} {Pc : Array Value → State → Prop} {Qc : Array Value → State → Outcome → State → Prop} {XC : String → State → State → Prop} {mc ms : Nat} {free : Addr → Prop} {bytes : ByteArray} {maxL : Nat} {ret : Option FieldType} {hh : List (Nat × Nat × Nat × Nat)}
    (hM : vx_Met l y ws rm Pc Qc XC mc ms free) (hblind : FrameBlind Pc) (hrc : rm.cells = mc) (hrs : rm.slots = ms)
    (hframes : rm.frames + 1 ≤ R.frames) (hlocals : W9 + (maxL + 11) + rm.locals ≤ R.locals)
    (hws : ∀ w ∈ ws, ∀ a' U, s.WarmedH U.vm → w.before a' U = true) (hcode : Cond.codeWith y bytes maxL ret hh ∈ ws) (hinit : ∀ a' U, s.WarmedH U.vm → (Cond.initialized y.cls).before a' U = true) :
    vx_Back l R p e below s sargs y len W9 (PreOf R mc ms Pc) (PostOf Qc mc ms free) (vx_Post XC mc ms free) := by
  intro m meth c A g ig mk a X hg hsize hdg hW hn hp
  have h1 : (headSpec ws rm).pre.before a A.U = true := atoms_intro fun w hw => hws w hw _ _ X.warmed
  have h2 : (Cond.codeWith y bytes maxL ret hh).before a A.U = true := hws _ hcode _ _ X.warmed
  have h3 : (Cond.initialized y.cls).before a A.U = true := hinit _ _ X.warmed
  have h4 : A.cells + (headSpec ws rm).room.cells ≤ R.cells := by rw [show (headSpec ws rm).room.cells = mc from hrc]; exact hp.1
  have h5 : A.slots + (headSpec ws rm).room.slots ≤ R.slots := by rw [show (headSpec ws rm).room.slots = ms from hrs]; exact hp.2.1
  have hPc : Pc a (A.U.calling g mk a) := hblind _ _ _ _ hp.2.2
  obtain ⟨U, Ls, c0, s0⟩ := A
  dsimp only [Pt.U, Pt.locs, Pt.cells, Pt.slots] at h1 h2 h3 h4 h5 X hn hPc ⊢
  obtain ⟨m9, methY, cY, hn9, hmY, hcY, -, hlY, -⟩ := Cond.codeWith_spec h2
  cases Option.some.inj (hn9.symm.trans hn)
  obtain ⟨kY, hkY, -⟩ := className_of_methodNamed hn
  have hinitY : kY.init = .initialized := Cond.initialized_spec (findClass_of_methodNamed hn) hkY h3
  have h : At U g.method c below := by rw [hg]; exact X.here
  have hlocals9 : W9 + (maxL + 11) + (headSpec ws rm).room.locals ≤ R.locals := hlocals
  have happ : (headSpec ws rm).appliesLoose y e.platform (U.calling g mk a) = true :=
    Spec.appliesLoose_calling (g := g) h hdg hn hkY hinitY
      (X.room_calling (g := g) (R' := (headSpec ws rm).room) hsize hmY hcY hframes (by rw [hlY]; omega) h4 h5) h1
  obtain ⟨mid, hmid⟩ := h.above
  have hfr : (U.setTop g).frames = (.java g :: mid) ++ below := by rw [State.frames_setTop' g h.top, hmid]; rfl
  obtain ⟨o, s₂, hsteps, -, hend, hq⟩ := Steps.callFree hM p X.admits X.cas X.clock (acts := []) hfr happ hPc trivial
  have hq' : vx_Q Qc XC mc ms free a (U.calling g mk a) o s₂ := hq
  rw [State.frames_setTop' g h.top] at hend
  obtain ⟨g₀, hg0⟩ := Option.isSome_iff_exists.mp h.top
  obtain ⟨r, hr⟩ := State.topJava?_eq_some.mp hg0
  have hr' : (({ U with heap := s₂.heap, slotsUsed := s₂.slotsUsed } : State).setVm s₂.vm).frames = .java g₀ :: r := hr
  rcases hq' with ⟨hqc, L, hfe, hL⟩ | ⟨q, rfl, E, ce, L, hx, hce, hcv, hcl, hW₂, hsm, hL⟩
  · obtain ⟨⟨v, rfl⟩, hW₂, e2, q2, q3, q4, q5, q6⟩ := id hfe
    have e3 : s₂ = ({ (U.calling g mk a).setFrames s₂.frames with heap := s₂.heap, slotsUsed := s₂.slotsUsed } : State).setVm s₂.vm := by
      have : s₂ = ({ s₂ with vm := (U.calling g mk a).vm } : State).setVm s₂.vm := rfl
      rw [e2] at this
      exact this
    obtain ⟨c₂, i₂, len₂, hc₂, hd₂, hf₂⟩ := hend
    have hW' : U.WarmedH s₂.vm := hW₂
    have hcc : c₂ = c := by
      have h1 : s₂.code? g.method = U.code? g.method := by
        rw [State.code?_eq, State.code?_eq, hW'.alike.method?]
      exact Option.some.inj (hc₂.symm.trans (h1.trans h.code))
    subst hcc
    have hlen : len₂ = len := by rw [hdg] at hd₂; cases hd₂; rfl
    subst hlen
    have hs₂ : s₂ = (({ U with heap := s₂.heap, slotsUsed := s₂.slotsUsed } : State).setVm s₂.vm).setTop { g with pc := g.pc + len₂, stack := v.toList ++ g.stack } := by
      refine e3.trans ?_
      rw [hf₂, State.calling_eq h.top, State.setFrames_setFrames, State.setTop_of_frames _ hr', hr]
      rfl
    have hsame : U.sameButNew ({ U with heap := s₂.heap, slotsUsed := s₂.slotsUsed } : State) L mc ms := by
      refine ⟨?_, q2, q3, q4, q5, q6⟩
      obtain ⟨t, ht, -⟩ := State.frames_cons hr
      show ({ U with heap := s₂.heap, slotsUsed := s₂.slotsUsed } : State) = { U.setFrames U.frames with heap := s₂.heap, slotsUsed := s₂.slotsUsed }
      rw [State.setFrames_self ht]
    subst hg
    refine Or.inl ⟨v, ⟨(({ U with heap := s₂.heap, slotsUsed := s₂.slotsUsed } : State).setVm s₂.vm), Ls ++ L, c0 + mc, s0 + ms⟩,
      ⟨X.admits, X.cas, X.clock, X.frames, X.room, X.hears, X.method, X.code, (X.here.setHeapUsed s₂.heap s₂.slotsUsed).setVm hW'.alike, X.tail, State.WarmedH.trans X.warmed hW', X.limits, X.bytes, X.same.trans (hsame.setVm s.vm)⟩,
      ⟨g, mk, s₂, L, rfl, rfl, hqc, rfl, hL, rfl, rfl⟩, ?_⟩
    show Steps p.tables e below _ ((({ U with heap := s₂.heap, slotsUsed := s₂.slotsUsed } : State).setVm s₂.vm).setTop { g with pc := g.pc + len₂, stack := v.toList ++ g.stack })
    rw [← hs₂]
    exact hsteps
  · obtain ⟨e2, q2, q3, q4, q5, q6⟩ := id hsm
    have e3 : s₂ = ({ (U.calling g mk a).setFrames s₂.frames with heap := s₂.heap, slotsUsed := s₂.slotsUsed } : State).setVm s₂.vm := by
      have : s₂ = ({ s₂ with vm := (U.calling g mk a).vm } : State).setVm s₂.vm := rfl
      rw [e2] at this
      exact this
    have hf₂ : s₂.frames = .throwing q :: .java g :: U.frames.tail := hend
    have hW' : U.WarmedH s₂.vm := hW₂
    have hs₂ : s₂ = ((({ U with heap := s₂.heap, slotsUsed := s₂.slotsUsed } : State).setVm s₂.vm).setTop g).pushFrame (.throwing q) := by
      refine e3.trans ?_
      rw [hf₂, State.calling_eq h.top, State.setFrames_setFrames, State.pushFrame, State.frames_setTop _ hr', State.setTop_of_frames _ hr', State.setFrames_setFrames, hr]
      rfl
    have hsame : U.sameButNew ({ U with heap := s₂.heap, slotsUsed := s₂.slotsUsed } : State) L mc ms := by
      refine ⟨?_, q2, q3, q4, q5, q6⟩
      obtain ⟨t, ht, -⟩ := State.frames_cons hr
      show ({ U with heap := s₂.heap, slotsUsed := s₂.slotsUsed } : State) = { U.setFrames U.frames with heap := s₂.heap, slotsUsed := s₂.slotsUsed }
      rw [State.setFrames_self ht]
    subst hg
    refine Or.inr ⟨q, ⟨(({ U with heap := s₂.heap, slotsUsed := s₂.slotsUsed } : State).setVm s₂.vm), Ls ++ L, c0 + mc, s0 + ms⟩,
      ⟨X.admits, X.cas, X.clock, X.frames, X.room, X.hears, X.method, X.code, (X.here.setHeapUsed s₂.heap s₂.slotsUsed).setVm hW'.alike, X.tail, State.WarmedH.trans X.warmed hW', X.limits, X.bytes, X.same.trans (hsame.setVm s.vm)⟩,
      ⟨g, mk, s₂, L, E, ce, rfl, rfl, hx, hce, hcv, hcl, rfl, hL, rfl, rfl⟩, ?_⟩
    show Steps p.tables e below _ (((({ U with heap := s₂.heap, slotsUsed := s₂.slotsUsed } : State).setVm s₂.vm).setTop g).pushFrame (.throwing q))
    rw [← hs₂]
    exact hsteps
end
variable {p : Program} {l : Launch} {e : Env} {R : Room} {s : State} {m : MethodId} {args : Array Value} {below : List Frame} {meth : Method} {c : Code} {T : State} {H : Heap} {locs : List Loc} {cells slots : Nat}
theorem vx_callVX (X : Stand p l e R s m args below meth c T locs cells slots) (hexec : p.tables.exec = Jvm.exec) {own C : String} {index : Nat} {y : MethodName} {bytes : ByteArray} {maxL : Nat} {ret : Option FieldType} {hh : List (Nat × Nat × Nat × Nat)}
    (hown : s.vm.findClass own = some m.cls) (hlink : (Cond.methodLink own index y).before args s = true) (hinst : (Cond.instanceMethod y).before args s = true) (hsel : (Cond.selects C y y).before args s = true)
    (hcode : (Cond.codeWith y bytes maxL ret hh).before args s = true) (hy : y.cls ≠ "java/lang/invoke/MethodHandle" ∧ y.cls ≠ "java/lang/invoke/VarHandle")
    {W9 : Nat} {Pre : Pt → Array Value → Prop} {Post : Pt → Array Value → Option Value → Pt → Prop} {PostX : Pt → Array Value → Addr → Pt → Prop} (hK : vx_Back l R p e below s args y 3 W9 Pre Post PostX)
    {b : Addr} {cellB : Cell} (hcell : T.heap[b]? = some cellB) (hobj : cellB.vm.isStatics = false) (hcls : s.vm.findClass C = some cellB.cls)
    {g : JFrame} (hg : g.method = m) (hsize : g.locals.size = c.maxLocals) {argsL rest : List Value} (hlen : ∀ sig, parseMethodDescriptor y.desc = some sig → argsL.length = sig.parameters.length)
    (hstack : g.stack = argsL.reverse ++ .ref b :: rest) (hW : 2 * g.monitorRoom + (rest.map fun v => v.category).sum ≤ W9) (hdg : decode c.code g.pc = .ok (.invokevirtual index, 3))
    (hpre : ∀ vm₁, s.WarmedH vm₁ → Pre ⟨T.setVm vm₁, locs, cells, slots⟩ (Value.ref b :: argsL).toArray) :
    (∃ (v : Option Value) (vm₁ : Vm) (B : Pt), s.WarmedH vm₁ ∧ Stand p l e R s m args below meth c B.U B.locs B.cells B.slots ∧ Post ⟨T.setVm vm₁, locs, cells, slots⟩ (Value.ref b :: argsL).toArray v B ∧
      ∀ target, Steps p.tables e below (B.U.setTop { g with pc := g.pc + 3, stack := v.toList ++ rest }) target → Steps p.tables e below (T.setTop g) target) ∨
    (∃ (q : Addr) (vm₁ : Vm) (B : Pt), s.WarmedH vm₁ ∧ Stand p l e R s m args below meth c B.U B.locs B.cells B.slots ∧ PostX ⟨T.setVm vm₁, locs, cells, slots⟩ (Value.ref b :: argsL).toArray q B ∧
      Steps p.tables e below (T.setTop g) ((B.U.setTop { g with stack := rest }).pushFrame (.throwing q))) := by
  obtain ⟨mk, methM, hnamed, hmethM, hstM, habM⟩ := Cond.instanceMethod_spec hinst
  obtain ⟨m8, methM', cM, hn8, hmethM', -, -, -, -, -, -, hsigM⟩ := Cond.codeWith_spec hcode
  cases Option.some.inj (hn8.symm.trans hnamed)
  cases hmethM.symm.trans hmethM'
  obtain ⟨c2, r2, m2, q1, q2, q3, q4, kP, hkP, hkPi⟩ := Cond.selects_spec hsel
  cases hcls.symm.trans q1
  cases (State.methodFound?_of_named hnamed hy).symm.trans q2
  cases hnamed.symm.trans q3
  have hselP : selectMethod e.platform s.vm cellB.cls mk = .method mk := by rw [Launch.admits_selectMethod X.admits]; exact q4
  obtain ⟨vm₁, X₁, hstep₁⟩ := X.invokevirtual hexec hown hlink hnamed hmethM hstM hkP hkPi hy (a := b) (cell := cellB) hcell
    (fun z h => by rw [h] at hobj; cases hobj) hselP hmethM habM hkP hkPi (g := g) hg (argsL := argsL) (rest := rest) (hlen _ hsigM) hstack hdg
  rcases hK m meth c ⟨T.setVm vm₁, locs, cells, slots⟩ { g with stack := rest } (.invokevirtual index) mk (Value.ref b :: argsL).toArray X₁ hg hsize hdg hW (X₁.named hnamed) (hpre vm₁ X₁.warmed) with ⟨v, B, X', hpost, hsteps⟩ | ⟨q, B, X', hpost, hsteps⟩
  · exact Or.inl ⟨v, vm₁, B, X₁.warmed, X', hpost, fun target h => hstep₁ _ fun acts => by rw [doInvoke_state]; exact hsteps.trans h⟩
  · exact Or.inr ⟨q, vm₁, B, X₁.warmed, X', hpost, hstep₁ _ fun acts => by rw [doInvoke_state]; exact hsteps⟩
theorem vx_callSX (X : Stand p l e R s m args below meth c T locs cells slots) (hexec : p.tables.exec = Jvm.exec) {own : String} {index : Nat} {y : MethodName} {bytes : ByteArray} {maxL : Nat} {ret : Option FieldType} {hh : List (Nat × Nat × Nat × Nat)}
    (hown : s.vm.findClass own = some m.cls) (hlink : (Cond.methodLink own index y).before args s = true) (hstat : (Cond.static y).before args s = true) (hinit : (Cond.initialized y.cls).before args s = true)
    (hcode : (Cond.codeWith y bytes maxL ret hh).before args s = true) (hy : y.cls ≠ "java/lang/invoke/MethodHandle" ∧ y.cls ≠ "java/lang/invoke/VarHandle")
    {W9 : Nat} {Pre : Pt → Array Value → Prop} {Post : Pt → Array Value → Option Value → Pt → Prop} {PostX : Pt → Array Value → Addr → Pt → Prop} (hK : vx_Back l R p e below s args y 3 W9 Pre Post PostX)
    {g : JFrame} (hg : g.method = m) (hsize : g.locals.size = c.maxLocals) {argsL rest : List Value} (hlen : ∀ sig, parseMethodDescriptor y.desc = some sig → argsL.length = sig.parameters.length)
    (hstack : g.stack = argsL.reverse ++ rest) (hW : 2 * g.monitorRoom + (rest.map fun v => v.category).sum ≤ W9) (hdg : decode c.code g.pc = .ok (.invokestatic index, 3))
    (hpre : ∀ vm₁, s.WarmedH vm₁ → Pre ⟨T.setVm vm₁, locs, cells, slots⟩ argsL.toArray) :
    (∃ (v : Option Value) (vm₁ : Vm) (B : Pt), s.WarmedH vm₁ ∧ Stand p l e R s m args below meth c B.U B.locs B.cells B.slots ∧ Post ⟨T.setVm vm₁, locs, cells, slots⟩ argsL.toArray v B ∧
      ∀ target, Steps p.tables e below (B.U.setTop { g with pc := g.pc + 3, stack := v.toList ++ rest }) target → Steps p.tables e below (T.setTop g) target) ∨
    (∃ (q : Addr) (vm₁ : Vm) (B : Pt), s.WarmedH vm₁ ∧ Stand p l e R s m args below meth c B.U B.locs B.cells B.slots ∧ PostX ⟨T.setVm vm₁, locs, cells, slots⟩ argsL.toArray q B ∧
      Steps p.tables e below (T.setTop g) ((B.U.setTop { g with stack := rest }).pushFrame (.throwing q))) := by
  obtain ⟨mk, methM, cM, hnamed, hmethM, -, -, -, -, -, -, hsigM⟩ := Cond.codeWith_spec hcode
  have hstatic : methM.isStatic = true := Cond.static_spec hnamed hmethM hstat
  obtain ⟨kP, hkP, -⟩ := className_of_methodNamed hnamed
  have hinitP : kP.init = .initialized := Cond.initialized_spec (findClass_of_methodNamed hnamed) hkP hinit
  obtain ⟨vm₁, X₁, hstep₁⟩ := X.invokestatic hexec hown hlink hnamed hmethM hstatic hkP hinitP hy (g := g) hg (argsL := argsL) (rest := rest) (hlen _ hsigM) hstack hdg
  rcases hK m meth c ⟨T.setVm vm₁, locs, cells, slots⟩ { g with stack := rest } (.invokestatic index) mk argsL.toArray X₁ hg hsize hdg hW (X₁.named hnamed) (hpre vm₁ X₁.warmed) with ⟨v, B, X', hpost, hsteps⟩ | ⟨q, B, X', hpost, hsteps⟩
  · exact Or.inl ⟨v, vm₁, B, X₁.warmed, X', hpost, fun target h => hstep₁ _ fun acts => by rw [doInvoke_state]; exact hsteps.trans h⟩
  · exact Or.inr ⟨q, vm₁, B, X₁.warmed, X', hpost, hstep₁ _ fun acts => by rw [doInvoke_state]; exact hsteps⟩
theorem vx_callVW (X : Stand p l e R s m args below meth c T locs cells slots) (hexec : p.tables.exec = Jvm.exec) {own C : String} {index : Nat} {y : MethodName} {bytes : ByteArray} {maxL : Nat} {ret : Option FieldType} {hh : List (Nat × Nat × Nat × Nat)}
    (hown : s.vm.findClass own = some m.cls) (hlink : (Cond.methodLink own index y).before args s = true) (hinst : (Cond.instanceMethod y).before args s = true) (hsel : (Cond.selects C y y).before args s = true)
    (hcode : (Cond.codeWith y bytes maxL ret hh).before args s = true) (hy : y.cls ≠ "java/lang/invoke/MethodHandle" ∧ y.cls ≠ "java/lang/invoke/VarHandle")
    {W9 : Nat} {Pre : Pt → Array Value → Prop} {Post : Pt → Array Value → Option Value → Pt → Prop} (hK : Back l R p e below s args y 3 W9 Pre Post)
    {b : Addr} {cellB : Cell} (hcell : T.heap[b]? = some cellB) (hobj : cellB.vm.isStatics = false) (hcls : s.vm.findClass C = some cellB.cls)
    {g : JFrame} (hg : g.method = m) (hsize : g.locals.size = c.maxLocals) {argsL rest : List Value} (hlen : ∀ sig, parseMethodDescriptor y.desc = some sig → argsL.length = sig.parameters.length)
    (hstack : g.stack = argsL.reverse ++ .ref b :: rest) (hW : 2 * g.monitorRoom + (rest.map fun v => v.category).sum ≤ W9) (hdg : decode c.code g.pc = .ok (.invokevirtual index, 3))
    (hpre : ∀ vm₁, s.WarmedH vm₁ → Pre ⟨T.setVm vm₁, locs, cells, slots⟩ (Value.ref b :: argsL).toArray) :
    ∃ (v : Option Value) (vm₁ : Vm) (B : Pt), s.WarmedH vm₁ ∧ Stand p l e R s m args below meth c B.U B.locs B.cells B.slots ∧ Post ⟨T.setVm vm₁, locs, cells, slots⟩ (Value.ref b :: argsL).toArray v B ∧
      ∀ target, Steps p.tables e below (B.U.setTop { g with pc := g.pc + 3, stack := v.toList ++ rest }) target → Steps p.tables e below (T.setTop g) target := by
  obtain ⟨mk, methM, hnamed, hmethM, hstM, habM⟩ := Cond.instanceMethod_spec hinst
  obtain ⟨m8, methM', cM, hn8, hmethM', -, -, -, -, -, -, hsigM⟩ := Cond.codeWith_spec hcode
  cases Option.some.inj (hn8.symm.trans hnamed)
  cases hmethM.symm.trans hmethM'
  obtain ⟨c2, r2, m2, q1, q2, q3, q4, kP, hkP, hkPi⟩ := Cond.selects_spec hsel
  cases hcls.symm.trans q1
  cases (State.methodFound?_of_named hnamed hy).symm.trans q2
  cases hnamed.symm.trans q3
  have hselP : selectMethod e.platform s.vm cellB.cls mk = .method mk := by rw [Launch.admits_selectMethod X.admits]; exact q4
  obtain ⟨vm₁, X₁, hstep₁⟩ := X.invokevirtual hexec hown hlink hnamed hmethM hstM hkP hkPi hy (a := b) (cell := cellB) hcell
    (fun z h => by rw [h] at hobj; cases hobj) hselP hmethM habM hkP hkPi (g := g) hg (argsL := argsL) (rest := rest) (hlen _ hsigM) hstack hdg
  obtain ⟨v, B, X', hpost, hsteps⟩ := hK m meth c ⟨T.setVm vm₁, locs, cells, slots⟩ { g with stack := rest } (.invokevirtual index) mk (Value.ref b :: argsL).toArray X₁ hg hsize hdg hW (X₁.named hnamed) (hpre vm₁ X₁.warmed)
  exact ⟨v, vm₁, B, X₁.warmed, X', hpost, fun target h => hstep₁ _ fun acts => by rw [doInvoke_state]; exact hsteps.trans h⟩
abbrev vx_CVW (R : Room) (s : State) (args : Array Value) (own C : String) (index : Nat) (y : MethodName) (bytes : ByteArray) (maxL : Nat) (ret : Option FieldType) (hh : List (Nat × Nat × Nat × Nat)) (ws : List Cond) (rm : Room) (mc ms n : Nat) : Prop :=
  (rm.cells = mc ∧ rm.slots = ms ∧ rm.frames + 1 ≤ R.frames ∧ 8 + (maxL + 11) + rm.locals ≤ R.locals ∧ (∀ w ∈ ws, ∀ (a' : Array Value) (U : State), s.WarmedH U.vm → w.before a' U = true) ∧ Cond.codeWith y bytes maxL ret hh ∈ ws) ∧
  (Cond.codeWith y bytes maxL ret hh).before args s = true ∧ (Cond.initialized y.cls).before args s = true ∧ (y.cls ≠ "java/lang/invoke/MethodHandle" ∧ y.cls ≠ "java/lang/invoke/VarHandle") ∧
  (∀ sig, parseMethodDescriptor y.desc = some sig → n = sig.parameters.length) ∧ (Cond.methodLink own index y).before args s = true ∧ (Cond.instanceMethod y).before args s = true ∧ (Cond.selects C y y).before args s = true
theorem vx_cwVW {own C : String} {index maxL mc ms : Nat} {y : MethodName} {bytes : ByteArray} {ret : Option FieldType} {hh : List (Nat × Nat × Nat × Nat)} {Ts ws ws' : List Cond} {rm : Room} (n : Nat) (ht : ∀ w ∈ Ts, w.before args s = true) (hT : GoodIn Ts (wsV own index C y ws)) (hw : ws = Cond.codeWith y bytes maxL ret hh :: ws') (hrc : rm.cells = mc) (hrs : rm.slots = ms)
    (hd : y.cls = C ∧ y.cls ≠ "java/lang/invoke/MethodHandle" ∧ y.cls ≠ "java/lang/invoke/VarHandle" ∧ (parseMethodDescriptor y.desc).map (fun d => d.parameters.length) = some n) (hR : rm.frames + 1 ≤ R.frames ∧ 8 + (maxL + 11) + rm.locals ≤ R.locals) :
    vx_CVW R s args own C index y bytes maxL ret hh ws rm mc ms n := by
  obtain ⟨hC, hd⟩ := hd
  subst hC
  have ok : ∀ w ∈ wsV own index y.cls y ws, w.before args s = true := fun w h => ht w (hT w h).1
  have hG : GoodIn Ts ws := fun w h => hT w (by unfold wsV; exact List.mem_append_right _ h)
  have hc : Cond.codeWith y bytes maxL ret hh ∈ ws := by rw [hw]; exact List.mem_cons_self
  refine ⟨⟨hrc, hrs, hR.1, hR.2, pay_in ht hG, hc⟩, ht _ (hG _ hc).1, ok _ (by simp [wsV]), ⟨hd.1, hd.2.1⟩, fun sig h => ?_, ok _ (by simp [wsV]), ok _ (by simp [wsV]), ok _ (by simp [wsV])⟩
  have h2 := hd.2.2
  rw [h] at h2
  exact (Option.some.inj h2).symm
theorem vx_runVW {y : MethodName} {bytes cc : ByteArray} {maxL nL mc ms n index : Nat} {ret : Option FieldType} {hh : List (Nat × Nat × Nat × Nat)} {ws : List Cond} {rm : Room} {Pc : Array Value → State → Prop} {Qc : Array Value → State → Outcome → State → Prop} {free : Addr → Prop} {Ts : List Cond} {own C : String} {b : Addr} {As rest : List Value} {g : JFrame}
    (S : CallFix p m c cc nL s args Ts own) (hM : Met l y ws rm Pc Qc mc ms free) (cw : vx_CVW R s args own C index y bytes maxL ret hh ws rm mc ms n) (hp : PreV s H C b Pc As)
    (hg : g.method = m) (hn : As.length = n) (hsize : g.locals.size = nL) (hstack : g.stack = As.reverse ++ .ref b :: rest) (hW : 2 * g.monitorRoom + (rest.map fun v => v.category).sum ≤ 8) (hdg : decode cc g.pc = .ok (.invokevirtual index, 3)) (hf : cells + mc ≤ R.cells ∧ slots + ms ≤ R.slots) :
    va_Run p l e R s m args below meth c H locs cells slots mc ms g rest (Qc (Value.ref b :: As).toArray) free := by
  obtain ⟨⟨hrc, hrs, hfr, hlo, hws, hcw⟩, hcode, hini, hy, hlen, hl, hin, hse⟩ := cw
  have hK : Back l R p e below s args y 3 8 (PreOf R mc ms Pc) (PostOf Qc mc ms free) := va_backW (hh := hh) (bytes := bytes) (maxL := maxL) (ret := ret) hM hp.1 hrc hrs hfr hlo hws hcw (fun a' U hW => word_at hW (Or.inl (by first | rfl | simp [Cond.onTables, Cond.keeps, Cond.steady])) hini)
  obtain ⟨hx, hb, hml, ho, -⟩ := S
  obtain ⟨-, ⟨cellB, hcB, hoB, hclB⟩, hPc⟩ := hp
  intro T hT X
  obtain ⟨v, vm₁, ⟨U', l2, c2, s2⟩, hW₁, X', ⟨g', mk, t, L, e1, e2, hq, h1, hL, h2, h3⟩, st⟩ := vx_callVW X hx (C := C) (hh := hh) (bytes := bytes) (maxL := maxL) (ret := ret) ho hl hin hse hcode hy hK (by rw [hT]; exact hcB) hoB hclB hg (hsize.trans hml.symm) (argsL := As) (rest := rest) (fun sig h => hn.trans (hlen sig h)) hstack hW (by rw [hb]; exact hdg)
    (fun vm₁ hW₁ => ⟨hf.1, hf.2, hPc (T.setVm vm₁) hT hW₁⟩)
  dsimp only [Pt.U, Pt.locs, Pt.cells, Pt.slots] at X' e1 e2 h1 h2 h3 st
  subst h1; subst h2; subst h3
  exact ⟨v, (T.setVm vm₁).calling g' mk (Value.ref b :: As).toArray, t, U', L, hT, X', hL, e1, e2, hq, st⟩
section
variable {y : MethodName} {bytes cc : ByteArray} {maxL nL mc ms n index : Nat} {ret : Option FieldType} {ws : List Cond} {rm : Room} {Pc : Array Value → State → Prop} {Qc : Array Value → State → Outcome → State → Prop} {XC : String → State → State → Prop} {free : Addr → Prop} {Ts : List Cond} {own C : String} {b : Addr} {As rest : List Value} {g : JFrame}
theorem vx_runVX {hh : List (Nat × Nat × Nat × Nat)} (S : CallFix p m c cc nL s args Ts own) (hM : vx_Met l y ws rm Pc Qc XC mc ms free) (cw : vx_CVW R s args own C index y bytes maxL ret hh ws rm mc ms n) (hp : PreV s H C b Pc As)
    (hg : g.method = m) (hn : As.length = n) (hsize : g.locals.size = nL) (hstack : g.stack = As.reverse ++ .ref b :: rest) (hW : 2 * g.monitorRoom + (rest.map fun v => v.category).sum ≤ 8) (hdg : decode cc g.pc = .ok (.invokevirtual index, 3)) (hf : cells + mc ≤ R.cells ∧ slots + ms ≤ R.slots) :
    vx_Run p l e R s m args below meth c H locs cells slots mc ms g rest (Qc (Value.ref b :: As).toArray) XC free := by
  obtain ⟨⟨hrc, hrs, hfr, hlo, hws, hcw⟩, hcode, hini, hy, hlen, hl, hin, hse⟩ := cw
  have hK : vx_Back l R p e below s args y 3 8 (PreOf R mc ms Pc) (PostOf Qc mc ms free) (vx_Post XC mc ms free) := vx_backW (hh := hh) (bytes := bytes) (maxL := maxL) (ret := ret) hM hp.1 hrc hrs hfr hlo hws hcw (fun a' U hW => word_at hW (Or.inl (by first | rfl | simp [Cond.onTables, Cond.keeps, Cond.steady])) hini)
  obtain ⟨hx, hb, hml, ho, -⟩ := S
  obtain ⟨-, ⟨cellB, hcB, hoB, hclB⟩, hPc⟩ := hp
  intro T hT X
  rcases vx_callVX X hx (C := C) (hh := hh) (bytes := bytes) (maxL := maxL) (ret := ret) ho hl hin hse hcode hy hK (by rw [hT]; exact hcB) hoB hclB hg (hsize.trans hml.symm) (argsL := As) (rest := rest) (fun sig h => hn.trans (hlen sig h)) hstack hW (by rw [hb]; exact hdg)
    (fun vm₁ hW₁ => ⟨hf.1, hf.2, hPc (T.setVm vm₁) hT hW₁⟩) with ⟨v, vm₁, ⟨U', l2, c2, s2⟩, hW₁, X', ⟨g', mk, t, L, e1, e2, hq, h1, hL, h2, h3⟩, st⟩ | ⟨q, vm₁, ⟨U', l2, c2, s2⟩, hW₁, X', ⟨g', mk, t, L, E, ce, e1, e2, hq, hce, hcv, hcl, h1, hL, h2, h3⟩, st⟩
  · dsimp only [Pt.U, Pt.locs, Pt.cells, Pt.slots] at X' e1 e2 h1 h2 h3 st
    subst h1; subst h2; subst h3
    exact Or.inl ⟨v, (T.setVm vm₁).calling g' mk (Value.ref b :: As).toArray, t, U', L, hT, X', hL, e1, e2, hq, st⟩
  · dsimp only [Pt.U, Pt.locs, Pt.cells, Pt.slots] at X' e1 e2 h1 h2 h3 st hcl
    subst h1; subst h2; subst h3
    exact Or.inr ⟨q, (T.setVm vm₁).calling g' mk (Value.ref b :: As).toArray, t, U', L, E, ce, hT, X', hL, e1, e2, hq, hce, hcv, vx_cls hW₁ hcl, st⟩
theorem vx_runSX {hh : List (Nat × Nat × Nat × Nat)} (S : CallFix p m c cc nL s args Ts own) (hM : vx_Met l y ws rm Pc Qc XC mc ms free) (cw : vx_CSW R s args own index y bytes maxL ret hh ws rm mc ms n) (hp : PreS s H Pc As)
    (hg : g.method = m) (hn : As.length = n) (hsize : g.locals.size = nL) (hstack : g.stack = As.reverse ++ rest) (hW : 2 * g.monitorRoom + (rest.map fun v => v.category).sum ≤ 8) (hdg : decode cc g.pc = .ok (.invokestatic index, 3)) (hf : cells + mc ≤ R.cells ∧ slots + ms ≤ R.slots) :
    vx_Run p l e R s m args below meth c H locs cells slots mc ms g rest (Qc As.toArray) XC free := by
  obtain ⟨⟨hrc, hrs, hfr, hlo, hws, hcw⟩, hcode, hini, hy, hlen, hl, hstt⟩ := cw
  have hK : vx_Back l R p e below s args y 3 8 (PreOf R mc ms Pc) (PostOf Qc mc ms free) (vx_Post XC mc ms free) := vx_backW (hh := hh) (bytes := bytes) (maxL := maxL) (ret := ret) hM hp.1 hrc hrs hfr hlo hws hcw (fun a' U hW => word_at hW (Or.inl (by first | rfl | simp [Cond.onTables, Cond.keeps, Cond.steady])) hini)
  obtain ⟨hx, hb, hml, ho, -⟩ := S
  intro T hT X
  rcases vx_callSX X hx (hh := hh) (bytes := bytes) (maxL := maxL) (ret := ret) ho hl hstt hini hcode hy hK hg (hsize.trans hml.symm) (argsL := As) (rest := rest) (fun sig h => hn.trans (hlen sig h)) hstack hW (by rw [hb]; exact hdg)
    (fun vm₁ hW₁ => ⟨hf.1, hf.2, hp.2 (T.setVm vm₁) hT hW₁⟩) with ⟨v, vm₁, ⟨U', l2, c2, s2⟩, hW₁, X', ⟨g', mk, t, L, e1, e2, hq, h1, hL, h2, h3⟩, st⟩ | ⟨q, vm₁, ⟨U', l2, c2, s2⟩, hW₁, X', ⟨g', mk, t, L, E, ce, e1, e2, hq, hce, hcv, hcl, h1, hL, h2, h3⟩, st⟩
  · dsimp only [Pt.U, Pt.locs, Pt.cells, Pt.slots] at X' e1 e2 h1 h2 h3 st
    subst h1; subst h2; subst h3
    exact Or.inl ⟨v, (T.setVm vm₁).calling g' mk As.toArray, t, U', L, hT, X', hL, e1, e2, hq, st⟩
  · dsimp only [Pt.U, Pt.locs, Pt.cells, Pt.slots] at X' e1 e2 h1 h2 h3 st hcl
    subst h1; subst h2; subst h3
    exact Or.inr ⟨q, (T.setVm vm₁).calling g' mk As.toArray, t, U', L, E, ce, hT, X', hL, e1, e2, hq, hce, hcv, vx_cls hW₁ hcl, st⟩
end
end VXH
theorem vx_ofWH {l : Launch} {y : MethodName} {ws ws' : List Cond} {rm : Room} {Pc : Array Value → State → Prop} {Qc : Array Value → State → Outcome → State → Prop} {XC : String → State → State → Prop} {mc ms : Nat} {free : Addr → Prop} {cc : ByteArray} {maxL : Nat} {ret : Option FieldType} {hh : List (Nat × Nat × Nat × Nat)}
    (hy : plainName y.cls = true) (hw : ws = Cond.codeWith y cc maxL ret hh :: ws')
    (body : ∀ p e s m args below meth c s₁, BodyLoose p l y (headSpec ws rm) cc maxL ret e s m args below meth c s₁ → c.maxLocals = maxL → Pc args s →
      W p l e (headSpec ws rm).room s m args below meth c s.heap [] 0 0 (vx_MQ below Qc XC args s mc ms free) (entryFrame m args maxL)) : vx_Met l y ws rm Pc Qc XC mc ms free := by
  refine MetFree.of_bodyS (code := cc) (maxLocals := maxL) (ret := ret) hy ?_ ?_
  · intro args s m h hn
    obtain ⟨m9, meth, c, hn9, h1, h2, h3, h4, -, h5, h6, -⟩ := Cond.codeWith_spec (atoms_spec (ws := ws) h _ (by rw [hw]; exact List.mem_cons_self))
    cases hn.symm.trans hn9
    exact ⟨meth, c, h1, h2, h3, h4, h5, h6⟩
  · intro p e s m args below meth c s₁ B hml hP _
    have hh0 : s₁.heap = s.heap := by rw [B.state]; rfl
    obtain ⟨t, a1, o, b1, b2, b3⟩ := body p e s m args below meth c s₁ B hml hP s₁ hh0 (Stand.of_body B)
    exact ⟨t, o, a1, b1, b2, b3⟩
/-! ===== END ===== -/
end
section
/-! ===== BEGIN printed: names, fields, word lists, decode rows ===== -/
def RX0 : String := "TrapMachine$Buffer"
def TX0 : u_T := fun k => match k with
  | _ => ("TrapMachine$Buffer", "parts", "[[I", true)
def tyX0 : Nat → FieldType := fun k => match k with
  | _ => .array (.array .int)
abbrev wsX00 : List Cond := u_ws RX0 TX0 1
theorem nmX0 : ∀ a, a < 1 → ∀ b, b < 1 → a ≠ b → (TX0 a).2.1 ≠ (TX0 b).2.1 := by decide +kernel
theorem tyX0_ok : ∀ k, k < 1 → parseFieldDescriptor (TX0 k).2.2.1 = some (tyX0 k) := by decide +kernel
abbrev cX0_init : ByteArray := prog_2_method_1_code
def yX0_init : MethodName := ⟨RX0, "<init>", "()V"⟩
abbrev cX0_get : ByteArray := prog_2_method_2_code
def yX0_get : MethodName := ⟨RX0, "get", "(II)I"⟩
abbrev cX0_set : ByteArray := prog_2_method_3_code
def yX0_set : MethodName := ⟨RX0, "set", "(IZII)V"⟩
abbrev cX0_setHalves : ByteArray := prog_2_method_4_code
def yX0_setHalves : MethodName := ⟨RX0, "setHalves", "(III)V"⟩
abbrev cX0_find : ByteArray := prog_2_method_5_code
def yX0_find : MethodName := ⟨RX0, "find", "(III)I"⟩
abbrev cX0_empty : ByteArray := prog_2_method_6_code
def yX0_empty : MethodName := ⟨RX0, "empty", "(III)V"⟩
abbrev cX0_isOfKind : ByteArray := prog_2_method_7_code
def yX0_isOfKind : MethodName := ⟨RX0, "isOfKind", "(IIII)Z"⟩
def RX1 : String := "TrapMachine$Code"
def TX1 : u_T := fun k => match k with
  | _ => ("", "", "", false)
def tyX1 : Nat → FieldType := fun k => match k with
  | _ => .int
abbrev wsX10 : List Cond := u_ws RX1 TX1 0
theorem nmX1 : ∀ a, a < 0 → ∀ b, b < 0 → a ≠ b → (TX1 a).2.1 ≠ (TX1 b).2.1 := by decide +kernel
theorem tyX1_ok : ∀ k, k < 0 → parseFieldDescriptor (TX1 k).2.2.1 = some (tyX1 k) := by decide +kernel
def RX2 : String := "TrapMachine$Controls"
def TX2 : u_T := fun k => match k with
  | _ => ("TrapMachine$Controls", "values", "[I", true)
def tyX2 : Nat → FieldType := fun k => match k with
  | _ => .array .int
abbrev wsX20 : List Cond := u_ws RX2 TX2 1
theorem nmX2 : ∀ a, a < 1 → ∀ b, b < 1 → a ≠ b → (TX2 a).2.1 ≠ (TX2 b).2.1 := by decide +kernel
theorem tyX2_ok : ∀ k, k < 1 → parseFieldDescriptor (TX2 k).2.2.1 = some (tyX2 k) := by decide +kernel
abbrev cX2_init : ByteArray := prog_4_method_1_code
def yX2_init : MethodName := ⟨RX2, "<init>", "()V"⟩
abbrev cX2_get : ByteArray := prog_4_method_2_code
def yX2_get : MethodName := ⟨RX2, "get", "(I)I"⟩
abbrev cX2_set : ByteArray := prog_4_method_3_code
def yX2_set : MethodName := ⟨RX2, "set", "(II)V"⟩
abbrev cX2_write : ByteArray := prog_4_method_4_code
def yX2_write : MethodName := ⟨RX2, "write", "(III)V"⟩
abbrev cX2_level : ByteArray := prog_4_method_5_code
def yX2_level : MethodName := ⟨RX2, "level", "()I"⟩
abbrev cX2_isEnabled : ByteArray := prog_4_method_6_code
def yX2_isEnabled : MethodName := ⟨RX2, "isEnabled", "()Z"⟩
abbrev cX2_isDirect : ByteArray := prog_4_method_7_code
def yX2_isDirect : MethodName := ⟨RX2, "isDirect", "()Z"⟩
abbrev cX2_setDirect : ByteArray := prog_4_method_8_code
def yX2_setDirect : MethodName := ⟨RX2, "setDirect", "()V"⟩
abbrev cX2_isEmpty : ByteArray := prog_4_method_9_code
def yX2_isEmpty : MethodName := ⟨RX2, "isEmpty", "()Z"⟩
abbrev cX2_setEmpty : ByteArray := prog_4_method_10_code
def yX2_setEmpty : MethodName := ⟨RX2, "setEmpty", "(Z)V"⟩
abbrev cX2_code : ByteArray := prog_4_method_11_code
def yX2_code : MethodName := ⟨RX2, "code", "()I"⟩
abbrev cX2_setLine : ByteArray := prog_4_method_12_code
def yX2_setLine : MethodName := ⟨RX2, "setLine", "(IZ)V"⟩
abbrev cX2_isAsked : ByteArray := prog_4_method_13_code
def yX2_isAsked : MethodName := ⟨RX2, "isAsked", "()Z"⟩
abbrev cX2_isInWindow : ByteArray := prog_4_method_14_code
def yX2_isInWindow : MethodName := ⟨RX2, "isInWindow", "(I)Z"⟩
abbrev cX2_enter : ByteArray := prog_4_method_15_code
def yX2_enter : MethodName := ⟨RX2, "enter", "(II)V"⟩
abbrev cX2_leave : ByteArray := prog_4_method_16_code
def yX2_leave : MethodName := ⟨RX2, "leave", "()V"⟩
abbrev cX2_tick : ByteArray := prog_4_method_17_code
def yX2_tick : MethodName := ⟨RX2, "tick", "()V"⟩
def RX3 : String := "TrapMachine"
def TX3 : u_T := fun k => match k with
  | 0 => ("TrapMachine", "memory", "[I", true)
  | 1 => ("TrapMachine", "registers", "[I", true)
  | 2 => ("TrapMachine", "controls", "LTrapMachine$Controls;", true)
  | 3 => ("TrapMachine", "buffer", "LTrapMachine$Buffer;", true)
  | 4 => ("TrapMachine", "place", "I", false)
  | 5 => ("TrapMachine", "linked", "Z", false)
  | 6 => ("TrapMachine", "nextFilled", "I", false)
  | 7 => ("TrapMachine", "condition", "I", false)
  | _ => ("TrapMachine", "trapped", "Z", false)
def tyX3 : Nat → FieldType := fun k => match k with
  | 0 => .array .int
  | 1 => .array .int
  | 2 => .object "TrapMachine$Controls"
  | 3 => .object "TrapMachine$Buffer"
  | 4 => .int
  | 5 => .boolean
  | 6 => .int
  | 7 => .int
  | _ => .boolean
abbrev wsX30 : List Cond := u_ws RX3 TX3 9
theorem nmX3 : ∀ a, a < 9 → ∀ b, b < 9 → a ≠ b → (TX3 a).2.1 ≠ (TX3 b).2.1 := by decide +kernel
theorem tyX3_ok : ∀ k, k < 9 → parseFieldDescriptor (TX3 k).2.2.1 = some (tyX3 k) := by decide +kernel
abbrev cX3_init : ByteArray := prog_1_method_1_code
def yX3_init : MethodName := ⟨RX3, "<init>", "()V"⟩
abbrev cX3_load : ByteArray := prog_1_method_2_code
def yX3_load : MethodName := ⟨RX3, "load", "(II)V"⟩
abbrev cX3_word : ByteArray := prog_1_method_3_code
def yX3_word : MethodName := ⟨RX3, "word", "(I)I"⟩
abbrev cX3_line : ByteArray := prog_1_method_4_code
def yX3_line : MethodName := ⟨RX3, "line", "(IZ)V"⟩
abbrev cX3_filled : ByteArray := prog_1_method_5_code
def yX3_filled : MethodName := ⟨RX3, "filled", "(I)V"⟩
abbrev cX3_jump : ByteArray := prog_1_method_6_code
def yX3_jump : MethodName := ⟨RX3, "jump", "(I)V"⟩
abbrev cX3_run : ByteArray := prog_1_method_7_code
def yX3_run : MethodName := ⟨RX3, "run", "(I)I"⟩
abbrev cX3_state : ByteArray := prog_1_method_8_code
def yX3_state : MethodName := ⟨RX3, "state", "()I"⟩
abbrev cX3_register : ByteArray := prog_1_method_9_code
def yX3_register : MethodName := ⟨RX3, "register", "(I)I"⟩
abbrev cX3_control : ByteArray := prog_1_method_10_code
def yX3_control : MethodName := ⟨RX3, "control", "(I)I"⟩
abbrev cX3_entry : ByteArray := prog_1_method_11_code
def yX3_entry : MethodName := ⟨RX3, "entry", "(II)I"⟩
abbrev cX3_isInMemory : ByteArray := prog_1_method_12_code
def yX3_isInMemory : MethodName := ⟨RX3, "isInMemory", "(I)Z"⟩
abbrev cX3_step : ByteArray := prog_1_method_13_code
def yX3_step : MethodName := ⟨RX3, "step", "()V"⟩
abbrev cX3_perform : ByteArray := prog_1_method_14_code
def yX3_perform : MethodName := ⟨RX3, "perform", "()V"⟩
abbrev cX3_performPrivileged : ByteArray := prog_1_method_15_code
def yX3_performPrivileged : MethodName := ⟨RX3, "performPrivileged", "(II)V"⟩
abbrev cX3_byteB : ByteArray := prog_1_method_16_code
def yX3_byteB : MethodName := ⟨RX3, "byteB", "(I)I"⟩
abbrev cX3_byteC : ByteArray := prog_1_method_17_code
def yX3_byteC : MethodName := ⟨RX3, "byteC", "(I)I"⟩
abbrev cX3_imm : ByteArray := prog_1_method_18_code
def yX3_imm : MethodName := ⟨RX3, "imm", "(I)I"⟩
abbrev cX3_valueA : ByteArray := prog_1_method_19_code
def yX3_valueA : MethodName := ⟨RX3, "valueA", "(I)I"⟩
abbrev cX3_valueB : ByteArray := prog_1_method_20_code
def yX3_valueB : MethodName := ⟨RX3, "valueB", "(I)I"⟩
abbrev cX3_valueC : ByteArray := prog_1_method_21_code
def yX3_valueC : MethodName := ⟨RX3, "valueC", "(I)I"⟩
abbrev cX3_setA : ByteArray := prog_1_method_22_code
def yX3_setA : MethodName := ⟨RX3, "setA", "(II)V"⟩
abbrev cX3_calculate : ByteArray := prog_1_method_23_code
def yX3_calculate : MethodName := ⟨RX3, "calculate", "(II)V"⟩
abbrev cX3_result : ByteArray := prog_1_method_24_code
def yX3_result : MethodName := ⟨RX3, "result", "(II)I"⟩
abbrev cX3_loadWord : ByteArray := prog_1_method_25_code
def yX3_loadWord : MethodName := ⟨RX3, "loadWord", "(II)V"⟩
abbrev cX3_storeWord : ByteArray := prog_1_method_26_code
def yX3_storeWord : MethodName := ⟨RX3, "storeWord", "(II)V"⟩
abbrev cX3_branch : ByteArray := prog_1_method_27_code
def yX3_branch : MethodName := ⟨RX3, "branch", "(II)V"⟩
abbrev cX3_holds : ByteArray := prog_1_method_28_code
def yX3_holds : MethodName := ⟨RX3, "holds", "(III)Z"⟩
abbrev cX3_useControl : ByteArray := prog_1_method_29_code
def yX3_useControl : MethodName := ⟨RX3, "useControl", "(II)V"⟩
abbrev cX3_goBack : ByteArray := prog_1_method_30_code
def yX3_goBack : MethodName := ⟨RX3, "goBack", "()V"⟩
abbrev cX3_useBuffer : ByteArray := prog_1_method_31_code
def yX3_useBuffer : MethodName := ⟨RX3, "useBuffer", "(I)V"⟩
abbrev cX3_searchEntry : ByteArray := prog_1_method_32_code
def yX3_searchEntry : MethodName := ⟨RX3, "searchEntry", "()V"⟩
abbrev cX3_readEntry : ByteArray := prog_1_method_33_code
def yX3_readEntry : MethodName := ⟨RX3, "readEntry", "(I)V"⟩
abbrev cX3_writeEntry : ByteArray := prog_1_method_34_code
def yX3_writeEntry : MethodName := ⟨RX3, "writeEntry", "(I)V"⟩
abbrev cX3_emptyEntries : ByteArray := prog_1_method_35_code
def yX3_emptyEntries : MethodName := ⟨RX3, "emptyEntries", "(I)V"⟩
abbrev cX3_find : ByteArray := prog_1_method_36_code
def yX3_find : MethodName := ⟨RX3, "find", "(II)I"⟩
abbrev cX3_findMapped : ByteArray := prog_1_method_37_code
def yX3_findMapped : MethodName := ⟨RX3, "findMapped", "(II)I"⟩
abbrev cX3_fail : ByteArray := prog_1_method_38_code
def yX3_fail : MethodName := ⟨RX3, "fail", "(II)V"⟩
abbrev cX3_raise : ByteArray := prog_1_method_39_code
def yX3_raise : MethodName := ⟨RX3, "raise", "(I)V"⟩
def RX4 : String := "TrapMachineModel"
def TX4 : u_T := fun k => match k with
  | 0 => ("TrapMachineModel", "thrown", "I", false)
  | 1 => ("TrapMachineModel", "memory", "[I", true)
  | 2 => ("TrapMachineModel", "register", "[I", true)
  | 3 => ("TrapMachineModel", "control", "[I", true)
  | 4 => ("TrapMachineModel", "written", "[I", true)
  | 5 => ("TrapMachineModel", "there", "[Z", true)
  | 6 => ("TrapMachineModel", "global", "[Z", true)
  | 7 => ("TrapMachineModel", "pair", "[I", true)
  | 8 => ("TrapMachineModel", "space", "[I", true)
  | 9 => ("TrapMachineModel", "half", "[I", true)
  | 10 => ("TrapMachineModel", "place", "I", false)
  | 11 => ("TrapMachineModel", "next", "I", false)
  | 12 => ("TrapMachineModel", "filled", "I", false)
  | 13 => ("TrapMachineModel", "link", "Z", false)
  | 14 => ("TrapMachineModel", "rests", "Z", false)
  | 15 => ("TrapMachineModel", "stopped", "Z", false)
  | 16 => ("TrapMachineModel", "brings", "I", false)
  | 17 => ("TrapMachineModel", "broughtAt", "I", false)
  | 18 => ("TrapMachineModel", "found", "I", false)
  | _ => ("TrapMachineModel", "raised", "Z", false)
def tyX4 : Nat → FieldType := fun k => match k with
  | 0 => .int
  | 1 => .array .int
  | 2 => .array .int
  | 3 => .array .int
  | 4 => .array .int
  | 5 => .array .boolean
  | 6 => .array .boolean
  | 7 => .array .int
  | 8 => .array .int
  | 9 => .array .int
  | 10 => .int
  | 11 => .int
  | 12 => .int
  | 13 => .boolean
  | 14 => .boolean
  | 15 => .boolean
  | 16 => .int
  | 17 => .int
  | 18 => .int
  | _ => .boolean
abbrev wsX40 : List Cond := u_ws RX4 TX4 20
theorem nmX4 : ∀ a, a < 20 → ∀ b, b < 20 → a ≠ b → (TX4 a).2.1 ≠ (TX4 b).2.1 := by decide +kernel
theorem tyX4_ok : ∀ k, k < 20 → parseFieldDescriptor (TX4 k).2.2.1 = some (tyX4 k) := by decide +kernel
abbrev cX4_init : ByteArray := prog_6_method_1_code
def yX4_init : MethodName := ⟨RX4, "<init>", "()V"⟩
abbrev cX4_thrown : ByteArray := prog_6_method_2_code
def yX4_thrown : MethodName := ⟨RX4, "thrown", "()I"⟩
abbrev cX4_refuse : ByteArray := prog_6_method_3_code
def yX4_refuse : MethodName := ⟨RX4, "refuse", "(I)I"⟩
abbrev cX4_outside : ByteArray := prog_6_method_4_code
def yX4_outside : MethodName := ⟨RX4, "outside", "(III)Z"⟩
abbrev cX4_user : ByteArray := prog_6_method_5_code
def yX4_user : MethodName := ⟨RX4, "user", "()Z"⟩
abbrev cX4_codeOf : ByteArray := prog_6_method_6_code
def yX4_codeOf : MethodName := ⟨RX4, "codeOf", "()I"⟩
abbrev cX4_pairOf : ByteArray := prog_6_method_7_code
def yX4_pairOf : MethodName := ⟨RX4, "pairOf", "(I)I"⟩
abbrev cX4_with : ByteArray := prog_6_method_8_code
def yX4_with : MethodName := ⟨RX4, "with", "(III)I"⟩
abbrev cX4_enter : ByteArray := prog_6_method_9_code
def yX4_enter : MethodName := ⟨RX4, "enter", "(I)V"⟩
abbrev cX4_fits : ByteArray := prog_6_method_10_code
def yX4_fits : MethodName := ⟨RX4, "fits", "(III)Z"⟩
abbrev cX4_lookUp : ByteArray := prog_6_method_11_code
def yX4_lookUp : MethodName := ⟨RX4, "lookUp", "(II)I"⟩
abbrev cX4_map : ByteArray := prog_6_method_12_code
def yX4_map : MethodName := ⟨RX4, "map", "(II)I"⟩
abbrev cX4_write : ByteArray := prog_6_method_13_code
def yX4_write : MethodName := ⟨RX4, "write", "(III)V"⟩
abbrev cX4_search : ByteArray := prog_6_method_14_code
def yX4_search : MethodName := ⟨RX4, "search", "()V"⟩
abbrev cX4_read : ByteArray := prog_6_method_15_code
def yX4_read : MethodName := ⟨RX4, "read", "(I)V"⟩
abbrev cX4_fill : ByteArray := prog_6_method_16_code
def yX4_fill : MethodName := ⟨RX4, "fill", "(I)V"⟩
abbrev cX4_empty : ByteArray := prog_6_method_17_code
def yX4_empty : MethodName := ⟨RX4, "empty", "(III)I"⟩
abbrev cX4_put : ByteArray := prog_6_method_18_code
def yX4_put : MethodName := ⟨RX4, "put", "(II)V"⟩
abbrev cX4_reckon : ByteArray := prog_6_method_19_code
def yX4_reckon : MethodName := ⟨RX4, "reckon", "(IIII)I"⟩
abbrev cX4_reach : ByteArray := prog_6_method_20_code
def yX4_reach : MethodName := ⟨RX4, "reach", "(III)I"⟩
abbrev cX4_go : ByteArray := prog_6_method_21_code
def yX4_go : MethodName := ⟨RX4, "go", "(IIII)I"⟩
abbrev cX4_controls : ByteArray := prog_6_method_22_code
def yX4_controls : MethodName := ⟨RX4, "controls", "(IIII)I"⟩
abbrev cX4_govern : ByteArray := prog_6_method_23_code
def yX4_govern : MethodName := ⟨RX4, "govern", "(IIII)I"⟩
abbrev cX4_instruction : ByteArray := prog_6_method_24_code
def yX4_instruction : MethodName := ⟨RX4, "instruction", "()I"⟩
abbrev cX4_tick : ByteArray := prog_6_method_25_code
def yX4_tick : MethodName := ⟨RX4, "tick", "()V"⟩
abbrev cX4_step : ByteArray := prog_6_method_26_code
def yX4_step : MethodName := ⟨RX4, "step", "()V"⟩
abbrev cX4_isWord : ByteArray := prog_6_method_27_code
def yX4_isWord : MethodName := ⟨RX4, "isWord", "(I)Z"⟩
abbrev cX4_load : ByteArray := prog_6_method_28_code
def yX4_load : MethodName := ⟨RX4, "load", "(II)V"⟩
abbrev cX4_word : ByteArray := prog_6_method_29_code
def yX4_word : MethodName := ⟨RX4, "word", "(I)I"⟩
abbrev cX4_line : ByteArray := prog_6_method_30_code
def yX4_line : MethodName := ⟨RX4, "line", "(IZ)V"⟩
abbrev cX4_filled : ByteArray := prog_6_method_31_code
def yX4_filled : MethodName := ⟨RX4, "filled", "(I)V"⟩
abbrev cX4_jump : ByteArray := prog_6_method_32_code
def yX4_jump : MethodName := ⟨RX4, "jump", "(I)V"⟩
abbrev cX4_run : ByteArray := prog_6_method_33_code
def yX4_run : MethodName := ⟨RX4, "run", "(I)I"⟩
abbrev cX4_state : ByteArray := prog_6_method_34_code
def yX4_state : MethodName := ⟨RX4, "state", "()I"⟩
abbrev cX4_register : ByteArray := prog_6_method_35_code
def yX4_register : MethodName := ⟨RX4, "register", "(I)I"⟩
abbrev cX4_control : ByteArray := prog_6_method_36_code
def yX4_control : MethodName := ⟨RX4, "control", "(I)I"⟩
abbrev cX4_entry : ByteArray := prog_6_method_37_code
def yX4_entry : MethodName := ⟨RX4, "entry", "(II)I"⟩
def RJ9 : String := "java/lang/Math"
def TJ9 : u_T := fun k => match k with
  | _ => ("", "", "", false)
def tyJ9 : Nat → FieldType := fun k => match k with
  | _ => .int
abbrev wsJ90 : List Cond := u_ws RJ9 TJ9 0
theorem nmJ9 : ∀ a, a < 0 → ∀ b, b < 0 → a ≠ b → (TJ9 a).2.1 ≠ (TJ9 b).2.1 := by decide +kernel
theorem tyJ9_ok : ∀ k, k < 0 → parseFieldDescriptor (TJ9 k).2.2.1 = some (tyJ9 k) := by decide +kernel
abbrev cJ9_min_7cf53 : ByteArray := prog_9_method_69_code
def yJ9_min_7cf53 : MethodName := ⟨RJ9, "min", "(II)I"⟩
def RJ0 : String := "java/lang/String"
def TJ0 : u_T := fun k => match k with
  | _ => ("", "", "", false)
def tyJ0 : Nat → FieldType := fun k => match k with
  | _ => .int
abbrev wsJ00 : List Cond := u_ws RJ0 TJ0 0
theorem nmJ0 : ∀ a, a < 0 → ∀ b, b < 0 → a ≠ b → (TJ0 a).2.1 ≠ (TJ0 b).2.1 := by decide +kernel
theorem tyJ0_ok : ∀ k, k < 0 → parseFieldDescriptor (TJ0 k).2.2.1 = some (tyJ0 k) := by decide +kernel
def RL : String := "TrapMachineLaw"
abbrev cL_load : ByteArray := method_3_code
def yL_load : MethodName := ⟨RL, "load", "(LTrapMachine;II)I"⟩
abbrev cL_word : ByteArray := method_4_code
def yL_word : MethodName := ⟨RL, "word", "(LTrapMachine;I[J)I"⟩
abbrev cL_line : ByteArray := method_5_code
def yL_line : MethodName := ⟨RL, "line", "(LTrapMachine;IZ)I"⟩
abbrev cL_register : ByteArray := method_6_code
def yL_register : MethodName := ⟨RL, "register", "(LTrapMachine;I[J)I"⟩
abbrev cL_control : ByteArray := method_7_code
def yL_control : MethodName := ⟨RL, "control", "(LTrapMachine;I[J)I"⟩
abbrev cL_entry : ByteArray := method_8_code
def yL_entry : MethodName := ⟨RL, "entry", "(LTrapMachine;II[J)I"⟩
abbrev cL_law : ByteArray := code
def yL_law : MethodName := ⟨RL, "law", "([I)Z"⟩
def wsX0_init : List Cond := .code yX0_init cX0_init 1 none :: ([.methodLink RX0 1 objectInit, .instanceMethod objectInit, .code objectInit ⟨#[0xb1]⟩ 1 none, .classLink RX0 9 "[[I", .arrayClass .int, .fieldLink RX0 11 "TrapMachine$Buffer" "parts" "[[I"] ++ wsX00)
def wsX0_get : List Cond := .code yX0_get cX0_get 3 (some .int) :: ([.fieldLink RX0 11 "TrapMachine$Buffer" "parts" "[[I"] ++ wsX00)
def wsX0_set : List Cond := .code yX0_set cX0_set 5 none :: ([.fieldLink RX0 11 "TrapMachine$Buffer" "parts" "[[I"] ++ wsX00)
def wsX0_setHalves : List Cond := .code yX0_setHalves cX0_setHalves 4 none :: ([.fieldLink RX0 11 "TrapMachine$Buffer" "parts" "[[I"] ++ wsX00)
def wsX0_find : List Cond := .code yX0_find cX0_find 7 (some .int) :: ([.fieldLink RX0 11 "TrapMachine$Buffer" "parts" "[[I"] ++ wsX00)
def wsX0_isOfKind : List Cond := .code yX0_isOfKind cX0_isOfKind 7 (some .boolean) :: ([.fieldLink RX0 11 "TrapMachine$Buffer" "parts" "[[I"] ++ wsX00)
def wsX0_empty : List Cond := .code yX0_empty cX0_empty 5 none :: ([.fieldLink RX0 11 "TrapMachine$Buffer" "parts" "[[I", .methodLink RX0 14 yX0_isOfKind, .instanceMethod yX0_isOfKind, .selects RX0 yX0_isOfKind yX0_isOfKind, .initialized RX0, .code yX0_isOfKind cX0_isOfKind 7 (some .boolean)] ++ wsX00)
def wsX2_init : List Cond := .code yX2_init cX2_init 1 none :: ([.methodLink RX2 3 objectInit, .instanceMethod objectInit, .code objectInit ⟨#[0xb1]⟩ 1 none, .arrayClass .int, .fieldLink RX2 11 "TrapMachine$Controls" "values" "[I"] ++ wsX20)
def wsX2_get : List Cond := .code yX2_get cX2_get 2 (some .int) :: ([.fieldLink RX2 11 "TrapMachine$Controls" "values" "[I"] ++ wsX20)
def wsX2_set : List Cond := .code yX2_set cX2_set 3 none :: ([.fieldLink RX2 11 "TrapMachine$Controls" "values" "[I"] ++ wsX20)
def wsX2_write : List Cond := .code yX2_write cX2_write 6 none :: ([.fieldLink RX2 15 "TrapMachine$Controls" "COUNTING" "[I", .fieldLink RX2 11 "TrapMachine$Controls" "values" "[I", .fieldLink RX2 18 "TrapMachine$Controls" "LEVEL_BITS" "[I", .constant RX2 21 (65532)] ++ wsX20)
def wsX2_level : List Cond := .code yX2_level cX2_level 1 (some .int) :: ([.fieldLink RX2 11 "TrapMachine$Controls" "values" "[I"] ++ wsX20)
def wsX2_isEnabled : List Cond := .code yX2_isEnabled cX2_isEnabled 1 (some .boolean) :: ([.fieldLink RX2 11 "TrapMachine$Controls" "values" "[I"] ++ wsX20)
def wsX2_isDirect : List Cond := .code yX2_isDirect cX2_isDirect 1 (some .boolean) :: ([.fieldLink RX2 11 "TrapMachine$Controls" "values" "[I"] ++ wsX20)
def wsX2_setDirect : List Cond := .code yX2_setDirect cX2_setDirect 1 none :: ([.fieldLink RX2 11 "TrapMachine$Controls" "values" "[I"] ++ wsX20)
def wsX2_isEmpty : List Cond := .code yX2_isEmpty cX2_isEmpty 1 (some .boolean) :: ([.fieldLink RX2 11 "TrapMachine$Controls" "values" "[I", .constant RX2 22 (-2147483648)] ++ wsX20)
def wsX2_setEmpty : List Cond := .code yX2_setEmpty cX2_setEmpty 2 none :: ([.fieldLink RX2 11 "TrapMachine$Controls" "values" "[I", .constant RX2 23 (2147483647), .constant RX2 22 (-2147483648)] ++ wsX20)
def wsX2_code : List Cond := .code yX2_code cX2_code 1 (some .int) :: ([.fieldLink RX2 11 "TrapMachine$Controls" "values" "[I"] ++ wsX20)
def wsX2_setLine : List Cond := .code yX2_setLine cX2_setLine 4 none :: ([.fieldLink RX2 11 "TrapMachine$Controls" "values" "[I"] ++ wsX20)
def wsX2_isAsked : List Cond := .code yX2_isAsked cX2_isAsked 1 (some .boolean) :: ([.fieldLink RX2 11 "TrapMachine$Controls" "values" "[I"] ++ wsX20)
def wsX2_isInWindow : List Cond := .code yX2_isInWindow cX2_isInWindow 4 (some .boolean) :: ([.fieldLink RX2 11 "TrapMachine$Controls" "values" "[I"] ++ wsX20)
def wsX2_enter : List Cond := .code yX2_enter cX2_enter 3 none :: ([.fieldLink RX2 11 "TrapMachine$Controls" "values" "[I"] ++ wsX20)
def wsX2_leave : List Cond := .code yX2_leave cX2_leave 1 none :: ([.fieldLink RX2 11 "TrapMachine$Controls" "values" "[I", .methodLink RX2 24 yX2_code, .instanceMethod yX2_code, .selects RX2 yX2_code yX2_code, .initialized RX2, .code yX2_code cX2_code 1 (some .int)] ++ wsX20)
def wsX2_tick : List Cond := .code yX2_tick cX2_tick 2 none :: ([.fieldLink RX2 11 "TrapMachine$Controls" "values" "[I", .constant RX2 21 (65532)] ++ wsX20)
def wsX3_init : List Cond := .code yX3_init cX3_init 1 none :: ([.methodLink RX3 1 objectInit, .instanceMethod objectInit, .code objectInit ⟨#[0xb1]⟩ 1 none, .arrayClass .int, .fieldLink RX3 9 "TrapMachine" "memory" "[I", .fieldLink RX3 13 "TrapMachine" "registers" "[I", .classLink RX3 16 RX2, .instantiable RX2 1, .initialized RX2, .fieldLink RX3 19 "TrapMachine" "controls" "LTrapMachine$Controls;", .classLink RX3 23 RX0, .instantiable RX0 1, .initialized RX0, .fieldLink RX3 26 "TrapMachine" "buffer" "LTrapMachine$Buffer;", .fieldLink RX3 30 "TrapMachine" "condition" "I", .instanceMethod yX2_init, .code yX2_init cX2_init 1 none, .methodLink RX2 3 objectInit, .fieldLink RX2 11 "TrapMachine$Controls" "values" "[I", .instanceMethod yX0_init, .code yX0_init cX0_init 1 none, .methodLink RX0 1 objectInit, .classLink RX0 9 "[[I", .fieldLink RX0 11 "TrapMachine$Buffer" "parts" "[[I"] ++ wsX30 ++ wsX20 ++ wsX00)
def wsX3_isInMemory : List Cond := .code yX3_isInMemory cX3_isInMemory 1 (some .boolean) :: ([])
def wsX3_load : List Cond := .code yX3_load cX3_load 3 none :: ([.classLink RX3 38 "java/lang/IllegalArgumentException", .initialized "java/lang/IllegalArgumentException", .fieldLink RX3 9 "TrapMachine" "memory" "[I", .methodLink RX3 34 yX3_isInMemory, .static yX3_isInMemory, .initialized RX3, .code yX3_isInMemory cX3_isInMemory 1 (some .boolean)] ++ wsX30 ++ (vx_atS RX3 42 "java/lang/IllegalArgumentException" ["java/lang/RuntimeException", "java/lang/Exception"]).filter goodWord)
def wsX3_word : List Cond := .code yX3_word cX3_word 2 (some .int) :: ([.classLink RX3 38 "java/lang/IllegalArgumentException", .initialized "java/lang/IllegalArgumentException", .fieldLink RX3 9 "TrapMachine" "memory" "[I", .methodLink RX3 34 yX3_isInMemory, .static yX3_isInMemory, .initialized RX3, .code yX3_isInMemory cX3_isInMemory 1 (some .boolean)] ++ wsX30 ++ (vx_atS RX3 42 "java/lang/IllegalArgumentException" ["java/lang/RuntimeException", "java/lang/Exception"]).filter goodWord)
def wsX3_line : List Cond := .code yX3_line cX3_line 3 none :: ([.classLink RX3 38 "java/lang/IllegalArgumentException", .initialized "java/lang/IllegalArgumentException", .fieldLink RX3 19 "TrapMachine" "controls" "LTrapMachine$Controls;", .instanceMethod yX2_setLine, .initialized RX2, .selects RX2 yX2_setLine yX2_setLine, .code yX2_setLine cX2_setLine 4 none, .fieldLink RX2 11 "TrapMachine$Controls" "values" "[I"] ++ wsX30 ++ wsX20 ++ (vx_atS RX3 42 "java/lang/IllegalArgumentException" ["java/lang/RuntimeException", "java/lang/Exception"]).filter goodWord)
def wsX3_filled : List Cond := .code yX3_filled cX3_filled 2 none :: ([.fieldLink RX3 51 "TrapMachine" "nextFilled" "I"] ++ wsX30)
def wsX3_jump : List Cond := .code yX3_jump cX3_jump 2 none :: ([.fieldLink RX3 54 "TrapMachine" "place" "I", .fieldLink RX3 30 "TrapMachine" "condition" "I"] ++ wsX30)
def wsX3_raise : List Cond := .code yX3_raise cX3_raise 2 none :: ([.fieldLink RX3 19 "TrapMachine" "controls" "LTrapMachine$Controls;", .fieldLink RX3 54 "TrapMachine" "place" "I", .fieldLink RX3 63 "TrapMachine" "trapped" "Z", .instanceMethod yX2_enter, .initialized RX2, .selects RX2 yX2_enter yX2_enter, .code yX2_enter cX2_enter 3 none, .fieldLink RX2 11 "TrapMachine$Controls" "values" "[I", .instanceMethod yX2_setDirect, .selects RX2 yX2_setDirect yX2_setDirect, .code yX2_setDirect cX2_setDirect 1 none, .instanceMethod yX2_get, .selects RX2 yX2_get yX2_get, .code yX2_get cX2_get 2 (some .int)] ++ wsX30 ++ wsX20)
def wsX3_findMapped : List Cond := .code yX3_findMapped cX3_findMapped 8 (some .int) :: ([.fieldLink RX3 19 "TrapMachine" "controls" "LTrapMachine$Controls;", .fieldLink RX3 26 "TrapMachine" "buffer" "LTrapMachine$Buffer;", .instanceMethod yX2_get, .initialized RX2, .selects RX2 yX2_get yX2_get, .code yX2_get cX2_get 2 (some .int), .fieldLink RX2 11 "TrapMachine$Controls" "values" "[I", .instanceMethod yX0_find, .initialized RX0, .selects RX0 yX0_find yX0_find, .code yX0_find cX0_find 7 (some .int), .fieldLink RX0 11 "TrapMachine$Buffer" "parts" "[[I", .instanceMethod yX0_get, .selects RX0 yX0_get yX0_get, .code yX0_get cX0_get 3 (some .int), .instanceMethod yX2_level, .selects RX2 yX2_level yX2_level, .code yX2_level cX2_level 1 (some .int)] ++ wsX30 ++ wsX20 ++ wsX00)
def wsX3_find_r1 : List Cond := [Cond.fieldLink RX3 19 "TrapMachine" "controls" "LTrapMachine$Controls;", Cond.constant RX3 221 (268435455), Cond.instanceMethod yX2_isDirect, Cond.initialized RX2, Cond.selects RX2 yX2_isDirect yX2_isDirect, Cond.code yX2_isDirect cX2_isDirect 1 (some .boolean), Cond.fieldLink RX2 11 "TrapMachine$Controls" "values" "[I", Cond.instanceMethod yX2_isInWindow, Cond.selects RX2 yX2_isInWindow yX2_isInWindow, Cond.code yX2_isInWindow cX2_isInWindow 4 (some .boolean), Cond.methodLink RX3 218 yX3_findMapped, Cond.instanceMethod yX3_findMapped, Cond.selects RX3 yX3_findMapped yX3_findMapped, Cond.initialized RX3, Cond.code yX3_findMapped cX3_findMapped 8 (some .int), Cond.fieldLink RX3 26 "TrapMachine" "buffer" "LTrapMachine$Buffer;", Cond.instanceMethod yX2_get, Cond.selects RX2 yX2_get yX2_get, Cond.code yX2_get cX2_get 2 (some .int), Cond.instanceMethod yX0_find, Cond.initialized RX0, Cond.selects RX0 yX0_find yX0_find, Cond.code yX0_find cX0_find 7 (some .int), Cond.fieldLink RX0 11 "TrapMachine$Buffer" "parts" "[[I"]
def wsX3_find_r2 : List Cond := [Cond.instanceMethod yX0_get, Cond.selects RX0 yX0_get yX0_get, Cond.code yX0_get cX0_get 3 (some .int), Cond.instanceMethod yX2_level, Cond.selects RX2 yX2_level yX2_level, Cond.code yX2_level cX2_level 1 (some .int), Cond.methodLink RX3 34 yX3_isInMemory, Cond.static yX3_isInMemory, Cond.code yX3_isInMemory cX3_isInMemory 1 (some .boolean)]
def wsX3_find : List Cond := .code yX3_find cX3_find 4 (some .int) :: ((wsX3_find_r1 ++ wsX3_find_r2) ++ wsX30 ++ wsX20 ++ wsX00)
def wsX3_fail : List Cond := .code yX3_fail cX3_fail 4 none :: ([.fieldLink RX3 30 "TrapMachine" "condition" "I", .fieldLink RX3 19 "TrapMachine" "controls" "LTrapMachine$Controls;", .instanceMethod yX2_set, .initialized RX2, .selects RX2 yX2_set yX2_set, .code yX2_set cX2_set 3 none, .fieldLink RX2 11 "TrapMachine$Controls" "values" "[I", .methodLink RX3 92 yX3_raise, .instanceMethod yX3_raise, .selects RX3 yX3_raise yX3_raise, .initialized RX3, .code yX3_raise cX3_raise 2 none, .fieldLink RX3 54 "TrapMachine" "place" "I", .fieldLink RX3 63 "TrapMachine" "trapped" "Z", .instanceMethod yX2_enter, .selects RX2 yX2_enter yX2_enter, .code yX2_enter cX2_enter 3 none, .instanceMethod yX2_setDirect, .selects RX2 yX2_setDirect yX2_setDirect, .code yX2_setDirect cX2_setDirect 1 none, .instanceMethod yX2_get, .selects RX2 yX2_get yX2_get, .code yX2_get cX2_get 2 (some .int)] ++ wsX30 ++ wsX20)
def wsX3_valueB : List Cond := .code yX3_valueB cX3_valueB 2 (some .int) :: ([.fieldLink RX3 13 "TrapMachine" "registers" "[I"] ++ wsX30)
def wsX3_valueC : List Cond := .code yX3_valueC cX3_valueC 2 (some .int) :: ([.fieldLink RX3 13 "TrapMachine" "registers" "[I"] ++ wsX30)
def wsX3_imm : List Cond := .code yX3_imm cX3_imm 1 (some .int) :: ([])
def wsX3_byteB : List Cond := .code yX3_byteB cX3_byteB 1 (some .int) :: ([])
def wsX3_byteC : List Cond := .code yX3_byteC cX3_byteC 1 (some .int) :: ([])
def wsX3_result : List Cond := .code yX3_result cX3_result 5 (some .int) :: ([.constant RX3 157 (65536), .methodLink RX3 148 yX3_valueB, .instanceMethod yX3_valueB, .selects RX3 yX3_valueB yX3_valueB, .initialized RX3, .code yX3_valueB cX3_valueB 2 (some .int), .fieldLink RX3 13 "TrapMachine" "registers" "[I", .methodLink RX3 151 yX3_valueC, .instanceMethod yX3_valueC, .selects RX3 yX3_valueC yX3_valueC, .code yX3_valueC cX3_valueC 2 (some .int), .methodLink RX3 154 yX3_imm, .static yX3_imm, .code yX3_imm cX3_imm 1 (some .int), .methodLink RX3 158 yX3_byteB, .static yX3_byteB, .code yX3_byteB cX3_byteB 1 (some .int), .methodLink RX3 161 yX3_byteC, .static yX3_byteC, .code yX3_byteC cX3_byteC 1 (some .int)] ++ wsX30)
def wsX3_setA : List Cond := .code yX3_setA cX3_setA 4 none :: ([.fieldLink RX3 13 "TrapMachine" "registers" "[I"] ++ wsX30)
def wsX3_calculate_r1 : List Cond := [Cond.fieldLink RX3 54 "TrapMachine" "place" "I", Cond.methodLink RX3 142 yX3_result, Cond.instanceMethod yX3_result, Cond.selects RX3 yX3_result yX3_result, Cond.initialized RX3, Cond.code yX3_result cX3_result 5 (some .int), Cond.constant RX3 157 (65536), Cond.methodLink RX3 148 yX3_valueB, Cond.instanceMethod yX3_valueB, Cond.selects RX3 yX3_valueB yX3_valueB, Cond.code yX3_valueB cX3_valueB 2 (some .int), Cond.fieldLink RX3 13 "TrapMachine" "registers" "[I", Cond.methodLink RX3 151 yX3_valueC, Cond.instanceMethod yX3_valueC, Cond.selects RX3 yX3_valueC yX3_valueC, Cond.code yX3_valueC cX3_valueC 2 (some .int), Cond.methodLink RX3 154 yX3_imm, Cond.static yX3_imm, Cond.code yX3_imm cX3_imm 1 (some .int), Cond.methodLink RX3 158 yX3_byteB, Cond.static yX3_byteB, Cond.code yX3_byteB cX3_byteB 1 (some .int), Cond.methodLink RX3 161 yX3_byteC, Cond.static yX3_byteC]
def wsX3_calculate_r2 : List Cond := [Cond.code yX3_byteC cX3_byteC 1 (some .int), Cond.methodLink RX3 145 yX3_setA, Cond.instanceMethod yX3_setA, Cond.selects RX3 yX3_setA yX3_setA, Cond.code yX3_setA cX3_setA 4 none]
def wsX3_calculate : List Cond := .code yX3_calculate cX3_calculate 3 none :: ((wsX3_calculate_r1 ++ wsX3_calculate_r2) ++ wsX30)
def wsX3_loadWord_r1 : List Cond := [Cond.fieldLink RX3 9 "TrapMachine" "memory" "[I", Cond.fieldLink RX3 72 "TrapMachine" "linked" "Z", Cond.fieldLink RX3 54 "TrapMachine" "place" "I", Cond.methodLink RX3 148 yX3_valueB, Cond.instanceMethod yX3_valueB, Cond.selects RX3 yX3_valueB yX3_valueB, Cond.initialized RX3, Cond.code yX3_valueB cX3_valueB 2 (some .int), Cond.fieldLink RX3 13 "TrapMachine" "registers" "[I", Cond.methodLink RX3 154 yX3_imm, Cond.static yX3_imm, Cond.code yX3_imm cX3_imm 1 (some .int), Cond.methodLink RX3 102 yX3_find, Cond.instanceMethod yX3_find, Cond.selects RX3 yX3_find yX3_find, Cond.code yX3_find cX3_find 4 (some .int), Cond.fieldLink RX3 19 "TrapMachine" "controls" "LTrapMachine$Controls;", Cond.constant RX3 221 (268435455), Cond.instanceMethod yX2_isDirect, Cond.initialized RX2, Cond.selects RX2 yX2_isDirect yX2_isDirect, Cond.code yX2_isDirect cX2_isDirect 1 (some .boolean), Cond.fieldLink RX2 11 "TrapMachine$Controls" "values" "[I", Cond.instanceMethod yX2_isInWindow]
def wsX3_loadWord_r2 : List Cond := [Cond.selects RX2 yX2_isInWindow yX2_isInWindow, Cond.code yX2_isInWindow cX2_isInWindow 4 (some .boolean), Cond.methodLink RX3 218 yX3_findMapped, Cond.instanceMethod yX3_findMapped, Cond.selects RX3 yX3_findMapped yX3_findMapped, Cond.code yX3_findMapped cX3_findMapped 8 (some .int), Cond.fieldLink RX3 26 "TrapMachine" "buffer" "LTrapMachine$Buffer;", Cond.instanceMethod yX2_get, Cond.selects RX2 yX2_get yX2_get, Cond.code yX2_get cX2_get 2 (some .int), Cond.instanceMethod yX0_find, Cond.initialized RX0, Cond.selects RX0 yX0_find yX0_find, Cond.code yX0_find cX0_find 7 (some .int), Cond.fieldLink RX0 11 "TrapMachine$Buffer" "parts" "[[I", Cond.instanceMethod yX0_get, Cond.selects RX0 yX0_get yX0_get, Cond.code yX0_get cX0_get 3 (some .int), Cond.instanceMethod yX2_level, Cond.selects RX2 yX2_level yX2_level, Cond.code yX2_level cX2_level 1 (some .int), Cond.methodLink RX3 34 yX3_isInMemory, Cond.static yX3_isInMemory, Cond.code yX3_isInMemory cX3_isInMemory 1 (some .boolean)]
def wsX3_loadWord_r3 : List Cond := [Cond.methodLink RX3 105 yX3_fail, Cond.instanceMethod yX3_fail, Cond.selects RX3 yX3_fail yX3_fail, Cond.code yX3_fail cX3_fail 4 none, Cond.fieldLink RX3 30 "TrapMachine" "condition" "I", Cond.instanceMethod yX2_set, Cond.selects RX2 yX2_set yX2_set, Cond.code yX2_set cX2_set 3 none, Cond.methodLink RX3 92 yX3_raise, Cond.instanceMethod yX3_raise, Cond.selects RX3 yX3_raise yX3_raise, Cond.code yX3_raise cX3_raise 2 none, Cond.fieldLink RX3 63 "TrapMachine" "trapped" "Z", Cond.instanceMethod yX2_enter, Cond.selects RX2 yX2_enter yX2_enter, Cond.code yX2_enter cX2_enter 3 none, Cond.instanceMethod yX2_setDirect, Cond.selects RX2 yX2_setDirect yX2_setDirect, Cond.code yX2_setDirect cX2_setDirect 1 none, Cond.methodLink RX3 145 yX3_setA, Cond.instanceMethod yX3_setA, Cond.selects RX3 yX3_setA yX3_setA, Cond.code yX3_setA cX3_setA 4 none]
def wsX3_loadWord : List Cond := .code yX3_loadWord cX3_loadWord 5 none :: ((wsX3_loadWord_r1 ++ (wsX3_loadWord_r2 ++ wsX3_loadWord_r3)) ++ wsX30 ++ wsX20 ++ wsX00)
def wsX3_valueA : List Cond := .code yX3_valueA cX3_valueA 2 (some .int) :: ([.fieldLink RX3 13 "TrapMachine" "registers" "[I"] ++ wsX30)
def wsX3_storeWord_r1 : List Cond := [Cond.fieldLink RX3 72 "TrapMachine" "linked" "Z", Cond.fieldLink RX3 54 "TrapMachine" "place" "I", Cond.fieldLink RX3 9 "TrapMachine" "memory" "[I", Cond.methodLink RX3 145 yX3_setA, Cond.instanceMethod yX3_setA, Cond.selects RX3 yX3_setA yX3_setA, Cond.initialized RX3, Cond.code yX3_setA cX3_setA 4 none, Cond.fieldLink RX3 13 "TrapMachine" "registers" "[I", Cond.methodLink RX3 148 yX3_valueB, Cond.instanceMethod yX3_valueB, Cond.selects RX3 yX3_valueB yX3_valueB, Cond.code yX3_valueB cX3_valueB 2 (some .int), Cond.methodLink RX3 154 yX3_imm, Cond.static yX3_imm, Cond.code yX3_imm cX3_imm 1 (some .int), Cond.methodLink RX3 102 yX3_find, Cond.instanceMethod yX3_find, Cond.selects RX3 yX3_find yX3_find, Cond.code yX3_find cX3_find 4 (some .int), Cond.fieldLink RX3 19 "TrapMachine" "controls" "LTrapMachine$Controls;", Cond.constant RX3 221 (268435455), Cond.instanceMethod yX2_isDirect, Cond.initialized RX2]
def wsX3_storeWord_r2 : List Cond := [Cond.selects RX2 yX2_isDirect yX2_isDirect, Cond.code yX2_isDirect cX2_isDirect 1 (some .boolean), Cond.fieldLink RX2 11 "TrapMachine$Controls" "values" "[I", Cond.instanceMethod yX2_isInWindow, Cond.selects RX2 yX2_isInWindow yX2_isInWindow, Cond.code yX2_isInWindow cX2_isInWindow 4 (some .boolean), Cond.methodLink RX3 218 yX3_findMapped, Cond.instanceMethod yX3_findMapped, Cond.selects RX3 yX3_findMapped yX3_findMapped, Cond.code yX3_findMapped cX3_findMapped 8 (some .int), Cond.fieldLink RX3 26 "TrapMachine" "buffer" "LTrapMachine$Buffer;", Cond.instanceMethod yX2_get, Cond.selects RX2 yX2_get yX2_get, Cond.code yX2_get cX2_get 2 (some .int), Cond.instanceMethod yX0_find, Cond.initialized RX0, Cond.selects RX0 yX0_find yX0_find, Cond.code yX0_find cX0_find 7 (some .int), Cond.fieldLink RX0 11 "TrapMachine$Buffer" "parts" "[[I", Cond.instanceMethod yX0_get, Cond.selects RX0 yX0_get yX0_get, Cond.code yX0_get cX0_get 3 (some .int), Cond.instanceMethod yX2_level, Cond.selects RX2 yX2_level yX2_level]
def wsX3_storeWord_r3 : List Cond := [Cond.code yX2_level cX2_level 1 (some .int), Cond.methodLink RX3 34 yX3_isInMemory, Cond.static yX3_isInMemory, Cond.code yX3_isInMemory cX3_isInMemory 1 (some .boolean), Cond.methodLink RX3 105 yX3_fail, Cond.instanceMethod yX3_fail, Cond.selects RX3 yX3_fail yX3_fail, Cond.code yX3_fail cX3_fail 4 none, Cond.fieldLink RX3 30 "TrapMachine" "condition" "I", Cond.instanceMethod yX2_set, Cond.selects RX2 yX2_set yX2_set, Cond.code yX2_set cX2_set 3 none, Cond.methodLink RX3 92 yX3_raise, Cond.instanceMethod yX3_raise, Cond.selects RX3 yX3_raise yX3_raise, Cond.code yX3_raise cX3_raise 2 none, Cond.fieldLink RX3 63 "TrapMachine" "trapped" "Z", Cond.instanceMethod yX2_enter, Cond.selects RX2 yX2_enter yX2_enter, Cond.code yX2_enter cX2_enter 3 none, Cond.instanceMethod yX2_setDirect, Cond.selects RX2 yX2_setDirect yX2_setDirect, Cond.code yX2_setDirect cX2_setDirect 1 none, Cond.methodLink RX3 164 yX3_valueA]
def wsX3_storeWord_r4 : List Cond := [Cond.instanceMethod yX3_valueA, Cond.selects RX3 yX3_valueA yX3_valueA, Cond.code yX3_valueA cX3_valueA 2 (some .int)]
def wsX3_storeWord : List Cond := .code yX3_storeWord cX3_storeWord 5 none :: ((wsX3_storeWord_r1 ++ (wsX3_storeWord_r2 ++ (wsX3_storeWord_r3 ++ wsX3_storeWord_r4))) ++ wsX30 ++ wsX20 ++ wsX00)
def wsX3_holds : List Cond := .code yX3_holds cX3_holds 3 (some .boolean) :: ([])
def wsX3_branch : List Cond := .code yX3_branch cX3_branch 5 none :: ([.fieldLink RX3 54 "TrapMachine" "place" "I", .methodLink RX3 148 yX3_valueB, .instanceMethod yX3_valueB, .selects RX3 yX3_valueB yX3_valueB, .initialized RX3, .code yX3_valueB cX3_valueB 2 (some .int), .fieldLink RX3 13 "TrapMachine" "registers" "[I", .methodLink RX3 154 yX3_imm, .static yX3_imm, .code yX3_imm cX3_imm 1 (some .int), .methodLink RX3 145 yX3_setA, .instanceMethod yX3_setA, .selects RX3 yX3_setA yX3_setA, .code yX3_setA cX3_setA 4 none, .methodLink RX3 164 yX3_valueA, .instanceMethod yX3_valueA, .selects RX3 yX3_valueA yX3_valueA, .code yX3_valueA cX3_valueA 2 (some .int), .methodLink RX3 167 yX3_holds, .static yX3_holds, .code yX3_holds cX3_holds 3 (some .boolean)] ++ wsX30)
def wsX3_useControl_r1 : List Cond := [Cond.fieldLink RX3 19 "TrapMachine" "controls" "LTrapMachine$Controls;", Cond.fieldLink RX3 54 "TrapMachine" "place" "I", Cond.methodLink RX3 161 yX3_byteC, Cond.static yX3_byteC, Cond.initialized RX3, Cond.code yX3_byteC cX3_byteC 1 (some .int), Cond.methodLink RX3 92 yX3_raise, Cond.instanceMethod yX3_raise, Cond.selects RX3 yX3_raise yX3_raise, Cond.code yX3_raise cX3_raise 2 none, Cond.fieldLink RX3 63 "TrapMachine" "trapped" "Z", Cond.instanceMethod yX2_enter, Cond.initialized RX2, Cond.selects RX2 yX2_enter yX2_enter, Cond.code yX2_enter cX2_enter 3 none, Cond.fieldLink RX2 11 "TrapMachine$Controls" "values" "[I", Cond.instanceMethod yX2_setDirect, Cond.selects RX2 yX2_setDirect yX2_setDirect, Cond.code yX2_setDirect cX2_setDirect 1 none, Cond.instanceMethod yX2_get, Cond.selects RX2 yX2_get yX2_get, Cond.code yX2_get cX2_get 2 (some .int), Cond.methodLink RX3 164 yX3_valueA, Cond.instanceMethod yX3_valueA]
def wsX3_useControl_r2 : List Cond := [Cond.selects RX3 yX3_valueA yX3_valueA, Cond.code yX3_valueA cX3_valueA 2 (some .int), Cond.fieldLink RX3 13 "TrapMachine" "registers" "[I", Cond.instanceMethod yX2_write, Cond.selects RX2 yX2_write yX2_write, Cond.code yX2_write cX2_write 6 none, Cond.fieldLink RX2 15 "TrapMachine$Controls" "COUNTING" "[I", Cond.fieldLink RX2 18 "TrapMachine$Controls" "LEVEL_BITS" "[I", Cond.constant RX2 21 (65532), Cond.methodLink RX3 148 yX3_valueB, Cond.instanceMethod yX3_valueB, Cond.selects RX3 yX3_valueB yX3_valueB, Cond.code yX3_valueB cX3_valueB 2 (some .int), Cond.methodLink RX3 145 yX3_setA, Cond.instanceMethod yX3_setA, Cond.selects RX3 yX3_setA yX3_setA, Cond.code yX3_setA cX3_setA 4 none]
def wsX3_useControl : List Cond := .code yX3_useControl cX3_useControl 5 none :: ((wsX3_useControl_r1 ++ wsX3_useControl_r2) ++ wsX30 ++ wsX20)
def wsX3_searchEntry : List Cond := .code yX3_searchEntry cX3_searchEntry 3 none :: ([.fieldLink RX3 19 "TrapMachine" "controls" "LTrapMachine$Controls;", .fieldLink RX3 26 "TrapMachine" "buffer" "LTrapMachine$Buffer;", .instanceMethod yX2_get, .initialized RX2, .selects RX2 yX2_get yX2_get, .code yX2_get cX2_get 2 (some .int), .fieldLink RX2 11 "TrapMachine$Controls" "values" "[I", .instanceMethod yX0_find, .initialized RX0, .selects RX0 yX0_find yX0_find, .code yX0_find cX0_find 7 (some .int), .fieldLink RX0 11 "TrapMachine$Buffer" "parts" "[[I", .instanceMethod yX2_setEmpty, .selects RX2 yX2_setEmpty yX2_setEmpty, .code yX2_setEmpty cX2_setEmpty 2 none, .constant RX2 23 (2147483647), .constant RX2 22 (-2147483648), .instanceMethod yX2_set, .selects RX2 yX2_set yX2_set, .code yX2_set cX2_set 3 none] ++ wsX30 ++ wsX20 ++ wsX00)
def wsX3_readEntry : List Cond := .code yX3_readEntry cX3_readEntry 4 none :: ([.fieldLink RX3 26 "TrapMachine" "buffer" "LTrapMachine$Buffer;", .fieldLink RX3 19 "TrapMachine" "controls" "LTrapMachine$Controls;", .instanceMethod yX0_get, .initialized RX0, .selects RX0 yX0_get yX0_get, .code yX0_get cX0_get 3 (some .int), .fieldLink RX0 11 "TrapMachine$Buffer" "parts" "[[I", .instanceMethod yX2_setEmpty, .initialized RX2, .selects RX2 yX2_setEmpty yX2_setEmpty, .code yX2_setEmpty cX2_setEmpty 2 none, .fieldLink RX2 11 "TrapMachine$Controls" "values" "[I", .constant RX2 23 (2147483647), .constant RX2 22 (-2147483648), .instanceMethod yX2_set, .selects RX2 yX2_set yX2_set, .code yX2_set cX2_set 3 none] ++ wsX30 ++ wsX00 ++ wsX20)
def wsX3_writeEntry : List Cond := .code yX3_writeEntry cX3_writeEntry 3 none :: ([.fieldLink RX3 19 "TrapMachine" "controls" "LTrapMachine$Controls;", .fieldLink RX3 26 "TrapMachine" "buffer" "LTrapMachine$Buffer;", .instanceMethod yX2_isEmpty, .initialized RX2, .selects RX2 yX2_isEmpty yX2_isEmpty, .code yX2_isEmpty cX2_isEmpty 1 (some .boolean), .fieldLink RX2 11 "TrapMachine$Controls" "values" "[I", .constant RX2 22 (-2147483648), .instanceMethod yX2_code, .selects RX2 yX2_code yX2_code, .code yX2_code cX2_code 1 (some .int), .instanceMethod yX2_get, .selects RX2 yX2_get yX2_get, .code yX2_get cX2_get 2 (some .int), .instanceMethod yX0_set, .initialized RX0, .selects RX0 yX0_set yX0_set, .code yX0_set cX0_set 5 none, .fieldLink RX0 11 "TrapMachine$Buffer" "parts" "[[I", .instanceMethod yX0_setHalves, .selects RX0 yX0_setHalves yX0_setHalves, .code yX0_setHalves cX0_setHalves 4 none] ++ wsX30 ++ wsX20 ++ wsX00)
def wsX3_useBuffer_r1 : List Cond := [Cond.fieldLink RX3 19 "TrapMachine" "controls" "LTrapMachine$Controls;", Cond.fieldLink RX3 51 "TrapMachine" "nextFilled" "I", Cond.fieldLink RX3 54 "TrapMachine" "place" "I", Cond.instanceMethod yX2_get, Cond.initialized RX2, Cond.selects RX2 yX2_get yX2_get, Cond.code yX2_get cX2_get 2 (some .int), Cond.fieldLink RX2 11 "TrapMachine$Controls" "values" "[I", Cond.methodLink RX3 178 yX3_searchEntry, Cond.instanceMethod yX3_searchEntry, Cond.selects RX3 yX3_searchEntry yX3_searchEntry, Cond.initialized RX3, Cond.code yX3_searchEntry cX3_searchEntry 3 none, Cond.fieldLink RX3 26 "TrapMachine" "buffer" "LTrapMachine$Buffer;", Cond.instanceMethod yX0_find, Cond.initialized RX0, Cond.selects RX0 yX0_find yX0_find, Cond.code yX0_find cX0_find 7 (some .int), Cond.fieldLink RX0 11 "TrapMachine$Buffer" "parts" "[[I", Cond.instanceMethod yX2_setEmpty, Cond.selects RX2 yX2_setEmpty yX2_setEmpty, Cond.code yX2_setEmpty cX2_setEmpty 2 none, Cond.constant RX2 23 (2147483647), Cond.constant RX2 22 (-2147483648)]
def wsX3_useBuffer_r2 : List Cond := [Cond.instanceMethod yX2_set, Cond.selects RX2 yX2_set yX2_set, Cond.code yX2_set cX2_set 3 none, Cond.methodLink RX3 181 yX3_readEntry, Cond.instanceMethod yX3_readEntry, Cond.selects RX3 yX3_readEntry yX3_readEntry, Cond.code yX3_readEntry cX3_readEntry 4 none, Cond.instanceMethod yX0_get, Cond.selects RX0 yX0_get yX0_get, Cond.code yX0_get cX0_get 3 (some .int), Cond.methodLink RX3 184 yX3_writeEntry, Cond.instanceMethod yX3_writeEntry, Cond.selects RX3 yX3_writeEntry yX3_writeEntry, Cond.code yX3_writeEntry cX3_writeEntry 3 none, Cond.instanceMethod yX2_isEmpty, Cond.selects RX2 yX2_isEmpty yX2_isEmpty, Cond.code yX2_isEmpty cX2_isEmpty 1 (some .boolean), Cond.instanceMethod yX2_code, Cond.selects RX2 yX2_code yX2_code, Cond.code yX2_code cX2_code 1 (some .int), Cond.instanceMethod yX0_set, Cond.selects RX0 yX0_set yX0_set, Cond.code yX0_set cX0_set 5 none, Cond.instanceMethod yX0_setHalves]
def wsX3_useBuffer_r3 : List Cond := [Cond.selects RX0 yX0_setHalves yX0_setHalves, Cond.code yX0_setHalves cX0_setHalves 4 none]
def wsX3_useBuffer : List Cond := .code yX3_useBuffer cX3_useBuffer 3 none :: ((wsX3_useBuffer_r1 ++ (wsX3_useBuffer_r2 ++ wsX3_useBuffer_r3)) ++ wsX30 ++ wsX20 ++ wsX00)
def wsX3_emptyEntries_r1 : List Cond := [Cond.fieldLink RX3 26 "TrapMachine" "buffer" "LTrapMachine$Buffer;", Cond.fieldLink RX3 54 "TrapMachine" "place" "I", Cond.methodLink RX3 161 yX3_byteC, Cond.static yX3_byteC, Cond.initialized RX3, Cond.code yX3_byteC cX3_byteC 1 (some .int), Cond.methodLink RX3 92 yX3_raise, Cond.instanceMethod yX3_raise, Cond.selects RX3 yX3_raise yX3_raise, Cond.code yX3_raise cX3_raise 2 none, Cond.fieldLink RX3 19 "TrapMachine" "controls" "LTrapMachine$Controls;", Cond.fieldLink RX3 63 "TrapMachine" "trapped" "Z", Cond.instanceMethod yX2_enter, Cond.initialized RX2, Cond.selects RX2 yX2_enter yX2_enter, Cond.code yX2_enter cX2_enter 3 none, Cond.fieldLink RX2 11 "TrapMachine$Controls" "values" "[I", Cond.instanceMethod yX2_setDirect, Cond.selects RX2 yX2_setDirect yX2_setDirect, Cond.code yX2_setDirect cX2_setDirect 1 none, Cond.instanceMethod yX2_get, Cond.selects RX2 yX2_get yX2_get, Cond.code yX2_get cX2_get 2 (some .int), Cond.methodLink RX3 164 yX3_valueA]
def wsX3_emptyEntries_r2 : List Cond := [Cond.instanceMethod yX3_valueA, Cond.selects RX3 yX3_valueA yX3_valueA, Cond.code yX3_valueA cX3_valueA 2 (some .int), Cond.fieldLink RX3 13 "TrapMachine" "registers" "[I", Cond.methodLink RX3 148 yX3_valueB, Cond.instanceMethod yX3_valueB, Cond.selects RX3 yX3_valueB yX3_valueB, Cond.code yX3_valueB cX3_valueB 2 (some .int), Cond.instanceMethod yX0_empty, Cond.initialized RX0, Cond.selects RX0 yX0_empty yX0_empty, Cond.code yX0_empty cX0_empty 5 none, Cond.fieldLink RX0 11 "TrapMachine$Buffer" "parts" "[[I", Cond.methodLink RX0 14 yX0_isOfKind, Cond.instanceMethod yX0_isOfKind, Cond.selects RX0 yX0_isOfKind yX0_isOfKind, Cond.code yX0_isOfKind cX0_isOfKind 7 (some .boolean)]
def wsX3_emptyEntries : List Cond := .code yX3_emptyEntries cX3_emptyEntries 3 none :: ((wsX3_emptyEntries_r1 ++ wsX3_emptyEntries_r2) ++ wsX30 ++ wsX20 ++ wsX00)
def wsX3_goBack : List Cond := .code yX3_goBack cX3_goBack 1 none :: ([.fieldLink RX3 19 "TrapMachine" "controls" "LTrapMachine$Controls;", .fieldLink RX3 54 "TrapMachine" "place" "I", .fieldLink RX3 72 "TrapMachine" "linked" "Z", .instanceMethod yX2_leave, .initialized RX2, .selects RX2 yX2_leave yX2_leave, .code yX2_leave cX2_leave 1 none, .fieldLink RX2 11 "TrapMachine$Controls" "values" "[I", .methodLink RX2 24 yX2_code, .instanceMethod yX2_code, .selects RX2 yX2_code yX2_code, .code yX2_code cX2_code 1 (some .int), .instanceMethod yX2_get, .selects RX2 yX2_get yX2_get, .code yX2_get cX2_get 2 (some .int)] ++ wsX30 ++ wsX20)
def wsX3_performPrivileged_r1 : List Cond := [Cond.fieldLink RX3 19 "TrapMachine" "controls" "LTrapMachine$Controls;", Cond.fieldLink RX3 30 "TrapMachine" "condition" "I", Cond.fieldLink RX3 54 "TrapMachine" "place" "I", Cond.instanceMethod yX2_level, Cond.initialized RX2, Cond.selects RX2 yX2_level yX2_level, Cond.code yX2_level cX2_level 1 (some .int), Cond.fieldLink RX2 11 "TrapMachine$Controls" "values" "[I", Cond.methodLink RX3 92 yX3_raise, Cond.instanceMethod yX3_raise, Cond.selects RX3 yX3_raise yX3_raise, Cond.initialized RX3, Cond.code yX3_raise cX3_raise 2 none, Cond.fieldLink RX3 63 "TrapMachine" "trapped" "Z", Cond.instanceMethod yX2_enter, Cond.selects RX2 yX2_enter yX2_enter, Cond.code yX2_enter cX2_enter 3 none, Cond.instanceMethod yX2_setDirect, Cond.selects RX2 yX2_setDirect yX2_setDirect, Cond.code yX2_setDirect cX2_setDirect 1 none, Cond.instanceMethod yX2_get, Cond.selects RX2 yX2_get yX2_get, Cond.code yX2_get cX2_get 2 (some .int), Cond.methodLink RX3 130 yX3_useControl]
def wsX3_performPrivileged_r2 : List Cond := [Cond.instanceMethod yX3_useControl, Cond.selects RX3 yX3_useControl yX3_useControl, Cond.code yX3_useControl cX3_useControl 5 none, Cond.methodLink RX3 161 yX3_byteC, Cond.static yX3_byteC, Cond.code yX3_byteC cX3_byteC 1 (some .int), Cond.methodLink RX3 164 yX3_valueA, Cond.instanceMethod yX3_valueA, Cond.selects RX3 yX3_valueA yX3_valueA, Cond.code yX3_valueA cX3_valueA 2 (some .int), Cond.fieldLink RX3 13 "TrapMachine" "registers" "[I", Cond.instanceMethod yX2_write, Cond.selects RX2 yX2_write yX2_write, Cond.code yX2_write cX2_write 6 none, Cond.fieldLink RX2 15 "TrapMachine$Controls" "COUNTING" "[I", Cond.fieldLink RX2 18 "TrapMachine$Controls" "LEVEL_BITS" "[I", Cond.constant RX2 21 (65532), Cond.methodLink RX3 148 yX3_valueB, Cond.instanceMethod yX3_valueB, Cond.selects RX3 yX3_valueB yX3_valueB, Cond.code yX3_valueB cX3_valueB 2 (some .int), Cond.methodLink RX3 145 yX3_setA, Cond.instanceMethod yX3_setA, Cond.selects RX3 yX3_setA yX3_setA]
def wsX3_performPrivileged_r3 : List Cond := [Cond.code yX3_setA cX3_setA 4 none, Cond.methodLink RX3 133 yX3_useBuffer, Cond.instanceMethod yX3_useBuffer, Cond.selects RX3 yX3_useBuffer yX3_useBuffer, Cond.code yX3_useBuffer cX3_useBuffer 3 none, Cond.fieldLink RX3 51 "TrapMachine" "nextFilled" "I", Cond.methodLink RX3 178 yX3_searchEntry, Cond.instanceMethod yX3_searchEntry, Cond.selects RX3 yX3_searchEntry yX3_searchEntry, Cond.code yX3_searchEntry cX3_searchEntry 3 none, Cond.fieldLink RX3 26 "TrapMachine" "buffer" "LTrapMachine$Buffer;", Cond.instanceMethod yX0_find, Cond.initialized RX0, Cond.selects RX0 yX0_find yX0_find, Cond.code yX0_find cX0_find 7 (some .int), Cond.fieldLink RX0 11 "TrapMachine$Buffer" "parts" "[[I", Cond.instanceMethod yX2_setEmpty, Cond.selects RX2 yX2_setEmpty yX2_setEmpty, Cond.code yX2_setEmpty cX2_setEmpty 2 none, Cond.constant RX2 23 (2147483647), Cond.constant RX2 22 (-2147483648), Cond.instanceMethod yX2_set, Cond.selects RX2 yX2_set yX2_set, Cond.code yX2_set cX2_set 3 none]
def wsX3_performPrivileged_r4 : List Cond := [Cond.methodLink RX3 181 yX3_readEntry, Cond.instanceMethod yX3_readEntry, Cond.selects RX3 yX3_readEntry yX3_readEntry, Cond.code yX3_readEntry cX3_readEntry 4 none, Cond.instanceMethod yX0_get, Cond.selects RX0 yX0_get yX0_get, Cond.code yX0_get cX0_get 3 (some .int), Cond.methodLink RX3 184 yX3_writeEntry, Cond.instanceMethod yX3_writeEntry, Cond.selects RX3 yX3_writeEntry yX3_writeEntry, Cond.code yX3_writeEntry cX3_writeEntry 3 none, Cond.instanceMethod yX2_isEmpty, Cond.selects RX2 yX2_isEmpty yX2_isEmpty, Cond.code yX2_isEmpty cX2_isEmpty 1 (some .boolean), Cond.instanceMethod yX2_code, Cond.selects RX2 yX2_code yX2_code, Cond.code yX2_code cX2_code 1 (some .int), Cond.instanceMethod yX0_set, Cond.selects RX0 yX0_set yX0_set, Cond.code yX0_set cX0_set 5 none, Cond.instanceMethod yX0_setHalves, Cond.selects RX0 yX0_setHalves yX0_setHalves, Cond.code yX0_setHalves cX0_setHalves 4 none, Cond.methodLink RX3 136 yX3_emptyEntries]
def wsX3_performPrivileged_r5 : List Cond := [Cond.instanceMethod yX3_emptyEntries, Cond.selects RX3 yX3_emptyEntries yX3_emptyEntries, Cond.code yX3_emptyEntries cX3_emptyEntries 3 none, Cond.instanceMethod yX0_empty, Cond.selects RX0 yX0_empty yX0_empty, Cond.code yX0_empty cX0_empty 5 none, Cond.methodLink RX0 14 yX0_isOfKind, Cond.instanceMethod yX0_isOfKind, Cond.selects RX0 yX0_isOfKind yX0_isOfKind, Cond.code yX0_isOfKind cX0_isOfKind 7 (some .boolean), Cond.methodLink RX3 139 yX3_goBack, Cond.instanceMethod yX3_goBack, Cond.selects RX3 yX3_goBack yX3_goBack, Cond.code yX3_goBack cX3_goBack 1 none, Cond.fieldLink RX3 72 "TrapMachine" "linked" "Z", Cond.instanceMethod yX2_leave, Cond.selects RX2 yX2_leave yX2_leave, Cond.code yX2_leave cX2_leave 1 none, Cond.methodLink RX2 24 yX2_code]
def wsX3_performPrivileged : List Cond := .code yX3_performPrivileged cX3_performPrivileged 3 none :: ((wsX3_performPrivileged_r1 ++ (wsX3_performPrivileged_r2 ++ (wsX3_performPrivileged_r3 ++ (wsX3_performPrivileged_r4 ++ wsX3_performPrivileged_r5)))) ++ wsX30 ++ wsX20 ++ wsX00)
def wsX3_perform_r1 : List Cond := [Cond.fieldLink RX3 54 "TrapMachine" "place" "I", Cond.fieldLink RX3 9 "TrapMachine" "memory" "[I", Cond.methodLink RX3 102 yX3_find, Cond.instanceMethod yX3_find, Cond.selects RX3 yX3_find yX3_find, Cond.initialized RX3, Cond.code yX3_find cX3_find 4 (some .int), Cond.fieldLink RX3 19 "TrapMachine" "controls" "LTrapMachine$Controls;", Cond.constant RX3 221 (268435455), Cond.instanceMethod yX2_isDirect, Cond.initialized RX2, Cond.selects RX2 yX2_isDirect yX2_isDirect, Cond.code yX2_isDirect cX2_isDirect 1 (some .boolean), Cond.fieldLink RX2 11 "TrapMachine$Controls" "values" "[I", Cond.instanceMethod yX2_isInWindow, Cond.selects RX2 yX2_isInWindow yX2_isInWindow, Cond.code yX2_isInWindow cX2_isInWindow 4 (some .boolean), Cond.methodLink RX3 218 yX3_findMapped, Cond.instanceMethod yX3_findMapped, Cond.selects RX3 yX3_findMapped yX3_findMapped, Cond.code yX3_findMapped cX3_findMapped 8 (some .int), Cond.fieldLink RX3 26 "TrapMachine" "buffer" "LTrapMachine$Buffer;", Cond.instanceMethod yX2_get, Cond.selects RX2 yX2_get yX2_get]
def wsX3_perform_r2 : List Cond := [Cond.code yX2_get cX2_get 2 (some .int), Cond.instanceMethod yX0_find, Cond.initialized RX0, Cond.selects RX0 yX0_find yX0_find, Cond.code yX0_find cX0_find 7 (some .int), Cond.fieldLink RX0 11 "TrapMachine$Buffer" "parts" "[[I", Cond.instanceMethod yX0_get, Cond.selects RX0 yX0_get yX0_get, Cond.code yX0_get cX0_get 3 (some .int), Cond.instanceMethod yX2_level, Cond.selects RX2 yX2_level yX2_level, Cond.code yX2_level cX2_level 1 (some .int), Cond.methodLink RX3 34 yX3_isInMemory, Cond.static yX3_isInMemory, Cond.code yX3_isInMemory cX3_isInMemory 1 (some .boolean), Cond.methodLink RX3 105 yX3_fail, Cond.instanceMethod yX3_fail, Cond.selects RX3 yX3_fail yX3_fail, Cond.code yX3_fail cX3_fail 4 none, Cond.fieldLink RX3 30 "TrapMachine" "condition" "I", Cond.instanceMethod yX2_set, Cond.selects RX2 yX2_set yX2_set, Cond.code yX2_set cX2_set 3 none, Cond.methodLink RX3 92 yX3_raise]
def wsX3_perform_r3 : List Cond := [Cond.instanceMethod yX3_raise, Cond.selects RX3 yX3_raise yX3_raise, Cond.code yX3_raise cX3_raise 2 none, Cond.fieldLink RX3 63 "TrapMachine" "trapped" "Z", Cond.instanceMethod yX2_enter, Cond.selects RX2 yX2_enter yX2_enter, Cond.code yX2_enter cX2_enter 3 none, Cond.instanceMethod yX2_setDirect, Cond.selects RX2 yX2_setDirect yX2_setDirect, Cond.code yX2_setDirect cX2_setDirect 1 none, Cond.methodLink RX3 111 yX3_calculate, Cond.instanceMethod yX3_calculate, Cond.selects RX3 yX3_calculate yX3_calculate, Cond.code yX3_calculate cX3_calculate 3 none, Cond.methodLink RX3 142 yX3_result, Cond.instanceMethod yX3_result, Cond.selects RX3 yX3_result yX3_result, Cond.code yX3_result cX3_result 5 (some .int), Cond.constant RX3 157 (65536), Cond.methodLink RX3 148 yX3_valueB, Cond.instanceMethod yX3_valueB, Cond.selects RX3 yX3_valueB yX3_valueB, Cond.code yX3_valueB cX3_valueB 2 (some .int), Cond.fieldLink RX3 13 "TrapMachine" "registers" "[I"]
def wsX3_perform_r4 : List Cond := [Cond.methodLink RX3 151 yX3_valueC, Cond.instanceMethod yX3_valueC, Cond.selects RX3 yX3_valueC yX3_valueC, Cond.code yX3_valueC cX3_valueC 2 (some .int), Cond.methodLink RX3 154 yX3_imm, Cond.static yX3_imm, Cond.code yX3_imm cX3_imm 1 (some .int), Cond.methodLink RX3 158 yX3_byteB, Cond.static yX3_byteB, Cond.code yX3_byteB cX3_byteB 1 (some .int), Cond.methodLink RX3 161 yX3_byteC, Cond.static yX3_byteC, Cond.code yX3_byteC cX3_byteC 1 (some .int), Cond.methodLink RX3 145 yX3_setA, Cond.instanceMethod yX3_setA, Cond.selects RX3 yX3_setA yX3_setA, Cond.code yX3_setA cX3_setA 4 none, Cond.methodLink RX3 114 yX3_loadWord, Cond.instanceMethod yX3_loadWord, Cond.selects RX3 yX3_loadWord yX3_loadWord, Cond.code yX3_loadWord cX3_loadWord 5 none, Cond.fieldLink RX3 72 "TrapMachine" "linked" "Z", Cond.methodLink RX3 117 yX3_storeWord, Cond.instanceMethod yX3_storeWord]
def wsX3_perform_r5 : List Cond := [Cond.selects RX3 yX3_storeWord yX3_storeWord, Cond.code yX3_storeWord cX3_storeWord 5 none, Cond.methodLink RX3 164 yX3_valueA, Cond.instanceMethod yX3_valueA, Cond.selects RX3 yX3_valueA yX3_valueA, Cond.code yX3_valueA cX3_valueA 2 (some .int), Cond.methodLink RX3 120 yX3_branch, Cond.instanceMethod yX3_branch, Cond.selects RX3 yX3_branch yX3_branch, Cond.code yX3_branch cX3_branch 5 none, Cond.methodLink RX3 167 yX3_holds, Cond.static yX3_holds, Cond.code yX3_holds cX3_holds 3 (some .boolean), Cond.methodLink RX3 123 yX3_performPrivileged, Cond.instanceMethod yX3_performPrivileged, Cond.selects RX3 yX3_performPrivileged yX3_performPrivileged, Cond.code yX3_performPrivileged cX3_performPrivileged 3 none, Cond.methodLink RX3 130 yX3_useControl, Cond.instanceMethod yX3_useControl, Cond.selects RX3 yX3_useControl yX3_useControl, Cond.code yX3_useControl cX3_useControl 5 none, Cond.instanceMethod yX2_write, Cond.selects RX2 yX2_write yX2_write, Cond.code yX2_write cX2_write 6 none]
def wsX3_perform_r6 : List Cond := [Cond.fieldLink RX2 15 "TrapMachine$Controls" "COUNTING" "[I", Cond.fieldLink RX2 18 "TrapMachine$Controls" "LEVEL_BITS" "[I", Cond.constant RX2 21 (65532), Cond.methodLink RX3 133 yX3_useBuffer, Cond.instanceMethod yX3_useBuffer, Cond.selects RX3 yX3_useBuffer yX3_useBuffer, Cond.code yX3_useBuffer cX3_useBuffer 3 none, Cond.fieldLink RX3 51 "TrapMachine" "nextFilled" "I", Cond.methodLink RX3 178 yX3_searchEntry, Cond.instanceMethod yX3_searchEntry, Cond.selects RX3 yX3_searchEntry yX3_searchEntry, Cond.code yX3_searchEntry cX3_searchEntry 3 none, Cond.instanceMethod yX2_setEmpty, Cond.selects RX2 yX2_setEmpty yX2_setEmpty, Cond.code yX2_setEmpty cX2_setEmpty 2 none, Cond.constant RX2 23 (2147483647), Cond.constant RX2 22 (-2147483648), Cond.methodLink RX3 181 yX3_readEntry, Cond.instanceMethod yX3_readEntry, Cond.selects RX3 yX3_readEntry yX3_readEntry, Cond.code yX3_readEntry cX3_readEntry 4 none, Cond.methodLink RX3 184 yX3_writeEntry, Cond.instanceMethod yX3_writeEntry, Cond.selects RX3 yX3_writeEntry yX3_writeEntry]
def wsX3_perform_r7 : List Cond := [Cond.code yX3_writeEntry cX3_writeEntry 3 none, Cond.instanceMethod yX2_isEmpty, Cond.selects RX2 yX2_isEmpty yX2_isEmpty, Cond.code yX2_isEmpty cX2_isEmpty 1 (some .boolean), Cond.instanceMethod yX2_code, Cond.selects RX2 yX2_code yX2_code, Cond.code yX2_code cX2_code 1 (some .int), Cond.instanceMethod yX0_set, Cond.selects RX0 yX0_set yX0_set, Cond.code yX0_set cX0_set 5 none, Cond.instanceMethod yX0_setHalves, Cond.selects RX0 yX0_setHalves yX0_setHalves, Cond.code yX0_setHalves cX0_setHalves 4 none, Cond.methodLink RX3 136 yX3_emptyEntries, Cond.instanceMethod yX3_emptyEntries, Cond.selects RX3 yX3_emptyEntries yX3_emptyEntries, Cond.code yX3_emptyEntries cX3_emptyEntries 3 none, Cond.instanceMethod yX0_empty, Cond.selects RX0 yX0_empty yX0_empty, Cond.code yX0_empty cX0_empty 5 none, Cond.methodLink RX0 14 yX0_isOfKind, Cond.instanceMethod yX0_isOfKind, Cond.selects RX0 yX0_isOfKind yX0_isOfKind, Cond.code yX0_isOfKind cX0_isOfKind 7 (some .boolean)]
def wsX3_perform_r8 : List Cond := [Cond.methodLink RX3 139 yX3_goBack, Cond.instanceMethod yX3_goBack, Cond.selects RX3 yX3_goBack yX3_goBack, Cond.code yX3_goBack cX3_goBack 1 none, Cond.instanceMethod yX2_leave, Cond.selects RX2 yX2_leave yX2_leave, Cond.code yX2_leave cX2_leave 1 none, Cond.methodLink RX2 24 yX2_code]
def wsX3_perform : List Cond := .code yX3_perform cX3_perform 4 none :: ((wsX3_perform_r1 ++ (wsX3_perform_r2 ++ (wsX3_perform_r3 ++ (wsX3_perform_r4 ++ (wsX3_perform_r5 ++ (wsX3_perform_r6 ++ (wsX3_perform_r7 ++ wsX3_perform_r8))))))) ++ wsX30 ++ wsX20 ++ wsX00)
def wsX3_step_r1 : List Cond := [Cond.fieldLink RX3 30 "TrapMachine" "condition" "I", Cond.fieldLink RX3 19 "TrapMachine" "controls" "LTrapMachine$Controls;", Cond.instanceMethod yX2_isAsked, Cond.initialized RX2, Cond.selects RX2 yX2_isAsked yX2_isAsked, Cond.code yX2_isAsked cX2_isAsked 1 (some .boolean), Cond.fieldLink RX2 11 "TrapMachine$Controls" "values" "[I", Cond.instanceMethod yX2_isEnabled, Cond.selects RX2 yX2_isEnabled yX2_isEnabled, Cond.code yX2_isEnabled cX2_isEnabled 1 (some .boolean), Cond.methodLink RX3 92 yX3_raise, Cond.instanceMethod yX3_raise, Cond.selects RX3 yX3_raise yX3_raise, Cond.initialized RX3, Cond.code yX3_raise cX3_raise 2 none, Cond.fieldLink RX3 54 "TrapMachine" "place" "I", Cond.fieldLink RX3 63 "TrapMachine" "trapped" "Z", Cond.instanceMethod yX2_enter, Cond.selects RX2 yX2_enter yX2_enter, Cond.code yX2_enter cX2_enter 3 none, Cond.instanceMethod yX2_setDirect, Cond.selects RX2 yX2_setDirect yX2_setDirect, Cond.code yX2_setDirect cX2_setDirect 1 none, Cond.instanceMethod yX2_get]
def wsX3_step_r2 : List Cond := [Cond.selects RX2 yX2_get yX2_get, Cond.code yX2_get cX2_get 2 (some .int), Cond.methodLink RX3 96 yX3_perform, Cond.instanceMethod yX3_perform, Cond.selects RX3 yX3_perform yX3_perform, Cond.code yX3_perform cX3_perform 4 none, Cond.fieldLink RX3 9 "TrapMachine" "memory" "[I", Cond.methodLink RX3 102 yX3_find, Cond.instanceMethod yX3_find, Cond.selects RX3 yX3_find yX3_find, Cond.code yX3_find cX3_find 4 (some .int), Cond.constant RX3 221 (268435455), Cond.instanceMethod yX2_isDirect, Cond.selects RX2 yX2_isDirect yX2_isDirect, Cond.code yX2_isDirect cX2_isDirect 1 (some .boolean), Cond.instanceMethod yX2_isInWindow, Cond.selects RX2 yX2_isInWindow yX2_isInWindow, Cond.code yX2_isInWindow cX2_isInWindow 4 (some .boolean), Cond.methodLink RX3 218 yX3_findMapped, Cond.instanceMethod yX3_findMapped, Cond.selects RX3 yX3_findMapped yX3_findMapped, Cond.code yX3_findMapped cX3_findMapped 8 (some .int), Cond.fieldLink RX3 26 "TrapMachine" "buffer" "LTrapMachine$Buffer;", Cond.instanceMethod yX0_find]
def wsX3_step_r3 : List Cond := [Cond.initialized RX0, Cond.selects RX0 yX0_find yX0_find, Cond.code yX0_find cX0_find 7 (some .int), Cond.fieldLink RX0 11 "TrapMachine$Buffer" "parts" "[[I", Cond.instanceMethod yX0_get, Cond.selects RX0 yX0_get yX0_get, Cond.code yX0_get cX0_get 3 (some .int), Cond.instanceMethod yX2_level, Cond.selects RX2 yX2_level yX2_level, Cond.code yX2_level cX2_level 1 (some .int), Cond.methodLink RX3 34 yX3_isInMemory, Cond.static yX3_isInMemory, Cond.code yX3_isInMemory cX3_isInMemory 1 (some .boolean), Cond.methodLink RX3 105 yX3_fail, Cond.instanceMethod yX3_fail, Cond.selects RX3 yX3_fail yX3_fail, Cond.code yX3_fail cX3_fail 4 none, Cond.instanceMethod yX2_set, Cond.selects RX2 yX2_set yX2_set, Cond.code yX2_set cX2_set 3 none, Cond.methodLink RX3 111 yX3_calculate, Cond.instanceMethod yX3_calculate, Cond.selects RX3 yX3_calculate yX3_calculate, Cond.code yX3_calculate cX3_calculate 3 none]
def wsX3_step_r4 : List Cond := [Cond.methodLink RX3 142 yX3_result, Cond.instanceMethod yX3_result, Cond.selects RX3 yX3_result yX3_result, Cond.code yX3_result cX3_result 5 (some .int), Cond.constant RX3 157 (65536), Cond.methodLink RX3 148 yX3_valueB, Cond.instanceMethod yX3_valueB, Cond.selects RX3 yX3_valueB yX3_valueB, Cond.code yX3_valueB cX3_valueB 2 (some .int), Cond.fieldLink RX3 13 "TrapMachine" "registers" "[I", Cond.methodLink RX3 151 yX3_valueC, Cond.instanceMethod yX3_valueC, Cond.selects RX3 yX3_valueC yX3_valueC, Cond.code yX3_valueC cX3_valueC 2 (some .int), Cond.methodLink RX3 154 yX3_imm, Cond.static yX3_imm, Cond.code yX3_imm cX3_imm 1 (some .int), Cond.methodLink RX3 158 yX3_byteB, Cond.static yX3_byteB, Cond.code yX3_byteB cX3_byteB 1 (some .int), Cond.methodLink RX3 161 yX3_byteC, Cond.static yX3_byteC, Cond.code yX3_byteC cX3_byteC 1 (some .int), Cond.methodLink RX3 145 yX3_setA]
def wsX3_step_r5 : List Cond := [Cond.instanceMethod yX3_setA, Cond.selects RX3 yX3_setA yX3_setA, Cond.code yX3_setA cX3_setA 4 none, Cond.methodLink RX3 114 yX3_loadWord, Cond.instanceMethod yX3_loadWord, Cond.selects RX3 yX3_loadWord yX3_loadWord, Cond.code yX3_loadWord cX3_loadWord 5 none, Cond.fieldLink RX3 72 "TrapMachine" "linked" "Z", Cond.methodLink RX3 117 yX3_storeWord, Cond.instanceMethod yX3_storeWord, Cond.selects RX3 yX3_storeWord yX3_storeWord, Cond.code yX3_storeWord cX3_storeWord 5 none, Cond.methodLink RX3 164 yX3_valueA, Cond.instanceMethod yX3_valueA, Cond.selects RX3 yX3_valueA yX3_valueA, Cond.code yX3_valueA cX3_valueA 2 (some .int), Cond.methodLink RX3 120 yX3_branch, Cond.instanceMethod yX3_branch, Cond.selects RX3 yX3_branch yX3_branch, Cond.code yX3_branch cX3_branch 5 none, Cond.methodLink RX3 167 yX3_holds, Cond.static yX3_holds, Cond.code yX3_holds cX3_holds 3 (some .boolean), Cond.methodLink RX3 123 yX3_performPrivileged]
def wsX3_step_r6 : List Cond := [Cond.instanceMethod yX3_performPrivileged, Cond.selects RX3 yX3_performPrivileged yX3_performPrivileged, Cond.code yX3_performPrivileged cX3_performPrivileged 3 none, Cond.methodLink RX3 130 yX3_useControl, Cond.instanceMethod yX3_useControl, Cond.selects RX3 yX3_useControl yX3_useControl, Cond.code yX3_useControl cX3_useControl 5 none, Cond.instanceMethod yX2_write, Cond.selects RX2 yX2_write yX2_write, Cond.code yX2_write cX2_write 6 none, Cond.fieldLink RX2 15 "TrapMachine$Controls" "COUNTING" "[I", Cond.fieldLink RX2 18 "TrapMachine$Controls" "LEVEL_BITS" "[I", Cond.constant RX2 21 (65532), Cond.methodLink RX3 133 yX3_useBuffer, Cond.instanceMethod yX3_useBuffer, Cond.selects RX3 yX3_useBuffer yX3_useBuffer, Cond.code yX3_useBuffer cX3_useBuffer 3 none, Cond.fieldLink RX3 51 "TrapMachine" "nextFilled" "I", Cond.methodLink RX3 178 yX3_searchEntry, Cond.instanceMethod yX3_searchEntry, Cond.selects RX3 yX3_searchEntry yX3_searchEntry, Cond.code yX3_searchEntry cX3_searchEntry 3 none, Cond.instanceMethod yX2_setEmpty, Cond.selects RX2 yX2_setEmpty yX2_setEmpty]
def wsX3_step_r7 : List Cond := [Cond.code yX2_setEmpty cX2_setEmpty 2 none, Cond.constant RX2 23 (2147483647), Cond.constant RX2 22 (-2147483648), Cond.methodLink RX3 181 yX3_readEntry, Cond.instanceMethod yX3_readEntry, Cond.selects RX3 yX3_readEntry yX3_readEntry, Cond.code yX3_readEntry cX3_readEntry 4 none, Cond.methodLink RX3 184 yX3_writeEntry, Cond.instanceMethod yX3_writeEntry, Cond.selects RX3 yX3_writeEntry yX3_writeEntry, Cond.code yX3_writeEntry cX3_writeEntry 3 none, Cond.instanceMethod yX2_isEmpty, Cond.selects RX2 yX2_isEmpty yX2_isEmpty, Cond.code yX2_isEmpty cX2_isEmpty 1 (some .boolean), Cond.instanceMethod yX2_code, Cond.selects RX2 yX2_code yX2_code, Cond.code yX2_code cX2_code 1 (some .int), Cond.instanceMethod yX0_set, Cond.selects RX0 yX0_set yX0_set, Cond.code yX0_set cX0_set 5 none, Cond.instanceMethod yX0_setHalves, Cond.selects RX0 yX0_setHalves yX0_setHalves, Cond.code yX0_setHalves cX0_setHalves 4 none, Cond.methodLink RX3 136 yX3_emptyEntries]
def wsX3_step_r8 : List Cond := [Cond.instanceMethod yX3_emptyEntries, Cond.selects RX3 yX3_emptyEntries yX3_emptyEntries, Cond.code yX3_emptyEntries cX3_emptyEntries 3 none, Cond.instanceMethod yX0_empty, Cond.selects RX0 yX0_empty yX0_empty, Cond.code yX0_empty cX0_empty 5 none, Cond.methodLink RX0 14 yX0_isOfKind, Cond.instanceMethod yX0_isOfKind, Cond.selects RX0 yX0_isOfKind yX0_isOfKind, Cond.code yX0_isOfKind cX0_isOfKind 7 (some .boolean), Cond.methodLink RX3 139 yX3_goBack, Cond.instanceMethod yX3_goBack, Cond.selects RX3 yX3_goBack yX3_goBack, Cond.code yX3_goBack cX3_goBack 1 none, Cond.instanceMethod yX2_leave, Cond.selects RX2 yX2_leave yX2_leave, Cond.code yX2_leave cX2_leave 1 none, Cond.methodLink RX2 24 yX2_code, Cond.instanceMethod yX2_tick, Cond.selects RX2 yX2_tick yX2_tick, Cond.code yX2_tick cX2_tick 2 none]
def wsX3_step : List Cond := .code yX3_step cX3_step 1 none :: ((wsX3_step_r1 ++ (wsX3_step_r2 ++ (wsX3_step_r3 ++ (wsX3_step_r4 ++ (wsX3_step_r5 ++ (wsX3_step_r6 ++ (wsX3_step_r7 ++ wsX3_step_r8))))))) ++ wsX30 ++ wsX20 ++ wsX00)
def wsX3_run_r1 : List Cond := [Cond.methodLink RX3 57 Lib.Math.min.name, Cond.static Lib.Math.min.name, Cond.initialized "java/lang/Math", Cond.code Lib.Math.min.name Lib.Math.min.code 2 (some .int), Cond.fieldLink RX3 63 "TrapMachine" "trapped" "Z", Cond.fieldLink RX3 30 "TrapMachine" "condition" "I", Cond.methodLink RX3 67 yX3_step, Cond.instanceMethod yX3_step, Cond.selects RX3 yX3_step yX3_step, Cond.initialized RX3, Cond.code yX3_step cX3_step 1 none, Cond.fieldLink RX3 19 "TrapMachine" "controls" "LTrapMachine$Controls;", Cond.instanceMethod yX2_isAsked, Cond.initialized RX2, Cond.selects RX2 yX2_isAsked yX2_isAsked, Cond.code yX2_isAsked cX2_isAsked 1 (some .boolean), Cond.fieldLink RX2 11 "TrapMachine$Controls" "values" "[I", Cond.instanceMethod yX2_isEnabled, Cond.selects RX2 yX2_isEnabled yX2_isEnabled, Cond.code yX2_isEnabled cX2_isEnabled 1 (some .boolean), Cond.methodLink RX3 92 yX3_raise, Cond.instanceMethod yX3_raise, Cond.selects RX3 yX3_raise yX3_raise, Cond.code yX3_raise cX3_raise 2 none]
def wsX3_run_r2 : List Cond := [Cond.fieldLink RX3 54 "TrapMachine" "place" "I", Cond.instanceMethod yX2_enter, Cond.selects RX2 yX2_enter yX2_enter, Cond.code yX2_enter cX2_enter 3 none, Cond.instanceMethod yX2_setDirect, Cond.selects RX2 yX2_setDirect yX2_setDirect, Cond.code yX2_setDirect cX2_setDirect 1 none, Cond.instanceMethod yX2_get, Cond.selects RX2 yX2_get yX2_get, Cond.code yX2_get cX2_get 2 (some .int), Cond.methodLink RX3 96 yX3_perform, Cond.instanceMethod yX3_perform, Cond.selects RX3 yX3_perform yX3_perform, Cond.code yX3_perform cX3_perform 4 none, Cond.fieldLink RX3 9 "TrapMachine" "memory" "[I", Cond.methodLink RX3 102 yX3_find, Cond.instanceMethod yX3_find, Cond.selects RX3 yX3_find yX3_find, Cond.code yX3_find cX3_find 4 (some .int), Cond.constant RX3 221 (268435455), Cond.instanceMethod yX2_isDirect, Cond.selects RX2 yX2_isDirect yX2_isDirect, Cond.code yX2_isDirect cX2_isDirect 1 (some .boolean), Cond.instanceMethod yX2_isInWindow]
def wsX3_run_r3 : List Cond := [Cond.selects RX2 yX2_isInWindow yX2_isInWindow, Cond.code yX2_isInWindow cX2_isInWindow 4 (some .boolean), Cond.methodLink RX3 218 yX3_findMapped, Cond.instanceMethod yX3_findMapped, Cond.selects RX3 yX3_findMapped yX3_findMapped, Cond.code yX3_findMapped cX3_findMapped 8 (some .int), Cond.fieldLink RX3 26 "TrapMachine" "buffer" "LTrapMachine$Buffer;", Cond.instanceMethod yX0_find, Cond.initialized RX0, Cond.selects RX0 yX0_find yX0_find, Cond.code yX0_find cX0_find 7 (some .int), Cond.fieldLink RX0 11 "TrapMachine$Buffer" "parts" "[[I", Cond.instanceMethod yX0_get, Cond.selects RX0 yX0_get yX0_get, Cond.code yX0_get cX0_get 3 (some .int), Cond.instanceMethod yX2_level, Cond.selects RX2 yX2_level yX2_level, Cond.code yX2_level cX2_level 1 (some .int), Cond.methodLink RX3 34 yX3_isInMemory, Cond.static yX3_isInMemory, Cond.code yX3_isInMemory cX3_isInMemory 1 (some .boolean), Cond.methodLink RX3 105 yX3_fail, Cond.instanceMethod yX3_fail, Cond.selects RX3 yX3_fail yX3_fail]
def wsX3_run_r4 : List Cond := [Cond.code yX3_fail cX3_fail 4 none, Cond.instanceMethod yX2_set, Cond.selects RX2 yX2_set yX2_set, Cond.code yX2_set cX2_set 3 none, Cond.methodLink RX3 111 yX3_calculate, Cond.instanceMethod yX3_calculate, Cond.selects RX3 yX3_calculate yX3_calculate, Cond.code yX3_calculate cX3_calculate 3 none, Cond.methodLink RX3 142 yX3_result, Cond.instanceMethod yX3_result, Cond.selects RX3 yX3_result yX3_result, Cond.code yX3_result cX3_result 5 (some .int), Cond.constant RX3 157 (65536), Cond.methodLink RX3 148 yX3_valueB, Cond.instanceMethod yX3_valueB, Cond.selects RX3 yX3_valueB yX3_valueB, Cond.code yX3_valueB cX3_valueB 2 (some .int), Cond.fieldLink RX3 13 "TrapMachine" "registers" "[I", Cond.methodLink RX3 151 yX3_valueC, Cond.instanceMethod yX3_valueC, Cond.selects RX3 yX3_valueC yX3_valueC, Cond.code yX3_valueC cX3_valueC 2 (some .int), Cond.methodLink RX3 154 yX3_imm, Cond.static yX3_imm]
def wsX3_run_r5 : List Cond := [Cond.code yX3_imm cX3_imm 1 (some .int), Cond.methodLink RX3 158 yX3_byteB, Cond.static yX3_byteB, Cond.code yX3_byteB cX3_byteB 1 (some .int), Cond.methodLink RX3 161 yX3_byteC, Cond.static yX3_byteC, Cond.code yX3_byteC cX3_byteC 1 (some .int), Cond.methodLink RX3 145 yX3_setA, Cond.instanceMethod yX3_setA, Cond.selects RX3 yX3_setA yX3_setA, Cond.code yX3_setA cX3_setA 4 none, Cond.methodLink RX3 114 yX3_loadWord, Cond.instanceMethod yX3_loadWord, Cond.selects RX3 yX3_loadWord yX3_loadWord, Cond.code yX3_loadWord cX3_loadWord 5 none, Cond.fieldLink RX3 72 "TrapMachine" "linked" "Z", Cond.methodLink RX3 117 yX3_storeWord, Cond.instanceMethod yX3_storeWord, Cond.selects RX3 yX3_storeWord yX3_storeWord, Cond.code yX3_storeWord cX3_storeWord 5 none, Cond.methodLink RX3 164 yX3_valueA, Cond.instanceMethod yX3_valueA, Cond.selects RX3 yX3_valueA yX3_valueA, Cond.code yX3_valueA cX3_valueA 2 (some .int)]
def wsX3_run_r6 : List Cond := [Cond.methodLink RX3 120 yX3_branch, Cond.instanceMethod yX3_branch, Cond.selects RX3 yX3_branch yX3_branch, Cond.code yX3_branch cX3_branch 5 none, Cond.methodLink RX3 167 yX3_holds, Cond.static yX3_holds, Cond.code yX3_holds cX3_holds 3 (some .boolean), Cond.methodLink RX3 123 yX3_performPrivileged, Cond.instanceMethod yX3_performPrivileged, Cond.selects RX3 yX3_performPrivileged yX3_performPrivileged, Cond.code yX3_performPrivileged cX3_performPrivileged 3 none, Cond.methodLink RX3 130 yX3_useControl, Cond.instanceMethod yX3_useControl, Cond.selects RX3 yX3_useControl yX3_useControl, Cond.code yX3_useControl cX3_useControl 5 none, Cond.instanceMethod yX2_write, Cond.selects RX2 yX2_write yX2_write, Cond.code yX2_write cX2_write 6 none, Cond.fieldLink RX2 15 "TrapMachine$Controls" "COUNTING" "[I", Cond.fieldLink RX2 18 "TrapMachine$Controls" "LEVEL_BITS" "[I", Cond.constant RX2 21 (65532), Cond.methodLink RX3 133 yX3_useBuffer, Cond.instanceMethod yX3_useBuffer, Cond.selects RX3 yX3_useBuffer yX3_useBuffer]
def wsX3_run_r7 : List Cond := [Cond.code yX3_useBuffer cX3_useBuffer 3 none, Cond.fieldLink RX3 51 "TrapMachine" "nextFilled" "I", Cond.methodLink RX3 178 yX3_searchEntry, Cond.instanceMethod yX3_searchEntry, Cond.selects RX3 yX3_searchEntry yX3_searchEntry, Cond.code yX3_searchEntry cX3_searchEntry 3 none, Cond.instanceMethod yX2_setEmpty, Cond.selects RX2 yX2_setEmpty yX2_setEmpty, Cond.code yX2_setEmpty cX2_setEmpty 2 none, Cond.constant RX2 23 (2147483647), Cond.constant RX2 22 (-2147483648), Cond.methodLink RX3 181 yX3_readEntry, Cond.instanceMethod yX3_readEntry, Cond.selects RX3 yX3_readEntry yX3_readEntry, Cond.code yX3_readEntry cX3_readEntry 4 none, Cond.methodLink RX3 184 yX3_writeEntry, Cond.instanceMethod yX3_writeEntry, Cond.selects RX3 yX3_writeEntry yX3_writeEntry, Cond.code yX3_writeEntry cX3_writeEntry 3 none, Cond.instanceMethod yX2_isEmpty, Cond.selects RX2 yX2_isEmpty yX2_isEmpty, Cond.code yX2_isEmpty cX2_isEmpty 1 (some .boolean), Cond.instanceMethod yX2_code, Cond.selects RX2 yX2_code yX2_code]
def wsX3_run_r8 : List Cond := [Cond.code yX2_code cX2_code 1 (some .int), Cond.instanceMethod yX0_set, Cond.selects RX0 yX0_set yX0_set, Cond.code yX0_set cX0_set 5 none, Cond.instanceMethod yX0_setHalves, Cond.selects RX0 yX0_setHalves yX0_setHalves, Cond.code yX0_setHalves cX0_setHalves 4 none, Cond.methodLink RX3 136 yX3_emptyEntries, Cond.instanceMethod yX3_emptyEntries, Cond.selects RX3 yX3_emptyEntries yX3_emptyEntries, Cond.code yX3_emptyEntries cX3_emptyEntries 3 none, Cond.instanceMethod yX0_empty, Cond.selects RX0 yX0_empty yX0_empty, Cond.code yX0_empty cX0_empty 5 none, Cond.methodLink RX0 14 yX0_isOfKind, Cond.instanceMethod yX0_isOfKind, Cond.selects RX0 yX0_isOfKind yX0_isOfKind, Cond.code yX0_isOfKind cX0_isOfKind 7 (some .boolean), Cond.methodLink RX3 139 yX3_goBack, Cond.instanceMethod yX3_goBack, Cond.selects RX3 yX3_goBack yX3_goBack, Cond.code yX3_goBack cX3_goBack 1 none, Cond.instanceMethod yX2_leave, Cond.selects RX2 yX2_leave yX2_leave]
def wsX3_run_r9 : List Cond := [Cond.code yX2_leave cX2_leave 1 none, Cond.methodLink RX2 24 yX2_code, Cond.instanceMethod yX2_tick, Cond.selects RX2 yX2_tick yX2_tick, Cond.code yX2_tick cX2_tick 2 none]
def wsX3_run : List Cond := .code yX3_run cX3_run 4 (some .int) :: ((wsX3_run_r1 ++ (wsX3_run_r2 ++ (wsX3_run_r3 ++ (wsX3_run_r4 ++ (wsX3_run_r5 ++ (wsX3_run_r6 ++ (wsX3_run_r7 ++ (wsX3_run_r8 ++ wsX3_run_r9)))))))) ++ wsX30 ++ wsX20 ++ wsX00)
def wsX3_state : List Cond := .code yX3_state cX3_state 1 (some .int) :: ([.fieldLink RX3 30 "TrapMachine" "condition" "I"] ++ wsX30)
def wsX3_register : List Cond := .code yX3_register cX3_register 2 (some .int) :: ([.classLink RX3 38 "java/lang/IllegalArgumentException", .initialized "java/lang/IllegalArgumentException", .fieldLink RX3 54 "TrapMachine" "place" "I", .fieldLink RX3 72 "TrapMachine" "linked" "Z", .fieldLink RX3 13 "TrapMachine" "registers" "[I"] ++ wsX30 ++ (vx_atS RX3 42 "java/lang/IllegalArgumentException" ["java/lang/RuntimeException", "java/lang/Exception"]).filter goodWord)
def wsX3_control : List Cond := .code yX3_control cX3_control 2 (some .int) :: ([.classLink RX3 38 "java/lang/IllegalArgumentException", .initialized "java/lang/IllegalArgumentException", .fieldLink RX3 19 "TrapMachine" "controls" "LTrapMachine$Controls;", .instanceMethod yX2_get, .initialized RX2, .selects RX2 yX2_get yX2_get, .code yX2_get cX2_get 2 (some .int), .fieldLink RX2 11 "TrapMachine$Controls" "values" "[I"] ++ wsX30 ++ wsX20 ++ (vx_atS RX3 42 "java/lang/IllegalArgumentException" ["java/lang/RuntimeException", "java/lang/Exception"]).filter goodWord)
def wsX3_entry : List Cond := .code yX3_entry cX3_entry 3 (some .int) :: ([.classLink RX3 38 "java/lang/IllegalArgumentException", .initialized "java/lang/IllegalArgumentException", .fieldLink RX3 26 "TrapMachine" "buffer" "LTrapMachine$Buffer;", .instanceMethod yX0_get, .initialized RX0, .selects RX0 yX0_get yX0_get, .code yX0_get cX0_get 3 (some .int), .fieldLink RX0 11 "TrapMachine$Buffer" "parts" "[[I"] ++ wsX30 ++ wsX00 ++ (vx_atS RX3 42 "java/lang/IllegalArgumentException" ["java/lang/RuntimeException", "java/lang/Exception"]).filter goodWord)
def wsX4_init : List Cond := .code yX4_init cX4_init 1 none :: ([.methodLink RX4 1 objectInit, .instanceMethod objectInit, .code objectInit ⟨#[0xb1]⟩ 1 none, .arrayClass .int, .fieldLink RX4 7 "TrapMachineModel" "memory" "[I", .fieldLink RX4 13 "TrapMachineModel" "register" "[I", .fieldLink RX4 16 "TrapMachineModel" "control" "[I", .constant RX4 19 (-2147483645), .constant RX4 20 (65535), .constant RX4 21 (-268435447), .fieldLink RX4 22 "TrapMachineModel" "written" "[I", .arrayClass .boolean, .fieldLink RX4 25 "TrapMachineModel" "there" "[Z", .fieldLink RX4 29 "TrapMachineModel" "global" "[Z", .fieldLink RX4 32 "TrapMachineModel" "pair" "[I", .fieldLink RX4 35 "TrapMachineModel" "space" "[I", .fieldLink RX4 38 "TrapMachineModel" "half" "[I"] ++ wsX40)
def wsX4_thrown : List Cond := .code yX4_thrown cX4_thrown 1 (some .int) :: ([.fieldLink RX4 41 "TrapMachineModel" "thrown" "I"] ++ wsX40)
def wsX4_refuse : List Cond := .code yX4_refuse cX4_refuse 2 (some .int) :: ([.fieldLink RX4 41 "TrapMachineModel" "thrown" "I"] ++ wsX40)
def wsX4_outside : List Cond := .code yX4_outside cX4_outside 3 (some .boolean) :: ([])
def wsX4_user : List Cond := .code yX4_user cX4_user 1 (some .boolean) :: ([.fieldLink RX4 16 "TrapMachineModel" "control" "[I"] ++ wsX40)
def wsX4_codeOf : List Cond := .code yX4_codeOf cX4_codeOf 1 (some .int) :: ([.fieldLink RX4 16 "TrapMachineModel" "control" "[I"] ++ wsX40)
def wsX4_pairOf : List Cond := .code yX4_pairOf cX4_pairOf 1 (some .int) :: ([])
def wsX4_with : List Cond := .code yX4_with cX4_with 4 (some .int) :: ([.fieldLink RX4 45 "TrapMachineModel" "brings" "I", .fieldLink RX4 48 "TrapMachineModel" "broughtAt" "I"] ++ wsX40)
def wsX4_enter : List Cond := .code yX4_enter cX4_enter 3 none :: ([.fieldLink RX4 16 "TrapMachineModel" "control" "[I", .fieldLink RX4 51 "TrapMachineModel" "place" "I", .constant RX4 54 (-4128769), .fieldLink RX4 45 "TrapMachineModel" "brings" "I", .fieldLink RX4 48 "TrapMachineModel" "broughtAt" "I"] ++ wsX40)
def wsX4_fits : List Cond := .code yX4_fits cX4_fits 4 (some .boolean) :: ([.fieldLink RX4 25 "TrapMachineModel" "there" "[Z", .fieldLink RX4 32 "TrapMachineModel" "pair" "[I", .fieldLink RX4 29 "TrapMachineModel" "global" "[Z", .fieldLink RX4 35 "TrapMachineModel" "space" "[I"] ++ wsX40)
def wsX4_map_r1 : List Cond := [Cond.fieldLink RX4 16 "TrapMachineModel" "control" "[I", Cond.fieldLink RX4 38 "TrapMachineModel" "half" "[I", Cond.fieldLink RX4 68 "TrapMachineModel" "found" "I", Cond.methodLink RX4 75 yX4_pairOf, Cond.static yX4_pairOf, Cond.initialized RX4, Cond.code yX4_pairOf cX4_pairOf 1 (some .int), Cond.methodLink RX4 79 yX4_fits, Cond.instanceMethod yX4_fits, Cond.selects RX4 yX4_fits yX4_fits, Cond.code yX4_fits cX4_fits 4 (some .boolean), Cond.fieldLink RX4 25 "TrapMachineModel" "there" "[Z", Cond.fieldLink RX4 32 "TrapMachineModel" "pair" "[I", Cond.fieldLink RX4 29 "TrapMachineModel" "global" "[Z", Cond.fieldLink RX4 35 "TrapMachineModel" "space" "[I", Cond.methodLink RX4 55 yX4_with, Cond.instanceMethod yX4_with, Cond.selects RX4 yX4_with yX4_with, Cond.code yX4_with cX4_with 4 (some .int), Cond.fieldLink RX4 45 "TrapMachineModel" "brings" "I", Cond.fieldLink RX4 48 "TrapMachineModel" "broughtAt" "I", Cond.methodLink RX4 59 yX4_user, Cond.instanceMethod yX4_user, Cond.selects RX4 yX4_user yX4_user]
def wsX4_map_r2 : List Cond := [Cond.code yX4_user cX4_user 1 (some .boolean)]
def wsX4_map : List Cond := .code yX4_map cX4_map 7 (some .int) :: ((wsX4_map_r1 ++ wsX4_map_r2) ++ wsX40)
def wsX4_lookUp_r1 : List Cond := [Cond.fieldLink RX4 16 "TrapMachineModel" "control" "[I", Cond.constant RX4 63 (268435455), Cond.fieldLink RX4 68 "TrapMachineModel" "found" "I", Cond.methodLink RX4 55 yX4_with, Cond.instanceMethod yX4_with, Cond.selects RX4 yX4_with yX4_with, Cond.initialized RX4, Cond.code yX4_with cX4_with 4 (some .int), Cond.fieldLink RX4 45 "TrapMachineModel" "brings" "I", Cond.fieldLink RX4 48 "TrapMachineModel" "broughtAt" "I", Cond.methodLink RX4 59 yX4_user, Cond.instanceMethod yX4_user, Cond.selects RX4 yX4_user yX4_user, Cond.code yX4_user cX4_user 1 (some .boolean), Cond.methodLink RX4 64 yX4_map, Cond.instanceMethod yX4_map, Cond.selects RX4 yX4_map yX4_map, Cond.code yX4_map cX4_map 7 (some .int), Cond.fieldLink RX4 38 "TrapMachineModel" "half" "[I", Cond.methodLink RX4 75 yX4_pairOf, Cond.static yX4_pairOf, Cond.code yX4_pairOf cX4_pairOf 1 (some .int), Cond.methodLink RX4 79 yX4_fits, Cond.instanceMethod yX4_fits]
def wsX4_lookUp_r2 : List Cond := [Cond.selects RX4 yX4_fits yX4_fits, Cond.code yX4_fits cX4_fits 4 (some .boolean), Cond.fieldLink RX4 25 "TrapMachineModel" "there" "[Z", Cond.fieldLink RX4 32 "TrapMachineModel" "pair" "[I", Cond.fieldLink RX4 29 "TrapMachineModel" "global" "[Z", Cond.fieldLink RX4 35 "TrapMachineModel" "space" "[I", Cond.methodLink RX4 71 yX4_outside, Cond.static yX4_outside, Cond.code yX4_outside cX4_outside 3 (some .boolean)]
def wsX4_lookUp : List Cond := .code yX4_lookUp cX4_lookUp 6 (some .int) :: ((wsX4_lookUp_r1 ++ wsX4_lookUp_r2) ++ wsX40)
def wsX4_write : List Cond := .code yX4_write cX4_write 5 none :: ([.fieldLink RX4 16 "TrapMachineModel" "control" "[I", .fieldLink RX4 22 "TrapMachineModel" "written" "[I", .constant RX4 82 (65532)] ++ wsX40)
def wsX4_search : List Cond := .code yX4_search cX4_search 3 none :: ([.fieldLink RX4 16 "TrapMachineModel" "control" "[I", .constant RX4 83 (-2147483648), .methodLink RX4 75 yX4_pairOf, .static yX4_pairOf, .initialized RX4, .code yX4_pairOf cX4_pairOf 1 (some .int), .methodLink RX4 79 yX4_fits, .instanceMethod yX4_fits, .selects RX4 yX4_fits yX4_fits, .code yX4_fits cX4_fits 4 (some .boolean), .fieldLink RX4 25 "TrapMachineModel" "there" "[Z", .fieldLink RX4 32 "TrapMachineModel" "pair" "[I", .fieldLink RX4 29 "TrapMachineModel" "global" "[Z", .fieldLink RX4 35 "TrapMachineModel" "space" "[I"] ++ wsX40)
def wsX4_read : List Cond := .code yX4_read cX4_read 3 none :: ([.fieldLink RX4 29 "TrapMachineModel" "global" "[Z", .fieldLink RX4 16 "TrapMachineModel" "control" "[I", .fieldLink RX4 25 "TrapMachineModel" "there" "[Z", .constant RX4 83 (-2147483648), .fieldLink RX4 32 "TrapMachineModel" "pair" "[I", .fieldLink RX4 38 "TrapMachineModel" "half" "[I", .fieldLink RX4 35 "TrapMachineModel" "space" "[I"] ++ wsX40)
def wsX4_fill : List Cond := .code yX4_fill cX4_fill 2 none :: ([.fieldLink RX4 32 "TrapMachineModel" "pair" "[I", .fieldLink RX4 16 "TrapMachineModel" "control" "[I", .fieldLink RX4 35 "TrapMachineModel" "space" "[I", .fieldLink RX4 29 "TrapMachineModel" "global" "[Z", .fieldLink RX4 38 "TrapMachineModel" "half" "[I", .fieldLink RX4 25 "TrapMachineModel" "there" "[Z", .methodLink RX4 75 yX4_pairOf, .static yX4_pairOf, .initialized RX4, .code yX4_pairOf cX4_pairOf 1 (some .int), .methodLink RX4 84 yX4_codeOf, .instanceMethod yX4_codeOf, .selects RX4 yX4_codeOf yX4_codeOf, .code yX4_codeOf cX4_codeOf 1 (some .int)] ++ wsX40)
def wsX4_empty : List Cond := .code yX4_empty cX4_empty 6 (some .int) :: ([.fieldLink RX4 29 "TrapMachineModel" "global" "[Z", .fieldLink RX4 35 "TrapMachineModel" "space" "[I", .fieldLink RX4 32 "TrapMachineModel" "pair" "[I", .fieldLink RX4 25 "TrapMachineModel" "there" "[Z", .methodLink RX4 55 yX4_with, .instanceMethod yX4_with, .selects RX4 yX4_with yX4_with, .initialized RX4, .code yX4_with cX4_with 4 (some .int), .fieldLink RX4 45 "TrapMachineModel" "brings" "I", .fieldLink RX4 48 "TrapMachineModel" "broughtAt" "I", .methodLink RX4 75 yX4_pairOf, .static yX4_pairOf, .code yX4_pairOf cX4_pairOf 1 (some .int)] ++ wsX40)
def wsX4_put : List Cond := .code yX4_put cX4_put 3 none :: ([.fieldLink RX4 13 "TrapMachineModel" "register" "[I"] ++ wsX40)
def wsX4_reckon : List Cond := .code yX4_reckon cX4_reckon 7 (some .int) :: ([.fieldLink RX4 13 "TrapMachineModel" "register" "[I", .constant RX4 88 (65536)] ++ wsX40)
def wsX4_reach_r1 : List Cond := [Cond.fieldLink RX4 89 "TrapMachineModel" "link" "Z", Cond.fieldLink RX4 7 "TrapMachineModel" "memory" "[I", Cond.fieldLink RX4 68 "TrapMachineModel" "found" "I", Cond.fieldLink RX4 13 "TrapMachineModel" "register" "[I", Cond.methodLink RX4 93 yX4_put, Cond.instanceMethod yX4_put, Cond.selects RX4 yX4_put yX4_put, Cond.initialized RX4, Cond.code yX4_put cX4_put 3 none, Cond.methodLink RX4 97 yX4_lookUp, Cond.instanceMethod yX4_lookUp, Cond.selects RX4 yX4_lookUp yX4_lookUp, Cond.code yX4_lookUp cX4_lookUp 6 (some .int), Cond.fieldLink RX4 16 "TrapMachineModel" "control" "[I", Cond.constant RX4 63 (268435455), Cond.methodLink RX4 55 yX4_with, Cond.instanceMethod yX4_with, Cond.selects RX4 yX4_with yX4_with, Cond.code yX4_with cX4_with 4 (some .int), Cond.fieldLink RX4 45 "TrapMachineModel" "brings" "I", Cond.fieldLink RX4 48 "TrapMachineModel" "broughtAt" "I", Cond.methodLink RX4 59 yX4_user, Cond.instanceMethod yX4_user, Cond.selects RX4 yX4_user yX4_user]
def wsX4_reach_r2 : List Cond := [Cond.code yX4_user cX4_user 1 (some .boolean), Cond.methodLink RX4 64 yX4_map, Cond.instanceMethod yX4_map, Cond.selects RX4 yX4_map yX4_map, Cond.code yX4_map cX4_map 7 (some .int), Cond.fieldLink RX4 38 "TrapMachineModel" "half" "[I", Cond.methodLink RX4 75 yX4_pairOf, Cond.static yX4_pairOf, Cond.code yX4_pairOf cX4_pairOf 1 (some .int), Cond.methodLink RX4 79 yX4_fits, Cond.instanceMethod yX4_fits, Cond.selects RX4 yX4_fits yX4_fits, Cond.code yX4_fits cX4_fits 4 (some .boolean), Cond.fieldLink RX4 25 "TrapMachineModel" "there" "[Z", Cond.fieldLink RX4 32 "TrapMachineModel" "pair" "[I", Cond.fieldLink RX4 29 "TrapMachineModel" "global" "[Z", Cond.fieldLink RX4 35 "TrapMachineModel" "space" "[I", Cond.methodLink RX4 71 yX4_outside, Cond.static yX4_outside, Cond.code yX4_outside cX4_outside 3 (some .boolean)]
def wsX4_reach : List Cond := .code yX4_reach cX4_reach 6 (some .int) :: ((wsX4_reach_r1 ++ wsX4_reach_r2) ++ wsX40)
def wsX4_go : List Cond := .code yX4_go cX4_go 8 (some .int) :: ([.fieldLink RX4 13 "TrapMachineModel" "register" "[I", .fieldLink RX4 51 "TrapMachineModel" "place" "I", .fieldLink RX4 100 "TrapMachineModel" "next" "I", .methodLink RX4 55 yX4_with, .instanceMethod yX4_with, .selects RX4 yX4_with yX4_with, .initialized RX4, .code yX4_with cX4_with 4 (some .int), .fieldLink RX4 45 "TrapMachineModel" "brings" "I", .fieldLink RX4 48 "TrapMachineModel" "broughtAt" "I", .methodLink RX4 93 yX4_put, .instanceMethod yX4_put, .selects RX4 yX4_put yX4_put, .code yX4_put cX4_put 3 none] ++ wsX40)
def wsX4_controls : List Cond := .code yX4_controls cX4_controls 6 (some .int) :: ([.fieldLink RX4 16 "TrapMachineModel" "control" "[I", .fieldLink RX4 13 "TrapMachineModel" "register" "[I", .methodLink RX4 55 yX4_with, .instanceMethod yX4_with, .selects RX4 yX4_with yX4_with, .initialized RX4, .code yX4_with cX4_with 4 (some .int), .fieldLink RX4 45 "TrapMachineModel" "brings" "I", .fieldLink RX4 48 "TrapMachineModel" "broughtAt" "I", .methodLink RX4 103 yX4_write, .instanceMethod yX4_write, .selects RX4 yX4_write yX4_write, .code yX4_write cX4_write 5 none, .fieldLink RX4 22 "TrapMachineModel" "written" "[I", .constant RX4 82 (65532), .methodLink RX4 93 yX4_put, .instanceMethod yX4_put, .selects RX4 yX4_put yX4_put, .code yX4_put cX4_put 3 none] ++ wsX40)
def wsX4_govern_r1 : List Cond := [Cond.fieldLink RX4 13 "TrapMachineModel" "register" "[I", Cond.fieldLink RX4 16 "TrapMachineModel" "control" "[I", Cond.fieldLink RX4 124 "TrapMachineModel" "filled" "I", Cond.fieldLink RX4 100 "TrapMachineModel" "next" "I", Cond.fieldLink RX4 89 "TrapMachineModel" "link" "Z", Cond.fieldLink RX4 127 "TrapMachineModel" "rests" "Z", Cond.methodLink RX4 59 yX4_user, Cond.instanceMethod yX4_user, Cond.selects RX4 yX4_user yX4_user, Cond.initialized RX4, Cond.code yX4_user cX4_user 1 (some .boolean), Cond.methodLink RX4 55 yX4_with, Cond.instanceMethod yX4_with, Cond.selects RX4 yX4_with yX4_with, Cond.code yX4_with cX4_with 4 (some .int), Cond.fieldLink RX4 45 "TrapMachineModel" "brings" "I", Cond.fieldLink RX4 48 "TrapMachineModel" "broughtAt" "I", Cond.methodLink RX4 107 yX4_controls, Cond.instanceMethod yX4_controls, Cond.selects RX4 yX4_controls yX4_controls, Cond.code yX4_controls cX4_controls 6 (some .int), Cond.methodLink RX4 103 yX4_write, Cond.instanceMethod yX4_write, Cond.selects RX4 yX4_write yX4_write]
def wsX4_govern_r2 : List Cond := [Cond.code yX4_write cX4_write 5 none, Cond.fieldLink RX4 22 "TrapMachineModel" "written" "[I", Cond.constant RX4 82 (65532), Cond.methodLink RX4 93 yX4_put, Cond.instanceMethod yX4_put, Cond.selects RX4 yX4_put yX4_put, Cond.code yX4_put cX4_put 3 none, Cond.methodLink RX4 111 yX4_empty, Cond.instanceMethod yX4_empty, Cond.selects RX4 yX4_empty yX4_empty, Cond.code yX4_empty cX4_empty 6 (some .int), Cond.fieldLink RX4 29 "TrapMachineModel" "global" "[Z", Cond.fieldLink RX4 35 "TrapMachineModel" "space" "[I", Cond.fieldLink RX4 32 "TrapMachineModel" "pair" "[I", Cond.fieldLink RX4 25 "TrapMachineModel" "there" "[Z", Cond.methodLink RX4 75 yX4_pairOf, Cond.static yX4_pairOf, Cond.code yX4_pairOf cX4_pairOf 1 (some .int), Cond.methodLink RX4 114 yX4_search, Cond.instanceMethod yX4_search, Cond.selects RX4 yX4_search yX4_search, Cond.code yX4_search cX4_search 3 none, Cond.constant RX4 83 (-2147483648), Cond.methodLink RX4 79 yX4_fits]
def wsX4_govern_r3 : List Cond := [Cond.instanceMethod yX4_fits, Cond.selects RX4 yX4_fits yX4_fits, Cond.code yX4_fits cX4_fits 4 (some .boolean), Cond.methodLink RX4 117 yX4_read, Cond.instanceMethod yX4_read, Cond.selects RX4 yX4_read yX4_read, Cond.code yX4_read cX4_read 3 none, Cond.fieldLink RX4 38 "TrapMachineModel" "half" "[I", Cond.methodLink RX4 121 yX4_fill, Cond.instanceMethod yX4_fill, Cond.selects RX4 yX4_fill yX4_fill, Cond.code yX4_fill cX4_fill 2 none, Cond.methodLink RX4 84 yX4_codeOf, Cond.instanceMethod yX4_codeOf, Cond.selects RX4 yX4_codeOf yX4_codeOf, Cond.code yX4_codeOf cX4_codeOf 1 (some .int)]
def wsX4_govern : List Cond := .code yX4_govern cX4_govern 5 (some .int) :: ((wsX4_govern_r1 ++ (wsX4_govern_r2 ++ wsX4_govern_r3)) ++ wsX40)
def wsX4_instruction_r1 : List Cond := [Cond.fieldLink RX4 51 "TrapMachineModel" "place" "I", Cond.fieldLink RX4 7 "TrapMachineModel" "memory" "[I", Cond.fieldLink RX4 68 "TrapMachineModel" "found" "I", Cond.fieldLink RX4 100 "TrapMachineModel" "next" "I", Cond.fieldLink RX4 13 "TrapMachineModel" "register" "[I", Cond.methodLink RX4 97 yX4_lookUp, Cond.instanceMethod yX4_lookUp, Cond.selects RX4 yX4_lookUp yX4_lookUp, Cond.initialized RX4, Cond.code yX4_lookUp cX4_lookUp 6 (some .int), Cond.fieldLink RX4 16 "TrapMachineModel" "control" "[I", Cond.constant RX4 63 (268435455), Cond.methodLink RX4 55 yX4_with, Cond.instanceMethod yX4_with, Cond.selects RX4 yX4_with yX4_with, Cond.code yX4_with cX4_with 4 (some .int), Cond.fieldLink RX4 45 "TrapMachineModel" "brings" "I", Cond.fieldLink RX4 48 "TrapMachineModel" "broughtAt" "I", Cond.methodLink RX4 59 yX4_user, Cond.instanceMethod yX4_user, Cond.selects RX4 yX4_user yX4_user, Cond.code yX4_user cX4_user 1 (some .boolean), Cond.methodLink RX4 64 yX4_map, Cond.instanceMethod yX4_map]
def wsX4_instruction_r2 : List Cond := [Cond.selects RX4 yX4_map yX4_map, Cond.code yX4_map cX4_map 7 (some .int), Cond.fieldLink RX4 38 "TrapMachineModel" "half" "[I", Cond.methodLink RX4 75 yX4_pairOf, Cond.static yX4_pairOf, Cond.code yX4_pairOf cX4_pairOf 1 (some .int), Cond.methodLink RX4 79 yX4_fits, Cond.instanceMethod yX4_fits, Cond.selects RX4 yX4_fits yX4_fits, Cond.code yX4_fits cX4_fits 4 (some .boolean), Cond.fieldLink RX4 25 "TrapMachineModel" "there" "[Z", Cond.fieldLink RX4 32 "TrapMachineModel" "pair" "[I", Cond.fieldLink RX4 29 "TrapMachineModel" "global" "[Z", Cond.fieldLink RX4 35 "TrapMachineModel" "space" "[I", Cond.methodLink RX4 71 yX4_outside, Cond.static yX4_outside, Cond.code yX4_outside cX4_outside 3 (some .boolean), Cond.methodLink RX4 130 yX4_reckon, Cond.instanceMethod yX4_reckon, Cond.selects RX4 yX4_reckon yX4_reckon, Cond.code yX4_reckon cX4_reckon 7 (some .int), Cond.constant RX4 88 (65536), Cond.methodLink RX4 93 yX4_put, Cond.instanceMethod yX4_put]
def wsX4_instruction_r3 : List Cond := [Cond.selects RX4 yX4_put yX4_put, Cond.code yX4_put cX4_put 3 none, Cond.methodLink RX4 133 yX4_reach, Cond.instanceMethod yX4_reach, Cond.selects RX4 yX4_reach yX4_reach, Cond.code yX4_reach cX4_reach 6 (some .int), Cond.fieldLink RX4 89 "TrapMachineModel" "link" "Z", Cond.methodLink RX4 136 yX4_go, Cond.instanceMethod yX4_go, Cond.selects RX4 yX4_go yX4_go, Cond.code yX4_go cX4_go 8 (some .int), Cond.methodLink RX4 139 yX4_govern, Cond.instanceMethod yX4_govern, Cond.selects RX4 yX4_govern yX4_govern, Cond.code yX4_govern cX4_govern 5 (some .int), Cond.fieldLink RX4 124 "TrapMachineModel" "filled" "I", Cond.fieldLink RX4 127 "TrapMachineModel" "rests" "Z", Cond.methodLink RX4 107 yX4_controls, Cond.instanceMethod yX4_controls, Cond.selects RX4 yX4_controls yX4_controls, Cond.code yX4_controls cX4_controls 6 (some .int), Cond.methodLink RX4 103 yX4_write, Cond.instanceMethod yX4_write, Cond.selects RX4 yX4_write yX4_write]
def wsX4_instruction_r4 : List Cond := [Cond.code yX4_write cX4_write 5 none, Cond.fieldLink RX4 22 "TrapMachineModel" "written" "[I", Cond.constant RX4 82 (65532), Cond.methodLink RX4 111 yX4_empty, Cond.instanceMethod yX4_empty, Cond.selects RX4 yX4_empty yX4_empty, Cond.code yX4_empty cX4_empty 6 (some .int), Cond.methodLink RX4 114 yX4_search, Cond.instanceMethod yX4_search, Cond.selects RX4 yX4_search yX4_search, Cond.code yX4_search cX4_search 3 none, Cond.constant RX4 83 (-2147483648), Cond.methodLink RX4 117 yX4_read, Cond.instanceMethod yX4_read, Cond.selects RX4 yX4_read yX4_read, Cond.code yX4_read cX4_read 3 none, Cond.methodLink RX4 121 yX4_fill, Cond.instanceMethod yX4_fill, Cond.selects RX4 yX4_fill yX4_fill, Cond.code yX4_fill cX4_fill 2 none, Cond.methodLink RX4 84 yX4_codeOf, Cond.instanceMethod yX4_codeOf, Cond.selects RX4 yX4_codeOf yX4_codeOf, Cond.code yX4_codeOf cX4_codeOf 1 (some .int)]
def wsX4_instruction : List Cond := .code yX4_instruction cX4_instruction 8 (some .int) :: ((wsX4_instruction_r1 ++ (wsX4_instruction_r2 ++ (wsX4_instruction_r3 ++ wsX4_instruction_r4))) ++ wsX40)
def wsX4_tick : List Cond := .code yX4_tick cX4_tick 1 none :: ([.fieldLink RX4 16 "TrapMachineModel" "control" "[I", .constant RX4 82 (65532)] ++ wsX40)
def wsX4_step_r1 : List Cond := [Cond.fieldLink RX4 16 "TrapMachineModel" "control" "[I", Cond.fieldLink RX4 127 "TrapMachineModel" "rests" "Z", Cond.fieldLink RX4 148 "TrapMachineModel" "stopped" "Z", Cond.fieldLink RX4 151 "TrapMachineModel" "raised" "Z", Cond.fieldLink RX4 100 "TrapMachineModel" "next" "I", Cond.fieldLink RX4 51 "TrapMachineModel" "place" "I", Cond.methodLink RX4 142 yX4_tick, Cond.instanceMethod yX4_tick, Cond.selects RX4 yX4_tick yX4_tick, Cond.initialized RX4, Cond.code yX4_tick cX4_tick 1 none, Cond.constant RX4 82 (65532), Cond.methodLink RX4 55 yX4_with, Cond.instanceMethod yX4_with, Cond.selects RX4 yX4_with yX4_with, Cond.code yX4_with cX4_with 4 (some .int), Cond.fieldLink RX4 45 "TrapMachineModel" "brings" "I", Cond.fieldLink RX4 48 "TrapMachineModel" "broughtAt" "I", Cond.methodLink RX4 145 yX4_instruction, Cond.instanceMethod yX4_instruction, Cond.selects RX4 yX4_instruction yX4_instruction, Cond.code yX4_instruction cX4_instruction 8 (some .int), Cond.fieldLink RX4 7 "TrapMachineModel" "memory" "[I", Cond.fieldLink RX4 68 "TrapMachineModel" "found" "I"]
def wsX4_step_r2 : List Cond := [Cond.fieldLink RX4 13 "TrapMachineModel" "register" "[I", Cond.methodLink RX4 97 yX4_lookUp, Cond.instanceMethod yX4_lookUp, Cond.selects RX4 yX4_lookUp yX4_lookUp, Cond.code yX4_lookUp cX4_lookUp 6 (some .int), Cond.constant RX4 63 (268435455), Cond.methodLink RX4 59 yX4_user, Cond.instanceMethod yX4_user, Cond.selects RX4 yX4_user yX4_user, Cond.code yX4_user cX4_user 1 (some .boolean), Cond.methodLink RX4 64 yX4_map, Cond.instanceMethod yX4_map, Cond.selects RX4 yX4_map yX4_map, Cond.code yX4_map cX4_map 7 (some .int), Cond.fieldLink RX4 38 "TrapMachineModel" "half" "[I", Cond.methodLink RX4 75 yX4_pairOf, Cond.static yX4_pairOf, Cond.code yX4_pairOf cX4_pairOf 1 (some .int), Cond.methodLink RX4 79 yX4_fits, Cond.instanceMethod yX4_fits, Cond.selects RX4 yX4_fits yX4_fits, Cond.code yX4_fits cX4_fits 4 (some .boolean), Cond.fieldLink RX4 25 "TrapMachineModel" "there" "[Z", Cond.fieldLink RX4 32 "TrapMachineModel" "pair" "[I"]
def wsX4_step_r3 : List Cond := [Cond.fieldLink RX4 29 "TrapMachineModel" "global" "[Z", Cond.fieldLink RX4 35 "TrapMachineModel" "space" "[I", Cond.methodLink RX4 71 yX4_outside, Cond.static yX4_outside, Cond.code yX4_outside cX4_outside 3 (some .boolean), Cond.methodLink RX4 130 yX4_reckon, Cond.instanceMethod yX4_reckon, Cond.selects RX4 yX4_reckon yX4_reckon, Cond.code yX4_reckon cX4_reckon 7 (some .int), Cond.constant RX4 88 (65536), Cond.methodLink RX4 93 yX4_put, Cond.instanceMethod yX4_put, Cond.selects RX4 yX4_put yX4_put, Cond.code yX4_put cX4_put 3 none, Cond.methodLink RX4 133 yX4_reach, Cond.instanceMethod yX4_reach, Cond.selects RX4 yX4_reach yX4_reach, Cond.code yX4_reach cX4_reach 6 (some .int), Cond.fieldLink RX4 89 "TrapMachineModel" "link" "Z", Cond.methodLink RX4 136 yX4_go, Cond.instanceMethod yX4_go, Cond.selects RX4 yX4_go yX4_go, Cond.code yX4_go cX4_go 8 (some .int), Cond.methodLink RX4 139 yX4_govern]
def wsX4_step_r4 : List Cond := [Cond.instanceMethod yX4_govern, Cond.selects RX4 yX4_govern yX4_govern, Cond.code yX4_govern cX4_govern 5 (some .int), Cond.fieldLink RX4 124 "TrapMachineModel" "filled" "I", Cond.methodLink RX4 107 yX4_controls, Cond.instanceMethod yX4_controls, Cond.selects RX4 yX4_controls yX4_controls, Cond.code yX4_controls cX4_controls 6 (some .int), Cond.methodLink RX4 103 yX4_write, Cond.instanceMethod yX4_write, Cond.selects RX4 yX4_write yX4_write, Cond.code yX4_write cX4_write 5 none, Cond.fieldLink RX4 22 "TrapMachineModel" "written" "[I", Cond.methodLink RX4 111 yX4_empty, Cond.instanceMethod yX4_empty, Cond.selects RX4 yX4_empty yX4_empty, Cond.code yX4_empty cX4_empty 6 (some .int), Cond.methodLink RX4 114 yX4_search, Cond.instanceMethod yX4_search, Cond.selects RX4 yX4_search yX4_search, Cond.code yX4_search cX4_search 3 none, Cond.constant RX4 83 (-2147483648), Cond.methodLink RX4 117 yX4_read, Cond.instanceMethod yX4_read]
def wsX4_step_r5 : List Cond := [Cond.selects RX4 yX4_read yX4_read, Cond.code yX4_read cX4_read 3 none, Cond.methodLink RX4 121 yX4_fill, Cond.instanceMethod yX4_fill, Cond.selects RX4 yX4_fill yX4_fill, Cond.code yX4_fill cX4_fill 2 none, Cond.methodLink RX4 84 yX4_codeOf, Cond.instanceMethod yX4_codeOf, Cond.selects RX4 yX4_codeOf yX4_codeOf, Cond.code yX4_codeOf cX4_codeOf 1 (some .int), Cond.methodLink RX4 154 yX4_enter, Cond.instanceMethod yX4_enter, Cond.selects RX4 yX4_enter yX4_enter, Cond.code yX4_enter cX4_enter 3 none, Cond.constant RX4 54 (-4128769)]
def wsX4_step : List Cond := .code yX4_step cX4_step 3 none :: ((wsX4_step_r1 ++ (wsX4_step_r2 ++ (wsX4_step_r3 ++ (wsX4_step_r4 ++ wsX4_step_r5)))) ++ wsX40)
def wsX4_isWord : List Cond := .code yX4_isWord cX4_isWord 1 (some .boolean) :: ([.methodLink RX4 71 yX4_outside, .static yX4_outside, .initialized RX4, .code yX4_outside cX4_outside 3 (some .boolean)])
def wsX4_load : List Cond := .code yX4_load cX4_load 3 none :: ([.fieldLink RX4 41 "TrapMachineModel" "thrown" "I", .fieldLink RX4 7 "TrapMachineModel" "memory" "[I", .methodLink RX4 157 yX4_isWord, .static yX4_isWord, .initialized RX4, .code yX4_isWord cX4_isWord 1 (some .boolean), .methodLink RX4 71 yX4_outside, .static yX4_outside, .code yX4_outside cX4_outside 3 (some .boolean)] ++ wsX40)
def wsX4_word : List Cond := .code yX4_word cX4_word 2 (some .int) :: ([.fieldLink RX4 41 "TrapMachineModel" "thrown" "I", .fieldLink RX4 7 "TrapMachineModel" "memory" "[I", .methodLink RX4 157 yX4_isWord, .static yX4_isWord, .initialized RX4, .code yX4_isWord cX4_isWord 1 (some .boolean), .methodLink RX4 71 yX4_outside, .static yX4_outside, .code yX4_outside cX4_outside 3 (some .boolean), .methodLink RX4 161 yX4_refuse, .instanceMethod yX4_refuse, .selects RX4 yX4_refuse yX4_refuse, .code yX4_refuse cX4_refuse 2 (some .int)] ++ wsX40)
def wsX4_line : List Cond := .code yX4_line cX4_line 3 none :: ([.fieldLink RX4 41 "TrapMachineModel" "thrown" "I", .fieldLink RX4 16 "TrapMachineModel" "control" "[I", .methodLink RX4 71 yX4_outside, .static yX4_outside, .initialized RX4, .code yX4_outside cX4_outside 3 (some .boolean)] ++ wsX40)
def wsX4_filled : List Cond := .code yX4_filled cX4_filled 2 none :: ([.fieldLink RX4 41 "TrapMachineModel" "thrown" "I", .fieldLink RX4 124 "TrapMachineModel" "filled" "I"] ++ wsX40)
def wsX4_jump : List Cond := .code yX4_jump cX4_jump 2 none :: ([.fieldLink RX4 41 "TrapMachineModel" "thrown" "I", .fieldLink RX4 51 "TrapMachineModel" "place" "I", .fieldLink RX4 148 "TrapMachineModel" "stopped" "Z", .fieldLink RX4 127 "TrapMachineModel" "rests" "Z"] ++ wsX40)
def wsX4_run_r1 : List Cond := [Cond.fieldLink RX4 41 "TrapMachineModel" "thrown" "I", Cond.fieldLink RX4 151 "TrapMachineModel" "raised" "Z", Cond.fieldLink RX4 148 "TrapMachineModel" "stopped" "Z", Cond.methodLink RX4 164 yX4_step, Cond.instanceMethod yX4_step, Cond.selects RX4 yX4_step yX4_step, Cond.initialized RX4, Cond.code yX4_step cX4_step 3 none, Cond.fieldLink RX4 16 "TrapMachineModel" "control" "[I", Cond.fieldLink RX4 127 "TrapMachineModel" "rests" "Z", Cond.fieldLink RX4 100 "TrapMachineModel" "next" "I", Cond.fieldLink RX4 51 "TrapMachineModel" "place" "I", Cond.methodLink RX4 142 yX4_tick, Cond.instanceMethod yX4_tick, Cond.selects RX4 yX4_tick yX4_tick, Cond.code yX4_tick cX4_tick 1 none, Cond.constant RX4 82 (65532), Cond.methodLink RX4 55 yX4_with, Cond.instanceMethod yX4_with, Cond.selects RX4 yX4_with yX4_with, Cond.code yX4_with cX4_with 4 (some .int), Cond.fieldLink RX4 45 "TrapMachineModel" "brings" "I", Cond.fieldLink RX4 48 "TrapMachineModel" "broughtAt" "I", Cond.methodLink RX4 145 yX4_instruction]
def wsX4_run_r2 : List Cond := [Cond.instanceMethod yX4_instruction, Cond.selects RX4 yX4_instruction yX4_instruction, Cond.code yX4_instruction cX4_instruction 8 (some .int), Cond.fieldLink RX4 7 "TrapMachineModel" "memory" "[I", Cond.fieldLink RX4 68 "TrapMachineModel" "found" "I", Cond.fieldLink RX4 13 "TrapMachineModel" "register" "[I", Cond.methodLink RX4 97 yX4_lookUp, Cond.instanceMethod yX4_lookUp, Cond.selects RX4 yX4_lookUp yX4_lookUp, Cond.code yX4_lookUp cX4_lookUp 6 (some .int), Cond.constant RX4 63 (268435455), Cond.methodLink RX4 59 yX4_user, Cond.instanceMethod yX4_user, Cond.selects RX4 yX4_user yX4_user, Cond.code yX4_user cX4_user 1 (some .boolean), Cond.methodLink RX4 64 yX4_map, Cond.instanceMethod yX4_map, Cond.selects RX4 yX4_map yX4_map, Cond.code yX4_map cX4_map 7 (some .int), Cond.fieldLink RX4 38 "TrapMachineModel" "half" "[I", Cond.methodLink RX4 75 yX4_pairOf, Cond.static yX4_pairOf, Cond.code yX4_pairOf cX4_pairOf 1 (some .int), Cond.methodLink RX4 79 yX4_fits]
def wsX4_run_r3 : List Cond := [Cond.instanceMethod yX4_fits, Cond.selects RX4 yX4_fits yX4_fits, Cond.code yX4_fits cX4_fits 4 (some .boolean), Cond.fieldLink RX4 25 "TrapMachineModel" "there" "[Z", Cond.fieldLink RX4 32 "TrapMachineModel" "pair" "[I", Cond.fieldLink RX4 29 "TrapMachineModel" "global" "[Z", Cond.fieldLink RX4 35 "TrapMachineModel" "space" "[I", Cond.methodLink RX4 71 yX4_outside, Cond.static yX4_outside, Cond.code yX4_outside cX4_outside 3 (some .boolean), Cond.methodLink RX4 130 yX4_reckon, Cond.instanceMethod yX4_reckon, Cond.selects RX4 yX4_reckon yX4_reckon, Cond.code yX4_reckon cX4_reckon 7 (some .int), Cond.constant RX4 88 (65536), Cond.methodLink RX4 93 yX4_put, Cond.instanceMethod yX4_put, Cond.selects RX4 yX4_put yX4_put, Cond.code yX4_put cX4_put 3 none, Cond.methodLink RX4 133 yX4_reach, Cond.instanceMethod yX4_reach, Cond.selects RX4 yX4_reach yX4_reach, Cond.code yX4_reach cX4_reach 6 (some .int), Cond.fieldLink RX4 89 "TrapMachineModel" "link" "Z"]
def wsX4_run_r4 : List Cond := [Cond.methodLink RX4 136 yX4_go, Cond.instanceMethod yX4_go, Cond.selects RX4 yX4_go yX4_go, Cond.code yX4_go cX4_go 8 (some .int), Cond.methodLink RX4 139 yX4_govern, Cond.instanceMethod yX4_govern, Cond.selects RX4 yX4_govern yX4_govern, Cond.code yX4_govern cX4_govern 5 (some .int), Cond.fieldLink RX4 124 "TrapMachineModel" "filled" "I", Cond.methodLink RX4 107 yX4_controls, Cond.instanceMethod yX4_controls, Cond.selects RX4 yX4_controls yX4_controls, Cond.code yX4_controls cX4_controls 6 (some .int), Cond.methodLink RX4 103 yX4_write, Cond.instanceMethod yX4_write, Cond.selects RX4 yX4_write yX4_write, Cond.code yX4_write cX4_write 5 none, Cond.fieldLink RX4 22 "TrapMachineModel" "written" "[I", Cond.methodLink RX4 111 yX4_empty, Cond.instanceMethod yX4_empty, Cond.selects RX4 yX4_empty yX4_empty, Cond.code yX4_empty cX4_empty 6 (some .int), Cond.methodLink RX4 114 yX4_search, Cond.instanceMethod yX4_search]
def wsX4_run_r5 : List Cond := [Cond.selects RX4 yX4_search yX4_search, Cond.code yX4_search cX4_search 3 none, Cond.constant RX4 83 (-2147483648), Cond.methodLink RX4 117 yX4_read, Cond.instanceMethod yX4_read, Cond.selects RX4 yX4_read yX4_read, Cond.code yX4_read cX4_read 3 none, Cond.methodLink RX4 121 yX4_fill, Cond.instanceMethod yX4_fill, Cond.selects RX4 yX4_fill yX4_fill, Cond.code yX4_fill cX4_fill 2 none, Cond.methodLink RX4 84 yX4_codeOf, Cond.instanceMethod yX4_codeOf, Cond.selects RX4 yX4_codeOf yX4_codeOf, Cond.code yX4_codeOf cX4_codeOf 1 (some .int), Cond.methodLink RX4 154 yX4_enter, Cond.instanceMethod yX4_enter, Cond.selects RX4 yX4_enter yX4_enter, Cond.code yX4_enter cX4_enter 3 none, Cond.constant RX4 54 (-4128769)]
def wsX4_run : List Cond := .code yX4_run cX4_run 4 (some .int) :: ((wsX4_run_r1 ++ (wsX4_run_r2 ++ (wsX4_run_r3 ++ (wsX4_run_r4 ++ wsX4_run_r5)))) ++ wsX40)
def wsX4_state : List Cond := .code yX4_state cX4_state 1 (some .int) :: ([.fieldLink RX4 41 "TrapMachineModel" "thrown" "I", .fieldLink RX4 148 "TrapMachineModel" "stopped" "Z", .fieldLink RX4 127 "TrapMachineModel" "rests" "Z"] ++ wsX40)
def wsX4_register : List Cond := .code yX4_register cX4_register 2 (some .int) :: ([.fieldLink RX4 41 "TrapMachineModel" "thrown" "I", .fieldLink RX4 13 "TrapMachineModel" "register" "[I", .fieldLink RX4 51 "TrapMachineModel" "place" "I", .fieldLink RX4 89 "TrapMachineModel" "link" "Z", .methodLink RX4 71 yX4_outside, .static yX4_outside, .initialized RX4, .code yX4_outside cX4_outside 3 (some .boolean), .methodLink RX4 161 yX4_refuse, .instanceMethod yX4_refuse, .selects RX4 yX4_refuse yX4_refuse, .code yX4_refuse cX4_refuse 2 (some .int)] ++ wsX40)
def wsX4_control : List Cond := .code yX4_control cX4_control 2 (some .int) :: ([.fieldLink RX4 41 "TrapMachineModel" "thrown" "I", .fieldLink RX4 16 "TrapMachineModel" "control" "[I", .methodLink RX4 71 yX4_outside, .static yX4_outside, .initialized RX4, .code yX4_outside cX4_outside 3 (some .boolean), .methodLink RX4 161 yX4_refuse, .instanceMethod yX4_refuse, .selects RX4 yX4_refuse yX4_refuse, .code yX4_refuse cX4_refuse 2 (some .int)] ++ wsX40)
def wsX4_entry : List Cond := .code yX4_entry cX4_entry 3 (some .int) :: ([.fieldLink RX4 41 "TrapMachineModel" "thrown" "I", .fieldLink RX4 38 "TrapMachineModel" "half" "[I", .fieldLink RX4 25 "TrapMachineModel" "there" "[Z", .fieldLink RX4 32 "TrapMachineModel" "pair" "[I", .fieldLink RX4 35 "TrapMachineModel" "space" "[I", .fieldLink RX4 29 "TrapMachineModel" "global" "[Z", .methodLink RX4 71 yX4_outside, .static yX4_outside, .initialized RX4, .code yX4_outside cX4_outside 3 (some .boolean), .methodLink RX4 161 yX4_refuse, .instanceMethod yX4_refuse, .selects RX4 yX4_refuse yX4_refuse, .code yX4_refuse cX4_refuse 2 (some .int)] ++ wsX40)
def wsJ9_min_7cf53 : List Cond := .code yJ9_min_7cf53 cJ9_min_7cf53 2 (some .int) :: ([])
def wsL_load : List Cond := .codeWith yL_load cL_load 4 (some .int) [(0, 6, 9, 13)] :: ([.classLink RL 13 "java/lang/IllegalArgumentException", .methodLink RL 7 yX3_load, .instanceMethod yX3_load, .selects RX3 yX3_load yX3_load, .initialized RX3, .code yX3_load cX3_load 3 none, .classLink RX3 38 "java/lang/IllegalArgumentException", .initialized "java/lang/IllegalArgumentException", .fieldLink RX3 9 "TrapMachine" "memory" "[I", .methodLink RX3 34 yX3_isInMemory, .static yX3_isInMemory, .code yX3_isInMemory cX3_isInMemory 1 (some .boolean)] ++ wsX30 ++ (vx_atS RX3 42 "java/lang/IllegalArgumentException" ["java/lang/RuntimeException", "java/lang/Exception"]).filter goodWord)
def wsL_word : List Cond := .codeWith yL_word cL_word 4 (some .int) [(0, 9, 12, 13)] :: ([.classLink RL 13 "java/lang/IllegalArgumentException", .methodLink RL 15 yX3_word, .instanceMethod yX3_word, .selects RX3 yX3_word yX3_word, .initialized RX3, .code yX3_word cX3_word 2 (some .int), .classLink RX3 38 "java/lang/IllegalArgumentException", .initialized "java/lang/IllegalArgumentException", .fieldLink RX3 9 "TrapMachine" "memory" "[I", .methodLink RX3 34 yX3_isInMemory, .static yX3_isInMemory, .code yX3_isInMemory cX3_isInMemory 1 (some .boolean)] ++ wsX30 ++ (vx_atS RX3 42 "java/lang/IllegalArgumentException" ["java/lang/RuntimeException", "java/lang/Exception"]).filter goodWord)
def wsL_line : List Cond := .codeWith yL_line cL_line 4 (some .int) [(0, 6, 9, 13)] :: ([.classLink RL 13 "java/lang/IllegalArgumentException", .methodLink RL 19 yX3_line, .instanceMethod yX3_line, .selects RX3 yX3_line yX3_line, .initialized RX3, .code yX3_line cX3_line 3 none, .classLink RX3 38 "java/lang/IllegalArgumentException", .initialized "java/lang/IllegalArgumentException", .fieldLink RX3 19 "TrapMachine" "controls" "LTrapMachine$Controls;", .instanceMethod yX2_setLine, .initialized RX2, .selects RX2 yX2_setLine yX2_setLine, .code yX2_setLine cX2_setLine 4 none, .fieldLink RX2 11 "TrapMachine$Controls" "values" "[I"] ++ wsX30 ++ wsX20 ++ (vx_atS RX3 42 "java/lang/IllegalArgumentException" ["java/lang/RuntimeException", "java/lang/Exception"]).filter goodWord)
def wsL_register : List Cond := .codeWith yL_register cL_register 4 (some .int) [(0, 9, 12, 13)] :: ([.classLink RL 13 "java/lang/IllegalArgumentException", .methodLink RL 23 yX3_register, .instanceMethod yX3_register, .selects RX3 yX3_register yX3_register, .initialized RX3, .code yX3_register cX3_register 2 (some .int), .classLink RX3 38 "java/lang/IllegalArgumentException", .initialized "java/lang/IllegalArgumentException", .fieldLink RX3 54 "TrapMachine" "place" "I", .fieldLink RX3 72 "TrapMachine" "linked" "Z", .fieldLink RX3 13 "TrapMachine" "registers" "[I"] ++ wsX30 ++ (vx_atS RX3 42 "java/lang/IllegalArgumentException" ["java/lang/RuntimeException", "java/lang/Exception"]).filter goodWord)
def wsL_control : List Cond := .codeWith yL_control cL_control 4 (some .int) [(0, 9, 12, 13)] :: ([.classLink RL 13 "java/lang/IllegalArgumentException", .methodLink RL 26 yX3_control, .instanceMethod yX3_control, .selects RX3 yX3_control yX3_control, .initialized RX3, .code yX3_control cX3_control 2 (some .int), .classLink RX3 38 "java/lang/IllegalArgumentException", .initialized "java/lang/IllegalArgumentException", .fieldLink RX3 19 "TrapMachine" "controls" "LTrapMachine$Controls;", .instanceMethod yX2_get, .initialized RX2, .selects RX2 yX2_get yX2_get, .code yX2_get cX2_get 2 (some .int), .fieldLink RX2 11 "TrapMachine$Controls" "values" "[I"] ++ wsX30 ++ wsX20 ++ (vx_atS RX3 42 "java/lang/IllegalArgumentException" ["java/lang/RuntimeException", "java/lang/Exception"]).filter goodWord)
def wsL_entry : List Cond := .codeWith yL_entry cL_entry 5 (some .int) [(0, 10, 13, 13)] :: ([.classLink RL 13 "java/lang/IllegalArgumentException", .methodLink RL 29 yX3_entry, .instanceMethod yX3_entry, .selects RX3 yX3_entry yX3_entry, .initialized RX3, .code yX3_entry cX3_entry 3 (some .int), .classLink RX3 38 "java/lang/IllegalArgumentException", .initialized "java/lang/IllegalArgumentException", .fieldLink RX3 26 "TrapMachine" "buffer" "LTrapMachine$Buffer;", .instanceMethod yX0_get, .initialized RX0, .selects RX0 yX0_get yX0_get, .code yX0_get cX0_get 3 (some .int), .fieldLink RX0 11 "TrapMachine$Buffer" "parts" "[[I"] ++ wsX30 ++ wsX00 ++ (vx_atS RX3 42 "java/lang/IllegalArgumentException" ["java/lang/RuntimeException", "java/lang/Exception"]).filter goodWord)
def wsL_law0_r1 : List Cond := [Cond.classLink RL 8 RX3, Cond.instantiable RX3 9, Cond.initialized RX3, Cond.classLink RL 34 RX4, Cond.instantiable RX4 20, Cond.initialized RX4, Cond.arrayClass .long, Cond.methodLink RL 33 yX3_init, Cond.instanceMethod yX3_init, Cond.code yX3_init cX3_init 1 none, Cond.methodLink RX3 1 objectInit, Cond.instanceMethod objectInit, Cond.code objectInit ⟨#[0xb1]⟩ 1 none, Cond.arrayClass .int, Cond.fieldLink RX3 9 "TrapMachine" "memory" "[I", Cond.fieldLink RX3 13 "TrapMachine" "registers" "[I", Cond.classLink RX3 16 RX2, Cond.instantiable RX2 1, Cond.initialized RX2, Cond.fieldLink RX3 19 "TrapMachine" "controls" "LTrapMachine$Controls;", Cond.classLink RX3 23 RX0, Cond.instantiable RX0 1, Cond.initialized RX0, Cond.fieldLink RX3 26 "TrapMachine" "buffer" "LTrapMachine$Buffer;"]
def wsL_law0_r2 : List Cond := [Cond.fieldLink RX3 30 "TrapMachine" "condition" "I", Cond.instanceMethod yX2_init, Cond.code yX2_init cX2_init 1 none, Cond.methodLink RX2 3 objectInit, Cond.fieldLink RX2 11 "TrapMachine$Controls" "values" "[I", Cond.instanceMethod yX0_init, Cond.code yX0_init cX0_init 1 none, Cond.methodLink RX0 1 objectInit, Cond.classLink RX0 9 "[[I", Cond.fieldLink RX0 11 "TrapMachine$Buffer" "parts" "[[I", Cond.methodLink RL 36 yX4_init, Cond.instanceMethod yX4_init, Cond.code yX4_init cX4_init 1 none, Cond.methodLink RX4 1 objectInit, Cond.fieldLink RX4 7 "TrapMachineModel" "memory" "[I", Cond.fieldLink RX4 13 "TrapMachineModel" "register" "[I", Cond.fieldLink RX4 16 "TrapMachineModel" "control" "[I", Cond.constant RX4 19 (-2147483645), Cond.constant RX4 20 (65535), Cond.constant RX4 21 (-268435447), Cond.fieldLink RX4 22 "TrapMachineModel" "written" "[I", Cond.arrayClass .boolean, Cond.fieldLink RX4 25 "TrapMachineModel" "there" "[Z", Cond.fieldLink RX4 29 "TrapMachineModel" "global" "[Z"]
def wsL_law0_r3 : List Cond := [Cond.fieldLink RX4 32 "TrapMachineModel" "pair" "[I", Cond.fieldLink RX4 35 "TrapMachineModel" "space" "[I", Cond.fieldLink RX4 38 "TrapMachineModel" "half" "[I", Cond.methodLink RL 37 yL_load, Cond.static yL_load, Cond.initialized RL, Cond.codeWith yL_load cL_load 4 (some .int) [(0, 6, 9, 13)], Cond.classLink RL 13 "java/lang/IllegalArgumentException", Cond.methodLink RL 7 yX3_load, Cond.instanceMethod yX3_load, Cond.selects RX3 yX3_load yX3_load, Cond.code yX3_load cX3_load 3 none, Cond.classLink RX3 38 "java/lang/IllegalArgumentException", Cond.initialized "java/lang/IllegalArgumentException", Cond.methodLink RX3 34 yX3_isInMemory, Cond.static yX3_isInMemory, Cond.code yX3_isInMemory cX3_isInMemory 1 (some .boolean), Cond.methodLink RL 42 yX4_load, Cond.instanceMethod yX4_load, Cond.selects RX4 yX4_load yX4_load, Cond.code yX4_load cX4_load 3 none, Cond.fieldLink RX4 41 "TrapMachineModel" "thrown" "I", Cond.methodLink RX4 157 yX4_isWord, Cond.static yX4_isWord]
def wsL_law0_r4 : List Cond := [Cond.code yX4_isWord cX4_isWord 1 (some .boolean), Cond.methodLink RX4 71 yX4_outside, Cond.static yX4_outside, Cond.code yX4_outside cX4_outside 3 (some .boolean), Cond.methodLink RL 43 yX4_thrown, Cond.instanceMethod yX4_thrown, Cond.selects RX4 yX4_thrown yX4_thrown, Cond.code yX4_thrown cX4_thrown 1 (some .int), Cond.methodLink RL 47 yL_word, Cond.static yL_word, Cond.codeWith yL_word cL_word 4 (some .int) [(0, 9, 12, 13)], Cond.methodLink RL 15 yX3_word, Cond.instanceMethod yX3_word, Cond.selects RX3 yX3_word yX3_word, Cond.code yX3_word cX3_word 2 (some .int), Cond.methodLink RL 50 yX4_word, Cond.instanceMethod yX4_word, Cond.selects RX4 yX4_word yX4_word, Cond.code yX4_word cX4_word 2 (some .int), Cond.methodLink RX4 161 yX4_refuse, Cond.instanceMethod yX4_refuse, Cond.selects RX4 yX4_refuse yX4_refuse, Cond.code yX4_refuse cX4_refuse 2 (some .int), Cond.methodLink RL 51 yL_line]
def wsL_law0_r5 : List Cond := [Cond.static yL_line, Cond.codeWith yL_line cL_line 4 (some .int) [(0, 6, 9, 13)], Cond.methodLink RL 19 yX3_line, Cond.instanceMethod yX3_line, Cond.selects RX3 yX3_line yX3_line, Cond.code yX3_line cX3_line 3 none, Cond.instanceMethod yX2_setLine, Cond.selects RX2 yX2_setLine yX2_setLine, Cond.code yX2_setLine cX2_setLine 4 none, Cond.methodLink RL 54 yX4_line, Cond.instanceMethod yX4_line, Cond.selects RX4 yX4_line yX4_line, Cond.code yX4_line cX4_line 3 none, Cond.methodLink RL 55 yX3_filled, Cond.instanceMethod yX3_filled, Cond.selects RX3 yX3_filled yX3_filled, Cond.code yX3_filled cX3_filled 2 none, Cond.fieldLink RX3 51 "TrapMachine" "nextFilled" "I", Cond.methodLink RL 59 yX4_filled, Cond.instanceMethod yX4_filled, Cond.selects RX4 yX4_filled yX4_filled, Cond.code yX4_filled cX4_filled 2 none, Cond.fieldLink RX4 124 "TrapMachineModel" "filled" "I", Cond.methodLink RL 60 yX3_jump]
def wsL_law0_r6 : List Cond := [Cond.instanceMethod yX3_jump, Cond.selects RX3 yX3_jump yX3_jump, Cond.code yX3_jump cX3_jump 2 none, Cond.fieldLink RX3 54 "TrapMachine" "place" "I", Cond.methodLink RL 63 yX4_jump, Cond.instanceMethod yX4_jump, Cond.selects RX4 yX4_jump yX4_jump, Cond.code yX4_jump cX4_jump 2 none, Cond.fieldLink RX4 51 "TrapMachineModel" "place" "I", Cond.fieldLink RX4 148 "TrapMachineModel" "stopped" "Z", Cond.fieldLink RX4 127 "TrapMachineModel" "rests" "Z", Cond.methodLink RL 64 yX3_run, Cond.instanceMethod yX3_run, Cond.selects RX3 yX3_run yX3_run, Cond.code yX3_run cX3_run 4 (some .int), Cond.methodLink RX3 57 Lib.Math.min.name, Cond.static Lib.Math.min.name, Cond.initialized "java/lang/Math", Cond.code Lib.Math.min.name Lib.Math.min.code 2 (some .int), Cond.fieldLink RX3 63 "TrapMachine" "trapped" "Z", Cond.methodLink RX3 67 yX3_step, Cond.instanceMethod yX3_step, Cond.selects RX3 yX3_step yX3_step, Cond.code yX3_step cX3_step 1 none]
def wsL_law0_r7 : List Cond := [Cond.instanceMethod yX2_isAsked, Cond.selects RX2 yX2_isAsked yX2_isAsked, Cond.code yX2_isAsked cX2_isAsked 1 (some .boolean), Cond.instanceMethod yX2_isEnabled, Cond.selects RX2 yX2_isEnabled yX2_isEnabled, Cond.code yX2_isEnabled cX2_isEnabled 1 (some .boolean), Cond.methodLink RX3 92 yX3_raise, Cond.instanceMethod yX3_raise, Cond.selects RX3 yX3_raise yX3_raise, Cond.code yX3_raise cX3_raise 2 none, Cond.instanceMethod yX2_enter, Cond.selects RX2 yX2_enter yX2_enter, Cond.code yX2_enter cX2_enter 3 none, Cond.instanceMethod yX2_setDirect, Cond.selects RX2 yX2_setDirect yX2_setDirect, Cond.code yX2_setDirect cX2_setDirect 1 none, Cond.instanceMethod yX2_get, Cond.selects RX2 yX2_get yX2_get, Cond.code yX2_get cX2_get 2 (some .int), Cond.methodLink RX3 96 yX3_perform, Cond.instanceMethod yX3_perform, Cond.selects RX3 yX3_perform yX3_perform, Cond.code yX3_perform cX3_perform 4 none, Cond.methodLink RX3 102 yX3_find]
def wsL_law0_r8 : List Cond := [Cond.instanceMethod yX3_find, Cond.selects RX3 yX3_find yX3_find, Cond.code yX3_find cX3_find 4 (some .int), Cond.constant RX3 221 (268435455), Cond.instanceMethod yX2_isDirect, Cond.selects RX2 yX2_isDirect yX2_isDirect, Cond.code yX2_isDirect cX2_isDirect 1 (some .boolean), Cond.instanceMethod yX2_isInWindow, Cond.selects RX2 yX2_isInWindow yX2_isInWindow, Cond.code yX2_isInWindow cX2_isInWindow 4 (some .boolean), Cond.methodLink RX3 218 yX3_findMapped, Cond.instanceMethod yX3_findMapped, Cond.selects RX3 yX3_findMapped yX3_findMapped, Cond.code yX3_findMapped cX3_findMapped 8 (some .int), Cond.instanceMethod yX0_find, Cond.selects RX0 yX0_find yX0_find, Cond.code yX0_find cX0_find 7 (some .int), Cond.instanceMethod yX0_get, Cond.selects RX0 yX0_get yX0_get, Cond.code yX0_get cX0_get 3 (some .int), Cond.instanceMethod yX2_level, Cond.selects RX2 yX2_level yX2_level, Cond.code yX2_level cX2_level 1 (some .int), Cond.methodLink RX3 105 yX3_fail]
def wsL_law0_r9 : List Cond := [Cond.instanceMethod yX3_fail, Cond.selects RX3 yX3_fail yX3_fail, Cond.code yX3_fail cX3_fail 4 none, Cond.instanceMethod yX2_set, Cond.selects RX2 yX2_set yX2_set, Cond.code yX2_set cX2_set 3 none, Cond.methodLink RX3 111 yX3_calculate, Cond.instanceMethod yX3_calculate, Cond.selects RX3 yX3_calculate yX3_calculate, Cond.code yX3_calculate cX3_calculate 3 none, Cond.methodLink RX3 142 yX3_result, Cond.instanceMethod yX3_result, Cond.selects RX3 yX3_result yX3_result, Cond.code yX3_result cX3_result 5 (some .int), Cond.constant RX3 157 (65536), Cond.methodLink RX3 148 yX3_valueB, Cond.instanceMethod yX3_valueB, Cond.selects RX3 yX3_valueB yX3_valueB, Cond.code yX3_valueB cX3_valueB 2 (some .int), Cond.methodLink RX3 151 yX3_valueC, Cond.instanceMethod yX3_valueC, Cond.selects RX3 yX3_valueC yX3_valueC, Cond.code yX3_valueC cX3_valueC 2 (some .int), Cond.methodLink RX3 154 yX3_imm]
def wsL_law0_r10 : List Cond := [Cond.static yX3_imm, Cond.code yX3_imm cX3_imm 1 (some .int), Cond.methodLink RX3 158 yX3_byteB, Cond.static yX3_byteB, Cond.code yX3_byteB cX3_byteB 1 (some .int), Cond.methodLink RX3 161 yX3_byteC, Cond.static yX3_byteC, Cond.code yX3_byteC cX3_byteC 1 (some .int), Cond.methodLink RX3 145 yX3_setA, Cond.instanceMethod yX3_setA, Cond.selects RX3 yX3_setA yX3_setA, Cond.code yX3_setA cX3_setA 4 none, Cond.methodLink RX3 114 yX3_loadWord, Cond.instanceMethod yX3_loadWord, Cond.selects RX3 yX3_loadWord yX3_loadWord, Cond.code yX3_loadWord cX3_loadWord 5 none, Cond.fieldLink RX3 72 "TrapMachine" "linked" "Z", Cond.methodLink RX3 117 yX3_storeWord, Cond.instanceMethod yX3_storeWord, Cond.selects RX3 yX3_storeWord yX3_storeWord, Cond.code yX3_storeWord cX3_storeWord 5 none, Cond.methodLink RX3 164 yX3_valueA, Cond.instanceMethod yX3_valueA, Cond.selects RX3 yX3_valueA yX3_valueA]
def wsL_law0_r11 : List Cond := [Cond.code yX3_valueA cX3_valueA 2 (some .int), Cond.methodLink RX3 120 yX3_branch, Cond.instanceMethod yX3_branch, Cond.selects RX3 yX3_branch yX3_branch, Cond.code yX3_branch cX3_branch 5 none, Cond.methodLink RX3 167 yX3_holds, Cond.static yX3_holds, Cond.code yX3_holds cX3_holds 3 (some .boolean), Cond.methodLink RX3 123 yX3_performPrivileged, Cond.instanceMethod yX3_performPrivileged, Cond.selects RX3 yX3_performPrivileged yX3_performPrivileged, Cond.code yX3_performPrivileged cX3_performPrivileged 3 none, Cond.methodLink RX3 130 yX3_useControl, Cond.instanceMethod yX3_useControl, Cond.selects RX3 yX3_useControl yX3_useControl, Cond.code yX3_useControl cX3_useControl 5 none, Cond.instanceMethod yX2_write, Cond.selects RX2 yX2_write yX2_write, Cond.code yX2_write cX2_write 6 none, Cond.fieldLink RX2 15 "TrapMachine$Controls" "COUNTING" "[I", Cond.fieldLink RX2 18 "TrapMachine$Controls" "LEVEL_BITS" "[I", Cond.constant RX2 21 (65532), Cond.methodLink RX3 133 yX3_useBuffer, Cond.instanceMethod yX3_useBuffer]
def wsL_law0_r12 : List Cond := [Cond.selects RX3 yX3_useBuffer yX3_useBuffer, Cond.code yX3_useBuffer cX3_useBuffer 3 none, Cond.methodLink RX3 178 yX3_searchEntry, Cond.instanceMethod yX3_searchEntry, Cond.selects RX3 yX3_searchEntry yX3_searchEntry, Cond.code yX3_searchEntry cX3_searchEntry 3 none, Cond.instanceMethod yX2_setEmpty, Cond.selects RX2 yX2_setEmpty yX2_setEmpty, Cond.code yX2_setEmpty cX2_setEmpty 2 none, Cond.constant RX2 23 (2147483647), Cond.constant RX2 22 (-2147483648), Cond.methodLink RX3 181 yX3_readEntry, Cond.instanceMethod yX3_readEntry, Cond.selects RX3 yX3_readEntry yX3_readEntry, Cond.code yX3_readEntry cX3_readEntry 4 none, Cond.methodLink RX3 184 yX3_writeEntry, Cond.instanceMethod yX3_writeEntry, Cond.selects RX3 yX3_writeEntry yX3_writeEntry, Cond.code yX3_writeEntry cX3_writeEntry 3 none, Cond.instanceMethod yX2_isEmpty, Cond.selects RX2 yX2_isEmpty yX2_isEmpty, Cond.code yX2_isEmpty cX2_isEmpty 1 (some .boolean), Cond.instanceMethod yX2_code, Cond.selects RX2 yX2_code yX2_code]
def wsL_law0_r13 : List Cond := [Cond.code yX2_code cX2_code 1 (some .int), Cond.instanceMethod yX0_set, Cond.selects RX0 yX0_set yX0_set, Cond.code yX0_set cX0_set 5 none, Cond.instanceMethod yX0_setHalves, Cond.selects RX0 yX0_setHalves yX0_setHalves, Cond.code yX0_setHalves cX0_setHalves 4 none, Cond.methodLink RX3 136 yX3_emptyEntries, Cond.instanceMethod yX3_emptyEntries, Cond.selects RX3 yX3_emptyEntries yX3_emptyEntries, Cond.code yX3_emptyEntries cX3_emptyEntries 3 none, Cond.instanceMethod yX0_empty, Cond.selects RX0 yX0_empty yX0_empty, Cond.code yX0_empty cX0_empty 5 none, Cond.methodLink RX0 14 yX0_isOfKind, Cond.instanceMethod yX0_isOfKind, Cond.selects RX0 yX0_isOfKind yX0_isOfKind, Cond.code yX0_isOfKind cX0_isOfKind 7 (some .boolean), Cond.methodLink RX3 139 yX3_goBack, Cond.instanceMethod yX3_goBack, Cond.selects RX3 yX3_goBack yX3_goBack, Cond.code yX3_goBack cX3_goBack 1 none, Cond.instanceMethod yX2_leave, Cond.selects RX2 yX2_leave yX2_leave]
def wsL_law0_r14 : List Cond := [Cond.code yX2_leave cX2_leave 1 none, Cond.methodLink RX2 24 yX2_code, Cond.instanceMethod yX2_tick, Cond.selects RX2 yX2_tick yX2_tick, Cond.code yX2_tick cX2_tick 2 none, Cond.methodLink RL 67 yX4_run, Cond.instanceMethod yX4_run, Cond.selects RX4 yX4_run yX4_run, Cond.code yX4_run cX4_run 4 (some .int), Cond.fieldLink RX4 151 "TrapMachineModel" "raised" "Z", Cond.methodLink RX4 164 yX4_step, Cond.instanceMethod yX4_step, Cond.selects RX4 yX4_step yX4_step, Cond.code yX4_step cX4_step 3 none, Cond.fieldLink RX4 100 "TrapMachineModel" "next" "I", Cond.methodLink RX4 142 yX4_tick, Cond.instanceMethod yX4_tick, Cond.selects RX4 yX4_tick yX4_tick, Cond.code yX4_tick cX4_tick 1 none, Cond.constant RX4 82 (65532), Cond.methodLink RX4 55 yX4_with, Cond.instanceMethod yX4_with, Cond.selects RX4 yX4_with yX4_with, Cond.code yX4_with cX4_with 4 (some .int)]
def wsL_law0_r15 : List Cond := [Cond.fieldLink RX4 45 "TrapMachineModel" "brings" "I", Cond.fieldLink RX4 48 "TrapMachineModel" "broughtAt" "I", Cond.methodLink RX4 145 yX4_instruction, Cond.instanceMethod yX4_instruction, Cond.selects RX4 yX4_instruction yX4_instruction, Cond.code yX4_instruction cX4_instruction 8 (some .int), Cond.fieldLink RX4 68 "TrapMachineModel" "found" "I", Cond.methodLink RX4 97 yX4_lookUp, Cond.instanceMethod yX4_lookUp, Cond.selects RX4 yX4_lookUp yX4_lookUp, Cond.code yX4_lookUp cX4_lookUp 6 (some .int), Cond.constant RX4 63 (268435455), Cond.methodLink RX4 59 yX4_user, Cond.instanceMethod yX4_user, Cond.selects RX4 yX4_user yX4_user, Cond.code yX4_user cX4_user 1 (some .boolean), Cond.methodLink RX4 64 yX4_map, Cond.instanceMethod yX4_map, Cond.selects RX4 yX4_map yX4_map, Cond.code yX4_map cX4_map 7 (some .int), Cond.methodLink RX4 75 yX4_pairOf, Cond.static yX4_pairOf, Cond.code yX4_pairOf cX4_pairOf 1 (some .int), Cond.methodLink RX4 79 yX4_fits]
def wsL_law0_r16 : List Cond := [Cond.instanceMethod yX4_fits, Cond.selects RX4 yX4_fits yX4_fits, Cond.code yX4_fits cX4_fits 4 (some .boolean), Cond.methodLink RX4 130 yX4_reckon, Cond.instanceMethod yX4_reckon, Cond.selects RX4 yX4_reckon yX4_reckon, Cond.code yX4_reckon cX4_reckon 7 (some .int), Cond.constant RX4 88 (65536), Cond.methodLink RX4 93 yX4_put, Cond.instanceMethod yX4_put, Cond.selects RX4 yX4_put yX4_put, Cond.code yX4_put cX4_put 3 none, Cond.methodLink RX4 133 yX4_reach, Cond.instanceMethod yX4_reach, Cond.selects RX4 yX4_reach yX4_reach, Cond.code yX4_reach cX4_reach 6 (some .int), Cond.fieldLink RX4 89 "TrapMachineModel" "link" "Z", Cond.methodLink RX4 136 yX4_go, Cond.instanceMethod yX4_go, Cond.selects RX4 yX4_go yX4_go, Cond.code yX4_go cX4_go 8 (some .int), Cond.methodLink RX4 139 yX4_govern, Cond.instanceMethod yX4_govern, Cond.selects RX4 yX4_govern yX4_govern]
def wsL_law0_r17 : List Cond := [Cond.code yX4_govern cX4_govern 5 (some .int), Cond.methodLink RX4 107 yX4_controls, Cond.instanceMethod yX4_controls, Cond.selects RX4 yX4_controls yX4_controls, Cond.code yX4_controls cX4_controls 6 (some .int), Cond.methodLink RX4 103 yX4_write, Cond.instanceMethod yX4_write, Cond.selects RX4 yX4_write yX4_write, Cond.code yX4_write cX4_write 5 none, Cond.methodLink RX4 111 yX4_empty, Cond.instanceMethod yX4_empty, Cond.selects RX4 yX4_empty yX4_empty, Cond.code yX4_empty cX4_empty 6 (some .int), Cond.methodLink RX4 114 yX4_search, Cond.instanceMethod yX4_search, Cond.selects RX4 yX4_search yX4_search, Cond.code yX4_search cX4_search 3 none, Cond.constant RX4 83 (-2147483648), Cond.methodLink RX4 117 yX4_read, Cond.instanceMethod yX4_read, Cond.selects RX4 yX4_read yX4_read, Cond.code yX4_read cX4_read 3 none, Cond.methodLink RX4 121 yX4_fill, Cond.instanceMethod yX4_fill]
def wsL_law0_r18 : List Cond := [Cond.selects RX4 yX4_fill yX4_fill, Cond.code yX4_fill cX4_fill 2 none, Cond.methodLink RX4 84 yX4_codeOf, Cond.instanceMethod yX4_codeOf, Cond.selects RX4 yX4_codeOf yX4_codeOf, Cond.code yX4_codeOf cX4_codeOf 1 (some .int), Cond.methodLink RX4 154 yX4_enter, Cond.instanceMethod yX4_enter, Cond.selects RX4 yX4_enter yX4_enter, Cond.code yX4_enter cX4_enter 3 none, Cond.constant RX4 54 (-4128769), Cond.methodLink RL 68 yX3_state, Cond.instanceMethod yX3_state, Cond.selects RX3 yX3_state yX3_state, Cond.code yX3_state cX3_state 1 (some .int), Cond.methodLink RL 71 yX4_state, Cond.instanceMethod yX4_state, Cond.selects RX4 yX4_state yX4_state, Cond.code yX4_state cX4_state 1 (some .int), Cond.methodLink RL 72 yL_register, Cond.static yL_register, Cond.codeWith yL_register cL_register 4 (some .int) [(0, 9, 12, 13)], Cond.methodLink RL 23 yX3_register, Cond.instanceMethod yX3_register]
def wsL_law0_r19 : List Cond := [Cond.selects RX3 yX3_register yX3_register, Cond.code yX3_register cX3_register 2 (some .int), Cond.methodLink RL 74 yX4_register, Cond.instanceMethod yX4_register, Cond.selects RX4 yX4_register yX4_register, Cond.code yX4_register cX4_register 2 (some .int), Cond.methodLink RL 75 yL_control, Cond.static yL_control, Cond.codeWith yL_control cL_control 4 (some .int) [(0, 9, 12, 13)], Cond.methodLink RL 26 yX3_control, Cond.instanceMethod yX3_control, Cond.selects RX3 yX3_control yX3_control, Cond.code yX3_control cX3_control 2 (some .int), Cond.methodLink RL 77 yX4_control, Cond.instanceMethod yX4_control, Cond.selects RX4 yX4_control yX4_control, Cond.code yX4_control cX4_control 2 (some .int), Cond.methodLink RL 78 yL_entry, Cond.static yL_entry, Cond.codeWith yL_entry cL_entry 5 (some .int) [(0, 10, 13, 13)], Cond.methodLink RL 29 yX3_entry, Cond.instanceMethod yX3_entry, Cond.selects RX3 yX3_entry yX3_entry, Cond.code yX3_entry cX3_entry 3 (some .int)]
def wsL_law0_r20 : List Cond := [Cond.methodLink RL 81 yX4_entry, Cond.instanceMethod yX4_entry, Cond.selects RX4 yX4_entry yX4_entry, Cond.code yX4_entry cX4_entry 3 (some .int)]
def wsL_law0 : List Cond := (wsL_law0_r1 ++ (wsL_law0_r2 ++ (wsL_law0_r3 ++ (wsL_law0_r4 ++ (wsL_law0_r5 ++ (wsL_law0_r6 ++ (wsL_law0_r7 ++ (wsL_law0_r8 ++ (wsL_law0_r9 ++ (wsL_law0_r10 ++ (wsL_law0_r11 ++ (wsL_law0_r12 ++ (wsL_law0_r13 ++ (wsL_law0_r14 ++ (wsL_law0_r15 ++ (wsL_law0_r16 ++ (wsL_law0_r17 ++ (wsL_law0_r18 ++ (wsL_law0_r19 ++ wsL_law0_r20))))))))))))))))))) ++ wsX30 ++ wsX40 ++ wsX20 ++ wsX00 ++ ([] : List Cond)
def wsL_law : List Cond := wsL_law0 ++ (vx_atS RX3 42 "java/lang/IllegalArgumentException" ["java/lang/RuntimeException", "java/lang/Exception"]).filter goodWord
abbrev vwCl : List vw_C := [(RX0, TX0, 1), (RX2, TX2, 1), (RX3, TX3, 9), (RX4, TX4, 20)]
end
section
theorem dX0_init_0 : decode cX0_init 0 = .ok (.aload_n 0, 1) := by decide +kernel
theorem dX0_init_1 : decode cX0_init 1 = .ok (.invokespecial 1, 3) := by decide +kernel
theorem dX0_init_4 : decode cX0_init 4 = .ok (.aload_n 0, 1) := by decide +kernel
theorem dX0_init_5 : decode cX0_init 5 = .ok (.iconst 4, 1) := by decide +kernel
theorem dX0_init_6 : decode cX0_init 6 = .ok (.bipush 6, 2) := by decide +kernel
theorem dX0_init_8 : decode cX0_init 8 = .ok (.multianewarray 9 2, 4) := by decide +kernel
theorem dX0_init_12 : decode cX0_init 12 = .ok (.putfield 11, 3) := by decide +kernel
theorem dX0_init_15 : decode cX0_init 15 = .ok (.return_, 1) := by decide +kernel
theorem dX0_get_0 : decode cX0_get 0 = .ok (.aload_n 0, 1) := by decide +kernel
theorem dX0_get_1 : decode cX0_get 1 = .ok (.getfield 11, 3) := by decide +kernel
theorem dX0_get_4 : decode cX0_get 4 = .ok (.iload_n 1, 1) := by decide +kernel
theorem dX0_get_5 : decode cX0_get 5 = .ok (.aaload, 1) := by decide +kernel
theorem dX0_get_6 : decode cX0_get 6 = .ok (.iload_n 2, 1) := by decide +kernel
theorem dX0_get_7 : decode cX0_get 7 = .ok (.iaload, 1) := by decide +kernel
theorem dX0_get_8 : decode cX0_get 8 = .ok (.ireturn, 1) := by decide +kernel
theorem dX0_set_0 : decode cX0_set 0 = .ok (.aload_n 0, 1) := by decide +kernel
theorem dX0_set_1 : decode cX0_set 1 = .ok (.getfield 11, 3) := by decide +kernel
theorem dX0_set_4 : decode cX0_set 4 = .ok (.iload_n 1, 1) := by decide +kernel
theorem dX0_set_5 : decode cX0_set 5 = .ok (.aaload, 1) := by decide +kernel
theorem dX0_set_6 : decode cX0_set 6 = .ok (.iconst 0, 1) := by decide +kernel
theorem dX0_set_7 : decode cX0_set 7 = .ok (.iload_n 2, 1) := by decide +kernel
theorem dX0_set_8 : decode cX0_set 8 = .ok (.ifCond .eq 7, 3) := by decide +kernel
theorem dX0_set_11 : decode cX0_set 11 = .ok (.iconst 1, 1) := by decide +kernel
theorem dX0_set_12 : decode cX0_set 12 = .ok (.goto 4, 3) := by decide +kernel
theorem dX0_set_15 : decode cX0_set 15 = .ok (.iconst 0, 1) := by decide +kernel
theorem dX0_set_16 : decode cX0_set 16 = .ok (.iastore, 1) := by decide +kernel
theorem dX0_set_17 : decode cX0_set 17 = .ok (.aload_n 0, 1) := by decide +kernel
theorem dX0_set_18 : decode cX0_set 18 = .ok (.getfield 11, 3) := by decide +kernel
theorem dX0_set_21 : decode cX0_set 21 = .ok (.iload_n 1, 1) := by decide +kernel
theorem dX0_set_22 : decode cX0_set 22 = .ok (.aaload, 1) := by decide +kernel
theorem dX0_set_23 : decode cX0_set 23 = .ok (.iconst 1, 1) := by decide +kernel
theorem dX0_set_24 : decode cX0_set 24 = .ok (.iload_n 3, 1) := by decide +kernel
theorem dX0_set_25 : decode cX0_set 25 = .ok (.iastore, 1) := by decide +kernel
theorem dX0_set_26 : decode cX0_set 26 = .ok (.aload_n 0, 1) := by decide +kernel
theorem dX0_set_27 : decode cX0_set 27 = .ok (.getfield 11, 3) := by decide +kernel
theorem dX0_set_30 : decode cX0_set 30 = .ok (.iload_n 1, 1) := by decide +kernel
theorem dX0_set_31 : decode cX0_set 31 = .ok (.aaload, 1) := by decide +kernel
theorem dX0_set_32 : decode cX0_set 32 = .ok (.iconst 2, 1) := by decide +kernel
theorem dX0_set_33 : decode cX0_set 33 = .ok (.iload 4, 2) := by decide +kernel
theorem dX0_set_35 : decode cX0_set 35 = .ok (.iastore, 1) := by decide +kernel
theorem dX0_set_36 : decode cX0_set 36 = .ok (.return_, 1) := by decide +kernel
theorem dX0_setHalves_0 : decode cX0_setHalves 0 = .ok (.aload_n 0, 1) := by decide +kernel
theorem dX0_setHalves_1 : decode cX0_setHalves 1 = .ok (.getfield 11, 3) := by decide +kernel
theorem dX0_setHalves_4 : decode cX0_setHalves 4 = .ok (.iload_n 1, 1) := by decide +kernel
theorem dX0_setHalves_5 : decode cX0_setHalves 5 = .ok (.aaload, 1) := by decide +kernel
theorem dX0_setHalves_6 : decode cX0_setHalves 6 = .ok (.iconst 3, 1) := by decide +kernel
theorem dX0_setHalves_7 : decode cX0_setHalves 7 = .ok (.iload_n 2, 1) := by decide +kernel
theorem dX0_setHalves_8 : decode cX0_setHalves 8 = .ok (.iload_n 3, 1) := by decide +kernel
theorem dX0_setHalves_9 : decode cX0_setHalves 9 = .ok (.iand, 1) := by decide +kernel
theorem dX0_setHalves_10 : decode cX0_setHalves 10 = .ok (.bipush 16, 2) := by decide +kernel
theorem dX0_setHalves_12 : decode cX0_setHalves 12 = .ok (.iand, 1) := by decide +kernel
theorem dX0_setHalves_13 : decode cX0_setHalves 13 = .ok (.ifCond .eq 7, 3) := by decide +kernel
theorem dX0_setHalves_16 : decode cX0_setHalves 16 = .ok (.iconst 1, 1) := by decide +kernel
theorem dX0_setHalves_17 : decode cX0_setHalves 17 = .ok (.goto 4, 3) := by decide +kernel
theorem dX0_setHalves_20 : decode cX0_setHalves 20 = .ok (.iconst 0, 1) := by decide +kernel
theorem dX0_setHalves_21 : decode cX0_setHalves 21 = .ok (.iastore, 1) := by decide +kernel
theorem dX0_setHalves_22 : decode cX0_setHalves 22 = .ok (.aload_n 0, 1) := by decide +kernel
theorem dX0_setHalves_23 : decode cX0_setHalves 23 = .ok (.getfield 11, 3) := by decide +kernel
theorem dX0_setHalves_26 : decode cX0_setHalves 26 = .ok (.iload_n 1, 1) := by decide +kernel
theorem dX0_setHalves_27 : decode cX0_setHalves 27 = .ok (.aaload, 1) := by decide +kernel
theorem dX0_setHalves_28 : decode cX0_setHalves 28 = .ok (.iconst 4, 1) := by decide +kernel
theorem dX0_setHalves_29 : decode cX0_setHalves 29 = .ok (.iload_n 2, 1) := by decide +kernel
theorem dX0_setHalves_30 : decode cX0_setHalves 30 = .ok (.bipush (-17), 2) := by decide +kernel
theorem dX0_setHalves_32 : decode cX0_setHalves 32 = .ok (.iand, 1) := by decide +kernel
theorem dX0_setHalves_33 : decode cX0_setHalves 33 = .ok (.iastore, 1) := by decide +kernel
theorem dX0_setHalves_34 : decode cX0_setHalves 34 = .ok (.aload_n 0, 1) := by decide +kernel
theorem dX0_setHalves_35 : decode cX0_setHalves 35 = .ok (.getfield 11, 3) := by decide +kernel
theorem dX0_setHalves_38 : decode cX0_setHalves 38 = .ok (.iload_n 1, 1) := by decide +kernel
theorem dX0_setHalves_39 : decode cX0_setHalves 39 = .ok (.aaload, 1) := by decide +kernel
theorem dX0_setHalves_40 : decode cX0_setHalves 40 = .ok (.iconst 5, 1) := by decide +kernel
theorem dX0_setHalves_41 : decode cX0_setHalves 41 = .ok (.iload_n 3, 1) := by decide +kernel
theorem dX0_setHalves_42 : decode cX0_setHalves 42 = .ok (.bipush (-17), 2) := by decide +kernel
theorem dX0_setHalves_44 : decode cX0_setHalves 44 = .ok (.iand, 1) := by decide +kernel
theorem dX0_setHalves_45 : decode cX0_setHalves 45 = .ok (.iastore, 1) := by decide +kernel
theorem dX0_setHalves_46 : decode cX0_setHalves 46 = .ok (.return_, 1) := by decide +kernel
theorem dX0_find_0 : decode cX0_find 0 = .ok (.iload_n 3, 1) := by decide +kernel
theorem dX0_find_1 : decode cX0_find 1 = .ok (.istore 4, 2) := by decide +kernel
theorem dX0_find_3 : decode cX0_find 3 = .ok (.iload 4, 2) := by decide +kernel
theorem dX0_find_5 : decode cX0_find 5 = .ok (.iconst 3, 1) := by decide +kernel
theorem dX0_find_6 : decode cX0_find 6 = .ok (.if_icmp .gt 65, 3) := by decide +kernel
theorem dX0_find_9 : decode cX0_find 9 = .ok (.aload_n 0, 1) := by decide +kernel
theorem dX0_find_10 : decode cX0_find 10 = .ok (.getfield 11, 3) := by decide +kernel
theorem dX0_find_13 : decode cX0_find 13 = .ok (.iload 4, 2) := by decide +kernel
theorem dX0_find_15 : decode cX0_find 15 = .ok (.aaload, 1) := by decide +kernel
theorem dX0_find_16 : decode cX0_find 16 = .ok (.astore 5, 2) := by decide +kernel
theorem dX0_find_18 : decode cX0_find 18 = .ok (.aload 5, 2) := by decide +kernel
theorem dX0_find_20 : decode cX0_find 20 = .ok (.iconst 3, 1) := by decide +kernel
theorem dX0_find_21 : decode cX0_find 21 = .ok (.iaload, 1) := by decide +kernel
theorem dX0_find_22 : decode cX0_find 22 = .ok (.iconst 1, 1) := by decide +kernel
theorem dX0_find_23 : decode cX0_find 23 = .ok (.if_icmp .eq 11, 3) := by decide +kernel
theorem dX0_find_26 : decode cX0_find 26 = .ok (.aload 5, 2) := by decide +kernel
theorem dX0_find_28 : decode cX0_find 28 = .ok (.iconst 2, 1) := by decide +kernel
theorem dX0_find_29 : decode cX0_find 29 = .ok (.iaload, 1) := by decide +kernel
theorem dX0_find_30 : decode cX0_find 30 = .ok (.iload_n 2, 1) := by decide +kernel
theorem dX0_find_31 : decode cX0_find 31 = .ok (.if_icmp .ne 7, 3) := by decide +kernel
theorem dX0_find_34 : decode cX0_find 34 = .ok (.iconst 1, 1) := by decide +kernel
theorem dX0_find_35 : decode cX0_find 35 = .ok (.goto 4, 3) := by decide +kernel
theorem dX0_find_38 : decode cX0_find 38 = .ok (.iconst 0, 1) := by decide +kernel
theorem dX0_find_39 : decode cX0_find 39 = .ok (.istore 6, 2) := by decide +kernel
theorem dX0_find_41 : decode cX0_find 41 = .ok (.aload 5, 2) := by decide +kernel
theorem dX0_find_43 : decode cX0_find 43 = .ok (.iconst 0, 1) := by decide +kernel
theorem dX0_find_44 : decode cX0_find 44 = .ok (.iaload, 1) := by decide +kernel
theorem dX0_find_45 : decode cX0_find 45 = .ok (.iconst 1, 1) := by decide +kernel
theorem dX0_find_46 : decode cX0_find 46 = .ok (.if_icmp .ne 19, 3) := by decide +kernel
theorem dX0_find_49 : decode cX0_find 49 = .ok (.aload 5, 2) := by decide +kernel
theorem dX0_find_51 : decode cX0_find 51 = .ok (.iconst 1, 1) := by decide +kernel
theorem dX0_find_52 : decode cX0_find 52 = .ok (.iaload, 1) := by decide +kernel
theorem dX0_find_53 : decode cX0_find 53 = .ok (.iload_n 1, 1) := by decide +kernel
theorem dX0_find_54 : decode cX0_find 54 = .ok (.if_icmp .ne 11, 3) := by decide +kernel
theorem dX0_find_57 : decode cX0_find 57 = .ok (.iload 6, 2) := by decide +kernel
theorem dX0_find_59 : decode cX0_find 59 = .ok (.ifCond .eq 6, 3) := by decide +kernel
theorem dX0_find_62 : decode cX0_find 62 = .ok (.iload 4, 2) := by decide +kernel
theorem dX0_find_64 : decode cX0_find 64 = .ok (.ireturn, 1) := by decide +kernel
theorem dX0_find_65 : decode cX0_find 65 = .ok (.iinc 4 1, 3) := by decide +kernel
theorem dX0_find_68 : decode cX0_find 68 = .ok (.goto (-65), 3) := by decide +kernel
theorem dX0_find_71 : decode cX0_find 71 = .ok (.iconst (-1), 1) := by decide +kernel
theorem dX0_find_72 : decode cX0_find 72 = .ok (.ireturn, 1) := by decide +kernel
set_option maxRecDepth 20000 in
theorem ggX0_empty_X0_isOfKind : GoodIn wsX0_empty wsX0_isOfKind := goodIn_r _ [6, 1, 7] (by decide +kernel) (by decide +kernel)
set_option maxRecDepth 20000 in
theorem gX0_empty_X0_isOfKind : GoodIn wsX0_empty (wsV RX0 14 RX0 yX0_isOfKind wsX0_isOfKind) := goodIn_app (goodIn_of _ (by decide +kernel)) ggX0_empty_X0_isOfKind
theorem dX0_empty_0 : decode cX0_empty 0 = .ok (.iconst 0, 1) := by decide +kernel
theorem dX0_empty_1 : decode cX0_empty 1 = .ok (.istore 4, 2) := by decide +kernel
theorem dX0_empty_3 : decode cX0_empty 3 = .ok (.iload 4, 2) := by decide +kernel
theorem dX0_empty_5 : decode cX0_empty 5 = .ok (.iconst 3, 1) := by decide +kernel
theorem dX0_empty_6 : decode cX0_empty 6 = .ok (.if_icmp .gt 31, 3) := by decide +kernel
theorem dX0_empty_9 : decode cX0_empty 9 = .ok (.aload_n 0, 1) := by decide +kernel
theorem dX0_empty_10 : decode cX0_empty 10 = .ok (.iload 4, 2) := by decide +kernel
theorem dX0_empty_12 : decode cX0_empty 12 = .ok (.iload_n 1, 1) := by decide +kernel
theorem dX0_empty_13 : decode cX0_empty 13 = .ok (.iload_n 2, 1) := by decide +kernel
theorem dX0_empty_14 : decode cX0_empty 14 = .ok (.iload_n 3, 1) := by decide +kernel
theorem dX0_empty_15 : decode cX0_empty 15 = .ok (.invokevirtual 14, 3) := by decide +kernel
theorem dX0_empty_18 : decode cX0_empty 18 = .ok (.ifCond .eq 13, 3) := by decide +kernel
theorem dX0_empty_21 : decode cX0_empty 21 = .ok (.aload_n 0, 1) := by decide +kernel
theorem dX0_empty_22 : decode cX0_empty 22 = .ok (.getfield 11, 3) := by decide +kernel
theorem dX0_empty_25 : decode cX0_empty 25 = .ok (.iload 4, 2) := by decide +kernel
theorem dX0_empty_27 : decode cX0_empty 27 = .ok (.aaload, 1) := by decide +kernel
theorem dX0_empty_28 : decode cX0_empty 28 = .ok (.iconst 0, 1) := by decide +kernel
theorem dX0_empty_29 : decode cX0_empty 29 = .ok (.iconst 0, 1) := by decide +kernel
theorem dX0_empty_30 : decode cX0_empty 30 = .ok (.iastore, 1) := by decide +kernel
theorem dX0_empty_31 : decode cX0_empty 31 = .ok (.iinc 4 1, 3) := by decide +kernel
theorem dX0_empty_34 : decode cX0_empty 34 = .ok (.goto (-31), 3) := by decide +kernel
theorem dX0_empty_37 : decode cX0_empty 37 = .ok (.return_, 1) := by decide +kernel
theorem dX0_isOfKind_0 : decode cX0_isOfKind 0 = .ok (.aload_n 0, 1) := by decide +kernel
theorem dX0_isOfKind_1 : decode cX0_isOfKind 1 = .ok (.getfield 11, 3) := by decide +kernel
theorem dX0_isOfKind_4 : decode cX0_isOfKind 4 = .ok (.iload_n 1, 1) := by decide +kernel
theorem dX0_isOfKind_5 : decode cX0_isOfKind 5 = .ok (.aaload, 1) := by decide +kernel
theorem dX0_isOfKind_6 : decode cX0_isOfKind 6 = .ok (.iconst 3, 1) := by decide +kernel
theorem dX0_isOfKind_7 : decode cX0_isOfKind 7 = .ok (.iaload, 1) := by decide +kernel
theorem dX0_isOfKind_8 : decode cX0_isOfKind 8 = .ok (.iconst 1, 1) := by decide +kernel
theorem dX0_isOfKind_9 : decode cX0_isOfKind 9 = .ok (.if_icmp .ne 7, 3) := by decide +kernel
theorem dX0_isOfKind_12 : decode cX0_isOfKind 12 = .ok (.iconst 1, 1) := by decide +kernel
theorem dX0_isOfKind_13 : decode cX0_isOfKind 13 = .ok (.goto 4, 3) := by decide +kernel
theorem dX0_isOfKind_16 : decode cX0_isOfKind 16 = .ok (.iconst 0, 1) := by decide +kernel
theorem dX0_isOfKind_17 : decode cX0_isOfKind 17 = .ok (.istore 5, 2) := by decide +kernel
theorem dX0_isOfKind_19 : decode cX0_isOfKind 19 = .ok (.aload_n 0, 1) := by decide +kernel
theorem dX0_isOfKind_20 : decode cX0_isOfKind 20 = .ok (.getfield 11, 3) := by decide +kernel
theorem dX0_isOfKind_23 : decode cX0_isOfKind 23 = .ok (.iload_n 1, 1) := by decide +kernel
theorem dX0_isOfKind_24 : decode cX0_isOfKind 24 = .ok (.aaload, 1) := by decide +kernel
theorem dX0_isOfKind_25 : decode cX0_isOfKind 25 = .ok (.iconst 2, 1) := by decide +kernel
theorem dX0_isOfKind_26 : decode cX0_isOfKind 26 = .ok (.iaload, 1) := by decide +kernel
theorem dX0_isOfKind_27 : decode cX0_isOfKind 27 = .ok (.iload_n 3, 1) := by decide +kernel
theorem dX0_isOfKind_28 : decode cX0_isOfKind 28 = .ok (.if_icmp .ne 7, 3) := by decide +kernel
theorem dX0_isOfKind_31 : decode cX0_isOfKind 31 = .ok (.iconst 1, 1) := by decide +kernel
theorem dX0_isOfKind_32 : decode cX0_isOfKind 32 = .ok (.goto 4, 3) := by decide +kernel
theorem dX0_isOfKind_35 : decode cX0_isOfKind 35 = .ok (.iconst 0, 1) := by decide +kernel
theorem dX0_isOfKind_36 : decode cX0_isOfKind 36 = .ok (.istore 6, 2) := by decide +kernel
theorem dX0_isOfKind_38 : decode cX0_isOfKind 38 = .ok (.iload_n 2, 1) := by decide +kernel
theorem dX0_isOfKind_39 : decode cX0_isOfKind 39 = .ok (.tableswitch 61 0 3 #[29, 31, 34, 45], 29) := by decide +kernel
theorem dX0_isOfKind_68 : decode cX0_isOfKind 68 = .ok (.iconst 1, 1) := by decide +kernel
theorem dX0_isOfKind_69 : decode cX0_isOfKind 69 = .ok (.ireturn, 1) := by decide +kernel
theorem dX0_isOfKind_70 : decode cX0_isOfKind 70 = .ok (.iload 5, 2) := by decide +kernel
theorem dX0_isOfKind_72 : decode cX0_isOfKind 72 = .ok (.ireturn, 1) := by decide +kernel
theorem dX0_isOfKind_73 : decode cX0_isOfKind 73 = .ok (.iload 5, 2) := by decide +kernel
theorem dX0_isOfKind_75 : decode cX0_isOfKind 75 = .ok (.ifCond .ne 7, 3) := by decide +kernel
theorem dX0_isOfKind_78 : decode cX0_isOfKind 78 = .ok (.iconst 1, 1) := by decide +kernel
theorem dX0_isOfKind_79 : decode cX0_isOfKind 79 = .ok (.goto 4, 3) := by decide +kernel
theorem dX0_isOfKind_82 : decode cX0_isOfKind 82 = .ok (.iconst 0, 1) := by decide +kernel
theorem dX0_isOfKind_83 : decode cX0_isOfKind 83 = .ok (.ireturn, 1) := by decide +kernel
theorem dX0_isOfKind_84 : decode cX0_isOfKind 84 = .ok (.iload 5, 2) := by decide +kernel
theorem dX0_isOfKind_86 : decode cX0_isOfKind 86 = .ok (.ifCond .ne 12, 3) := by decide +kernel
theorem dX0_isOfKind_89 : decode cX0_isOfKind 89 = .ok (.iload 6, 2) := by decide +kernel
theorem dX0_isOfKind_91 : decode cX0_isOfKind 91 = .ok (.ifCond .eq 7, 3) := by decide +kernel
theorem dX0_isOfKind_94 : decode cX0_isOfKind 94 = .ok (.iconst 1, 1) := by decide +kernel
theorem dX0_isOfKind_95 : decode cX0_isOfKind 95 = .ok (.goto 4, 3) := by decide +kernel
theorem dX0_isOfKind_98 : decode cX0_isOfKind 98 = .ok (.iconst 0, 1) := by decide +kernel
theorem dX0_isOfKind_99 : decode cX0_isOfKind 99 = .ok (.ireturn, 1) := by decide +kernel
theorem dX0_isOfKind_100 : decode cX0_isOfKind 100 = .ok (.iload 5, 2) := by decide +kernel
theorem dX0_isOfKind_102 : decode cX0_isOfKind 102 = .ok (.ifCond .ne 25, 3) := by decide +kernel
theorem dX0_isOfKind_105 : decode cX0_isOfKind 105 = .ok (.iload 6, 2) := by decide +kernel
theorem dX0_isOfKind_107 : decode cX0_isOfKind 107 = .ok (.ifCond .eq 20, 3) := by decide +kernel
theorem dX0_isOfKind_110 : decode cX0_isOfKind 110 = .ok (.aload_n 0, 1) := by decide +kernel
theorem dX0_isOfKind_111 : decode cX0_isOfKind 111 = .ok (.getfield 11, 3) := by decide +kernel
theorem dX0_isOfKind_114 : decode cX0_isOfKind 114 = .ok (.iload_n 1, 1) := by decide +kernel
theorem dX0_isOfKind_115 : decode cX0_isOfKind 115 = .ok (.aaload, 1) := by decide +kernel
theorem dX0_isOfKind_116 : decode cX0_isOfKind 116 = .ok (.iconst 1, 1) := by decide +kernel
theorem dX0_isOfKind_117 : decode cX0_isOfKind 117 = .ok (.iaload, 1) := by decide +kernel
theorem dX0_isOfKind_118 : decode cX0_isOfKind 118 = .ok (.iload 4, 2) := by decide +kernel
theorem dX0_isOfKind_120 : decode cX0_isOfKind 120 = .ok (.if_icmp .ne 7, 3) := by decide +kernel
theorem dX0_isOfKind_123 : decode cX0_isOfKind 123 = .ok (.iconst 1, 1) := by decide +kernel
theorem dX0_isOfKind_124 : decode cX0_isOfKind 124 = .ok (.goto 4, 3) := by decide +kernel
theorem dX0_isOfKind_127 : decode cX0_isOfKind 127 = .ok (.iconst 0, 1) := by decide +kernel
theorem dX0_isOfKind_128 : decode cX0_isOfKind 128 = .ok (.ireturn, 1) := by decide +kernel
theorem dX2_init_0 : decode cX2_init 0 = .ok (.aload_n 0, 1) := by decide +kernel
theorem dX2_init_1 : decode cX2_init 1 = .ok (.invokespecial 3, 3) := by decide +kernel
theorem dX2_init_4 : decode cX2_init 4 = .ok (.aload_n 0, 1) := by decide +kernel
theorem dX2_init_5 : decode cX2_init 5 = .ok (.bipush 18, 2) := by decide +kernel
theorem dX2_init_7 : decode cX2_init 7 = .ok (.newarray .int, 2) := by decide +kernel
theorem dX2_init_9 : decode cX2_init 9 = .ok (.putfield 11, 3) := by decide +kernel
theorem dX2_init_12 : decode cX2_init 12 = .ok (.aload_n 0, 1) := by decide +kernel
theorem dX2_init_13 : decode cX2_init 13 = .ok (.getfield 11, 3) := by decide +kernel
theorem dX2_init_16 : decode cX2_init 16 = .ok (.iconst 0, 1) := by decide +kernel
theorem dX2_init_17 : decode cX2_init 17 = .ok (.bipush 8, 2) := by decide +kernel
theorem dX2_init_19 : decode cX2_init 19 = .ok (.iastore, 1) := by decide +kernel
theorem dX2_init_20 : decode cX2_init 20 = .ok (.return_, 1) := by decide +kernel
theorem dX2_get_0 : decode cX2_get 0 = .ok (.aload_n 0, 1) := by decide +kernel
theorem dX2_get_1 : decode cX2_get 1 = .ok (.getfield 11, 3) := by decide +kernel
theorem dX2_get_4 : decode cX2_get 4 = .ok (.iload_n 1, 1) := by decide +kernel
theorem dX2_get_5 : decode cX2_get 5 = .ok (.iaload, 1) := by decide +kernel
theorem dX2_get_6 : decode cX2_get 6 = .ok (.ireturn, 1) := by decide +kernel
theorem dX2_set_0 : decode cX2_set 0 = .ok (.aload_n 0, 1) := by decide +kernel
theorem dX2_set_1 : decode cX2_set 1 = .ok (.getfield 11, 3) := by decide +kernel
theorem dX2_set_4 : decode cX2_set 4 = .ok (.iload_n 1, 1) := by decide +kernel
theorem dX2_set_5 : decode cX2_set 5 = .ok (.iload_n 2, 1) := by decide +kernel
theorem dX2_set_6 : decode cX2_set 6 = .ok (.iastore, 1) := by decide +kernel
theorem dX2_set_7 : decode cX2_set 7 = .ok (.return_, 1) := by decide +kernel
theorem dX2_write_0 : decode cX2_write 0 = .ok (.iload_n 3, 1) := by decide +kernel
theorem dX2_write_1 : decode cX2_write 1 = .ok (.getstatic 15, 3) := by decide +kernel
theorem dX2_write_4 : decode cX2_write 4 = .ok (.iload_n 1, 1) := by decide +kernel
theorem dX2_write_5 : decode cX2_write 5 = .ok (.iaload, 1) := by decide +kernel
theorem dX2_write_6 : decode cX2_write 6 = .ok (.iand, 1) := by decide +kernel
theorem dX2_write_7 : decode cX2_write 7 = .ok (.istore 4, 2) := by decide +kernel
theorem dX2_write_9 : decode cX2_write 9 = .ok (.iload_n 1, 1) := by decide +kernel
theorem dX2_write_10 : decode cX2_write 10 = .ok (.iconst 3, 1) := by decide +kernel
theorem dX2_write_11 : decode cX2_write 11 = .ok (.if_icmp .ne 19, 3) := by decide +kernel
theorem dX2_write_14 : decode cX2_write 14 = .ok (.aload_n 0, 1) := by decide +kernel
theorem dX2_write_15 : decode cX2_write 15 = .ok (.getfield 11, 3) := by decide +kernel
theorem dX2_write_18 : decode cX2_write 18 = .ok (.iconst 3, 1) := by decide +kernel
theorem dX2_write_19 : decode cX2_write 19 = .ok (.dup2, 1) := by decide +kernel
theorem dX2_write_20 : decode cX2_write 20 = .ok (.iaload, 1) := by decide +kernel
theorem dX2_write_21 : decode cX2_write 21 = .ok (.iload_n 2, 1) := by decide +kernel
theorem dX2_write_22 : decode cX2_write 22 = .ok (.iload 4, 2) := by decide +kernel
theorem dX2_write_24 : decode cX2_write 24 = .ok (.iand, 1) := by decide +kernel
theorem dX2_write_25 : decode cX2_write 25 = .ok (.iconst (-1), 1) := by decide +kernel
theorem dX2_write_26 : decode cX2_write 26 = .ok (.ixor, 1) := by decide +kernel
theorem dX2_write_27 : decode cX2_write 27 = .ok (.iand, 1) := by decide +kernel
theorem dX2_write_28 : decode cX2_write 28 = .ok (.iastore, 1) := by decide +kernel
theorem dX2_write_29 : decode cX2_write 29 = .ok (.return_, 1) := by decide +kernel
theorem dX2_write_30 : decode cX2_write 30 = .ok (.aload_n 0, 1) := by decide +kernel
theorem dX2_write_31 : decode cX2_write 31 = .ok (.getfield 11, 3) := by decide +kernel
theorem dX2_write_34 : decode cX2_write 34 = .ok (.iload_n 1, 1) := by decide +kernel
theorem dX2_write_35 : decode cX2_write 35 = .ok (.iaload, 1) := by decide +kernel
theorem dX2_write_36 : decode cX2_write 36 = .ok (.iload 4, 2) := by decide +kernel
theorem dX2_write_38 : decode cX2_write 38 = .ok (.iconst (-1), 1) := by decide +kernel
theorem dX2_write_39 : decode cX2_write 39 = .ok (.ixor, 1) := by decide +kernel
theorem dX2_write_40 : decode cX2_write 40 = .ok (.iand, 1) := by decide +kernel
theorem dX2_write_41 : decode cX2_write 41 = .ok (.iload_n 2, 1) := by decide +kernel
theorem dX2_write_42 : decode cX2_write 42 = .ok (.iload 4, 2) := by decide +kernel
theorem dX2_write_44 : decode cX2_write 44 = .ok (.iand, 1) := by decide +kernel
theorem dX2_write_45 : decode cX2_write 45 = .ok (.ior, 1) := by decide +kernel
theorem dX2_write_46 : decode cX2_write 46 = .ok (.istore 5, 2) := by decide +kernel
theorem dX2_write_48 : decode cX2_write 48 = .ok (.iload 5, 2) := by decide +kernel
theorem dX2_write_50 : decode cX2_write 50 = .ok (.getstatic 18, 3) := by decide +kernel
theorem dX2_write_53 : decode cX2_write 53 = .ok (.iload_n 1, 1) := by decide +kernel
theorem dX2_write_54 : decode cX2_write 54 = .ok (.iaload, 1) := by decide +kernel
theorem dX2_write_55 : decode cX2_write 55 = .ok (.iand, 1) := by decide +kernel
theorem dX2_write_56 : decode cX2_write 56 = .ok (.ifCond .eq 13, 3) := by decide +kernel
theorem dX2_write_59 : decode cX2_write 59 = .ok (.iload 5, 2) := by decide +kernel
theorem dX2_write_61 : decode cX2_write 61 = .ok (.getstatic 18, 3) := by decide +kernel
theorem dX2_write_64 : decode cX2_write 64 = .ok (.iload_n 1, 1) := by decide +kernel
theorem dX2_write_65 : decode cX2_write 65 = .ok (.iaload, 1) := by decide +kernel
theorem dX2_write_66 : decode cX2_write 66 = .ok (.ior, 1) := by decide +kernel
theorem dX2_write_67 : decode cX2_write 67 = .ok (.istore 5, 2) := by decide +kernel
theorem dX2_write_69 : decode cX2_write 69 = .ok (.aload_n 0, 1) := by decide +kernel
theorem dX2_write_70 : decode cX2_write 70 = .ok (.getfield 11, 3) := by decide +kernel
theorem dX2_write_73 : decode cX2_write 73 = .ok (.iload_n 1, 1) := by decide +kernel
theorem dX2_write_74 : decode cX2_write 74 = .ok (.iload 5, 2) := by decide +kernel
theorem dX2_write_76 : decode cX2_write 76 = .ok (.iastore, 1) := by decide +kernel
theorem dX2_write_77 : decode cX2_write 77 = .ok (.iload_n 1, 1) := by decide +kernel
theorem dX2_write_78 : decode cX2_write 78 = .ok (.bipush 14, 2) := by decide +kernel
theorem dX2_write_80 : decode cX2_write 80 = .ok (.if_icmp .ne 15, 3) := by decide +kernel
theorem dX2_write_83 : decode cX2_write 83 = .ok (.aload_n 0, 1) := by decide +kernel
theorem dX2_write_84 : decode cX2_write 84 = .ok (.getfield 11, 3) := by decide +kernel
theorem dX2_write_87 : decode cX2_write 87 = .ok (.bipush 15, 2) := by decide +kernel
theorem dX2_write_89 : decode cX2_write 89 = .ok (.iload 5, 2) := by decide +kernel
theorem dX2_write_91 : decode cX2_write 91 = .ok (.ldc 21, 2) := by decide +kernel
theorem dX2_write_93 : decode cX2_write 93 = .ok (.iand, 1) := by decide +kernel
theorem dX2_write_94 : decode cX2_write 94 = .ok (.iastore, 1) := by decide +kernel
theorem dX2_write_95 : decode cX2_write 95 = .ok (.return_, 1) := by decide +kernel
theorem dX2_level_0 : decode cX2_level 0 = .ok (.aload_n 0, 1) := by decide +kernel
theorem dX2_level_1 : decode cX2_level 1 = .ok (.getfield 11, 3) := by decide +kernel
theorem dX2_level_4 : decode cX2_level 4 = .ok (.iconst 0, 1) := by decide +kernel
theorem dX2_level_5 : decode cX2_level 5 = .ok (.iaload, 1) := by decide +kernel
theorem dX2_level_6 : decode cX2_level 6 = .ok (.iconst 3, 1) := by decide +kernel
theorem dX2_level_7 : decode cX2_level 7 = .ok (.iand, 1) := by decide +kernel
theorem dX2_level_8 : decode cX2_level 8 = .ok (.ireturn, 1) := by decide +kernel
theorem dX2_isEnabled_0 : decode cX2_isEnabled 0 = .ok (.aload_n 0, 1) := by decide +kernel
theorem dX2_isEnabled_1 : decode cX2_isEnabled 1 = .ok (.getfield 11, 3) := by decide +kernel
theorem dX2_isEnabled_4 : decode cX2_isEnabled 4 = .ok (.iconst 0, 1) := by decide +kernel
theorem dX2_isEnabled_5 : decode cX2_isEnabled 5 = .ok (.iaload, 1) := by decide +kernel
theorem dX2_isEnabled_6 : decode cX2_isEnabled 6 = .ok (.iconst 4, 1) := by decide +kernel
theorem dX2_isEnabled_7 : decode cX2_isEnabled 7 = .ok (.iand, 1) := by decide +kernel
theorem dX2_isEnabled_8 : decode cX2_isEnabled 8 = .ok (.ifCond .eq 7, 3) := by decide +kernel
theorem dX2_isEnabled_11 : decode cX2_isEnabled 11 = .ok (.iconst 1, 1) := by decide +kernel
theorem dX2_isEnabled_12 : decode cX2_isEnabled 12 = .ok (.goto 4, 3) := by decide +kernel
theorem dX2_isEnabled_15 : decode cX2_isEnabled 15 = .ok (.iconst 0, 1) := by decide +kernel
theorem dX2_isEnabled_16 : decode cX2_isEnabled 16 = .ok (.ireturn, 1) := by decide +kernel
theorem dX2_isDirect_0 : decode cX2_isDirect 0 = .ok (.aload_n 0, 1) := by decide +kernel
theorem dX2_isDirect_1 : decode cX2_isDirect 1 = .ok (.getfield 11, 3) := by decide +kernel
theorem dX2_isDirect_4 : decode cX2_isDirect 4 = .ok (.iconst 0, 1) := by decide +kernel
theorem dX2_isDirect_5 : decode cX2_isDirect 5 = .ok (.iaload, 1) := by decide +kernel
theorem dX2_isDirect_6 : decode cX2_isDirect 6 = .ok (.bipush 8, 2) := by decide +kernel
theorem dX2_isDirect_8 : decode cX2_isDirect 8 = .ok (.iand, 1) := by decide +kernel
theorem dX2_isDirect_9 : decode cX2_isDirect 9 = .ok (.ifCond .eq 7, 3) := by decide +kernel
theorem dX2_isDirect_12 : decode cX2_isDirect 12 = .ok (.iconst 1, 1) := by decide +kernel
theorem dX2_isDirect_13 : decode cX2_isDirect 13 = .ok (.goto 4, 3) := by decide +kernel
theorem dX2_isDirect_16 : decode cX2_isDirect 16 = .ok (.iconst 0, 1) := by decide +kernel
theorem dX2_isDirect_17 : decode cX2_isDirect 17 = .ok (.ireturn, 1) := by decide +kernel
theorem dX2_setDirect_0 : decode cX2_setDirect 0 = .ok (.aload_n 0, 1) := by decide +kernel
theorem dX2_setDirect_1 : decode cX2_setDirect 1 = .ok (.getfield 11, 3) := by decide +kernel
theorem dX2_setDirect_4 : decode cX2_setDirect 4 = .ok (.iconst 0, 1) := by decide +kernel
theorem dX2_setDirect_5 : decode cX2_setDirect 5 = .ok (.dup2, 1) := by decide +kernel
theorem dX2_setDirect_6 : decode cX2_setDirect 6 = .ok (.iaload, 1) := by decide +kernel
theorem dX2_setDirect_7 : decode cX2_setDirect 7 = .ok (.bipush 8, 2) := by decide +kernel
theorem dX2_setDirect_9 : decode cX2_setDirect 9 = .ok (.ior, 1) := by decide +kernel
theorem dX2_setDirect_10 : decode cX2_setDirect 10 = .ok (.iastore, 1) := by decide +kernel
theorem dX2_setDirect_11 : decode cX2_setDirect 11 = .ok (.return_, 1) := by decide +kernel
theorem dX2_isEmpty_0 : decode cX2_isEmpty 0 = .ok (.aload_n 0, 1) := by decide +kernel
theorem dX2_isEmpty_1 : decode cX2_isEmpty 1 = .ok (.getfield 11, 3) := by decide +kernel
theorem dX2_isEmpty_4 : decode cX2_isEmpty 4 = .ok (.bipush 7, 2) := by decide +kernel
theorem dX2_isEmpty_6 : decode cX2_isEmpty 6 = .ok (.iaload, 1) := by decide +kernel
theorem dX2_isEmpty_7 : decode cX2_isEmpty 7 = .ok (.ldc 22, 2) := by decide +kernel
theorem dX2_isEmpty_9 : decode cX2_isEmpty 9 = .ok (.iand, 1) := by decide +kernel
theorem dX2_isEmpty_10 : decode cX2_isEmpty 10 = .ok (.ifCond .eq 7, 3) := by decide +kernel
theorem dX2_isEmpty_13 : decode cX2_isEmpty 13 = .ok (.iconst 1, 1) := by decide +kernel
theorem dX2_isEmpty_14 : decode cX2_isEmpty 14 = .ok (.goto 4, 3) := by decide +kernel
theorem dX2_isEmpty_17 : decode cX2_isEmpty 17 = .ok (.iconst 0, 1) := by decide +kernel
theorem dX2_isEmpty_18 : decode cX2_isEmpty 18 = .ok (.ireturn, 1) := by decide +kernel
theorem dX2_setEmpty_0 : decode cX2_setEmpty 0 = .ok (.aload_n 0, 1) := by decide +kernel
theorem dX2_setEmpty_1 : decode cX2_setEmpty 1 = .ok (.getfield 11, 3) := by decide +kernel
theorem dX2_setEmpty_4 : decode cX2_setEmpty 4 = .ok (.bipush 7, 2) := by decide +kernel
theorem dX2_setEmpty_6 : decode cX2_setEmpty 6 = .ok (.aload_n 0, 1) := by decide +kernel
theorem dX2_setEmpty_7 : decode cX2_setEmpty 7 = .ok (.getfield 11, 3) := by decide +kernel
theorem dX2_setEmpty_10 : decode cX2_setEmpty 10 = .ok (.bipush 7, 2) := by decide +kernel
theorem dX2_setEmpty_12 : decode cX2_setEmpty 12 = .ok (.iaload, 1) := by decide +kernel
theorem dX2_setEmpty_13 : decode cX2_setEmpty 13 = .ok (.ldc 23, 2) := by decide +kernel
theorem dX2_setEmpty_15 : decode cX2_setEmpty 15 = .ok (.iand, 1) := by decide +kernel
theorem dX2_setEmpty_16 : decode cX2_setEmpty 16 = .ok (.iload_n 1, 1) := by decide +kernel
theorem dX2_setEmpty_17 : decode cX2_setEmpty 17 = .ok (.ifCond .eq 8, 3) := by decide +kernel
theorem dX2_setEmpty_20 : decode cX2_setEmpty 20 = .ok (.ldc 22, 2) := by decide +kernel
theorem dX2_setEmpty_22 : decode cX2_setEmpty 22 = .ok (.goto 4, 3) := by decide +kernel
theorem dX2_setEmpty_25 : decode cX2_setEmpty 25 = .ok (.iconst 0, 1) := by decide +kernel
theorem dX2_setEmpty_26 : decode cX2_setEmpty 26 = .ok (.ior, 1) := by decide +kernel
theorem dX2_setEmpty_27 : decode cX2_setEmpty 27 = .ok (.iastore, 1) := by decide +kernel
theorem dX2_setEmpty_28 : decode cX2_setEmpty 28 = .ok (.return_, 1) := by decide +kernel
theorem dX2_code_0 : decode cX2_code 0 = .ok (.aload_n 0, 1) := by decide +kernel
theorem dX2_code_1 : decode cX2_code 1 = .ok (.getfield 11, 3) := by decide +kernel
theorem dX2_code_4 : decode cX2_code 4 = .ok (.iconst 3, 1) := by decide +kernel
theorem dX2_code_5 : decode cX2_code 5 = .ok (.iaload, 1) := by decide +kernel
theorem dX2_code_6 : decode cX2_code 6 = .ok (.bipush 16, 2) := by decide +kernel
theorem dX2_code_8 : decode cX2_code 8 = .ok (.iushr, 1) := by decide +kernel
theorem dX2_code_9 : decode cX2_code 9 = .ok (.bipush 63, 2) := by decide +kernel
theorem dX2_code_11 : decode cX2_code 11 = .ok (.iand, 1) := by decide +kernel
theorem dX2_code_12 : decode cX2_code 12 = .ok (.ireturn, 1) := by decide +kernel
theorem dX2_setLine_0 : decode cX2_setLine 0 = .ok (.iconst 1, 1) := by decide +kernel
theorem dX2_setLine_1 : decode cX2_setLine 1 = .ok (.iload_n 1, 1) := by decide +kernel
theorem dX2_setLine_2 : decode cX2_setLine 2 = .ok (.ishl, 1) := by decide +kernel
theorem dX2_setLine_3 : decode cX2_setLine 3 = .ok (.istore_n 3, 1) := by decide +kernel
theorem dX2_setLine_4 : decode cX2_setLine 4 = .ok (.aload_n 0, 1) := by decide +kernel
theorem dX2_setLine_5 : decode cX2_setLine 5 = .ok (.getfield 11, 3) := by decide +kernel
theorem dX2_setLine_8 : decode cX2_setLine 8 = .ok (.iconst 3, 1) := by decide +kernel
theorem dX2_setLine_9 : decode cX2_setLine 9 = .ok (.aload_n 0, 1) := by decide +kernel
theorem dX2_setLine_10 : decode cX2_setLine 10 = .ok (.getfield 11, 3) := by decide +kernel
theorem dX2_setLine_13 : decode cX2_setLine 13 = .ok (.iconst 3, 1) := by decide +kernel
theorem dX2_setLine_14 : decode cX2_setLine 14 = .ok (.iaload, 1) := by decide +kernel
theorem dX2_setLine_15 : decode cX2_setLine 15 = .ok (.iload_n 3, 1) := by decide +kernel
theorem dX2_setLine_16 : decode cX2_setLine 16 = .ok (.iconst (-1), 1) := by decide +kernel
theorem dX2_setLine_17 : decode cX2_setLine 17 = .ok (.ixor, 1) := by decide +kernel
theorem dX2_setLine_18 : decode cX2_setLine 18 = .ok (.iand, 1) := by decide +kernel
theorem dX2_setLine_19 : decode cX2_setLine 19 = .ok (.iload_n 2, 1) := by decide +kernel
theorem dX2_setLine_20 : decode cX2_setLine 20 = .ok (.ifCond .eq 7, 3) := by decide +kernel
theorem dX2_setLine_23 : decode cX2_setLine 23 = .ok (.iload_n 3, 1) := by decide +kernel
theorem dX2_setLine_24 : decode cX2_setLine 24 = .ok (.goto 4, 3) := by decide +kernel
theorem dX2_setLine_27 : decode cX2_setLine 27 = .ok (.iconst 0, 1) := by decide +kernel
theorem dX2_setLine_28 : decode cX2_setLine 28 = .ok (.ior, 1) := by decide +kernel
theorem dX2_setLine_29 : decode cX2_setLine 29 = .ok (.iastore, 1) := by decide +kernel
theorem dX2_setLine_30 : decode cX2_setLine 30 = .ok (.return_, 1) := by decide +kernel
theorem dX2_isAsked_0 : decode cX2_isAsked 0 = .ok (.aload_n 0, 1) := by decide +kernel
theorem dX2_isAsked_1 : decode cX2_isAsked 1 = .ok (.getfield 11, 3) := by decide +kernel
theorem dX2_isAsked_4 : decode cX2_isAsked 4 = .ok (.iconst 2, 1) := by decide +kernel
theorem dX2_isAsked_5 : decode cX2_isAsked 5 = .ok (.iaload, 1) := by decide +kernel
theorem dX2_isAsked_6 : decode cX2_isAsked 6 = .ok (.aload_n 0, 1) := by decide +kernel
theorem dX2_isAsked_7 : decode cX2_isAsked 7 = .ok (.getfield 11, 3) := by decide +kernel
theorem dX2_isAsked_10 : decode cX2_isAsked 10 = .ok (.iconst 3, 1) := by decide +kernel
theorem dX2_isAsked_11 : decode cX2_isAsked 11 = .ok (.iaload, 1) := by decide +kernel
theorem dX2_isAsked_12 : decode cX2_isAsked 12 = .ok (.iand, 1) := by decide +kernel
theorem dX2_isAsked_13 : decode cX2_isAsked 13 = .ok (.bipush 31, 2) := by decide +kernel
theorem dX2_isAsked_15 : decode cX2_isAsked 15 = .ok (.iand, 1) := by decide +kernel
theorem dX2_isAsked_16 : decode cX2_isAsked 16 = .ok (.ifCond .eq 7, 3) := by decide +kernel
theorem dX2_isAsked_19 : decode cX2_isAsked 19 = .ok (.iconst 1, 1) := by decide +kernel
theorem dX2_isAsked_20 : decode cX2_isAsked 20 = .ok (.goto 4, 3) := by decide +kernel
theorem dX2_isAsked_23 : decode cX2_isAsked 23 = .ok (.iconst 0, 1) := by decide +kernel
theorem dX2_isAsked_24 : decode cX2_isAsked 24 = .ok (.ireturn, 1) := by decide +kernel
theorem dX2_isInWindow_0 : decode cX2_isInWindow 0 = .ok (.aload_n 0, 1) := by decide +kernel
theorem dX2_isInWindow_1 : decode cX2_isInWindow 1 = .ok (.getfield 11, 3) := by decide +kernel
theorem dX2_isInWindow_4 : decode cX2_isInWindow 4 = .ok (.bipush 17, 2) := by decide +kernel
theorem dX2_isInWindow_6 : decode cX2_isInWindow 6 = .ok (.iaload, 1) := by decide +kernel
theorem dX2_isInWindow_7 : decode cX2_isInWindow 7 = .ok (.istore_n 2, 1) := by decide +kernel
theorem dX2_isInWindow_8 : decode cX2_isInWindow 8 = .ok (.iload_n 2, 1) := by decide +kernel
theorem dX2_isInWindow_9 : decode cX2_isInWindow 9 = .ok (.aload_n 0, 1) := by decide +kernel
theorem dX2_isInWindow_10 : decode cX2_isInWindow 10 = .ok (.getfield 11, 3) := by decide +kernel
theorem dX2_isInWindow_13 : decode cX2_isInWindow 13 = .ok (.iconst 0, 1) := by decide +kernel
theorem dX2_isInWindow_14 : decode cX2_isInWindow 14 = .ok (.iaload, 1) := by decide +kernel
theorem dX2_isInWindow_15 : decode cX2_isInWindow 15 = .ok (.iconst 3, 1) := by decide +kernel
theorem dX2_isInWindow_16 : decode cX2_isInWindow 16 = .ok (.iand, 1) := by decide +kernel
theorem dX2_isInWindow_17 : decode cX2_isInWindow 17 = .ok (.iushr, 1) := by decide +kernel
theorem dX2_isInWindow_18 : decode cX2_isInWindow 18 = .ok (.iconst 1, 1) := by decide +kernel
theorem dX2_isInWindow_19 : decode cX2_isInWindow 19 = .ok (.iand, 1) := by decide +kernel
theorem dX2_isInWindow_20 : decode cX2_isInWindow 20 = .ok (.ifCond .eq 7, 3) := by decide +kernel
theorem dX2_isInWindow_23 : decode cX2_isInWindow 23 = .ok (.iconst 1, 1) := by decide +kernel
theorem dX2_isInWindow_24 : decode cX2_isInWindow 24 = .ok (.goto 4, 3) := by decide +kernel
theorem dX2_isInWindow_27 : decode cX2_isInWindow 27 = .ok (.iconst 0, 1) := by decide +kernel
theorem dX2_isInWindow_28 : decode cX2_isInWindow 28 = .ok (.istore_n 3, 1) := by decide +kernel
theorem dX2_isInWindow_29 : decode cX2_isInWindow 29 = .ok (.iload_n 3, 1) := by decide +kernel
theorem dX2_isInWindow_30 : decode cX2_isInWindow 30 = .ok (.ifCond .eq 16, 3) := by decide +kernel
theorem dX2_isInWindow_33 : decode cX2_isInWindow 33 = .ok (.iload_n 1, 1) := by decide +kernel
theorem dX2_isInWindow_34 : decode cX2_isInWindow 34 = .ok (.iload_n 2, 1) := by decide +kernel
theorem dX2_isInWindow_35 : decode cX2_isInWindow 35 = .ok (.ixor, 1) := by decide +kernel
theorem dX2_isInWindow_36 : decode cX2_isInWindow 36 = .ok (.bipush 28, 2) := by decide +kernel
theorem dX2_isInWindow_38 : decode cX2_isInWindow 38 = .ok (.iushr, 1) := by decide +kernel
theorem dX2_isInWindow_39 : decode cX2_isInWindow 39 = .ok (.ifCond .ne 7, 3) := by decide +kernel
theorem dX2_isInWindow_42 : decode cX2_isInWindow 42 = .ok (.iconst 1, 1) := by decide +kernel
theorem dX2_isInWindow_43 : decode cX2_isInWindow 43 = .ok (.goto 4, 3) := by decide +kernel
theorem dX2_isInWindow_46 : decode cX2_isInWindow 46 = .ok (.iconst 0, 1) := by decide +kernel
theorem dX2_isInWindow_47 : decode cX2_isInWindow 47 = .ok (.ireturn, 1) := by decide +kernel
theorem dX2_enter_0 : decode cX2_enter 0 = .ok (.aload_n 0, 1) := by decide +kernel
theorem dX2_enter_1 : decode cX2_enter 1 = .ok (.getfield 11, 3) := by decide +kernel
theorem dX2_enter_4 : decode cX2_enter 4 = .ok (.iconst 1, 1) := by decide +kernel
theorem dX2_enter_5 : decode cX2_enter 5 = .ok (.aload_n 0, 1) := by decide +kernel
theorem dX2_enter_6 : decode cX2_enter 6 = .ok (.getfield 11, 3) := by decide +kernel
theorem dX2_enter_9 : decode cX2_enter 9 = .ok (.iconst 0, 1) := by decide +kernel
theorem dX2_enter_10 : decode cX2_enter 10 = .ok (.iaload, 1) := by decide +kernel
theorem dX2_enter_11 : decode cX2_enter 11 = .ok (.bipush 7, 2) := by decide +kernel
theorem dX2_enter_13 : decode cX2_enter 13 = .ok (.iand, 1) := by decide +kernel
theorem dX2_enter_14 : decode cX2_enter 14 = .ok (.iastore, 1) := by decide +kernel
theorem dX2_enter_15 : decode cX2_enter 15 = .ok (.aload_n 0, 1) := by decide +kernel
theorem dX2_enter_16 : decode cX2_enter 16 = .ok (.getfield 11, 3) := by decide +kernel
theorem dX2_enter_19 : decode cX2_enter 19 = .ok (.iconst 0, 1) := by decide +kernel
theorem dX2_enter_20 : decode cX2_enter 20 = .ok (.dup2, 1) := by decide +kernel
theorem dX2_enter_21 : decode cX2_enter 21 = .ok (.iaload, 1) := by decide +kernel
theorem dX2_enter_22 : decode cX2_enter 22 = .ok (.bipush (-8), 2) := by decide +kernel
theorem dX2_enter_24 : decode cX2_enter 24 = .ok (.iand, 1) := by decide +kernel
theorem dX2_enter_25 : decode cX2_enter 25 = .ok (.iastore, 1) := by decide +kernel
theorem dX2_enter_26 : decode cX2_enter 26 = .ok (.aload_n 0, 1) := by decide +kernel
theorem dX2_enter_27 : decode cX2_enter 27 = .ok (.getfield 11, 3) := by decide +kernel
theorem dX2_enter_30 : decode cX2_enter 30 = .ok (.iconst 4, 1) := by decide +kernel
theorem dX2_enter_31 : decode cX2_enter 31 = .ok (.iload_n 2, 1) := by decide +kernel
theorem dX2_enter_32 : decode cX2_enter 32 = .ok (.iastore, 1) := by decide +kernel
theorem dX2_enter_33 : decode cX2_enter 33 = .ok (.aload_n 0, 1) := by decide +kernel
theorem dX2_enter_34 : decode cX2_enter 34 = .ok (.getfield 11, 3) := by decide +kernel
theorem dX2_enter_37 : decode cX2_enter 37 = .ok (.iconst 3, 1) := by decide +kernel
theorem dX2_enter_38 : decode cX2_enter 38 = .ok (.aload_n 0, 1) := by decide +kernel
theorem dX2_enter_39 : decode cX2_enter 39 = .ok (.getfield 11, 3) := by decide +kernel
theorem dX2_enter_42 : decode cX2_enter 42 = .ok (.iconst 3, 1) := by decide +kernel
theorem dX2_enter_43 : decode cX2_enter 43 = .ok (.iaload, 1) := by decide +kernel
theorem dX2_enter_44 : decode cX2_enter 44 = .ok (.bipush 31, 2) := by decide +kernel
theorem dX2_enter_46 : decode cX2_enter 46 = .ok (.iand, 1) := by decide +kernel
theorem dX2_enter_47 : decode cX2_enter 47 = .ok (.iload_n 1, 1) := by decide +kernel
theorem dX2_enter_48 : decode cX2_enter 48 = .ok (.bipush 16, 2) := by decide +kernel
theorem dX2_enter_50 : decode cX2_enter 50 = .ok (.ishl, 1) := by decide +kernel
theorem dX2_enter_51 : decode cX2_enter 51 = .ok (.ior, 1) := by decide +kernel
theorem dX2_enter_52 : decode cX2_enter 52 = .ok (.iastore, 1) := by decide +kernel
theorem dX2_enter_53 : decode cX2_enter 53 = .ok (.return_, 1) := by decide +kernel
set_option maxRecDepth 20000 in
theorem ggX2_leave_X2_code : GoodIn wsX2_leave wsX2_code := goodIn_r _ [6, 1, 7] (by decide +kernel) (by decide +kernel)
set_option maxRecDepth 20000 in
theorem gX2_leave_X2_code : GoodIn wsX2_leave (wsV RX2 24 RX2 yX2_code wsX2_code) := goodIn_app (goodIn_of _ (by decide +kernel)) ggX2_leave_X2_code
theorem dX2_leave_0 : decode cX2_leave 0 = .ok (.aload_n 0, 1) := by decide +kernel
theorem dX2_leave_1 : decode cX2_leave 1 = .ok (.getfield 11, 3) := by decide +kernel
theorem dX2_leave_4 : decode cX2_leave 4 = .ok (.iconst 0, 1) := by decide +kernel
theorem dX2_leave_5 : decode cX2_leave 5 = .ok (.aload_n 0, 1) := by decide +kernel
theorem dX2_leave_6 : decode cX2_leave 6 = .ok (.getfield 11, 3) := by decide +kernel
theorem dX2_leave_9 : decode cX2_leave 9 = .ok (.iconst 0, 1) := by decide +kernel
theorem dX2_leave_10 : decode cX2_leave 10 = .ok (.iaload, 1) := by decide +kernel
theorem dX2_leave_11 : decode cX2_leave 11 = .ok (.bipush 8, 2) := by decide +kernel
theorem dX2_leave_13 : decode cX2_leave 13 = .ok (.iand, 1) := by decide +kernel
theorem dX2_leave_14 : decode cX2_leave 14 = .ok (.aload_n 0, 1) := by decide +kernel
theorem dX2_leave_15 : decode cX2_leave 15 = .ok (.getfield 11, 3) := by decide +kernel
theorem dX2_leave_18 : decode cX2_leave 18 = .ok (.iconst 1, 1) := by decide +kernel
theorem dX2_leave_19 : decode cX2_leave 19 = .ok (.iaload, 1) := by decide +kernel
theorem dX2_leave_20 : decode cX2_leave 20 = .ok (.ior, 1) := by decide +kernel
theorem dX2_leave_21 : decode cX2_leave 21 = .ok (.iastore, 1) := by decide +kernel
theorem dX2_leave_22 : decode cX2_leave 22 = .ok (.aload_n 0, 1) := by decide +kernel
theorem dX2_leave_23 : decode cX2_leave 23 = .ok (.invokevirtual 24, 3) := by decide +kernel
theorem dX2_leave_26 : decode cX2_leave 26 = .ok (.bipush 63, 2) := by decide +kernel
theorem dX2_leave_28 : decode cX2_leave 28 = .ok (.if_icmp .ne 14, 3) := by decide +kernel
theorem dX2_leave_31 : decode cX2_leave 31 = .ok (.aload_n 0, 1) := by decide +kernel
theorem dX2_leave_32 : decode cX2_leave 32 = .ok (.getfield 11, 3) := by decide +kernel
theorem dX2_leave_35 : decode cX2_leave 35 = .ok (.iconst 0, 1) := by decide +kernel
theorem dX2_leave_36 : decode cX2_leave 36 = .ok (.dup2, 1) := by decide +kernel
theorem dX2_leave_37 : decode cX2_leave 37 = .ok (.iaload, 1) := by decide +kernel
theorem dX2_leave_38 : decode cX2_leave 38 = .ok (.bipush (-9), 2) := by decide +kernel
theorem dX2_leave_40 : decode cX2_leave 40 = .ok (.iand, 1) := by decide +kernel
theorem dX2_leave_41 : decode cX2_leave 41 = .ok (.iastore, 1) := by decide +kernel
theorem dX2_leave_42 : decode cX2_leave 42 = .ok (.return_, 1) := by decide +kernel
theorem dX2_tick_0 : decode cX2_tick 0 = .ok (.aload_n 0, 1) := by decide +kernel
theorem dX2_tick_1 : decode cX2_tick 1 = .ok (.getfield 11, 3) := by decide +kernel
theorem dX2_tick_4 : decode cX2_tick 4 = .ok (.bipush 14, 2) := by decide +kernel
theorem dX2_tick_6 : decode cX2_tick 6 = .ok (.iaload, 1) := by decide +kernel
theorem dX2_tick_7 : decode cX2_tick 7 = .ok (.istore_n 1, 1) := by decide +kernel
theorem dX2_tick_8 : decode cX2_tick 8 = .ok (.iload_n 1, 1) := by decide +kernel
theorem dX2_tick_9 : decode cX2_tick 9 = .ok (.iconst 1, 1) := by decide +kernel
theorem dX2_tick_10 : decode cX2_tick 10 = .ok (.iand, 1) := by decide +kernel
theorem dX2_tick_11 : decode cX2_tick 11 = .ok (.ifCond .eq 13, 3) := by decide +kernel
theorem dX2_tick_14 : decode cX2_tick 14 = .ok (.aload_n 0, 1) := by decide +kernel
theorem dX2_tick_15 : decode cX2_tick 15 = .ok (.getfield 11, 3) := by decide +kernel
theorem dX2_tick_18 : decode cX2_tick 18 = .ok (.bipush 15, 2) := by decide +kernel
theorem dX2_tick_20 : decode cX2_tick 20 = .ok (.iaload, 1) := by decide +kernel
theorem dX2_tick_21 : decode cX2_tick 21 = .ok (.ifCond .ne 4, 3) := by decide +kernel
theorem dX2_tick_24 : decode cX2_tick 24 = .ok (.return_, 1) := by decide +kernel
theorem dX2_tick_25 : decode cX2_tick 25 = .ok (.aload_n 0, 1) := by decide +kernel
theorem dX2_tick_26 : decode cX2_tick 26 = .ok (.getfield 11, 3) := by decide +kernel
theorem dX2_tick_29 : decode cX2_tick 29 = .ok (.bipush 15, 2) := by decide +kernel
theorem dX2_tick_31 : decode cX2_tick 31 = .ok (.dup2, 1) := by decide +kernel
theorem dX2_tick_32 : decode cX2_tick 32 = .ok (.iaload, 1) := by decide +kernel
theorem dX2_tick_33 : decode cX2_tick 33 = .ok (.iconst 1, 1) := by decide +kernel
theorem dX2_tick_34 : decode cX2_tick 34 = .ok (.isub, 1) := by decide +kernel
theorem dX2_tick_35 : decode cX2_tick 35 = .ok (.iastore, 1) := by decide +kernel
theorem dX2_tick_36 : decode cX2_tick 36 = .ok (.aload_n 0, 1) := by decide +kernel
theorem dX2_tick_37 : decode cX2_tick 37 = .ok (.getfield 11, 3) := by decide +kernel
theorem dX2_tick_40 : decode cX2_tick 40 = .ok (.bipush 15, 2) := by decide +kernel
theorem dX2_tick_42 : decode cX2_tick 42 = .ok (.iaload, 1) := by decide +kernel
theorem dX2_tick_43 : decode cX2_tick 43 = .ok (.ifCond .ne 31, 3) := by decide +kernel
theorem dX2_tick_46 : decode cX2_tick 46 = .ok (.aload_n 0, 1) := by decide +kernel
theorem dX2_tick_47 : decode cX2_tick 47 = .ok (.getfield 11, 3) := by decide +kernel
theorem dX2_tick_50 : decode cX2_tick 50 = .ok (.iconst 3, 1) := by decide +kernel
theorem dX2_tick_51 : decode cX2_tick 51 = .ok (.dup2, 1) := by decide +kernel
theorem dX2_tick_52 : decode cX2_tick 52 = .ok (.iaload, 1) := by decide +kernel
theorem dX2_tick_53 : decode cX2_tick 53 = .ok (.bipush 16, 2) := by decide +kernel
theorem dX2_tick_55 : decode cX2_tick 55 = .ok (.ior, 1) := by decide +kernel
theorem dX2_tick_56 : decode cX2_tick 56 = .ok (.iastore, 1) := by decide +kernel
theorem dX2_tick_57 : decode cX2_tick 57 = .ok (.iload_n 1, 1) := by decide +kernel
theorem dX2_tick_58 : decode cX2_tick 58 = .ok (.iconst 2, 1) := by decide +kernel
theorem dX2_tick_59 : decode cX2_tick 59 = .ok (.iand, 1) := by decide +kernel
theorem dX2_tick_60 : decode cX2_tick 60 = .ok (.ifCond .eq 14, 3) := by decide +kernel
theorem dX2_tick_63 : decode cX2_tick 63 = .ok (.aload_n 0, 1) := by decide +kernel
theorem dX2_tick_64 : decode cX2_tick 64 = .ok (.getfield 11, 3) := by decide +kernel
theorem dX2_tick_67 : decode cX2_tick 67 = .ok (.bipush 15, 2) := by decide +kernel
theorem dX2_tick_69 : decode cX2_tick 69 = .ok (.iload_n 1, 1) := by decide +kernel
theorem dX2_tick_70 : decode cX2_tick 70 = .ok (.ldc 21, 2) := by decide +kernel
theorem dX2_tick_72 : decode cX2_tick 72 = .ok (.iand, 1) := by decide +kernel
theorem dX2_tick_73 : decode cX2_tick 73 = .ok (.iastore, 1) := by decide +kernel
theorem dX2_tick_74 : decode cX2_tick 74 = .ok (.return_, 1) := by decide +kernel
theorem dJ9_min_7cf53_0 : decode cJ9_min_7cf53 0 = .ok (.iload_n 0, 1) := by decide +kernel
theorem dJ9_min_7cf53_1 : decode cJ9_min_7cf53 1 = .ok (.iload_n 1, 1) := by decide +kernel
theorem dJ9_min_7cf53_2 : decode cJ9_min_7cf53 2 = .ok (.if_icmp .gt 7, 3) := by decide +kernel
theorem dJ9_min_7cf53_5 : decode cJ9_min_7cf53 5 = .ok (.iload_n 0, 1) := by decide +kernel
theorem dJ9_min_7cf53_6 : decode cJ9_min_7cf53 6 = .ok (.goto 4, 3) := by decide +kernel
theorem dJ9_min_7cf53_9 : decode cJ9_min_7cf53 9 = .ok (.iload_n 1, 1) := by decide +kernel
theorem dJ9_min_7cf53_10 : decode cJ9_min_7cf53 10 = .ok (.ireturn, 1) := by decide +kernel
end
section
set_option maxRecDepth 20000 in
theorem ggX3_init_X2_init : GoodIn wsX3_init wsX2_init := goodIn_r _ [17, 18, 2, 3, 4, 19, 34] (by decide +kernel) (by decide +kernel)
set_option maxRecDepth 20000 in
theorem gX3_init_X2_init_n18 : GoodIn wsX3_init (wsX2_init) := ggX3_init_X2_init
set_option maxRecDepth 20000 in
theorem ggX3_init_X0_init : GoodIn wsX3_init wsX0_init := goodIn_r _ [21, 22, 2, 3, 23, 4, 24, 35] (by decide +kernel) (by decide +kernel)
set_option maxRecDepth 20000 in
theorem gX3_init_X0_init_n25 : GoodIn wsX3_init (wsX0_init) := ggX3_init_X0_init
theorem dX3_init_0 : decode cX3_init 0 = .ok (.aload_n 0, 1) := by decide +kernel
theorem dX3_init_1 : decode cX3_init 1 = .ok (.invokespecial 1, 3) := by decide +kernel
theorem dX3_init_4 : decode cX3_init 4 = .ok (.aload_n 0, 1) := by decide +kernel
theorem dX3_init_5 : decode cX3_init 5 = .ok (.sipush 512, 3) := by decide +kernel
theorem dX3_init_8 : decode cX3_init 8 = .ok (.newarray .int, 2) := by decide +kernel
theorem dX3_init_10 : decode cX3_init 10 = .ok (.putfield 9, 3) := by decide +kernel
theorem dX3_init_13 : decode cX3_init 13 = .ok (.aload_n 0, 1) := by decide +kernel
theorem dX3_init_14 : decode cX3_init 14 = .ok (.bipush 8, 2) := by decide +kernel
theorem dX3_init_16 : decode cX3_init 16 = .ok (.newarray .int, 2) := by decide +kernel
theorem dX3_init_18 : decode cX3_init 18 = .ok (.putfield 13, 3) := by decide +kernel
theorem dX3_init_21 : decode cX3_init 21 = .ok (.aload_n 0, 1) := by decide +kernel
theorem dX3_init_22 : decode cX3_init 22 = .ok (.new 16, 3) := by decide +kernel
theorem dX3_init_25 : decode cX3_init 25 = .ok (.dup, 1) := by decide +kernel
theorem dX3_init_26 : decode cX3_init 26 = .ok (.invokespecial 18, 3) := by decide +kernel
theorem dX3_init_29 : decode cX3_init 29 = .ok (.putfield 19, 3) := by decide +kernel
theorem dX3_init_32 : decode cX3_init 32 = .ok (.aload_n 0, 1) := by decide +kernel
theorem dX3_init_33 : decode cX3_init 33 = .ok (.new 23, 3) := by decide +kernel
theorem dX3_init_36 : decode cX3_init 36 = .ok (.dup, 1) := by decide +kernel
theorem dX3_init_37 : decode cX3_init 37 = .ok (.invokespecial 25, 3) := by decide +kernel
theorem dX3_init_40 : decode cX3_init 40 = .ok (.putfield 26, 3) := by decide +kernel
theorem dX3_init_43 : decode cX3_init 43 = .ok (.aload_n 0, 1) := by decide +kernel
theorem dX3_init_44 : decode cX3_init 44 = .ok (.iconst 0, 1) := by decide +kernel
theorem dX3_init_45 : decode cX3_init 45 = .ok (.putfield 30, 3) := by decide +kernel
theorem dX3_init_48 : decode cX3_init 48 = .ok (.return_, 1) := by decide +kernel
set_option maxRecDepth 20000 in
theorem ggX3_load_X3_isInMemory : GoodIn wsX3_load wsX3_isInMemory := goodIn_r _ [7] (by decide +kernel) (by decide +kernel)
set_option maxRecDepth 20000 in
theorem gX3_load_X3_isInMemory : GoodIn wsX3_load (va_wsS RX3 34 yX3_isInMemory wsX3_isInMemory) := goodIn_app (goodIn_of _ (by decide +kernel)) ggX3_load_X3_isInMemory
theorem dX3_load_0 : decode cX3_load 0 = .ok (.iload_n 1, 1) := by decide +kernel
theorem dX3_load_1 : decode cX3_load 1 = .ok (.invokestatic 34, 3) := by decide +kernel
theorem dX3_load_4 : decode cX3_load 4 = .ok (.ifCond .ne 13, 3) := by decide +kernel
theorem dX3_load_7 : decode cX3_load 7 = .ok (.new 38, 3) := by decide +kernel
theorem dX3_load_10 : decode cX3_load 10 = .ok (.dup, 1) := by decide +kernel
theorem dX3_load_11 : decode cX3_load 11 = .ok (.ldc 40, 2) := by decide +kernel
theorem dX3_load_13 : decode cX3_load 13 = .ok (.invokespecial 42, 3) := by decide +kernel
theorem dX3_load_16 : decode cX3_load 16 = .ok (.athrow, 1) := by decide +kernel
theorem dX3_load_17 : decode cX3_load 17 = .ok (.aload_n 0, 1) := by decide +kernel
theorem dX3_load_18 : decode cX3_load 18 = .ok (.getfield 9, 3) := by decide +kernel
theorem dX3_load_21 : decode cX3_load 21 = .ok (.iload_n 1, 1) := by decide +kernel
theorem dX3_load_22 : decode cX3_load 22 = .ok (.iconst 2, 1) := by decide +kernel
theorem dX3_load_23 : decode cX3_load 23 = .ok (.iushr, 1) := by decide +kernel
theorem dX3_load_24 : decode cX3_load 24 = .ok (.iload_n 2, 1) := by decide +kernel
theorem dX3_load_25 : decode cX3_load 25 = .ok (.iastore, 1) := by decide +kernel
theorem dX3_load_26 : decode cX3_load 26 = .ok (.return_, 1) := by decide +kernel
set_option maxRecDepth 20000 in
theorem ggX3_word_X3_isInMemory : GoodIn wsX3_word wsX3_isInMemory := goodIn_r _ [7] (by decide +kernel) (by decide +kernel)
set_option maxRecDepth 20000 in
theorem gX3_word_X3_isInMemory : GoodIn wsX3_word (va_wsS RX3 34 yX3_isInMemory wsX3_isInMemory) := goodIn_app (goodIn_of _ (by decide +kernel)) ggX3_word_X3_isInMemory
theorem dX3_word_0 : decode cX3_word 0 = .ok (.iload_n 1, 1) := by decide +kernel
theorem dX3_word_1 : decode cX3_word 1 = .ok (.invokestatic 34, 3) := by decide +kernel
theorem dX3_word_4 : decode cX3_word 4 = .ok (.ifCond .ne 13, 3) := by decide +kernel
theorem dX3_word_7 : decode cX3_word 7 = .ok (.new 38, 3) := by decide +kernel
theorem dX3_word_10 : decode cX3_word 10 = .ok (.dup, 1) := by decide +kernel
theorem dX3_word_11 : decode cX3_word 11 = .ok (.ldc 40, 2) := by decide +kernel
theorem dX3_word_13 : decode cX3_word 13 = .ok (.invokespecial 42, 3) := by decide +kernel
theorem dX3_word_16 : decode cX3_word 16 = .ok (.athrow, 1) := by decide +kernel
theorem dX3_word_17 : decode cX3_word 17 = .ok (.aload_n 0, 1) := by decide +kernel
theorem dX3_word_18 : decode cX3_word 18 = .ok (.getfield 9, 3) := by decide +kernel
theorem dX3_word_21 : decode cX3_word 21 = .ok (.iload_n 1, 1) := by decide +kernel
theorem dX3_word_22 : decode cX3_word 22 = .ok (.iconst 2, 1) := by decide +kernel
theorem dX3_word_23 : decode cX3_word 23 = .ok (.iushr, 1) := by decide +kernel
theorem dX3_word_24 : decode cX3_word 24 = .ok (.iaload, 1) := by decide +kernel
theorem dX3_word_25 : decode cX3_word 25 = .ok (.ireturn, 1) := by decide +kernel
set_option maxRecDepth 20000 in
theorem ggX3_line_X2_setLine : GoodIn wsX3_line wsX2_setLine := goodIn_r _ [7, 8, 18] (by decide +kernel) (by decide +kernel)
set_option maxRecDepth 20000 in
theorem gX3_line_X2_setLine_n47 : GoodIn wsX3_line (wsX2_setLine) := ggX3_line_X2_setLine
theorem dX3_line_0 : decode cX3_line 0 = .ok (.iload_n 1, 1) := by decide +kernel
theorem dX3_line_1 : decode cX3_line 1 = .ok (.ifCond .lt 8, 3) := by decide +kernel
theorem dX3_line_4 : decode cX3_line 4 = .ok (.iload_n 1, 1) := by decide +kernel
theorem dX3_line_5 : decode cX3_line 5 = .ok (.iconst 3, 1) := by decide +kernel
theorem dX3_line_6 : decode cX3_line 6 = .ok (.if_icmp .le 13, 3) := by decide +kernel
theorem dX3_line_9 : decode cX3_line 9 = .ok (.new 38, 3) := by decide +kernel
theorem dX3_line_12 : decode cX3_line 12 = .ok (.dup, 1) := by decide +kernel
theorem dX3_line_13 : decode cX3_line 13 = .ok (.ldc 45, 2) := by decide +kernel
theorem dX3_line_15 : decode cX3_line 15 = .ok (.invokespecial 42, 3) := by decide +kernel
theorem dX3_line_18 : decode cX3_line 18 = .ok (.athrow, 1) := by decide +kernel
theorem dX3_line_19 : decode cX3_line 19 = .ok (.aload_n 0, 1) := by decide +kernel
theorem dX3_line_20 : decode cX3_line 20 = .ok (.getfield 19, 3) := by decide +kernel
theorem dX3_line_23 : decode cX3_line 23 = .ok (.iload_n 1, 1) := by decide +kernel
theorem dX3_line_24 : decode cX3_line 24 = .ok (.iload_n 2, 1) := by decide +kernel
theorem dX3_line_25 : decode cX3_line 25 = .ok (.invokevirtual 47, 3) := by decide +kernel
theorem dX3_line_28 : decode cX3_line 28 = .ok (.return_, 1) := by decide +kernel
theorem dX3_filled_0 : decode cX3_filled 0 = .ok (.aload_n 0, 1) := by decide +kernel
theorem dX3_filled_1 : decode cX3_filled 1 = .ok (.iload_n 1, 1) := by decide +kernel
theorem dX3_filled_2 : decode cX3_filled 2 = .ok (.iconst 3, 1) := by decide +kernel
theorem dX3_filled_3 : decode cX3_filled 3 = .ok (.iand, 1) := by decide +kernel
theorem dX3_filled_4 : decode cX3_filled 4 = .ok (.putfield 51, 3) := by decide +kernel
theorem dX3_filled_7 : decode cX3_filled 7 = .ok (.return_, 1) := by decide +kernel
theorem dX3_jump_0 : decode cX3_jump 0 = .ok (.aload_n 0, 1) := by decide +kernel
theorem dX3_jump_1 : decode cX3_jump 1 = .ok (.iload_n 1, 1) := by decide +kernel
theorem dX3_jump_2 : decode cX3_jump 2 = .ok (.putfield 54, 3) := by decide +kernel
theorem dX3_jump_5 : decode cX3_jump 5 = .ok (.aload_n 0, 1) := by decide +kernel
theorem dX3_jump_6 : decode cX3_jump 6 = .ok (.iconst 0, 1) := by decide +kernel
theorem dX3_jump_7 : decode cX3_jump 7 = .ok (.putfield 30, 3) := by decide +kernel
theorem dX3_jump_10 : decode cX3_jump 10 = .ok (.return_, 1) := by decide +kernel
set_option maxRecDepth 20000 in
theorem ggX3_run_X3_step : GoodIn wsX3_run wsX3_step := goodIn_r _ [11, 6, 12, 13, 14, 15, 16, 17, 18, 19, 20, 21, 22, 23, 10, 24, 25, 5, 26, 27, 28, 29, 30, 31, 32, 33, 34, 35, 36, 37, 38, 39, 40, 41, 42, 43, 44, 45, 46, 47, 48, 49, 50, 51, 52, 53, 54, 55, 56, 57, 58, 59, 60, 61, 62, 63, 64, 65, 66, 67, 68, 69, 70, 71, 72, 73, 74, 75, 76, 77, 78, 79, 80, 81, 82, 83, 84, 85, 86, 87, 88, 89, 90, 91, 92, 93, 94, 95, 96, 97, 98, 99, 100, 101, 102, 103, 104, 105, 106, 107, 108, 109, 110, 111, 112, 113, 114, 115, 116, 117, 118, 119, 120, 121, 122, 123, 124, 125, 126, 127, 128, 129, 130, 131, 132, 133, 134, 135, 136, 137, 138, 139, 140, 141, 142, 143, 144, 145, 146, 147, 148, 149, 150, 151, 152, 153, 154, 155, 156, 157, 158, 159, 160, 161, 162, 163, 164, 165, 166, 167, 168, 169, 170, 171, 172, 173, 174, 175, 176, 177, 178, 179, 180, 181, 182, 183, 184, 185, 186, 187, 188, 189, 190, 191, 192, 193, 194, 195, 196, 197, 198, 199, 200, 201, 202, 203, 204, 205, 206, 207, 208] (by decide +kernel) (by decide +kernel)
set_option maxRecDepth 20000 in
theorem gX3_run_X3_step : GoodIn wsX3_run (wsV RX3 67 RX3 yX3_step wsX3_step) := goodIn_app (goodIn_of _ (by decide +kernel)) ggX3_run_X3_step
theorem dX3_run_0 : decode cX3_run 0 = .ok (.iload_n 1, 1) := by decide +kernel
theorem dX3_run_1 : decode cX3_run 1 = .ok (.sipush 2000, 3) := by decide +kernel
theorem dX3_run_4 : decode cX3_run 4 = .ok (.invokestatic 57, 3) := by decide +kernel
theorem dX3_run_7 : decode cX3_run 7 = .ok (.istore_n 2, 1) := by decide +kernel
theorem dX3_run_8 : decode cX3_run 8 = .ok (.iconst 0, 1) := by decide +kernel
theorem dX3_run_9 : decode cX3_run 9 = .ok (.istore_n 3, 1) := by decide +kernel
theorem dX3_run_10 : decode cX3_run 10 = .ok (.aload_n 0, 1) := by decide +kernel
theorem dX3_run_11 : decode cX3_run 11 = .ok (.iconst 0, 1) := by decide +kernel
theorem dX3_run_12 : decode cX3_run 12 = .ok (.putfield 63, 3) := by decide +kernel
theorem dX3_run_15 : decode cX3_run 15 = .ok (.iload_n 3, 1) := by decide +kernel
theorem dX3_run_16 : decode cX3_run 16 = .ok (.iload_n 2, 1) := by decide +kernel
theorem dX3_run_17 : decode cX3_run 17 = .ok (.if_icmp .ge 28, 3) := by decide +kernel
theorem dX3_run_20 : decode cX3_run 20 = .ok (.aload_n 0, 1) := by decide +kernel
theorem dX3_run_21 : decode cX3_run 21 = .ok (.getfield 30, 3) := by decide +kernel
theorem dX3_run_24 : decode cX3_run 24 = .ok (.iconst 2, 1) := by decide +kernel
theorem dX3_run_25 : decode cX3_run 25 = .ok (.if_icmp .eq 20, 3) := by decide +kernel
theorem dX3_run_28 : decode cX3_run 28 = .ok (.aload_n 0, 1) := by decide +kernel
theorem dX3_run_29 : decode cX3_run 29 = .ok (.getfield 63, 3) := by decide +kernel
theorem dX3_run_32 : decode cX3_run 32 = .ok (.ifCond .ne 13, 3) := by decide +kernel
theorem dX3_run_35 : decode cX3_run 35 = .ok (.aload_n 0, 1) := by decide +kernel
theorem dX3_run_36 : decode cX3_run 36 = .ok (.invokevirtual 67, 3) := by decide +kernel
theorem dX3_run_39 : decode cX3_run 39 = .ok (.iinc 3 1, 3) := by decide +kernel
theorem dX3_run_42 : decode cX3_run 42 = .ok (.goto (-27), 3) := by decide +kernel
theorem dX3_run_45 : decode cX3_run 45 = .ok (.iload_n 3, 1) := by decide +kernel
theorem dX3_run_46 : decode cX3_run 46 = .ok (.ireturn, 1) := by decide +kernel
theorem dX3_state_0 : decode cX3_state 0 = .ok (.aload_n 0, 1) := by decide +kernel
theorem dX3_state_1 : decode cX3_state 1 = .ok (.getfield 30, 3) := by decide +kernel
theorem dX3_state_4 : decode cX3_state 4 = .ok (.ireturn, 1) := by decide +kernel
theorem dX3_register_0 : decode cX3_register 0 = .ok (.iload_n 1, 1) := by decide +kernel
theorem dX3_register_1 : decode cX3_register 1 = .ok (.ifCond .lt 9, 3) := by decide +kernel
theorem dX3_register_4 : decode cX3_register 4 = .ok (.iload_n 1, 1) := by decide +kernel
theorem dX3_register_5 : decode cX3_register 5 = .ok (.bipush 9, 2) := by decide +kernel
theorem dX3_register_7 : decode cX3_register 7 = .ok (.if_icmp .le 13, 3) := by decide +kernel
theorem dX3_register_10 : decode cX3_register 10 = .ok (.new 38, 3) := by decide +kernel
theorem dX3_register_13 : decode cX3_register 13 = .ok (.dup, 1) := by decide +kernel
theorem dX3_register_14 : decode cX3_register 14 = .ok (.ldc 70, 2) := by decide +kernel
theorem dX3_register_16 : decode cX3_register 16 = .ok (.invokespecial 42, 3) := by decide +kernel
theorem dX3_register_19 : decode cX3_register 19 = .ok (.athrow, 1) := by decide +kernel
theorem dX3_register_20 : decode cX3_register 20 = .ok (.iload_n 1, 1) := by decide +kernel
theorem dX3_register_21 : decode cX3_register 21 = .ok (.bipush 8, 2) := by decide +kernel
theorem dX3_register_23 : decode cX3_register 23 = .ok (.if_icmp .ne 8, 3) := by decide +kernel
theorem dX3_register_26 : decode cX3_register 26 = .ok (.aload_n 0, 1) := by decide +kernel
theorem dX3_register_27 : decode cX3_register 27 = .ok (.getfield 54, 3) := by decide +kernel
theorem dX3_register_30 : decode cX3_register 30 = .ok (.ireturn, 1) := by decide +kernel
theorem dX3_register_31 : decode cX3_register 31 = .ok (.iload_n 1, 1) := by decide +kernel
theorem dX3_register_32 : decode cX3_register 32 = .ok (.bipush 9, 2) := by decide +kernel
theorem dX3_register_34 : decode cX3_register 34 = .ok (.if_icmp .ne 16, 3) := by decide +kernel
theorem dX3_register_37 : decode cX3_register 37 = .ok (.aload_n 0, 1) := by decide +kernel
theorem dX3_register_38 : decode cX3_register 38 = .ok (.getfield 72, 3) := by decide +kernel
theorem dX3_register_41 : decode cX3_register 41 = .ok (.ifCond .eq 7, 3) := by decide +kernel
theorem dX3_register_44 : decode cX3_register 44 = .ok (.iconst 1, 1) := by decide +kernel
theorem dX3_register_45 : decode cX3_register 45 = .ok (.goto 4, 3) := by decide +kernel
theorem dX3_register_48 : decode cX3_register 48 = .ok (.iconst 0, 1) := by decide +kernel
theorem dX3_register_49 : decode cX3_register 49 = .ok (.ireturn, 1) := by decide +kernel
theorem dX3_register_50 : decode cX3_register 50 = .ok (.aload_n 0, 1) := by decide +kernel
theorem dX3_register_51 : decode cX3_register 51 = .ok (.getfield 13, 3) := by decide +kernel
theorem dX3_register_54 : decode cX3_register 54 = .ok (.iload_n 1, 1) := by decide +kernel
theorem dX3_register_55 : decode cX3_register 55 = .ok (.iaload, 1) := by decide +kernel
theorem dX3_register_56 : decode cX3_register 56 = .ok (.ireturn, 1) := by decide +kernel
set_option maxRecDepth 20000 in
theorem ggX3_control_X2_get : GoodIn wsX3_control wsX2_get := goodIn_r _ [7, 8, 18] (by decide +kernel) (by decide +kernel)
set_option maxRecDepth 20000 in
theorem gX3_control_X2_get_n77 : GoodIn wsX3_control (wsX2_get) := ggX3_control_X2_get
theorem dX3_control_0 : decode cX3_control 0 = .ok (.iload_n 1, 1) := by decide +kernel
theorem dX3_control_1 : decode cX3_control 1 = .ok (.ifCond .lt 9, 3) := by decide +kernel
theorem dX3_control_4 : decode cX3_control 4 = .ok (.iload_n 1, 1) := by decide +kernel
theorem dX3_control_5 : decode cX3_control 5 = .ok (.bipush 17, 2) := by decide +kernel
theorem dX3_control_7 : decode cX3_control 7 = .ok (.if_icmp .le 13, 3) := by decide +kernel
theorem dX3_control_10 : decode cX3_control 10 = .ok (.new 38, 3) := by decide +kernel
theorem dX3_control_13 : decode cX3_control 13 = .ok (.dup, 1) := by decide +kernel
theorem dX3_control_14 : decode cX3_control 14 = .ok (.ldc 75, 2) := by decide +kernel
theorem dX3_control_16 : decode cX3_control 16 = .ok (.invokespecial 42, 3) := by decide +kernel
theorem dX3_control_19 : decode cX3_control 19 = .ok (.athrow, 1) := by decide +kernel
theorem dX3_control_20 : decode cX3_control 20 = .ok (.aload_n 0, 1) := by decide +kernel
theorem dX3_control_21 : decode cX3_control 21 = .ok (.getfield 19, 3) := by decide +kernel
theorem dX3_control_24 : decode cX3_control 24 = .ok (.iload_n 1, 1) := by decide +kernel
theorem dX3_control_25 : decode cX3_control 25 = .ok (.invokevirtual 77, 3) := by decide +kernel
theorem dX3_control_28 : decode cX3_control 28 = .ok (.ireturn, 1) := by decide +kernel
set_option maxRecDepth 20000 in
theorem ggX3_entry_X0_get : GoodIn wsX3_entry wsX0_get := goodIn_r _ [7, 8, 18] (by decide +kernel) (by decide +kernel)
set_option maxRecDepth 20000 in
theorem gX3_entry_X0_get_n83 : GoodIn wsX3_entry (wsX0_get) := ggX3_entry_X0_get
theorem dX3_entry_0 : decode cX3_entry 0 = .ok (.iload_n 1, 1) := by decide +kernel
theorem dX3_entry_1 : decode cX3_entry 1 = .ok (.ifCond .lt 17, 3) := by decide +kernel
theorem dX3_entry_4 : decode cX3_entry 4 = .ok (.iload_n 1, 1) := by decide +kernel
theorem dX3_entry_5 : decode cX3_entry 5 = .ok (.iconst 3, 1) := by decide +kernel
theorem dX3_entry_6 : decode cX3_entry 6 = .ok (.if_icmp .gt 12, 3) := by decide +kernel
theorem dX3_entry_9 : decode cX3_entry 9 = .ok (.iload_n 2, 1) := by decide +kernel
theorem dX3_entry_10 : decode cX3_entry 10 = .ok (.ifCond .lt 8, 3) := by decide +kernel
theorem dX3_entry_13 : decode cX3_entry 13 = .ok (.iload_n 2, 1) := by decide +kernel
theorem dX3_entry_14 : decode cX3_entry 14 = .ok (.iconst 5, 1) := by decide +kernel
theorem dX3_entry_15 : decode cX3_entry 15 = .ok (.if_icmp .le 13, 3) := by decide +kernel
theorem dX3_entry_18 : decode cX3_entry 18 = .ok (.new 38, 3) := by decide +kernel
theorem dX3_entry_21 : decode cX3_entry 21 = .ok (.dup, 1) := by decide +kernel
theorem dX3_entry_22 : decode cX3_entry 22 = .ok (.ldc 81, 2) := by decide +kernel
theorem dX3_entry_24 : decode cX3_entry 24 = .ok (.invokespecial 42, 3) := by decide +kernel
theorem dX3_entry_27 : decode cX3_entry 27 = .ok (.athrow, 1) := by decide +kernel
theorem dX3_entry_28 : decode cX3_entry 28 = .ok (.aload_n 0, 1) := by decide +kernel
theorem dX3_entry_29 : decode cX3_entry 29 = .ok (.getfield 26, 3) := by decide +kernel
theorem dX3_entry_32 : decode cX3_entry 32 = .ok (.iload_n 1, 1) := by decide +kernel
theorem dX3_entry_33 : decode cX3_entry 33 = .ok (.iload_n 2, 1) := by decide +kernel
theorem dX3_entry_34 : decode cX3_entry 34 = .ok (.invokevirtual 83, 3) := by decide +kernel
theorem dX3_entry_37 : decode cX3_entry 37 = .ok (.ireturn, 1) := by decide +kernel
theorem dX3_isInMemory_0 : decode cX3_isInMemory 0 = .ok (.iload_n 0, 1) := by decide +kernel
theorem dX3_isInMemory_1 : decode cX3_isInMemory 1 = .ok (.iconst 3, 1) := by decide +kernel
theorem dX3_isInMemory_2 : decode cX3_isInMemory 2 = .ok (.iand, 1) := by decide +kernel
theorem dX3_isInMemory_3 : decode cX3_isInMemory 3 = .ok (.ifCond .ne 16, 3) := by decide +kernel
theorem dX3_isInMemory_6 : decode cX3_isInMemory 6 = .ok (.iload_n 0, 1) := by decide +kernel
theorem dX3_isInMemory_7 : decode cX3_isInMemory 7 = .ok (.iconst 2, 1) := by decide +kernel
theorem dX3_isInMemory_8 : decode cX3_isInMemory 8 = .ok (.iushr, 1) := by decide +kernel
theorem dX3_isInMemory_9 : decode cX3_isInMemory 9 = .ok (.sipush 512, 3) := by decide +kernel
theorem dX3_isInMemory_12 : decode cX3_isInMemory 12 = .ok (.if_icmp .ge 7, 3) := by decide +kernel
theorem dX3_isInMemory_15 : decode cX3_isInMemory 15 = .ok (.iconst 1, 1) := by decide +kernel
theorem dX3_isInMemory_16 : decode cX3_isInMemory 16 = .ok (.goto 4, 3) := by decide +kernel
theorem dX3_isInMemory_19 : decode cX3_isInMemory 19 = .ok (.iconst 0, 1) := by decide +kernel
theorem dX3_isInMemory_20 : decode cX3_isInMemory 20 = .ok (.ireturn, 1) := by decide +kernel
set_option maxRecDepth 20000 in
theorem ggX3_step_X2_isAsked : GoodIn wsX3_step wsX2_isAsked := goodIn_r _ [6, 7, 199] (by decide +kernel) (by decide +kernel)
set_option maxRecDepth 20000 in
theorem gX3_step_X2_isAsked_n85 : GoodIn wsX3_step (wsX2_isAsked) := ggX3_step_X2_isAsked
set_option maxRecDepth 20000 in
theorem ggX3_step_X2_isEnabled : GoodIn wsX3_step wsX2_isEnabled := goodIn_r _ [10, 7, 199] (by decide +kernel) (by decide +kernel)
set_option maxRecDepth 20000 in
theorem gX3_step_X2_isEnabled_n89 : GoodIn wsX3_step (wsX2_isEnabled) := ggX3_step_X2_isEnabled
set_option maxRecDepth 20000 in
theorem ggX3_step_X3_raise : GoodIn wsX3_step wsX3_raise := goodIn_r _ [15, 2, 16, 17, 18, 4, 19, 20, 7, 21, 22, 23, 24, 25, 26, 190, 191, 192, 193, 194, 195, 196, 197, 198, 199] (by decide +kernel) (by decide +kernel)
set_option maxRecDepth 20000 in
theorem gX3_step_X3_raise : GoodIn wsX3_step (wsV RX3 92 RX3 yX3_raise wsX3_raise) := goodIn_app (goodIn_of _ (by decide +kernel)) ggX3_step_X3_raise
set_option maxRecDepth 20000 in
theorem ggX3_step_X3_perform : GoodIn wsX3_step wsX3_perform := goodIn_r _ [30, 16, 31, 32, 33, 34, 14, 35, 2, 36, 37, 4, 38, 39, 7, 40, 41, 42, 43, 44, 45, 46, 47, 24, 25, 26, 48, 49, 50, 51, 52, 53, 54, 55, 56, 57, 58, 59, 60, 61, 62, 63, 64, 65, 1, 66, 67, 68, 11, 12, 13, 15, 17, 18, 19, 20, 21, 22, 23, 69, 70, 71, 72, 73, 74, 75, 76, 77, 78, 79, 80, 81, 82, 83, 84, 85, 86, 87, 88, 89, 90, 91, 92, 93, 94, 95, 96, 97, 98, 99, 100, 101, 102, 103, 104, 105, 106, 107, 108, 109, 110, 111, 112, 113, 114, 115, 116, 117, 118, 119, 120, 121, 122, 123, 124, 125, 126, 127, 128, 129, 130, 131, 132, 133, 134, 135, 136, 137, 138, 139, 140, 141, 142, 143, 144, 145, 146, 147, 148, 149, 150, 151, 152, 153, 154, 155, 156, 157, 158, 159, 160, 161, 162, 163, 164, 165, 166, 167, 168, 169, 170, 171, 172, 173, 174, 175, 176, 177, 178, 179, 180, 181, 182, 183, 184, 185, 186, 190, 191, 192, 193, 194, 195, 196, 197, 198, 199, 200] (by decide +kernel) (by decide +kernel)
set_option maxRecDepth 20000 in
theorem gX3_step_X3_perform : GoodIn wsX3_step (wsV RX3 96 RX3 yX3_perform wsX3_perform) := goodIn_app (goodIn_of _ (by decide +kernel)) ggX3_step_X3_perform
set_option maxRecDepth 20000 in
theorem ggX3_step_X2_tick : GoodIn wsX3_step wsX2_tick := goodIn_r _ [189, 7, 133, 199] (by decide +kernel) (by decide +kernel)
set_option maxRecDepth 20000 in
theorem gX3_step_X2_tick_n99 : GoodIn wsX3_step (wsX2_tick) := ggX3_step_X2_tick
theorem dX3_step_0 : decode cX3_step 0 = .ok (.aload_n 0, 1) := by decide +kernel
theorem dX3_step_1 : decode cX3_step 1 = .ok (.getfield 30, 3) := by decide +kernel
theorem dX3_step_4 : decode cX3_step 4 = .ok (.iconst 1, 1) := by decide +kernel
theorem dX3_step_5 : decode cX3_step 5 = .ok (.if_icmp .ne 21, 3) := by decide +kernel
theorem dX3_step_8 : decode cX3_step 8 = .ok (.aload_n 0, 1) := by decide +kernel
theorem dX3_step_9 : decode cX3_step 9 = .ok (.getfield 19, 3) := by decide +kernel
theorem dX3_step_12 : decode cX3_step 12 = .ok (.invokevirtual 85, 3) := by decide +kernel
theorem dX3_step_15 : decode cX3_step 15 = .ok (.ifCond .eq 43, 3) := by decide +kernel
theorem dX3_step_18 : decode cX3_step 18 = .ok (.aload_n 0, 1) := by decide +kernel
theorem dX3_step_19 : decode cX3_step 19 = .ok (.iconst 0, 1) := by decide +kernel
theorem dX3_step_20 : decode cX3_step 20 = .ok (.putfield 30, 3) := by decide +kernel
theorem dX3_step_23 : decode cX3_step 23 = .ok (.goto 35, 3) := by decide +kernel
theorem dX3_step_26 : decode cX3_step 26 = .ok (.aload_n 0, 1) := by decide +kernel
theorem dX3_step_27 : decode cX3_step 27 = .ok (.getfield 19, 3) := by decide +kernel
theorem dX3_step_30 : decode cX3_step 30 = .ok (.invokevirtual 89, 3) := by decide +kernel
theorem dX3_step_33 : decode cX3_step 33 = .ok (.ifCond .eq 21, 3) := by decide +kernel
theorem dX3_step_36 : decode cX3_step 36 = .ok (.aload_n 0, 1) := by decide +kernel
theorem dX3_step_37 : decode cX3_step 37 = .ok (.getfield 19, 3) := by decide +kernel
theorem dX3_step_40 : decode cX3_step 40 = .ok (.invokevirtual 85, 3) := by decide +kernel
theorem dX3_step_43 : decode cX3_step 43 = .ok (.ifCond .eq 11, 3) := by decide +kernel
theorem dX3_step_46 : decode cX3_step 46 = .ok (.aload_n 0, 1) := by decide +kernel
theorem dX3_step_47 : decode cX3_step 47 = .ok (.iconst 0, 1) := by decide +kernel
theorem dX3_step_48 : decode cX3_step 48 = .ok (.invokevirtual 92, 3) := by decide +kernel
theorem dX3_step_51 : decode cX3_step 51 = .ok (.goto 7, 3) := by decide +kernel
theorem dX3_step_54 : decode cX3_step 54 = .ok (.aload_n 0, 1) := by decide +kernel
theorem dX3_step_55 : decode cX3_step 55 = .ok (.invokevirtual 96, 3) := by decide +kernel
theorem dX3_step_58 : decode cX3_step 58 = .ok (.aload_n 0, 1) := by decide +kernel
theorem dX3_step_59 : decode cX3_step 59 = .ok (.getfield 30, 3) := by decide +kernel
theorem dX3_step_62 : decode cX3_step 62 = .ok (.iconst 2, 1) := by decide +kernel
theorem dX3_step_63 : decode cX3_step 63 = .ok (.if_icmp .eq 10, 3) := by decide +kernel
theorem dX3_step_66 : decode cX3_step 66 = .ok (.aload_n 0, 1) := by decide +kernel
theorem dX3_step_67 : decode cX3_step 67 = .ok (.getfield 19, 3) := by decide +kernel
theorem dX3_step_70 : decode cX3_step 70 = .ok (.invokevirtual 99, 3) := by decide +kernel
theorem dX3_step_73 : decode cX3_step 73 = .ok (.return_, 1) := by decide +kernel
set_option maxRecDepth 20000 in
theorem ggX3_perform_X3_find : GoodIn wsX3_perform wsX3_find := goodIn_r _ [7, 8, 9, 10, 11, 12, 13, 14, 15, 16, 17, 18, 19, 20, 6, 21, 22, 23, 24, 25, 26, 27, 28, 29, 30, 31, 32, 33, 34, 35, 36, 37, 38, 39, 177, 178, 179, 180, 181, 182, 183, 184, 185, 186, 187] (by decide +kernel) (by decide +kernel)
set_option maxRecDepth 20000 in
theorem gX3_perform_X3_find : GoodIn wsX3_perform (wsV RX3 102 RX3 yX3_find wsX3_find) := goodIn_app (goodIn_of _ (by decide +kernel)) ggX3_perform_X3_find
set_option maxRecDepth 20000 in
theorem ggX3_perform_X3_fail : GoodIn wsX3_perform wsX3_fail := goodIn_r _ [43, 44, 8, 45, 11, 46, 47, 14, 48, 49, 50, 6, 51, 1, 52, 53, 54, 55, 56, 57, 58, 23, 24, 25, 177, 178, 179, 180, 181, 182, 183, 184, 185, 186] (by decide +kernel) (by decide +kernel)
set_option maxRecDepth 20000 in
theorem gX3_perform_X3_fail : GoodIn wsX3_perform (wsV RX3 105 RX3 yX3_fail wsX3_fail) := goodIn_app (goodIn_of _ (by decide +kernel)) ggX3_perform_X3_fail
set_option maxRecDepth 20000 in
theorem ggX3_perform_X3_calculate : GoodIn wsX3_perform wsX3_calculate := goodIn_r _ [62, 1, 63, 64, 65, 6, 66, 67, 68, 69, 70, 71, 72, 73, 74, 75, 76, 77, 78, 79, 80, 81, 82, 83, 84, 85, 86, 87, 88, 89, 177, 178, 179, 180, 181, 182, 183, 184, 185] (by decide +kernel) (by decide +kernel)
set_option maxRecDepth 20000 in
theorem gX3_perform_X3_calculate : GoodIn wsX3_perform (wsV RX3 111 RX3 yX3_calculate wsX3_calculate) := goodIn_app (goodIn_of _ (by decide +kernel)) ggX3_perform_X3_calculate
set_option maxRecDepth 20000 in
theorem ggX3_perform_X3_loadWord : GoodIn wsX3_perform wsX3_loadWord := goodIn_r _ [93, 2, 94, 1, 68, 69, 70, 6, 71, 72, 77, 78, 79, 3, 4, 5, 7, 8, 9, 10, 11, 12, 13, 14, 15, 16, 17, 18, 19, 20, 21, 22, 23, 24, 25, 26, 27, 28, 29, 30, 31, 32, 33, 34, 35, 36, 37, 38, 39, 40, 41, 42, 43, 44, 45, 46, 47, 48, 49, 50, 51, 52, 53, 54, 55, 56, 57, 58, 86, 87, 88, 89, 177, 178, 179, 180, 181, 182, 183, 184, 185, 186, 187] (by decide +kernel) (by decide +kernel)
set_option maxRecDepth 20000 in
theorem gX3_perform_X3_loadWord : GoodIn wsX3_perform (wsV RX3 114 RX3 yX3_loadWord wsX3_loadWord) := goodIn_app (goodIn_of _ (by decide +kernel)) ggX3_perform_X3_loadWord
set_option maxRecDepth 20000 in
theorem ggX3_perform_X3_storeWord : GoodIn wsX3_perform wsX3_storeWord := goodIn_r _ [98, 94, 1, 2, 86, 87, 88, 6, 89, 72, 68, 69, 70, 71, 77, 78, 79, 3, 4, 5, 7, 8, 9, 10, 11, 12, 13, 14, 15, 16, 17, 18, 19, 20, 21, 22, 23, 24, 25, 26, 27, 28, 29, 30, 31, 32, 33, 34, 35, 36, 37, 38, 39, 40, 41, 42, 43, 44, 45, 46, 47, 48, 49, 50, 51, 52, 53, 54, 55, 56, 57, 58, 99, 100, 101, 102, 177, 178, 179, 180, 181, 182, 183, 184, 185, 186, 187] (by decide +kernel) (by decide +kernel)
set_option maxRecDepth 20000 in
theorem gX3_perform_X3_storeWord : GoodIn wsX3_perform (wsV RX3 117 RX3 yX3_storeWord wsX3_storeWord) := goodIn_app (goodIn_of _ (by decide +kernel)) ggX3_perform_X3_storeWord
set_option maxRecDepth 20000 in
theorem ggX3_perform_X3_branch : GoodIn wsX3_perform wsX3_branch := goodIn_r _ [106, 1, 68, 69, 70, 6, 71, 72, 77, 78, 79, 86, 87, 88, 89, 99, 100, 101, 102, 107, 108, 109, 177, 178, 179, 180, 181, 182, 183, 184, 185] (by decide +kernel) (by decide +kernel)
set_option maxRecDepth 20000 in
theorem gX3_perform_X3_branch : GoodIn wsX3_perform (wsV RX3 120 RX3 yX3_branch wsX3_branch) := goodIn_app (goodIn_of _ (by decide +kernel)) ggX3_perform_X3_branch
set_option maxRecDepth 20000 in
theorem ggX3_perform_X3_raise : GoodIn wsX3_perform wsX3_raise := goodIn_r _ [51, 8, 1, 52, 53, 11, 54, 55, 14, 56, 57, 58, 23, 24, 25, 177, 178, 179, 180, 181, 182, 183, 184, 185, 186] (by decide +kernel) (by decide +kernel)
set_option maxRecDepth 20000 in
theorem gX3_perform_X3_raise : GoodIn wsX3_perform (wsV RX3 92 RX3 yX3_raise wsX3_raise) := goodIn_app (goodIn_of _ (by decide +kernel)) ggX3_perform_X3_raise
set_option maxRecDepth 20000 in
theorem ggX3_perform_X3_performPrivileged : GoodIn wsX3_perform wsX3_performPrivileged := goodIn_r _ [113, 8, 44, 1, 34, 11, 35, 36, 14, 48, 49, 50, 6, 51, 52, 53, 54, 55, 56, 57, 58, 23, 24, 25, 114, 115, 116, 117, 83, 84, 85, 99, 100, 101, 102, 72, 118, 119, 120, 121, 122, 123, 68, 69, 70, 71, 86, 87, 88, 89, 124, 125, 126, 127, 128, 129, 130, 131, 132, 22, 26, 27, 28, 29, 30, 133, 134, 135, 136, 137, 45, 46, 47, 138, 139, 140, 141, 31, 32, 33, 142, 143, 144, 145, 146, 147, 148, 149, 150, 151, 152, 153, 154, 155, 156, 157, 158, 159, 160, 161, 162, 163, 164, 165, 166, 167, 168, 169, 170, 171, 172, 94, 173, 174, 175, 176, 177, 178, 179, 180, 181, 182, 183, 184, 185, 186, 187] (by decide +kernel) (by decide +kernel)
set_option maxRecDepth 20000 in
theorem gX3_perform_X3_performPrivileged : GoodIn wsX3_perform (wsV RX3 123 RX3 yX3_performPrivileged wsX3_performPrivileged) := goodIn_app (goodIn_of _ (by decide +kernel)) ggX3_perform_X3_performPrivileged
theorem dX3_perform_0 : decode cX3_perform 0 = .ok (.aload_n 0, 1) := by decide +kernel
theorem dX3_perform_1 : decode cX3_perform 1 = .ok (.aload_n 0, 1) := by decide +kernel
theorem dX3_perform_2 : decode cX3_perform 2 = .ok (.getfield 54, 3) := by decide +kernel
theorem dX3_perform_5 : decode cX3_perform 5 = .ok (.iconst 0, 1) := by decide +kernel
theorem dX3_perform_6 : decode cX3_perform 6 = .ok (.invokevirtual 102, 3) := by decide +kernel
theorem dX3_perform_9 : decode cX3_perform 9 = .ok (.istore_n 1, 1) := by decide +kernel
theorem dX3_perform_10 : decode cX3_perform 10 = .ok (.iload_n 1, 1) := by decide +kernel
theorem dX3_perform_11 : decode cX3_perform 11 = .ok (.ifCond .ge 13, 3) := by decide +kernel
theorem dX3_perform_14 : decode cX3_perform 14 = .ok (.aload_n 0, 1) := by decide +kernel
theorem dX3_perform_15 : decode cX3_perform 15 = .ok (.iload_n 1, 1) := by decide +kernel
theorem dX3_perform_16 : decode cX3_perform 16 = .ok (.aload_n 0, 1) := by decide +kernel
theorem dX3_perform_17 : decode cX3_perform 17 = .ok (.getfield 54, 3) := by decide +kernel
theorem dX3_perform_20 : decode cX3_perform 20 = .ok (.invokevirtual 105, 3) := by decide +kernel
theorem dX3_perform_23 : decode cX3_perform 23 = .ok (.return_, 1) := by decide +kernel
theorem dX3_perform_24 : decode cX3_perform 24 = .ok (.aload_n 0, 1) := by decide +kernel
theorem dX3_perform_25 : decode cX3_perform 25 = .ok (.getfield 9, 3) := by decide +kernel
theorem dX3_perform_28 : decode cX3_perform 28 = .ok (.iload_n 1, 1) := by decide +kernel
theorem dX3_perform_29 : decode cX3_perform 29 = .ok (.iaload, 1) := by decide +kernel
theorem dX3_perform_30 : decode cX3_perform 30 = .ok (.istore_n 2, 1) := by decide +kernel
theorem dX3_perform_31 : decode cX3_perform 31 = .ok (.iload_n 2, 1) := by decide +kernel
theorem dX3_perform_32 : decode cX3_perform 32 = .ok (.bipush 24, 2) := by decide +kernel
theorem dX3_perform_34 : decode cX3_perform 34 = .ok (.iushr, 1) := by decide +kernel
theorem dX3_perform_35 : decode cX3_perform 35 = .ok (.istore_n 3, 1) := by decide +kernel
theorem dX3_perform_36 : decode cX3_perform 36 = .ok (.iload_n 3, 1) := by decide +kernel
theorem dX3_perform_37 : decode cX3_perform 37 = .ok (.iconst 1, 1) := by decide +kernel
theorem dX3_perform_38 : decode cX3_perform 38 = .ok (.if_icmp .lt 18, 3) := by decide +kernel
theorem dX3_perform_41 : decode cX3_perform 41 = .ok (.iload_n 3, 1) := by decide +kernel
theorem dX3_perform_42 : decode cX3_perform 42 = .ok (.bipush 7, 2) := by decide +kernel
theorem dX3_perform_44 : decode cX3_perform 44 = .ok (.if_icmp .gt 12, 3) := by decide +kernel
theorem dX3_perform_47 : decode cX3_perform 47 = .ok (.aload_n 0, 1) := by decide +kernel
theorem dX3_perform_48 : decode cX3_perform 48 = .ok (.iload_n 3, 1) := by decide +kernel
theorem dX3_perform_49 : decode cX3_perform 49 = .ok (.iload_n 2, 1) := by decide +kernel
theorem dX3_perform_50 : decode cX3_perform 50 = .ok (.invokevirtual 111, 3) := by decide +kernel
theorem dX3_perform_53 : decode cX3_perform 53 = .ok (.goto 123, 3) := by decide +kernel
theorem dX3_perform_56 : decode cX3_perform 56 = .ok (.iload_n 3, 1) := by decide +kernel
theorem dX3_perform_57 : decode cX3_perform 57 = .ok (.bipush 8, 2) := by decide +kernel
theorem dX3_perform_59 : decode cX3_perform 59 = .ok (.if_icmp .eq 9, 3) := by decide +kernel
theorem dX3_perform_62 : decode cX3_perform 62 = .ok (.iload_n 3, 1) := by decide +kernel
theorem dX3_perform_63 : decode cX3_perform 63 = .ok (.bipush 10, 2) := by decide +kernel
theorem dX3_perform_65 : decode cX3_perform 65 = .ok (.if_icmp .ne 12, 3) := by decide +kernel
theorem dX3_perform_68 : decode cX3_perform 68 = .ok (.aload_n 0, 1) := by decide +kernel
theorem dX3_perform_69 : decode cX3_perform 69 = .ok (.iload_n 3, 1) := by decide +kernel
theorem dX3_perform_70 : decode cX3_perform 70 = .ok (.iload_n 2, 1) := by decide +kernel
theorem dX3_perform_71 : decode cX3_perform 71 = .ok (.invokevirtual 114, 3) := by decide +kernel
theorem dX3_perform_74 : decode cX3_perform 74 = .ok (.goto 102, 3) := by decide +kernel
theorem dX3_perform_77 : decode cX3_perform 77 = .ok (.iload_n 3, 1) := by decide +kernel
theorem dX3_perform_78 : decode cX3_perform 78 = .ok (.bipush 9, 2) := by decide +kernel
theorem dX3_perform_80 : decode cX3_perform 80 = .ok (.if_icmp .eq 9, 3) := by decide +kernel
theorem dX3_perform_83 : decode cX3_perform 83 = .ok (.iload_n 3, 1) := by decide +kernel
theorem dX3_perform_84 : decode cX3_perform 84 = .ok (.bipush 11, 2) := by decide +kernel
theorem dX3_perform_86 : decode cX3_perform 86 = .ok (.if_icmp .ne 12, 3) := by decide +kernel
theorem dX3_perform_89 : decode cX3_perform 89 = .ok (.aload_n 0, 1) := by decide +kernel
theorem dX3_perform_90 : decode cX3_perform 90 = .ok (.iload_n 3, 1) := by decide +kernel
theorem dX3_perform_91 : decode cX3_perform 91 = .ok (.iload_n 2, 1) := by decide +kernel
theorem dX3_perform_92 : decode cX3_perform 92 = .ok (.invokevirtual 117, 3) := by decide +kernel
theorem dX3_perform_95 : decode cX3_perform 95 = .ok (.goto 81, 3) := by decide +kernel
theorem dX3_perform_98 : decode cX3_perform 98 = .ok (.iload_n 3, 1) := by decide +kernel
theorem dX3_perform_99 : decode cX3_perform 99 = .ok (.bipush 12, 2) := by decide +kernel
theorem dX3_perform_101 : decode cX3_perform 101 = .ok (.if_icmp .lt 18, 3) := by decide +kernel
theorem dX3_perform_104 : decode cX3_perform 104 = .ok (.iload_n 3, 1) := by decide +kernel
theorem dX3_perform_105 : decode cX3_perform 105 = .ok (.bipush 15, 2) := by decide +kernel
theorem dX3_perform_107 : decode cX3_perform 107 = .ok (.if_icmp .gt 12, 3) := by decide +kernel
theorem dX3_perform_110 : decode cX3_perform 110 = .ok (.aload_n 0, 1) := by decide +kernel
theorem dX3_perform_111 : decode cX3_perform 111 = .ok (.iload_n 3, 1) := by decide +kernel
theorem dX3_perform_112 : decode cX3_perform 112 = .ok (.iload_n 2, 1) := by decide +kernel
theorem dX3_perform_113 : decode cX3_perform 113 = .ok (.invokevirtual 120, 3) := by decide +kernel
theorem dX3_perform_116 : decode cX3_perform 116 = .ok (.goto 60, 3) := by decide +kernel
theorem dX3_perform_119 : decode cX3_perform 119 = .ok (.iload_n 3, 1) := by decide +kernel
theorem dX3_perform_120 : decode cX3_perform 120 = .ok (.bipush 16, 2) := by decide +kernel
theorem dX3_perform_122 : decode cX3_perform 122 = .ok (.if_icmp .ne 12, 3) := by decide +kernel
theorem dX3_perform_125 : decode cX3_perform 125 = .ok (.aload_n 0, 1) := by decide +kernel
theorem dX3_perform_126 : decode cX3_perform 126 = .ok (.bipush 11, 2) := by decide +kernel
theorem dX3_perform_128 : decode cX3_perform 128 = .ok (.invokevirtual 92, 3) := by decide +kernel
theorem dX3_perform_131 : decode cX3_perform 131 = .ok (.goto 45, 3) := by decide +kernel
theorem dX3_perform_134 : decode cX3_perform 134 = .ok (.iload_n 3, 1) := by decide +kernel
theorem dX3_perform_135 : decode cX3_perform 135 = .ok (.bipush 17, 2) := by decide +kernel
theorem dX3_perform_137 : decode cX3_perform 137 = .ok (.if_icmp .ne 12, 3) := by decide +kernel
theorem dX3_perform_140 : decode cX3_perform 140 = .ok (.aload_n 0, 1) := by decide +kernel
theorem dX3_perform_141 : decode cX3_perform 141 = .ok (.bipush 12, 2) := by decide +kernel
theorem dX3_perform_143 : decode cX3_perform 143 = .ok (.invokevirtual 92, 3) := by decide +kernel
theorem dX3_perform_146 : decode cX3_perform 146 = .ok (.goto 30, 3) := by decide +kernel
theorem dX3_perform_149 : decode cX3_perform 149 = .ok (.iload_n 3, 1) := by decide +kernel
theorem dX3_perform_150 : decode cX3_perform 150 = .ok (.bipush 18, 2) := by decide +kernel
theorem dX3_perform_152 : decode cX3_perform 152 = .ok (.if_icmp .lt 18, 3) := by decide +kernel
theorem dX3_perform_155 : decode cX3_perform 155 = .ok (.iload_n 3, 1) := by decide +kernel
theorem dX3_perform_156 : decode cX3_perform 156 = .ok (.bipush 27, 2) := by decide +kernel
theorem dX3_perform_158 : decode cX3_perform 158 = .ok (.if_icmp .gt 12, 3) := by decide +kernel
theorem dX3_perform_161 : decode cX3_perform 161 = .ok (.aload_n 0, 1) := by decide +kernel
theorem dX3_perform_162 : decode cX3_perform 162 = .ok (.iload_n 3, 1) := by decide +kernel
theorem dX3_perform_163 : decode cX3_perform 163 = .ok (.iload_n 2, 1) := by decide +kernel
theorem dX3_perform_164 : decode cX3_perform 164 = .ok (.invokevirtual 123, 3) := by decide +kernel
theorem dX3_perform_167 : decode cX3_perform 167 = .ok (.goto 9, 3) := by decide +kernel
theorem dX3_perform_170 : decode cX3_perform 170 = .ok (.aload_n 0, 1) := by decide +kernel
theorem dX3_perform_171 : decode cX3_perform 171 = .ok (.bipush 13, 2) := by decide +kernel
theorem dX3_perform_173 : decode cX3_perform 173 = .ok (.invokevirtual 92, 3) := by decide +kernel
theorem dX3_perform_176 : decode cX3_perform 176 = .ok (.return_, 1) := by decide +kernel
set_option maxRecDepth 20000 in
theorem ggX3_performPrivileged_X2_level : GoodIn wsX3_performPrivileged wsX2_level := goodIn_r _ [7, 8, 125] (by decide +kernel) (by decide +kernel)
set_option maxRecDepth 20000 in
theorem gX3_performPrivileged_X2_level_n126 : GoodIn wsX3_performPrivileged (wsX2_level) := ggX3_performPrivileged_X2_level
set_option maxRecDepth 20000 in
theorem ggX3_performPrivileged_X3_raise : GoodIn wsX3_performPrivileged wsX3_raise := goodIn_r _ [13, 1, 3, 14, 15, 5, 16, 17, 8, 18, 19, 20, 21, 22, 23, 116, 117, 118, 119, 120, 121, 122, 123, 124, 125] (by decide +kernel) (by decide +kernel)
set_option maxRecDepth 20000 in
theorem gX3_performPrivileged_X3_raise : GoodIn wsX3_performPrivileged (wsV RX3 92 RX3 yX3_raise wsX3_raise) := goodIn_app (goodIn_of _ (by decide +kernel)) ggX3_performPrivileged_X3_raise
set_option maxRecDepth 20000 in
theorem ggX3_performPrivileged_X3_useControl : GoodIn wsX3_performPrivileged wsX3_useControl := goodIn_r _ [27, 1, 3, 28, 29, 12, 30, 9, 10, 11, 13, 14, 15, 5, 16, 17, 8, 18, 19, 20, 21, 22, 23, 31, 32, 33, 34, 35, 36, 37, 38, 39, 40, 41, 42, 43, 44, 45, 46, 47, 48, 49, 116, 117, 118, 119, 120, 121, 122, 123, 124, 125] (by decide +kernel) (by decide +kernel)
set_option maxRecDepth 20000 in
theorem gX3_performPrivileged_X3_useControl : GoodIn wsX3_performPrivileged (wsV RX3 130 RX3 yX3_useControl wsX3_useControl) := goodIn_app (goodIn_of _ (by decide +kernel)) ggX3_performPrivileged_X3_useControl
set_option maxRecDepth 20000 in
theorem ggX3_performPrivileged_X3_useBuffer : GoodIn wsX3_performPrivileged wsX3_useBuffer := goodIn_r _ [53, 1, 54, 3, 21, 5, 22, 23, 8, 55, 56, 57, 12, 58, 59, 60, 61, 62, 63, 64, 65, 66, 67, 68, 69, 70, 71, 72, 73, 74, 75, 76, 77, 78, 79, 80, 81, 82, 83, 84, 85, 86, 87, 88, 89, 90, 91, 92, 93, 94, 95, 116, 117, 118, 119, 120, 121, 122, 123, 124, 125, 126] (by decide +kernel) (by decide +kernel)
set_option maxRecDepth 20000 in
theorem gX3_performPrivileged_X3_useBuffer : GoodIn wsX3_performPrivileged (wsV RX3 133 RX3 yX3_useBuffer wsX3_useBuffer) := goodIn_app (goodIn_of _ (by decide +kernel)) ggX3_performPrivileged_X3_useBuffer
set_option maxRecDepth 20000 in
theorem ggX3_performPrivileged_X3_emptyEntries : GoodIn wsX3_performPrivileged wsX3_emptyEntries := goodIn_r _ [99, 59, 3, 28, 29, 12, 30, 9, 10, 11, 13, 1, 14, 15, 5, 16, 17, 8, 18, 19, 20, 21, 22, 23, 31, 32, 33, 34, 35, 42, 43, 44, 45, 100, 61, 101, 102, 64, 103, 104, 105, 106, 116, 117, 118, 119, 120, 121, 122, 123, 124, 125, 126] (by decide +kernel) (by decide +kernel)
set_option maxRecDepth 20000 in
theorem gX3_performPrivileged_X3_emptyEntries : GoodIn wsX3_performPrivileged (wsV RX3 136 RX3 yX3_emptyEntries wsX3_emptyEntries) := goodIn_app (goodIn_of _ (by decide +kernel)) ggX3_performPrivileged_X3_emptyEntries
set_option maxRecDepth 20000 in
theorem ggX3_performPrivileged_X3_goBack : GoodIn wsX3_performPrivileged wsX3_goBack := goodIn_r _ [110, 1, 3, 111, 112, 5, 113, 114, 8, 115, 87, 88, 89, 21, 22, 23, 116, 117, 118, 119, 120, 121, 122, 123, 124, 125] (by decide +kernel) (by decide +kernel)
set_option maxRecDepth 20000 in
theorem gX3_performPrivileged_X3_goBack : GoodIn wsX3_performPrivileged (wsV RX3 139 RX3 yX3_goBack wsX3_goBack) := goodIn_app (goodIn_of _ (by decide +kernel)) ggX3_performPrivileged_X3_goBack
theorem dX3_performPrivileged_0 : decode cX3_performPrivileged 0 = .ok (.aload_n 0, 1) := by decide +kernel
theorem dX3_performPrivileged_1 : decode cX3_performPrivileged 1 = .ok (.getfield 19, 3) := by decide +kernel
theorem dX3_performPrivileged_4 : decode cX3_performPrivileged 4 = .ok (.invokevirtual 126, 3) := by decide +kernel
theorem dX3_performPrivileged_7 : decode cX3_performPrivileged 7 = .ok (.ifCond .eq 12, 3) := by decide +kernel
theorem dX3_performPrivileged_10 : decode cX3_performPrivileged 10 = .ok (.aload_n 0, 1) := by decide +kernel
theorem dX3_performPrivileged_11 : decode cX3_performPrivileged 11 = .ok (.bipush 14, 2) := by decide +kernel
theorem dX3_performPrivileged_13 : decode cX3_performPrivileged 13 = .ok (.invokevirtual 92, 3) := by decide +kernel
theorem dX3_performPrivileged_16 : decode cX3_performPrivileged 16 = .ok (.goto 74, 3) := by decide +kernel
theorem dX3_performPrivileged_19 : decode cX3_performPrivileged 19 = .ok (.iload_n 1, 1) := by decide +kernel
theorem dX3_performPrivileged_20 : decode cX3_performPrivileged 20 = .ok (.bipush 20, 2) := by decide +kernel
theorem dX3_performPrivileged_22 : decode cX3_performPrivileged 22 = .ok (.if_icmp .gt 12, 3) := by decide +kernel
theorem dX3_performPrivileged_25 : decode cX3_performPrivileged 25 = .ok (.aload_n 0, 1) := by decide +kernel
theorem dX3_performPrivileged_26 : decode cX3_performPrivileged 26 = .ok (.iload_n 1, 1) := by decide +kernel
theorem dX3_performPrivileged_27 : decode cX3_performPrivileged 27 = .ok (.iload_n 2, 1) := by decide +kernel
theorem dX3_performPrivileged_28 : decode cX3_performPrivileged 28 = .ok (.invokevirtual 130, 3) := by decide +kernel
theorem dX3_performPrivileged_31 : decode cX3_performPrivileged 31 = .ok (.goto 59, 3) := by decide +kernel
theorem dX3_performPrivileged_34 : decode cX3_performPrivileged 34 = .ok (.iload_n 1, 1) := by decide +kernel
theorem dX3_performPrivileged_35 : decode cX3_performPrivileged 35 = .ok (.bipush 24, 2) := by decide +kernel
theorem dX3_performPrivileged_37 : decode cX3_performPrivileged 37 = .ok (.if_icmp .gt 11, 3) := by decide +kernel
theorem dX3_performPrivileged_40 : decode cX3_performPrivileged 40 = .ok (.aload_n 0, 1) := by decide +kernel
theorem dX3_performPrivileged_41 : decode cX3_performPrivileged 41 = .ok (.iload_n 1, 1) := by decide +kernel
theorem dX3_performPrivileged_42 : decode cX3_performPrivileged 42 = .ok (.invokevirtual 133, 3) := by decide +kernel
theorem dX3_performPrivileged_45 : decode cX3_performPrivileged 45 = .ok (.goto 45, 3) := by decide +kernel
theorem dX3_performPrivileged_48 : decode cX3_performPrivileged 48 = .ok (.iload_n 1, 1) := by decide +kernel
theorem dX3_performPrivileged_49 : decode cX3_performPrivileged 49 = .ok (.bipush 25, 2) := by decide +kernel
theorem dX3_performPrivileged_51 : decode cX3_performPrivileged 51 = .ok (.if_icmp .ne 11, 3) := by decide +kernel
theorem dX3_performPrivileged_54 : decode cX3_performPrivileged 54 = .ok (.aload_n 0, 1) := by decide +kernel
theorem dX3_performPrivileged_55 : decode cX3_performPrivileged 55 = .ok (.iload_n 2, 1) := by decide +kernel
theorem dX3_performPrivileged_56 : decode cX3_performPrivileged 56 = .ok (.invokevirtual 136, 3) := by decide +kernel
theorem dX3_performPrivileged_59 : decode cX3_performPrivileged 59 = .ok (.goto 31, 3) := by decide +kernel
theorem dX3_performPrivileged_62 : decode cX3_performPrivileged 62 = .ok (.iload_n 1, 1) := by decide +kernel
theorem dX3_performPrivileged_63 : decode cX3_performPrivileged 63 = .ok (.bipush 26, 2) := by decide +kernel
theorem dX3_performPrivileged_65 : decode cX3_performPrivileged 65 = .ok (.if_icmp .ne 10, 3) := by decide +kernel
theorem dX3_performPrivileged_68 : decode cX3_performPrivileged 68 = .ok (.aload_n 0, 1) := by decide +kernel
theorem dX3_performPrivileged_69 : decode cX3_performPrivileged 69 = .ok (.invokevirtual 139, 3) := by decide +kernel
theorem dX3_performPrivileged_72 : decode cX3_performPrivileged 72 = .ok (.goto 18, 3) := by decide +kernel
theorem dX3_performPrivileged_75 : decode cX3_performPrivileged 75 = .ok (.aload_n 0, 1) := by decide +kernel
theorem dX3_performPrivileged_76 : decode cX3_performPrivileged 76 = .ok (.iconst 1, 1) := by decide +kernel
theorem dX3_performPrivileged_77 : decode cX3_performPrivileged 77 = .ok (.putfield 30, 3) := by decide +kernel
theorem dX3_performPrivileged_80 : decode cX3_performPrivileged 80 = .ok (.aload_n 0, 1) := by decide +kernel
theorem dX3_performPrivileged_81 : decode cX3_performPrivileged 81 = .ok (.dup, 1) := by decide +kernel
theorem dX3_performPrivileged_82 : decode cX3_performPrivileged 82 = .ok (.getfield 54, 3) := by decide +kernel
theorem dX3_performPrivileged_85 : decode cX3_performPrivileged 85 = .ok (.iconst 4, 1) := by decide +kernel
theorem dX3_performPrivileged_86 : decode cX3_performPrivileged 86 = .ok (.iadd, 1) := by decide +kernel
theorem dX3_performPrivileged_87 : decode cX3_performPrivileged 87 = .ok (.putfield 54, 3) := by decide +kernel
theorem dX3_performPrivileged_90 : decode cX3_performPrivileged 90 = .ok (.return_, 1) := by decide +kernel
theorem dX3_byteB_0 : decode cX3_byteB 0 = .ok (.iload_n 0, 1) := by decide +kernel
theorem dX3_byteB_1 : decode cX3_byteB 1 = .ok (.bipush 8, 2) := by decide +kernel
theorem dX3_byteB_3 : decode cX3_byteB 3 = .ok (.iushr, 1) := by decide +kernel
theorem dX3_byteB_4 : decode cX3_byteB 4 = .ok (.sipush 255, 3) := by decide +kernel
theorem dX3_byteB_7 : decode cX3_byteB 7 = .ok (.iand, 1) := by decide +kernel
theorem dX3_byteB_8 : decode cX3_byteB 8 = .ok (.ireturn, 1) := by decide +kernel
theorem dX3_byteC_0 : decode cX3_byteC 0 = .ok (.iload_n 0, 1) := by decide +kernel
theorem dX3_byteC_1 : decode cX3_byteC 1 = .ok (.sipush 255, 3) := by decide +kernel
theorem dX3_byteC_4 : decode cX3_byteC 4 = .ok (.iand, 1) := by decide +kernel
theorem dX3_byteC_5 : decode cX3_byteC 5 = .ok (.ireturn, 1) := by decide +kernel
theorem dX3_imm_0 : decode cX3_imm 0 = .ok (.iload_n 0, 1) := by decide +kernel
theorem dX3_imm_1 : decode cX3_imm 1 = .ok (.i2b, 1) := by decide +kernel
theorem dX3_imm_2 : decode cX3_imm 2 = .ok (.ireturn, 1) := by decide +kernel
theorem dX3_valueA_0 : decode cX3_valueA 0 = .ok (.aload_n 0, 1) := by decide +kernel
theorem dX3_valueA_1 : decode cX3_valueA 1 = .ok (.getfield 13, 3) := by decide +kernel
theorem dX3_valueA_4 : decode cX3_valueA 4 = .ok (.iload_n 1, 1) := by decide +kernel
theorem dX3_valueA_5 : decode cX3_valueA 5 = .ok (.bipush 16, 2) := by decide +kernel
theorem dX3_valueA_7 : decode cX3_valueA 7 = .ok (.iushr, 1) := by decide +kernel
theorem dX3_valueA_8 : decode cX3_valueA 8 = .ok (.bipush 7, 2) := by decide +kernel
theorem dX3_valueA_10 : decode cX3_valueA 10 = .ok (.iand, 1) := by decide +kernel
theorem dX3_valueA_11 : decode cX3_valueA 11 = .ok (.iaload, 1) := by decide +kernel
theorem dX3_valueA_12 : decode cX3_valueA 12 = .ok (.ireturn, 1) := by decide +kernel
theorem dX3_valueB_0 : decode cX3_valueB 0 = .ok (.aload_n 0, 1) := by decide +kernel
theorem dX3_valueB_1 : decode cX3_valueB 1 = .ok (.getfield 13, 3) := by decide +kernel
theorem dX3_valueB_4 : decode cX3_valueB 4 = .ok (.iload_n 1, 1) := by decide +kernel
theorem dX3_valueB_5 : decode cX3_valueB 5 = .ok (.bipush 8, 2) := by decide +kernel
theorem dX3_valueB_7 : decode cX3_valueB 7 = .ok (.iushr, 1) := by decide +kernel
theorem dX3_valueB_8 : decode cX3_valueB 8 = .ok (.bipush 7, 2) := by decide +kernel
theorem dX3_valueB_10 : decode cX3_valueB 10 = .ok (.iand, 1) := by decide +kernel
theorem dX3_valueB_11 : decode cX3_valueB 11 = .ok (.iaload, 1) := by decide +kernel
theorem dX3_valueB_12 : decode cX3_valueB 12 = .ok (.ireturn, 1) := by decide +kernel
theorem dX3_valueC_0 : decode cX3_valueC 0 = .ok (.aload_n 0, 1) := by decide +kernel
theorem dX3_valueC_1 : decode cX3_valueC 1 = .ok (.getfield 13, 3) := by decide +kernel
theorem dX3_valueC_4 : decode cX3_valueC 4 = .ok (.iload_n 1, 1) := by decide +kernel
theorem dX3_valueC_5 : decode cX3_valueC 5 = .ok (.bipush 7, 2) := by decide +kernel
theorem dX3_valueC_7 : decode cX3_valueC 7 = .ok (.iand, 1) := by decide +kernel
theorem dX3_valueC_8 : decode cX3_valueC 8 = .ok (.iaload, 1) := by decide +kernel
theorem dX3_valueC_9 : decode cX3_valueC 9 = .ok (.ireturn, 1) := by decide +kernel
theorem dX3_setA_0 : decode cX3_setA 0 = .ok (.iload_n 1, 1) := by decide +kernel
theorem dX3_setA_1 : decode cX3_setA 1 = .ok (.bipush 16, 2) := by decide +kernel
theorem dX3_setA_3 : decode cX3_setA 3 = .ok (.iushr, 1) := by decide +kernel
theorem dX3_setA_4 : decode cX3_setA 4 = .ok (.bipush 7, 2) := by decide +kernel
theorem dX3_setA_6 : decode cX3_setA 6 = .ok (.iand, 1) := by decide +kernel
theorem dX3_setA_7 : decode cX3_setA 7 = .ok (.istore_n 3, 1) := by decide +kernel
theorem dX3_setA_8 : decode cX3_setA 8 = .ok (.iload_n 3, 1) := by decide +kernel
theorem dX3_setA_9 : decode cX3_setA 9 = .ok (.ifCond .eq 10, 3) := by decide +kernel
theorem dX3_setA_12 : decode cX3_setA 12 = .ok (.aload_n 0, 1) := by decide +kernel
theorem dX3_setA_13 : decode cX3_setA 13 = .ok (.getfield 13, 3) := by decide +kernel
theorem dX3_setA_16 : decode cX3_setA 16 = .ok (.iload_n 3, 1) := by decide +kernel
theorem dX3_setA_17 : decode cX3_setA 17 = .ok (.iload_n 2, 1) := by decide +kernel
theorem dX3_setA_18 : decode cX3_setA 18 = .ok (.iastore, 1) := by decide +kernel
theorem dX3_setA_19 : decode cX3_setA 19 = .ok (.return_, 1) := by decide +kernel
set_option maxRecDepth 20000 in
theorem ggX3_calculate_X3_result : GoodIn wsX3_calculate wsX3_result := goodIn_r _ [6, 7, 8, 9, 10, 5, 11, 12, 13, 14, 15, 16, 17, 18, 19, 20, 21, 22, 23, 24, 25, 30, 31, 32, 33, 34, 35, 36, 37, 38] (by decide +kernel) (by decide +kernel)
set_option maxRecDepth 20000 in
theorem gX3_calculate_X3_result : GoodIn wsX3_calculate (wsV RX3 142 RX3 yX3_result wsX3_result) := goodIn_app (goodIn_of _ (by decide +kernel)) ggX3_calculate_X3_result
set_option maxRecDepth 20000 in
theorem ggX3_calculate_X3_setA : GoodIn wsX3_calculate wsX3_setA := goodIn_r _ [29, 12, 30, 31, 32, 33, 34, 35, 36, 37, 38] (by decide +kernel) (by decide +kernel)
set_option maxRecDepth 20000 in
theorem gX3_calculate_X3_setA : GoodIn wsX3_calculate (wsV RX3 145 RX3 yX3_setA wsX3_setA) := goodIn_app (goodIn_of _ (by decide +kernel)) ggX3_calculate_X3_setA
theorem dX3_calculate_0 : decode cX3_calculate 0 = .ok (.aload_n 0, 1) := by decide +kernel
theorem dX3_calculate_1 : decode cX3_calculate 1 = .ok (.iload_n 2, 1) := by decide +kernel
theorem dX3_calculate_2 : decode cX3_calculate 2 = .ok (.aload_n 0, 1) := by decide +kernel
theorem dX3_calculate_3 : decode cX3_calculate 3 = .ok (.iload_n 1, 1) := by decide +kernel
theorem dX3_calculate_4 : decode cX3_calculate 4 = .ok (.iload_n 2, 1) := by decide +kernel
theorem dX3_calculate_5 : decode cX3_calculate 5 = .ok (.invokevirtual 142, 3) := by decide +kernel
theorem dX3_calculate_8 : decode cX3_calculate 8 = .ok (.invokevirtual 145, 3) := by decide +kernel
theorem dX3_calculate_11 : decode cX3_calculate 11 = .ok (.aload_n 0, 1) := by decide +kernel
theorem dX3_calculate_12 : decode cX3_calculate 12 = .ok (.dup, 1) := by decide +kernel
theorem dX3_calculate_13 : decode cX3_calculate 13 = .ok (.getfield 54, 3) := by decide +kernel
theorem dX3_calculate_16 : decode cX3_calculate 16 = .ok (.iconst 4, 1) := by decide +kernel
theorem dX3_calculate_17 : decode cX3_calculate 17 = .ok (.iadd, 1) := by decide +kernel
theorem dX3_calculate_18 : decode cX3_calculate 18 = .ok (.putfield 54, 3) := by decide +kernel
theorem dX3_calculate_21 : decode cX3_calculate 21 = .ok (.return_, 1) := by decide +kernel
set_option maxRecDepth 20000 in
theorem ggX3_result_X3_valueB : GoodIn wsX3_result wsX3_valueB := goodIn_r _ [6, 7, 21, 22, 23, 24, 25, 26, 27, 28, 29] (by decide +kernel) (by decide +kernel)
set_option maxRecDepth 20000 in
theorem gX3_result_X3_valueB : GoodIn wsX3_result (wsV RX3 148 RX3 yX3_valueB wsX3_valueB) := goodIn_app (goodIn_of _ (by decide +kernel)) ggX3_result_X3_valueB
set_option maxRecDepth 20000 in
theorem ggX3_result_X3_valueC : GoodIn wsX3_result wsX3_valueC := goodIn_r _ [11, 7, 21, 22, 23, 24, 25, 26, 27, 28, 29] (by decide +kernel) (by decide +kernel)
set_option maxRecDepth 20000 in
theorem gX3_result_X3_valueC : GoodIn wsX3_result (wsV RX3 151 RX3 yX3_valueC wsX3_valueC) := goodIn_app (goodIn_of _ (by decide +kernel)) ggX3_result_X3_valueC
set_option maxRecDepth 20000 in
theorem ggX3_result_X3_imm : GoodIn wsX3_result wsX3_imm := goodIn_r _ [14] (by decide +kernel) (by decide +kernel)
set_option maxRecDepth 20000 in
theorem gX3_result_X3_imm : GoodIn wsX3_result (va_wsS RX3 154 yX3_imm wsX3_imm) := goodIn_app (goodIn_of _ (by decide +kernel)) ggX3_result_X3_imm
set_option maxRecDepth 20000 in
theorem ggX3_result_X3_byteB : GoodIn wsX3_result wsX3_byteB := goodIn_r _ [17] (by decide +kernel) (by decide +kernel)
set_option maxRecDepth 20000 in
theorem gX3_result_X3_byteB : GoodIn wsX3_result (va_wsS RX3 158 yX3_byteB wsX3_byteB) := goodIn_app (goodIn_of _ (by decide +kernel)) ggX3_result_X3_byteB
set_option maxRecDepth 20000 in
theorem ggX3_result_X3_byteC : GoodIn wsX3_result wsX3_byteC := goodIn_r _ [20] (by decide +kernel) (by decide +kernel)
set_option maxRecDepth 20000 in
theorem gX3_result_X3_byteC : GoodIn wsX3_result (va_wsS RX3 161 yX3_byteC wsX3_byteC) := goodIn_app (goodIn_of _ (by decide +kernel)) ggX3_result_X3_byteC
theorem dX3_result_0 : decode cX3_result 0 = .ok (.aload_n 0, 1) := by decide +kernel
theorem dX3_result_1 : decode cX3_result 1 = .ok (.iload_n 2, 1) := by decide +kernel
theorem dX3_result_2 : decode cX3_result 2 = .ok (.invokevirtual 148, 3) := by decide +kernel
theorem dX3_result_5 : decode cX3_result 5 = .ok (.istore_n 3, 1) := by decide +kernel
theorem dX3_result_6 : decode cX3_result 6 = .ok (.aload_n 0, 1) := by decide +kernel
theorem dX3_result_7 : decode cX3_result 7 = .ok (.iload_n 2, 1) := by decide +kernel
theorem dX3_result_8 : decode cX3_result 8 = .ok (.invokevirtual 151, 3) := by decide +kernel
theorem dX3_result_11 : decode cX3_result 11 = .ok (.istore 4, 2) := by decide +kernel
theorem dX3_result_13 : decode cX3_result 13 = .ok (.iload_n 1, 1) := by decide +kernel
theorem dX3_result_14 : decode cX3_result 14 = .ok (.tableswitch 77 1 6 #[38, 43, 48, 53, 58, 70], 38) := by decide +kernel
theorem dX3_result_52 : decode cX3_result 52 = .ok (.iload_n 3, 1) := by decide +kernel
theorem dX3_result_53 : decode cX3_result 53 = .ok (.iload 4, 2) := by decide +kernel
theorem dX3_result_55 : decode cX3_result 55 = .ok (.iadd, 1) := by decide +kernel
theorem dX3_result_56 : decode cX3_result 56 = .ok (.ireturn, 1) := by decide +kernel
theorem dX3_result_57 : decode cX3_result 57 = .ok (.iload_n 3, 1) := by decide +kernel
theorem dX3_result_58 : decode cX3_result 58 = .ok (.iload 4, 2) := by decide +kernel
theorem dX3_result_60 : decode cX3_result 60 = .ok (.isub, 1) := by decide +kernel
theorem dX3_result_61 : decode cX3_result 61 = .ok (.ireturn, 1) := by decide +kernel
theorem dX3_result_62 : decode cX3_result 62 = .ok (.iload_n 3, 1) := by decide +kernel
theorem dX3_result_63 : decode cX3_result 63 = .ok (.iload 4, 2) := by decide +kernel
theorem dX3_result_65 : decode cX3_result 65 = .ok (.iand, 1) := by decide +kernel
theorem dX3_result_66 : decode cX3_result 66 = .ok (.ireturn, 1) := by decide +kernel
theorem dX3_result_67 : decode cX3_result 67 = .ok (.iload_n 3, 1) := by decide +kernel
theorem dX3_result_68 : decode cX3_result 68 = .ok (.iload 4, 2) := by decide +kernel
theorem dX3_result_70 : decode cX3_result 70 = .ok (.ior, 1) := by decide +kernel
theorem dX3_result_71 : decode cX3_result 71 = .ok (.ireturn, 1) := by decide +kernel
theorem dX3_result_72 : decode cX3_result 72 = .ok (.iload_n 3, 1) := by decide +kernel
theorem dX3_result_73 : decode cX3_result 73 = .ok (.iload 4, 2) := by decide +kernel
theorem dX3_result_75 : decode cX3_result 75 = .ok (.if_icmp .ge 7, 3) := by decide +kernel
theorem dX3_result_78 : decode cX3_result 78 = .ok (.iconst 1, 1) := by decide +kernel
theorem dX3_result_79 : decode cX3_result 79 = .ok (.goto 4, 3) := by decide +kernel
theorem dX3_result_82 : decode cX3_result 82 = .ok (.iconst 0, 1) := by decide +kernel
theorem dX3_result_83 : decode cX3_result 83 = .ok (.ireturn, 1) := by decide +kernel
theorem dX3_result_84 : decode cX3_result 84 = .ok (.iload_n 3, 1) := by decide +kernel
theorem dX3_result_85 : decode cX3_result 85 = .ok (.iload_n 2, 1) := by decide +kernel
theorem dX3_result_86 : decode cX3_result 86 = .ok (.invokestatic 154, 3) := by decide +kernel
theorem dX3_result_89 : decode cX3_result 89 = .ok (.iadd, 1) := by decide +kernel
theorem dX3_result_90 : decode cX3_result 90 = .ok (.ireturn, 1) := by decide +kernel
theorem dX3_result_91 : decode cX3_result 91 = .ok (.ldc 157, 2) := by decide +kernel
theorem dX3_result_93 : decode cX3_result 93 = .ok (.iload_n 2, 1) := by decide +kernel
theorem dX3_result_94 : decode cX3_result 94 = .ok (.invokestatic 158, 3) := by decide +kernel
theorem dX3_result_97 : decode cX3_result 97 = .ok (.imul, 1) := by decide +kernel
theorem dX3_result_98 : decode cX3_result 98 = .ok (.sipush 256, 3) := by decide +kernel
theorem dX3_result_101 : decode cX3_result 101 = .ok (.iload_n 2, 1) := by decide +kernel
theorem dX3_result_102 : decode cX3_result 102 = .ok (.invokestatic 161, 3) := by decide +kernel
theorem dX3_result_105 : decode cX3_result 105 = .ok (.imul, 1) := by decide +kernel
theorem dX3_result_106 : decode cX3_result 106 = .ok (.iadd, 1) := by decide +kernel
theorem dX3_result_107 : decode cX3_result 107 = .ok (.ireturn, 1) := by decide +kernel
set_option maxRecDepth 20000 in
theorem ggX3_loadWord_X3_valueB : GoodIn wsX3_loadWord wsX3_valueB := goodIn_r _ [8, 9, 72, 73, 74, 75, 76, 77, 78, 79, 80] (by decide +kernel) (by decide +kernel)
set_option maxRecDepth 20000 in
theorem gX3_loadWord_X3_valueB : GoodIn wsX3_loadWord (wsV RX3 148 RX3 yX3_valueB wsX3_valueB) := goodIn_app (goodIn_of _ (by decide +kernel)) ggX3_loadWord_X3_valueB
set_option maxRecDepth 20000 in
theorem ggX3_loadWord_X3_imm : GoodIn wsX3_loadWord wsX3_imm := goodIn_r _ [12] (by decide +kernel) (by decide +kernel)
set_option maxRecDepth 20000 in
theorem gX3_loadWord_X3_imm : GoodIn wsX3_loadWord (va_wsS RX3 154 yX3_imm wsX3_imm) := goodIn_app (goodIn_of _ (by decide +kernel)) ggX3_loadWord_X3_imm
set_option maxRecDepth 20000 in
theorem ggX3_loadWord_X3_find : GoodIn wsX3_loadWord wsX3_find := goodIn_r _ [16, 17, 18, 19, 20, 21, 22, 23, 24, 25, 26, 27, 28, 29, 7, 30, 31, 32, 33, 34, 35, 36, 37, 38, 39, 40, 41, 42, 43, 44, 45, 46, 47, 48, 72, 73, 74, 75, 76, 77, 78, 79, 80, 81, 82] (by decide +kernel) (by decide +kernel)
set_option maxRecDepth 20000 in
theorem gX3_loadWord_X3_find : GoodIn wsX3_loadWord (wsV RX3 102 RX3 yX3_find wsX3_find) := goodIn_app (goodIn_of _ (by decide +kernel)) ggX3_loadWord_X3_find
set_option maxRecDepth 20000 in
theorem ggX3_loadWord_X3_fail : GoodIn wsX3_loadWord wsX3_fail := goodIn_r _ [52, 53, 17, 54, 20, 55, 56, 23, 57, 58, 59, 7, 60, 3, 61, 62, 63, 64, 65, 66, 67, 32, 33, 34, 72, 73, 74, 75, 76, 77, 78, 79, 80, 81] (by decide +kernel) (by decide +kernel)
set_option maxRecDepth 20000 in
theorem gX3_loadWord_X3_fail : GoodIn wsX3_loadWord (wsV RX3 105 RX3 yX3_fail wsX3_fail) := goodIn_app (goodIn_of _ (by decide +kernel)) ggX3_loadWord_X3_fail
set_option maxRecDepth 20000 in
theorem ggX3_loadWord_X3_setA : GoodIn wsX3_loadWord wsX3_setA := goodIn_r _ [71, 9, 72, 73, 74, 75, 76, 77, 78, 79, 80] (by decide +kernel) (by decide +kernel)
set_option maxRecDepth 20000 in
theorem gX3_loadWord_X3_setA : GoodIn wsX3_loadWord (wsV RX3 145 RX3 yX3_setA wsX3_setA) := goodIn_app (goodIn_of _ (by decide +kernel)) ggX3_loadWord_X3_setA
theorem dX3_loadWord_0 : decode cX3_loadWord 0 = .ok (.aload_n 0, 1) := by decide +kernel
theorem dX3_loadWord_1 : decode cX3_loadWord 1 = .ok (.iload_n 2, 1) := by decide +kernel
theorem dX3_loadWord_2 : decode cX3_loadWord 2 = .ok (.invokevirtual 148, 3) := by decide +kernel
theorem dX3_loadWord_5 : decode cX3_loadWord 5 = .ok (.iload_n 2, 1) := by decide +kernel
theorem dX3_loadWord_6 : decode cX3_loadWord 6 = .ok (.invokestatic 154, 3) := by decide +kernel
theorem dX3_loadWord_9 : decode cX3_loadWord 9 = .ok (.iadd, 1) := by decide +kernel
theorem dX3_loadWord_10 : decode cX3_loadWord 10 = .ok (.istore_n 3, 1) := by decide +kernel
theorem dX3_loadWord_11 : decode cX3_loadWord 11 = .ok (.aload_n 0, 1) := by decide +kernel
theorem dX3_loadWord_12 : decode cX3_loadWord 12 = .ok (.iload_n 3, 1) := by decide +kernel
theorem dX3_loadWord_13 : decode cX3_loadWord 13 = .ok (.iconst 1, 1) := by decide +kernel
theorem dX3_loadWord_14 : decode cX3_loadWord 14 = .ok (.invokevirtual 102, 3) := by decide +kernel
theorem dX3_loadWord_17 : decode cX3_loadWord 17 = .ok (.istore 4, 2) := by decide +kernel
theorem dX3_loadWord_19 : decode cX3_loadWord 19 = .ok (.iload 4, 2) := by decide +kernel
theorem dX3_loadWord_21 : decode cX3_loadWord 21 = .ok (.ifCond .ge 11, 3) := by decide +kernel
theorem dX3_loadWord_24 : decode cX3_loadWord 24 = .ok (.aload_n 0, 1) := by decide +kernel
theorem dX3_loadWord_25 : decode cX3_loadWord 25 = .ok (.iload 4, 2) := by decide +kernel
theorem dX3_loadWord_27 : decode cX3_loadWord 27 = .ok (.iload_n 3, 1) := by decide +kernel
theorem dX3_loadWord_28 : decode cX3_loadWord 28 = .ok (.invokevirtual 105, 3) := by decide +kernel
theorem dX3_loadWord_31 : decode cX3_loadWord 31 = .ok (.return_, 1) := by decide +kernel
theorem dX3_loadWord_32 : decode cX3_loadWord 32 = .ok (.aload_n 0, 1) := by decide +kernel
theorem dX3_loadWord_33 : decode cX3_loadWord 33 = .ok (.iload_n 2, 1) := by decide +kernel
theorem dX3_loadWord_34 : decode cX3_loadWord 34 = .ok (.aload_n 0, 1) := by decide +kernel
theorem dX3_loadWord_35 : decode cX3_loadWord 35 = .ok (.getfield 9, 3) := by decide +kernel
theorem dX3_loadWord_38 : decode cX3_loadWord 38 = .ok (.iload 4, 2) := by decide +kernel
theorem dX3_loadWord_40 : decode cX3_loadWord 40 = .ok (.iaload, 1) := by decide +kernel
theorem dX3_loadWord_41 : decode cX3_loadWord 41 = .ok (.invokevirtual 145, 3) := by decide +kernel
theorem dX3_loadWord_44 : decode cX3_loadWord 44 = .ok (.iload_n 1, 1) := by decide +kernel
theorem dX3_loadWord_45 : decode cX3_loadWord 45 = .ok (.bipush 10, 2) := by decide +kernel
theorem dX3_loadWord_47 : decode cX3_loadWord 47 = .ok (.if_icmp .ne 8, 3) := by decide +kernel
theorem dX3_loadWord_50 : decode cX3_loadWord 50 = .ok (.aload_n 0, 1) := by decide +kernel
theorem dX3_loadWord_51 : decode cX3_loadWord 51 = .ok (.iconst 1, 1) := by decide +kernel
theorem dX3_loadWord_52 : decode cX3_loadWord 52 = .ok (.putfield 72, 3) := by decide +kernel
theorem dX3_loadWord_55 : decode cX3_loadWord 55 = .ok (.aload_n 0, 1) := by decide +kernel
theorem dX3_loadWord_56 : decode cX3_loadWord 56 = .ok (.dup, 1) := by decide +kernel
theorem dX3_loadWord_57 : decode cX3_loadWord 57 = .ok (.getfield 54, 3) := by decide +kernel
theorem dX3_loadWord_60 : decode cX3_loadWord 60 = .ok (.iconst 4, 1) := by decide +kernel
theorem dX3_loadWord_61 : decode cX3_loadWord 61 = .ok (.iadd, 1) := by decide +kernel
theorem dX3_loadWord_62 : decode cX3_loadWord 62 = .ok (.putfield 54, 3) := by decide +kernel
theorem dX3_loadWord_65 : decode cX3_loadWord 65 = .ok (.return_, 1) := by decide +kernel
set_option maxRecDepth 20000 in
theorem ggX3_storeWord_X3_setA : GoodIn wsX3_storeWord wsX3_setA := goodIn_r _ [8, 9, 76, 77, 78, 79, 80, 81, 82, 83, 84] (by decide +kernel) (by decide +kernel)
set_option maxRecDepth 20000 in
theorem gX3_storeWord_X3_setA : GoodIn wsX3_storeWord (wsV RX3 145 RX3 yX3_setA wsX3_setA) := goodIn_app (goodIn_of _ (by decide +kernel)) ggX3_storeWord_X3_setA
set_option maxRecDepth 20000 in
theorem ggX3_storeWord_X3_valueB : GoodIn wsX3_storeWord wsX3_valueB := goodIn_r _ [13, 9, 76, 77, 78, 79, 80, 81, 82, 83, 84] (by decide +kernel) (by decide +kernel)
set_option maxRecDepth 20000 in
theorem gX3_storeWord_X3_valueB : GoodIn wsX3_storeWord (wsV RX3 148 RX3 yX3_valueB wsX3_valueB) := goodIn_app (goodIn_of _ (by decide +kernel)) ggX3_storeWord_X3_valueB
set_option maxRecDepth 20000 in
theorem ggX3_storeWord_X3_imm : GoodIn wsX3_storeWord wsX3_imm := goodIn_r _ [16] (by decide +kernel) (by decide +kernel)
set_option maxRecDepth 20000 in
theorem gX3_storeWord_X3_imm : GoodIn wsX3_storeWord (va_wsS RX3 154 yX3_imm wsX3_imm) := goodIn_app (goodIn_of _ (by decide +kernel)) ggX3_storeWord_X3_imm
set_option maxRecDepth 20000 in
theorem ggX3_storeWord_X3_find : GoodIn wsX3_storeWord wsX3_find := goodIn_r _ [20, 21, 22, 23, 24, 25, 26, 27, 28, 29, 30, 31, 32, 33, 7, 34, 35, 36, 37, 38, 39, 40, 41, 42, 43, 44, 45, 46, 47, 48, 49, 50, 51, 52, 76, 77, 78, 79, 80, 81, 82, 83, 84, 85, 86] (by decide +kernel) (by decide +kernel)
set_option maxRecDepth 20000 in
theorem gX3_storeWord_X3_find : GoodIn wsX3_storeWord (wsV RX3 102 RX3 yX3_find wsX3_find) := goodIn_app (goodIn_of _ (by decide +kernel)) ggX3_storeWord_X3_find
set_option maxRecDepth 20000 in
theorem ggX3_storeWord_X3_fail : GoodIn wsX3_storeWord wsX3_fail := goodIn_r _ [56, 57, 21, 58, 24, 59, 60, 27, 61, 62, 63, 7, 64, 2, 65, 66, 67, 68, 69, 70, 71, 36, 37, 38, 76, 77, 78, 79, 80, 81, 82, 83, 84, 85] (by decide +kernel) (by decide +kernel)
set_option maxRecDepth 20000 in
theorem gX3_storeWord_X3_fail : GoodIn wsX3_storeWord (wsV RX3 105 RX3 yX3_fail wsX3_fail) := goodIn_app (goodIn_of _ (by decide +kernel)) ggX3_storeWord_X3_fail
set_option maxRecDepth 20000 in
theorem ggX3_storeWord_X3_valueA : GoodIn wsX3_storeWord wsX3_valueA := goodIn_r _ [75, 9, 76, 77, 78, 79, 80, 81, 82, 83, 84] (by decide +kernel) (by decide +kernel)
set_option maxRecDepth 20000 in
theorem gX3_storeWord_X3_valueA : GoodIn wsX3_storeWord (wsV RX3 164 RX3 yX3_valueA wsX3_valueA) := goodIn_app (goodIn_of _ (by decide +kernel)) ggX3_storeWord_X3_valueA
theorem dX3_storeWord_0 : decode cX3_storeWord 0 = .ok (.iload_n 1, 1) := by decide +kernel
theorem dX3_storeWord_1 : decode cX3_storeWord 1 = .ok (.bipush 11, 2) := by decide +kernel
theorem dX3_storeWord_3 : decode cX3_storeWord 3 = .ok (.if_icmp .ne 27, 3) := by decide +kernel
theorem dX3_storeWord_6 : decode cX3_storeWord 6 = .ok (.aload_n 0, 1) := by decide +kernel
theorem dX3_storeWord_7 : decode cX3_storeWord 7 = .ok (.getfield 72, 3) := by decide +kernel
theorem dX3_storeWord_10 : decode cX3_storeWord 10 = .ok (.ifCond .ne 20, 3) := by decide +kernel
theorem dX3_storeWord_13 : decode cX3_storeWord 13 = .ok (.aload_n 0, 1) := by decide +kernel
theorem dX3_storeWord_14 : decode cX3_storeWord 14 = .ok (.iload_n 2, 1) := by decide +kernel
theorem dX3_storeWord_15 : decode cX3_storeWord 15 = .ok (.iconst 0, 1) := by decide +kernel
theorem dX3_storeWord_16 : decode cX3_storeWord 16 = .ok (.invokevirtual 145, 3) := by decide +kernel
theorem dX3_storeWord_19 : decode cX3_storeWord 19 = .ok (.aload_n 0, 1) := by decide +kernel
theorem dX3_storeWord_20 : decode cX3_storeWord 20 = .ok (.dup, 1) := by decide +kernel
theorem dX3_storeWord_21 : decode cX3_storeWord 21 = .ok (.getfield 54, 3) := by decide +kernel
theorem dX3_storeWord_24 : decode cX3_storeWord 24 = .ok (.iconst 4, 1) := by decide +kernel
theorem dX3_storeWord_25 : decode cX3_storeWord 25 = .ok (.iadd, 1) := by decide +kernel
theorem dX3_storeWord_26 : decode cX3_storeWord 26 = .ok (.putfield 54, 3) := by decide +kernel
theorem dX3_storeWord_29 : decode cX3_storeWord 29 = .ok (.return_, 1) := by decide +kernel
theorem dX3_storeWord_30 : decode cX3_storeWord 30 = .ok (.aload_n 0, 1) := by decide +kernel
theorem dX3_storeWord_31 : decode cX3_storeWord 31 = .ok (.iload_n 2, 1) := by decide +kernel
theorem dX3_storeWord_32 : decode cX3_storeWord 32 = .ok (.invokevirtual 148, 3) := by decide +kernel
theorem dX3_storeWord_35 : decode cX3_storeWord 35 = .ok (.iload_n 2, 1) := by decide +kernel
theorem dX3_storeWord_36 : decode cX3_storeWord 36 = .ok (.invokestatic 154, 3) := by decide +kernel
theorem dX3_storeWord_39 : decode cX3_storeWord 39 = .ok (.iadd, 1) := by decide +kernel
theorem dX3_storeWord_40 : decode cX3_storeWord 40 = .ok (.istore_n 3, 1) := by decide +kernel
theorem dX3_storeWord_41 : decode cX3_storeWord 41 = .ok (.aload_n 0, 1) := by decide +kernel
theorem dX3_storeWord_42 : decode cX3_storeWord 42 = .ok (.iload_n 3, 1) := by decide +kernel
theorem dX3_storeWord_43 : decode cX3_storeWord 43 = .ok (.iconst 2, 1) := by decide +kernel
theorem dX3_storeWord_44 : decode cX3_storeWord 44 = .ok (.invokevirtual 102, 3) := by decide +kernel
theorem dX3_storeWord_47 : decode cX3_storeWord 47 = .ok (.istore 4, 2) := by decide +kernel
theorem dX3_storeWord_49 : decode cX3_storeWord 49 = .ok (.iload 4, 2) := by decide +kernel
theorem dX3_storeWord_51 : decode cX3_storeWord 51 = .ok (.ifCond .ge 11, 3) := by decide +kernel
theorem dX3_storeWord_54 : decode cX3_storeWord 54 = .ok (.aload_n 0, 1) := by decide +kernel
theorem dX3_storeWord_55 : decode cX3_storeWord 55 = .ok (.iload 4, 2) := by decide +kernel
theorem dX3_storeWord_57 : decode cX3_storeWord 57 = .ok (.iload_n 3, 1) := by decide +kernel
theorem dX3_storeWord_58 : decode cX3_storeWord 58 = .ok (.invokevirtual 105, 3) := by decide +kernel
theorem dX3_storeWord_61 : decode cX3_storeWord 61 = .ok (.return_, 1) := by decide +kernel
theorem dX3_storeWord_62 : decode cX3_storeWord 62 = .ok (.aload_n 0, 1) := by decide +kernel
theorem dX3_storeWord_63 : decode cX3_storeWord 63 = .ok (.getfield 9, 3) := by decide +kernel
theorem dX3_storeWord_66 : decode cX3_storeWord 66 = .ok (.iload 4, 2) := by decide +kernel
theorem dX3_storeWord_68 : decode cX3_storeWord 68 = .ok (.aload_n 0, 1) := by decide +kernel
theorem dX3_storeWord_69 : decode cX3_storeWord 69 = .ok (.iload_n 2, 1) := by decide +kernel
theorem dX3_storeWord_70 : decode cX3_storeWord 70 = .ok (.invokevirtual 164, 3) := by decide +kernel
theorem dX3_storeWord_73 : decode cX3_storeWord 73 = .ok (.iastore, 1) := by decide +kernel
theorem dX3_storeWord_74 : decode cX3_storeWord 74 = .ok (.iload_n 1, 1) := by decide +kernel
theorem dX3_storeWord_75 : decode cX3_storeWord 75 = .ok (.bipush 11, 2) := by decide +kernel
theorem dX3_storeWord_77 : decode cX3_storeWord 77 = .ok (.if_icmp .ne 14, 3) := by decide +kernel
theorem dX3_storeWord_80 : decode cX3_storeWord 80 = .ok (.aload_n 0, 1) := by decide +kernel
theorem dX3_storeWord_81 : decode cX3_storeWord 81 = .ok (.iconst 0, 1) := by decide +kernel
theorem dX3_storeWord_82 : decode cX3_storeWord 82 = .ok (.putfield 72, 3) := by decide +kernel
theorem dX3_storeWord_85 : decode cX3_storeWord 85 = .ok (.aload_n 0, 1) := by decide +kernel
theorem dX3_storeWord_86 : decode cX3_storeWord 86 = .ok (.iload_n 2, 1) := by decide +kernel
theorem dX3_storeWord_87 : decode cX3_storeWord 87 = .ok (.iconst 1, 1) := by decide +kernel
end
section
theorem dX3_storeWord_88 : decode cX3_storeWord 88 = .ok (.invokevirtual 145, 3) := by decide +kernel
theorem dX3_storeWord_91 : decode cX3_storeWord 91 = .ok (.aload_n 0, 1) := by decide +kernel
theorem dX3_storeWord_92 : decode cX3_storeWord 92 = .ok (.dup, 1) := by decide +kernel
theorem dX3_storeWord_93 : decode cX3_storeWord 93 = .ok (.getfield 54, 3) := by decide +kernel
theorem dX3_storeWord_96 : decode cX3_storeWord 96 = .ok (.iconst 4, 1) := by decide +kernel
theorem dX3_storeWord_97 : decode cX3_storeWord 97 = .ok (.iadd, 1) := by decide +kernel
theorem dX3_storeWord_98 : decode cX3_storeWord 98 = .ok (.putfield 54, 3) := by decide +kernel
theorem dX3_storeWord_101 : decode cX3_storeWord 101 = .ok (.return_, 1) := by decide +kernel
set_option maxRecDepth 20000 in
theorem ggX3_branch_X3_valueB : GoodIn wsX3_branch wsX3_valueB := goodIn_r _ [6, 7, 22, 23, 24, 25, 26, 27, 28, 29, 30] (by decide +kernel) (by decide +kernel)
set_option maxRecDepth 20000 in
theorem gX3_branch_X3_valueB : GoodIn wsX3_branch (wsV RX3 148 RX3 yX3_valueB wsX3_valueB) := goodIn_app (goodIn_of _ (by decide +kernel)) ggX3_branch_X3_valueB
set_option maxRecDepth 20000 in
theorem ggX3_branch_X3_imm : GoodIn wsX3_branch wsX3_imm := goodIn_r _ [10] (by decide +kernel) (by decide +kernel)
set_option maxRecDepth 20000 in
theorem gX3_branch_X3_imm : GoodIn wsX3_branch (va_wsS RX3 154 yX3_imm wsX3_imm) := goodIn_app (goodIn_of _ (by decide +kernel)) ggX3_branch_X3_imm
set_option maxRecDepth 20000 in
theorem ggX3_branch_X3_setA : GoodIn wsX3_branch wsX3_setA := goodIn_r _ [14, 7, 22, 23, 24, 25, 26, 27, 28, 29, 30] (by decide +kernel) (by decide +kernel)
set_option maxRecDepth 20000 in
theorem gX3_branch_X3_setA : GoodIn wsX3_branch (wsV RX3 145 RX3 yX3_setA wsX3_setA) := goodIn_app (goodIn_of _ (by decide +kernel)) ggX3_branch_X3_setA
set_option maxRecDepth 20000 in
theorem ggX3_branch_X3_valueA : GoodIn wsX3_branch wsX3_valueA := goodIn_r _ [18, 7, 22, 23, 24, 25, 26, 27, 28, 29, 30] (by decide +kernel) (by decide +kernel)
set_option maxRecDepth 20000 in
theorem gX3_branch_X3_valueA : GoodIn wsX3_branch (wsV RX3 164 RX3 yX3_valueA wsX3_valueA) := goodIn_app (goodIn_of _ (by decide +kernel)) ggX3_branch_X3_valueA
set_option maxRecDepth 20000 in
theorem ggX3_branch_X3_holds : GoodIn wsX3_branch wsX3_holds := goodIn_r _ [21] (by decide +kernel) (by decide +kernel)
set_option maxRecDepth 20000 in
theorem gX3_branch_X3_holds : GoodIn wsX3_branch (va_wsS RX3 167 yX3_holds wsX3_holds) := goodIn_app (goodIn_of _ (by decide +kernel)) ggX3_branch_X3_holds
theorem dX3_branch_0 : decode cX3_branch 0 = .ok (.aload_n 0, 1) := by decide +kernel
theorem dX3_branch_1 : decode cX3_branch 1 = .ok (.iload_n 2, 1) := by decide +kernel
theorem dX3_branch_2 : decode cX3_branch 2 = .ok (.invokevirtual 148, 3) := by decide +kernel
theorem dX3_branch_5 : decode cX3_branch 5 = .ok (.istore_n 3, 1) := by decide +kernel
theorem dX3_branch_6 : decode cX3_branch 6 = .ok (.iconst 4, 1) := by decide +kernel
theorem dX3_branch_7 : decode cX3_branch 7 = .ok (.iload_n 2, 1) := by decide +kernel
theorem dX3_branch_8 : decode cX3_branch 8 = .ok (.invokestatic 154, 3) := by decide +kernel
theorem dX3_branch_11 : decode cX3_branch 11 = .ok (.imul, 1) := by decide +kernel
theorem dX3_branch_12 : decode cX3_branch 12 = .ok (.istore 4, 2) := by decide +kernel
theorem dX3_branch_14 : decode cX3_branch 14 = .ok (.iload_n 1, 1) := by decide +kernel
theorem dX3_branch_15 : decode cX3_branch 15 = .ok (.bipush 15, 2) := by decide +kernel
theorem dX3_branch_17 : decode cX3_branch 17 = .ok (.if_icmp .ne 25, 3) := by decide +kernel
theorem dX3_branch_20 : decode cX3_branch 20 = .ok (.aload_n 0, 1) := by decide +kernel
theorem dX3_branch_21 : decode cX3_branch 21 = .ok (.iload_n 2, 1) := by decide +kernel
theorem dX3_branch_22 : decode cX3_branch 22 = .ok (.aload_n 0, 1) := by decide +kernel
theorem dX3_branch_23 : decode cX3_branch 23 = .ok (.getfield 54, 3) := by decide +kernel
theorem dX3_branch_26 : decode cX3_branch 26 = .ok (.iconst 4, 1) := by decide +kernel
theorem dX3_branch_27 : decode cX3_branch 27 = .ok (.iadd, 1) := by decide +kernel
theorem dX3_branch_28 : decode cX3_branch 28 = .ok (.invokevirtual 145, 3) := by decide +kernel
theorem dX3_branch_31 : decode cX3_branch 31 = .ok (.aload_n 0, 1) := by decide +kernel
theorem dX3_branch_32 : decode cX3_branch 32 = .ok (.iload_n 3, 1) := by decide +kernel
theorem dX3_branch_33 : decode cX3_branch 33 = .ok (.iload 4, 2) := by decide +kernel
theorem dX3_branch_35 : decode cX3_branch 35 = .ok (.iadd, 1) := by decide +kernel
theorem dX3_branch_36 : decode cX3_branch 36 = .ok (.putfield 54, 3) := by decide +kernel
theorem dX3_branch_39 : decode cX3_branch 39 = .ok (.goto 31, 3) := by decide +kernel
theorem dX3_branch_42 : decode cX3_branch 42 = .ok (.aload_n 0, 1) := by decide +kernel
theorem dX3_branch_43 : decode cX3_branch 43 = .ok (.dup, 1) := by decide +kernel
theorem dX3_branch_44 : decode cX3_branch 44 = .ok (.getfield 54, 3) := by decide +kernel
theorem dX3_branch_47 : decode cX3_branch 47 = .ok (.iload_n 1, 1) := by decide +kernel
theorem dX3_branch_48 : decode cX3_branch 48 = .ok (.aload_n 0, 1) := by decide +kernel
theorem dX3_branch_49 : decode cX3_branch 49 = .ok (.iload_n 2, 1) := by decide +kernel
theorem dX3_branch_50 : decode cX3_branch 50 = .ok (.invokevirtual 164, 3) := by decide +kernel
theorem dX3_branch_53 : decode cX3_branch 53 = .ok (.iload_n 3, 1) := by decide +kernel
theorem dX3_branch_54 : decode cX3_branch 54 = .ok (.invokestatic 167, 3) := by decide +kernel
theorem dX3_branch_57 : decode cX3_branch 57 = .ok (.ifCond .eq 8, 3) := by decide +kernel
theorem dX3_branch_60 : decode cX3_branch 60 = .ok (.iload 4, 2) := by decide +kernel
theorem dX3_branch_62 : decode cX3_branch 62 = .ok (.goto 4, 3) := by decide +kernel
theorem dX3_branch_65 : decode cX3_branch 65 = .ok (.iconst 4, 1) := by decide +kernel
theorem dX3_branch_66 : decode cX3_branch 66 = .ok (.iadd, 1) := by decide +kernel
theorem dX3_branch_67 : decode cX3_branch 67 = .ok (.putfield 54, 3) := by decide +kernel
theorem dX3_branch_70 : decode cX3_branch 70 = .ok (.return_, 1) := by decide +kernel
theorem dX3_holds_0 : decode cX3_holds 0 = .ok (.iload_n 0, 1) := by decide +kernel
theorem dX3_holds_1 : decode cX3_holds 1 = .ok (.lookupswitch 49 #[(12, 27), (13, 38)], 27) := by decide +kernel
theorem dX3_holds_28 : decode cX3_holds 28 = .ok (.iload_n 1, 1) := by decide +kernel
theorem dX3_holds_29 : decode cX3_holds 29 = .ok (.iload_n 2, 1) := by decide +kernel
theorem dX3_holds_30 : decode cX3_holds 30 = .ok (.if_icmp .ne 7, 3) := by decide +kernel
theorem dX3_holds_33 : decode cX3_holds 33 = .ok (.iconst 1, 1) := by decide +kernel
theorem dX3_holds_34 : decode cX3_holds 34 = .ok (.goto 4, 3) := by decide +kernel
theorem dX3_holds_37 : decode cX3_holds 37 = .ok (.iconst 0, 1) := by decide +kernel
theorem dX3_holds_38 : decode cX3_holds 38 = .ok (.ireturn, 1) := by decide +kernel
theorem dX3_holds_39 : decode cX3_holds 39 = .ok (.iload_n 1, 1) := by decide +kernel
theorem dX3_holds_40 : decode cX3_holds 40 = .ok (.iload_n 2, 1) := by decide +kernel
theorem dX3_holds_41 : decode cX3_holds 41 = .ok (.if_icmp .eq 7, 3) := by decide +kernel
theorem dX3_holds_44 : decode cX3_holds 44 = .ok (.iconst 1, 1) := by decide +kernel
theorem dX3_holds_45 : decode cX3_holds 45 = .ok (.goto 4, 3) := by decide +kernel
theorem dX3_holds_48 : decode cX3_holds 48 = .ok (.iconst 0, 1) := by decide +kernel
theorem dX3_holds_49 : decode cX3_holds 49 = .ok (.ireturn, 1) := by decide +kernel
theorem dX3_holds_50 : decode cX3_holds 50 = .ok (.iload_n 1, 1) := by decide +kernel
theorem dX3_holds_51 : decode cX3_holds 51 = .ok (.iload_n 2, 1) := by decide +kernel
theorem dX3_holds_52 : decode cX3_holds 52 = .ok (.if_icmp .ge 7, 3) := by decide +kernel
theorem dX3_holds_55 : decode cX3_holds 55 = .ok (.iconst 1, 1) := by decide +kernel
theorem dX3_holds_56 : decode cX3_holds 56 = .ok (.goto 4, 3) := by decide +kernel
theorem dX3_holds_59 : decode cX3_holds 59 = .ok (.iconst 0, 1) := by decide +kernel
theorem dX3_holds_60 : decode cX3_holds 60 = .ok (.ireturn, 1) := by decide +kernel
set_option maxRecDepth 20000 in
theorem ggX3_useControl_X3_byteC : GoodIn wsX3_useControl wsX3_byteC := goodIn_r _ [6] (by decide +kernel) (by decide +kernel)
set_option maxRecDepth 20000 in
theorem gX3_useControl_X3_byteC : GoodIn wsX3_useControl (va_wsS RX3 161 yX3_byteC wsX3_byteC) := goodIn_app (goodIn_of _ (by decide +kernel)) ggX3_useControl_X3_byteC
set_option maxRecDepth 20000 in
theorem ggX3_useControl_X3_raise : GoodIn wsX3_useControl wsX3_raise := goodIn_r _ [10, 1, 2, 11, 12, 13, 14, 15, 16, 17, 18, 19, 20, 21, 22, 42, 43, 44, 45, 46, 47, 48, 49, 50, 51] (by decide +kernel) (by decide +kernel)
set_option maxRecDepth 20000 in
theorem gX3_useControl_X3_raise : GoodIn wsX3_useControl (wsV RX3 92 RX3 yX3_raise wsX3_raise) := goodIn_app (goodIn_of _ (by decide +kernel)) ggX3_useControl_X3_raise
set_option maxRecDepth 20000 in
theorem ggX3_useControl_X2_get : GoodIn wsX3_useControl wsX2_get := goodIn_r _ [22, 16, 51] (by decide +kernel) (by decide +kernel)
set_option maxRecDepth 20000 in
theorem gX3_useControl_X2_get_n77 : GoodIn wsX3_useControl (wsX2_get) := ggX3_useControl_X2_get
set_option maxRecDepth 20000 in
theorem ggX3_useControl_X3_valueA : GoodIn wsX3_useControl wsX3_valueA := goodIn_r _ [26, 27, 42, 43, 44, 45, 46, 47, 48, 49, 50] (by decide +kernel) (by decide +kernel)
set_option maxRecDepth 20000 in
theorem gX3_useControl_X3_valueA : GoodIn wsX3_useControl (wsV RX3 164 RX3 yX3_valueA wsX3_valueA) := goodIn_app (goodIn_of _ (by decide +kernel)) ggX3_useControl_X3_valueA
set_option maxRecDepth 20000 in
theorem ggX3_useControl_X2_write : GoodIn wsX3_useControl wsX2_write := goodIn_r _ [30, 31, 16, 32, 33, 51] (by decide +kernel) (by decide +kernel)
set_option maxRecDepth 20000 in
theorem gX3_useControl_X2_write_n171 : GoodIn wsX3_useControl (wsX2_write) := ggX3_useControl_X2_write
set_option maxRecDepth 20000 in
theorem ggX3_useControl_X3_valueB : GoodIn wsX3_useControl wsX3_valueB := goodIn_r _ [37, 27, 42, 43, 44, 45, 46, 47, 48, 49, 50] (by decide +kernel) (by decide +kernel)
set_option maxRecDepth 20000 in
theorem gX3_useControl_X3_valueB : GoodIn wsX3_useControl (wsV RX3 148 RX3 yX3_valueB wsX3_valueB) := goodIn_app (goodIn_of _ (by decide +kernel)) ggX3_useControl_X3_valueB
set_option maxRecDepth 20000 in
theorem ggX3_useControl_X3_setA : GoodIn wsX3_useControl wsX3_setA := goodIn_r _ [41, 27, 42, 43, 44, 45, 46, 47, 48, 49, 50] (by decide +kernel) (by decide +kernel)
set_option maxRecDepth 20000 in
theorem gX3_useControl_X3_setA : GoodIn wsX3_useControl (wsV RX3 145 RX3 yX3_setA wsX3_setA) := goodIn_app (goodIn_of _ (by decide +kernel)) ggX3_useControl_X3_setA
theorem dX3_useControl_0 : decode cX3_useControl 0 = .ok (.iload_n 2, 1) := by decide +kernel
theorem dX3_useControl_1 : decode cX3_useControl 1 = .ok (.invokestatic 161, 3) := by decide +kernel
theorem dX3_useControl_4 : decode cX3_useControl 4 = .ok (.istore_n 3, 1) := by decide +kernel
theorem dX3_useControl_5 : decode cX3_useControl 5 = .ok (.iload_n 3, 1) := by decide +kernel
theorem dX3_useControl_6 : decode cX3_useControl 6 = .ok (.bipush 17, 2) := by decide +kernel
theorem dX3_useControl_8 : decode cX3_useControl 8 = .ok (.if_icmp .le 10, 3) := by decide +kernel
theorem dX3_useControl_11 : decode cX3_useControl 11 = .ok (.aload_n 0, 1) := by decide +kernel
theorem dX3_useControl_12 : decode cX3_useControl 12 = .ok (.bipush 13, 2) := by decide +kernel
theorem dX3_useControl_14 : decode cX3_useControl 14 = .ok (.invokevirtual 92, 3) := by decide +kernel
theorem dX3_useControl_17 : decode cX3_useControl 17 = .ok (.return_, 1) := by decide +kernel
theorem dX3_useControl_18 : decode cX3_useControl 18 = .ok (.aload_n 0, 1) := by decide +kernel
theorem dX3_useControl_19 : decode cX3_useControl 19 = .ok (.getfield 19, 3) := by decide +kernel
theorem dX3_useControl_22 : decode cX3_useControl 22 = .ok (.iload_n 3, 1) := by decide +kernel
theorem dX3_useControl_23 : decode cX3_useControl 23 = .ok (.invokevirtual 77, 3) := by decide +kernel
theorem dX3_useControl_26 : decode cX3_useControl 26 = .ok (.istore 4, 2) := by decide +kernel
theorem dX3_useControl_28 : decode cX3_useControl 28 = .ok (.iload_n 1, 1) := by decide +kernel
theorem dX3_useControl_29 : decode cX3_useControl 29 = .ok (.bipush 19, 2) := by decide +kernel
theorem dX3_useControl_31 : decode cX3_useControl 31 = .ok (.if_icmp .ne 20, 3) := by decide +kernel
theorem dX3_useControl_34 : decode cX3_useControl 34 = .ok (.aload_n 0, 1) := by decide +kernel
theorem dX3_useControl_35 : decode cX3_useControl 35 = .ok (.getfield 19, 3) := by decide +kernel
theorem dX3_useControl_38 : decode cX3_useControl 38 = .ok (.iload_n 3, 1) := by decide +kernel
theorem dX3_useControl_39 : decode cX3_useControl 39 = .ok (.aload_n 0, 1) := by decide +kernel
theorem dX3_useControl_40 : decode cX3_useControl 40 = .ok (.iload_n 2, 1) := by decide +kernel
theorem dX3_useControl_41 : decode cX3_useControl 41 = .ok (.invokevirtual 164, 3) := by decide +kernel
theorem dX3_useControl_44 : decode cX3_useControl 44 = .ok (.iconst (-1), 1) := by decide +kernel
theorem dX3_useControl_45 : decode cX3_useControl 45 = .ok (.invokevirtual 171, 3) := by decide +kernel
theorem dX3_useControl_48 : decode cX3_useControl 48 = .ok (.goto 27, 3) := by decide +kernel
theorem dX3_useControl_51 : decode cX3_useControl 51 = .ok (.iload_n 1, 1) := by decide +kernel
theorem dX3_useControl_52 : decode cX3_useControl 52 = .ok (.bipush 20, 2) := by decide +kernel
theorem dX3_useControl_54 : decode cX3_useControl 54 = .ok (.if_icmp .ne 21, 3) := by decide +kernel
theorem dX3_useControl_57 : decode cX3_useControl 57 = .ok (.aload_n 0, 1) := by decide +kernel
theorem dX3_useControl_58 : decode cX3_useControl 58 = .ok (.getfield 19, 3) := by decide +kernel
theorem dX3_useControl_61 : decode cX3_useControl 61 = .ok (.iload_n 3, 1) := by decide +kernel
theorem dX3_useControl_62 : decode cX3_useControl 62 = .ok (.aload_n 0, 1) := by decide +kernel
theorem dX3_useControl_63 : decode cX3_useControl 63 = .ok (.iload_n 2, 1) := by decide +kernel
theorem dX3_useControl_64 : decode cX3_useControl 64 = .ok (.invokevirtual 164, 3) := by decide +kernel
theorem dX3_useControl_67 : decode cX3_useControl 67 = .ok (.aload_n 0, 1) := by decide +kernel
theorem dX3_useControl_68 : decode cX3_useControl 68 = .ok (.iload_n 2, 1) := by decide +kernel
theorem dX3_useControl_69 : decode cX3_useControl 69 = .ok (.invokevirtual 148, 3) := by decide +kernel
theorem dX3_useControl_72 : decode cX3_useControl 72 = .ok (.invokevirtual 171, 3) := by decide +kernel
theorem dX3_useControl_75 : decode cX3_useControl 75 = .ok (.aload_n 0, 1) := by decide +kernel
theorem dX3_useControl_76 : decode cX3_useControl 76 = .ok (.iload_n 2, 1) := by decide +kernel
theorem dX3_useControl_77 : decode cX3_useControl 77 = .ok (.iload 4, 2) := by decide +kernel
theorem dX3_useControl_79 : decode cX3_useControl 79 = .ok (.invokevirtual 145, 3) := by decide +kernel
theorem dX3_useControl_82 : decode cX3_useControl 82 = .ok (.aload_n 0, 1) := by decide +kernel
theorem dX3_useControl_83 : decode cX3_useControl 83 = .ok (.dup, 1) := by decide +kernel
theorem dX3_useControl_84 : decode cX3_useControl 84 = .ok (.getfield 54, 3) := by decide +kernel
theorem dX3_useControl_87 : decode cX3_useControl 87 = .ok (.iconst 4, 1) := by decide +kernel
theorem dX3_useControl_88 : decode cX3_useControl 88 = .ok (.iadd, 1) := by decide +kernel
theorem dX3_useControl_89 : decode cX3_useControl 89 = .ok (.putfield 54, 3) := by decide +kernel
theorem dX3_useControl_92 : decode cX3_useControl 92 = .ok (.return_, 1) := by decide +kernel
set_option maxRecDepth 20000 in
theorem ggX3_goBack_X2_leave : GoodIn wsX3_goBack wsX2_leave := goodIn_r _ [7, 8, 9, 10, 11, 5, 12, 25] (by decide +kernel) (by decide +kernel)
set_option maxRecDepth 20000 in
theorem gX3_goBack_X2_leave_n175 : GoodIn wsX3_goBack (wsX2_leave) := ggX3_goBack_X2_leave
set_option maxRecDepth 20000 in
theorem ggX3_goBack_X2_get : GoodIn wsX3_goBack wsX2_get := goodIn_r _ [15, 8, 25] (by decide +kernel) (by decide +kernel)
set_option maxRecDepth 20000 in
theorem gX3_goBack_X2_get_n77 : GoodIn wsX3_goBack (wsX2_get) := ggX3_goBack_X2_get
theorem dX3_goBack_0 : decode cX3_goBack 0 = .ok (.aload_n 0, 1) := by decide +kernel
theorem dX3_goBack_1 : decode cX3_goBack 1 = .ok (.getfield 19, 3) := by decide +kernel
theorem dX3_goBack_4 : decode cX3_goBack 4 = .ok (.invokevirtual 175, 3) := by decide +kernel
theorem dX3_goBack_7 : decode cX3_goBack 7 = .ok (.aload_n 0, 1) := by decide +kernel
theorem dX3_goBack_8 : decode cX3_goBack 8 = .ok (.aload_n 0, 1) := by decide +kernel
theorem dX3_goBack_9 : decode cX3_goBack 9 = .ok (.getfield 19, 3) := by decide +kernel
theorem dX3_goBack_12 : decode cX3_goBack 12 = .ok (.iconst 4, 1) := by decide +kernel
theorem dX3_goBack_13 : decode cX3_goBack 13 = .ok (.invokevirtual 77, 3) := by decide +kernel
theorem dX3_goBack_16 : decode cX3_goBack 16 = .ok (.putfield 54, 3) := by decide +kernel
theorem dX3_goBack_19 : decode cX3_goBack 19 = .ok (.aload_n 0, 1) := by decide +kernel
theorem dX3_goBack_20 : decode cX3_goBack 20 = .ok (.iconst 0, 1) := by decide +kernel
theorem dX3_goBack_21 : decode cX3_goBack 21 = .ok (.putfield 72, 3) := by decide +kernel
theorem dX3_goBack_24 : decode cX3_goBack 24 = .ok (.return_, 1) := by decide +kernel
set_option maxRecDepth 20000 in
theorem ggX3_useBuffer_X2_get : GoodIn wsX3_useBuffer wsX2_get := goodIn_r _ [7, 8, 60] (by decide +kernel) (by decide +kernel)
set_option maxRecDepth 20000 in
theorem gX3_useBuffer_X2_get_n77 : GoodIn wsX3_useBuffer (wsX2_get) := ggX3_useBuffer_X2_get
set_option maxRecDepth 20000 in
theorem ggX3_useBuffer_X3_searchEntry : GoodIn wsX3_useBuffer wsX3_searchEntry := goodIn_r _ [13, 1, 14, 4, 5, 6, 7, 8, 15, 16, 17, 18, 19, 20, 21, 22, 23, 24, 25, 26, 27, 51, 52, 53, 54, 55, 56, 57, 58, 59, 60, 61] (by decide +kernel) (by decide +kernel)
set_option maxRecDepth 20000 in
theorem gX3_useBuffer_X3_searchEntry : GoodIn wsX3_useBuffer (wsV RX3 178 RX3 yX3_searchEntry wsX3_searchEntry) := goodIn_app (goodIn_of _ (by decide +kernel)) ggX3_useBuffer_X3_searchEntry
set_option maxRecDepth 20000 in
theorem ggX3_useBuffer_X3_readEntry : GoodIn wsX3_useBuffer wsX3_readEntry := goodIn_r _ [31, 14, 1, 32, 16, 33, 34, 19, 20, 5, 21, 22, 8, 23, 24, 25, 26, 27, 51, 52, 53, 54, 55, 56, 57, 58, 59, 61, 60] (by decide +kernel) (by decide +kernel)
set_option maxRecDepth 20000 in
theorem gX3_useBuffer_X3_readEntry : GoodIn wsX3_useBuffer (wsV RX3 181 RX3 yX3_readEntry wsX3_readEntry) := goodIn_app (goodIn_of _ (by decide +kernel)) ggX3_useBuffer_X3_readEntry
set_option maxRecDepth 20000 in
theorem ggX3_useBuffer_X3_writeEntry : GoodIn wsX3_useBuffer wsX3_writeEntry := goodIn_r _ [38, 1, 14, 39, 5, 40, 41, 8, 24, 42, 43, 44, 4, 6, 7, 45, 16, 46, 47, 19, 48, 49, 50, 51, 52, 53, 54, 55, 56, 57, 58, 59, 60, 61] (by decide +kernel) (by decide +kernel)
set_option maxRecDepth 20000 in
theorem gX3_useBuffer_X3_writeEntry : GoodIn wsX3_useBuffer (wsV RX3 184 RX3 yX3_writeEntry wsX3_writeEntry) := goodIn_app (goodIn_of _ (by decide +kernel)) ggX3_useBuffer_X3_writeEntry
theorem dX3_useBuffer_0 : decode cX3_useBuffer 0 = .ok (.aload_n 0, 1) := by decide +kernel
theorem dX3_useBuffer_1 : decode cX3_useBuffer 1 = .ok (.getfield 19, 3) := by decide +kernel
theorem dX3_useBuffer_4 : decode cX3_useBuffer 4 = .ok (.bipush 7, 2) := by decide +kernel
theorem dX3_useBuffer_6 : decode cX3_useBuffer 6 = .ok (.invokevirtual 77, 3) := by decide +kernel
theorem dX3_useBuffer_9 : decode cX3_useBuffer 9 = .ok (.iconst 3, 1) := by decide +kernel
theorem dX3_useBuffer_10 : decode cX3_useBuffer 10 = .ok (.iand, 1) := by decide +kernel
theorem dX3_useBuffer_11 : decode cX3_useBuffer 11 = .ok (.istore_n 2, 1) := by decide +kernel
theorem dX3_useBuffer_12 : decode cX3_useBuffer 12 = .ok (.iload_n 1, 1) := by decide +kernel
theorem dX3_useBuffer_13 : decode cX3_useBuffer 13 = .ok (.bipush 21, 2) := by decide +kernel
theorem dX3_useBuffer_15 : decode cX3_useBuffer 15 = .ok (.if_icmp .ne 10, 3) := by decide +kernel
theorem dX3_useBuffer_18 : decode cX3_useBuffer 18 = .ok (.aload_n 0, 1) := by decide +kernel
theorem dX3_useBuffer_19 : decode cX3_useBuffer 19 = .ok (.invokevirtual 178, 3) := by decide +kernel
theorem dX3_useBuffer_22 : decode cX3_useBuffer 22 = .ok (.goto 51, 3) := by decide +kernel
theorem dX3_useBuffer_25 : decode cX3_useBuffer 25 = .ok (.iload_n 1, 1) := by decide +kernel
theorem dX3_useBuffer_26 : decode cX3_useBuffer 26 = .ok (.bipush 22, 2) := by decide +kernel
theorem dX3_useBuffer_28 : decode cX3_useBuffer 28 = .ok (.if_icmp .ne 11, 3) := by decide +kernel
theorem dX3_useBuffer_31 : decode cX3_useBuffer 31 = .ok (.aload_n 0, 1) := by decide +kernel
theorem dX3_useBuffer_32 : decode cX3_useBuffer 32 = .ok (.iload_n 2, 1) := by decide +kernel
theorem dX3_useBuffer_33 : decode cX3_useBuffer 33 = .ok (.invokevirtual 181, 3) := by decide +kernel
theorem dX3_useBuffer_36 : decode cX3_useBuffer 36 = .ok (.goto 37, 3) := by decide +kernel
theorem dX3_useBuffer_39 : decode cX3_useBuffer 39 = .ok (.iload_n 1, 1) := by decide +kernel
theorem dX3_useBuffer_40 : decode cX3_useBuffer 40 = .ok (.bipush 23, 2) := by decide +kernel
theorem dX3_useBuffer_42 : decode cX3_useBuffer 42 = .ok (.if_icmp .ne 11, 3) := by decide +kernel
theorem dX3_useBuffer_45 : decode cX3_useBuffer 45 = .ok (.aload_n 0, 1) := by decide +kernel
theorem dX3_useBuffer_46 : decode cX3_useBuffer 46 = .ok (.iload_n 2, 1) := by decide +kernel
theorem dX3_useBuffer_47 : decode cX3_useBuffer 47 = .ok (.invokevirtual 184, 3) := by decide +kernel
theorem dX3_useBuffer_50 : decode cX3_useBuffer 50 = .ok (.goto 23, 3) := by decide +kernel
theorem dX3_useBuffer_53 : decode cX3_useBuffer 53 = .ok (.aload_n 0, 1) := by decide +kernel
theorem dX3_useBuffer_54 : decode cX3_useBuffer 54 = .ok (.aload_n 0, 1) := by decide +kernel
theorem dX3_useBuffer_55 : decode cX3_useBuffer 55 = .ok (.getfield 51, 3) := by decide +kernel
theorem dX3_useBuffer_58 : decode cX3_useBuffer 58 = .ok (.invokevirtual 184, 3) := by decide +kernel
theorem dX3_useBuffer_61 : decode cX3_useBuffer 61 = .ok (.aload_n 0, 1) := by decide +kernel
theorem dX3_useBuffer_62 : decode cX3_useBuffer 62 = .ok (.aload_n 0, 1) := by decide +kernel
theorem dX3_useBuffer_63 : decode cX3_useBuffer 63 = .ok (.getfield 51, 3) := by decide +kernel
theorem dX3_useBuffer_66 : decode cX3_useBuffer 66 = .ok (.iconst 1, 1) := by decide +kernel
theorem dX3_useBuffer_67 : decode cX3_useBuffer 67 = .ok (.iadd, 1) := by decide +kernel
theorem dX3_useBuffer_68 : decode cX3_useBuffer 68 = .ok (.iconst 3, 1) := by decide +kernel
theorem dX3_useBuffer_69 : decode cX3_useBuffer 69 = .ok (.iand, 1) := by decide +kernel
theorem dX3_useBuffer_70 : decode cX3_useBuffer 70 = .ok (.putfield 51, 3) := by decide +kernel
theorem dX3_useBuffer_73 : decode cX3_useBuffer 73 = .ok (.aload_n 0, 1) := by decide +kernel
theorem dX3_useBuffer_74 : decode cX3_useBuffer 74 = .ok (.dup, 1) := by decide +kernel
theorem dX3_useBuffer_75 : decode cX3_useBuffer 75 = .ok (.getfield 54, 3) := by decide +kernel
theorem dX3_useBuffer_78 : decode cX3_useBuffer 78 = .ok (.iconst 4, 1) := by decide +kernel
theorem dX3_useBuffer_79 : decode cX3_useBuffer 79 = .ok (.iadd, 1) := by decide +kernel
theorem dX3_useBuffer_80 : decode cX3_useBuffer 80 = .ok (.putfield 54, 3) := by decide +kernel
theorem dX3_useBuffer_83 : decode cX3_useBuffer 83 = .ok (.return_, 1) := by decide +kernel
set_option maxRecDepth 20000 in
theorem ggX3_searchEntry_X2_get : GoodIn wsX3_searchEntry wsX2_get := goodIn_r _ [6, 7, 30] (by decide +kernel) (by decide +kernel)
set_option maxRecDepth 20000 in
theorem gX3_searchEntry_X2_get_n77 : GoodIn wsX3_searchEntry (wsX2_get) := ggX3_searchEntry_X2_get
set_option maxRecDepth 20000 in
theorem ggX3_searchEntry_X0_find : GoodIn wsX3_searchEntry wsX0_find := goodIn_r _ [11, 12, 31] (by decide +kernel) (by decide +kernel)
set_option maxRecDepth 20000 in
theorem gX3_searchEntry_X0_find_n187 : GoodIn wsX3_searchEntry (wsX0_find) := ggX3_searchEntry_X0_find
set_option maxRecDepth 20000 in
theorem ggX3_searchEntry_X2_setEmpty : GoodIn wsX3_searchEntry wsX2_setEmpty := goodIn_r _ [15, 7, 16, 17, 30] (by decide +kernel) (by decide +kernel)
set_option maxRecDepth 20000 in
theorem gX3_searchEntry_X2_setEmpty_n190 : GoodIn wsX3_searchEntry (wsX2_setEmpty) := ggX3_searchEntry_X2_setEmpty
set_option maxRecDepth 20000 in
theorem ggX3_searchEntry_X2_set : GoodIn wsX3_searchEntry wsX2_set := goodIn_r _ [20, 7, 30] (by decide +kernel) (by decide +kernel)
set_option maxRecDepth 20000 in
theorem gX3_searchEntry_X2_set_n194 : GoodIn wsX3_searchEntry (wsX2_set) := ggX3_searchEntry_X2_set
theorem dX3_searchEntry_0 : decode cX3_searchEntry 0 = .ok (.aload_n 0, 1) := by decide +kernel
theorem dX3_searchEntry_1 : decode cX3_searchEntry 1 = .ok (.getfield 19, 3) := by decide +kernel
theorem dX3_searchEntry_4 : decode cX3_searchEntry 4 = .ok (.bipush 8, 2) := by decide +kernel
theorem dX3_searchEntry_6 : decode cX3_searchEntry 6 = .ok (.invokevirtual 77, 3) := by decide +kernel
theorem dX3_searchEntry_9 : decode cX3_searchEntry 9 = .ok (.bipush 7, 2) := by decide +kernel
theorem dX3_searchEntry_11 : decode cX3_searchEntry 11 = .ok (.iushr, 1) := by decide +kernel
theorem dX3_searchEntry_12 : decode cX3_searchEntry 12 = .ok (.istore_n 1, 1) := by decide +kernel
theorem dX3_searchEntry_13 : decode cX3_searchEntry 13 = .ok (.aload_n 0, 1) := by decide +kernel
theorem dX3_searchEntry_14 : decode cX3_searchEntry 14 = .ok (.getfield 26, 3) := by decide +kernel
theorem dX3_searchEntry_17 : decode cX3_searchEntry 17 = .ok (.iload_n 1, 1) := by decide +kernel
theorem dX3_searchEntry_18 : decode cX3_searchEntry 18 = .ok (.aload_n 0, 1) := by decide +kernel
theorem dX3_searchEntry_19 : decode cX3_searchEntry 19 = .ok (.getfield 19, 3) := by decide +kernel
theorem dX3_searchEntry_22 : decode cX3_searchEntry 22 = .ok (.bipush 11, 2) := by decide +kernel
theorem dX3_searchEntry_24 : decode cX3_searchEntry 24 = .ok (.invokevirtual 77, 3) := by decide +kernel
theorem dX3_searchEntry_27 : decode cX3_searchEntry 27 = .ok (.iconst 0, 1) := by decide +kernel
theorem dX3_searchEntry_28 : decode cX3_searchEntry 28 = .ok (.invokevirtual 187, 3) := by decide +kernel
theorem dX3_searchEntry_31 : decode cX3_searchEntry 31 = .ok (.istore_n 2, 1) := by decide +kernel
theorem dX3_searchEntry_32 : decode cX3_searchEntry 32 = .ok (.iload_n 2, 1) := by decide +kernel
theorem dX3_searchEntry_33 : decode cX3_searchEntry 33 = .ok (.ifCond .ge 14, 3) := by decide +kernel
theorem dX3_searchEntry_36 : decode cX3_searchEntry 36 = .ok (.aload_n 0, 1) := by decide +kernel
theorem dX3_searchEntry_37 : decode cX3_searchEntry 37 = .ok (.getfield 19, 3) := by decide +kernel
theorem dX3_searchEntry_40 : decode cX3_searchEntry 40 = .ok (.iconst 1, 1) := by decide +kernel
theorem dX3_searchEntry_41 : decode cX3_searchEntry 41 = .ok (.invokevirtual 190, 3) := by decide +kernel
theorem dX3_searchEntry_44 : decode cX3_searchEntry 44 = .ok (.goto 13, 3) := by decide +kernel
theorem dX3_searchEntry_47 : decode cX3_searchEntry 47 = .ok (.aload_n 0, 1) := by decide +kernel
theorem dX3_searchEntry_48 : decode cX3_searchEntry 48 = .ok (.getfield 19, 3) := by decide +kernel
theorem dX3_searchEntry_51 : decode cX3_searchEntry 51 = .ok (.bipush 7, 2) := by decide +kernel
theorem dX3_searchEntry_53 : decode cX3_searchEntry 53 = .ok (.iload_n 2, 1) := by decide +kernel
theorem dX3_searchEntry_54 : decode cX3_searchEntry 54 = .ok (.invokevirtual 194, 3) := by decide +kernel
theorem dX3_searchEntry_57 : decode cX3_searchEntry 57 = .ok (.return_, 1) := by decide +kernel
set_option maxRecDepth 20000 in
theorem ggX3_readEntry_X0_get : GoodIn wsX3_readEntry wsX0_get := goodIn_r _ [6, 7, 27] (by decide +kernel) (by decide +kernel)
set_option maxRecDepth 20000 in
theorem gX3_readEntry_X0_get_n83 : GoodIn wsX3_readEntry (wsX0_get) := ggX3_readEntry_X0_get
set_option maxRecDepth 20000 in
theorem ggX3_readEntry_X2_setEmpty : GoodIn wsX3_readEntry wsX2_setEmpty := goodIn_r _ [11, 12, 13, 14, 28] (by decide +kernel) (by decide +kernel)
set_option maxRecDepth 20000 in
theorem gX3_readEntry_X2_setEmpty_n190 : GoodIn wsX3_readEntry (wsX2_setEmpty) := ggX3_readEntry_X2_setEmpty
set_option maxRecDepth 20000 in
theorem ggX3_readEntry_X2_set : GoodIn wsX3_readEntry wsX2_set := goodIn_r _ [17, 12, 28] (by decide +kernel) (by decide +kernel)
set_option maxRecDepth 20000 in
theorem gX3_readEntry_X2_set_n194 : GoodIn wsX3_readEntry (wsX2_set) := ggX3_readEntry_X2_set
theorem dX3_readEntry_0 : decode cX3_readEntry 0 = .ok (.aload_n 0, 1) := by decide +kernel
theorem dX3_readEntry_1 : decode cX3_readEntry 1 = .ok (.getfield 26, 3) := by decide +kernel
theorem dX3_readEntry_4 : decode cX3_readEntry 4 = .ok (.iload_n 1, 1) := by decide +kernel
theorem dX3_readEntry_5 : decode cX3_readEntry 5 = .ok (.iconst 0, 1) := by decide +kernel
theorem dX3_readEntry_6 : decode cX3_readEntry 6 = .ok (.invokevirtual 83, 3) := by decide +kernel
theorem dX3_readEntry_9 : decode cX3_readEntry 9 = .ok (.iconst 1, 1) := by decide +kernel
theorem dX3_readEntry_10 : decode cX3_readEntry 10 = .ok (.if_icmp .ne 7, 3) := by decide +kernel
theorem dX3_readEntry_13 : decode cX3_readEntry 13 = .ok (.iconst 1, 1) := by decide +kernel
theorem dX3_readEntry_14 : decode cX3_readEntry 14 = .ok (.goto 4, 3) := by decide +kernel
theorem dX3_readEntry_17 : decode cX3_readEntry 17 = .ok (.iconst 0, 1) := by decide +kernel
theorem dX3_readEntry_18 : decode cX3_readEntry 18 = .ok (.istore_n 2, 1) := by decide +kernel
theorem dX3_readEntry_19 : decode cX3_readEntry 19 = .ok (.aload_n 0, 1) := by decide +kernel
theorem dX3_readEntry_20 : decode cX3_readEntry 20 = .ok (.getfield 19, 3) := by decide +kernel
theorem dX3_readEntry_23 : decode cX3_readEntry 23 = .ok (.iload_n 2, 1) := by decide +kernel
theorem dX3_readEntry_24 : decode cX3_readEntry 24 = .ok (.ifCond .ne 7, 3) := by decide +kernel
theorem dX3_readEntry_27 : decode cX3_readEntry 27 = .ok (.iconst 1, 1) := by decide +kernel
theorem dX3_readEntry_28 : decode cX3_readEntry 28 = .ok (.goto 4, 3) := by decide +kernel
theorem dX3_readEntry_31 : decode cX3_readEntry 31 = .ok (.iconst 0, 1) := by decide +kernel
theorem dX3_readEntry_32 : decode cX3_readEntry 32 = .ok (.invokevirtual 190, 3) := by decide +kernel
theorem dX3_readEntry_35 : decode cX3_readEntry 35 = .ok (.iload_n 2, 1) := by decide +kernel
theorem dX3_readEntry_36 : decode cX3_readEntry 36 = .ok (.ifCond .ne 34, 3) := by decide +kernel
theorem dX3_readEntry_39 : decode cX3_readEntry 39 = .ok (.aload_n 0, 1) := by decide +kernel
theorem dX3_readEntry_40 : decode cX3_readEntry 40 = .ok (.getfield 19, 3) := by decide +kernel
theorem dX3_readEntry_43 : decode cX3_readEntry 43 = .ok (.bipush 8, 2) := by decide +kernel
theorem dX3_readEntry_45 : decode cX3_readEntry 45 = .ok (.iconst 0, 1) := by decide +kernel
theorem dX3_readEntry_46 : decode cX3_readEntry 46 = .ok (.invokevirtual 194, 3) := by decide +kernel
theorem dX3_readEntry_49 : decode cX3_readEntry 49 = .ok (.aload_n 0, 1) := by decide +kernel
theorem dX3_readEntry_50 : decode cX3_readEntry 50 = .ok (.getfield 19, 3) := by decide +kernel
theorem dX3_readEntry_53 : decode cX3_readEntry 53 = .ok (.bipush 9, 2) := by decide +kernel
theorem dX3_readEntry_55 : decode cX3_readEntry 55 = .ok (.iconst 0, 1) := by decide +kernel
theorem dX3_readEntry_56 : decode cX3_readEntry 56 = .ok (.invokevirtual 194, 3) := by decide +kernel
theorem dX3_readEntry_59 : decode cX3_readEntry 59 = .ok (.aload_n 0, 1) := by decide +kernel
theorem dX3_readEntry_60 : decode cX3_readEntry 60 = .ok (.getfield 19, 3) := by decide +kernel
theorem dX3_readEntry_63 : decode cX3_readEntry 63 = .ok (.bipush 10, 2) := by decide +kernel
theorem dX3_readEntry_65 : decode cX3_readEntry 65 = .ok (.iconst 0, 1) := by decide +kernel
theorem dX3_readEntry_66 : decode cX3_readEntry 66 = .ok (.invokevirtual 194, 3) := by decide +kernel
theorem dX3_readEntry_69 : decode cX3_readEntry 69 = .ok (.return_, 1) := by decide +kernel
theorem dX3_readEntry_70 : decode cX3_readEntry 70 = .ok (.aload_n 0, 1) := by decide +kernel
theorem dX3_readEntry_71 : decode cX3_readEntry 71 = .ok (.getfield 26, 3) := by decide +kernel
theorem dX3_readEntry_74 : decode cX3_readEntry 74 = .ok (.iload_n 1, 1) := by decide +kernel
theorem dX3_readEntry_75 : decode cX3_readEntry 75 = .ok (.iconst 3, 1) := by decide +kernel
theorem dX3_readEntry_76 : decode cX3_readEntry 76 = .ok (.invokevirtual 83, 3) := by decide +kernel
theorem dX3_readEntry_79 : decode cX3_readEntry 79 = .ok (.iconst 1, 1) := by decide +kernel
theorem dX3_readEntry_80 : decode cX3_readEntry 80 = .ok (.if_icmp .ne 8, 3) := by decide +kernel
theorem dX3_readEntry_83 : decode cX3_readEntry 83 = .ok (.bipush 16, 2) := by decide +kernel
theorem dX3_readEntry_85 : decode cX3_readEntry 85 = .ok (.goto 4, 3) := by decide +kernel
theorem dX3_readEntry_88 : decode cX3_readEntry 88 = .ok (.iconst 0, 1) := by decide +kernel
theorem dX3_readEntry_89 : decode cX3_readEntry 89 = .ok (.istore_n 3, 1) := by decide +kernel
theorem dX3_readEntry_90 : decode cX3_readEntry 90 = .ok (.aload_n 0, 1) := by decide +kernel
theorem dX3_readEntry_91 : decode cX3_readEntry 91 = .ok (.getfield 19, 3) := by decide +kernel
theorem dX3_readEntry_94 : decode cX3_readEntry 94 = .ok (.bipush 8, 2) := by decide +kernel
theorem dX3_readEntry_96 : decode cX3_readEntry 96 = .ok (.aload_n 0, 1) := by decide +kernel
theorem dX3_readEntry_97 : decode cX3_readEntry 97 = .ok (.getfield 26, 3) := by decide +kernel
theorem dX3_readEntry_100 : decode cX3_readEntry 100 = .ok (.iload_n 1, 1) := by decide +kernel
theorem dX3_readEntry_101 : decode cX3_readEntry 101 = .ok (.iconst 1, 1) := by decide +kernel
theorem dX3_readEntry_102 : decode cX3_readEntry 102 = .ok (.invokevirtual 83, 3) := by decide +kernel
theorem dX3_readEntry_105 : decode cX3_readEntry 105 = .ok (.bipush 7, 2) := by decide +kernel
theorem dX3_readEntry_107 : decode cX3_readEntry 107 = .ok (.ishl, 1) := by decide +kernel
theorem dX3_readEntry_108 : decode cX3_readEntry 108 = .ok (.invokevirtual 194, 3) := by decide +kernel
theorem dX3_readEntry_111 : decode cX3_readEntry 111 = .ok (.aload_n 0, 1) := by decide +kernel
theorem dX3_readEntry_112 : decode cX3_readEntry 112 = .ok (.getfield 19, 3) := by decide +kernel
theorem dX3_readEntry_115 : decode cX3_readEntry 115 = .ok (.bipush 9, 2) := by decide +kernel
theorem dX3_readEntry_117 : decode cX3_readEntry 117 = .ok (.aload_n 0, 1) := by decide +kernel
theorem dX3_readEntry_118 : decode cX3_readEntry 118 = .ok (.getfield 26, 3) := by decide +kernel
theorem dX3_readEntry_121 : decode cX3_readEntry 121 = .ok (.iload_n 1, 1) := by decide +kernel
theorem dX3_readEntry_122 : decode cX3_readEntry 122 = .ok (.iconst 4, 1) := by decide +kernel
theorem dX3_readEntry_123 : decode cX3_readEntry 123 = .ok (.invokevirtual 83, 3) := by decide +kernel
theorem dX3_readEntry_126 : decode cX3_readEntry 126 = .ok (.iload_n 3, 1) := by decide +kernel
theorem dX3_readEntry_127 : decode cX3_readEntry 127 = .ok (.ior, 1) := by decide +kernel
theorem dX3_readEntry_128 : decode cX3_readEntry 128 = .ok (.invokevirtual 194, 3) := by decide +kernel
theorem dX3_readEntry_131 : decode cX3_readEntry 131 = .ok (.aload_n 0, 1) := by decide +kernel
theorem dX3_readEntry_132 : decode cX3_readEntry 132 = .ok (.getfield 19, 3) := by decide +kernel
theorem dX3_readEntry_135 : decode cX3_readEntry 135 = .ok (.bipush 10, 2) := by decide +kernel
theorem dX3_readEntry_137 : decode cX3_readEntry 137 = .ok (.aload_n 0, 1) := by decide +kernel
theorem dX3_readEntry_138 : decode cX3_readEntry 138 = .ok (.getfield 26, 3) := by decide +kernel
theorem dX3_readEntry_141 : decode cX3_readEntry 141 = .ok (.iload_n 1, 1) := by decide +kernel
theorem dX3_readEntry_142 : decode cX3_readEntry 142 = .ok (.iconst 5, 1) := by decide +kernel
theorem dX3_readEntry_143 : decode cX3_readEntry 143 = .ok (.invokevirtual 83, 3) := by decide +kernel
theorem dX3_readEntry_146 : decode cX3_readEntry 146 = .ok (.iload_n 3, 1) := by decide +kernel
theorem dX3_readEntry_147 : decode cX3_readEntry 147 = .ok (.ior, 1) := by decide +kernel
theorem dX3_readEntry_148 : decode cX3_readEntry 148 = .ok (.invokevirtual 194, 3) := by decide +kernel
theorem dX3_readEntry_151 : decode cX3_readEntry 151 = .ok (.aload_n 0, 1) := by decide +kernel
theorem dX3_readEntry_152 : decode cX3_readEntry 152 = .ok (.getfield 19, 3) := by decide +kernel
theorem dX3_readEntry_155 : decode cX3_readEntry 155 = .ok (.bipush 11, 2) := by decide +kernel
theorem dX3_readEntry_157 : decode cX3_readEntry 157 = .ok (.aload_n 0, 1) := by decide +kernel
theorem dX3_readEntry_158 : decode cX3_readEntry 158 = .ok (.getfield 26, 3) := by decide +kernel
theorem dX3_readEntry_161 : decode cX3_readEntry 161 = .ok (.iload_n 1, 1) := by decide +kernel
theorem dX3_readEntry_162 : decode cX3_readEntry 162 = .ok (.iconst 2, 1) := by decide +kernel
theorem dX3_readEntry_163 : decode cX3_readEntry 163 = .ok (.invokevirtual 83, 3) := by decide +kernel
theorem dX3_readEntry_166 : decode cX3_readEntry 166 = .ok (.invokevirtual 194, 3) := by decide +kernel
theorem dX3_readEntry_169 : decode cX3_readEntry 169 = .ok (.return_, 1) := by decide +kernel
set_option maxRecDepth 20000 in
theorem ggX3_writeEntry_X2_isEmpty : GoodIn wsX3_writeEntry wsX2_isEmpty := goodIn_r _ [6, 7, 8, 32] (by decide +kernel) (by decide +kernel)
set_option maxRecDepth 20000 in
theorem gX3_writeEntry_X2_isEmpty_n197 : GoodIn wsX3_writeEntry (wsX2_isEmpty) := ggX3_writeEntry_X2_isEmpty
set_option maxRecDepth 20000 in
theorem ggX3_writeEntry_X2_code : GoodIn wsX3_writeEntry wsX2_code := goodIn_r _ [11, 7, 32] (by decide +kernel) (by decide +kernel)
set_option maxRecDepth 20000 in
theorem gX3_writeEntry_X2_code_n200 : GoodIn wsX3_writeEntry (wsX2_code) := ggX3_writeEntry_X2_code
set_option maxRecDepth 20000 in
theorem ggX3_writeEntry_X2_get : GoodIn wsX3_writeEntry wsX2_get := goodIn_r _ [14, 7, 32] (by decide +kernel) (by decide +kernel)
set_option maxRecDepth 20000 in
theorem gX3_writeEntry_X2_get_n77 : GoodIn wsX3_writeEntry (wsX2_get) := ggX3_writeEntry_X2_get
set_option maxRecDepth 20000 in
theorem ggX3_writeEntry_X0_set : GoodIn wsX3_writeEntry wsX0_set := goodIn_r _ [18, 19, 33] (by decide +kernel) (by decide +kernel)
set_option maxRecDepth 20000 in
theorem gX3_writeEntry_X0_set_n203 : GoodIn wsX3_writeEntry (wsX0_set) := ggX3_writeEntry_X0_set
set_option maxRecDepth 20000 in
theorem ggX3_writeEntry_X0_setHalves : GoodIn wsX3_writeEntry wsX0_setHalves := goodIn_r _ [22, 19, 33] (by decide +kernel) (by decide +kernel)
set_option maxRecDepth 20000 in
theorem gX3_writeEntry_X0_setHalves_n206 : GoodIn wsX3_writeEntry (wsX0_setHalves) := ggX3_writeEntry_X0_setHalves
theorem dX3_writeEntry_0 : decode cX3_writeEntry 0 = .ok (.aload_n 0, 1) := by decide +kernel
theorem dX3_writeEntry_1 : decode cX3_writeEntry 1 = .ok (.getfield 19, 3) := by decide +kernel
theorem dX3_writeEntry_4 : decode cX3_writeEntry 4 = .ok (.invokevirtual 197, 3) := by decide +kernel
theorem dX3_writeEntry_7 : decode cX3_writeEntry 7 = .ok (.ifCond .eq 15, 3) := by decide +kernel
theorem dX3_writeEntry_10 : decode cX3_writeEntry 10 = .ok (.aload_n 0, 1) := by decide +kernel
theorem dX3_writeEntry_11 : decode cX3_writeEntry 11 = .ok (.getfield 19, 3) := by decide +kernel
theorem dX3_writeEntry_14 : decode cX3_writeEntry 14 = .ok (.invokevirtual 200, 3) := by decide +kernel
theorem dX3_writeEntry_17 : decode cX3_writeEntry 17 = .ok (.bipush 63, 2) := by decide +kernel
theorem dX3_writeEntry_19 : decode cX3_writeEntry 19 = .ok (.if_icmp .ne 7, 3) := by decide +kernel
theorem dX3_writeEntry_22 : decode cX3_writeEntry 22 = .ok (.iconst 1, 1) := by decide +kernel
theorem dX3_writeEntry_23 : decode cX3_writeEntry 23 = .ok (.goto 4, 3) := by decide +kernel
theorem dX3_writeEntry_26 : decode cX3_writeEntry 26 = .ok (.iconst 0, 1) := by decide +kernel
theorem dX3_writeEntry_27 : decode cX3_writeEntry 27 = .ok (.istore_n 2, 1) := by decide +kernel
theorem dX3_writeEntry_28 : decode cX3_writeEntry 28 = .ok (.aload_n 0, 1) := by decide +kernel
theorem dX3_writeEntry_29 : decode cX3_writeEntry 29 = .ok (.getfield 26, 3) := by decide +kernel
theorem dX3_writeEntry_32 : decode cX3_writeEntry 32 = .ok (.iload_n 1, 1) := by decide +kernel
theorem dX3_writeEntry_33 : decode cX3_writeEntry 33 = .ok (.iload_n 2, 1) := by decide +kernel
theorem dX3_writeEntry_34 : decode cX3_writeEntry 34 = .ok (.aload_n 0, 1) := by decide +kernel
theorem dX3_writeEntry_35 : decode cX3_writeEntry 35 = .ok (.getfield 19, 3) := by decide +kernel
theorem dX3_writeEntry_38 : decode cX3_writeEntry 38 = .ok (.bipush 8, 2) := by decide +kernel
theorem dX3_writeEntry_40 : decode cX3_writeEntry 40 = .ok (.invokevirtual 77, 3) := by decide +kernel
theorem dX3_writeEntry_43 : decode cX3_writeEntry 43 = .ok (.bipush 7, 2) := by decide +kernel
theorem dX3_writeEntry_45 : decode cX3_writeEntry 45 = .ok (.iushr, 1) := by decide +kernel
theorem dX3_writeEntry_46 : decode cX3_writeEntry 46 = .ok (.aload_n 0, 1) := by decide +kernel
theorem dX3_writeEntry_47 : decode cX3_writeEntry 47 = .ok (.getfield 19, 3) := by decide +kernel
theorem dX3_writeEntry_50 : decode cX3_writeEntry 50 = .ok (.bipush 11, 2) := by decide +kernel
theorem dX3_writeEntry_52 : decode cX3_writeEntry 52 = .ok (.invokevirtual 77, 3) := by decide +kernel
theorem dX3_writeEntry_55 : decode cX3_writeEntry 55 = .ok (.invokevirtual 203, 3) := by decide +kernel
theorem dX3_writeEntry_58 : decode cX3_writeEntry 58 = .ok (.aload_n 0, 1) := by decide +kernel
theorem dX3_writeEntry_59 : decode cX3_writeEntry 59 = .ok (.getfield 26, 3) := by decide +kernel
theorem dX3_writeEntry_62 : decode cX3_writeEntry 62 = .ok (.iload_n 1, 1) := by decide +kernel
theorem dX3_writeEntry_63 : decode cX3_writeEntry 63 = .ok (.aload_n 0, 1) := by decide +kernel
theorem dX3_writeEntry_64 : decode cX3_writeEntry 64 = .ok (.getfield 19, 3) := by decide +kernel
theorem dX3_writeEntry_67 : decode cX3_writeEntry 67 = .ok (.bipush 9, 2) := by decide +kernel
theorem dX3_writeEntry_69 : decode cX3_writeEntry 69 = .ok (.invokevirtual 77, 3) := by decide +kernel
theorem dX3_writeEntry_72 : decode cX3_writeEntry 72 = .ok (.aload_n 0, 1) := by decide +kernel
theorem dX3_writeEntry_73 : decode cX3_writeEntry 73 = .ok (.getfield 19, 3) := by decide +kernel
theorem dX3_writeEntry_76 : decode cX3_writeEntry 76 = .ok (.bipush 10, 2) := by decide +kernel
theorem dX3_writeEntry_78 : decode cX3_writeEntry 78 = .ok (.invokevirtual 77, 3) := by decide +kernel
theorem dX3_writeEntry_81 : decode cX3_writeEntry 81 = .ok (.invokevirtual 206, 3) := by decide +kernel
theorem dX3_writeEntry_84 : decode cX3_writeEntry 84 = .ok (.return_, 1) := by decide +kernel
set_option maxRecDepth 20000 in
theorem ggX3_emptyEntries_X3_byteC : GoodIn wsX3_emptyEntries wsX3_byteC := goodIn_r _ [6] (by decide +kernel) (by decide +kernel)
set_option maxRecDepth 20000 in
theorem gX3_emptyEntries_X3_byteC : GoodIn wsX3_emptyEntries (va_wsS RX3 161 yX3_byteC wsX3_byteC) := goodIn_app (goodIn_of _ (by decide +kernel)) ggX3_emptyEntries_X3_byteC
set_option maxRecDepth 20000 in
theorem ggX3_emptyEntries_X3_raise : GoodIn wsX3_emptyEntries wsX3_raise := goodIn_r _ [10, 11, 2, 12, 13, 14, 15, 16, 17, 18, 19, 20, 21, 22, 23, 42, 43, 44, 45, 46, 47, 48, 49, 50, 51] (by decide +kernel) (by decide +kernel)
set_option maxRecDepth 20000 in
theorem gX3_emptyEntries_X3_raise : GoodIn wsX3_emptyEntries (wsV RX3 92 RX3 yX3_raise wsX3_raise) := goodIn_app (goodIn_of _ (by decide +kernel)) ggX3_emptyEntries_X3_raise
set_option maxRecDepth 20000 in
theorem ggX3_emptyEntries_X3_valueA : GoodIn wsX3_emptyEntries wsX3_valueA := goodIn_r _ [27, 28, 42, 43, 44, 45, 46, 47, 48, 49, 50] (by decide +kernel) (by decide +kernel)
set_option maxRecDepth 20000 in
theorem gX3_emptyEntries_X3_valueA : GoodIn wsX3_emptyEntries (wsV RX3 164 RX3 yX3_valueA wsX3_valueA) := goodIn_app (goodIn_of _ (by decide +kernel)) ggX3_emptyEntries_X3_valueA
set_option maxRecDepth 20000 in
theorem ggX3_emptyEntries_X3_valueB : GoodIn wsX3_emptyEntries wsX3_valueB := goodIn_r _ [32, 28, 42, 43, 44, 45, 46, 47, 48, 49, 50] (by decide +kernel) (by decide +kernel)
set_option maxRecDepth 20000 in
theorem gX3_emptyEntries_X3_valueB : GoodIn wsX3_emptyEntries (wsV RX3 148 RX3 yX3_valueB wsX3_valueB) := goodIn_app (goodIn_of _ (by decide +kernel)) ggX3_emptyEntries_X3_valueB
set_option maxRecDepth 20000 in
theorem ggX3_emptyEntries_X0_empty : GoodIn wsX3_emptyEntries wsX0_empty := goodIn_r _ [36, 37, 38, 39, 40, 34, 41, 52] (by decide +kernel) (by decide +kernel)
set_option maxRecDepth 20000 in
theorem gX3_emptyEntries_X0_empty_n209 : GoodIn wsX3_emptyEntries (wsX0_empty) := ggX3_emptyEntries_X0_empty
theorem dX3_emptyEntries_0 : decode cX3_emptyEntries 0 = .ok (.iload_n 1, 1) := by decide +kernel
theorem dX3_emptyEntries_1 : decode cX3_emptyEntries 1 = .ok (.invokestatic 161, 3) := by decide +kernel
theorem dX3_emptyEntries_4 : decode cX3_emptyEntries 4 = .ok (.istore_n 2, 1) := by decide +kernel
theorem dX3_emptyEntries_5 : decode cX3_emptyEntries 5 = .ok (.iload_n 2, 1) := by decide +kernel
theorem dX3_emptyEntries_6 : decode cX3_emptyEntries 6 = .ok (.iconst 4, 1) := by decide +kernel
theorem dX3_emptyEntries_7 : decode cX3_emptyEntries 7 = .ok (.if_icmp .le 10, 3) := by decide +kernel
theorem dX3_emptyEntries_10 : decode cX3_emptyEntries 10 = .ok (.aload_n 0, 1) := by decide +kernel
theorem dX3_emptyEntries_11 : decode cX3_emptyEntries 11 = .ok (.bipush 13, 2) := by decide +kernel
theorem dX3_emptyEntries_13 : decode cX3_emptyEntries 13 = .ok (.invokevirtual 92, 3) := by decide +kernel
theorem dX3_emptyEntries_16 : decode cX3_emptyEntries 16 = .ok (.return_, 1) := by decide +kernel
theorem dX3_emptyEntries_17 : decode cX3_emptyEntries 17 = .ok (.aload_n 0, 1) := by decide +kernel
theorem dX3_emptyEntries_18 : decode cX3_emptyEntries 18 = .ok (.getfield 26, 3) := by decide +kernel
theorem dX3_emptyEntries_21 : decode cX3_emptyEntries 21 = .ok (.iload_n 2, 1) := by decide +kernel
theorem dX3_emptyEntries_22 : decode cX3_emptyEntries 22 = .ok (.aload_n 0, 1) := by decide +kernel
theorem dX3_emptyEntries_23 : decode cX3_emptyEntries 23 = .ok (.iload_n 1, 1) := by decide +kernel
theorem dX3_emptyEntries_24 : decode cX3_emptyEntries 24 = .ok (.invokevirtual 164, 3) := by decide +kernel
theorem dX3_emptyEntries_27 : decode cX3_emptyEntries 27 = .ok (.bipush 15, 2) := by decide +kernel
theorem dX3_emptyEntries_29 : decode cX3_emptyEntries 29 = .ok (.iand, 1) := by decide +kernel
theorem dX3_emptyEntries_30 : decode cX3_emptyEntries 30 = .ok (.aload_n 0, 1) := by decide +kernel
theorem dX3_emptyEntries_31 : decode cX3_emptyEntries 31 = .ok (.iload_n 1, 1) := by decide +kernel
theorem dX3_emptyEntries_32 : decode cX3_emptyEntries 32 = .ok (.invokevirtual 148, 3) := by decide +kernel
theorem dX3_emptyEntries_35 : decode cX3_emptyEntries 35 = .ok (.bipush 7, 2) := by decide +kernel
theorem dX3_emptyEntries_37 : decode cX3_emptyEntries 37 = .ok (.iushr, 1) := by decide +kernel
theorem dX3_emptyEntries_38 : decode cX3_emptyEntries 38 = .ok (.invokevirtual 209, 3) := by decide +kernel
theorem dX3_emptyEntries_41 : decode cX3_emptyEntries 41 = .ok (.aload_n 0, 1) := by decide +kernel
theorem dX3_emptyEntries_42 : decode cX3_emptyEntries 42 = .ok (.dup, 1) := by decide +kernel
theorem dX3_emptyEntries_43 : decode cX3_emptyEntries 43 = .ok (.getfield 54, 3) := by decide +kernel
theorem dX3_emptyEntries_46 : decode cX3_emptyEntries 46 = .ok (.iconst 4, 1) := by decide +kernel
theorem dX3_emptyEntries_47 : decode cX3_emptyEntries 47 = .ok (.iadd, 1) := by decide +kernel
theorem dX3_emptyEntries_48 : decode cX3_emptyEntries 48 = .ok (.putfield 54, 3) := by decide +kernel
theorem dX3_emptyEntries_51 : decode cX3_emptyEntries 51 = .ok (.return_, 1) := by decide +kernel
set_option maxRecDepth 20000 in
theorem ggX3_find_X2_isDirect : GoodIn wsX3_find wsX2_isDirect := goodIn_r _ [6, 7, 43] (by decide +kernel) (by decide +kernel)
set_option maxRecDepth 20000 in
theorem gX3_find_X2_isDirect_n212 : GoodIn wsX3_find (wsX2_isDirect) := ggX3_find_X2_isDirect
set_option maxRecDepth 20000 in
theorem ggX3_find_X2_isInWindow : GoodIn wsX3_find wsX2_isInWindow := goodIn_r _ [10, 7, 43] (by decide +kernel) (by decide +kernel)
set_option maxRecDepth 20000 in
theorem gX3_find_X2_isInWindow_n215 : GoodIn wsX3_find (wsX2_isInWindow) := ggX3_find_X2_isInWindow
set_option maxRecDepth 20000 in
theorem ggX3_find_X3_findMapped : GoodIn wsX3_find wsX3_findMapped := goodIn_r _ [15, 1, 16, 17, 4, 18, 19, 7, 20, 21, 22, 23, 24, 25, 26, 27, 28, 29, 30, 34, 35, 36, 37, 38, 39, 40, 41, 42, 43, 44] (by decide +kernel) (by decide +kernel)
set_option maxRecDepth 20000 in
theorem gX3_find_X3_findMapped : GoodIn wsX3_find (wsV RX3 218 RX3 yX3_findMapped wsX3_findMapped) := goodIn_app (goodIn_of _ (by decide +kernel)) ggX3_find_X3_findMapped
set_option maxRecDepth 20000 in
theorem ggX3_find_X3_isInMemory : GoodIn wsX3_find wsX3_isInMemory := goodIn_r _ [33] (by decide +kernel) (by decide +kernel)
set_option maxRecDepth 20000 in
theorem gX3_find_X3_isInMemory : GoodIn wsX3_find (va_wsS RX3 34 yX3_isInMemory wsX3_isInMemory) := goodIn_app (goodIn_of _ (by decide +kernel)) ggX3_find_X3_isInMemory
theorem dX3_find_0 : decode cX3_find 0 = .ok (.iload_n 1, 1) := by decide +kernel
theorem dX3_find_1 : decode cX3_find 1 = .ok (.iconst 3, 1) := by decide +kernel
theorem dX3_find_2 : decode cX3_find 2 = .ok (.iand, 1) := by decide +kernel
theorem dX3_find_3 : decode cX3_find 3 = .ok (.ifCond .eq 15, 3) := by decide +kernel
theorem dX3_find_6 : decode cX3_find 6 = .ok (.iload_n 2, 1) := by decide +kernel
theorem dX3_find_7 : decode cX3_find 7 = .ok (.ifCond .ne 8, 3) := by decide +kernel
theorem dX3_find_10 : decode cX3_find 10 = .ok (.bipush (-8), 2) := by decide +kernel
theorem dX3_find_12 : decode cX3_find 12 = .ok (.goto 5, 3) := by decide +kernel
theorem dX3_find_15 : decode cX3_find 15 = .ok (.bipush (-9), 2) := by decide +kernel
theorem dX3_find_17 : decode cX3_find 17 = .ok (.ireturn, 1) := by decide +kernel
theorem dX3_find_18 : decode cX3_find 18 = .ok (.iload_n 1, 1) := by decide +kernel
theorem dX3_find_19 : decode cX3_find 19 = .ok (.istore_n 3, 1) := by decide +kernel
theorem dX3_find_20 : decode cX3_find 20 = .ok (.aload_n 0, 1) := by decide +kernel
theorem dX3_find_21 : decode cX3_find 21 = .ok (.getfield 19, 3) := by decide +kernel
theorem dX3_find_24 : decode cX3_find 24 = .ok (.invokevirtual 212, 3) := by decide +kernel
theorem dX3_find_27 : decode cX3_find 27 = .ok (.ifCond .ne 26, 3) := by decide +kernel
theorem dX3_find_30 : decode cX3_find 30 = .ok (.aload_n 0, 1) := by decide +kernel
theorem dX3_find_31 : decode cX3_find 31 = .ok (.getfield 19, 3) := by decide +kernel
theorem dX3_find_34 : decode cX3_find 34 = .ok (.iload_n 1, 1) := by decide +kernel
theorem dX3_find_35 : decode cX3_find 35 = .ok (.invokevirtual 215, 3) := by decide +kernel
theorem dX3_find_38 : decode cX3_find 38 = .ok (.ifCond .ne 10, 3) := by decide +kernel
theorem dX3_find_41 : decode cX3_find 41 = .ok (.aload_n 0, 1) := by decide +kernel
theorem dX3_find_42 : decode cX3_find 42 = .ok (.iload_n 1, 1) := by decide +kernel
theorem dX3_find_43 : decode cX3_find 43 = .ok (.iload_n 2, 1) := by decide +kernel
theorem dX3_find_44 : decode cX3_find 44 = .ok (.invokevirtual 218, 3) := by decide +kernel
theorem dX3_find_47 : decode cX3_find 47 = .ok (.ireturn, 1) := by decide +kernel
theorem dX3_find_48 : decode cX3_find 48 = .ok (.iload_n 1, 1) := by decide +kernel
theorem dX3_find_49 : decode cX3_find 49 = .ok (.ldc 221, 2) := by decide +kernel
theorem dX3_find_51 : decode cX3_find 51 = .ok (.iand, 1) := by decide +kernel
theorem dX3_find_52 : decode cX3_find 52 = .ok (.istore_n 3, 1) := by decide +kernel
theorem dX3_find_53 : decode cX3_find 53 = .ok (.iload_n 3, 1) := by decide +kernel
theorem dX3_find_54 : decode cX3_find 54 = .ok (.invokestatic 34, 3) := by decide +kernel
theorem dX3_find_57 : decode cX3_find 57 = .ok (.ifCond .eq 9, 3) := by decide +kernel
theorem dX3_find_60 : decode cX3_find 60 = .ok (.iload_n 3, 1) := by decide +kernel
theorem dX3_find_61 : decode cX3_find 61 = .ok (.iconst 2, 1) := by decide +kernel
theorem dX3_find_62 : decode cX3_find 62 = .ok (.iushr, 1) := by decide +kernel
theorem dX3_find_63 : decode cX3_find 63 = .ok (.goto 5, 3) := by decide +kernel
theorem dX3_find_66 : decode cX3_find 66 = .ok (.bipush (-8), 2) := by decide +kernel
theorem dX3_find_68 : decode cX3_find 68 = .ok (.ireturn, 1) := by decide +kernel
set_option maxRecDepth 20000 in
theorem ggX3_findMapped_X2_get : GoodIn wsX3_findMapped wsX2_get := goodIn_r _ [6, 7, 28] (by decide +kernel) (by decide +kernel)
set_option maxRecDepth 20000 in
theorem gX3_findMapped_X2_get_n77 : GoodIn wsX3_findMapped (wsX2_get) := ggX3_findMapped_X2_get
set_option maxRecDepth 20000 in
theorem ggX3_findMapped_X0_find : GoodIn wsX3_findMapped wsX0_find := goodIn_r _ [11, 12, 29] (by decide +kernel) (by decide +kernel)
set_option maxRecDepth 20000 in
theorem gX3_findMapped_X0_find_n187 : GoodIn wsX3_findMapped (wsX0_find) := ggX3_findMapped_X0_find
set_option maxRecDepth 20000 in
theorem ggX3_findMapped_X0_get : GoodIn wsX3_findMapped wsX0_get := goodIn_r _ [15, 12, 29] (by decide +kernel) (by decide +kernel)
set_option maxRecDepth 20000 in
theorem gX3_findMapped_X0_get_n83 : GoodIn wsX3_findMapped (wsX0_get) := ggX3_findMapped_X0_get
set_option maxRecDepth 20000 in
theorem ggX3_findMapped_X2_level : GoodIn wsX3_findMapped wsX2_level := goodIn_r _ [18, 7, 28] (by decide +kernel) (by decide +kernel)
set_option maxRecDepth 20000 in
theorem gX3_findMapped_X2_level_n126 : GoodIn wsX3_findMapped (wsX2_level) := ggX3_findMapped_X2_level
theorem dX3_findMapped_0 : decode cX3_findMapped 0 = .ok (.iload_n 1, 1) := by decide +kernel
theorem dX3_findMapped_1 : decode cX3_findMapped 1 = .ok (.bipush 7, 2) := by decide +kernel
theorem dX3_findMapped_3 : decode cX3_findMapped 3 = .ok (.iushr, 1) := by decide +kernel
theorem dX3_findMapped_4 : decode cX3_findMapped 4 = .ok (.istore_n 3, 1) := by decide +kernel
theorem dX3_findMapped_5 : decode cX3_findMapped 5 = .ok (.aload_n 0, 1) := by decide +kernel
theorem dX3_findMapped_6 : decode cX3_findMapped 6 = .ok (.getfield 19, 3) := by decide +kernel
theorem dX3_findMapped_9 : decode cX3_findMapped 9 = .ok (.bipush 11, 2) := by decide +kernel
theorem dX3_findMapped_11 : decode cX3_findMapped 11 = .ok (.invokevirtual 77, 3) := by decide +kernel
theorem dX3_findMapped_14 : decode cX3_findMapped 14 = .ok (.istore 4, 2) := by decide +kernel
theorem dX3_findMapped_16 : decode cX3_findMapped 16 = .ok (.aload_n 0, 1) := by decide +kernel
theorem dX3_findMapped_17 : decode cX3_findMapped 17 = .ok (.getfield 26, 3) := by decide +kernel
theorem dX3_findMapped_20 : decode cX3_findMapped 20 = .ok (.iload_n 3, 1) := by decide +kernel
theorem dX3_findMapped_21 : decode cX3_findMapped 21 = .ok (.iload 4, 2) := by decide +kernel
theorem dX3_findMapped_23 : decode cX3_findMapped 23 = .ok (.iconst 0, 1) := by decide +kernel
theorem dX3_findMapped_24 : decode cX3_findMapped 24 = .ok (.invokevirtual 187, 3) := by decide +kernel
theorem dX3_findMapped_27 : decode cX3_findMapped 27 = .ok (.istore 5, 2) := by decide +kernel
theorem dX3_findMapped_29 : decode cX3_findMapped 29 = .ok (.iload 5, 2) := by decide +kernel
theorem dX3_findMapped_31 : decode cX3_findMapped 31 = .ok (.ifCond .ge 6, 3) := by decide +kernel
theorem dX3_findMapped_34 : decode cX3_findMapped 34 = .ok (.bipush (-63), 2) := by decide +kernel
theorem dX3_findMapped_36 : decode cX3_findMapped 36 = .ok (.ireturn, 1) := by decide +kernel
theorem dX3_findMapped_37 : decode cX3_findMapped 37 = .ok (.aload_n 0, 1) := by decide +kernel
theorem dX3_findMapped_38 : decode cX3_findMapped 38 = .ok (.getfield 26, 3) := by decide +kernel
theorem dX3_findMapped_41 : decode cX3_findMapped 41 = .ok (.iload_n 3, 1) := by decide +kernel
theorem dX3_findMapped_42 : decode cX3_findMapped 42 = .ok (.iload 4, 2) := by decide +kernel
theorem dX3_findMapped_44 : decode cX3_findMapped 44 = .ok (.iload 5, 2) := by decide +kernel
theorem dX3_findMapped_46 : decode cX3_findMapped 46 = .ok (.iconst 1, 1) := by decide +kernel
theorem dX3_findMapped_47 : decode cX3_findMapped 47 = .ok (.iadd, 1) := by decide +kernel
theorem dX3_findMapped_48 : decode cX3_findMapped 48 = .ok (.invokevirtual 187, 3) := by decide +kernel
theorem dX3_findMapped_51 : decode cX3_findMapped 51 = .ok (.ifCond .lt 6, 3) := by decide +kernel
theorem dX3_findMapped_54 : decode cX3_findMapped 54 = .ok (.bipush (-64), 2) := by decide +kernel
theorem dX3_findMapped_56 : decode cX3_findMapped 56 = .ok (.ireturn, 1) := by decide +kernel
theorem dX3_findMapped_57 : decode cX3_findMapped 57 = .ok (.aload_n 0, 1) := by decide +kernel
theorem dX3_findMapped_58 : decode cX3_findMapped 58 = .ok (.getfield 26, 3) := by decide +kernel
theorem dX3_findMapped_61 : decode cX3_findMapped 61 = .ok (.iload 5, 2) := by decide +kernel
theorem dX3_findMapped_63 : decode cX3_findMapped 63 = .ok (.iload_n 1, 1) := by decide +kernel
theorem dX3_findMapped_64 : decode cX3_findMapped 64 = .ok (.bipush 64, 2) := by decide +kernel
theorem dX3_findMapped_66 : decode cX3_findMapped 66 = .ok (.iand, 1) := by decide +kernel
theorem dX3_findMapped_67 : decode cX3_findMapped 67 = .ok (.ifCond .ne 7, 3) := by decide +kernel
theorem dX3_findMapped_70 : decode cX3_findMapped 70 = .ok (.iconst 4, 1) := by decide +kernel
theorem dX3_findMapped_71 : decode cX3_findMapped 71 = .ok (.goto 4, 3) := by decide +kernel
theorem dX3_findMapped_74 : decode cX3_findMapped 74 = .ok (.iconst 5, 1) := by decide +kernel
theorem dX3_findMapped_75 : decode cX3_findMapped 75 = .ok (.invokevirtual 83, 3) := by decide +kernel
theorem dX3_findMapped_78 : decode cX3_findMapped 78 = .ok (.istore 6, 2) := by decide +kernel
theorem dX3_findMapped_80 : decode cX3_findMapped 80 = .ok (.iload 6, 2) := by decide +kernel
theorem dX3_findMapped_82 : decode cX3_findMapped 82 = .ok (.iconst 1, 1) := by decide +kernel
theorem dX3_findMapped_83 : decode cX3_findMapped 83 = .ok (.iand, 1) := by decide +kernel
theorem dX3_findMapped_84 : decode cX3_findMapped 84 = .ok (.ifCond .ne 24, 3) := by decide +kernel
theorem dX3_findMapped_87 : decode cX3_findMapped 87 = .ok (.iload_n 2, 1) := by decide +kernel
theorem dX3_findMapped_88 : decode cX3_findMapped 88 = .ok (.ifCond .ne 8, 3) := by decide +kernel
theorem dX3_findMapped_91 : decode cX3_findMapped 91 = .ok (.bipush (-3), 2) := by decide +kernel
theorem dX3_findMapped_93 : decode cX3_findMapped 93 = .ok (.goto 14, 3) := by decide +kernel
theorem dX3_findMapped_96 : decode cX3_findMapped 96 = .ok (.iload_n 2, 1) := by decide +kernel
theorem dX3_findMapped_97 : decode cX3_findMapped 97 = .ok (.iconst 1, 1) := by decide +kernel
theorem dX3_findMapped_98 : decode cX3_findMapped 98 = .ok (.if_icmp .ne 7, 3) := by decide +kernel
theorem dX3_findMapped_101 : decode cX3_findMapped 101 = .ok (.iconst (-1), 1) := by decide +kernel
theorem dX3_findMapped_102 : decode cX3_findMapped 102 = .ok (.goto 5, 3) := by decide +kernel
theorem dX3_findMapped_105 : decode cX3_findMapped 105 = .ok (.bipush (-2), 2) := by decide +kernel
theorem dX3_findMapped_107 : decode cX3_findMapped 107 = .ok (.ireturn, 1) := by decide +kernel
theorem dX3_findMapped_108 : decode cX3_findMapped 108 = .ok (.iload 6, 2) := by decide +kernel
theorem dX3_findMapped_110 : decode cX3_findMapped 110 = .ok (.bipush 12, 2) := by decide +kernel
theorem dX3_findMapped_112 : decode cX3_findMapped 112 = .ok (.iand, 1) := by decide +kernel
theorem dX3_findMapped_113 : decode cX3_findMapped 113 = .ok (.ifCond .ne 16, 3) := by decide +kernel
theorem dX3_findMapped_116 : decode cX3_findMapped 116 = .ok (.aload_n 0, 1) := by decide +kernel
theorem dX3_findMapped_117 : decode cX3_findMapped 117 = .ok (.getfield 19, 3) := by decide +kernel
theorem dX3_findMapped_120 : decode cX3_findMapped 120 = .ok (.invokevirtual 126, 3) := by decide +kernel
theorem dX3_findMapped_123 : decode cX3_findMapped 123 = .ok (.ifCond .eq 6, 3) := by decide +kernel
theorem dX3_findMapped_126 : decode cX3_findMapped 126 = .ok (.bipush (-7), 2) := by decide +kernel
theorem dX3_findMapped_128 : decode cX3_findMapped 128 = .ok (.ireturn, 1) := by decide +kernel
theorem dX3_findMapped_129 : decode cX3_findMapped 129 = .ok (.iload_n 2, 1) := by decide +kernel
theorem dX3_findMapped_130 : decode cX3_findMapped 130 = .ok (.iconst 2, 1) := by decide +kernel
theorem dX3_findMapped_131 : decode cX3_findMapped 131 = .ok (.if_icmp .ne 13, 3) := by decide +kernel
theorem dX3_findMapped_134 : decode cX3_findMapped 134 = .ok (.iload 6, 2) := by decide +kernel
theorem dX3_findMapped_136 : decode cX3_findMapped 136 = .ok (.iconst 2, 1) := by decide +kernel
theorem dX3_findMapped_137 : decode cX3_findMapped 137 = .ok (.iand, 1) := by decide +kernel
theorem dX3_findMapped_138 : decode cX3_findMapped 138 = .ok (.ifCond .ne 6, 3) := by decide +kernel
theorem dX3_findMapped_141 : decode cX3_findMapped 141 = .ok (.bipush (-4), 2) := by decide +kernel
theorem dX3_findMapped_143 : decode cX3_findMapped 143 = .ok (.ireturn, 1) := by decide +kernel
theorem dX3_findMapped_144 : decode cX3_findMapped 144 = .ok (.iload 6, 2) := by decide +kernel
theorem dX3_findMapped_146 : decode cX3_findMapped 146 = .ok (.bipush 6, 2) := by decide +kernel
theorem dX3_findMapped_148 : decode cX3_findMapped 148 = .ok (.iushr, 1) := by decide +kernel
theorem dX3_findMapped_149 : decode cX3_findMapped 149 = .ok (.bipush 31, 2) := by decide +kernel
theorem dX3_findMapped_151 : decode cX3_findMapped 151 = .ok (.iand, 1) := by decide +kernel
theorem dX3_findMapped_152 : decode cX3_findMapped 152 = .ok (.istore 7, 2) := by decide +kernel
theorem dX3_findMapped_154 : decode cX3_findMapped 154 = .ok (.iload 7, 2) := by decide +kernel
theorem dX3_findMapped_156 : decode cX3_findMapped 156 = .ok (.bipush 16, 2) := by decide +kernel
theorem dX3_findMapped_158 : decode cX3_findMapped 158 = .ok (.imul, 1) := by decide +kernel
theorem dX3_findMapped_159 : decode cX3_findMapped 159 = .ok (.iload_n 1, 1) := by decide +kernel
theorem dX3_findMapped_160 : decode cX3_findMapped 160 = .ok (.iconst 2, 1) := by decide +kernel
theorem dX3_findMapped_161 : decode cX3_findMapped 161 = .ok (.iushr, 1) := by decide +kernel
theorem dX3_findMapped_162 : decode cX3_findMapped 162 = .ok (.bipush 15, 2) := by decide +kernel
theorem dX3_findMapped_164 : decode cX3_findMapped 164 = .ok (.iand, 1) := by decide +kernel
theorem dX3_findMapped_165 : decode cX3_findMapped 165 = .ok (.iadd, 1) := by decide +kernel
theorem dX3_findMapped_166 : decode cX3_findMapped 166 = .ok (.ireturn, 1) := by decide +kernel
set_option maxRecDepth 20000 in
theorem ggX3_fail_X2_set : GoodIn wsX3_fail wsX2_set := goodIn_r _ [6, 7, 33] (by decide +kernel) (by decide +kernel)
set_option maxRecDepth 20000 in
theorem gX3_fail_X2_set_n194 : GoodIn wsX3_fail (wsX2_set) := ggX3_fail_X2_set
set_option maxRecDepth 20000 in
theorem ggX3_fail_X3_raise : GoodIn wsX3_fail wsX3_raise := goodIn_r _ [12, 2, 13, 14, 15, 4, 16, 17, 7, 18, 19, 20, 21, 22, 23, 24, 25, 26, 27, 28, 29, 30, 31, 32, 33] (by decide +kernel) (by decide +kernel)
set_option maxRecDepth 20000 in
theorem gX3_fail_X3_raise : GoodIn wsX3_fail (wsV RX3 92 RX3 yX3_raise wsX3_raise) := goodIn_app (goodIn_of _ (by decide +kernel)) ggX3_fail_X3_raise
theorem dX3_fail_0 : decode cX3_fail 0 = .ok (.iload_n 1, 1) := by decide +kernel
theorem dX3_fail_1 : decode cX3_fail 1 = .ok (.bipush (-64), 2) := by decide +kernel
theorem dX3_fail_3 : decode cX3_fail 3 = .ok (.if_icmp .ne 9, 3) := by decide +kernel
theorem dX3_fail_6 : decode cX3_fail 6 = .ok (.aload_n 0, 1) := by decide +kernel
theorem dX3_fail_7 : decode cX3_fail 7 = .ok (.iconst 2, 1) := by decide +kernel
theorem dX3_fail_8 : decode cX3_fail 8 = .ok (.putfield 30, 3) := by decide +kernel
theorem dX3_fail_11 : decode cX3_fail 11 = .ok (.return_, 1) := by decide +kernel
theorem dX3_fail_12 : decode cX3_fail 12 = .ok (.iload_n 1, 1) := by decide +kernel
theorem dX3_fail_13 : decode cX3_fail 13 = .ok (.ineg, 1) := by decide +kernel
theorem dX3_fail_14 : decode cX3_fail 14 = .ok (.istore_n 3, 1) := by decide +kernel
theorem dX3_fail_15 : decode cX3_fail 15 = .ok (.aload_n 0, 1) := by decide +kernel
theorem dX3_fail_16 : decode cX3_fail 16 = .ok (.getfield 19, 3) := by decide +kernel
theorem dX3_fail_19 : decode cX3_fail 19 = .ok (.iconst 5, 1) := by decide +kernel
theorem dX3_fail_20 : decode cX3_fail 20 = .ok (.iload_n 2, 1) := by decide +kernel
theorem dX3_fail_21 : decode cX3_fail 21 = .ok (.invokevirtual 194, 3) := by decide +kernel
theorem dX3_fail_24 : decode cX3_fail 24 = .ok (.iload_n 3, 1) := by decide +kernel
theorem dX3_fail_25 : decode cX3_fail 25 = .ok (.bipush 8, 2) := by decide +kernel
theorem dX3_fail_27 : decode cX3_fail 27 = .ok (.if_icmp .eq 22, 3) := by decide +kernel
theorem dX3_fail_30 : decode cX3_fail 30 = .ok (.iload_n 3, 1) := by decide +kernel
theorem dX3_fail_31 : decode cX3_fail 31 = .ok (.bipush 9, 2) := by decide +kernel
theorem dX3_fail_33 : decode cX3_fail 33 = .ok (.if_icmp .eq 16, 3) := by decide +kernel
theorem dX3_fail_36 : decode cX3_fail 36 = .ok (.aload_n 0, 1) := by decide +kernel
theorem dX3_fail_37 : decode cX3_fail 37 = .ok (.getfield 19, 3) := by decide +kernel
theorem dX3_fail_40 : decode cX3_fail 40 = .ok (.bipush 8, 2) := by decide +kernel
theorem dX3_fail_42 : decode cX3_fail 42 = .ok (.iload_n 2, 1) := by decide +kernel
theorem dX3_fail_43 : decode cX3_fail 43 = .ok (.bipush (-128), 2) := by decide +kernel
theorem dX3_fail_45 : decode cX3_fail 45 = .ok (.iand, 1) := by decide +kernel
theorem dX3_fail_46 : decode cX3_fail 46 = .ok (.invokevirtual 194, 3) := by decide +kernel
theorem dX3_fail_49 : decode cX3_fail 49 = .ok (.aload_n 0, 1) := by decide +kernel
theorem dX3_fail_50 : decode cX3_fail 50 = .ok (.iload_n 3, 1) := by decide +kernel
theorem dX3_fail_51 : decode cX3_fail 51 = .ok (.invokevirtual 92, 3) := by decide +kernel
theorem dX3_fail_54 : decode cX3_fail 54 = .ok (.return_, 1) := by decide +kernel
set_option maxRecDepth 20000 in
theorem ggX3_raise_X2_enter : GoodIn wsX3_raise wsX2_enter := goodIn_r _ [7, 8, 24] (by decide +kernel) (by decide +kernel)
set_option maxRecDepth 20000 in
theorem gX3_raise_X2_enter_n222 : GoodIn wsX3_raise (wsX2_enter) := ggX3_raise_X2_enter
set_option maxRecDepth 20000 in
theorem ggX3_raise_X2_setDirect : GoodIn wsX3_raise wsX2_setDirect := goodIn_r _ [11, 8, 24] (by decide +kernel) (by decide +kernel)
set_option maxRecDepth 20000 in
theorem gX3_raise_X2_setDirect_n225 : GoodIn wsX3_raise (wsX2_setDirect) := ggX3_raise_X2_setDirect
set_option maxRecDepth 20000 in
theorem ggX3_raise_X2_get : GoodIn wsX3_raise wsX2_get := goodIn_r _ [14, 8, 24] (by decide +kernel) (by decide +kernel)
set_option maxRecDepth 20000 in
theorem gX3_raise_X2_get_n77 : GoodIn wsX3_raise (wsX2_get) := ggX3_raise_X2_get
theorem dX3_raise_0 : decode cX3_raise 0 = .ok (.aload_n 0, 1) := by decide +kernel
theorem dX3_raise_1 : decode cX3_raise 1 = .ok (.getfield 19, 3) := by decide +kernel
theorem dX3_raise_4 : decode cX3_raise 4 = .ok (.iload_n 1, 1) := by decide +kernel
theorem dX3_raise_5 : decode cX3_raise 5 = .ok (.aload_n 0, 1) := by decide +kernel
theorem dX3_raise_6 : decode cX3_raise 6 = .ok (.getfield 54, 3) := by decide +kernel
theorem dX3_raise_9 : decode cX3_raise 9 = .ok (.invokevirtual 222, 3) := by decide +kernel
theorem dX3_raise_12 : decode cX3_raise 12 = .ok (.iload_n 1, 1) := by decide +kernel
theorem dX3_raise_13 : decode cX3_raise 13 = .ok (.bipush 63, 2) := by decide +kernel
theorem dX3_raise_15 : decode cX3_raise 15 = .ok (.if_icmp .ne 26, 3) := by decide +kernel
theorem dX3_raise_18 : decode cX3_raise 18 = .ok (.aload_n 0, 1) := by decide +kernel
theorem dX3_raise_19 : decode cX3_raise 19 = .ok (.getfield 19, 3) := by decide +kernel
theorem dX3_raise_22 : decode cX3_raise 22 = .ok (.invokevirtual 225, 3) := by decide +kernel
theorem dX3_raise_25 : decode cX3_raise 25 = .ok (.aload_n 0, 1) := by decide +kernel
theorem dX3_raise_26 : decode cX3_raise 26 = .ok (.aload_n 0, 1) := by decide +kernel
theorem dX3_raise_27 : decode cX3_raise 27 = .ok (.getfield 19, 3) := by decide +kernel
theorem dX3_raise_30 : decode cX3_raise 30 = .ok (.bipush 16, 2) := by decide +kernel
theorem dX3_raise_32 : decode cX3_raise 32 = .ok (.invokevirtual 77, 3) := by decide +kernel
theorem dX3_raise_35 : decode cX3_raise 35 = .ok (.putfield 54, 3) := by decide +kernel
theorem dX3_raise_38 : decode cX3_raise 38 = .ok (.goto 16, 3) := by decide +kernel
theorem dX3_raise_41 : decode cX3_raise 41 = .ok (.aload_n 0, 1) := by decide +kernel
theorem dX3_raise_42 : decode cX3_raise 42 = .ok (.aload_n 0, 1) := by decide +kernel
theorem dX3_raise_43 : decode cX3_raise 43 = .ok (.getfield 19, 3) := by decide +kernel
theorem dX3_raise_46 : decode cX3_raise 46 = .ok (.bipush 6, 2) := by decide +kernel
theorem dX3_raise_48 : decode cX3_raise 48 = .ok (.invokevirtual 77, 3) := by decide +kernel
theorem dX3_raise_51 : decode cX3_raise 51 = .ok (.putfield 54, 3) := by decide +kernel
theorem dX3_raise_54 : decode cX3_raise 54 = .ok (.aload_n 0, 1) := by decide +kernel
theorem dX3_raise_55 : decode cX3_raise 55 = .ok (.iconst 1, 1) := by decide +kernel
theorem dX3_raise_56 : decode cX3_raise 56 = .ok (.putfield 63, 3) := by decide +kernel
theorem dX3_raise_59 : decode cX3_raise 59 = .ok (.return_, 1) := by decide +kernel
end
section
theorem dX4_init_0 : decode cX4_init 0 = .ok (.aload_n 0, 1) := by decide +kernel
theorem dX4_init_1 : decode cX4_init 1 = .ok (.invokespecial 1, 3) := by decide +kernel
theorem dX4_init_4 : decode cX4_init 4 = .ok (.aload_n 0, 1) := by decide +kernel
theorem dX4_init_5 : decode cX4_init 5 = .ok (.sipush 512, 3) := by decide +kernel
theorem dX4_init_8 : decode cX4_init 8 = .ok (.newarray .int, 2) := by decide +kernel
theorem dX4_init_10 : decode cX4_init 10 = .ok (.putfield 7, 3) := by decide +kernel
theorem dX4_init_13 : decode cX4_init 13 = .ok (.aload_n 0, 1) := by decide +kernel
theorem dX4_init_14 : decode cX4_init 14 = .ok (.bipush 8, 2) := by decide +kernel
theorem dX4_init_16 : decode cX4_init 16 = .ok (.newarray .int, 2) := by decide +kernel
theorem dX4_init_18 : decode cX4_init 18 = .ok (.putfield 13, 3) := by decide +kernel
theorem dX4_init_21 : decode cX4_init 21 = .ok (.aload_n 0, 1) := by decide +kernel
theorem dX4_init_22 : decode cX4_init 22 = .ok (.bipush 18, 2) := by decide +kernel
theorem dX4_init_24 : decode cX4_init 24 = .ok (.newarray .int, 2) := by decide +kernel
theorem dX4_init_26 : decode cX4_init 26 = .ok (.putfield 16, 3) := by decide +kernel
theorem dX4_init_29 : decode cX4_init 29 = .ok (.aload_n 0, 1) := by decide +kernel
theorem dX4_init_30 : decode cX4_init 30 = .ok (.bipush 18, 2) := by decide +kernel
theorem dX4_init_32 : decode cX4_init 32 = .ok (.newarray .int, 2) := by decide +kernel
theorem dX4_init_34 : decode cX4_init 34 = .ok (.dup, 1) := by decide +kernel
theorem dX4_init_35 : decode cX4_init 35 = .ok (.iconst 0, 1) := by decide +kernel
theorem dX4_init_36 : decode cX4_init 36 = .ok (.bipush 15, 2) := by decide +kernel
theorem dX4_init_38 : decode cX4_init 38 = .ok (.iastore, 1) := by decide +kernel
theorem dX4_init_39 : decode cX4_init 39 = .ok (.dup, 1) := by decide +kernel
theorem dX4_init_40 : decode cX4_init 40 = .ok (.iconst 1, 1) := by decide +kernel
theorem dX4_init_41 : decode cX4_init 41 = .ok (.bipush 7, 2) := by decide +kernel
theorem dX4_init_43 : decode cX4_init 43 = .ok (.iastore, 1) := by decide +kernel
theorem dX4_init_44 : decode cX4_init 44 = .ok (.dup, 1) := by decide +kernel
theorem dX4_init_45 : decode cX4_init 45 = .ok (.iconst 2, 1) := by decide +kernel
theorem dX4_init_46 : decode cX4_init 46 = .ok (.bipush 31, 2) := by decide +kernel
theorem dX4_init_48 : decode cX4_init 48 = .ok (.iastore, 1) := by decide +kernel
theorem dX4_init_49 : decode cX4_init 49 = .ok (.dup, 1) := by decide +kernel
theorem dX4_init_50 : decode cX4_init 50 = .ok (.iconst 3, 1) := by decide +kernel
theorem dX4_init_51 : decode cX4_init 51 = .ok (.iconst 0, 1) := by decide +kernel
theorem dX4_init_52 : decode cX4_init 52 = .ok (.iastore, 1) := by decide +kernel
theorem dX4_init_53 : decode cX4_init 53 = .ok (.dup, 1) := by decide +kernel
theorem dX4_init_54 : decode cX4_init 54 = .ok (.iconst 4, 1) := by decide +kernel
theorem dX4_init_55 : decode cX4_init 55 = .ok (.iconst (-1), 1) := by decide +kernel
theorem dX4_init_56 : decode cX4_init 56 = .ok (.iastore, 1) := by decide +kernel
theorem dX4_init_57 : decode cX4_init 57 = .ok (.dup, 1) := by decide +kernel
theorem dX4_init_58 : decode cX4_init 58 = .ok (.iconst 5, 1) := by decide +kernel
theorem dX4_init_59 : decode cX4_init 59 = .ok (.iconst (-1), 1) := by decide +kernel
theorem dX4_init_60 : decode cX4_init 60 = .ok (.iastore, 1) := by decide +kernel
theorem dX4_init_61 : decode cX4_init 61 = .ok (.dup, 1) := by decide +kernel
theorem dX4_init_62 : decode cX4_init 62 = .ok (.bipush 6, 2) := by decide +kernel
theorem dX4_init_64 : decode cX4_init 64 = .ok (.bipush (-4), 2) := by decide +kernel
theorem dX4_init_66 : decode cX4_init 66 = .ok (.iastore, 1) := by decide +kernel
theorem dX4_init_67 : decode cX4_init 67 = .ok (.dup, 1) := by decide +kernel
theorem dX4_init_68 : decode cX4_init 68 = .ok (.bipush 7, 2) := by decide +kernel
theorem dX4_init_70 : decode cX4_init 70 = .ok (.ldc 19, 2) := by decide +kernel
theorem dX4_init_72 : decode cX4_init 72 = .ok (.iastore, 1) := by decide +kernel
theorem dX4_init_73 : decode cX4_init 73 = .ok (.dup, 1) := by decide +kernel
theorem dX4_init_74 : decode cX4_init 74 = .ok (.bipush 8, 2) := by decide +kernel
theorem dX4_init_76 : decode cX4_init 76 = .ok (.bipush (-128), 2) := by decide +kernel
theorem dX4_init_78 : decode cX4_init 78 = .ok (.iastore, 1) := by decide +kernel
theorem dX4_init_79 : decode cX4_init 79 = .ok (.dup, 1) := by decide +kernel
theorem dX4_init_80 : decode cX4_init 80 = .ok (.bipush 9, 2) := by decide +kernel
theorem dX4_init_82 : decode cX4_init 82 = .ok (.sipush 2015, 3) := by decide +kernel
theorem dX4_init_85 : decode cX4_init 85 = .ok (.iastore, 1) := by decide +kernel
theorem dX4_init_86 : decode cX4_init 86 = .ok (.dup, 1) := by decide +kernel
theorem dX4_init_87 : decode cX4_init 87 = .ok (.bipush 10, 2) := by decide +kernel
theorem dX4_init_89 : decode cX4_init 89 = .ok (.sipush 2015, 3) := by decide +kernel
theorem dX4_init_92 : decode cX4_init 92 = .ok (.iastore, 1) := by decide +kernel
theorem dX4_init_93 : decode cX4_init 93 = .ok (.dup, 1) := by decide +kernel
theorem dX4_init_94 : decode cX4_init 94 = .ok (.bipush 11, 2) := by decide +kernel
theorem dX4_init_96 : decode cX4_init 96 = .ok (.bipush 15, 2) := by decide +kernel
theorem dX4_init_98 : decode cX4_init 98 = .ok (.iastore, 1) := by decide +kernel
theorem dX4_init_99 : decode cX4_init 99 = .ok (.dup, 1) := by decide +kernel
theorem dX4_init_100 : decode cX4_init 100 = .ok (.bipush 12, 2) := by decide +kernel
theorem dX4_init_102 : decode cX4_init 102 = .ok (.iconst (-1), 1) := by decide +kernel
theorem dX4_init_103 : decode cX4_init 103 = .ok (.iastore, 1) := by decide +kernel
theorem dX4_init_104 : decode cX4_init 104 = .ok (.dup, 1) := by decide +kernel
theorem dX4_init_105 : decode cX4_init 105 = .ok (.bipush 13, 2) := by decide +kernel
theorem dX4_init_107 : decode cX4_init 107 = .ok (.iconst (-1), 1) := by decide +kernel
theorem dX4_init_108 : decode cX4_init 108 = .ok (.iastore, 1) := by decide +kernel
theorem dX4_init_109 : decode cX4_init 109 = .ok (.dup, 1) := by decide +kernel
theorem dX4_init_110 : decode cX4_init 110 = .ok (.bipush 14, 2) := by decide +kernel
theorem dX4_init_112 : decode cX4_init 112 = .ok (.ldc 20, 2) := by decide +kernel
theorem dX4_init_114 : decode cX4_init 114 = .ok (.iastore, 1) := by decide +kernel
theorem dX4_init_115 : decode cX4_init 115 = .ok (.dup, 1) := by decide +kernel
theorem dX4_init_116 : decode cX4_init 116 = .ok (.bipush 15, 2) := by decide +kernel
theorem dX4_init_118 : decode cX4_init 118 = .ok (.iconst 0, 1) := by decide +kernel
theorem dX4_init_119 : decode cX4_init 119 = .ok (.iastore, 1) := by decide +kernel
theorem dX4_init_120 : decode cX4_init 120 = .ok (.dup, 1) := by decide +kernel
theorem dX4_init_121 : decode cX4_init 121 = .ok (.bipush 16, 2) := by decide +kernel
theorem dX4_init_123 : decode cX4_init 123 = .ok (.bipush (-4), 2) := by decide +kernel
theorem dX4_init_125 : decode cX4_init 125 = .ok (.iastore, 1) := by decide +kernel
theorem dX4_init_126 : decode cX4_init 126 = .ok (.dup, 1) := by decide +kernel
theorem dX4_init_127 : decode cX4_init 127 = .ok (.bipush 17, 2) := by decide +kernel
theorem dX4_init_129 : decode cX4_init 129 = .ok (.ldc 21, 2) := by decide +kernel
theorem dX4_init_131 : decode cX4_init 131 = .ok (.iastore, 1) := by decide +kernel
theorem dX4_init_132 : decode cX4_init 132 = .ok (.putfield 22, 3) := by decide +kernel
theorem dX4_init_135 : decode cX4_init 135 = .ok (.aload_n 0, 1) := by decide +kernel
theorem dX4_init_136 : decode cX4_init 136 = .ok (.iconst 4, 1) := by decide +kernel
theorem dX4_init_137 : decode cX4_init 137 = .ok (.newarray .boolean, 2) := by decide +kernel
theorem dX4_init_139 : decode cX4_init 139 = .ok (.putfield 25, 3) := by decide +kernel
theorem dX4_init_142 : decode cX4_init 142 = .ok (.aload_n 0, 1) := by decide +kernel
theorem dX4_init_143 : decode cX4_init 143 = .ok (.iconst 4, 1) := by decide +kernel
theorem dX4_init_144 : decode cX4_init 144 = .ok (.newarray .boolean, 2) := by decide +kernel
theorem dX4_init_146 : decode cX4_init 146 = .ok (.putfield 29, 3) := by decide +kernel
theorem dX4_init_149 : decode cX4_init 149 = .ok (.aload_n 0, 1) := by decide +kernel
theorem dX4_init_150 : decode cX4_init 150 = .ok (.iconst 4, 1) := by decide +kernel
theorem dX4_init_151 : decode cX4_init 151 = .ok (.newarray .int, 2) := by decide +kernel
theorem dX4_init_153 : decode cX4_init 153 = .ok (.putfield 32, 3) := by decide +kernel
theorem dX4_init_156 : decode cX4_init 156 = .ok (.aload_n 0, 1) := by decide +kernel
theorem dX4_init_157 : decode cX4_init 157 = .ok (.iconst 4, 1) := by decide +kernel
theorem dX4_init_158 : decode cX4_init 158 = .ok (.newarray .int, 2) := by decide +kernel
theorem dX4_init_160 : decode cX4_init 160 = .ok (.putfield 35, 3) := by decide +kernel
theorem dX4_init_163 : decode cX4_init 163 = .ok (.aload_n 0, 1) := by decide +kernel
theorem dX4_init_164 : decode cX4_init 164 = .ok (.bipush 8, 2) := by decide +kernel
theorem dX4_init_166 : decode cX4_init 166 = .ok (.newarray .int, 2) := by decide +kernel
theorem dX4_init_168 : decode cX4_init 168 = .ok (.putfield 38, 3) := by decide +kernel
theorem dX4_init_171 : decode cX4_init 171 = .ok (.aload_n 0, 1) := by decide +kernel
theorem dX4_init_172 : decode cX4_init 172 = .ok (.getfield 16, 3) := by decide +kernel
theorem dX4_init_175 : decode cX4_init 175 = .ok (.iconst 0, 1) := by decide +kernel
theorem dX4_init_176 : decode cX4_init 176 = .ok (.bipush 8, 2) := by decide +kernel
theorem dX4_init_178 : decode cX4_init 178 = .ok (.iastore, 1) := by decide +kernel
theorem dX4_init_179 : decode cX4_init 179 = .ok (.return_, 1) := by decide +kernel
theorem dX4_thrown_0 : decode cX4_thrown 0 = .ok (.aload_n 0, 1) := by decide +kernel
theorem dX4_thrown_1 : decode cX4_thrown 1 = .ok (.getfield 41, 3) := by decide +kernel
theorem dX4_thrown_4 : decode cX4_thrown 4 = .ok (.ireturn, 1) := by decide +kernel
theorem dX4_refuse_0 : decode cX4_refuse 0 = .ok (.aload_n 0, 1) := by decide +kernel
theorem dX4_refuse_1 : decode cX4_refuse 1 = .ok (.iload_n 1, 1) := by decide +kernel
theorem dX4_refuse_2 : decode cX4_refuse 2 = .ok (.putfield 41, 3) := by decide +kernel
theorem dX4_refuse_5 : decode cX4_refuse 5 = .ok (.iconst 0, 1) := by decide +kernel
theorem dX4_refuse_6 : decode cX4_refuse 6 = .ok (.ireturn, 1) := by decide +kernel
theorem dX4_outside_0 : decode cX4_outside 0 = .ok (.iload_n 0, 1) := by decide +kernel
theorem dX4_outside_1 : decode cX4_outside 1 = .ok (.iload_n 1, 1) := by decide +kernel
theorem dX4_outside_2 : decode cX4_outside 2 = .ok (.if_icmp .lt 8, 3) := by decide +kernel
theorem dX4_outside_5 : decode cX4_outside 5 = .ok (.iload_n 0, 1) := by decide +kernel
theorem dX4_outside_6 : decode cX4_outside 6 = .ok (.iload_n 2, 1) := by decide +kernel
theorem dX4_outside_7 : decode cX4_outside 7 = .ok (.if_icmp .le 7, 3) := by decide +kernel
theorem dX4_outside_10 : decode cX4_outside 10 = .ok (.iconst 1, 1) := by decide +kernel
theorem dX4_outside_11 : decode cX4_outside 11 = .ok (.goto 4, 3) := by decide +kernel
theorem dX4_outside_14 : decode cX4_outside 14 = .ok (.iconst 0, 1) := by decide +kernel
theorem dX4_outside_15 : decode cX4_outside 15 = .ok (.ireturn, 1) := by decide +kernel
theorem dX4_user_0 : decode cX4_user 0 = .ok (.aload_n 0, 1) := by decide +kernel
theorem dX4_user_1 : decode cX4_user 1 = .ok (.getfield 16, 3) := by decide +kernel
theorem dX4_user_4 : decode cX4_user 4 = .ok (.iconst 0, 1) := by decide +kernel
theorem dX4_user_5 : decode cX4_user 5 = .ok (.iaload, 1) := by decide +kernel
theorem dX4_user_6 : decode cX4_user 6 = .ok (.iconst 3, 1) := by decide +kernel
theorem dX4_user_7 : decode cX4_user 7 = .ok (.iand, 1) := by decide +kernel
theorem dX4_user_8 : decode cX4_user 8 = .ok (.ifCond .eq 7, 3) := by decide +kernel
theorem dX4_user_11 : decode cX4_user 11 = .ok (.iconst 1, 1) := by decide +kernel
theorem dX4_user_12 : decode cX4_user 12 = .ok (.goto 4, 3) := by decide +kernel
theorem dX4_user_15 : decode cX4_user 15 = .ok (.iconst 0, 1) := by decide +kernel
theorem dX4_user_16 : decode cX4_user 16 = .ok (.ireturn, 1) := by decide +kernel
theorem dX4_codeOf_0 : decode cX4_codeOf 0 = .ok (.aload_n 0, 1) := by decide +kernel
theorem dX4_codeOf_1 : decode cX4_codeOf 1 = .ok (.getfield 16, 3) := by decide +kernel
theorem dX4_codeOf_4 : decode cX4_codeOf 4 = .ok (.iconst 3, 1) := by decide +kernel
theorem dX4_codeOf_5 : decode cX4_codeOf 5 = .ok (.iaload, 1) := by decide +kernel
theorem dX4_codeOf_6 : decode cX4_codeOf 6 = .ok (.bipush 16, 2) := by decide +kernel
theorem dX4_codeOf_8 : decode cX4_codeOf 8 = .ok (.ishr, 1) := by decide +kernel
theorem dX4_codeOf_9 : decode cX4_codeOf 9 = .ok (.bipush 63, 2) := by decide +kernel
theorem dX4_codeOf_11 : decode cX4_codeOf 11 = .ok (.iand, 1) := by decide +kernel
theorem dX4_codeOf_12 : decode cX4_codeOf 12 = .ok (.ireturn, 1) := by decide +kernel
theorem dX4_pairOf_0 : decode cX4_pairOf 0 = .ok (.iload_n 0, 1) := by decide +kernel
theorem dX4_pairOf_1 : decode cX4_pairOf 1 = .ok (.bipush 7, 2) := by decide +kernel
theorem dX4_pairOf_3 : decode cX4_pairOf 3 = .ok (.iushr, 1) := by decide +kernel
theorem dX4_pairOf_4 : decode cX4_pairOf 4 = .ok (.ireturn, 1) := by decide +kernel
theorem dX4_with_0 : decode cX4_with 0 = .ok (.aload_n 0, 1) := by decide +kernel
theorem dX4_with_1 : decode cX4_with 1 = .ok (.iload_n 3, 1) := by decide +kernel
theorem dX4_with_2 : decode cX4_with 2 = .ok (.putfield 45, 3) := by decide +kernel
theorem dX4_with_5 : decode cX4_with 5 = .ok (.aload_n 0, 1) := by decide +kernel
theorem dX4_with_6 : decode cX4_with 6 = .ok (.iload_n 2, 1) := by decide +kernel
theorem dX4_with_7 : decode cX4_with 7 = .ok (.putfield 48, 3) := by decide +kernel
theorem dX4_with_10 : decode cX4_with 10 = .ok (.iload_n 1, 1) := by decide +kernel
theorem dX4_with_11 : decode cX4_with 11 = .ok (.ireturn, 1) := by decide +kernel
theorem dX4_enter_0 : decode cX4_enter 0 = .ok (.aload_n 0, 1) := by decide +kernel
theorem dX4_enter_1 : decode cX4_enter 1 = .ok (.getfield 16, 3) := by decide +kernel
theorem dX4_enter_4 : decode cX4_enter 4 = .ok (.iconst 0, 1) := by decide +kernel
theorem dX4_enter_5 : decode cX4_enter 5 = .ok (.iaload, 1) := by decide +kernel
theorem dX4_enter_6 : decode cX4_enter 6 = .ok (.bipush 7, 2) := by decide +kernel
theorem dX4_enter_8 : decode cX4_enter 8 = .ok (.iand, 1) := by decide +kernel
theorem dX4_enter_9 : decode cX4_enter 9 = .ok (.istore_n 2, 1) := by decide +kernel
theorem dX4_enter_10 : decode cX4_enter 10 = .ok (.aload_n 0, 1) := by decide +kernel
theorem dX4_enter_11 : decode cX4_enter 11 = .ok (.getfield 16, 3) := by decide +kernel
theorem dX4_enter_14 : decode cX4_enter 14 = .ok (.iconst 1, 1) := by decide +kernel
theorem dX4_enter_15 : decode cX4_enter 15 = .ok (.iload_n 2, 1) := by decide +kernel
theorem dX4_enter_16 : decode cX4_enter 16 = .ok (.iastore, 1) := by decide +kernel
theorem dX4_enter_17 : decode cX4_enter 17 = .ok (.aload_n 0, 1) := by decide +kernel
theorem dX4_enter_18 : decode cX4_enter 18 = .ok (.getfield 16, 3) := by decide +kernel
theorem dX4_enter_21 : decode cX4_enter 21 = .ok (.iconst 0, 1) := by decide +kernel
theorem dX4_enter_22 : decode cX4_enter 22 = .ok (.aload_n 0, 1) := by decide +kernel
theorem dX4_enter_23 : decode cX4_enter 23 = .ok (.getfield 16, 3) := by decide +kernel
theorem dX4_enter_26 : decode cX4_enter 26 = .ok (.iconst 0, 1) := by decide +kernel
theorem dX4_enter_27 : decode cX4_enter 27 = .ok (.iaload, 1) := by decide +kernel
theorem dX4_enter_28 : decode cX4_enter 28 = .ok (.iload_n 2, 1) := by decide +kernel
theorem dX4_enter_29 : decode cX4_enter 29 = .ok (.isub, 1) := by decide +kernel
theorem dX4_enter_30 : decode cX4_enter 30 = .ok (.iastore, 1) := by decide +kernel
theorem dX4_enter_31 : decode cX4_enter 31 = .ok (.aload_n 0, 1) := by decide +kernel
theorem dX4_enter_32 : decode cX4_enter 32 = .ok (.getfield 16, 3) := by decide +kernel
theorem dX4_enter_35 : decode cX4_enter 35 = .ok (.iconst 4, 1) := by decide +kernel
theorem dX4_enter_36 : decode cX4_enter 36 = .ok (.aload_n 0, 1) := by decide +kernel
theorem dX4_enter_37 : decode cX4_enter 37 = .ok (.getfield 51, 3) := by decide +kernel
theorem dX4_enter_40 : decode cX4_enter 40 = .ok (.iastore, 1) := by decide +kernel
theorem dX4_enter_41 : decode cX4_enter 41 = .ok (.aload_n 0, 1) := by decide +kernel
theorem dX4_enter_42 : decode cX4_enter 42 = .ok (.getfield 16, 3) := by decide +kernel
theorem dX4_enter_45 : decode cX4_enter 45 = .ok (.iconst 3, 1) := by decide +kernel
theorem dX4_enter_46 : decode cX4_enter 46 = .ok (.aload_n 0, 1) := by decide +kernel
theorem dX4_enter_47 : decode cX4_enter 47 = .ok (.getfield 16, 3) := by decide +kernel
theorem dX4_enter_50 : decode cX4_enter 50 = .ok (.iconst 3, 1) := by decide +kernel
theorem dX4_enter_51 : decode cX4_enter 51 = .ok (.iaload, 1) := by decide +kernel
theorem dX4_enter_52 : decode cX4_enter 52 = .ok (.ldc 54, 2) := by decide +kernel
theorem dX4_enter_54 : decode cX4_enter 54 = .ok (.iand, 1) := by decide +kernel
theorem dX4_enter_55 : decode cX4_enter 55 = .ok (.iload_n 1, 1) := by decide +kernel
theorem dX4_enter_56 : decode cX4_enter 56 = .ok (.bipush 16, 2) := by decide +kernel
theorem dX4_enter_58 : decode cX4_enter 58 = .ok (.ishl, 1) := by decide +kernel
theorem dX4_enter_59 : decode cX4_enter 59 = .ok (.ior, 1) := by decide +kernel
theorem dX4_enter_60 : decode cX4_enter 60 = .ok (.iastore, 1) := by decide +kernel
theorem dX4_enter_61 : decode cX4_enter 61 = .ok (.aload_n 0, 1) := by decide +kernel
theorem dX4_enter_62 : decode cX4_enter 62 = .ok (.getfield 45, 3) := by decide +kernel
theorem dX4_enter_65 : decode cX4_enter 65 = .ok (.ifCond .le 13, 3) := by decide +kernel
theorem dX4_enter_68 : decode cX4_enter 68 = .ok (.aload_n 0, 1) := by decide +kernel
theorem dX4_enter_69 : decode cX4_enter 69 = .ok (.getfield 16, 3) := by decide +kernel
theorem dX4_enter_72 : decode cX4_enter 72 = .ok (.iconst 5, 1) := by decide +kernel
theorem dX4_enter_73 : decode cX4_enter 73 = .ok (.aload_n 0, 1) := by decide +kernel
theorem dX4_enter_74 : decode cX4_enter 74 = .ok (.getfield 48, 3) := by decide +kernel
theorem dX4_enter_77 : decode cX4_enter 77 = .ok (.iastore, 1) := by decide +kernel
theorem dX4_enter_78 : decode cX4_enter 78 = .ok (.aload_n 0, 1) := by decide +kernel
theorem dX4_enter_79 : decode cX4_enter 79 = .ok (.getfield 45, 3) := by decide +kernel
theorem dX4_enter_82 : decode cX4_enter 82 = .ok (.iconst 1, 1) := by decide +kernel
theorem dX4_enter_83 : decode cX4_enter 83 = .ok (.if_icmp .le 17, 3) := by decide +kernel
theorem dX4_enter_86 : decode cX4_enter 86 = .ok (.aload_n 0, 1) := by decide +kernel
theorem dX4_enter_87 : decode cX4_enter 87 = .ok (.getfield 16, 3) := by decide +kernel
theorem dX4_enter_90 : decode cX4_enter 90 = .ok (.bipush 8, 2) := by decide +kernel
theorem dX4_enter_92 : decode cX4_enter 92 = .ok (.aload_n 0, 1) := by decide +kernel
theorem dX4_enter_93 : decode cX4_enter 93 = .ok (.getfield 48, 3) := by decide +kernel
theorem dX4_enter_96 : decode cX4_enter 96 = .ok (.bipush (-128), 2) := by decide +kernel
theorem dX4_enter_98 : decode cX4_enter 98 = .ok (.iand, 1) := by decide +kernel
theorem dX4_enter_99 : decode cX4_enter 99 = .ok (.iastore, 1) := by decide +kernel
theorem dX4_enter_100 : decode cX4_enter 100 = .ok (.iload_n 1, 1) := by decide +kernel
theorem dX4_enter_101 : decode cX4_enter 101 = .ok (.bipush 63, 2) := by decide +kernel
theorem dX4_enter_103 : decode cX4_enter 103 = .ok (.if_icmp .ne 14, 3) := by decide +kernel
theorem dX4_enter_106 : decode cX4_enter 106 = .ok (.aload_n 0, 1) := by decide +kernel
theorem dX4_enter_107 : decode cX4_enter 107 = .ok (.getfield 16, 3) := by decide +kernel
theorem dX4_enter_110 : decode cX4_enter 110 = .ok (.iconst 0, 1) := by decide +kernel
theorem dX4_enter_111 : decode cX4_enter 111 = .ok (.dup2, 1) := by decide +kernel
theorem dX4_enter_112 : decode cX4_enter 112 = .ok (.iaload, 1) := by decide +kernel
theorem dX4_enter_113 : decode cX4_enter 113 = .ok (.bipush 8, 2) := by decide +kernel
theorem dX4_enter_115 : decode cX4_enter 115 = .ok (.ior, 1) := by decide +kernel
theorem dX4_enter_116 : decode cX4_enter 116 = .ok (.iastore, 1) := by decide +kernel
theorem dX4_enter_117 : decode cX4_enter 117 = .ok (.aload_n 0, 1) := by decide +kernel
theorem dX4_enter_118 : decode cX4_enter 118 = .ok (.iload_n 1, 1) := by decide +kernel
theorem dX4_enter_119 : decode cX4_enter 119 = .ok (.bipush 63, 2) := by decide +kernel
theorem dX4_enter_121 : decode cX4_enter 121 = .ok (.if_icmp .ne 13, 3) := by decide +kernel
theorem dX4_enter_124 : decode cX4_enter 124 = .ok (.aload_n 0, 1) := by decide +kernel
theorem dX4_enter_125 : decode cX4_enter 125 = .ok (.getfield 16, 3) := by decide +kernel
theorem dX4_enter_128 : decode cX4_enter 128 = .ok (.bipush 16, 2) := by decide +kernel
theorem dX4_enter_130 : decode cX4_enter 130 = .ok (.iaload, 1) := by decide +kernel
theorem dX4_enter_131 : decode cX4_enter 131 = .ok (.goto 10, 3) := by decide +kernel
theorem dX4_enter_134 : decode cX4_enter 134 = .ok (.aload_n 0, 1) := by decide +kernel
theorem dX4_enter_135 : decode cX4_enter 135 = .ok (.getfield 16, 3) := by decide +kernel
theorem dX4_enter_138 : decode cX4_enter 138 = .ok (.bipush 6, 2) := by decide +kernel
theorem dX4_enter_140 : decode cX4_enter 140 = .ok (.iaload, 1) := by decide +kernel
theorem dX4_enter_141 : decode cX4_enter 141 = .ok (.putfield 51, 3) := by decide +kernel
theorem dX4_enter_144 : decode cX4_enter 144 = .ok (.return_, 1) := by decide +kernel
theorem dX4_fits_0 : decode cX4_fits 0 = .ok (.aload_n 0, 1) := by decide +kernel
theorem dX4_fits_1 : decode cX4_fits 1 = .ok (.getfield 25, 3) := by decide +kernel
theorem dX4_fits_4 : decode cX4_fits 4 = .ok (.iload_n 1, 1) := by decide +kernel
theorem dX4_fits_5 : decode cX4_fits 5 = .ok (.baload, 1) := by decide +kernel
theorem dX4_fits_6 : decode cX4_fits 6 = .ok (.ifCond .eq 36, 3) := by decide +kernel
theorem dX4_fits_9 : decode cX4_fits 9 = .ok (.aload_n 0, 1) := by decide +kernel
theorem dX4_fits_10 : decode cX4_fits 10 = .ok (.getfield 32, 3) := by decide +kernel
theorem dX4_fits_13 : decode cX4_fits 13 = .ok (.iload_n 1, 1) := by decide +kernel
theorem dX4_fits_14 : decode cX4_fits 14 = .ok (.iaload, 1) := by decide +kernel
theorem dX4_fits_15 : decode cX4_fits 15 = .ok (.iload_n 2, 1) := by decide +kernel
theorem dX4_fits_16 : decode cX4_fits 16 = .ok (.if_icmp .ne 26, 3) := by decide +kernel
theorem dX4_fits_19 : decode cX4_fits 19 = .ok (.aload_n 0, 1) := by decide +kernel
theorem dX4_fits_20 : decode cX4_fits 20 = .ok (.getfield 29, 3) := by decide +kernel
theorem dX4_fits_23 : decode cX4_fits 23 = .ok (.iload_n 1, 1) := by decide +kernel
theorem dX4_fits_24 : decode cX4_fits 24 = .ok (.baload, 1) := by decide +kernel
theorem dX4_fits_25 : decode cX4_fits 25 = .ok (.ifCond .ne 13, 3) := by decide +kernel
theorem dX4_fits_28 : decode cX4_fits 28 = .ok (.aload_n 0, 1) := by decide +kernel
theorem dX4_fits_29 : decode cX4_fits 29 = .ok (.getfield 35, 3) := by decide +kernel
theorem dX4_fits_32 : decode cX4_fits 32 = .ok (.iload_n 1, 1) := by decide +kernel
theorem dX4_fits_33 : decode cX4_fits 33 = .ok (.iaload, 1) := by decide +kernel
theorem dX4_fits_34 : decode cX4_fits 34 = .ok (.iload_n 3, 1) := by decide +kernel
theorem dX4_fits_35 : decode cX4_fits 35 = .ok (.if_icmp .ne 7, 3) := by decide +kernel
theorem dX4_fits_38 : decode cX4_fits 38 = .ok (.iconst 1, 1) := by decide +kernel
theorem dX4_fits_39 : decode cX4_fits 39 = .ok (.goto 4, 3) := by decide +kernel
theorem dX4_fits_42 : decode cX4_fits 42 = .ok (.iconst 0, 1) := by decide +kernel
theorem dX4_fits_43 : decode cX4_fits 43 = .ok (.ireturn, 1) := by decide +kernel
set_option maxRecDepth 20000 in
theorem ggX4_lookUp_X4_with : GoodIn wsX4_lookUp wsX4_with := goodIn_r _ [8, 9, 10, 34, 35, 36, 37, 38, 39, 40, 41, 42, 43, 44, 45, 46, 47, 48, 49, 50, 51, 52, 53] (by decide +kernel) (by decide +kernel)
set_option maxRecDepth 20000 in
theorem gX4_lookUp_X4_with : GoodIn wsX4_lookUp (wsV RX4 55 RX4 yX4_with wsX4_with) := goodIn_app (goodIn_of _ (by decide +kernel)) ggX4_lookUp_X4_with
set_option maxRecDepth 20000 in
theorem ggX4_lookUp_X4_user : GoodIn wsX4_lookUp wsX4_user := goodIn_r _ [14, 1, 34, 35, 36, 37, 38, 39, 40, 41, 42, 43, 44, 45, 46, 47, 48, 49, 50, 51, 52, 53] (by decide +kernel) (by decide +kernel)
set_option maxRecDepth 20000 in
theorem gX4_lookUp_X4_user : GoodIn wsX4_lookUp (wsV RX4 59 RX4 yX4_user wsX4_user) := goodIn_app (goodIn_of _ (by decide +kernel)) ggX4_lookUp_X4_user
set_option maxRecDepth 20000 in
theorem ggX4_lookUp_X4_map : GoodIn wsX4_lookUp wsX4_map := goodIn_r _ [18, 1, 19, 3, 20, 21, 7, 22, 23, 24, 25, 26, 27, 28, 29, 30, 4, 5, 6, 8, 9, 10, 11, 12, 13, 14, 34, 35, 36, 37, 38, 39, 40, 41, 42, 43, 44, 45, 46, 47, 48, 49, 50, 51, 52, 53] (by decide +kernel) (by decide +kernel)
set_option maxRecDepth 20000 in
theorem gX4_lookUp_X4_map : GoodIn wsX4_lookUp (wsV RX4 64 RX4 yX4_map wsX4_map) := goodIn_app (goodIn_of _ (by decide +kernel)) ggX4_lookUp_X4_map
set_option maxRecDepth 20000 in
theorem ggX4_lookUp_X4_outside : GoodIn wsX4_lookUp wsX4_outside := goodIn_r _ [33] (by decide +kernel) (by decide +kernel)
set_option maxRecDepth 20000 in
theorem gX4_lookUp_X4_outside : GoodIn wsX4_lookUp (va_wsS RX4 71 yX4_outside wsX4_outside) := goodIn_app (goodIn_of _ (by decide +kernel)) ggX4_lookUp_X4_outside
theorem dX4_lookUp_0 : decode cX4_lookUp 0 = .ok (.iload_n 1, 1) := by decide +kernel
theorem dX4_lookUp_1 : decode cX4_lookUp 1 = .ok (.iconst 3, 1) := by decide +kernel
theorem dX4_lookUp_2 : decode cX4_lookUp 2 = .ok (.iand, 1) := by decide +kernel
theorem dX4_lookUp_3 : decode cX4_lookUp 3 = .ok (.ifCond .eq 21, 3) := by decide +kernel
theorem dX4_lookUp_6 : decode cX4_lookUp 6 = .ok (.aload_n 0, 1) := by decide +kernel
theorem dX4_lookUp_7 : decode cX4_lookUp 7 = .ok (.iload_n 2, 1) := by decide +kernel
theorem dX4_lookUp_8 : decode cX4_lookUp 8 = .ok (.ifCond .ne 8, 3) := by decide +kernel
theorem dX4_lookUp_11 : decode cX4_lookUp 11 = .ok (.bipush 8, 2) := by decide +kernel
theorem dX4_lookUp_13 : decode cX4_lookUp 13 = .ok (.goto 5, 3) := by decide +kernel
theorem dX4_lookUp_16 : decode cX4_lookUp 16 = .ok (.bipush 9, 2) := by decide +kernel
theorem dX4_lookUp_18 : decode cX4_lookUp 18 = .ok (.iload_n 1, 1) := by decide +kernel
theorem dX4_lookUp_19 : decode cX4_lookUp 19 = .ok (.iconst 1, 1) := by decide +kernel
theorem dX4_lookUp_20 : decode cX4_lookUp 20 = .ok (.invokevirtual 55, 3) := by decide +kernel
theorem dX4_lookUp_23 : decode cX4_lookUp 23 = .ok (.ireturn, 1) := by decide +kernel
theorem dX4_lookUp_24 : decode cX4_lookUp 24 = .ok (.iload_n 1, 1) := by decide +kernel
theorem dX4_lookUp_25 : decode cX4_lookUp 25 = .ok (.bipush 28, 2) := by decide +kernel
theorem dX4_lookUp_27 : decode cX4_lookUp 27 = .ok (.iushr, 1) := by decide +kernel
theorem dX4_lookUp_28 : decode cX4_lookUp 28 = .ok (.aload_n 0, 1) := by decide +kernel
theorem dX4_lookUp_29 : decode cX4_lookUp 29 = .ok (.getfield 16, 3) := by decide +kernel
theorem dX4_lookUp_32 : decode cX4_lookUp 32 = .ok (.bipush 17, 2) := by decide +kernel
theorem dX4_lookUp_34 : decode cX4_lookUp 34 = .ok (.iaload, 1) := by decide +kernel
theorem dX4_lookUp_35 : decode cX4_lookUp 35 = .ok (.bipush 28, 2) := by decide +kernel
theorem dX4_lookUp_37 : decode cX4_lookUp 37 = .ok (.iushr, 1) := by decide +kernel
theorem dX4_lookUp_38 : decode cX4_lookUp 38 = .ok (.if_icmp .ne 31, 3) := by decide +kernel
theorem dX4_lookUp_41 : decode cX4_lookUp 41 = .ok (.aload_n 0, 1) := by decide +kernel
theorem dX4_lookUp_42 : decode cX4_lookUp 42 = .ok (.getfield 16, 3) := by decide +kernel
theorem dX4_lookUp_45 : decode cX4_lookUp 45 = .ok (.bipush 17, 2) := by decide +kernel
theorem dX4_lookUp_47 : decode cX4_lookUp 47 = .ok (.iaload, 1) := by decide +kernel
theorem dX4_lookUp_48 : decode cX4_lookUp 48 = .ok (.aload_n 0, 1) := by decide +kernel
theorem dX4_lookUp_49 : decode cX4_lookUp 49 = .ok (.invokevirtual 59, 3) := by decide +kernel
theorem dX4_lookUp_52 : decode cX4_lookUp 52 = .ok (.ifCond .eq 8, 3) := by decide +kernel
theorem dX4_lookUp_55 : decode cX4_lookUp 55 = .ok (.bipush 8, 2) := by decide +kernel
theorem dX4_lookUp_57 : decode cX4_lookUp 57 = .ok (.goto 4, 3) := by decide +kernel
theorem dX4_lookUp_60 : decode cX4_lookUp 60 = .ok (.iconst 1, 1) := by decide +kernel
theorem dX4_lookUp_61 : decode cX4_lookUp 61 = .ok (.iand, 1) := by decide +kernel
theorem dX4_lookUp_62 : decode cX4_lookUp 62 = .ok (.ifCond .eq 7, 3) := by decide +kernel
theorem dX4_lookUp_65 : decode cX4_lookUp 65 = .ok (.iconst 1, 1) := by decide +kernel
theorem dX4_lookUp_66 : decode cX4_lookUp 66 = .ok (.goto 4, 3) := by decide +kernel
theorem dX4_lookUp_69 : decode cX4_lookUp 69 = .ok (.iconst 0, 1) := by decide +kernel
theorem dX4_lookUp_70 : decode cX4_lookUp 70 = .ok (.istore_n 3, 1) := by decide +kernel
theorem dX4_lookUp_71 : decode cX4_lookUp 71 = .ok (.iload_n 1, 1) := by decide +kernel
theorem dX4_lookUp_72 : decode cX4_lookUp 72 = .ok (.istore 4, 2) := by decide +kernel
theorem dX4_lookUp_74 : decode cX4_lookUp 74 = .ok (.aload_n 0, 1) := by decide +kernel
theorem dX4_lookUp_75 : decode cX4_lookUp 75 = .ok (.getfield 16, 3) := by decide +kernel
theorem dX4_lookUp_78 : decode cX4_lookUp 78 = .ok (.iconst 0, 1) := by decide +kernel
theorem dX4_lookUp_79 : decode cX4_lookUp 79 = .ok (.iaload, 1) := by decide +kernel
theorem dX4_lookUp_80 : decode cX4_lookUp 80 = .ok (.bipush 8, 2) := by decide +kernel
theorem dX4_lookUp_82 : decode cX4_lookUp 82 = .ok (.iand, 1) := by decide +kernel
theorem dX4_lookUp_83 : decode cX4_lookUp 83 = .ok (.ifCond .ne 16, 3) := by decide +kernel
theorem dX4_lookUp_86 : decode cX4_lookUp 86 = .ok (.iload_n 3, 1) := by decide +kernel
theorem dX4_lookUp_87 : decode cX4_lookUp 87 = .ok (.ifCond .eq 12, 3) := by decide +kernel
theorem dX4_lookUp_90 : decode cX4_lookUp 90 = .ok (.iload_n 1, 1) := by decide +kernel
theorem dX4_lookUp_91 : decode cX4_lookUp 91 = .ok (.ldc 63, 2) := by decide +kernel
theorem dX4_lookUp_93 : decode cX4_lookUp 93 = .ok (.iand, 1) := by decide +kernel
theorem dX4_lookUp_94 : decode cX4_lookUp 94 = .ok (.istore 4, 2) := by decide +kernel
theorem dX4_lookUp_96 : decode cX4_lookUp 96 = .ok (.goto 38, 3) := by decide +kernel
theorem dX4_lookUp_99 : decode cX4_lookUp 99 = .ok (.aload_n 0, 1) := by decide +kernel
theorem dX4_lookUp_100 : decode cX4_lookUp 100 = .ok (.getfield 16, 3) := by decide +kernel
theorem dX4_lookUp_103 : decode cX4_lookUp 103 = .ok (.iconst 0, 1) := by decide +kernel
theorem dX4_lookUp_104 : decode cX4_lookUp 104 = .ok (.iaload, 1) := by decide +kernel
theorem dX4_lookUp_105 : decode cX4_lookUp 105 = .ok (.bipush 8, 2) := by decide +kernel
theorem dX4_lookUp_107 : decode cX4_lookUp 107 = .ok (.iand, 1) := by decide +kernel
theorem dX4_lookUp_108 : decode cX4_lookUp 108 = .ok (.ifCond .ne 26, 3) := by decide +kernel
theorem dX4_lookUp_111 : decode cX4_lookUp 111 = .ok (.aload_n 0, 1) := by decide +kernel
theorem dX4_lookUp_112 : decode cX4_lookUp 112 = .ok (.iload_n 1, 1) := by decide +kernel
theorem dX4_lookUp_113 : decode cX4_lookUp 113 = .ok (.iload_n 2, 1) := by decide +kernel
theorem dX4_lookUp_114 : decode cX4_lookUp 114 = .ok (.invokevirtual 64, 3) := by decide +kernel
theorem dX4_lookUp_117 : decode cX4_lookUp 117 = .ok (.istore 5, 2) := by decide +kernel
theorem dX4_lookUp_119 : decode cX4_lookUp 119 = .ok (.iload 5, 2) := by decide +kernel
theorem dX4_lookUp_121 : decode cX4_lookUp 121 = .ok (.iconst (-1), 1) := by decide +kernel
theorem dX4_lookUp_122 : decode cX4_lookUp 122 = .ok (.if_icmp .eq 6, 3) := by decide +kernel
theorem dX4_lookUp_125 : decode cX4_lookUp 125 = .ok (.iload 5, 2) := by decide +kernel
theorem dX4_lookUp_127 : decode cX4_lookUp 127 = .ok (.ireturn, 1) := by decide +kernel
theorem dX4_lookUp_128 : decode cX4_lookUp 128 = .ok (.aload_n 0, 1) := by decide +kernel
theorem dX4_lookUp_129 : decode cX4_lookUp 129 = .ok (.getfield 68, 3) := by decide +kernel
theorem dX4_lookUp_132 : decode cX4_lookUp 132 = .ok (.istore 4, 2) := by decide +kernel
theorem dX4_lookUp_134 : decode cX4_lookUp 134 = .ok (.iload 4, 2) := by decide +kernel
theorem dX4_lookUp_136 : decode cX4_lookUp 136 = .ok (.iconst 0, 1) := by decide +kernel
theorem dX4_lookUp_137 : decode cX4_lookUp 137 = .ok (.sipush 2047, 3) := by decide +kernel
theorem dX4_lookUp_140 : decode cX4_lookUp 140 = .ok (.invokestatic 71, 3) := by decide +kernel
theorem dX4_lookUp_143 : decode cX4_lookUp 143 = .ok (.ifCond .eq 12, 3) := by decide +kernel
theorem dX4_lookUp_146 : decode cX4_lookUp 146 = .ok (.aload_n 0, 1) := by decide +kernel
theorem dX4_lookUp_147 : decode cX4_lookUp 147 = .ok (.bipush 8, 2) := by decide +kernel
theorem dX4_lookUp_149 : decode cX4_lookUp 149 = .ok (.iload_n 1, 1) := by decide +kernel
theorem dX4_lookUp_150 : decode cX4_lookUp 150 = .ok (.iconst 1, 1) := by decide +kernel
theorem dX4_lookUp_151 : decode cX4_lookUp 151 = .ok (.invokevirtual 55, 3) := by decide +kernel
theorem dX4_lookUp_154 : decode cX4_lookUp 154 = .ok (.ireturn, 1) := by decide +kernel
theorem dX4_lookUp_155 : decode cX4_lookUp 155 = .ok (.aload_n 0, 1) := by decide +kernel
theorem dX4_lookUp_156 : decode cX4_lookUp 156 = .ok (.iload 4, 2) := by decide +kernel
theorem dX4_lookUp_158 : decode cX4_lookUp 158 = .ok (.iconst 4, 1) := by decide +kernel
theorem dX4_lookUp_159 : decode cX4_lookUp 159 = .ok (.idiv, 1) := by decide +kernel
theorem dX4_lookUp_160 : decode cX4_lookUp 160 = .ok (.putfield 68, 3) := by decide +kernel
theorem dX4_lookUp_163 : decode cX4_lookUp 163 = .ok (.iconst (-1), 1) := by decide +kernel
theorem dX4_lookUp_164 : decode cX4_lookUp 164 = .ok (.ireturn, 1) := by decide +kernel
set_option maxRecDepth 20000 in
theorem ggX4_map_X4_pairOf : GoodIn wsX4_map wsX4_pairOf := goodIn_r _ [7] (by decide +kernel) (by decide +kernel)
set_option maxRecDepth 20000 in
theorem gX4_map_X4_pairOf : GoodIn wsX4_map (va_wsS RX4 75 yX4_pairOf wsX4_pairOf) := goodIn_app (goodIn_of _ (by decide +kernel)) ggX4_map_X4_pairOf
set_option maxRecDepth 20000 in
theorem ggX4_map_X4_fits : GoodIn wsX4_map wsX4_fits := goodIn_r _ [11, 12, 13, 14, 15, 26, 27, 28, 29, 30, 31, 32, 33, 34, 35, 36, 37, 38, 39, 40, 41, 42, 43, 44, 45] (by decide +kernel) (by decide +kernel)
set_option maxRecDepth 20000 in
theorem gX4_map_X4_fits : GoodIn wsX4_map (wsV RX4 79 RX4 yX4_fits wsX4_fits) := goodIn_app (goodIn_of _ (by decide +kernel)) ggX4_map_X4_fits
set_option maxRecDepth 20000 in
theorem ggX4_map_X4_with : GoodIn wsX4_map wsX4_with := goodIn_r _ [19, 20, 21, 26, 27, 28, 29, 30, 31, 32, 33, 34, 35, 36, 37, 38, 39, 40, 41, 42, 43, 44, 45] (by decide +kernel) (by decide +kernel)
set_option maxRecDepth 20000 in
theorem gX4_map_X4_with : GoodIn wsX4_map (wsV RX4 55 RX4 yX4_with wsX4_with) := goodIn_app (goodIn_of _ (by decide +kernel)) ggX4_map_X4_with
set_option maxRecDepth 20000 in
theorem ggX4_map_X4_user : GoodIn wsX4_map wsX4_user := goodIn_r _ [25, 1, 26, 27, 28, 29, 30, 31, 32, 33, 34, 35, 36, 37, 38, 39, 40, 41, 42, 43, 44, 45] (by decide +kernel) (by decide +kernel)
set_option maxRecDepth 20000 in
theorem gX4_map_X4_user : GoodIn wsX4_map (wsV RX4 59 RX4 yX4_user wsX4_user) := goodIn_app (goodIn_of _ (by decide +kernel)) ggX4_map_X4_user
theorem dX4_map_0 : decode cX4_map 0 = .ok (.iconst (-1), 1) := by decide +kernel
theorem dX4_map_1 : decode cX4_map 1 = .ok (.istore_n 3, 1) := by decide +kernel
theorem dX4_map_2 : decode cX4_map 2 = .ok (.iconst 0, 1) := by decide +kernel
theorem dX4_map_3 : decode cX4_map 3 = .ok (.istore 4, 2) := by decide +kernel
theorem dX4_map_5 : decode cX4_map 5 = .ok (.iconst 0, 1) := by decide +kernel
theorem dX4_map_6 : decode cX4_map 6 = .ok (.istore 5, 2) := by decide +kernel
theorem dX4_map_8 : decode cX4_map 8 = .ok (.iload 5, 2) := by decide +kernel
theorem dX4_map_10 : decode cX4_map 10 = .ok (.iconst 4, 1) := by decide +kernel
theorem dX4_map_11 : decode cX4_map 11 = .ok (.if_icmp .ge 56, 3) := by decide +kernel
theorem dX4_map_14 : decode cX4_map 14 = .ok (.aload_n 0, 1) := by decide +kernel
theorem dX4_map_15 : decode cX4_map 15 = .ok (.iload 5, 2) := by decide +kernel
theorem dX4_map_17 : decode cX4_map 17 = .ok (.iload_n 1, 1) := by decide +kernel
theorem dX4_map_18 : decode cX4_map 18 = .ok (.invokestatic 75, 3) := by decide +kernel
theorem dX4_map_21 : decode cX4_map 21 = .ok (.aload_n 0, 1) := by decide +kernel
theorem dX4_map_22 : decode cX4_map 22 = .ok (.getfield 16, 3) := by decide +kernel
theorem dX4_map_25 : decode cX4_map 25 = .ok (.bipush 11, 2) := by decide +kernel
theorem dX4_map_27 : decode cX4_map 27 = .ok (.iaload, 1) := by decide +kernel
theorem dX4_map_28 : decode cX4_map 28 = .ok (.invokevirtual 79, 3) := by decide +kernel
theorem dX4_map_31 : decode cX4_map 31 = .ok (.istore 6, 2) := by decide +kernel
theorem dX4_map_33 : decode cX4_map 33 = .ok (.iload 6, 2) := by decide +kernel
theorem dX4_map_35 : decode cX4_map 35 = .ok (.ifCond .eq 8, 3) := by decide +kernel
theorem dX4_map_38 : decode cX4_map 38 = .ok (.iload 5, 2) := by decide +kernel
theorem dX4_map_40 : decode cX4_map 40 = .ok (.goto 4, 3) := by decide +kernel
theorem dX4_map_43 : decode cX4_map 43 = .ok (.iload_n 3, 1) := by decide +kernel
theorem dX4_map_44 : decode cX4_map 44 = .ok (.istore_n 3, 1) := by decide +kernel
theorem dX4_map_45 : decode cX4_map 45 = .ok (.iload 6, 2) := by decide +kernel
theorem dX4_map_47 : decode cX4_map 47 = .ok (.ifCond .eq 10, 3) := by decide +kernel
theorem dX4_map_50 : decode cX4_map 50 = .ok (.iload 4, 2) := by decide +kernel
theorem dX4_map_52 : decode cX4_map 52 = .ok (.iconst 1, 1) := by decide +kernel
theorem dX4_map_53 : decode cX4_map 53 = .ok (.iadd, 1) := by decide +kernel
theorem dX4_map_54 : decode cX4_map 54 = .ok (.goto 5, 3) := by decide +kernel
theorem dX4_map_57 : decode cX4_map 57 = .ok (.iload 4, 2) := by decide +kernel
theorem dX4_map_59 : decode cX4_map 59 = .ok (.istore 4, 2) := by decide +kernel
theorem dX4_map_61 : decode cX4_map 61 = .ok (.iinc 5 1, 3) := by decide +kernel
theorem dX4_map_64 : decode cX4_map 64 = .ok (.goto (-56), 3) := by decide +kernel
theorem dX4_map_67 : decode cX4_map 67 = .ok (.iload 4, 2) := by decide +kernel
theorem dX4_map_69 : decode cX4_map 69 = .ok (.iconst 1, 1) := by decide +kernel
theorem dX4_map_70 : decode cX4_map 70 = .ok (.if_icmp .le 6, 3) := by decide +kernel
theorem dX4_map_73 : decode cX4_map 73 = .ok (.bipush (-2), 2) := by decide +kernel
theorem dX4_map_75 : decode cX4_map 75 = .ok (.ireturn, 1) := by decide +kernel
theorem dX4_map_76 : decode cX4_map 76 = .ok (.iload 4, 2) := by decide +kernel
theorem dX4_map_78 : decode cX4_map 78 = .ok (.ifCond .ne 12, 3) := by decide +kernel
theorem dX4_map_81 : decode cX4_map 81 = .ok (.aload_n 0, 1) := by decide +kernel
theorem dX4_map_82 : decode cX4_map 82 = .ok (.bipush 63, 2) := by decide +kernel
theorem dX4_map_84 : decode cX4_map 84 = .ok (.iload_n 1, 1) := by decide +kernel
theorem dX4_map_85 : decode cX4_map 85 = .ok (.iconst 2, 1) := by decide +kernel
theorem dX4_map_86 : decode cX4_map 86 = .ok (.invokevirtual 55, 3) := by decide +kernel
theorem dX4_map_89 : decode cX4_map 89 = .ok (.ireturn, 1) := by decide +kernel
theorem dX4_map_90 : decode cX4_map 90 = .ok (.aload_n 0, 1) := by decide +kernel
theorem dX4_map_91 : decode cX4_map 91 = .ok (.getfield 38, 3) := by decide +kernel
theorem dX4_map_94 : decode cX4_map 94 = .ok (.iconst 2, 1) := by decide +kernel
theorem dX4_map_95 : decode cX4_map 95 = .ok (.iload_n 3, 1) := by decide +kernel
theorem dX4_map_96 : decode cX4_map 96 = .ok (.imul, 1) := by decide +kernel
theorem dX4_map_97 : decode cX4_map 97 = .ok (.iload_n 1, 1) := by decide +kernel
theorem dX4_map_98 : decode cX4_map 98 = .ok (.bipush 6, 2) := by decide +kernel
theorem dX4_map_100 : decode cX4_map 100 = .ok (.ishr, 1) := by decide +kernel
theorem dX4_map_101 : decode cX4_map 101 = .ok (.iconst 1, 1) := by decide +kernel
theorem dX4_map_102 : decode cX4_map 102 = .ok (.iand, 1) := by decide +kernel
theorem dX4_map_103 : decode cX4_map 103 = .ok (.iadd, 1) := by decide +kernel
theorem dX4_map_104 : decode cX4_map 104 = .ok (.iaload, 1) := by decide +kernel
theorem dX4_map_105 : decode cX4_map 105 = .ok (.istore 5, 2) := by decide +kernel
theorem dX4_map_107 : decode cX4_map 107 = .ok (.iload 5, 2) := by decide +kernel
theorem dX4_map_109 : decode cX4_map 109 = .ok (.iconst 1, 1) := by decide +kernel
theorem dX4_map_110 : decode cX4_map 110 = .ok (.iand, 1) := by decide +kernel
theorem dX4_map_111 : decode cX4_map 111 = .ok (.ifCond .ne 19, 3) := by decide +kernel
theorem dX4_map_114 : decode cX4_map 114 = .ok (.aload_n 0, 1) := by decide +kernel
theorem dX4_map_115 : decode cX4_map 115 = .ok (.iload_n 2, 1) := by decide +kernel
theorem dX4_map_116 : decode cX4_map 116 = .ok (.ifCond .ne 7, 3) := by decide +kernel
theorem dX4_map_119 : decode cX4_map 119 = .ok (.iconst 3, 1) := by decide +kernel
theorem dX4_map_120 : decode cX4_map 120 = .ok (.goto 4, 3) := by decide +kernel
theorem dX4_map_123 : decode cX4_map 123 = .ok (.iload_n 2, 1) := by decide +kernel
theorem dX4_map_124 : decode cX4_map 124 = .ok (.iload_n 1, 1) := by decide +kernel
theorem dX4_map_125 : decode cX4_map 125 = .ok (.iconst 2, 1) := by decide +kernel
theorem dX4_map_126 : decode cX4_map 126 = .ok (.invokevirtual 55, 3) := by decide +kernel
theorem dX4_map_129 : decode cX4_map 129 = .ok (.ireturn, 1) := by decide +kernel
theorem dX4_map_130 : decode cX4_map 130 = .ok (.aload_n 0, 1) := by decide +kernel
theorem dX4_map_131 : decode cX4_map 131 = .ok (.invokevirtual 59, 3) := by decide +kernel
theorem dX4_map_134 : decode cX4_map 134 = .ok (.ifCond .eq 20, 3) := by decide +kernel
theorem dX4_map_137 : decode cX4_map 137 = .ok (.iload 5, 2) := by decide +kernel
theorem dX4_map_139 : decode cX4_map 139 = .ok (.bipush 12, 2) := by decide +kernel
theorem dX4_map_141 : decode cX4_map 141 = .ok (.iand, 1) := by decide +kernel
theorem dX4_map_142 : decode cX4_map 142 = .ok (.ifCond .ne 12, 3) := by decide +kernel
theorem dX4_map_145 : decode cX4_map 145 = .ok (.aload_n 0, 1) := by decide +kernel
theorem dX4_map_146 : decode cX4_map 146 = .ok (.bipush 7, 2) := by decide +kernel
theorem dX4_map_148 : decode cX4_map 148 = .ok (.iload_n 1, 1) := by decide +kernel
theorem dX4_map_149 : decode cX4_map 149 = .ok (.iconst 2, 1) := by decide +kernel
theorem dX4_map_150 : decode cX4_map 150 = .ok (.invokevirtual 55, 3) := by decide +kernel
theorem dX4_map_153 : decode cX4_map 153 = .ok (.ireturn, 1) := by decide +kernel
theorem dX4_map_154 : decode cX4_map 154 = .ok (.iload_n 2, 1) := by decide +kernel
theorem dX4_map_155 : decode cX4_map 155 = .ok (.iconst 2, 1) := by decide +kernel
theorem dX4_map_156 : decode cX4_map 156 = .ok (.if_icmp .ne 18, 3) := by decide +kernel
theorem dX4_map_159 : decode cX4_map 159 = .ok (.iload 5, 2) := by decide +kernel
theorem dX4_map_161 : decode cX4_map 161 = .ok (.iconst 2, 1) := by decide +kernel
theorem dX4_map_162 : decode cX4_map 162 = .ok (.iand, 1) := by decide +kernel
theorem dX4_map_163 : decode cX4_map 163 = .ok (.ifCond .ne 11, 3) := by decide +kernel
theorem dX4_map_166 : decode cX4_map 166 = .ok (.aload_n 0, 1) := by decide +kernel
theorem dX4_map_167 : decode cX4_map 167 = .ok (.iconst 4, 1) := by decide +kernel
theorem dX4_map_168 : decode cX4_map 168 = .ok (.iload_n 1, 1) := by decide +kernel
theorem dX4_map_169 : decode cX4_map 169 = .ok (.iconst 2, 1) := by decide +kernel
theorem dX4_map_170 : decode cX4_map 170 = .ok (.invokevirtual 55, 3) := by decide +kernel
theorem dX4_map_173 : decode cX4_map 173 = .ok (.ireturn, 1) := by decide +kernel
theorem dX4_map_174 : decode cX4_map 174 = .ok (.aload_n 0, 1) := by decide +kernel
theorem dX4_map_175 : decode cX4_map 175 = .ok (.iload_n 1, 1) := by decide +kernel
theorem dX4_map_176 : decode cX4_map 176 = .ok (.bipush 63, 2) := by decide +kernel
theorem dX4_map_178 : decode cX4_map 178 = .ok (.iand, 1) := by decide +kernel
theorem dX4_map_179 : decode cX4_map 179 = .ok (.bipush 64, 2) := by decide +kernel
theorem dX4_map_181 : decode cX4_map 181 = .ok (.iload 5, 2) := by decide +kernel
theorem dX4_map_183 : decode cX4_map 183 = .ok (.bipush 6, 2) := by decide +kernel
theorem dX4_map_185 : decode cX4_map 185 = .ok (.ishr, 1) := by decide +kernel
theorem dX4_map_186 : decode cX4_map 186 = .ok (.bipush 31, 2) := by decide +kernel
theorem dX4_map_188 : decode cX4_map 188 = .ok (.iand, 1) := by decide +kernel
theorem dX4_map_189 : decode cX4_map 189 = .ok (.imul, 1) := by decide +kernel
theorem dX4_map_190 : decode cX4_map 190 = .ok (.iadd, 1) := by decide +kernel
theorem dX4_map_191 : decode cX4_map 191 = .ok (.putfield 68, 3) := by decide +kernel
theorem dX4_map_194 : decode cX4_map 194 = .ok (.iconst (-1), 1) := by decide +kernel
theorem dX4_map_195 : decode cX4_map 195 = .ok (.ireturn, 1) := by decide +kernel
theorem dX4_write_0 : decode cX4_write 0 = .ok (.iload_n 1, 1) := by decide +kernel
theorem dX4_write_1 : decode cX4_write 1 = .ok (.iconst 3, 1) := by decide +kernel
theorem dX4_write_2 : decode cX4_write 2 = .ok (.if_icmp .ne 37, 3) := by decide +kernel
theorem dX4_write_5 : decode cX4_write 5 = .ok (.aload_n 0, 1) := by decide +kernel
theorem dX4_write_6 : decode cX4_write 6 = .ok (.getfield 16, 3) := by decide +kernel
theorem dX4_write_9 : decode cX4_write 9 = .ok (.iconst 3, 1) := by decide +kernel
theorem dX4_write_10 : decode cX4_write 10 = .ok (.iload_n 2, 1) := by decide +kernel
theorem dX4_write_11 : decode cX4_write 11 = .ok (.iload_n 3, 1) := by decide +kernel
theorem dX4_write_12 : decode cX4_write 12 = .ok (.iand, 1) := by decide +kernel
theorem dX4_write_13 : decode cX4_write 13 = .ok (.bipush 16, 2) := by decide +kernel
theorem dX4_write_15 : decode cX4_write 15 = .ok (.iand, 1) := by decide +kernel
theorem dX4_write_16 : decode cX4_write 16 = .ok (.ifCond .eq 15, 3) := by decide +kernel
theorem dX4_write_19 : decode cX4_write 19 = .ok (.aload_n 0, 1) := by decide +kernel
theorem dX4_write_20 : decode cX4_write 20 = .ok (.getfield 16, 3) := by decide +kernel
theorem dX4_write_23 : decode cX4_write 23 = .ok (.iconst 3, 1) := by decide +kernel
theorem dX4_write_24 : decode cX4_write 24 = .ok (.iaload, 1) := by decide +kernel
theorem dX4_write_25 : decode cX4_write 25 = .ok (.bipush (-17), 2) := by decide +kernel
theorem dX4_write_27 : decode cX4_write 27 = .ok (.iand, 1) := by decide +kernel
theorem dX4_write_28 : decode cX4_write 28 = .ok (.goto 9, 3) := by decide +kernel
theorem dX4_write_31 : decode cX4_write 31 = .ok (.aload_n 0, 1) := by decide +kernel
theorem dX4_write_32 : decode cX4_write 32 = .ok (.getfield 16, 3) := by decide +kernel
theorem dX4_write_35 : decode cX4_write 35 = .ok (.iconst 3, 1) := by decide +kernel
theorem dX4_write_36 : decode cX4_write 36 = .ok (.iaload, 1) := by decide +kernel
theorem dX4_write_37 : decode cX4_write 37 = .ok (.iastore, 1) := by decide +kernel
theorem dX4_write_38 : decode cX4_write 38 = .ok (.return_, 1) := by decide +kernel
theorem dX4_write_39 : decode cX4_write 39 = .ok (.aload_n 0, 1) := by decide +kernel
theorem dX4_write_40 : decode cX4_write 40 = .ok (.getfield 16, 3) := by decide +kernel
theorem dX4_write_43 : decode cX4_write 43 = .ok (.iload_n 1, 1) := by decide +kernel
theorem dX4_write_44 : decode cX4_write 44 = .ok (.iaload, 1) := by decide +kernel
theorem dX4_write_45 : decode cX4_write 45 = .ok (.iload_n 2, 1) := by decide +kernel
theorem dX4_write_46 : decode cX4_write 46 = .ok (.iconst (-1), 1) := by decide +kernel
theorem dX4_write_47 : decode cX4_write 47 = .ok (.ixor, 1) := by decide +kernel
theorem dX4_write_48 : decode cX4_write 48 = .ok (.iand, 1) := by decide +kernel
theorem dX4_write_49 : decode cX4_write 49 = .ok (.iload_n 3, 1) := by decide +kernel
theorem dX4_write_50 : decode cX4_write 50 = .ok (.iload_n 2, 1) := by decide +kernel
theorem dX4_write_51 : decode cX4_write 51 = .ok (.iand, 1) := by decide +kernel
theorem dX4_write_52 : decode cX4_write 52 = .ok (.ior, 1) := by decide +kernel
theorem dX4_write_53 : decode cX4_write 53 = .ok (.istore 4, 2) := by decide +kernel
theorem dX4_write_55 : decode cX4_write 55 = .ok (.iload_n 1, 1) := by decide +kernel
theorem dX4_write_56 : decode cX4_write 56 = .ok (.iconst 2, 1) := by decide +kernel
theorem dX4_write_57 : decode cX4_write 57 = .ok (.if_icmp .ge 16, 3) := by decide +kernel
theorem dX4_write_60 : decode cX4_write 60 = .ok (.iload 4, 2) := by decide +kernel
theorem dX4_write_62 : decode cX4_write 62 = .ok (.iconst 3, 1) := by decide +kernel
theorem dX4_write_63 : decode cX4_write 63 = .ok (.iand, 1) := by decide +kernel
theorem dX4_write_64 : decode cX4_write 64 = .ok (.ifCond .eq 9, 3) := by decide +kernel
theorem dX4_write_67 : decode cX4_write 67 = .ok (.iload 4, 2) := by decide +kernel
theorem dX4_write_69 : decode cX4_write 69 = .ok (.iconst 3, 1) := by decide +kernel
theorem dX4_write_70 : decode cX4_write 70 = .ok (.ior, 1) := by decide +kernel
theorem dX4_write_71 : decode cX4_write 71 = .ok (.istore 4, 2) := by decide +kernel
theorem dX4_write_73 : decode cX4_write 73 = .ok (.iload_n 1, 1) := by decide +kernel
theorem dX4_write_74 : decode cX4_write 74 = .ok (.bipush 9, 2) := by decide +kernel
theorem dX4_write_76 : decode cX4_write 76 = .ok (.if_icmp .eq 9, 3) := by decide +kernel
theorem dX4_write_79 : decode cX4_write 79 = .ok (.iload_n 1, 1) := by decide +kernel
theorem dX4_write_80 : decode cX4_write 80 = .ok (.bipush 10, 2) := by decide +kernel
theorem dX4_write_82 : decode cX4_write 82 = .ok (.if_icmp .ne 18, 3) := by decide +kernel
theorem dX4_write_85 : decode cX4_write 85 = .ok (.iload 4, 2) := by decide +kernel
theorem dX4_write_87 : decode cX4_write 87 = .ok (.bipush 12, 2) := by decide +kernel
theorem dX4_write_89 : decode cX4_write 89 = .ok (.iand, 1) := by decide +kernel
theorem dX4_write_90 : decode cX4_write 90 = .ok (.ifCond .eq 10, 3) := by decide +kernel
theorem dX4_write_93 : decode cX4_write 93 = .ok (.iload 4, 2) := by decide +kernel
theorem dX4_write_95 : decode cX4_write 95 = .ok (.bipush 12, 2) := by decide +kernel
theorem dX4_write_97 : decode cX4_write 97 = .ok (.ior, 1) := by decide +kernel
theorem dX4_write_98 : decode cX4_write 98 = .ok (.istore 4, 2) := by decide +kernel
theorem dX4_write_100 : decode cX4_write 100 = .ok (.aload_n 0, 1) := by decide +kernel
theorem dX4_write_101 : decode cX4_write 101 = .ok (.getfield 16, 3) := by decide +kernel
theorem dX4_write_104 : decode cX4_write 104 = .ok (.iload_n 1, 1) := by decide +kernel
theorem dX4_write_105 : decode cX4_write 105 = .ok (.aload_n 0, 1) := by decide +kernel
theorem dX4_write_106 : decode cX4_write 106 = .ok (.getfield 16, 3) := by decide +kernel
theorem dX4_write_109 : decode cX4_write 109 = .ok (.iload_n 1, 1) := by decide +kernel
theorem dX4_write_110 : decode cX4_write 110 = .ok (.iaload, 1) := by decide +kernel
theorem dX4_write_111 : decode cX4_write 111 = .ok (.aload_n 0, 1) := by decide +kernel
theorem dX4_write_112 : decode cX4_write 112 = .ok (.getfield 22, 3) := by decide +kernel
theorem dX4_write_115 : decode cX4_write 115 = .ok (.iload_n 1, 1) := by decide +kernel
theorem dX4_write_116 : decode cX4_write 116 = .ok (.iaload, 1) := by decide +kernel
theorem dX4_write_117 : decode cX4_write 117 = .ok (.iconst (-1), 1) := by decide +kernel
theorem dX4_write_118 : decode cX4_write 118 = .ok (.ixor, 1) := by decide +kernel
theorem dX4_write_119 : decode cX4_write 119 = .ok (.iand, 1) := by decide +kernel
theorem dX4_write_120 : decode cX4_write 120 = .ok (.iload 4, 2) := by decide +kernel
theorem dX4_write_122 : decode cX4_write 122 = .ok (.aload_n 0, 1) := by decide +kernel
theorem dX4_write_123 : decode cX4_write 123 = .ok (.getfield 22, 3) := by decide +kernel
theorem dX4_write_126 : decode cX4_write 126 = .ok (.iload_n 1, 1) := by decide +kernel
theorem dX4_write_127 : decode cX4_write 127 = .ok (.iaload, 1) := by decide +kernel
theorem dX4_write_128 : decode cX4_write 128 = .ok (.iand, 1) := by decide +kernel
theorem dX4_write_129 : decode cX4_write 129 = .ok (.ior, 1) := by decide +kernel
theorem dX4_write_130 : decode cX4_write 130 = .ok (.iastore, 1) := by decide +kernel
theorem dX4_write_131 : decode cX4_write 131 = .ok (.iload_n 1, 1) := by decide +kernel
theorem dX4_write_132 : decode cX4_write 132 = .ok (.bipush 14, 2) := by decide +kernel
theorem dX4_write_134 : decode cX4_write 134 = .ok (.if_icmp .ne 20, 3) := by decide +kernel
theorem dX4_write_137 : decode cX4_write 137 = .ok (.aload_n 0, 1) := by decide +kernel
theorem dX4_write_138 : decode cX4_write 138 = .ok (.getfield 16, 3) := by decide +kernel
theorem dX4_write_141 : decode cX4_write 141 = .ok (.bipush 15, 2) := by decide +kernel
theorem dX4_write_143 : decode cX4_write 143 = .ok (.aload_n 0, 1) := by decide +kernel
theorem dX4_write_144 : decode cX4_write 144 = .ok (.getfield 16, 3) := by decide +kernel
theorem dX4_write_147 : decode cX4_write 147 = .ok (.bipush 14, 2) := by decide +kernel
theorem dX4_write_149 : decode cX4_write 149 = .ok (.iaload, 1) := by decide +kernel
theorem dX4_write_150 : decode cX4_write 150 = .ok (.ldc 82, 2) := by decide +kernel
theorem dX4_write_152 : decode cX4_write 152 = .ok (.iand, 1) := by decide +kernel
theorem dX4_write_153 : decode cX4_write 153 = .ok (.iastore, 1) := by decide +kernel
theorem dX4_write_154 : decode cX4_write 154 = .ok (.return_, 1) := by decide +kernel
set_option maxRecDepth 20000 in
theorem ggX4_search_X4_pairOf : GoodIn wsX4_search wsX4_pairOf := goodIn_r _ [6] (by decide +kernel) (by decide +kernel)
set_option maxRecDepth 20000 in
theorem gX4_search_X4_pairOf : GoodIn wsX4_search (va_wsS RX4 75 yX4_pairOf wsX4_pairOf) := goodIn_app (goodIn_of _ (by decide +kernel)) ggX4_search_X4_pairOf
set_option maxRecDepth 20000 in
theorem ggX4_search_X4_fits : GoodIn wsX4_search wsX4_fits := goodIn_r _ [10, 11, 12, 13, 14, 15, 16, 17, 18, 19, 20, 21, 22, 23, 24, 25, 26, 27, 28, 29, 30, 31, 32, 33, 34] (by decide +kernel) (by decide +kernel)
set_option maxRecDepth 20000 in
theorem gX4_search_X4_fits : GoodIn wsX4_search (wsV RX4 79 RX4 yX4_fits wsX4_fits) := goodIn_app (goodIn_of _ (by decide +kernel)) ggX4_search_X4_fits
theorem dX4_search_0 : decode cX4_search 0 = .ok (.iconst (-1), 1) := by decide +kernel
theorem dX4_search_1 : decode cX4_search 1 = .ok (.istore_n 1, 1) := by decide +kernel
theorem dX4_search_2 : decode cX4_search 2 = .ok (.iconst 3, 1) := by decide +kernel
theorem dX4_search_3 : decode cX4_search 3 = .ok (.istore_n 2, 1) := by decide +kernel
theorem dX4_search_4 : decode cX4_search 4 = .ok (.iload_n 2, 1) := by decide +kernel
theorem dX4_search_5 : decode cX4_search 5 = .ok (.ifCond .lt 40, 3) := by decide +kernel
theorem dX4_search_8 : decode cX4_search 8 = .ok (.aload_n 0, 1) := by decide +kernel
theorem dX4_search_9 : decode cX4_search 9 = .ok (.iload_n 2, 1) := by decide +kernel
theorem dX4_search_10 : decode cX4_search 10 = .ok (.aload_n 0, 1) := by decide +kernel
theorem dX4_search_11 : decode cX4_search 11 = .ok (.getfield 16, 3) := by decide +kernel
theorem dX4_search_14 : decode cX4_search 14 = .ok (.bipush 8, 2) := by decide +kernel
theorem dX4_search_16 : decode cX4_search 16 = .ok (.iaload, 1) := by decide +kernel
theorem dX4_search_17 : decode cX4_search 17 = .ok (.invokestatic 75, 3) := by decide +kernel
theorem dX4_search_20 : decode cX4_search 20 = .ok (.aload_n 0, 1) := by decide +kernel
theorem dX4_search_21 : decode cX4_search 21 = .ok (.getfield 16, 3) := by decide +kernel
theorem dX4_search_24 : decode cX4_search 24 = .ok (.bipush 11, 2) := by decide +kernel
theorem dX4_search_26 : decode cX4_search 26 = .ok (.iaload, 1) := by decide +kernel
theorem dX4_search_27 : decode cX4_search 27 = .ok (.invokevirtual 79, 3) := by decide +kernel
theorem dX4_search_30 : decode cX4_search 30 = .ok (.ifCond .eq 7, 3) := by decide +kernel
theorem dX4_search_33 : decode cX4_search 33 = .ok (.iload_n 2, 1) := by decide +kernel
theorem dX4_search_34 : decode cX4_search 34 = .ok (.goto 4, 3) := by decide +kernel
theorem dX4_search_37 : decode cX4_search 37 = .ok (.iload_n 1, 1) := by decide +kernel
theorem dX4_search_38 : decode cX4_search 38 = .ok (.istore_n 1, 1) := by decide +kernel
theorem dX4_search_39 : decode cX4_search 39 = .ok (.iinc 2 (-1), 3) := by decide +kernel
theorem dX4_search_42 : decode cX4_search 42 = .ok (.goto (-38), 3) := by decide +kernel
theorem dX4_search_45 : decode cX4_search 45 = .ok (.aload_n 0, 1) := by decide +kernel
theorem dX4_search_46 : decode cX4_search 46 = .ok (.getfield 16, 3) := by decide +kernel
theorem dX4_search_49 : decode cX4_search 49 = .ok (.bipush 7, 2) := by decide +kernel
theorem dX4_search_51 : decode cX4_search 51 = .ok (.iload_n 1, 1) := by decide +kernel
theorem dX4_search_52 : decode cX4_search 52 = .ok (.iconst (-1), 1) := by decide +kernel
theorem dX4_search_53 : decode cX4_search 53 = .ok (.if_icmp .ne 16, 3) := by decide +kernel
theorem dX4_search_56 : decode cX4_search 56 = .ok (.aload_n 0, 1) := by decide +kernel
theorem dX4_search_57 : decode cX4_search 57 = .ok (.getfield 16, 3) := by decide +kernel
theorem dX4_search_60 : decode cX4_search 60 = .ok (.bipush 7, 2) := by decide +kernel
theorem dX4_search_62 : decode cX4_search 62 = .ok (.iaload, 1) := by decide +kernel
theorem dX4_search_63 : decode cX4_search 63 = .ok (.ldc 83, 2) := by decide +kernel
theorem dX4_search_65 : decode cX4_search 65 = .ok (.ior, 1) := by decide +kernel
theorem dX4_search_66 : decode cX4_search 66 = .ok (.goto 4, 3) := by decide +kernel
theorem dX4_search_69 : decode cX4_search 69 = .ok (.iload_n 1, 1) := by decide +kernel
theorem dX4_search_70 : decode cX4_search 70 = .ok (.iastore, 1) := by decide +kernel
theorem dX4_search_71 : decode cX4_search 71 = .ok (.return_, 1) := by decide +kernel
theorem dX4_read_0 : decode cX4_read 0 = .ok (.aload_n 0, 1) := by decide +kernel
theorem dX4_read_1 : decode cX4_read 1 = .ok (.getfield 29, 3) := by decide +kernel
theorem dX4_read_4 : decode cX4_read 4 = .ok (.iload_n 1, 1) := by decide +kernel
theorem dX4_read_5 : decode cX4_read 5 = .ok (.baload, 1) := by decide +kernel
theorem dX4_read_6 : decode cX4_read 6 = .ok (.ifCond .eq 8, 3) := by decide +kernel
theorem dX4_read_9 : decode cX4_read 9 = .ok (.bipush 16, 2) := by decide +kernel
theorem dX4_read_11 : decode cX4_read 11 = .ok (.goto 4, 3) := by decide +kernel
theorem dX4_read_14 : decode cX4_read 14 = .ok (.iconst 0, 1) := by decide +kernel
theorem dX4_read_15 : decode cX4_read 15 = .ok (.istore_n 2, 1) := by decide +kernel
theorem dX4_read_16 : decode cX4_read 16 = .ok (.aload_n 0, 1) := by decide +kernel
theorem dX4_read_17 : decode cX4_read 17 = .ok (.getfield 16, 3) := by decide +kernel
theorem dX4_read_20 : decode cX4_read 20 = .ok (.bipush 7, 2) := by decide +kernel
theorem dX4_read_22 : decode cX4_read 22 = .ok (.aload_n 0, 1) := by decide +kernel
theorem dX4_read_23 : decode cX4_read 23 = .ok (.getfield 25, 3) := by decide +kernel
theorem dX4_read_26 : decode cX4_read 26 = .ok (.iload_n 1, 1) := by decide +kernel
theorem dX4_read_27 : decode cX4_read 27 = .ok (.baload, 1) := by decide +kernel
theorem dX4_read_28 : decode cX4_read 28 = .ok (.ifCond .eq 7, 3) := by decide +kernel
theorem dX4_read_31 : decode cX4_read 31 = .ok (.iload_n 1, 1) := by decide +kernel
theorem dX4_read_32 : decode cX4_read 32 = .ok (.goto 7, 3) := by decide +kernel
theorem dX4_read_35 : decode cX4_read 35 = .ok (.iload_n 1, 1) := by decide +kernel
theorem dX4_read_36 : decode cX4_read 36 = .ok (.ldc 83, 2) := by decide +kernel
theorem dX4_read_38 : decode cX4_read 38 = .ok (.ior, 1) := by decide +kernel
theorem dX4_read_39 : decode cX4_read 39 = .ok (.iastore, 1) := by decide +kernel
theorem dX4_read_40 : decode cX4_read 40 = .ok (.aload_n 0, 1) := by decide +kernel
theorem dX4_read_41 : decode cX4_read 41 = .ok (.getfield 16, 3) := by decide +kernel
theorem dX4_read_44 : decode cX4_read 44 = .ok (.bipush 8, 2) := by decide +kernel
theorem dX4_read_46 : decode cX4_read 46 = .ok (.aload_n 0, 1) := by decide +kernel
theorem dX4_read_47 : decode cX4_read 47 = .ok (.getfield 25, 3) := by decide +kernel
theorem dX4_read_50 : decode cX4_read 50 = .ok (.iload_n 1, 1) := by decide +kernel
theorem dX4_read_51 : decode cX4_read 51 = .ok (.baload, 1) := by decide +kernel
theorem dX4_read_52 : decode cX4_read 52 = .ok (.ifCond .eq 15, 3) := by decide +kernel
theorem dX4_read_55 : decode cX4_read 55 = .ok (.aload_n 0, 1) := by decide +kernel
theorem dX4_read_56 : decode cX4_read 56 = .ok (.getfield 32, 3) := by decide +kernel
theorem dX4_read_59 : decode cX4_read 59 = .ok (.iload_n 1, 1) := by decide +kernel
theorem dX4_read_60 : decode cX4_read 60 = .ok (.iaload, 1) := by decide +kernel
theorem dX4_read_61 : decode cX4_read 61 = .ok (.bipush 7, 2) := by decide +kernel
theorem dX4_read_63 : decode cX4_read 63 = .ok (.ishl, 1) := by decide +kernel
theorem dX4_read_64 : decode cX4_read 64 = .ok (.goto 4, 3) := by decide +kernel
theorem dX4_read_67 : decode cX4_read 67 = .ok (.iconst 0, 1) := by decide +kernel
theorem dX4_read_68 : decode cX4_read 68 = .ok (.iastore, 1) := by decide +kernel
theorem dX4_read_69 : decode cX4_read 69 = .ok (.aload_n 0, 1) := by decide +kernel
theorem dX4_read_70 : decode cX4_read 70 = .ok (.getfield 16, 3) := by decide +kernel
theorem dX4_read_73 : decode cX4_read 73 = .ok (.bipush 9, 2) := by decide +kernel
theorem dX4_read_75 : decode cX4_read 75 = .ok (.aload_n 0, 1) := by decide +kernel
theorem dX4_read_76 : decode cX4_read 76 = .ok (.getfield 25, 3) := by decide +kernel
theorem dX4_read_79 : decode cX4_read 79 = .ok (.iload_n 1, 1) := by decide +kernel
theorem dX4_read_80 : decode cX4_read 80 = .ok (.baload, 1) := by decide +kernel
theorem dX4_read_81 : decode cX4_read 81 = .ok (.ifCond .eq 16, 3) := by decide +kernel
theorem dX4_read_84 : decode cX4_read 84 = .ok (.aload_n 0, 1) := by decide +kernel
theorem dX4_read_85 : decode cX4_read 85 = .ok (.getfield 38, 3) := by decide +kernel
theorem dX4_read_88 : decode cX4_read 88 = .ok (.iconst 2, 1) := by decide +kernel
theorem dX4_read_89 : decode cX4_read 89 = .ok (.iload_n 1, 1) := by decide +kernel
theorem dX4_read_90 : decode cX4_read 90 = .ok (.imul, 1) := by decide +kernel
theorem dX4_read_91 : decode cX4_read 91 = .ok (.iaload, 1) := by decide +kernel
theorem dX4_read_92 : decode cX4_read 92 = .ok (.iload_n 2, 1) := by decide +kernel
theorem dX4_read_93 : decode cX4_read 93 = .ok (.iadd, 1) := by decide +kernel
theorem dX4_read_94 : decode cX4_read 94 = .ok (.goto 4, 3) := by decide +kernel
theorem dX4_read_97 : decode cX4_read 97 = .ok (.iconst 0, 1) := by decide +kernel
theorem dX4_read_98 : decode cX4_read 98 = .ok (.iastore, 1) := by decide +kernel
theorem dX4_read_99 : decode cX4_read 99 = .ok (.aload_n 0, 1) := by decide +kernel
theorem dX4_read_100 : decode cX4_read 100 = .ok (.getfield 16, 3) := by decide +kernel
theorem dX4_read_103 : decode cX4_read 103 = .ok (.bipush 10, 2) := by decide +kernel
theorem dX4_read_105 : decode cX4_read 105 = .ok (.aload_n 0, 1) := by decide +kernel
theorem dX4_read_106 : decode cX4_read 106 = .ok (.getfield 25, 3) := by decide +kernel
theorem dX4_read_109 : decode cX4_read 109 = .ok (.iload_n 1, 1) := by decide +kernel
theorem dX4_read_110 : decode cX4_read 110 = .ok (.baload, 1) := by decide +kernel
theorem dX4_read_111 : decode cX4_read 111 = .ok (.ifCond .eq 18, 3) := by decide +kernel
theorem dX4_read_114 : decode cX4_read 114 = .ok (.aload_n 0, 1) := by decide +kernel
theorem dX4_read_115 : decode cX4_read 115 = .ok (.getfield 38, 3) := by decide +kernel
theorem dX4_read_118 : decode cX4_read 118 = .ok (.iconst 2, 1) := by decide +kernel
theorem dX4_read_119 : decode cX4_read 119 = .ok (.iload_n 1, 1) := by decide +kernel
theorem dX4_read_120 : decode cX4_read 120 = .ok (.imul, 1) := by decide +kernel
theorem dX4_read_121 : decode cX4_read 121 = .ok (.iconst 1, 1) := by decide +kernel
theorem dX4_read_122 : decode cX4_read 122 = .ok (.iadd, 1) := by decide +kernel
theorem dX4_read_123 : decode cX4_read 123 = .ok (.iaload, 1) := by decide +kernel
theorem dX4_read_124 : decode cX4_read 124 = .ok (.iload_n 2, 1) := by decide +kernel
theorem dX4_read_125 : decode cX4_read 125 = .ok (.iadd, 1) := by decide +kernel
theorem dX4_read_126 : decode cX4_read 126 = .ok (.goto 4, 3) := by decide +kernel
theorem dX4_read_129 : decode cX4_read 129 = .ok (.iconst 0, 1) := by decide +kernel
theorem dX4_read_130 : decode cX4_read 130 = .ok (.iastore, 1) := by decide +kernel
theorem dX4_read_131 : decode cX4_read 131 = .ok (.aload_n 0, 1) := by decide +kernel
theorem dX4_read_132 : decode cX4_read 132 = .ok (.getfield 16, 3) := by decide +kernel
theorem dX4_read_135 : decode cX4_read 135 = .ok (.bipush 11, 2) := by decide +kernel
theorem dX4_read_137 : decode cX4_read 137 = .ok (.aload_n 0, 1) := by decide +kernel
theorem dX4_read_138 : decode cX4_read 138 = .ok (.getfield 25, 3) := by decide +kernel
theorem dX4_read_141 : decode cX4_read 141 = .ok (.iload_n 1, 1) := by decide +kernel
theorem dX4_read_142 : decode cX4_read 142 = .ok (.baload, 1) := by decide +kernel
theorem dX4_read_143 : decode cX4_read 143 = .ok (.ifCond .eq 12, 3) := by decide +kernel
theorem dX4_read_146 : decode cX4_read 146 = .ok (.aload_n 0, 1) := by decide +kernel
theorem dX4_read_147 : decode cX4_read 147 = .ok (.getfield 35, 3) := by decide +kernel
theorem dX4_read_150 : decode cX4_read 150 = .ok (.iload_n 1, 1) := by decide +kernel
theorem dX4_read_151 : decode cX4_read 151 = .ok (.iaload, 1) := by decide +kernel
theorem dX4_read_152 : decode cX4_read 152 = .ok (.goto 10, 3) := by decide +kernel
theorem dX4_read_155 : decode cX4_read 155 = .ok (.aload_n 0, 1) := by decide +kernel
theorem dX4_read_156 : decode cX4_read 156 = .ok (.getfield 16, 3) := by decide +kernel
theorem dX4_read_159 : decode cX4_read 159 = .ok (.bipush 11, 2) := by decide +kernel
theorem dX4_read_161 : decode cX4_read 161 = .ok (.iaload, 1) := by decide +kernel
theorem dX4_read_162 : decode cX4_read 162 = .ok (.iastore, 1) := by decide +kernel
theorem dX4_read_163 : decode cX4_read 163 = .ok (.return_, 1) := by decide +kernel
set_option maxRecDepth 20000 in
theorem ggX4_fill_X4_pairOf : GoodIn wsX4_fill wsX4_pairOf := goodIn_r _ [10] (by decide +kernel) (by decide +kernel)
set_option maxRecDepth 20000 in
theorem gX4_fill_X4_pairOf : GoodIn wsX4_fill (va_wsS RX4 75 yX4_pairOf wsX4_pairOf) := goodIn_app (goodIn_of _ (by decide +kernel)) ggX4_fill_X4_pairOf
set_option maxRecDepth 20000 in
theorem ggX4_fill_X4_codeOf : GoodIn wsX4_fill wsX4_codeOf := goodIn_r _ [14, 2, 15, 16, 17, 18, 19, 20, 21, 22, 23, 24, 25, 26, 27, 28, 29, 30, 31, 32, 33, 34] (by decide +kernel) (by decide +kernel)
set_option maxRecDepth 20000 in
theorem gX4_fill_X4_codeOf : GoodIn wsX4_fill (wsV RX4 84 RX4 yX4_codeOf wsX4_codeOf) := goodIn_app (goodIn_of _ (by decide +kernel)) ggX4_fill_X4_codeOf
theorem dX4_fill_0 : decode cX4_fill 0 = .ok (.aload_n 0, 1) := by decide +kernel
theorem dX4_fill_1 : decode cX4_fill 1 = .ok (.getfield 32, 3) := by decide +kernel
theorem dX4_fill_4 : decode cX4_fill 4 = .ok (.iload_n 1, 1) := by decide +kernel
theorem dX4_fill_5 : decode cX4_fill 5 = .ok (.aload_n 0, 1) := by decide +kernel
theorem dX4_fill_6 : decode cX4_fill 6 = .ok (.getfield 16, 3) := by decide +kernel
theorem dX4_fill_9 : decode cX4_fill 9 = .ok (.bipush 8, 2) := by decide +kernel
theorem dX4_fill_11 : decode cX4_fill 11 = .ok (.iaload, 1) := by decide +kernel
theorem dX4_fill_12 : decode cX4_fill 12 = .ok (.invokestatic 75, 3) := by decide +kernel
theorem dX4_fill_15 : decode cX4_fill 15 = .ok (.iastore, 1) := by decide +kernel
theorem dX4_fill_16 : decode cX4_fill 16 = .ok (.aload_n 0, 1) := by decide +kernel
theorem dX4_fill_17 : decode cX4_fill 17 = .ok (.getfield 35, 3) := by decide +kernel
theorem dX4_fill_20 : decode cX4_fill 20 = .ok (.iload_n 1, 1) := by decide +kernel
theorem dX4_fill_21 : decode cX4_fill 21 = .ok (.aload_n 0, 1) := by decide +kernel
theorem dX4_fill_22 : decode cX4_fill 22 = .ok (.getfield 16, 3) := by decide +kernel
theorem dX4_fill_25 : decode cX4_fill 25 = .ok (.bipush 11, 2) := by decide +kernel
theorem dX4_fill_27 : decode cX4_fill 27 = .ok (.iaload, 1) := by decide +kernel
theorem dX4_fill_28 : decode cX4_fill 28 = .ok (.iastore, 1) := by decide +kernel
theorem dX4_fill_29 : decode cX4_fill 29 = .ok (.aload_n 0, 1) := by decide +kernel
theorem dX4_fill_30 : decode cX4_fill 30 = .ok (.getfield 29, 3) := by decide +kernel
theorem dX4_fill_33 : decode cX4_fill 33 = .ok (.iload_n 1, 1) := by decide +kernel
theorem dX4_fill_34 : decode cX4_fill 34 = .ok (.aload_n 0, 1) := by decide +kernel
theorem dX4_fill_35 : decode cX4_fill 35 = .ok (.getfield 16, 3) := by decide +kernel
theorem dX4_fill_38 : decode cX4_fill 38 = .ok (.bipush 9, 2) := by decide +kernel
theorem dX4_fill_40 : decode cX4_fill 40 = .ok (.iaload, 1) := by decide +kernel
theorem dX4_fill_41 : decode cX4_fill 41 = .ok (.bipush 16, 2) := by decide +kernel
theorem dX4_fill_43 : decode cX4_fill 43 = .ok (.iand, 1) := by decide +kernel
theorem dX4_fill_44 : decode cX4_fill 44 = .ok (.ifCond .eq 20, 3) := by decide +kernel
theorem dX4_fill_47 : decode cX4_fill 47 = .ok (.aload_n 0, 1) := by decide +kernel
theorem dX4_fill_48 : decode cX4_fill 48 = .ok (.getfield 16, 3) := by decide +kernel
theorem dX4_fill_51 : decode cX4_fill 51 = .ok (.bipush 10, 2) := by decide +kernel
theorem dX4_fill_53 : decode cX4_fill 53 = .ok (.iaload, 1) := by decide +kernel
theorem dX4_fill_54 : decode cX4_fill 54 = .ok (.bipush 16, 2) := by decide +kernel
theorem dX4_fill_56 : decode cX4_fill 56 = .ok (.iand, 1) := by decide +kernel
theorem dX4_fill_57 : decode cX4_fill 57 = .ok (.ifCond .eq 7, 3) := by decide +kernel
theorem dX4_fill_60 : decode cX4_fill 60 = .ok (.iconst 1, 1) := by decide +kernel
theorem dX4_fill_61 : decode cX4_fill 61 = .ok (.goto 4, 3) := by decide +kernel
theorem dX4_fill_64 : decode cX4_fill 64 = .ok (.iconst 0, 1) := by decide +kernel
theorem dX4_fill_65 : decode cX4_fill 65 = .ok (.bastore, 1) := by decide +kernel
theorem dX4_fill_66 : decode cX4_fill 66 = .ok (.aload_n 0, 1) := by decide +kernel
theorem dX4_fill_67 : decode cX4_fill 67 = .ok (.getfield 38, 3) := by decide +kernel
theorem dX4_fill_70 : decode cX4_fill 70 = .ok (.iconst 2, 1) := by decide +kernel
theorem dX4_fill_71 : decode cX4_fill 71 = .ok (.iload_n 1, 1) := by decide +kernel
theorem dX4_fill_72 : decode cX4_fill 72 = .ok (.imul, 1) := by decide +kernel
theorem dX4_fill_73 : decode cX4_fill 73 = .ok (.aload_n 0, 1) := by decide +kernel
theorem dX4_fill_74 : decode cX4_fill 74 = .ok (.getfield 16, 3) := by decide +kernel
theorem dX4_fill_77 : decode cX4_fill 77 = .ok (.bipush 9, 2) := by decide +kernel
theorem dX4_fill_79 : decode cX4_fill 79 = .ok (.iaload, 1) := by decide +kernel
theorem dX4_fill_80 : decode cX4_fill 80 = .ok (.bipush (-17), 2) := by decide +kernel
theorem dX4_fill_82 : decode cX4_fill 82 = .ok (.iand, 1) := by decide +kernel
theorem dX4_fill_83 : decode cX4_fill 83 = .ok (.iastore, 1) := by decide +kernel
theorem dX4_fill_84 : decode cX4_fill 84 = .ok (.aload_n 0, 1) := by decide +kernel
theorem dX4_fill_85 : decode cX4_fill 85 = .ok (.getfield 38, 3) := by decide +kernel
theorem dX4_fill_88 : decode cX4_fill 88 = .ok (.iconst 2, 1) := by decide +kernel
theorem dX4_fill_89 : decode cX4_fill 89 = .ok (.iload_n 1, 1) := by decide +kernel
theorem dX4_fill_90 : decode cX4_fill 90 = .ok (.imul, 1) := by decide +kernel
theorem dX4_fill_91 : decode cX4_fill 91 = .ok (.iconst 1, 1) := by decide +kernel
theorem dX4_fill_92 : decode cX4_fill 92 = .ok (.iadd, 1) := by decide +kernel
theorem dX4_fill_93 : decode cX4_fill 93 = .ok (.aload_n 0, 1) := by decide +kernel
theorem dX4_fill_94 : decode cX4_fill 94 = .ok (.getfield 16, 3) := by decide +kernel
theorem dX4_fill_97 : decode cX4_fill 97 = .ok (.bipush 10, 2) := by decide +kernel
theorem dX4_fill_99 : decode cX4_fill 99 = .ok (.iaload, 1) := by decide +kernel
theorem dX4_fill_100 : decode cX4_fill 100 = .ok (.bipush (-17), 2) := by decide +kernel
theorem dX4_fill_102 : decode cX4_fill 102 = .ok (.iand, 1) := by decide +kernel
theorem dX4_fill_103 : decode cX4_fill 103 = .ok (.iastore, 1) := by decide +kernel
theorem dX4_fill_104 : decode cX4_fill 104 = .ok (.aload_n 0, 1) := by decide +kernel
theorem dX4_fill_105 : decode cX4_fill 105 = .ok (.getfield 25, 3) := by decide +kernel
theorem dX4_fill_108 : decode cX4_fill 108 = .ok (.iload_n 1, 1) := by decide +kernel
theorem dX4_fill_109 : decode cX4_fill 109 = .ok (.aload_n 0, 1) := by decide +kernel
theorem dX4_fill_110 : decode cX4_fill 110 = .ok (.getfield 16, 3) := by decide +kernel
theorem dX4_fill_113 : decode cX4_fill 113 = .ok (.bipush 7, 2) := by decide +kernel
theorem dX4_fill_115 : decode cX4_fill 115 = .ok (.iaload, 1) := by decide +kernel
theorem dX4_fill_116 : decode cX4_fill 116 = .ok (.ifCond .ge 12, 3) := by decide +kernel
theorem dX4_fill_119 : decode cX4_fill 119 = .ok (.aload_n 0, 1) := by decide +kernel
theorem dX4_fill_120 : decode cX4_fill 120 = .ok (.invokevirtual 84, 3) := by decide +kernel
theorem dX4_fill_123 : decode cX4_fill 123 = .ok (.bipush 63, 2) := by decide +kernel
theorem dX4_fill_125 : decode cX4_fill 125 = .ok (.if_icmp .ne 7, 3) := by decide +kernel
theorem dX4_fill_128 : decode cX4_fill 128 = .ok (.iconst 1, 1) := by decide +kernel
theorem dX4_fill_129 : decode cX4_fill 129 = .ok (.goto 4, 3) := by decide +kernel
theorem dX4_fill_132 : decode cX4_fill 132 = .ok (.iconst 0, 1) := by decide +kernel
theorem dX4_fill_133 : decode cX4_fill 133 = .ok (.bastore, 1) := by decide +kernel
theorem dX4_fill_134 : decode cX4_fill 134 = .ok (.return_, 1) := by decide +kernel
set_option maxRecDepth 20000 in
theorem ggX4_empty_X4_with : GoodIn wsX4_empty wsX4_with := goodIn_r _ [9, 10, 11, 15, 16, 17, 18, 19, 20, 21, 22, 23, 24, 25, 26, 27, 28, 29, 30, 31, 32, 33, 34] (by decide +kernel) (by decide +kernel)
set_option maxRecDepth 20000 in
theorem gX4_empty_X4_with : GoodIn wsX4_empty (wsV RX4 55 RX4 yX4_with wsX4_with) := goodIn_app (goodIn_of _ (by decide +kernel)) ggX4_empty_X4_with
set_option maxRecDepth 20000 in
theorem ggX4_empty_X4_pairOf : GoodIn wsX4_empty wsX4_pairOf := goodIn_r _ [14] (by decide +kernel) (by decide +kernel)
set_option maxRecDepth 20000 in
theorem gX4_empty_X4_pairOf : GoodIn wsX4_empty (va_wsS RX4 75 yX4_pairOf wsX4_pairOf) := goodIn_app (goodIn_of _ (by decide +kernel)) ggX4_empty_X4_pairOf
theorem dX4_empty_0 : decode cX4_empty 0 = .ok (.iload_n 1, 1) := by decide +kernel
theorem dX4_empty_1 : decode cX4_empty 1 = .ok (.iconst 4, 1) := by decide +kernel
theorem dX4_empty_2 : decode cX4_empty 2 = .ok (.if_icmp .le 12, 3) := by decide +kernel
theorem dX4_empty_5 : decode cX4_empty 5 = .ok (.aload_n 0, 1) := by decide +kernel
theorem dX4_empty_6 : decode cX4_empty 6 = .ok (.bipush 13, 2) := by decide +kernel
theorem dX4_empty_8 : decode cX4_empty 8 = .ok (.iconst 0, 1) := by decide +kernel
theorem dX4_empty_9 : decode cX4_empty 9 = .ok (.iconst 0, 1) := by decide +kernel
theorem dX4_empty_10 : decode cX4_empty 10 = .ok (.invokevirtual 55, 3) := by decide +kernel
theorem dX4_empty_13 : decode cX4_empty 13 = .ok (.ireturn, 1) := by decide +kernel
theorem dX4_empty_14 : decode cX4_empty 14 = .ok (.iconst 0, 1) := by decide +kernel
theorem dX4_empty_15 : decode cX4_empty 15 = .ok (.istore 4, 2) := by decide +kernel
theorem dX4_empty_17 : decode cX4_empty 17 = .ok (.iload 4, 2) := by decide +kernel
theorem dX4_empty_19 : decode cX4_empty 19 = .ok (.iconst 4, 1) := by decide +kernel
theorem dX4_empty_20 : decode cX4_empty 20 = .ok (.if_icmp .ge 115, 3) := by decide +kernel
theorem dX4_empty_23 : decode cX4_empty 23 = .ok (.iload_n 1, 1) := by decide +kernel
theorem dX4_empty_24 : decode cX4_empty 24 = .ok (.ifCond .eq 23, 3) := by decide +kernel
theorem dX4_empty_27 : decode cX4_empty 27 = .ok (.aload_n 0, 1) := by decide +kernel
theorem dX4_empty_28 : decode cX4_empty 28 = .ok (.getfield 29, 3) := by decide +kernel
theorem dX4_empty_31 : decode cX4_empty 31 = .ok (.iload 4, 2) := by decide +kernel
theorem dX4_empty_33 : decode cX4_empty 33 = .ok (.baload, 1) := by decide +kernel
theorem dX4_empty_34 : decode cX4_empty 34 = .ok (.iload_n 1, 1) := by decide +kernel
theorem dX4_empty_35 : decode cX4_empty 35 = .ok (.iconst 1, 1) := by decide +kernel
theorem dX4_empty_36 : decode cX4_empty 36 = .ok (.if_icmp .ne 7, 3) := by decide +kernel
theorem dX4_empty_39 : decode cX4_empty 39 = .ok (.iconst 1, 1) := by decide +kernel
theorem dX4_empty_40 : decode cX4_empty 40 = .ok (.goto 4, 3) := by decide +kernel
theorem dX4_empty_43 : decode cX4_empty 43 = .ok (.iconst 0, 1) := by decide +kernel
theorem dX4_empty_44 : decode cX4_empty 44 = .ok (.if_icmp .ne 7, 3) := by decide +kernel
theorem dX4_empty_47 : decode cX4_empty 47 = .ok (.iconst 1, 1) := by decide +kernel
theorem dX4_empty_48 : decode cX4_empty 48 = .ok (.goto 4, 3) := by decide +kernel
theorem dX4_empty_51 : decode cX4_empty 51 = .ok (.iconst 0, 1) := by decide +kernel
theorem dX4_empty_52 : decode cX4_empty 52 = .ok (.istore 5, 2) := by decide +kernel
theorem dX4_empty_54 : decode cX4_empty 54 = .ok (.iload_n 1, 1) := by decide +kernel
theorem dX4_empty_55 : decode cX4_empty 55 = .ok (.iconst 2, 1) := by decide +kernel
theorem dX4_empty_56 : decode cX4_empty 56 = .ok (.if_icmp .le 29, 3) := by decide +kernel
theorem dX4_empty_59 : decode cX4_empty 59 = .ok (.iload 5, 2) := by decide +kernel
theorem dX4_empty_61 : decode cX4_empty 61 = .ok (.ifCond .eq 21, 3) := by decide +kernel
theorem dX4_empty_64 : decode cX4_empty 64 = .ok (.aload_n 0, 1) := by decide +kernel
theorem dX4_empty_65 : decode cX4_empty 65 = .ok (.getfield 35, 3) := by decide +kernel
theorem dX4_empty_68 : decode cX4_empty 68 = .ok (.iload 4, 2) := by decide +kernel
theorem dX4_empty_70 : decode cX4_empty 70 = .ok (.iaload, 1) := by decide +kernel
theorem dX4_empty_71 : decode cX4_empty 71 = .ok (.iload_n 2, 1) := by decide +kernel
theorem dX4_empty_72 : decode cX4_empty 72 = .ok (.bipush 15, 2) := by decide +kernel
theorem dX4_empty_74 : decode cX4_empty 74 = .ok (.iand, 1) := by decide +kernel
theorem dX4_empty_75 : decode cX4_empty 75 = .ok (.if_icmp .ne 7, 3) := by decide +kernel
theorem dX4_empty_78 : decode cX4_empty 78 = .ok (.iconst 1, 1) := by decide +kernel
theorem dX4_empty_79 : decode cX4_empty 79 = .ok (.goto 4, 3) := by decide +kernel
theorem dX4_empty_82 : decode cX4_empty 82 = .ok (.iconst 0, 1) := by decide +kernel
theorem dX4_empty_83 : decode cX4_empty 83 = .ok (.istore 5, 2) := by decide +kernel
theorem dX4_empty_85 : decode cX4_empty 85 = .ok (.iload_n 1, 1) := by decide +kernel
theorem dX4_empty_86 : decode cX4_empty 86 = .ok (.iconst 4, 1) := by decide +kernel
theorem dX4_empty_87 : decode cX4_empty 87 = .ok (.if_icmp .ne 29, 3) := by decide +kernel
theorem dX4_empty_90 : decode cX4_empty 90 = .ok (.iload 5, 2) := by decide +kernel
theorem dX4_empty_92 : decode cX4_empty 92 = .ok (.ifCond .eq 21, 3) := by decide +kernel
theorem dX4_empty_95 : decode cX4_empty 95 = .ok (.aload_n 0, 1) := by decide +kernel
theorem dX4_empty_96 : decode cX4_empty 96 = .ok (.getfield 32, 3) := by decide +kernel
theorem dX4_empty_99 : decode cX4_empty 99 = .ok (.iload 4, 2) := by decide +kernel
theorem dX4_empty_101 : decode cX4_empty 101 = .ok (.iaload, 1) := by decide +kernel
theorem dX4_empty_102 : decode cX4_empty 102 = .ok (.iload_n 3, 1) := by decide +kernel
theorem dX4_empty_103 : decode cX4_empty 103 = .ok (.invokestatic 75, 3) := by decide +kernel
theorem dX4_empty_106 : decode cX4_empty 106 = .ok (.if_icmp .ne 7, 3) := by decide +kernel
theorem dX4_empty_109 : decode cX4_empty 109 = .ok (.iconst 1, 1) := by decide +kernel
theorem dX4_empty_110 : decode cX4_empty 110 = .ok (.goto 4, 3) := by decide +kernel
theorem dX4_empty_113 : decode cX4_empty 113 = .ok (.iconst 0, 1) := by decide +kernel
theorem dX4_empty_114 : decode cX4_empty 114 = .ok (.istore 5, 2) := by decide +kernel
theorem dX4_empty_116 : decode cX4_empty 116 = .ok (.iload 5, 2) := by decide +kernel
theorem dX4_empty_118 : decode cX4_empty 118 = .ok (.ifCond .eq 11, 3) := by decide +kernel
theorem dX4_empty_121 : decode cX4_empty 121 = .ok (.aload_n 0, 1) := by decide +kernel
theorem dX4_empty_122 : decode cX4_empty 122 = .ok (.getfield 25, 3) := by decide +kernel
theorem dX4_empty_125 : decode cX4_empty 125 = .ok (.iload 4, 2) := by decide +kernel
theorem dX4_empty_127 : decode cX4_empty 127 = .ok (.iconst 0, 1) := by decide +kernel
theorem dX4_empty_128 : decode cX4_empty 128 = .ok (.bastore, 1) := by decide +kernel
theorem dX4_empty_129 : decode cX4_empty 129 = .ok (.iinc 4 1, 3) := by decide +kernel
theorem dX4_empty_132 : decode cX4_empty 132 = .ok (.goto (-115), 3) := by decide +kernel
theorem dX4_empty_135 : decode cX4_empty 135 = .ok (.iconst (-1), 1) := by decide +kernel
theorem dX4_empty_136 : decode cX4_empty 136 = .ok (.ireturn, 1) := by decide +kernel
theorem dX4_put_0 : decode cX4_put 0 = .ok (.iload_n 1, 1) := by decide +kernel
theorem dX4_put_1 : decode cX4_put 1 = .ok (.bipush 8, 2) := by decide +kernel
theorem dX4_put_3 : decode cX4_put 3 = .ok (.irem, 1) := by decide +kernel
theorem dX4_put_4 : decode cX4_put 4 = .ok (.ifCond .eq 13, 3) := by decide +kernel
theorem dX4_put_7 : decode cX4_put 7 = .ok (.aload_n 0, 1) := by decide +kernel
theorem dX4_put_8 : decode cX4_put 8 = .ok (.getfield 13, 3) := by decide +kernel
theorem dX4_put_11 : decode cX4_put 11 = .ok (.iload_n 1, 1) := by decide +kernel
theorem dX4_put_12 : decode cX4_put 12 = .ok (.bipush 8, 2) := by decide +kernel
theorem dX4_put_14 : decode cX4_put 14 = .ok (.irem, 1) := by decide +kernel
theorem dX4_put_15 : decode cX4_put 15 = .ok (.iload_n 2, 1) := by decide +kernel
theorem dX4_put_16 : decode cX4_put 16 = .ok (.iastore, 1) := by decide +kernel
theorem dX4_put_17 : decode cX4_put 17 = .ok (.return_, 1) := by decide +kernel
theorem dX4_reckon_0 : decode cX4_reckon 0 = .ok (.aload_n 0, 1) := by decide +kernel
theorem dX4_reckon_1 : decode cX4_reckon 1 = .ok (.getfield 13, 3) := by decide +kernel
theorem dX4_reckon_4 : decode cX4_reckon 4 = .ok (.iload_n 2, 1) := by decide +kernel
theorem dX4_reckon_5 : decode cX4_reckon 5 = .ok (.bipush 8, 2) := by decide +kernel
theorem dX4_reckon_7 : decode cX4_reckon 7 = .ok (.irem, 1) := by decide +kernel
theorem dX4_reckon_8 : decode cX4_reckon 8 = .ok (.iaload, 1) := by decide +kernel
theorem dX4_reckon_9 : decode cX4_reckon 9 = .ok (.istore 5, 2) := by decide +kernel
theorem dX4_reckon_11 : decode cX4_reckon 11 = .ok (.aload_n 0, 1) := by decide +kernel
theorem dX4_reckon_12 : decode cX4_reckon 12 = .ok (.getfield 13, 3) := by decide +kernel
theorem dX4_reckon_15 : decode cX4_reckon 15 = .ok (.iload_n 3, 1) := by decide +kernel
theorem dX4_reckon_16 : decode cX4_reckon 16 = .ok (.bipush 8, 2) := by decide +kernel
theorem dX4_reckon_18 : decode cX4_reckon 18 = .ok (.irem, 1) := by decide +kernel
theorem dX4_reckon_19 : decode cX4_reckon 19 = .ok (.iaload, 1) := by decide +kernel
theorem dX4_reckon_20 : decode cX4_reckon 20 = .ok (.istore 6, 2) := by decide +kernel
theorem dX4_reckon_22 : decode cX4_reckon 22 = .ok (.iload_n 1, 1) := by decide +kernel
theorem dX4_reckon_23 : decode cX4_reckon 23 = .ok (.tableswitch 80 1 6 #[37, 43, 49, 55, 61, 74], 37) := by decide +kernel
theorem dX4_reckon_60 : decode cX4_reckon 60 = .ok (.iload 5, 2) := by decide +kernel
theorem dX4_reckon_62 : decode cX4_reckon 62 = .ok (.iload 6, 2) := by decide +kernel
theorem dX4_reckon_64 : decode cX4_reckon 64 = .ok (.iadd, 1) := by decide +kernel
theorem dX4_reckon_65 : decode cX4_reckon 65 = .ok (.ireturn, 1) := by decide +kernel
theorem dX4_reckon_66 : decode cX4_reckon 66 = .ok (.iload 5, 2) := by decide +kernel
theorem dX4_reckon_68 : decode cX4_reckon 68 = .ok (.iload 6, 2) := by decide +kernel
theorem dX4_reckon_70 : decode cX4_reckon 70 = .ok (.isub, 1) := by decide +kernel
theorem dX4_reckon_71 : decode cX4_reckon 71 = .ok (.ireturn, 1) := by decide +kernel
theorem dX4_reckon_72 : decode cX4_reckon 72 = .ok (.iload 5, 2) := by decide +kernel
theorem dX4_reckon_74 : decode cX4_reckon 74 = .ok (.iload 6, 2) := by decide +kernel
theorem dX4_reckon_76 : decode cX4_reckon 76 = .ok (.iand, 1) := by decide +kernel
theorem dX4_reckon_77 : decode cX4_reckon 77 = .ok (.ireturn, 1) := by decide +kernel
theorem dX4_reckon_78 : decode cX4_reckon 78 = .ok (.iload 5, 2) := by decide +kernel
theorem dX4_reckon_80 : decode cX4_reckon 80 = .ok (.iload 6, 2) := by decide +kernel
theorem dX4_reckon_82 : decode cX4_reckon 82 = .ok (.ior, 1) := by decide +kernel
end
section
theorem dX4_reckon_83 : decode cX4_reckon 83 = .ok (.ireturn, 1) := by decide +kernel
theorem dX4_reckon_84 : decode cX4_reckon 84 = .ok (.iload 5, 2) := by decide +kernel
theorem dX4_reckon_86 : decode cX4_reckon 86 = .ok (.iload 6, 2) := by decide +kernel
theorem dX4_reckon_88 : decode cX4_reckon 88 = .ok (.if_icmp .ge 7, 3) := by decide +kernel
theorem dX4_reckon_91 : decode cX4_reckon 91 = .ok (.iconst 1, 1) := by decide +kernel
theorem dX4_reckon_92 : decode cX4_reckon 92 = .ok (.goto 4, 3) := by decide +kernel
theorem dX4_reckon_95 : decode cX4_reckon 95 = .ok (.iconst 0, 1) := by decide +kernel
theorem dX4_reckon_96 : decode cX4_reckon 96 = .ok (.ireturn, 1) := by decide +kernel
theorem dX4_reckon_97 : decode cX4_reckon 97 = .ok (.iload 5, 2) := by decide +kernel
theorem dX4_reckon_99 : decode cX4_reckon 99 = .ok (.iload 4, 2) := by decide +kernel
theorem dX4_reckon_101 : decode cX4_reckon 101 = .ok (.iadd, 1) := by decide +kernel
theorem dX4_reckon_102 : decode cX4_reckon 102 = .ok (.ireturn, 1) := by decide +kernel
theorem dX4_reckon_103 : decode cX4_reckon 103 = .ok (.ldc 88, 2) := by decide +kernel
theorem dX4_reckon_105 : decode cX4_reckon 105 = .ok (.iload_n 2, 1) := by decide +kernel
theorem dX4_reckon_106 : decode cX4_reckon 106 = .ok (.imul, 1) := by decide +kernel
theorem dX4_reckon_107 : decode cX4_reckon 107 = .ok (.sipush 256, 3) := by decide +kernel
theorem dX4_reckon_110 : decode cX4_reckon 110 = .ok (.iload_n 3, 1) := by decide +kernel
theorem dX4_reckon_111 : decode cX4_reckon 111 = .ok (.imul, 1) := by decide +kernel
theorem dX4_reckon_112 : decode cX4_reckon 112 = .ok (.iadd, 1) := by decide +kernel
theorem dX4_reckon_113 : decode cX4_reckon 113 = .ok (.ireturn, 1) := by decide +kernel
set_option maxRecDepth 20000 in
theorem ggX4_reach_X4_put : GoodIn wsX4_reach wsX4_put := goodIn_r _ [9, 4, 45, 46, 47, 48, 49, 50, 51, 52, 53, 54, 55, 56, 57, 58, 59, 60, 61, 62, 63, 64] (by decide +kernel) (by decide +kernel)
set_option maxRecDepth 20000 in
theorem gX4_reach_X4_put : GoodIn wsX4_reach (wsV RX4 93 RX4 yX4_put wsX4_put) := goodIn_app (goodIn_of _ (by decide +kernel)) ggX4_reach_X4_put
set_option maxRecDepth 20000 in
theorem ggX4_reach_X4_lookUp : GoodIn wsX4_reach wsX4_lookUp := goodIn_r _ [13, 14, 15, 3, 16, 17, 18, 8, 19, 20, 21, 22, 23, 24, 25, 26, 27, 28, 29, 30, 31, 32, 33, 34, 35, 36, 37, 38, 39, 40, 41, 42, 43, 44, 45, 46, 47, 48, 49, 50, 51, 52, 53, 54, 55, 56, 57, 58, 59, 60, 61, 62, 63, 64] (by decide +kernel) (by decide +kernel)
set_option maxRecDepth 20000 in
theorem gX4_reach_X4_lookUp : GoodIn wsX4_reach (wsV RX4 97 RX4 yX4_lookUp wsX4_lookUp) := goodIn_app (goodIn_of _ (by decide +kernel)) ggX4_reach_X4_lookUp
theorem dX4_reach_0 : decode cX4_reach 0 = .ok (.iload_n 1, 1) := by decide +kernel
theorem dX4_reach_1 : decode cX4_reach 1 = .ok (.bipush 11, 2) := by decide +kernel
theorem dX4_reach_3 : decode cX4_reach 3 = .ok (.if_icmp .ne 18, 3) := by decide +kernel
theorem dX4_reach_6 : decode cX4_reach 6 = .ok (.aload_n 0, 1) := by decide +kernel
theorem dX4_reach_7 : decode cX4_reach 7 = .ok (.getfield 89, 3) := by decide +kernel
theorem dX4_reach_10 : decode cX4_reach 10 = .ok (.ifCond .ne 11, 3) := by decide +kernel
theorem dX4_reach_13 : decode cX4_reach 13 = .ok (.aload_n 0, 1) := by decide +kernel
theorem dX4_reach_14 : decode cX4_reach 14 = .ok (.iload_n 2, 1) := by decide +kernel
theorem dX4_reach_15 : decode cX4_reach 15 = .ok (.iconst 0, 1) := by decide +kernel
theorem dX4_reach_16 : decode cX4_reach 16 = .ok (.invokevirtual 93, 3) := by decide +kernel
theorem dX4_reach_19 : decode cX4_reach 19 = .ok (.iconst (-1), 1) := by decide +kernel
theorem dX4_reach_20 : decode cX4_reach 20 = .ok (.ireturn, 1) := by decide +kernel
theorem dX4_reach_21 : decode cX4_reach 21 = .ok (.iload_n 1, 1) := by decide +kernel
theorem dX4_reach_22 : decode cX4_reach 22 = .ok (.bipush 9, 2) := by decide +kernel
theorem dX4_reach_24 : decode cX4_reach 24 = .ok (.if_icmp .eq 9, 3) := by decide +kernel
theorem dX4_reach_27 : decode cX4_reach 27 = .ok (.iload_n 1, 1) := by decide +kernel
theorem dX4_reach_28 : decode cX4_reach 28 = .ok (.bipush 11, 2) := by decide +kernel
theorem dX4_reach_30 : decode cX4_reach 30 = .ok (.if_icmp .ne 7, 3) := by decide +kernel
theorem dX4_reach_33 : decode cX4_reach 33 = .ok (.iconst 1, 1) := by decide +kernel
theorem dX4_reach_34 : decode cX4_reach 34 = .ok (.goto 4, 3) := by decide +kernel
theorem dX4_reach_37 : decode cX4_reach 37 = .ok (.iconst 0, 1) := by decide +kernel
theorem dX4_reach_38 : decode cX4_reach 38 = .ok (.istore 4, 2) := by decide +kernel
theorem dX4_reach_40 : decode cX4_reach 40 = .ok (.aload_n 0, 1) := by decide +kernel
theorem dX4_reach_41 : decode cX4_reach 41 = .ok (.iload_n 3, 1) := by decide +kernel
theorem dX4_reach_42 : decode cX4_reach 42 = .ok (.iload 4, 2) := by decide +kernel
theorem dX4_reach_44 : decode cX4_reach 44 = .ok (.ifCond .eq 7, 3) := by decide +kernel
theorem dX4_reach_47 : decode cX4_reach 47 = .ok (.iconst 2, 1) := by decide +kernel
theorem dX4_reach_48 : decode cX4_reach 48 = .ok (.goto 4, 3) := by decide +kernel
theorem dX4_reach_51 : decode cX4_reach 51 = .ok (.iconst 1, 1) := by decide +kernel
theorem dX4_reach_52 : decode cX4_reach 52 = .ok (.invokevirtual 97, 3) := by decide +kernel
theorem dX4_reach_55 : decode cX4_reach 55 = .ok (.istore 5, 2) := by decide +kernel
theorem dX4_reach_57 : decode cX4_reach 57 = .ok (.iload 5, 2) := by decide +kernel
theorem dX4_reach_59 : decode cX4_reach 59 = .ok (.iconst (-1), 1) := by decide +kernel
theorem dX4_reach_60 : decode cX4_reach 60 = .ok (.if_icmp .eq 6, 3) := by decide +kernel
theorem dX4_reach_63 : decode cX4_reach 63 = .ok (.iload 5, 2) := by decide +kernel
theorem dX4_reach_65 : decode cX4_reach 65 = .ok (.ireturn, 1) := by decide +kernel
theorem dX4_reach_66 : decode cX4_reach 66 = .ok (.iload 4, 2) := by decide +kernel
theorem dX4_reach_68 : decode cX4_reach 68 = .ok (.ifCond .eq 24, 3) := by decide +kernel
theorem dX4_reach_71 : decode cX4_reach 71 = .ok (.aload_n 0, 1) := by decide +kernel
theorem dX4_reach_72 : decode cX4_reach 72 = .ok (.getfield 7, 3) := by decide +kernel
theorem dX4_reach_75 : decode cX4_reach 75 = .ok (.aload_n 0, 1) := by decide +kernel
theorem dX4_reach_76 : decode cX4_reach 76 = .ok (.getfield 68, 3) := by decide +kernel
theorem dX4_reach_79 : decode cX4_reach 79 = .ok (.aload_n 0, 1) := by decide +kernel
theorem dX4_reach_80 : decode cX4_reach 80 = .ok (.getfield 13, 3) := by decide +kernel
theorem dX4_reach_83 : decode cX4_reach 83 = .ok (.iload_n 2, 1) := by decide +kernel
theorem dX4_reach_84 : decode cX4_reach 84 = .ok (.bipush 8, 2) := by decide +kernel
theorem dX4_reach_86 : decode cX4_reach 86 = .ok (.irem, 1) := by decide +kernel
theorem dX4_reach_87 : decode cX4_reach 87 = .ok (.iaload, 1) := by decide +kernel
theorem dX4_reach_88 : decode cX4_reach 88 = .ok (.iastore, 1) := by decide +kernel
theorem dX4_reach_89 : decode cX4_reach 89 = .ok (.goto 17, 3) := by decide +kernel
theorem dX4_reach_92 : decode cX4_reach 92 = .ok (.aload_n 0, 1) := by decide +kernel
theorem dX4_reach_93 : decode cX4_reach 93 = .ok (.iload_n 2, 1) := by decide +kernel
theorem dX4_reach_94 : decode cX4_reach 94 = .ok (.aload_n 0, 1) := by decide +kernel
theorem dX4_reach_95 : decode cX4_reach 95 = .ok (.getfield 7, 3) := by decide +kernel
theorem dX4_reach_98 : decode cX4_reach 98 = .ok (.aload_n 0, 1) := by decide +kernel
theorem dX4_reach_99 : decode cX4_reach 99 = .ok (.getfield 68, 3) := by decide +kernel
theorem dX4_reach_102 : decode cX4_reach 102 = .ok (.iaload, 1) := by decide +kernel
theorem dX4_reach_103 : decode cX4_reach 103 = .ok (.invokevirtual 93, 3) := by decide +kernel
theorem dX4_reach_106 : decode cX4_reach 106 = .ok (.iload_n 1, 1) := by decide +kernel
theorem dX4_reach_107 : decode cX4_reach 107 = .ok (.bipush 10, 2) := by decide +kernel
theorem dX4_reach_109 : decode cX4_reach 109 = .ok (.if_icmp .ne 8, 3) := by decide +kernel
theorem dX4_reach_112 : decode cX4_reach 112 = .ok (.aload_n 0, 1) := by decide +kernel
theorem dX4_reach_113 : decode cX4_reach 113 = .ok (.iconst 1, 1) := by decide +kernel
theorem dX4_reach_114 : decode cX4_reach 114 = .ok (.putfield 89, 3) := by decide +kernel
theorem dX4_reach_117 : decode cX4_reach 117 = .ok (.iload_n 1, 1) := by decide +kernel
theorem dX4_reach_118 : decode cX4_reach 118 = .ok (.bipush 11, 2) := by decide +kernel
theorem dX4_reach_120 : decode cX4_reach 120 = .ok (.if_icmp .ne 14, 3) := by decide +kernel
theorem dX4_reach_123 : decode cX4_reach 123 = .ok (.aload_n 0, 1) := by decide +kernel
theorem dX4_reach_124 : decode cX4_reach 124 = .ok (.iconst 0, 1) := by decide +kernel
theorem dX4_reach_125 : decode cX4_reach 125 = .ok (.putfield 89, 3) := by decide +kernel
theorem dX4_reach_128 : decode cX4_reach 128 = .ok (.aload_n 0, 1) := by decide +kernel
theorem dX4_reach_129 : decode cX4_reach 129 = .ok (.iload_n 2, 1) := by decide +kernel
theorem dX4_reach_130 : decode cX4_reach 130 = .ok (.iconst 1, 1) := by decide +kernel
theorem dX4_reach_131 : decode cX4_reach 131 = .ok (.invokevirtual 93, 3) := by decide +kernel
theorem dX4_reach_134 : decode cX4_reach 134 = .ok (.iconst (-1), 1) := by decide +kernel
theorem dX4_reach_135 : decode cX4_reach 135 = .ok (.ireturn, 1) := by decide +kernel
set_option maxRecDepth 20000 in
theorem ggX4_go_X4_with : GoodIn wsX4_go wsX4_with := goodIn_r _ [8, 9, 10, 15, 16, 17, 18, 19, 20, 21, 22, 23, 24, 25, 26, 27, 28, 29, 30, 31, 32, 33, 34] (by decide +kernel) (by decide +kernel)
set_option maxRecDepth 20000 in
theorem gX4_go_X4_with : GoodIn wsX4_go (wsV RX4 55 RX4 yX4_with wsX4_with) := goodIn_app (goodIn_of _ (by decide +kernel)) ggX4_go_X4_with
set_option maxRecDepth 20000 in
theorem ggX4_go_X4_put : GoodIn wsX4_go wsX4_put := goodIn_r _ [14, 1, 15, 16, 17, 18, 19, 20, 21, 22, 23, 24, 25, 26, 27, 28, 29, 30, 31, 32, 33, 34] (by decide +kernel) (by decide +kernel)
set_option maxRecDepth 20000 in
theorem gX4_go_X4_put : GoodIn wsX4_go (wsV RX4 93 RX4 yX4_put wsX4_put) := goodIn_app (goodIn_of _ (by decide +kernel)) ggX4_go_X4_put
theorem dX4_go_0 : decode cX4_go 0 = .ok (.aload_n 0, 1) := by decide +kernel
theorem dX4_go_1 : decode cX4_go 1 = .ok (.getfield 13, 3) := by decide +kernel
theorem dX4_go_4 : decode cX4_go 4 = .ok (.iload_n 2, 1) := by decide +kernel
theorem dX4_go_5 : decode cX4_go 5 = .ok (.bipush 8, 2) := by decide +kernel
theorem dX4_go_7 : decode cX4_go 7 = .ok (.irem, 1) := by decide +kernel
theorem dX4_go_8 : decode cX4_go 8 = .ok (.iaload, 1) := by decide +kernel
theorem dX4_go_9 : decode cX4_go 9 = .ok (.istore 5, 2) := by decide +kernel
theorem dX4_go_11 : decode cX4_go 11 = .ok (.aload_n 0, 1) := by decide +kernel
theorem dX4_go_12 : decode cX4_go 12 = .ok (.getfield 13, 3) := by decide +kernel
theorem dX4_go_15 : decode cX4_go 15 = .ok (.iload_n 3, 1) := by decide +kernel
theorem dX4_go_16 : decode cX4_go 16 = .ok (.bipush 8, 2) := by decide +kernel
theorem dX4_go_18 : decode cX4_go 18 = .ok (.irem, 1) := by decide +kernel
theorem dX4_go_19 : decode cX4_go 19 = .ok (.iaload, 1) := by decide +kernel
theorem dX4_go_20 : decode cX4_go 20 = .ok (.istore 6, 2) := by decide +kernel
theorem dX4_go_22 : decode cX4_go 22 = .ok (.iload_n 1, 1) := by decide +kernel
theorem dX4_go_23 : decode cX4_go 23 = .ok (.bipush 16, 2) := by decide +kernel
theorem dX4_go_25 : decode cX4_go 25 = .ok (.if_icmp .eq 9, 3) := by decide +kernel
theorem dX4_go_28 : decode cX4_go 28 = .ok (.iload_n 1, 1) := by decide +kernel
theorem dX4_go_29 : decode cX4_go 29 = .ok (.bipush 17, 2) := by decide +kernel
theorem dX4_go_31 : decode cX4_go 31 = .ok (.if_icmp .ne 13, 3) := by decide +kernel
theorem dX4_go_34 : decode cX4_go 34 = .ok (.aload_n 0, 1) := by decide +kernel
theorem dX4_go_35 : decode cX4_go 35 = .ok (.iload_n 1, 1) := by decide +kernel
theorem dX4_go_36 : decode cX4_go 36 = .ok (.iconst 5, 1) := by decide +kernel
theorem dX4_go_37 : decode cX4_go 37 = .ok (.isub, 1) := by decide +kernel
theorem dX4_go_38 : decode cX4_go 38 = .ok (.iconst 0, 1) := by decide +kernel
theorem dX4_go_39 : decode cX4_go 39 = .ok (.iconst 0, 1) := by decide +kernel
theorem dX4_go_40 : decode cX4_go 40 = .ok (.invokevirtual 55, 3) := by decide +kernel
theorem dX4_go_43 : decode cX4_go 43 = .ok (.ireturn, 1) := by decide +kernel
theorem dX4_go_44 : decode cX4_go 44 = .ok (.iload_n 1, 1) := by decide +kernel
theorem dX4_go_45 : decode cX4_go 45 = .ok (.bipush 12, 2) := by decide +kernel
theorem dX4_go_47 : decode cX4_go 47 = .ok (.if_icmp .ne 10, 3) := by decide +kernel
theorem dX4_go_50 : decode cX4_go 50 = .ok (.iload 5, 2) := by decide +kernel
theorem dX4_go_52 : decode cX4_go 52 = .ok (.iload 6, 2) := by decide +kernel
theorem dX4_go_54 : decode cX4_go 54 = .ok (.if_icmp .eq 29, 3) := by decide +kernel
theorem dX4_go_57 : decode cX4_go 57 = .ok (.iload_n 1, 1) := by decide +kernel
theorem dX4_go_58 : decode cX4_go 58 = .ok (.bipush 13, 2) := by decide +kernel
theorem dX4_go_60 : decode cX4_go 60 = .ok (.if_icmp .ne 10, 3) := by decide +kernel
theorem dX4_go_63 : decode cX4_go 63 = .ok (.iload 5, 2) := by decide +kernel
theorem dX4_go_65 : decode cX4_go 65 = .ok (.iload 6, 2) := by decide +kernel
theorem dX4_go_67 : decode cX4_go 67 = .ok (.if_icmp .ne 16, 3) := by decide +kernel
theorem dX4_go_70 : decode cX4_go 70 = .ok (.iload_n 1, 1) := by decide +kernel
theorem dX4_go_71 : decode cX4_go 71 = .ok (.bipush 14, 2) := by decide +kernel
theorem dX4_go_73 : decode cX4_go 73 = .ok (.if_icmp .ne 14, 3) := by decide +kernel
theorem dX4_go_76 : decode cX4_go 76 = .ok (.iload 5, 2) := by decide +kernel
theorem dX4_go_78 : decode cX4_go 78 = .ok (.iload 6, 2) := by decide +kernel
theorem dX4_go_80 : decode cX4_go 80 = .ok (.if_icmp .ge 7, 3) := by decide +kernel
theorem dX4_go_83 : decode cX4_go 83 = .ok (.iconst 1, 1) := by decide +kernel
theorem dX4_go_84 : decode cX4_go 84 = .ok (.goto 4, 3) := by decide +kernel
theorem dX4_go_87 : decode cX4_go 87 = .ok (.iconst 0, 1) := by decide +kernel
theorem dX4_go_88 : decode cX4_go 88 = .ok (.istore 7, 2) := by decide +kernel
theorem dX4_go_90 : decode cX4_go 90 = .ok (.aload_n 0, 1) := by decide +kernel
theorem dX4_go_91 : decode cX4_go 91 = .ok (.iload_n 1, 1) := by decide +kernel
theorem dX4_go_92 : decode cX4_go 92 = .ok (.bipush 15, 2) := by decide +kernel
theorem dX4_go_94 : decode cX4_go 94 = .ok (.if_icmp .ne 13, 3) := by decide +kernel
theorem dX4_go_97 : decode cX4_go 97 = .ok (.iload 6, 2) := by decide +kernel
theorem dX4_go_99 : decode cX4_go 99 = .ok (.iconst 4, 1) := by decide +kernel
theorem dX4_go_100 : decode cX4_go 100 = .ok (.iload 4, 2) := by decide +kernel
theorem dX4_go_102 : decode cX4_go 102 = .ok (.imul, 1) := by decide +kernel
theorem dX4_go_103 : decode cX4_go 103 = .ok (.iadd, 1) := by decide +kernel
theorem dX4_go_104 : decode cX4_go 104 = .ok (.goto 24, 3) := by decide +kernel
theorem dX4_go_107 : decode cX4_go 107 = .ok (.iload 7, 2) := by decide +kernel
theorem dX4_go_109 : decode cX4_go 109 = .ok (.ifCond .eq 15, 3) := by decide +kernel
theorem dX4_go_112 : decode cX4_go 112 = .ok (.aload_n 0, 1) := by decide +kernel
theorem dX4_go_113 : decode cX4_go 113 = .ok (.getfield 51, 3) := by decide +kernel
theorem dX4_go_116 : decode cX4_go 116 = .ok (.iconst 4, 1) := by decide +kernel
theorem dX4_go_117 : decode cX4_go 117 = .ok (.iload 4, 2) := by decide +kernel
theorem dX4_go_119 : decode cX4_go 119 = .ok (.imul, 1) := by decide +kernel
theorem dX4_go_120 : decode cX4_go 120 = .ok (.iadd, 1) := by decide +kernel
theorem dX4_go_121 : decode cX4_go 121 = .ok (.goto 7, 3) := by decide +kernel
theorem dX4_go_124 : decode cX4_go 124 = .ok (.aload_n 0, 1) := by decide +kernel
theorem dX4_go_125 : decode cX4_go 125 = .ok (.getfield 100, 3) := by decide +kernel
theorem dX4_go_128 : decode cX4_go 128 = .ok (.putfield 100, 3) := by decide +kernel
theorem dX4_go_131 : decode cX4_go 131 = .ok (.iload_n 1, 1) := by decide +kernel
theorem dX4_go_132 : decode cX4_go 132 = .ok (.bipush 15, 2) := by decide +kernel
theorem dX4_go_134 : decode cX4_go 134 = .ok (.if_icmp .ne 14, 3) := by decide +kernel
theorem dX4_go_137 : decode cX4_go 137 = .ok (.aload_n 0, 1) := by decide +kernel
theorem dX4_go_138 : decode cX4_go 138 = .ok (.iload_n 2, 1) := by decide +kernel
theorem dX4_go_139 : decode cX4_go 139 = .ok (.aload_n 0, 1) := by decide +kernel
theorem dX4_go_140 : decode cX4_go 140 = .ok (.getfield 51, 3) := by decide +kernel
theorem dX4_go_143 : decode cX4_go 143 = .ok (.iconst 4, 1) := by decide +kernel
theorem dX4_go_144 : decode cX4_go 144 = .ok (.iadd, 1) := by decide +kernel
theorem dX4_go_145 : decode cX4_go 145 = .ok (.invokevirtual 93, 3) := by decide +kernel
theorem dX4_go_148 : decode cX4_go 148 = .ok (.iconst (-1), 1) := by decide +kernel
theorem dX4_go_149 : decode cX4_go 149 = .ok (.ireturn, 1) := by decide +kernel
set_option maxRecDepth 20000 in
theorem ggX4_controls_X4_with : GoodIn wsX4_controls wsX4_with := goodIn_r _ [7, 8, 9, 20, 21, 22, 23, 24, 25, 26, 27, 28, 29, 30, 31, 32, 33, 34, 35, 36, 37, 38, 39] (by decide +kernel) (by decide +kernel)
set_option maxRecDepth 20000 in
theorem gX4_controls_X4_with : GoodIn wsX4_controls (wsV RX4 55 RX4 yX4_with wsX4_with) := goodIn_app (goodIn_of _ (by decide +kernel)) ggX4_controls_X4_with
set_option maxRecDepth 20000 in
theorem ggX4_controls_X4_write : GoodIn wsX4_controls wsX4_write := goodIn_r _ [13, 1, 14, 15, 20, 21, 22, 23, 24, 25, 26, 27, 28, 29, 30, 31, 32, 33, 34, 35, 36, 37, 38, 39] (by decide +kernel) (by decide +kernel)
set_option maxRecDepth 20000 in
theorem gX4_controls_X4_write : GoodIn wsX4_controls (wsV RX4 103 RX4 yX4_write wsX4_write) := goodIn_app (goodIn_of _ (by decide +kernel)) ggX4_controls_X4_write
set_option maxRecDepth 20000 in
theorem ggX4_controls_X4_put : GoodIn wsX4_controls wsX4_put := goodIn_r _ [19, 2, 20, 21, 22, 23, 24, 25, 26, 27, 28, 29, 30, 31, 32, 33, 34, 35, 36, 37, 38, 39] (by decide +kernel) (by decide +kernel)
set_option maxRecDepth 20000 in
theorem gX4_controls_X4_put : GoodIn wsX4_controls (wsV RX4 93 RX4 yX4_put wsX4_put) := goodIn_app (goodIn_of _ (by decide +kernel)) ggX4_controls_X4_put
theorem dX4_controls_0 : decode cX4_controls 0 = .ok (.iload 4, 2) := by decide +kernel
theorem dX4_controls_2 : decode cX4_controls 2 = .ok (.bipush 17, 2) := by decide +kernel
theorem dX4_controls_4 : decode cX4_controls 4 = .ok (.if_icmp .le 12, 3) := by decide +kernel
theorem dX4_controls_7 : decode cX4_controls 7 = .ok (.aload_n 0, 1) := by decide +kernel
theorem dX4_controls_8 : decode cX4_controls 8 = .ok (.bipush 13, 2) := by decide +kernel
theorem dX4_controls_10 : decode cX4_controls 10 = .ok (.iconst 0, 1) := by decide +kernel
theorem dX4_controls_11 : decode cX4_controls 11 = .ok (.iconst 0, 1) := by decide +kernel
theorem dX4_controls_12 : decode cX4_controls 12 = .ok (.invokevirtual 55, 3) := by decide +kernel
theorem dX4_controls_15 : decode cX4_controls 15 = .ok (.ireturn, 1) := by decide +kernel
theorem dX4_controls_16 : decode cX4_controls 16 = .ok (.aload_n 0, 1) := by decide +kernel
theorem dX4_controls_17 : decode cX4_controls 17 = .ok (.getfield 16, 3) := by decide +kernel
theorem dX4_controls_20 : decode cX4_controls 20 = .ok (.iload 4, 2) := by decide +kernel
theorem dX4_controls_22 : decode cX4_controls 22 = .ok (.iaload, 1) := by decide +kernel
theorem dX4_controls_23 : decode cX4_controls 23 = .ok (.istore 5, 2) := by decide +kernel
theorem dX4_controls_25 : decode cX4_controls 25 = .ok (.iload_n 1, 1) := by decide +kernel
theorem dX4_controls_26 : decode cX4_controls 26 = .ok (.bipush 19, 2) := by decide +kernel
theorem dX4_controls_28 : decode cX4_controls 28 = .ok (.if_icmp .ne 19, 3) := by decide +kernel
theorem dX4_controls_31 : decode cX4_controls 31 = .ok (.aload_n 0, 1) := by decide +kernel
theorem dX4_controls_32 : decode cX4_controls 32 = .ok (.iload 4, 2) := by decide +kernel
theorem dX4_controls_34 : decode cX4_controls 34 = .ok (.iconst (-1), 1) := by decide +kernel
theorem dX4_controls_35 : decode cX4_controls 35 = .ok (.aload_n 0, 1) := by decide +kernel
theorem dX4_controls_36 : decode cX4_controls 36 = .ok (.getfield 13, 3) := by decide +kernel
theorem dX4_controls_39 : decode cX4_controls 39 = .ok (.iload_n 2, 1) := by decide +kernel
theorem dX4_controls_40 : decode cX4_controls 40 = .ok (.bipush 8, 2) := by decide +kernel
theorem dX4_controls_42 : decode cX4_controls 42 = .ok (.irem, 1) := by decide +kernel
theorem dX4_controls_43 : decode cX4_controls 43 = .ok (.iaload, 1) := by decide +kernel
theorem dX4_controls_44 : decode cX4_controls 44 = .ok (.invokevirtual 103, 3) := by decide +kernel
theorem dX4_controls_47 : decode cX4_controls 47 = .ok (.iload_n 1, 1) := by decide +kernel
theorem dX4_controls_48 : decode cX4_controls 48 = .ok (.bipush 20, 2) := by decide +kernel
theorem dX4_controls_50 : decode cX4_controls 50 = .ok (.if_icmp .ne 27, 3) := by decide +kernel
theorem dX4_controls_53 : decode cX4_controls 53 = .ok (.aload_n 0, 1) := by decide +kernel
theorem dX4_controls_54 : decode cX4_controls 54 = .ok (.iload 4, 2) := by decide +kernel
theorem dX4_controls_56 : decode cX4_controls 56 = .ok (.aload_n 0, 1) := by decide +kernel
theorem dX4_controls_57 : decode cX4_controls 57 = .ok (.getfield 13, 3) := by decide +kernel
theorem dX4_controls_60 : decode cX4_controls 60 = .ok (.iload_n 3, 1) := by decide +kernel
theorem dX4_controls_61 : decode cX4_controls 61 = .ok (.bipush 8, 2) := by decide +kernel
theorem dX4_controls_63 : decode cX4_controls 63 = .ok (.irem, 1) := by decide +kernel
theorem dX4_controls_64 : decode cX4_controls 64 = .ok (.iaload, 1) := by decide +kernel
theorem dX4_controls_65 : decode cX4_controls 65 = .ok (.aload_n 0, 1) := by decide +kernel
theorem dX4_controls_66 : decode cX4_controls 66 = .ok (.getfield 13, 3) := by decide +kernel
theorem dX4_controls_69 : decode cX4_controls 69 = .ok (.iload_n 2, 1) := by decide +kernel
theorem dX4_controls_70 : decode cX4_controls 70 = .ok (.bipush 8, 2) := by decide +kernel
theorem dX4_controls_72 : decode cX4_controls 72 = .ok (.irem, 1) := by decide +kernel
theorem dX4_controls_73 : decode cX4_controls 73 = .ok (.iaload, 1) := by decide +kernel
theorem dX4_controls_74 : decode cX4_controls 74 = .ok (.invokevirtual 103, 3) := by decide +kernel
theorem dX4_controls_77 : decode cX4_controls 77 = .ok (.aload_n 0, 1) := by decide +kernel
theorem dX4_controls_78 : decode cX4_controls 78 = .ok (.iload_n 2, 1) := by decide +kernel
theorem dX4_controls_79 : decode cX4_controls 79 = .ok (.iload 5, 2) := by decide +kernel
theorem dX4_controls_81 : decode cX4_controls 81 = .ok (.invokevirtual 93, 3) := by decide +kernel
theorem dX4_controls_84 : decode cX4_controls 84 = .ok (.iconst (-1), 1) := by decide +kernel
theorem dX4_controls_85 : decode cX4_controls 85 = .ok (.ireturn, 1) := by decide +kernel
set_option maxRecDepth 20000 in
theorem ggX4_govern_X4_user : GoodIn wsX4_govern wsX4_user := goodIn_r _ [11, 2, 65, 66, 67, 68, 69, 70, 71, 72, 73, 74, 75, 76, 77, 78, 79, 80, 81, 82, 83, 84] (by decide +kernel) (by decide +kernel)
set_option maxRecDepth 20000 in
theorem gX4_govern_X4_user : GoodIn wsX4_govern (wsV RX4 59 RX4 yX4_user wsX4_user) := goodIn_app (goodIn_of _ (by decide +kernel)) ggX4_govern_X4_user
set_option maxRecDepth 20000 in
theorem ggX4_govern_X4_with : GoodIn wsX4_govern wsX4_with := goodIn_r _ [15, 16, 17, 65, 66, 67, 68, 69, 70, 71, 72, 73, 74, 75, 76, 77, 78, 79, 80, 81, 82, 83, 84] (by decide +kernel) (by decide +kernel)
set_option maxRecDepth 20000 in
theorem gX4_govern_X4_with : GoodIn wsX4_govern (wsV RX4 55 RX4 yX4_with wsX4_with) := goodIn_app (goodIn_of _ (by decide +kernel)) ggX4_govern_X4_with
set_option maxRecDepth 20000 in
theorem ggX4_govern_X4_controls : GoodIn wsX4_govern wsX4_controls := goodIn_r _ [21, 2, 1, 12, 13, 14, 10, 15, 16, 17, 22, 23, 24, 25, 26, 27, 28, 29, 30, 31, 65, 66, 67, 68, 69, 70, 71, 72, 73, 74, 75, 76, 77, 78, 79, 80, 81, 82, 83, 84] (by decide +kernel) (by decide +kernel)
set_option maxRecDepth 20000 in
theorem gX4_govern_X4_controls : GoodIn wsX4_govern (wsV RX4 107 RX4 yX4_controls wsX4_controls) := goodIn_app (goodIn_of _ (by decide +kernel)) ggX4_govern_X4_controls
set_option maxRecDepth 20000 in
theorem ggX4_govern_X4_empty : GoodIn wsX4_govern wsX4_empty := goodIn_r _ [35, 36, 37, 38, 39, 12, 13, 14, 10, 15, 16, 17, 40, 41, 42, 65, 66, 67, 68, 69, 70, 71, 72, 73, 74, 75, 76, 77, 78, 79, 80, 81, 82, 83, 84] (by decide +kernel) (by decide +kernel)
set_option maxRecDepth 20000 in
theorem gX4_govern_X4_empty : GoodIn wsX4_govern (wsV RX4 111 RX4 yX4_empty wsX4_empty) := goodIn_app (goodIn_of _ (by decide +kernel)) ggX4_govern_X4_empty
set_option maxRecDepth 20000 in
theorem ggX4_govern_X4_search : GoodIn wsX4_govern wsX4_search := goodIn_r _ [46, 2, 47, 40, 41, 10, 42, 48, 49, 50, 51, 39, 38, 36, 37, 65, 66, 67, 68, 69, 70, 71, 72, 73, 74, 75, 76, 77, 78, 79, 80, 81, 82, 83, 84] (by decide +kernel) (by decide +kernel)
set_option maxRecDepth 20000 in
theorem gX4_govern_X4_search : GoodIn wsX4_govern (wsV RX4 114 RX4 yX4_search wsX4_search) := goodIn_app (goodIn_of _ (by decide +kernel)) ggX4_govern_X4_search
set_option maxRecDepth 20000 in
theorem ggX4_govern_X4_read : GoodIn wsX4_govern wsX4_read := goodIn_r _ [55, 36, 2, 39, 47, 38, 56, 37, 65, 66, 67, 68, 69, 70, 71, 72, 73, 74, 75, 76, 77, 78, 79, 80, 81, 82, 83, 84] (by decide +kernel) (by decide +kernel)
set_option maxRecDepth 20000 in
theorem gX4_govern_X4_read : GoodIn wsX4_govern (wsV RX4 117 RX4 yX4_read wsX4_read) := goodIn_app (goodIn_of _ (by decide +kernel)) ggX4_govern_X4_read
set_option maxRecDepth 20000 in
theorem ggX4_govern_X4_fill : GoodIn wsX4_govern wsX4_fill := goodIn_r _ [60, 38, 2, 37, 36, 56, 39, 40, 41, 10, 42, 61, 62, 63, 64, 65, 66, 67, 68, 69, 70, 71, 72, 73, 74, 75, 76, 77, 78, 79, 80, 81, 82, 83, 84] (by decide +kernel) (by decide +kernel)
set_option maxRecDepth 20000 in
theorem gX4_govern_X4_fill : GoodIn wsX4_govern (wsV RX4 121 RX4 yX4_fill wsX4_fill) := goodIn_app (goodIn_of _ (by decide +kernel)) ggX4_govern_X4_fill
set_option maxRecDepth 20000 in
theorem ggX4_govern_X4_codeOf : GoodIn wsX4_govern wsX4_codeOf := goodIn_r _ [64, 2, 65, 66, 67, 68, 69, 70, 71, 72, 73, 74, 75, 76, 77, 78, 79, 80, 81, 82, 83, 84] (by decide +kernel) (by decide +kernel)
set_option maxRecDepth 20000 in
theorem gX4_govern_X4_codeOf : GoodIn wsX4_govern (wsV RX4 84 RX4 yX4_codeOf wsX4_codeOf) := goodIn_app (goodIn_of _ (by decide +kernel)) ggX4_govern_X4_codeOf
theorem dX4_govern_0 : decode cX4_govern 0 = .ok (.aload_n 0, 1) := by decide +kernel
theorem dX4_govern_1 : decode cX4_govern 1 = .ok (.invokevirtual 59, 3) := by decide +kernel
theorem dX4_govern_4 : decode cX4_govern 4 = .ok (.ifCond .eq 12, 3) := by decide +kernel
theorem dX4_govern_7 : decode cX4_govern 7 = .ok (.aload_n 0, 1) := by decide +kernel
theorem dX4_govern_8 : decode cX4_govern 8 = .ok (.bipush 14, 2) := by decide +kernel
theorem dX4_govern_10 : decode cX4_govern 10 = .ok (.iconst 0, 1) := by decide +kernel
theorem dX4_govern_11 : decode cX4_govern 11 = .ok (.iconst 0, 1) := by decide +kernel
theorem dX4_govern_12 : decode cX4_govern 12 = .ok (.invokevirtual 55, 3) := by decide +kernel
theorem dX4_govern_15 : decode cX4_govern 15 = .ok (.ireturn, 1) := by decide +kernel
theorem dX4_govern_16 : decode cX4_govern 16 = .ok (.iload_n 1, 1) := by decide +kernel
theorem dX4_govern_17 : decode cX4_govern 17 = .ok (.bipush 21, 2) := by decide +kernel
theorem dX4_govern_19 : decode cX4_govern 19 = .ok (.if_icmp .ge 13, 3) := by decide +kernel
theorem dX4_govern_22 : decode cX4_govern 22 = .ok (.aload_n 0, 1) := by decide +kernel
theorem dX4_govern_23 : decode cX4_govern 23 = .ok (.iload_n 1, 1) := by decide +kernel
theorem dX4_govern_24 : decode cX4_govern 24 = .ok (.iload_n 2, 1) := by decide +kernel
theorem dX4_govern_25 : decode cX4_govern 25 = .ok (.iload_n 3, 1) := by decide +kernel
theorem dX4_govern_26 : decode cX4_govern 26 = .ok (.iload 4, 2) := by decide +kernel
theorem dX4_govern_28 : decode cX4_govern 28 = .ok (.invokevirtual 107, 3) := by decide +kernel
theorem dX4_govern_31 : decode cX4_govern 31 = .ok (.ireturn, 1) := by decide +kernel
theorem dX4_govern_32 : decode cX4_govern 32 = .ok (.iload_n 1, 1) := by decide +kernel
theorem dX4_govern_33 : decode cX4_govern 33 = .ok (.bipush 25, 2) := by decide +kernel
theorem dX4_govern_35 : decode cX4_govern 35 = .ok (.if_icmp .ne 28, 3) := by decide +kernel
theorem dX4_govern_38 : decode cX4_govern 38 = .ok (.aload_n 0, 1) := by decide +kernel
theorem dX4_govern_39 : decode cX4_govern 39 = .ok (.iload 4, 2) := by decide +kernel
theorem dX4_govern_41 : decode cX4_govern 41 = .ok (.aload_n 0, 1) := by decide +kernel
theorem dX4_govern_42 : decode cX4_govern 42 = .ok (.getfield 13, 3) := by decide +kernel
theorem dX4_govern_45 : decode cX4_govern 45 = .ok (.iload_n 2, 1) := by decide +kernel
theorem dX4_govern_46 : decode cX4_govern 46 = .ok (.bipush 8, 2) := by decide +kernel
theorem dX4_govern_48 : decode cX4_govern 48 = .ok (.irem, 1) := by decide +kernel
theorem dX4_govern_49 : decode cX4_govern 49 = .ok (.iaload, 1) := by decide +kernel
theorem dX4_govern_50 : decode cX4_govern 50 = .ok (.aload_n 0, 1) := by decide +kernel
theorem dX4_govern_51 : decode cX4_govern 51 = .ok (.getfield 13, 3) := by decide +kernel
theorem dX4_govern_54 : decode cX4_govern 54 = .ok (.iload_n 3, 1) := by decide +kernel
theorem dX4_govern_55 : decode cX4_govern 55 = .ok (.bipush 8, 2) := by decide +kernel
theorem dX4_govern_57 : decode cX4_govern 57 = .ok (.irem, 1) := by decide +kernel
theorem dX4_govern_58 : decode cX4_govern 58 = .ok (.iaload, 1) := by decide +kernel
theorem dX4_govern_59 : decode cX4_govern 59 = .ok (.invokevirtual 111, 3) := by decide +kernel
theorem dX4_govern_62 : decode cX4_govern 62 = .ok (.ireturn, 1) := by decide +kernel
theorem dX4_govern_63 : decode cX4_govern 63 = .ok (.iload_n 1, 1) := by decide +kernel
theorem dX4_govern_64 : decode cX4_govern 64 = .ok (.bipush 21, 2) := by decide +kernel
theorem dX4_govern_66 : decode cX4_govern 66 = .ok (.if_icmp .ne 7, 3) := by decide +kernel
theorem dX4_govern_69 : decode cX4_govern 69 = .ok (.aload_n 0, 1) := by decide +kernel
theorem dX4_govern_70 : decode cX4_govern 70 = .ok (.invokevirtual 114, 3) := by decide +kernel
theorem dX4_govern_73 : decode cX4_govern 73 = .ok (.iload_n 1, 1) := by decide +kernel
theorem dX4_govern_74 : decode cX4_govern 74 = .ok (.bipush 22, 2) := by decide +kernel
theorem dX4_govern_76 : decode cX4_govern 76 = .ok (.if_icmp .ne 16, 3) := by decide +kernel
theorem dX4_govern_79 : decode cX4_govern 79 = .ok (.aload_n 0, 1) := by decide +kernel
theorem dX4_govern_80 : decode cX4_govern 80 = .ok (.aload_n 0, 1) := by decide +kernel
theorem dX4_govern_81 : decode cX4_govern 81 = .ok (.getfield 16, 3) := by decide +kernel
theorem dX4_govern_84 : decode cX4_govern 84 = .ok (.bipush 7, 2) := by decide +kernel
theorem dX4_govern_86 : decode cX4_govern 86 = .ok (.iaload, 1) := by decide +kernel
theorem dX4_govern_87 : decode cX4_govern 87 = .ok (.iconst 3, 1) := by decide +kernel
theorem dX4_govern_88 : decode cX4_govern 88 = .ok (.iand, 1) := by decide +kernel
theorem dX4_govern_89 : decode cX4_govern 89 = .ok (.invokevirtual 117, 3) := by decide +kernel
theorem dX4_govern_92 : decode cX4_govern 92 = .ok (.iload_n 1, 1) := by decide +kernel
theorem dX4_govern_93 : decode cX4_govern 93 = .ok (.bipush 23, 2) := by decide +kernel
theorem dX4_govern_95 : decode cX4_govern 95 = .ok (.if_icmp .ne 16, 3) := by decide +kernel
theorem dX4_govern_98 : decode cX4_govern 98 = .ok (.aload_n 0, 1) := by decide +kernel
theorem dX4_govern_99 : decode cX4_govern 99 = .ok (.aload_n 0, 1) := by decide +kernel
theorem dX4_govern_100 : decode cX4_govern 100 = .ok (.getfield 16, 3) := by decide +kernel
theorem dX4_govern_103 : decode cX4_govern 103 = .ok (.bipush 7, 2) := by decide +kernel
theorem dX4_govern_105 : decode cX4_govern 105 = .ok (.iaload, 1) := by decide +kernel
theorem dX4_govern_106 : decode cX4_govern 106 = .ok (.iconst 3, 1) := by decide +kernel
theorem dX4_govern_107 : decode cX4_govern 107 = .ok (.iand, 1) := by decide +kernel
theorem dX4_govern_108 : decode cX4_govern 108 = .ok (.invokevirtual 121, 3) := by decide +kernel
theorem dX4_govern_111 : decode cX4_govern 111 = .ok (.iload_n 1, 1) := by decide +kernel
theorem dX4_govern_112 : decode cX4_govern 112 = .ok (.bipush 24, 2) := by decide +kernel
theorem dX4_govern_114 : decode cX4_govern 114 = .ok (.if_icmp .ne 23, 3) := by decide +kernel
theorem dX4_govern_117 : decode cX4_govern 117 = .ok (.aload_n 0, 1) := by decide +kernel
theorem dX4_govern_118 : decode cX4_govern 118 = .ok (.aload_n 0, 1) := by decide +kernel
theorem dX4_govern_119 : decode cX4_govern 119 = .ok (.getfield 124, 3) := by decide +kernel
theorem dX4_govern_122 : decode cX4_govern 122 = .ok (.invokevirtual 121, 3) := by decide +kernel
theorem dX4_govern_125 : decode cX4_govern 125 = .ok (.aload_n 0, 1) := by decide +kernel
theorem dX4_govern_126 : decode cX4_govern 126 = .ok (.aload_n 0, 1) := by decide +kernel
theorem dX4_govern_127 : decode cX4_govern 127 = .ok (.getfield 124, 3) := by decide +kernel
theorem dX4_govern_130 : decode cX4_govern 130 = .ok (.iconst 1, 1) := by decide +kernel
theorem dX4_govern_131 : decode cX4_govern 131 = .ok (.iadd, 1) := by decide +kernel
theorem dX4_govern_132 : decode cX4_govern 132 = .ok (.iconst 4, 1) := by decide +kernel
theorem dX4_govern_133 : decode cX4_govern 133 = .ok (.irem, 1) := by decide +kernel
theorem dX4_govern_134 : decode cX4_govern 134 = .ok (.putfield 124, 3) := by decide +kernel
theorem dX4_govern_137 : decode cX4_govern 137 = .ok (.iload_n 1, 1) := by decide +kernel
theorem dX4_govern_138 : decode cX4_govern 138 = .ok (.bipush 26, 2) := by decide +kernel
theorem dX4_govern_140 : decode cX4_govern 140 = .ok (.if_icmp .ne 67, 3) := by decide +kernel
theorem dX4_govern_143 : decode cX4_govern 143 = .ok (.aload_n 0, 1) := by decide +kernel
theorem dX4_govern_144 : decode cX4_govern 144 = .ok (.aload_n 0, 1) := by decide +kernel
theorem dX4_govern_145 : decode cX4_govern 145 = .ok (.getfield 16, 3) := by decide +kernel
theorem dX4_govern_148 : decode cX4_govern 148 = .ok (.iconst 4, 1) := by decide +kernel
theorem dX4_govern_149 : decode cX4_govern 149 = .ok (.iaload, 1) := by decide +kernel
theorem dX4_govern_150 : decode cX4_govern 150 = .ok (.putfield 100, 3) := by decide +kernel
theorem dX4_govern_153 : decode cX4_govern 153 = .ok (.aload_n 0, 1) := by decide +kernel
theorem dX4_govern_154 : decode cX4_govern 154 = .ok (.getfield 16, 3) := by decide +kernel
theorem dX4_govern_157 : decode cX4_govern 157 = .ok (.iconst 0, 1) := by decide +kernel
theorem dX4_govern_158 : decode cX4_govern 158 = .ok (.aload_n 0, 1) := by decide +kernel
theorem dX4_govern_159 : decode cX4_govern 159 = .ok (.getfield 16, 3) := by decide +kernel
theorem dX4_govern_162 : decode cX4_govern 162 = .ok (.iconst 0, 1) := by decide +kernel
theorem dX4_govern_163 : decode cX4_govern 163 = .ok (.iaload, 1) := by decide +kernel
theorem dX4_govern_164 : decode cX4_govern 164 = .ok (.bipush 8, 2) := by decide +kernel
theorem dX4_govern_166 : decode cX4_govern 166 = .ok (.iand, 1) := by decide +kernel
theorem dX4_govern_167 : decode cX4_govern 167 = .ok (.aload_n 0, 1) := by decide +kernel
theorem dX4_govern_168 : decode cX4_govern 168 = .ok (.getfield 16, 3) := by decide +kernel
theorem dX4_govern_171 : decode cX4_govern 171 = .ok (.iconst 1, 1) := by decide +kernel
theorem dX4_govern_172 : decode cX4_govern 172 = .ok (.iaload, 1) := by decide +kernel
theorem dX4_govern_173 : decode cX4_govern 173 = .ok (.bipush 7, 2) := by decide +kernel
theorem dX4_govern_175 : decode cX4_govern 175 = .ok (.iand, 1) := by decide +kernel
theorem dX4_govern_176 : decode cX4_govern 176 = .ok (.ior, 1) := by decide +kernel
theorem dX4_govern_177 : decode cX4_govern 177 = .ok (.iastore, 1) := by decide +kernel
theorem dX4_govern_178 : decode cX4_govern 178 = .ok (.aload_n 0, 1) := by decide +kernel
theorem dX4_govern_179 : decode cX4_govern 179 = .ok (.iconst 0, 1) := by decide +kernel
theorem dX4_govern_180 : decode cX4_govern 180 = .ok (.putfield 89, 3) := by decide +kernel
theorem dX4_govern_183 : decode cX4_govern 183 = .ok (.aload_n 0, 1) := by decide +kernel
theorem dX4_govern_184 : decode cX4_govern 184 = .ok (.invokevirtual 84, 3) := by decide +kernel
theorem dX4_govern_187 : decode cX4_govern 187 = .ok (.bipush 63, 2) := by decide +kernel
theorem dX4_govern_189 : decode cX4_govern 189 = .ok (.if_icmp .ne 18, 3) := by decide +kernel
theorem dX4_govern_192 : decode cX4_govern 192 = .ok (.aload_n 0, 1) := by decide +kernel
theorem dX4_govern_193 : decode cX4_govern 193 = .ok (.getfield 16, 3) := by decide +kernel
theorem dX4_govern_196 : decode cX4_govern 196 = .ok (.iconst 0, 1) := by decide +kernel
theorem dX4_govern_197 : decode cX4_govern 197 = .ok (.aload_n 0, 1) := by decide +kernel
theorem dX4_govern_198 : decode cX4_govern 198 = .ok (.getfield 16, 3) := by decide +kernel
theorem dX4_govern_201 : decode cX4_govern 201 = .ok (.iconst 0, 1) := by decide +kernel
theorem dX4_govern_202 : decode cX4_govern 202 = .ok (.iaload, 1) := by decide +kernel
theorem dX4_govern_203 : decode cX4_govern 203 = .ok (.bipush 7, 2) := by decide +kernel
theorem dX4_govern_205 : decode cX4_govern 205 = .ok (.iand, 1) := by decide +kernel
theorem dX4_govern_206 : decode cX4_govern 206 = .ok (.iastore, 1) := by decide +kernel
theorem dX4_govern_207 : decode cX4_govern 207 = .ok (.aload_n 0, 1) := by decide +kernel
theorem dX4_govern_208 : decode cX4_govern 208 = .ok (.iload_n 1, 1) := by decide +kernel
theorem dX4_govern_209 : decode cX4_govern 209 = .ok (.bipush 27, 2) := by decide +kernel
theorem dX4_govern_211 : decode cX4_govern 211 = .ok (.if_icmp .ne 7, 3) := by decide +kernel
theorem dX4_govern_214 : decode cX4_govern 214 = .ok (.iconst 1, 1) := by decide +kernel
theorem dX4_govern_215 : decode cX4_govern 215 = .ok (.goto 4, 3) := by decide +kernel
theorem dX4_govern_218 : decode cX4_govern 218 = .ok (.iconst 0, 1) := by decide +kernel
theorem dX4_govern_219 : decode cX4_govern 219 = .ok (.putfield 127, 3) := by decide +kernel
theorem dX4_govern_222 : decode cX4_govern 222 = .ok (.iconst (-1), 1) := by decide +kernel
theorem dX4_govern_223 : decode cX4_govern 223 = .ok (.ireturn, 1) := by decide +kernel
set_option maxRecDepth 20000 in
theorem ggX4_instruction_X4_lookUp : GoodIn wsX4_instruction wsX4_lookUp := goodIn_r _ [10, 11, 12, 3, 13, 14, 15, 9, 16, 17, 18, 19, 20, 21, 22, 23, 24, 25, 26, 27, 28, 29, 30, 31, 32, 33, 34, 35, 36, 37, 38, 39, 40, 41, 97, 98, 99, 100, 101, 102, 103, 104, 105, 106, 107, 108, 109, 110, 111, 112, 113, 114, 115, 116] (by decide +kernel) (by decide +kernel)
set_option maxRecDepth 20000 in
theorem gX4_instruction_X4_lookUp : GoodIn wsX4_instruction (wsV RX4 97 RX4 yX4_lookUp wsX4_lookUp) := goodIn_app (goodIn_of _ (by decide +kernel)) ggX4_instruction_X4_lookUp
set_option maxRecDepth 20000 in
theorem ggX4_instruction_X4_with : GoodIn wsX4_instruction wsX4_with := goodIn_r _ [16, 17, 18, 97, 98, 99, 100, 101, 102, 103, 104, 105, 106, 107, 108, 109, 110, 111, 112, 113, 114, 115, 116] (by decide +kernel) (by decide +kernel)
set_option maxRecDepth 20000 in
theorem gX4_instruction_X4_with : GoodIn wsX4_instruction (wsV RX4 55 RX4 yX4_with wsX4_with) := goodIn_app (goodIn_of _ (by decide +kernel)) ggX4_instruction_X4_with
set_option maxRecDepth 20000 in
theorem ggX4_instruction_X4_reckon : GoodIn wsX4_instruction wsX4_reckon := goodIn_r _ [45, 5, 46, 97, 98, 99, 100, 101, 102, 103, 104, 105, 106, 107, 108, 109, 110, 111, 112, 113, 114, 115, 116] (by decide +kernel) (by decide +kernel)
set_option maxRecDepth 20000 in
theorem gX4_instruction_X4_reckon : GoodIn wsX4_instruction (wsV RX4 130 RX4 yX4_reckon wsX4_reckon) := goodIn_app (goodIn_of _ (by decide +kernel)) ggX4_instruction_X4_reckon
set_option maxRecDepth 20000 in
theorem ggX4_instruction_X4_put : GoodIn wsX4_instruction wsX4_put := goodIn_r _ [50, 5, 97, 98, 99, 100, 101, 102, 103, 104, 105, 106, 107, 108, 109, 110, 111, 112, 113, 114, 115, 116] (by decide +kernel) (by decide +kernel)
set_option maxRecDepth 20000 in
theorem gX4_instruction_X4_put : GoodIn wsX4_instruction (wsV RX4 93 RX4 yX4_put wsX4_put) := goodIn_app (goodIn_of _ (by decide +kernel)) ggX4_instruction_X4_put
set_option maxRecDepth 20000 in
theorem ggX4_instruction_X4_reach : GoodIn wsX4_instruction wsX4_reach := goodIn_r _ [54, 55, 2, 3, 5, 47, 48, 49, 9, 50, 6, 7, 8, 10, 11, 12, 13, 14, 15, 16, 17, 18, 19, 20, 21, 22, 23, 24, 25, 26, 27, 28, 29, 30, 31, 32, 33, 34, 35, 36, 37, 38, 39, 40, 41, 97, 98, 99, 100, 101, 102, 103, 104, 105, 106, 107, 108, 109, 110, 111, 112, 113, 114, 115, 116] (by decide +kernel) (by decide +kernel)
set_option maxRecDepth 20000 in
theorem gX4_instruction_X4_reach : GoodIn wsX4_instruction (wsV RX4 133 RX4 yX4_reach wsX4_reach) := goodIn_app (goodIn_of _ (by decide +kernel)) ggX4_instruction_X4_reach
set_option maxRecDepth 20000 in
theorem ggX4_instruction_X4_go : GoodIn wsX4_instruction wsX4_go := goodIn_r _ [59, 5, 1, 4, 13, 14, 15, 9, 16, 17, 18, 47, 48, 49, 50, 97, 98, 99, 100, 101, 102, 103, 104, 105, 106, 107, 108, 109, 110, 111, 112, 113, 114, 115, 116] (by decide +kernel) (by decide +kernel)
set_option maxRecDepth 20000 in
theorem gX4_instruction_X4_go : GoodIn wsX4_instruction (wsV RX4 136 RX4 yX4_go wsX4_go) := goodIn_app (goodIn_of _ (by decide +kernel)) ggX4_instruction_X4_go
set_option maxRecDepth 20000 in
theorem ggX4_instruction_X4_govern : GoodIn wsX4_instruction wsX4_govern := goodIn_r _ [63, 5, 11, 64, 4, 55, 65, 19, 20, 21, 9, 22, 13, 14, 15, 16, 17, 18, 66, 67, 68, 69, 70, 71, 72, 73, 74, 75, 47, 48, 49, 50, 76, 77, 78, 79, 37, 38, 36, 35, 28, 29, 30, 80, 81, 82, 83, 84, 31, 32, 33, 34, 85, 86, 87, 88, 27, 89, 90, 91, 92, 93, 94, 95, 96, 97, 98, 99, 100, 101, 102, 103, 104, 105, 106, 107, 108, 109, 110, 111, 112, 113, 114, 115, 116] (by decide +kernel) (by decide +kernel)
set_option maxRecDepth 20000 in
theorem gX4_instruction_X4_govern : GoodIn wsX4_instruction (wsV RX4 139 RX4 yX4_govern wsX4_govern) := goodIn_app (goodIn_of _ (by decide +kernel)) ggX4_instruction_X4_govern
theorem dX4_instruction_0 : decode cX4_instruction 0 = .ok (.aload_n 0, 1) := by decide +kernel
theorem dX4_instruction_1 : decode cX4_instruction 1 = .ok (.aload_n 0, 1) := by decide +kernel
theorem dX4_instruction_2 : decode cX4_instruction 2 = .ok (.getfield 51, 3) := by decide +kernel
theorem dX4_instruction_5 : decode cX4_instruction 5 = .ok (.iconst 0, 1) := by decide +kernel
theorem dX4_instruction_6 : decode cX4_instruction 6 = .ok (.invokevirtual 97, 3) := by decide +kernel
theorem dX4_instruction_9 : decode cX4_instruction 9 = .ok (.istore_n 1, 1) := by decide +kernel
theorem dX4_instruction_10 : decode cX4_instruction 10 = .ok (.iload_n 1, 1) := by decide +kernel
theorem dX4_instruction_11 : decode cX4_instruction 11 = .ok (.iconst (-1), 1) := by decide +kernel
theorem dX4_instruction_12 : decode cX4_instruction 12 = .ok (.if_icmp .eq 5, 3) := by decide +kernel
theorem dX4_instruction_15 : decode cX4_instruction 15 = .ok (.iload_n 1, 1) := by decide +kernel
theorem dX4_instruction_16 : decode cX4_instruction 16 = .ok (.ireturn, 1) := by decide +kernel
theorem dX4_instruction_17 : decode cX4_instruction 17 = .ok (.aload_n 0, 1) := by decide +kernel
theorem dX4_instruction_18 : decode cX4_instruction 18 = .ok (.getfield 7, 3) := by decide +kernel
theorem dX4_instruction_21 : decode cX4_instruction 21 = .ok (.aload_n 0, 1) := by decide +kernel
theorem dX4_instruction_22 : decode cX4_instruction 22 = .ok (.getfield 68, 3) := by decide +kernel
theorem dX4_instruction_25 : decode cX4_instruction 25 = .ok (.iaload, 1) := by decide +kernel
theorem dX4_instruction_26 : decode cX4_instruction 26 = .ok (.istore_n 2, 1) := by decide +kernel
theorem dX4_instruction_27 : decode cX4_instruction 27 = .ok (.iload_n 2, 1) := by decide +kernel
theorem dX4_instruction_28 : decode cX4_instruction 28 = .ok (.bipush 24, 2) := by decide +kernel
theorem dX4_instruction_30 : decode cX4_instruction 30 = .ok (.iushr, 1) := by decide +kernel
theorem dX4_instruction_31 : decode cX4_instruction 31 = .ok (.istore_n 3, 1) := by decide +kernel
theorem dX4_instruction_32 : decode cX4_instruction 32 = .ok (.iload_n 2, 1) := by decide +kernel
theorem dX4_instruction_33 : decode cX4_instruction 33 = .ok (.bipush 16, 2) := by decide +kernel
theorem dX4_instruction_35 : decode cX4_instruction 35 = .ok (.ishr, 1) := by decide +kernel
theorem dX4_instruction_36 : decode cX4_instruction 36 = .ok (.sipush 255, 3) := by decide +kernel
theorem dX4_instruction_39 : decode cX4_instruction 39 = .ok (.iand, 1) := by decide +kernel
theorem dX4_instruction_40 : decode cX4_instruction 40 = .ok (.istore 4, 2) := by decide +kernel
theorem dX4_instruction_42 : decode cX4_instruction 42 = .ok (.iload_n 2, 1) := by decide +kernel
theorem dX4_instruction_43 : decode cX4_instruction 43 = .ok (.bipush 8, 2) := by decide +kernel
theorem dX4_instruction_45 : decode cX4_instruction 45 = .ok (.ishr, 1) := by decide +kernel
theorem dX4_instruction_46 : decode cX4_instruction 46 = .ok (.sipush 255, 3) := by decide +kernel
theorem dX4_instruction_49 : decode cX4_instruction 49 = .ok (.iand, 1) := by decide +kernel
theorem dX4_instruction_50 : decode cX4_instruction 50 = .ok (.istore 5, 2) := by decide +kernel
theorem dX4_instruction_52 : decode cX4_instruction 52 = .ok (.iload_n 2, 1) := by decide +kernel
theorem dX4_instruction_53 : decode cX4_instruction 53 = .ok (.sipush 255, 3) := by decide +kernel
theorem dX4_instruction_56 : decode cX4_instruction 56 = .ok (.iand, 1) := by decide +kernel
theorem dX4_instruction_57 : decode cX4_instruction 57 = .ok (.istore 6, 2) := by decide +kernel
theorem dX4_instruction_59 : decode cX4_instruction 59 = .ok (.iload 6, 2) := by decide +kernel
theorem dX4_instruction_61 : decode cX4_instruction 61 = .ok (.sipush 128, 3) := by decide +kernel
theorem dX4_instruction_64 : decode cX4_instruction 64 = .ok (.if_icmp .ge 8, 3) := by decide +kernel
theorem dX4_instruction_67 : decode cX4_instruction 67 = .ok (.iload 6, 2) := by decide +kernel
theorem dX4_instruction_69 : decode cX4_instruction 69 = .ok (.goto 9, 3) := by decide +kernel
theorem dX4_instruction_72 : decode cX4_instruction 72 = .ok (.iload 6, 2) := by decide +kernel
theorem dX4_instruction_74 : decode cX4_instruction 74 = .ok (.sipush 256, 3) := by decide +kernel
theorem dX4_instruction_77 : decode cX4_instruction 77 = .ok (.isub, 1) := by decide +kernel
theorem dX4_instruction_78 : decode cX4_instruction 78 = .ok (.istore 7, 2) := by decide +kernel
theorem dX4_instruction_80 : decode cX4_instruction 80 = .ok (.aload_n 0, 1) := by decide +kernel
theorem dX4_instruction_81 : decode cX4_instruction 81 = .ok (.aload_n 0, 1) := by decide +kernel
theorem dX4_instruction_82 : decode cX4_instruction 82 = .ok (.getfield 51, 3) := by decide +kernel
theorem dX4_instruction_85 : decode cX4_instruction 85 = .ok (.iconst 4, 1) := by decide +kernel
theorem dX4_instruction_86 : decode cX4_instruction 86 = .ok (.iadd, 1) := by decide +kernel
theorem dX4_instruction_87 : decode cX4_instruction 87 = .ok (.putfield 100, 3) := by decide +kernel
theorem dX4_instruction_90 : decode cX4_instruction 90 = .ok (.iload_n 3, 1) := by decide +kernel
theorem dX4_instruction_91 : decode cX4_instruction 91 = .ok (.iconst 1, 1) := by decide +kernel
theorem dX4_instruction_92 : decode cX4_instruction 92 = .ok (.if_icmp .lt 9, 3) := by decide +kernel
theorem dX4_instruction_95 : decode cX4_instruction 95 = .ok (.iload_n 3, 1) := by decide +kernel
theorem dX4_instruction_96 : decode cX4_instruction 96 = .ok (.bipush 27, 2) := by decide +kernel
theorem dX4_instruction_98 : decode cX4_instruction 98 = .ok (.if_icmp .le 12, 3) := by decide +kernel
theorem dX4_instruction_101 : decode cX4_instruction 101 = .ok (.aload_n 0, 1) := by decide +kernel
theorem dX4_instruction_102 : decode cX4_instruction 102 = .ok (.bipush 13, 2) := by decide +kernel
theorem dX4_instruction_104 : decode cX4_instruction 104 = .ok (.iconst 0, 1) := by decide +kernel
theorem dX4_instruction_105 : decode cX4_instruction 105 = .ok (.iconst 0, 1) := by decide +kernel
theorem dX4_instruction_106 : decode cX4_instruction 106 = .ok (.invokevirtual 55, 3) := by decide +kernel
theorem dX4_instruction_109 : decode cX4_instruction 109 = .ok (.ireturn, 1) := by decide +kernel
theorem dX4_instruction_110 : decode cX4_instruction 110 = .ok (.iload_n 3, 1) := by decide +kernel
theorem dX4_instruction_111 : decode cX4_instruction 111 = .ok (.bipush 8, 2) := by decide +kernel
theorem dX4_instruction_113 : decode cX4_instruction 113 = .ok (.if_icmp .ge 22, 3) := by decide +kernel
theorem dX4_instruction_116 : decode cX4_instruction 116 = .ok (.aload_n 0, 1) := by decide +kernel
theorem dX4_instruction_117 : decode cX4_instruction 117 = .ok (.iload 4, 2) := by decide +kernel
theorem dX4_instruction_119 : decode cX4_instruction 119 = .ok (.aload_n 0, 1) := by decide +kernel
theorem dX4_instruction_120 : decode cX4_instruction 120 = .ok (.iload_n 3, 1) := by decide +kernel
theorem dX4_instruction_121 : decode cX4_instruction 121 = .ok (.iload 5, 2) := by decide +kernel
theorem dX4_instruction_123 : decode cX4_instruction 123 = .ok (.iload 6, 2) := by decide +kernel
theorem dX4_instruction_125 : decode cX4_instruction 125 = .ok (.iload 7, 2) := by decide +kernel
theorem dX4_instruction_127 : decode cX4_instruction 127 = .ok (.invokevirtual 130, 3) := by decide +kernel
theorem dX4_instruction_130 : decode cX4_instruction 130 = .ok (.invokevirtual 93, 3) := by decide +kernel
theorem dX4_instruction_133 : decode cX4_instruction 133 = .ok (.iconst (-1), 1) := by decide +kernel
theorem dX4_instruction_134 : decode cX4_instruction 134 = .ok (.ireturn, 1) := by decide +kernel
theorem dX4_instruction_135 : decode cX4_instruction 135 = .ok (.iload_n 3, 1) := by decide +kernel
theorem dX4_instruction_136 : decode cX4_instruction 136 = .ok (.bipush 12, 2) := by decide +kernel
theorem dX4_instruction_138 : decode cX4_instruction 138 = .ok (.if_icmp .ge 24, 3) := by decide +kernel
theorem dX4_instruction_141 : decode cX4_instruction 141 = .ok (.aload_n 0, 1) := by decide +kernel
theorem dX4_instruction_142 : decode cX4_instruction 142 = .ok (.iload_n 3, 1) := by decide +kernel
theorem dX4_instruction_143 : decode cX4_instruction 143 = .ok (.iload 4, 2) := by decide +kernel
theorem dX4_instruction_145 : decode cX4_instruction 145 = .ok (.aload_n 0, 1) := by decide +kernel
theorem dX4_instruction_146 : decode cX4_instruction 146 = .ok (.getfield 13, 3) := by decide +kernel
theorem dX4_instruction_149 : decode cX4_instruction 149 = .ok (.iload 5, 2) := by decide +kernel
theorem dX4_instruction_151 : decode cX4_instruction 151 = .ok (.bipush 8, 2) := by decide +kernel
theorem dX4_instruction_153 : decode cX4_instruction 153 = .ok (.irem, 1) := by decide +kernel
theorem dX4_instruction_154 : decode cX4_instruction 154 = .ok (.iaload, 1) := by decide +kernel
theorem dX4_instruction_155 : decode cX4_instruction 155 = .ok (.iload 7, 2) := by decide +kernel
theorem dX4_instruction_157 : decode cX4_instruction 157 = .ok (.iadd, 1) := by decide +kernel
theorem dX4_instruction_158 : decode cX4_instruction 158 = .ok (.invokevirtual 133, 3) := by decide +kernel
theorem dX4_instruction_161 : decode cX4_instruction 161 = .ok (.ireturn, 1) := by decide +kernel
theorem dX4_instruction_162 : decode cX4_instruction 162 = .ok (.iload_n 3, 1) := by decide +kernel
theorem dX4_instruction_163 : decode cX4_instruction 163 = .ok (.bipush 18, 2) := by decide +kernel
theorem dX4_instruction_165 : decode cX4_instruction 165 = .ok (.if_icmp .ge 17, 3) := by decide +kernel
theorem dX4_instruction_168 : decode cX4_instruction 168 = .ok (.aload_n 0, 1) := by decide +kernel
theorem dX4_instruction_169 : decode cX4_instruction 169 = .ok (.iload_n 3, 1) := by decide +kernel
theorem dX4_instruction_170 : decode cX4_instruction 170 = .ok (.iload 4, 2) := by decide +kernel
theorem dX4_instruction_172 : decode cX4_instruction 172 = .ok (.iload 5, 2) := by decide +kernel
theorem dX4_instruction_174 : decode cX4_instruction 174 = .ok (.iload 7, 2) := by decide +kernel
theorem dX4_instruction_176 : decode cX4_instruction 176 = .ok (.invokevirtual 136, 3) := by decide +kernel
theorem dX4_instruction_179 : decode cX4_instruction 179 = .ok (.goto 14, 3) := by decide +kernel
theorem dX4_instruction_182 : decode cX4_instruction 182 = .ok (.aload_n 0, 1) := by decide +kernel
theorem dX4_instruction_183 : decode cX4_instruction 183 = .ok (.iload_n 3, 1) := by decide +kernel
theorem dX4_instruction_184 : decode cX4_instruction 184 = .ok (.iload 4, 2) := by decide +kernel
theorem dX4_instruction_186 : decode cX4_instruction 186 = .ok (.iload 5, 2) := by decide +kernel
theorem dX4_instruction_188 : decode cX4_instruction 188 = .ok (.iload 6, 2) := by decide +kernel
theorem dX4_instruction_190 : decode cX4_instruction 190 = .ok (.invokevirtual 139, 3) := by decide +kernel
theorem dX4_instruction_193 : decode cX4_instruction 193 = .ok (.ireturn, 1) := by decide +kernel
theorem dX4_tick_0 : decode cX4_tick 0 = .ok (.aload_n 0, 1) := by decide +kernel
theorem dX4_tick_1 : decode cX4_tick 1 = .ok (.getfield 16, 3) := by decide +kernel
theorem dX4_tick_4 : decode cX4_tick 4 = .ok (.bipush 14, 2) := by decide +kernel
theorem dX4_tick_6 : decode cX4_tick 6 = .ok (.iaload, 1) := by decide +kernel
theorem dX4_tick_7 : decode cX4_tick 7 = .ok (.iconst 1, 1) := by decide +kernel
theorem dX4_tick_8 : decode cX4_tick 8 = .ok (.iand, 1) := by decide +kernel
theorem dX4_tick_9 : decode cX4_tick 9 = .ok (.ifCond .eq 13, 3) := by decide +kernel
theorem dX4_tick_12 : decode cX4_tick 12 = .ok (.aload_n 0, 1) := by decide +kernel
theorem dX4_tick_13 : decode cX4_tick 13 = .ok (.getfield 16, 3) := by decide +kernel
theorem dX4_tick_16 : decode cX4_tick 16 = .ok (.bipush 15, 2) := by decide +kernel
theorem dX4_tick_18 : decode cX4_tick 18 = .ok (.iaload, 1) := by decide +kernel
theorem dX4_tick_19 : decode cX4_tick 19 = .ok (.ifCond .ne 4, 3) := by decide +kernel
theorem dX4_tick_22 : decode cX4_tick 22 = .ok (.return_, 1) := by decide +kernel
theorem dX4_tick_23 : decode cX4_tick 23 = .ok (.aload_n 0, 1) := by decide +kernel
theorem dX4_tick_24 : decode cX4_tick 24 = .ok (.getfield 16, 3) := by decide +kernel
theorem dX4_tick_27 : decode cX4_tick 27 = .ok (.bipush 15, 2) := by decide +kernel
theorem dX4_tick_29 : decode cX4_tick 29 = .ok (.dup2, 1) := by decide +kernel
theorem dX4_tick_30 : decode cX4_tick 30 = .ok (.iaload, 1) := by decide +kernel
theorem dX4_tick_31 : decode cX4_tick 31 = .ok (.iconst 1, 1) := by decide +kernel
theorem dX4_tick_32 : decode cX4_tick 32 = .ok (.isub, 1) := by decide +kernel
theorem dX4_tick_33 : decode cX4_tick 33 = .ok (.iastore, 1) := by decide +kernel
theorem dX4_tick_34 : decode cX4_tick 34 = .ok (.aload_n 0, 1) := by decide +kernel
theorem dX4_tick_35 : decode cX4_tick 35 = .ok (.getfield 16, 3) := by decide +kernel
theorem dX4_tick_38 : decode cX4_tick 38 = .ok (.bipush 15, 2) := by decide +kernel
theorem dX4_tick_40 : decode cX4_tick 40 = .ok (.iaload, 1) := by decide +kernel
theorem dX4_tick_41 : decode cX4_tick 41 = .ok (.ifCond .le 4, 3) := by decide +kernel
theorem dX4_tick_44 : decode cX4_tick 44 = .ok (.return_, 1) := by decide +kernel
theorem dX4_tick_45 : decode cX4_tick 45 = .ok (.aload_n 0, 1) := by decide +kernel
theorem dX4_tick_46 : decode cX4_tick 46 = .ok (.getfield 16, 3) := by decide +kernel
theorem dX4_tick_49 : decode cX4_tick 49 = .ok (.iconst 3, 1) := by decide +kernel
theorem dX4_tick_50 : decode cX4_tick 50 = .ok (.dup2, 1) := by decide +kernel
theorem dX4_tick_51 : decode cX4_tick 51 = .ok (.iaload, 1) := by decide +kernel
theorem dX4_tick_52 : decode cX4_tick 52 = .ok (.bipush 16, 2) := by decide +kernel
theorem dX4_tick_54 : decode cX4_tick 54 = .ok (.ior, 1) := by decide +kernel
theorem dX4_tick_55 : decode cX4_tick 55 = .ok (.iastore, 1) := by decide +kernel
theorem dX4_tick_56 : decode cX4_tick 56 = .ok (.aload_n 0, 1) := by decide +kernel
theorem dX4_tick_57 : decode cX4_tick 57 = .ok (.getfield 16, 3) := by decide +kernel
theorem dX4_tick_60 : decode cX4_tick 60 = .ok (.bipush 15, 2) := by decide +kernel
theorem dX4_tick_62 : decode cX4_tick 62 = .ok (.aload_n 0, 1) := by decide +kernel
theorem dX4_tick_63 : decode cX4_tick 63 = .ok (.getfield 16, 3) := by decide +kernel
theorem dX4_tick_66 : decode cX4_tick 66 = .ok (.bipush 14, 2) := by decide +kernel
theorem dX4_tick_68 : decode cX4_tick 68 = .ok (.iaload, 1) := by decide +kernel
theorem dX4_tick_69 : decode cX4_tick 69 = .ok (.iconst 2, 1) := by decide +kernel
theorem dX4_tick_70 : decode cX4_tick 70 = .ok (.iand, 1) := by decide +kernel
theorem dX4_tick_71 : decode cX4_tick 71 = .ok (.ifCond .eq 16, 3) := by decide +kernel
theorem dX4_tick_74 : decode cX4_tick 74 = .ok (.aload_n 0, 1) := by decide +kernel
theorem dX4_tick_75 : decode cX4_tick 75 = .ok (.getfield 16, 3) := by decide +kernel
theorem dX4_tick_78 : decode cX4_tick 78 = .ok (.bipush 14, 2) := by decide +kernel
theorem dX4_tick_80 : decode cX4_tick 80 = .ok (.iaload, 1) := by decide +kernel
theorem dX4_tick_81 : decode cX4_tick 81 = .ok (.ldc 82, 2) := by decide +kernel
theorem dX4_tick_83 : decode cX4_tick 83 = .ok (.iand, 1) := by decide +kernel
theorem dX4_tick_84 : decode cX4_tick 84 = .ok (.goto 4, 3) := by decide +kernel
theorem dX4_tick_87 : decode cX4_tick 87 = .ok (.iconst 0, 1) := by decide +kernel
theorem dX4_tick_88 : decode cX4_tick 88 = .ok (.iastore, 1) := by decide +kernel
theorem dX4_tick_89 : decode cX4_tick 89 = .ok (.return_, 1) := by decide +kernel
set_option maxRecDepth 20000 in
theorem ggX4_step_X4_tick : GoodIn wsX4_step wsX4_tick := goodIn_r _ [11, 1, 12, 112, 113, 114, 115, 116, 117, 118, 119, 120, 121, 122, 123, 124, 125, 126, 127, 128, 129, 130, 131] (by decide +kernel) (by decide +kernel)
set_option maxRecDepth 20000 in
theorem gX4_step_X4_tick : GoodIn wsX4_step (wsV RX4 142 RX4 yX4_tick wsX4_tick) := goodIn_app (goodIn_of _ (by decide +kernel)) ggX4_step_X4_tick
set_option maxRecDepth 20000 in
theorem ggX4_step_X4_with : GoodIn wsX4_step wsX4_with := goodIn_r _ [16, 17, 18, 112, 113, 114, 115, 116, 117, 118, 119, 120, 121, 122, 123, 124, 125, 126, 127, 128, 129, 130, 131] (by decide +kernel) (by decide +kernel)
set_option maxRecDepth 20000 in
theorem gX4_step_X4_with : GoodIn wsX4_step (wsV RX4 55 RX4 yX4_with wsX4_with) := goodIn_app (goodIn_of _ (by decide +kernel)) ggX4_step_X4_with
set_option maxRecDepth 20000 in
theorem ggX4_step_X4_instruction : GoodIn wsX4_step wsX4_instruction := goodIn_r _ [22, 6, 23, 24, 5, 25, 26, 27, 28, 10, 29, 1, 30, 13, 14, 15, 16, 17, 18, 31, 32, 33, 34, 35, 36, 37, 38, 39, 40, 41, 42, 43, 44, 45, 46, 47, 48, 49, 50, 51, 52, 53, 54, 55, 56, 57, 58, 59, 60, 61, 62, 63, 64, 65, 66, 67, 68, 69, 70, 71, 72, 73, 74, 75, 76, 2, 77, 78, 79, 80, 81, 82, 83, 84, 85, 12, 86, 87, 88, 89, 90, 91, 92, 93, 94, 95, 96, 97, 98, 99, 100, 101, 102, 103, 104, 105, 106, 112, 113, 114, 115, 116, 117, 118, 119, 120, 121, 122, 123, 124, 125, 126, 127, 128, 129, 130, 131] (by decide +kernel) (by decide +kernel)
set_option maxRecDepth 20000 in
theorem gX4_step_X4_instruction : GoodIn wsX4_step (wsV RX4 145 RX4 yX4_instruction wsX4_instruction) := goodIn_app (goodIn_of _ (by decide +kernel)) ggX4_step_X4_instruction
set_option maxRecDepth 20000 in
theorem ggX4_step_X4_enter : GoodIn wsX4_step wsX4_enter := goodIn_r _ [110, 1, 6, 111, 17, 18, 112, 113, 114, 115, 116, 117, 118, 119, 120, 121, 122, 123, 124, 125, 126, 127, 128, 129, 130, 131] (by decide +kernel) (by decide +kernel)
set_option maxRecDepth 20000 in
theorem gX4_step_X4_enter : GoodIn wsX4_step (wsV RX4 154 RX4 yX4_enter wsX4_enter) := goodIn_app (goodIn_of _ (by decide +kernel)) ggX4_step_X4_enter
theorem dX4_step_0 : decode cX4_step 0 = .ok (.aload_n 0, 1) := by decide +kernel
theorem dX4_step_1 : decode cX4_step 1 = .ok (.getfield 16, 3) := by decide +kernel
theorem dX4_step_4 : decode cX4_step 4 = .ok (.iconst 2, 1) := by decide +kernel
theorem dX4_step_5 : decode cX4_step 5 = .ok (.iaload, 1) := by decide +kernel
theorem dX4_step_6 : decode cX4_step 6 = .ok (.aload_n 0, 1) := by decide +kernel
theorem dX4_step_7 : decode cX4_step 7 = .ok (.getfield 16, 3) := by decide +kernel
theorem dX4_step_10 : decode cX4_step 10 = .ok (.iconst 3, 1) := by decide +kernel
theorem dX4_step_11 : decode cX4_step 11 = .ok (.iaload, 1) := by decide +kernel
theorem dX4_step_12 : decode cX4_step 12 = .ok (.iand, 1) := by decide +kernel
theorem dX4_step_13 : decode cX4_step 13 = .ok (.bipush 31, 2) := by decide +kernel
theorem dX4_step_15 : decode cX4_step 15 = .ok (.iand, 1) := by decide +kernel
theorem dX4_step_16 : decode cX4_step 16 = .ok (.ifCond .eq 7, 3) := by decide +kernel
theorem dX4_step_19 : decode cX4_step 19 = .ok (.iconst 1, 1) := by decide +kernel
theorem dX4_step_20 : decode cX4_step 20 = .ok (.goto 4, 3) := by decide +kernel
theorem dX4_step_23 : decode cX4_step 23 = .ok (.iconst 0, 1) := by decide +kernel
theorem dX4_step_24 : decode cX4_step 24 = .ok (.istore_n 1, 1) := by decide +kernel
theorem dX4_step_25 : decode cX4_step 25 = .ok (.aload_n 0, 1) := by decide +kernel
theorem dX4_step_26 : decode cX4_step 26 = .ok (.getfield 127, 3) := by decide +kernel
theorem dX4_step_29 : decode cX4_step 29 = .ok (.ifCond .eq 21, 3) := by decide +kernel
theorem dX4_step_32 : decode cX4_step 32 = .ok (.aload_n 0, 1) := by decide +kernel
theorem dX4_step_33 : decode cX4_step 33 = .ok (.iload_n 1, 1) := by decide +kernel
theorem dX4_step_34 : decode cX4_step 34 = .ok (.ifCond .ne 7, 3) := by decide +kernel
theorem dX4_step_37 : decode cX4_step 37 = .ok (.iconst 1, 1) := by decide +kernel
theorem dX4_step_38 : decode cX4_step 38 = .ok (.goto 4, 3) := by decide +kernel
theorem dX4_step_41 : decode cX4_step 41 = .ok (.iconst 0, 1) := by decide +kernel
theorem dX4_step_42 : decode cX4_step 42 = .ok (.putfield 127, 3) := by decide +kernel
theorem dX4_step_45 : decode cX4_step 45 = .ok (.aload_n 0, 1) := by decide +kernel
theorem dX4_step_46 : decode cX4_step 46 = .ok (.invokevirtual 142, 3) := by decide +kernel
theorem dX4_step_49 : decode cX4_step 49 = .ok (.return_, 1) := by decide +kernel
theorem dX4_step_50 : decode cX4_step 50 = .ok (.iload_n 1, 1) := by decide +kernel
theorem dX4_step_51 : decode cX4_step 51 = .ok (.ifCond .eq 24, 3) := by decide +kernel
theorem dX4_step_54 : decode cX4_step 54 = .ok (.aload_n 0, 1) := by decide +kernel
theorem dX4_step_55 : decode cX4_step 55 = .ok (.getfield 16, 3) := by decide +kernel
theorem dX4_step_58 : decode cX4_step 58 = .ok (.iconst 0, 1) := by decide +kernel
theorem dX4_step_59 : decode cX4_step 59 = .ok (.iaload, 1) := by decide +kernel
theorem dX4_step_60 : decode cX4_step 60 = .ok (.iconst 4, 1) := by decide +kernel
theorem dX4_step_61 : decode cX4_step 61 = .ok (.iand, 1) := by decide +kernel
theorem dX4_step_62 : decode cX4_step 62 = .ok (.ifCond .eq 13, 3) := by decide +kernel
theorem dX4_step_65 : decode cX4_step 65 = .ok (.aload_n 0, 1) := by decide +kernel
theorem dX4_step_66 : decode cX4_step 66 = .ok (.iconst 0, 1) := by decide +kernel
theorem dX4_step_67 : decode cX4_step 67 = .ok (.iconst 0, 1) := by decide +kernel
theorem dX4_step_68 : decode cX4_step 68 = .ok (.iconst 0, 1) := by decide +kernel
theorem dX4_step_69 : decode cX4_step 69 = .ok (.invokevirtual 55, 3) := by decide +kernel
theorem dX4_step_72 : decode cX4_step 72 = .ok (.goto 7, 3) := by decide +kernel
theorem dX4_step_75 : decode cX4_step 75 = .ok (.aload_n 0, 1) := by decide +kernel
theorem dX4_step_76 : decode cX4_step 76 = .ok (.invokevirtual 145, 3) := by decide +kernel
theorem dX4_step_79 : decode cX4_step 79 = .ok (.istore_n 2, 1) := by decide +kernel
theorem dX4_step_80 : decode cX4_step 80 = .ok (.aload_n 0, 1) := by decide +kernel
theorem dX4_step_81 : decode cX4_step 81 = .ok (.iload_n 2, 1) := by decide +kernel
theorem dX4_step_82 : decode cX4_step 82 = .ok (.bipush (-2), 2) := by decide +kernel
theorem dX4_step_84 : decode cX4_step 84 = .ok (.if_icmp .ne 7, 3) := by decide +kernel
theorem dX4_step_87 : decode cX4_step 87 = .ok (.iconst 1, 1) := by decide +kernel
theorem dX4_step_88 : decode cX4_step 88 = .ok (.goto 4, 3) := by decide +kernel
theorem dX4_step_91 : decode cX4_step 91 = .ok (.iconst 0, 1) := by decide +kernel
theorem dX4_step_92 : decode cX4_step 92 = .ok (.putfield 148, 3) := by decide +kernel
theorem dX4_step_95 : decode cX4_step 95 = .ok (.aload_n 0, 1) := by decide +kernel
theorem dX4_step_96 : decode cX4_step 96 = .ok (.getfield 148, 3) := by decide +kernel
theorem dX4_step_99 : decode cX4_step 99 = .ok (.ifCond .eq 4, 3) := by decide +kernel
theorem dX4_step_102 : decode cX4_step 102 = .ok (.return_, 1) := by decide +kernel
theorem dX4_step_103 : decode cX4_step 103 = .ok (.aload_n 0, 1) := by decide +kernel
theorem dX4_step_104 : decode cX4_step 104 = .ok (.iload_n 2, 1) := by decide +kernel
theorem dX4_step_105 : decode cX4_step 105 = .ok (.iconst (-1), 1) := by decide +kernel
theorem dX4_step_106 : decode cX4_step 106 = .ok (.if_icmp .eq 7, 3) := by decide +kernel
theorem dX4_step_109 : decode cX4_step 109 = .ok (.iconst 1, 1) := by decide +kernel
theorem dX4_step_110 : decode cX4_step 110 = .ok (.goto 4, 3) := by decide +kernel
theorem dX4_step_113 : decode cX4_step 113 = .ok (.iconst 0, 1) := by decide +kernel
theorem dX4_step_114 : decode cX4_step 114 = .ok (.putfield 151, 3) := by decide +kernel
theorem dX4_step_117 : decode cX4_step 117 = .ok (.aload_n 0, 1) := by decide +kernel
theorem dX4_step_118 : decode cX4_step 118 = .ok (.getfield 151, 3) := by decide +kernel
theorem dX4_step_121 : decode cX4_step 121 = .ok (.ifCond .eq 11, 3) := by decide +kernel
theorem dX4_step_124 : decode cX4_step 124 = .ok (.aload_n 0, 1) := by decide +kernel
theorem dX4_step_125 : decode cX4_step 125 = .ok (.iload_n 2, 1) := by decide +kernel
theorem dX4_step_126 : decode cX4_step 126 = .ok (.invokevirtual 154, 3) := by decide +kernel
theorem dX4_step_129 : decode cX4_step 129 = .ok (.goto 11, 3) := by decide +kernel
theorem dX4_step_132 : decode cX4_step 132 = .ok (.aload_n 0, 1) := by decide +kernel
theorem dX4_step_133 : decode cX4_step 133 = .ok (.aload_n 0, 1) := by decide +kernel
theorem dX4_step_134 : decode cX4_step 134 = .ok (.getfield 100, 3) := by decide +kernel
theorem dX4_step_137 : decode cX4_step 137 = .ok (.putfield 51, 3) := by decide +kernel
theorem dX4_step_140 : decode cX4_step 140 = .ok (.aload_n 0, 1) := by decide +kernel
theorem dX4_step_141 : decode cX4_step 141 = .ok (.invokevirtual 142, 3) := by decide +kernel
theorem dX4_step_144 : decode cX4_step 144 = .ok (.return_, 1) := by decide +kernel
set_option maxRecDepth 20000 in
theorem ggX4_isWord_X4_outside : GoodIn wsX4_isWord wsX4_outside := goodIn_r _ [4] (by decide +kernel) (by decide +kernel)
set_option maxRecDepth 20000 in
theorem gX4_isWord_X4_outside : GoodIn wsX4_isWord (va_wsS RX4 71 yX4_outside wsX4_outside) := goodIn_app (goodIn_of _ (by decide +kernel)) ggX4_isWord_X4_outside
theorem dX4_isWord_0 : decode cX4_isWord 0 = .ok (.iload_n 0, 1) := by decide +kernel
theorem dX4_isWord_1 : decode cX4_isWord 1 = .ok (.iconst 0, 1) := by decide +kernel
theorem dX4_isWord_2 : decode cX4_isWord 2 = .ok (.sipush 2047, 3) := by decide +kernel
theorem dX4_isWord_5 : decode cX4_isWord 5 = .ok (.invokestatic 71, 3) := by decide +kernel
theorem dX4_isWord_8 : decode cX4_isWord 8 = .ok (.ifCond .ne 13, 3) := by decide +kernel
theorem dX4_isWord_11 : decode cX4_isWord 11 = .ok (.iload_n 0, 1) := by decide +kernel
theorem dX4_isWord_12 : decode cX4_isWord 12 = .ok (.iconst 4, 1) := by decide +kernel
theorem dX4_isWord_13 : decode cX4_isWord 13 = .ok (.irem, 1) := by decide +kernel
theorem dX4_isWord_14 : decode cX4_isWord 14 = .ok (.ifCond .ne 7, 3) := by decide +kernel
theorem dX4_isWord_17 : decode cX4_isWord 17 = .ok (.iconst 1, 1) := by decide +kernel
theorem dX4_isWord_18 : decode cX4_isWord 18 = .ok (.goto 4, 3) := by decide +kernel
theorem dX4_isWord_21 : decode cX4_isWord 21 = .ok (.iconst 0, 1) := by decide +kernel
theorem dX4_isWord_22 : decode cX4_isWord 22 = .ok (.ireturn, 1) := by decide +kernel
set_option maxRecDepth 20000 in
theorem ggX4_load_X4_isWord : GoodIn wsX4_load wsX4_isWord := goodIn_r _ [6, 7, 8, 5, 9] (by decide +kernel) (by decide +kernel)
set_option maxRecDepth 20000 in
theorem gX4_load_X4_isWord : GoodIn wsX4_load (va_wsS RX4 157 yX4_isWord wsX4_isWord) := goodIn_app (goodIn_of _ (by decide +kernel)) ggX4_load_X4_isWord
theorem dX4_load_0 : decode cX4_load 0 = .ok (.aload_n 0, 1) := by decide +kernel
theorem dX4_load_1 : decode cX4_load 1 = .ok (.iload_n 1, 1) := by decide +kernel
theorem dX4_load_2 : decode cX4_load 2 = .ok (.invokestatic 157, 3) := by decide +kernel
theorem dX4_load_5 : decode cX4_load 5 = .ok (.ifCond .eq 7, 3) := by decide +kernel
theorem dX4_load_8 : decode cX4_load 8 = .ok (.iconst 0, 1) := by decide +kernel
theorem dX4_load_9 : decode cX4_load 9 = .ok (.goto 4, 3) := by decide +kernel
theorem dX4_load_12 : decode cX4_load 12 = .ok (.iconst 1, 1) := by decide +kernel
theorem dX4_load_13 : decode cX4_load 13 = .ok (.putfield 41, 3) := by decide +kernel
theorem dX4_load_16 : decode cX4_load 16 = .ok (.aload_n 0, 1) := by decide +kernel
theorem dX4_load_17 : decode cX4_load 17 = .ok (.getfield 41, 3) := by decide +kernel
theorem dX4_load_20 : decode cX4_load 20 = .ok (.ifCond .ne 12, 3) := by decide +kernel
theorem dX4_load_23 : decode cX4_load 23 = .ok (.aload_n 0, 1) := by decide +kernel
theorem dX4_load_24 : decode cX4_load 24 = .ok (.getfield 7, 3) := by decide +kernel
theorem dX4_load_27 : decode cX4_load 27 = .ok (.iload_n 1, 1) := by decide +kernel
theorem dX4_load_28 : decode cX4_load 28 = .ok (.iconst 4, 1) := by decide +kernel
theorem dX4_load_29 : decode cX4_load 29 = .ok (.idiv, 1) := by decide +kernel
theorem dX4_load_30 : decode cX4_load 30 = .ok (.iload_n 2, 1) := by decide +kernel
theorem dX4_load_31 : decode cX4_load 31 = .ok (.iastore, 1) := by decide +kernel
theorem dX4_load_32 : decode cX4_load 32 = .ok (.return_, 1) := by decide +kernel
set_option maxRecDepth 20000 in
theorem ggX4_word_X4_isWord : GoodIn wsX4_word wsX4_isWord := goodIn_r _ [6, 7, 8, 5, 9] (by decide +kernel) (by decide +kernel)
set_option maxRecDepth 20000 in
theorem gX4_word_X4_isWord : GoodIn wsX4_word (va_wsS RX4 157 yX4_isWord wsX4_isWord) := goodIn_app (goodIn_of _ (by decide +kernel)) ggX4_word_X4_isWord
set_option maxRecDepth 20000 in
theorem ggX4_word_X4_refuse : GoodIn wsX4_word wsX4_refuse := goodIn_r _ [13, 1, 14, 15, 16, 17, 18, 19, 20, 21, 22, 23, 24, 25, 26, 27, 28, 29, 30, 31, 32, 33] (by decide +kernel) (by decide +kernel)
set_option maxRecDepth 20000 in
theorem gX4_word_X4_refuse : GoodIn wsX4_word (wsV RX4 161 RX4 yX4_refuse wsX4_refuse) := goodIn_app (goodIn_of _ (by decide +kernel)) ggX4_word_X4_refuse
theorem dX4_word_0 : decode cX4_word 0 = .ok (.iload_n 1, 1) := by decide +kernel
theorem dX4_word_1 : decode cX4_word 1 = .ok (.invokestatic 157, 3) := by decide +kernel
theorem dX4_word_4 : decode cX4_word 4 = .ok (.ifCond .ne 9, 3) := by decide +kernel
theorem dX4_word_7 : decode cX4_word 7 = .ok (.aload_n 0, 1) := by decide +kernel
theorem dX4_word_8 : decode cX4_word 8 = .ok (.iconst 1, 1) := by decide +kernel
theorem dX4_word_9 : decode cX4_word 9 = .ok (.invokevirtual 161, 3) := by decide +kernel
theorem dX4_word_12 : decode cX4_word 12 = .ok (.ireturn, 1) := by decide +kernel
theorem dX4_word_13 : decode cX4_word 13 = .ok (.aload_n 0, 1) := by decide +kernel
theorem dX4_word_14 : decode cX4_word 14 = .ok (.iconst 0, 1) := by decide +kernel
theorem dX4_word_15 : decode cX4_word 15 = .ok (.putfield 41, 3) := by decide +kernel
theorem dX4_word_18 : decode cX4_word 18 = .ok (.aload_n 0, 1) := by decide +kernel
theorem dX4_word_19 : decode cX4_word 19 = .ok (.getfield 7, 3) := by decide +kernel
theorem dX4_word_22 : decode cX4_word 22 = .ok (.iload_n 1, 1) := by decide +kernel
theorem dX4_word_23 : decode cX4_word 23 = .ok (.iconst 4, 1) := by decide +kernel
theorem dX4_word_24 : decode cX4_word 24 = .ok (.idiv, 1) := by decide +kernel
theorem dX4_word_25 : decode cX4_word 25 = .ok (.iaload, 1) := by decide +kernel
theorem dX4_word_26 : decode cX4_word 26 = .ok (.ireturn, 1) := by decide +kernel
set_option maxRecDepth 20000 in
theorem ggX4_line_X4_outside : GoodIn wsX4_line wsX4_outside := goodIn_r _ [6] (by decide +kernel) (by decide +kernel)
set_option maxRecDepth 20000 in
theorem gX4_line_X4_outside : GoodIn wsX4_line (va_wsS RX4 71 yX4_outside wsX4_outside) := goodIn_app (goodIn_of _ (by decide +kernel)) ggX4_line_X4_outside
theorem dX4_line_0 : decode cX4_line 0 = .ok (.aload_n 0, 1) := by decide +kernel
theorem dX4_line_1 : decode cX4_line 1 = .ok (.iload_n 1, 1) := by decide +kernel
theorem dX4_line_2 : decode cX4_line 2 = .ok (.iconst 0, 1) := by decide +kernel
theorem dX4_line_3 : decode cX4_line 3 = .ok (.iconst 3, 1) := by decide +kernel
theorem dX4_line_4 : decode cX4_line 4 = .ok (.invokestatic 71, 3) := by decide +kernel
theorem dX4_line_7 : decode cX4_line 7 = .ok (.ifCond .eq 7, 3) := by decide +kernel
theorem dX4_line_10 : decode cX4_line 10 = .ok (.iconst 1, 1) := by decide +kernel
theorem dX4_line_11 : decode cX4_line 11 = .ok (.goto 4, 3) := by decide +kernel
theorem dX4_line_14 : decode cX4_line 14 = .ok (.iconst 0, 1) := by decide +kernel
theorem dX4_line_15 : decode cX4_line 15 = .ok (.putfield 41, 3) := by decide +kernel
theorem dX4_line_18 : decode cX4_line 18 = .ok (.aload_n 0, 1) := by decide +kernel
theorem dX4_line_19 : decode cX4_line 19 = .ok (.getfield 41, 3) := by decide +kernel
theorem dX4_line_22 : decode cX4_line 22 = .ok (.ifCond .ne 38, 3) := by decide +kernel
theorem dX4_line_25 : decode cX4_line 25 = .ok (.aload_n 0, 1) := by decide +kernel
theorem dX4_line_26 : decode cX4_line 26 = .ok (.getfield 16, 3) := by decide +kernel
theorem dX4_line_29 : decode cX4_line 29 = .ok (.iconst 3, 1) := by decide +kernel
theorem dX4_line_30 : decode cX4_line 30 = .ok (.iload_n 2, 1) := by decide +kernel
theorem dX4_line_31 : decode cX4_line 31 = .ok (.ifCond .eq 16, 3) := by decide +kernel
theorem dX4_line_34 : decode cX4_line 34 = .ok (.aload_n 0, 1) := by decide +kernel
theorem dX4_line_35 : decode cX4_line 35 = .ok (.getfield 16, 3) := by decide +kernel
theorem dX4_line_38 : decode cX4_line 38 = .ok (.iconst 3, 1) := by decide +kernel
theorem dX4_line_39 : decode cX4_line 39 = .ok (.iaload, 1) := by decide +kernel
theorem dX4_line_40 : decode cX4_line 40 = .ok (.iconst 1, 1) := by decide +kernel
theorem dX4_line_41 : decode cX4_line 41 = .ok (.iload_n 1, 1) := by decide +kernel
theorem dX4_line_42 : decode cX4_line 42 = .ok (.ishl, 1) := by decide +kernel
theorem dX4_line_43 : decode cX4_line 43 = .ok (.ior, 1) := by decide +kernel
theorem dX4_line_44 : decode cX4_line 44 = .ok (.goto 15, 3) := by decide +kernel
theorem dX4_line_47 : decode cX4_line 47 = .ok (.aload_n 0, 1) := by decide +kernel
theorem dX4_line_48 : decode cX4_line 48 = .ok (.getfield 16, 3) := by decide +kernel
theorem dX4_line_51 : decode cX4_line 51 = .ok (.iconst 3, 1) := by decide +kernel
theorem dX4_line_52 : decode cX4_line 52 = .ok (.iaload, 1) := by decide +kernel
theorem dX4_line_53 : decode cX4_line 53 = .ok (.iconst 1, 1) := by decide +kernel
theorem dX4_line_54 : decode cX4_line 54 = .ok (.iload_n 1, 1) := by decide +kernel
theorem dX4_line_55 : decode cX4_line 55 = .ok (.ishl, 1) := by decide +kernel
theorem dX4_line_56 : decode cX4_line 56 = .ok (.iconst (-1), 1) := by decide +kernel
theorem dX4_line_57 : decode cX4_line 57 = .ok (.ixor, 1) := by decide +kernel
theorem dX4_line_58 : decode cX4_line 58 = .ok (.iand, 1) := by decide +kernel
theorem dX4_line_59 : decode cX4_line 59 = .ok (.iastore, 1) := by decide +kernel
theorem dX4_line_60 : decode cX4_line 60 = .ok (.return_, 1) := by decide +kernel
theorem dX4_filled_0 : decode cX4_filled 0 = .ok (.aload_n 0, 1) := by decide +kernel
theorem dX4_filled_1 : decode cX4_filled 1 = .ok (.iconst 0, 1) := by decide +kernel
theorem dX4_filled_2 : decode cX4_filled 2 = .ok (.putfield 41, 3) := by decide +kernel
theorem dX4_filled_5 : decode cX4_filled 5 = .ok (.aload_n 0, 1) := by decide +kernel
theorem dX4_filled_6 : decode cX4_filled 6 = .ok (.iload_n 1, 1) := by decide +kernel
theorem dX4_filled_7 : decode cX4_filled 7 = .ok (.iconst 3, 1) := by decide +kernel
theorem dX4_filled_8 : decode cX4_filled 8 = .ok (.iand, 1) := by decide +kernel
theorem dX4_filled_9 : decode cX4_filled 9 = .ok (.putfield 124, 3) := by decide +kernel
theorem dX4_filled_12 : decode cX4_filled 12 = .ok (.return_, 1) := by decide +kernel
theorem dX4_jump_0 : decode cX4_jump 0 = .ok (.aload_n 0, 1) := by decide +kernel
theorem dX4_jump_1 : decode cX4_jump 1 = .ok (.iconst 0, 1) := by decide +kernel
theorem dX4_jump_2 : decode cX4_jump 2 = .ok (.putfield 41, 3) := by decide +kernel
theorem dX4_jump_5 : decode cX4_jump 5 = .ok (.aload_n 0, 1) := by decide +kernel
theorem dX4_jump_6 : decode cX4_jump 6 = .ok (.iload_n 1, 1) := by decide +kernel
theorem dX4_jump_7 : decode cX4_jump 7 = .ok (.putfield 51, 3) := by decide +kernel
theorem dX4_jump_10 : decode cX4_jump 10 = .ok (.aload_n 0, 1) := by decide +kernel
theorem dX4_jump_11 : decode cX4_jump 11 = .ok (.iconst 0, 1) := by decide +kernel
theorem dX4_jump_12 : decode cX4_jump 12 = .ok (.putfield 148, 3) := by decide +kernel
theorem dX4_jump_15 : decode cX4_jump 15 = .ok (.aload_n 0, 1) := by decide +kernel
theorem dX4_jump_16 : decode cX4_jump 16 = .ok (.iconst 0, 1) := by decide +kernel
theorem dX4_jump_17 : decode cX4_jump 17 = .ok (.putfield 127, 3) := by decide +kernel
theorem dX4_jump_20 : decode cX4_jump 20 = .ok (.return_, 1) := by decide +kernel
set_option maxRecDepth 20000 in
theorem ggX4_run_X4_step : GoodIn wsX4_run wsX4_step := goodIn_r _ [8, 9, 10, 3, 2, 11, 12, 13, 14, 15, 7, 16, 17, 18, 19, 20, 21, 22, 23, 24, 25, 26, 27, 28, 29, 30, 31, 32, 33, 34, 35, 36, 37, 38, 39, 40, 41, 42, 43, 44, 45, 46, 47, 48, 49, 50, 51, 52, 53, 54, 55, 56, 57, 58, 59, 60, 61, 62, 63, 64, 65, 66, 67, 68, 69, 70, 71, 72, 73, 74, 75, 76, 77, 78, 79, 80, 81, 82, 83, 84, 85, 86, 87, 88, 89, 90, 91, 92, 93, 94, 95, 96, 97, 98, 99, 100, 101, 102, 103, 104, 105, 106, 107, 108, 109, 110, 111, 112, 113, 114, 115, 116, 117, 118, 119, 120, 121, 122, 123, 124, 125, 126, 127, 128, 129, 130, 131, 132, 133, 134, 135, 136] (by decide +kernel) (by decide +kernel)
set_option maxRecDepth 20000 in
theorem gX4_run_X4_step : GoodIn wsX4_run (wsV RX4 164 RX4 yX4_step wsX4_step) := goodIn_app (goodIn_of _ (by decide +kernel)) ggX4_run_X4_step
theorem dX4_run_0 : decode cX4_run 0 = .ok (.aload_n 0, 1) := by decide +kernel
theorem dX4_run_1 : decode cX4_run 1 = .ok (.iconst 0, 1) := by decide +kernel
theorem dX4_run_2 : decode cX4_run 2 = .ok (.putfield 41, 3) := by decide +kernel
theorem dX4_run_5 : decode cX4_run 5 = .ok (.iconst 0, 1) := by decide +kernel
theorem dX4_run_6 : decode cX4_run 6 = .ok (.istore_n 2, 1) := by decide +kernel
theorem dX4_run_7 : decode cX4_run 7 = .ok (.aload_n 0, 1) := by decide +kernel
theorem dX4_run_8 : decode cX4_run 8 = .ok (.iconst 0, 1) := by decide +kernel
theorem dX4_run_9 : decode cX4_run 9 = .ok (.putfield 151, 3) := by decide +kernel
theorem dX4_run_12 : decode cX4_run 12 = .ok (.iconst 0, 1) := by decide +kernel
theorem dX4_run_13 : decode cX4_run 13 = .ok (.istore_n 3, 1) := by decide +kernel
theorem dX4_run_14 : decode cX4_run 14 = .ok (.iload_n 3, 1) := by decide +kernel
theorem dX4_run_15 : decode cX4_run 15 = .ok (.iload_n 1, 1) := by decide +kernel
theorem dX4_run_16 : decode cX4_run 16 = .ok (.if_icmp .ge 37, 3) := by decide +kernel
theorem dX4_run_19 : decode cX4_run 19 = .ok (.iload_n 3, 1) := by decide +kernel
theorem dX4_run_20 : decode cX4_run 20 = .ok (.sipush 2000, 3) := by decide +kernel
theorem dX4_run_23 : decode cX4_run 23 = .ok (.if_icmp .ge 30, 3) := by decide +kernel
theorem dX4_run_26 : decode cX4_run 26 = .ok (.aload_n 0, 1) := by decide +kernel
theorem dX4_run_27 : decode cX4_run 27 = .ok (.getfield 148, 3) := by decide +kernel
theorem dX4_run_30 : decode cX4_run 30 = .ok (.ifCond .ne 23, 3) := by decide +kernel
theorem dX4_run_33 : decode cX4_run 33 = .ok (.aload_n 0, 1) := by decide +kernel
theorem dX4_run_34 : decode cX4_run 34 = .ok (.getfield 151, 3) := by decide +kernel
theorem dX4_run_37 : decode cX4_run 37 = .ok (.ifCond .ne 16, 3) := by decide +kernel
theorem dX4_run_40 : decode cX4_run 40 = .ok (.aload_n 0, 1) := by decide +kernel
theorem dX4_run_41 : decode cX4_run 41 = .ok (.invokevirtual 164, 3) := by decide +kernel
theorem dX4_run_44 : decode cX4_run 44 = .ok (.iinc 2 1, 3) := by decide +kernel
theorem dX4_run_47 : decode cX4_run 47 = .ok (.iinc 3 1, 3) := by decide +kernel
theorem dX4_run_50 : decode cX4_run 50 = .ok (.goto (-36), 3) := by decide +kernel
theorem dX4_run_53 : decode cX4_run 53 = .ok (.iload_n 2, 1) := by decide +kernel
theorem dX4_run_54 : decode cX4_run 54 = .ok (.ireturn, 1) := by decide +kernel
theorem dX4_state_0 : decode cX4_state 0 = .ok (.aload_n 0, 1) := by decide +kernel
theorem dX4_state_1 : decode cX4_state 1 = .ok (.iconst 0, 1) := by decide +kernel
theorem dX4_state_2 : decode cX4_state 2 = .ok (.putfield 41, 3) := by decide +kernel
theorem dX4_state_5 : decode cX4_state 5 = .ok (.aload_n 0, 1) := by decide +kernel
theorem dX4_state_6 : decode cX4_state 6 = .ok (.getfield 148, 3) := by decide +kernel
theorem dX4_state_9 : decode cX4_state 9 = .ok (.ifCond .eq 7, 3) := by decide +kernel
theorem dX4_state_12 : decode cX4_state 12 = .ok (.iconst 2, 1) := by decide +kernel
theorem dX4_state_13 : decode cX4_state 13 = .ok (.goto 15, 3) := by decide +kernel
theorem dX4_state_16 : decode cX4_state 16 = .ok (.aload_n 0, 1) := by decide +kernel
theorem dX4_state_17 : decode cX4_state 17 = .ok (.getfield 127, 3) := by decide +kernel
theorem dX4_state_20 : decode cX4_state 20 = .ok (.ifCond .eq 7, 3) := by decide +kernel
theorem dX4_state_23 : decode cX4_state 23 = .ok (.iconst 1, 1) := by decide +kernel
theorem dX4_state_24 : decode cX4_state 24 = .ok (.goto 4, 3) := by decide +kernel
theorem dX4_state_27 : decode cX4_state 27 = .ok (.iconst 0, 1) := by decide +kernel
theorem dX4_state_28 : decode cX4_state 28 = .ok (.ireturn, 1) := by decide +kernel
set_option maxRecDepth 20000 in
theorem ggX4_register_X4_outside : GoodIn wsX4_register wsX4_outside := goodIn_r _ [8] (by decide +kernel) (by decide +kernel)
set_option maxRecDepth 20000 in
theorem gX4_register_X4_outside : GoodIn wsX4_register (va_wsS RX4 71 yX4_outside wsX4_outside) := goodIn_app (goodIn_of _ (by decide +kernel)) ggX4_register_X4_outside
set_option maxRecDepth 20000 in
theorem ggX4_register_X4_refuse : GoodIn wsX4_register wsX4_refuse := goodIn_r _ [12, 1, 13, 14, 15, 16, 17, 18, 19, 20, 21, 22, 23, 24, 25, 26, 27, 28, 29, 30, 31, 32] (by decide +kernel) (by decide +kernel)
set_option maxRecDepth 20000 in
theorem gX4_register_X4_refuse : GoodIn wsX4_register (wsV RX4 161 RX4 yX4_refuse wsX4_refuse) := goodIn_app (goodIn_of _ (by decide +kernel)) ggX4_register_X4_refuse
theorem dX4_register_0 : decode cX4_register 0 = .ok (.iload_n 1, 1) := by decide +kernel
theorem dX4_register_1 : decode cX4_register 1 = .ok (.iconst 0, 1) := by decide +kernel
theorem dX4_register_2 : decode cX4_register 2 = .ok (.bipush 9, 2) := by decide +kernel
theorem dX4_register_4 : decode cX4_register 4 = .ok (.invokestatic 71, 3) := by decide +kernel
theorem dX4_register_7 : decode cX4_register 7 = .ok (.ifCond .eq 9, 3) := by decide +kernel
theorem dX4_register_10 : decode cX4_register 10 = .ok (.aload_n 0, 1) := by decide +kernel
theorem dX4_register_11 : decode cX4_register 11 = .ok (.iconst 1, 1) := by decide +kernel
theorem dX4_register_12 : decode cX4_register 12 = .ok (.invokevirtual 161, 3) := by decide +kernel
theorem dX4_register_15 : decode cX4_register 15 = .ok (.ireturn, 1) := by decide +kernel
theorem dX4_register_16 : decode cX4_register 16 = .ok (.aload_n 0, 1) := by decide +kernel
theorem dX4_register_17 : decode cX4_register 17 = .ok (.iconst 0, 1) := by decide +kernel
theorem dX4_register_18 : decode cX4_register 18 = .ok (.putfield 41, 3) := by decide +kernel
theorem dX4_register_21 : decode cX4_register 21 = .ok (.iload_n 1, 1) := by decide +kernel
theorem dX4_register_22 : decode cX4_register 22 = .ok (.bipush 8, 2) := by decide +kernel
theorem dX4_register_24 : decode cX4_register 24 = .ok (.if_icmp .ge 12, 3) := by decide +kernel
theorem dX4_register_27 : decode cX4_register 27 = .ok (.aload_n 0, 1) := by decide +kernel
theorem dX4_register_28 : decode cX4_register 28 = .ok (.getfield 13, 3) := by decide +kernel
theorem dX4_register_31 : decode cX4_register 31 = .ok (.iload_n 1, 1) := by decide +kernel
theorem dX4_register_32 : decode cX4_register 32 = .ok (.iaload, 1) := by decide +kernel
theorem dX4_register_33 : decode cX4_register 33 = .ok (.goto 28, 3) := by decide +kernel
theorem dX4_register_36 : decode cX4_register 36 = .ok (.iload_n 1, 1) := by decide +kernel
theorem dX4_register_37 : decode cX4_register 37 = .ok (.bipush 8, 2) := by decide +kernel
theorem dX4_register_39 : decode cX4_register 39 = .ok (.if_icmp .ne 10, 3) := by decide +kernel
theorem dX4_register_42 : decode cX4_register 42 = .ok (.aload_n 0, 1) := by decide +kernel
theorem dX4_register_43 : decode cX4_register 43 = .ok (.getfield 51, 3) := by decide +kernel
theorem dX4_register_46 : decode cX4_register 46 = .ok (.goto 15, 3) := by decide +kernel
theorem dX4_register_49 : decode cX4_register 49 = .ok (.aload_n 0, 1) := by decide +kernel
theorem dX4_register_50 : decode cX4_register 50 = .ok (.getfield 89, 3) := by decide +kernel
theorem dX4_register_53 : decode cX4_register 53 = .ok (.ifCond .eq 7, 3) := by decide +kernel
theorem dX4_register_56 : decode cX4_register 56 = .ok (.iconst 1, 1) := by decide +kernel
theorem dX4_register_57 : decode cX4_register 57 = .ok (.goto 4, 3) := by decide +kernel
theorem dX4_register_60 : decode cX4_register 60 = .ok (.iconst 0, 1) := by decide +kernel
theorem dX4_register_61 : decode cX4_register 61 = .ok (.ireturn, 1) := by decide +kernel
set_option maxRecDepth 20000 in
theorem ggX4_control_X4_outside : GoodIn wsX4_control wsX4_outside := goodIn_r _ [6] (by decide +kernel) (by decide +kernel)
set_option maxRecDepth 20000 in
theorem gX4_control_X4_outside : GoodIn wsX4_control (va_wsS RX4 71 yX4_outside wsX4_outside) := goodIn_app (goodIn_of _ (by decide +kernel)) ggX4_control_X4_outside
set_option maxRecDepth 20000 in
theorem ggX4_control_X4_refuse : GoodIn wsX4_control wsX4_refuse := goodIn_r _ [10, 1, 11, 12, 13, 14, 15, 16, 17, 18, 19, 20, 21, 22, 23, 24, 25, 26, 27, 28, 29, 30] (by decide +kernel) (by decide +kernel)
set_option maxRecDepth 20000 in
theorem gX4_control_X4_refuse : GoodIn wsX4_control (wsV RX4 161 RX4 yX4_refuse wsX4_refuse) := goodIn_app (goodIn_of _ (by decide +kernel)) ggX4_control_X4_refuse
theorem dX4_control_0 : decode cX4_control 0 = .ok (.iload_n 1, 1) := by decide +kernel
theorem dX4_control_1 : decode cX4_control 1 = .ok (.iconst 0, 1) := by decide +kernel
theorem dX4_control_2 : decode cX4_control 2 = .ok (.bipush 17, 2) := by decide +kernel
theorem dX4_control_4 : decode cX4_control 4 = .ok (.invokestatic 71, 3) := by decide +kernel
theorem dX4_control_7 : decode cX4_control 7 = .ok (.ifCond .eq 9, 3) := by decide +kernel
theorem dX4_control_10 : decode cX4_control 10 = .ok (.aload_n 0, 1) := by decide +kernel
theorem dX4_control_11 : decode cX4_control 11 = .ok (.iconst 1, 1) := by decide +kernel
theorem dX4_control_12 : decode cX4_control 12 = .ok (.invokevirtual 161, 3) := by decide +kernel
theorem dX4_control_15 : decode cX4_control 15 = .ok (.ireturn, 1) := by decide +kernel
theorem dX4_control_16 : decode cX4_control 16 = .ok (.aload_n 0, 1) := by decide +kernel
theorem dX4_control_17 : decode cX4_control 17 = .ok (.iconst 0, 1) := by decide +kernel
theorem dX4_control_18 : decode cX4_control 18 = .ok (.putfield 41, 3) := by decide +kernel
theorem dX4_control_21 : decode cX4_control 21 = .ok (.aload_n 0, 1) := by decide +kernel
theorem dX4_control_22 : decode cX4_control 22 = .ok (.getfield 16, 3) := by decide +kernel
theorem dX4_control_25 : decode cX4_control 25 = .ok (.iload_n 1, 1) := by decide +kernel
theorem dX4_control_26 : decode cX4_control 26 = .ok (.iaload, 1) := by decide +kernel
theorem dX4_control_27 : decode cX4_control 27 = .ok (.ireturn, 1) := by decide +kernel
set_option maxRecDepth 20000 in
theorem ggX4_entry_X4_outside : GoodIn wsX4_entry wsX4_outside := goodIn_r _ [10] (by decide +kernel) (by decide +kernel)
set_option maxRecDepth 20000 in
theorem gX4_entry_X4_outside : GoodIn wsX4_entry (va_wsS RX4 71 yX4_outside wsX4_outside) := goodIn_app (goodIn_of _ (by decide +kernel)) ggX4_entry_X4_outside
set_option maxRecDepth 20000 in
theorem ggX4_entry_X4_refuse : GoodIn wsX4_entry wsX4_refuse := goodIn_r _ [14, 1, 15, 16, 17, 18, 19, 20, 21, 22, 23, 24, 25, 26, 27, 28, 29, 30, 31, 32, 33, 34] (by decide +kernel) (by decide +kernel)
set_option maxRecDepth 20000 in
theorem gX4_entry_X4_refuse : GoodIn wsX4_entry (wsV RX4 161 RX4 yX4_refuse wsX4_refuse) := goodIn_app (goodIn_of _ (by decide +kernel)) ggX4_entry_X4_refuse
theorem dX4_entry_0 : decode cX4_entry 0 = .ok (.iload_n 1, 1) := by decide +kernel
theorem dX4_entry_1 : decode cX4_entry 1 = .ok (.iconst 0, 1) := by decide +kernel
theorem dX4_entry_2 : decode cX4_entry 2 = .ok (.iconst 3, 1) := by decide +kernel
theorem dX4_entry_3 : decode cX4_entry 3 = .ok (.invokestatic 71, 3) := by decide +kernel
theorem dX4_entry_6 : decode cX4_entry 6 = .ok (.ifCond .ne 12, 3) := by decide +kernel
theorem dX4_entry_9 : decode cX4_entry 9 = .ok (.iload_n 2, 1) := by decide +kernel
theorem dX4_entry_10 : decode cX4_entry 10 = .ok (.iconst 0, 1) := by decide +kernel
theorem dX4_entry_11 : decode cX4_entry 11 = .ok (.iconst 5, 1) := by decide +kernel
theorem dX4_entry_12 : decode cX4_entry 12 = .ok (.invokestatic 71, 3) := by decide +kernel
theorem dX4_entry_15 : decode cX4_entry 15 = .ok (.ifCond .eq 9, 3) := by decide +kernel
theorem dX4_entry_18 : decode cX4_entry 18 = .ok (.aload_n 0, 1) := by decide +kernel
theorem dX4_entry_19 : decode cX4_entry 19 = .ok (.iconst 1, 1) := by decide +kernel
theorem dX4_entry_20 : decode cX4_entry 20 = .ok (.invokevirtual 161, 3) := by decide +kernel
theorem dX4_entry_23 : decode cX4_entry 23 = .ok (.ireturn, 1) := by decide +kernel
theorem dX4_entry_24 : decode cX4_entry 24 = .ok (.aload_n 0, 1) := by decide +kernel
theorem dX4_entry_25 : decode cX4_entry 25 = .ok (.iconst 0, 1) := by decide +kernel
theorem dX4_entry_26 : decode cX4_entry 26 = .ok (.putfield 41, 3) := by decide +kernel
theorem dX4_entry_29 : decode cX4_entry 29 = .ok (.iload_n 2, 1) := by decide +kernel
theorem dX4_entry_30 : decode cX4_entry 30 = .ok (.iconst 3, 1) := by decide +kernel
theorem dX4_entry_31 : decode cX4_entry 31 = .ok (.if_icmp .le 16, 3) := by decide +kernel
theorem dX4_entry_34 : decode cX4_entry 34 = .ok (.aload_n 0, 1) := by decide +kernel
theorem dX4_entry_35 : decode cX4_entry 35 = .ok (.getfield 38, 3) := by decide +kernel
theorem dX4_entry_38 : decode cX4_entry 38 = .ok (.iconst 2, 1) := by decide +kernel
theorem dX4_entry_39 : decode cX4_entry 39 = .ok (.iload_n 1, 1) := by decide +kernel
theorem dX4_entry_40 : decode cX4_entry 40 = .ok (.imul, 1) := by decide +kernel
theorem dX4_entry_41 : decode cX4_entry 41 = .ok (.iload_n 2, 1) := by decide +kernel
theorem dX4_entry_42 : decode cX4_entry 42 = .ok (.iadd, 1) := by decide +kernel
theorem dX4_entry_43 : decode cX4_entry 43 = .ok (.iconst 4, 1) := by decide +kernel
theorem dX4_entry_44 : decode cX4_entry 44 = .ok (.isub, 1) := by decide +kernel
theorem dX4_entry_45 : decode cX4_entry 45 = .ok (.iaload, 1) := by decide +kernel
theorem dX4_entry_46 : decode cX4_entry 46 = .ok (.ireturn, 1) := by decide +kernel
theorem dX4_entry_47 : decode cX4_entry 47 = .ok (.iload_n 2, 1) := by decide +kernel
theorem dX4_entry_48 : decode cX4_entry 48 = .ok (.ifCond .ne 20, 3) := by decide +kernel
theorem dX4_entry_51 : decode cX4_entry 51 = .ok (.aload_n 0, 1) := by decide +kernel
theorem dX4_entry_52 : decode cX4_entry 52 = .ok (.getfield 25, 3) := by decide +kernel
theorem dX4_entry_55 : decode cX4_entry 55 = .ok (.iload_n 1, 1) := by decide +kernel
theorem dX4_entry_56 : decode cX4_entry 56 = .ok (.baload, 1) := by decide +kernel
theorem dX4_entry_57 : decode cX4_entry 57 = .ok (.ifCond .eq 7, 3) := by decide +kernel
theorem dX4_entry_60 : decode cX4_entry 60 = .ok (.iconst 1, 1) := by decide +kernel
theorem dX4_entry_61 : decode cX4_entry 61 = .ok (.goto 49, 3) := by decide +kernel
theorem dX4_entry_64 : decode cX4_entry 64 = .ok (.iconst 0, 1) := by decide +kernel
theorem dX4_entry_65 : decode cX4_entry 65 = .ok (.goto 45, 3) := by decide +kernel
theorem dX4_entry_68 : decode cX4_entry 68 = .ok (.iload_n 2, 1) := by decide +kernel
theorem dX4_entry_69 : decode cX4_entry 69 = .ok (.iconst 1, 1) := by decide +kernel
theorem dX4_entry_70 : decode cX4_entry 70 = .ok (.if_icmp .ne 12, 3) := by decide +kernel
theorem dX4_entry_73 : decode cX4_entry 73 = .ok (.aload_n 0, 1) := by decide +kernel
theorem dX4_entry_74 : decode cX4_entry 74 = .ok (.getfield 32, 3) := by decide +kernel
theorem dX4_entry_77 : decode cX4_entry 77 = .ok (.iload_n 1, 1) := by decide +kernel
theorem dX4_entry_78 : decode cX4_entry 78 = .ok (.iaload, 1) := by decide +kernel
theorem dX4_entry_79 : decode cX4_entry 79 = .ok (.goto 31, 3) := by decide +kernel
theorem dX4_entry_82 : decode cX4_entry 82 = .ok (.iload_n 2, 1) := by decide +kernel
theorem dX4_entry_83 : decode cX4_entry 83 = .ok (.iconst 2, 1) := by decide +kernel
theorem dX4_entry_84 : decode cX4_entry 84 = .ok (.if_icmp .ne 12, 3) := by decide +kernel
theorem dX4_entry_87 : decode cX4_entry 87 = .ok (.aload_n 0, 1) := by decide +kernel
theorem dX4_entry_88 : decode cX4_entry 88 = .ok (.getfield 35, 3) := by decide +kernel
theorem dX4_entry_91 : decode cX4_entry 91 = .ok (.iload_n 1, 1) := by decide +kernel
theorem dX4_entry_92 : decode cX4_entry 92 = .ok (.iaload, 1) := by decide +kernel
theorem dX4_entry_93 : decode cX4_entry 93 = .ok (.goto 17, 3) := by decide +kernel
theorem dX4_entry_96 : decode cX4_entry 96 = .ok (.aload_n 0, 1) := by decide +kernel
theorem dX4_entry_97 : decode cX4_entry 97 = .ok (.getfield 29, 3) := by decide +kernel
theorem dX4_entry_100 : decode cX4_entry 100 = .ok (.iload_n 1, 1) := by decide +kernel
theorem dX4_entry_101 : decode cX4_entry 101 = .ok (.baload, 1) := by decide +kernel
theorem dX4_entry_102 : decode cX4_entry 102 = .ok (.ifCond .eq 7, 3) := by decide +kernel
theorem dX4_entry_105 : decode cX4_entry 105 = .ok (.iconst 1, 1) := by decide +kernel
theorem dX4_entry_106 : decode cX4_entry 106 = .ok (.goto 4, 3) := by decide +kernel
theorem dX4_entry_109 : decode cX4_entry 109 = .ok (.iconst 0, 1) := by decide +kernel
theorem dX4_entry_110 : decode cX4_entry 110 = .ok (.ireturn, 1) := by decide +kernel
end
section
/-! Own rows: contracts of readers and of writers over a world whose addresses stay; their calls; rows of arrays of int arrays; the worlds of the classes. -/
def ix (i : Int32) : Nat := i.toNatClampNeg
def iu (x y : Int32) : Int32 := (x.toUInt32 >>> (y.toUInt32 &&& Int32.toUInt32 31)).toInt32
/-- the links between nest mates that TrapMachine uses -/
def nlL : List (Nat × MethodName) := [(18, yX2_init), (25, yX0_init), (47, yX2_setLine), (77, yX2_get), (83, yX0_get), (85, yX2_isAsked), (89, yX2_isEnabled), (99, yX2_tick), (126, yX2_level), (171, yX2_write), (175, yX2_leave), (187, yX0_find), (190, yX2_setEmpty), (194, yX2_set), (197, yX2_isEmpty), (200, yX2_code), (203, yX0_set), (206, yX0_setHalves), (209, yX0_empty), (212, yX2_isDirect), (215, yX2_isInWindow), (222, yX2_enter), (225, yX2_setDirect)]
def NL (U : State) : Prop := ∀ q ∈ nlL, va_Nw (.methodLinkNest RX3 q.1 q.2 "TrapMachine") U
theorem NL.warm {s U : State} (hW : s.WarmedH U.vm) (h : NL s) : NL U := fun q hq => va_Nw.warmM hW (h q hq)
theorem NL.same {s U : State} (e : s.vm = U.vm) (h : NL s) : NL U := fun q hq => va_Nw.same rfl e (h q hq)
theorem NL.at {U : State} (h : NL U) (i : Nat) {q : Nat × MethodName} (hq : nlL[i]? = some q) : va_Nw (.methodLinkNest RX3 q.1 q.2 "TrapMachine") U := h q (List.mem_of_getElem? hq)
/-- the two static tables -/
def cnt (j : Nat) : Int32 := ([15, 7, 31, 16, -1, -1, -4, -2147483645, -128, 2015, 2015, 15, -1, -1, 65535, 0, -4, -268435447] : List Int32).getD j 0
def lvb (j : Nat) : Int32 := ([3, 3, 0, 0, 0, 0, 0, 0, 0, 12, 12, 0, 0, 0, 0, 0, 0, 0] : List Int32).getD j 0
def ST (tC tL : Nat) (A : Nat → Prop) (U : State) (H : Heap) : Prop := (va_Z RX2 "COUNTING" "[I" (.ref tC) A U H ∧ va_T .int tC 18 (fun j => .int (cnt j)) A U H) ∧ (va_Z RX2 "LEVEL_BITS" "[I" (.ref tL) A U H ∧ va_T .int tL 18 (fun j => .int (lvb j)) A U H)
theorem ST.moved {tC tL : Nat} {A : Nat → Prop} {u U : State} {H : Heap} (hvm : u.vm.Alike U.vm) (h : ST tC tL A u H) : ST tC tL A U H := ⟨⟨h.1.1.moved hvm, h.1.2.moved hvm⟩, ⟨h.2.1.moved hvm, h.2.2.moved hvm⟩⟩
theorem ST.kept {tC tL : Nat} {A : Nat → Prop} {U : State} {H H1 : Heap} (h : ST tC tL A U H) (hq : ∀ a : Nat, a < H.size → ¬ A a → H1[a]? = H[a]?) : ST tC tL A U H1 := ⟨⟨h.1.1.kept hq, h.1.2.kept hq⟩, ⟨h.2.1.kept hq, h.2.2.kept hq⟩⟩
theorem ST.narrow {tC tL : Nat} {A B : Nat → Prop} {U : State} {H : Heap} (h : ST tC tL A U H) (hAB : ∀ q, B q → A q) : ST tC tL B U H := ⟨⟨h.1.1.narrow hAB, h.1.2.narrow hAB⟩, ⟨h.2.1.narrow hAB, h.2.2.narrow hAB⟩⟩
section TRows
variable {p : Program} {l : Launch} {e : Env} {R : Room} {s : State} {m : MethodId} {args : Array Value} {below : List Frame} {meth : Method} {c : Code} {H : Heap} {locs : List Loc} {cells slots : Nat} {Q : State → Prop}
variable {cc : ByteArray} {pc : Nat} {ls : Array Slot} {rest st0 : List Value} {D : va_G} {cl : List vw_C} {A : Nat → Prop} {tys : List (ClassId × FieldType)} {ws : va_W} {H0 : Heap} {As : List Value} {X : State → Prop}
/-- the cells of a world -/
def in_W (ws : va_W) : Nat → Prop := fun q => ∃ (k : Nat) (e : va_E), ws[k]? = some (q, e)
/-- a premise that only the tables and the heap decide -/
def bl_X (X : State → Prop) : Prop := ∀ (U : State) (g : JFrame) (mk : MethodId) (a : Array Value), X U → X (U.calling g mk a)
theorem bl_T : bl_X (fun _ => True) := fun _ _ _ _ _ => trivial
theorem bl_N : bl_X NL := fun _ _ _ _ h => h.same rfl
theorem bl_S {tC tL : Nat} {A : Nat → Prop} : bl_X (fun U => ST tC tL A U U.heap) := fun U g mk a h => ST.moved (u := U) (U := U.calling g mk a) (Vm.Alike.refl U.vm) h
theorem bl_NS {tC tL : Nat} {A : Nat → Prop} : bl_X (fun U => NL U ∧ ST tC tL A U U.heap) := fun U g mk a h => ⟨bl_N U g mk a h.1, bl_S U g mk a h.2⟩
/-- a reader's start -/
def rd_P (D : va_G) (cl : List vw_C) (tys : List (ClassId × FieldType)) (ws : va_W) (X : State → Prop) (As : List Value) : Array Value → State → Prop := fun v U => v = As.toArray ∧ va_P D cl ws U.heap ∧ va_K D cl tys U ∧ X U
/-- a writer's start -/
def wr_P (D : va_G) (cl : List vw_C) (tys : List (ClassId × FieldType)) (ws : va_W) (X : State → Prop) (As : List Value) : Array Value → State → Prop := fun v U => v = As.toArray ∧ va_P D cl ws U.heap ∧ va_K D cl tys U ∧ X U ∧ va_D (fun _ => True) ws
/-- a writer's end: the new world at the old addresses, all else as it was -/
def wr_Q (D : va_G) (cl : List vw_C) (r : Option Value) (ws ws' : va_W) : Array Value → State → Outcome → State → Prop := fun _ st o t => o = .returned r ∧ va_P D cl ws' t.heap ∧ va_F (in_W ws) st t
theorem rd_blind (b : bl_X X) : FrameBlind (rd_P D cl tys ws X As) := fun a U g mk q => ⟨q.1, q.2.1, va_K.moved (u := U) (U := U.calling g mk a) (Vm.Alike.refl U.vm) q.2.2.1, b U g mk a q.2.2.2⟩
theorem wr_blind (b : bl_X X) : FrameBlind (wr_P D cl tys ws X As) := fun a U g mk q => ⟨q.1, q.2.1, va_K.moved (u := U) (U := U.calling g mk a) (Vm.Alike.refl U.vm) q.2.2.1, b U g mk a q.2.2.2.1, q.2.2.2.2⟩
theorem rd_preV {C : String} {b : Nat} (bx : bl_X X) (hX : ∀ U : State, U.heap = H → s.WarmedH U.vm → X U) (hK : va_K D cl tys s) (hP : va_P D cl ws H) (hr : ∃ cellB : Cell, H[b]? = some cellB ∧ cellB.vm.isStatics = false ∧ s.vm.findClass C = some cellB.cls) : PreV s H C b (rd_P D cl tys ws X (.ref b :: As)) As := ⟨rd_blind bx, hr, fun U hU hW => ⟨rfl, by rw [hU]; exact hP, va_K.moved hW.alike hK, hX U hU hW⟩⟩
theorem wr_preV {C : String} {b : Nat} (bx : bl_X X) (hX : ∀ U : State, U.heap = H → s.WarmedH U.vm → X U) (hK : va_K D cl tys s) (hP : va_P D cl ws H) (hD : va_D A ws) (hr : ∃ cellB : Cell, H[b]? = some cellB ∧ cellB.vm.isStatics = false ∧ s.vm.findClass C = some cellB.cls) : PreV s H C b (wr_P D cl tys ws X (.ref b :: As)) As := ⟨wr_blind bx, hr, fun U hU hW => ⟨rfl, by rw [hU]; exact hP, va_K.moved hW.alike hK, hX U hU hW, hD.weaken (fun _ _ _ _ => trivial)⟩⟩
theorem pr_T : ∀ U : State, U.heap = H → s.WarmedH U.vm → (fun _ : State => True) U := fun _ _ _ => trivial
theorem pr_N (h : NL s) : ∀ U : State, U.heap = H → s.WarmedH U.vm → NL U := fun _ _ hW => h.warm hW
theorem pr_S {tC tL : Nat} {wc : va_W} (h : ST tC tL (in_W ws) s s.heap) (hS : va_S (in_W ws) s.heap H locs) (hs : ∀ q, in_W wc q → in_W ws q) : ∀ U : State, U.heap = H → s.WarmedH U.vm → (fun U : State => ST tC tL (in_W wc) U U.heap) U := fun U hU hW => by
  show ST tC tL (in_W wc) U U.heap
  rw [hU]
  exact ((h.kept (fun a h1 h2 => hS.2.1 a h1 h2)).narrow hs).moved hW.alike
theorem pr_NS {tC tL : Nat} {wc : va_W} (hn : NL s) (h : ST tC tL (in_W ws) s s.heap) (hS : va_S (in_W ws) s.heap H locs) (hs : ∀ q, in_W wc q → in_W ws q) : ∀ U : State, U.heap = H → s.WarmedH U.vm → (fun U : State => NL U ∧ ST tC tL (in_W wc) U U.heap) U := fun U hU hW => ⟨hn.warm hW, pr_S h hS hs U hU hW⟩
/-- the cells of a world by the addresses alone -/
theorem in_adr {ws' : va_W} (e : ws'.map (fun q => q.1) = ws.map (fun q => q.1)) : ∀ q, in_W ws' q → in_W ws q := by
  intro q ⟨i, x, hx⟩
  have h1 : (ws.map (fun q => q.1))[i]? = some q := by rw [← e, List.getElem?_map, hx]; rfl
  rw [List.getElem?_map] at h1
  cases hy : ws[i]? with
  | none => rw [hy] at h1; cases h1
  | some y => rw [hy] at h1; exact ⟨i, y.2, by rw [hy, ← Option.some.inj h1]⟩
theorem wD_self {A : Nat → Prop} (h : va_D A ws) : va_D (in_W ws) ws := ⟨h.1, fun k q hk => ⟨k, q.2, hk⟩⟩
/-- only the addresses count -/
theorem wD_adr {ws' : va_W} (h : va_D A ws) (e : ws'.map (fun q => q.1) = ws.map (fun q => q.1)) : va_D A ws' := by
  have key : ∀ (i : Nat) (x : Nat × va_E), ws'[i]? = some x → ∃ y : Nat × va_E, ws[i]? = some y ∧ y.1 = x.1 := by
    intro i x hx
    have h1 : (ws.map (fun q => q.1))[i]? = some x.1 := by rw [← e, List.getElem?_map, hx]; rfl
    rw [List.getElem?_map] at h1
    cases hy : ws[i]? with
    | none => rw [hy] at h1; cases h1
    | some y => rw [hy] at h1; exact ⟨y, rfl, Option.some.inj h1⟩
  refine ⟨fun i j x y hx hy hxy => ?_, fun k x hx => ?_⟩
  · obtain ⟨x', h1, e1⟩ := key i x hx
    obtain ⟨y', h2, e2⟩ := key j y hy
    exact h.1 i j x' y' h1 h2 (by rw [e1, e2, hxy])
  · obtain ⟨x', h1, e1⟩ := key k x hx
    rw [← e1]; exact h.2 k x' h1
theorem w_at {is : List Nat} {w : va_W} (hs : is.map (fun i => ws[i]?) = w.map some) (k : Nat) (q : Nat × va_E) (hq : w[k]? = some q) : ∃ i, is[k]? = some i ∧ ws[i]? = some q := by
  have h1 : (is.map (fun i => ws[i]?))[k]? = some (some q) := by rw [hs, List.getElem?_map, hq]; rfl
  rw [List.getElem?_map] at h1
  cases hi : is[k]? with
  | none => rw [hi] at h1; cases h1
  | some i => rw [hi] at h1; exact ⟨i, rfl, Option.some.inj h1⟩
theorem in_sub {wc w0 : va_W} (is : List Nat) (hs : is.map (fun i => ws[i]?) = wc.map some) (e : ws.map (fun q => q.1) = w0.map (fun q => q.1)) : ∀ q, in_W wc q → in_W w0 q := by
  intro q ⟨i, x, hx⟩
  obtain ⟨j, -, h2⟩ := w_at hs i (q, x) hx
  exact in_adr e q ⟨j, x, h2⟩
/-- a reader's call -/
theorem rd_call {r : Int32} {a : Array Value} (hr : CallRun p l e R s m args below meth c H locs cells slots 0 0 (F0 m pc ls st0) rest (QcRead r a) (fun _ => False)) (kk : W p l e R s m args below meth c H locs cells slots Q (F0 m (pc + 3) ls (.int r :: rest))) : W p l e R s m args below meth c H locs cells slots Q (F0 m pc ls st0) := W.callR hr kk
/-- a writer's call: its cells change, the others stay; the order of the world's cells is kept -/
theorem wr_call {r : Option Value} {wc wc' ws' wr : va_W} {a : Array Value}
    (hr : CallRun p l e R s m args below meth c H locs cells slots 0 0 (F0 m pc ls st0) rest (wr_Q D cl r wc wc' a) (in_W wc))
    (hP : va_P D cl ws H) (hD : va_D A ws) (hS : va_S A H0 H locs) (isC isR perm : List Nat)
    (hC : isC.map (fun i => ws[i]?) = wc.map some) (hR : isR.map (fun i => ws[i]?) = wr.map some) (hdis : ∀ i ∈ isR, i ∉ isC)
    (hw : perm.filterMap (fun i => (wr ++ wc')[i]?) = ws') (hadr : ws'.map (fun q => q.1) = ws.map (fun q => q.1))
    (kk : ∀ (H1 : Heap) (locs1 : List Loc), va_P D cl ws' H1 → va_D A ws' → va_S A H0 H1 locs1 → W p l e R s m args below meth c H1 locs1 cells slots Q (F0 m (pc + 3) ls (r.toList ++ rest))) :
    W p l e R s m args below meth c H locs cells slots Q (F0 m pc ls st0) := by
  intro T hT X
  obtain ⟨v, st₀, t, T', L, h0, X', hL, e1, ⟨hv, hP1, hF⟩, st⟩ := hr T hT X
  cases hv
  subst h0
  have hin : ∀ q, in_W wc q → A q := by
    intro q ⟨k, e9, hk⟩
    obtain ⟨i, -, h2⟩ := w_at hC k (q, e9) hk
    exact hD.2 i (q, e9) h2
  have hPr : va_P D cl (wr ++ wc') t.heap := by
    refine va_P.app (fun k q hq => ?_) hP1
    obtain ⟨i, h1, h2⟩ := w_at hR k q hq
    refine (hP i q h2).kept (hF.2 q.1 (hP i q h2).lt ?_)
    intro ⟨k2, e9, hk2⟩
    obtain ⟨j, h3, h4⟩ := w_at hC k2 (q.1, e9) hk2
    have hij := hD.1 i j q (q.1, e9) h2 h4 rfl
    subst hij
    exact hdis i (List.mem_of_getElem? h1) (List.mem_of_getElem? h3)
  have hS' : va_S A H0 t.heap (locs ++ L) := by
    refine ⟨Nat.le_trans hS.1 hF.1, fun q h1 h2 => ?_, fun q hq => ?_⟩
    · exact (hF.2 q (Nat.lt_of_lt_of_le h1 hS.1) (fun h => h2 (hin q h))).trans (hS.2.1 q h1 h2)
    · rcases List.mem_append.mp hq with h | h
      · exact hS.2.2 q h
      · exact hin _ (hL q h)
  obtain ⟨t2, a1, b1⟩ := kk t.heap (locs ++ L) (hPr.sub perm hw) (wD_adr hD hadr) hS' T' e1 X'
  exact ⟨t2, st t2 a1, b1⟩
/-- a reader's end -/
theorem rd_end {r v : Int32} (h : r = v) : ∀ t : State, t.heap = s.heap → s.WarmedH t.vm → QcRead r args s (.returned (some (.int v))) t := fun t ht _ => ⟨by rw [h], ht⟩
/-- a writer's end -/
theorem wr_end {r v : Option Value} {w0 ws' ws2 : va_W} (hv : v = r) (hw : ws2 = ws') (hP : va_P D cl ws2 H) (hS : va_S (in_W w0) s.heap H locs) : ∀ t : State, t.heap = H → s.WarmedH t.vm → wr_Q D cl r w0 ws' args s (.returned v) t := fun t ht _ => ⟨by rw [hv], by rw [← hw, ht]; exact hP, hS.F ht⟩
/-- a row of an array of int arrays -/
theorem gd_aald {a : Nat} (hexec : p.tables.exec = Jvm.exec) (hb : c.code = cc) (hK : va_K D cl tys s) (hP : va_P D cl ws H) (q0 t0 : Nat) {cA : ClassId} {n : Nat} {f : Nat → Option Nat} (ha : ws[q0]? = some (a, .inl (cA, n, .inr (.inr (.inr (.inr f)))))) (ht : tys[t0]? = some (cA, .array .int)) {i : Int32} (hin : vp_in i n) {j y : Nat} (hj : ix i = j) (hy : f j = some y) (hdg : decode cc pc = .ok (.aaload, 1))
    (kk : W p l e R s m args below meth c H locs cells slots Q (F0 m (pc + 1) ls (.ref y :: rest))) : W p l e R s m args below meth c H locs cells slots Q (F0 m pc ls (.int i :: .ref a :: rest)) := by
  have hlt : i.toNatClampNeg < n := Nat.not_le.mp fun q => hin (Or.inr q)
  have e9 : va_rf (f i.toNatClampNeg) = .ref y := by rw [show i.toNatClampNeg = j from hj, hy]; rfl
  exact W.aald (v := .ref y) (ty := .array .int) hexec hb (hP q0 _ ha) ((hK.2 t0 _ ht).1 n (fun j => va_rf (f j))) rfl (fun q => by cases q) (by show ¬ (i < 0 ∨ (arrV _ _ _).slots.size ≤ _); rw [arrV_size]; exact hin) (by show (arrV _ _ _).slots[_]? = _; rw [arrV_read _ _ hlt, e9]) rfl rfl hdg kk
theorem q_iald {a : Nat} (hexec : p.tables.exec = Jvm.exec) (hb : c.code = cc) (hK : va_K D cl tys s) (hP : va_P D cl ws H) (q0 t0 : Nat) {cA : ClassId} {n : Nat} {f : Nat → Int32} (ha : ws[q0]? = some (a, .inl (cA, n, .inl f))) (ht : tys[t0]? = some (cA, .int)) {i : Int32} (hin : vp_in i n) {j : Nat} (hj : ix i = j) (hdg : decode cc pc = .ok (.iaload, 1))
    (kk : W p l e R s m args below meth c H locs cells slots Q (F0 m (pc + 1) ls (.int (f j) :: rest))) : W p l e R s m args below meth c H locs cells slots Q (F0 m pc ls (.int i :: .ref a :: rest)) := by
  subst hj
  exact va_iald hexec hb hK hP q0 t0 ha ht hin hdg kk
theorem q_iast {a : Nat} (hexec : p.tables.exec = Jvm.exec) (hb : c.code = cc) (hK : va_K D cl tys s) (hP : va_P D cl ws H) (hD : va_D A ws) (hS : va_S A H0 H locs) (q0 t0 : Nat) {cA : ClassId} {n : Nat} {f : Nat → Int32} (ha : ws[q0]? = some (a, .inl (cA, n, .inl f))) (ht : tys[t0]? = some (cA, .int)) {i x : Int32} (hin : vp_in i n) {j : Nat} (hj : ix i = j) {ws' : va_W} (hw : ws.set q0 (a, .inl (cA, n, .inl (upd f j x))) = ws') (hdg : decode cc pc = .ok (.iastore, 1))
    (kk : ∀ (H1 : Heap) (locs1 : List Loc), va_P D cl ws' H1 → va_D A ws' → va_S A H0 H1 locs1 → W p l e R s m args below meth c H1 locs1 cells slots Q (F0 m (pc + 1) ls rest)) : W p l e R s m args below meth c H locs cells slots Q (F0 m pc ls (.int x :: .int i :: .ref a :: rest)) := by
  subst hj
  subst hw
  exact va_iast hexec hb hK hP hD hS q0 t0 ha ht hin hdg kk
theorem q_zald {a : Nat} (hexec : p.tables.exec = Jvm.exec) (hb : c.code = cc) (hK : va_K D cl tys s) (hP : va_P D cl ws H) (q0 t0 : Nat) {cA : ClassId} {n : Nat} {f : Nat → Int32} (ha : ws[q0]? = some (a, .inl (cA, n, .inl f))) (ht : tys[t0]? = some (cA, .boolean)) {i : Int32} (hin : vp_in i n) {j : Nat} (hj : ix i = j) (hdg : decode cc pc = .ok (.baload, 1))
    (kk : W p l e R s m args below meth c H locs cells slots Q (F0 m (pc + 1) ls (.int (f j) :: rest))) : W p l e R s m args below meth c H locs cells slots Q (F0 m pc ls (.int i :: .ref a :: rest)) := by
  subst hj
  exact va_zald hexec hb hK hP q0 t0 ha ht hin hdg kk
theorem q_zast {a : Nat} (hexec : p.tables.exec = Jvm.exec) (hb : c.code = cc) (hK : va_K D cl tys s) (hP : va_P D cl ws H) (hD : va_D A ws) (hS : va_S A H0 H locs) (q0 t0 : Nat) {cA : ClassId} {n : Nat} {f : Nat → Int32} (ha : ws[q0]? = some (a, .inl (cA, n, .inl f))) (ht : tys[t0]? = some (cA, .boolean)) {i x : Int32} (hx9 : vp_nar .boolean x = x) (hin : vp_in i n) {j : Nat} (hj : ix i = j) {ws' : va_W} (hw : ws.set q0 (a, .inl (cA, n, .inl (upd f j x))) = ws') (hdg : decode cc pc = .ok (.bastore, 1))
    (kk : ∀ (H1 : Heap) (locs1 : List Loc), va_P D cl ws' H1 → va_D A ws' → va_S A H0 H1 locs1 → W p l e R s m args below meth c H1 locs1 cells slots Q (F0 m (pc + 1) ls rest)) : W p l e R s m args below meth c H locs cells slots Q (F0 m pc ls (.int x :: .int i :: .ref a :: rest)) := by
  subst hj
  subst hw
  refine va_zast hexec hb hK hP hD hS q0 t0 ha ht hin hdg (fun H1 locs1 h1 h2 h3 => ?_)
  rw [hx9] at h1 h2
  exact kk H1 locs1 h1 h2 h3
end TRows
/-! ### the worlds -/
abbrev tyL (k : Nat → ClassId) : List (ClassId × FieldType) := [(k 0, .int), (k 1, .array .int), (k 2, .boolean), (k 3, .long)]
/-- Controls: the object, its values -/
def wC (k : Nat → ClassId) (hc hv : Nat) (v : Nat → Int32) : va_W := [(hc, .inr (1, [.ref hv])), (hv, .inl (k 0, 18, .inl v))]
/-- Buffer: the object, the outer array, the four rows -/
def wB (k : Nat → ClassId) (hb ho : Nat) (r : Nat → Nat) (M : Nat → Nat → Int32) : va_W := [(hb, .inr (0, [.ref ho])), (ho, .inl (k 1, 4, .inr (.inr (.inr (.inr (fun j => some (r j))))))), (r 0, .inl (k 0, 6, .inl (M 0))), (r 1, .inl (k 0, 6, .inl (M 1))), (r 2, .inl (k 0, 6, .inl (M 2))), (r 3, .inl (k 0, 6, .inl (M 3)))]
/-- memory, registers, control values, buffer rows, place, linked, nextFilled, condition, trapped -/
abbrev TM : Type := (Nat → Int32) × (Nat → Int32) × (Nat → Int32) × (Nat → Nat → Int32) × Int32 × Int32 × Int32 × Int32 × Int32
def wT (k : Nat → ClassId) (q : Nat → Nat) (u : TM) : va_W := [(q 0, .inr (2, [.ref (q 1), .ref (q 2), .ref (q 3), .ref (q 5), .int u.2.2.2.2.1, .int u.2.2.2.2.2.1, .int u.2.2.2.2.2.2.1, .int u.2.2.2.2.2.2.2.1, .int u.2.2.2.2.2.2.2.2])), (q 1, .inl (k 0, 512, .inl u.1)), (q 2, .inl (k 0, 8, .inl u.2.1)), (q 3, .inr (1, [.ref (q 4)])), (q 4, .inl (k 0, 18, .inl u.2.2.1)), (q 5, .inr (0, [.ref (q 6)])), (q 6, .inl (k 1, 4, .inr (.inr (.inr (.inr (fun j => some (q (7 + j)))))))), (q (7 + 0), .inl (k 0, 6, .inl (u.2.2.2.1 0))), (q (7 + 1), .inl (k 0, 6, .inl (u.2.2.2.1 1))), (q (7 + 2), .inl (k 0, 6, .inl (u.2.2.2.1 2))), (q (7 + 3), .inl (k 0, 6, .inl (u.2.2.2.1 3)))]
/-- the reference: thrown, memory, register, control, there, global, pair, space, half, place, next, filled, link, rests, stopped, brings, broughtAt, found, raised -/
abbrev MD : Type := Int32 × (Nat → Int32) × (Nat → Int32) × (Nat → Int32) × (Nat → Int32) × (Nat → Int32) × (Nat → Int32) × (Nat → Int32) × (Nat → Int32) × Int32 × Int32 × Int32 × Int32 × Int32 × Int32 × Int32 × Int32 × Int32 × Int32
def wr0 (j : Nat) : Int32 := ([15, 7, 31, 0, -1, -1, -4, -2147483645, -128, 2015, 2015, 15, -1, -1, 65535, 0, -4, -268435447] : List Int32).getD j 0
def wM (k : Nat → ClassId) (z : Nat → Nat) (w : MD) : va_W := [(z 0, .inr (3, [.int w.1, .ref (z 1), .ref (z 2), .ref (z 3), .ref (z 4), .ref (z 5), .ref (z 6), .ref (z 7), .ref (z 8), .ref (z 9), .int w.2.2.2.2.2.2.2.2.2.1, .int w.2.2.2.2.2.2.2.2.2.2.1, .int w.2.2.2.2.2.2.2.2.2.2.2.1, .int w.2.2.2.2.2.2.2.2.2.2.2.2.1, .int w.2.2.2.2.2.2.2.2.2.2.2.2.2.1, .int w.2.2.2.2.2.2.2.2.2.2.2.2.2.2.1, .int w.2.2.2.2.2.2.2.2.2.2.2.2.2.2.2.1, .int w.2.2.2.2.2.2.2.2.2.2.2.2.2.2.2.2.1, .int w.2.2.2.2.2.2.2.2.2.2.2.2.2.2.2.2.2.1, .int w.2.2.2.2.2.2.2.2.2.2.2.2.2.2.2.2.2.2])), (z 1, .inl (k 0, 512, .inl w.2.1)), (z 2, .inl (k 0, 8, .inl w.2.2.1)), (z 3, .inl (k 0, 18, .inl w.2.2.2.1)), (z 4, .inl (k 0, 18, .inl wr0)), (z 5, .inl (k 2, 4, .inl w.2.2.2.2.1)), (z 6, .inl (k 2, 4, .inl w.2.2.2.2.2.1)), (z 7, .inl (k 0, 4, .inl w.2.2.2.2.2.2.1)), (z 8, .inl (k 0, 4, .inl w.2.2.2.2.2.2.2.1)), (z 9, .inl (k 0, 8, .inl w.2.2.2.2.2.2.2.2.1))]
/-- a row's place changed -/
def gu (M : Nat → Nat → Int32) (j i : Nat) (x : Int32) : Nat → Nat → Int32 := va_up M j (upd (M j) i x)
theorem gd_at {k : Nat → ClassId} {hb ho : Nat} {r : Nat → Nat} {M : Nat → Nat → Int32} : ∀ {j : Nat}, j < 4 → (wB k hb ho r M)[2 + j]? = some (r j, .inl (k 0, 6, .inl (M j)))
  | 0, _ => rfl
  | 1, _ => rfl
  | 2, _ => rfl
  | 3, _ => rfl
  | n + 4, h => absurd h (by omega)
theorem gd_set {k : Nat → ClassId} {hb ho : Nat} {r : Nat → Nat} {M : Nat → Nat → Int32} {i : Nat} {x : Int32} : ∀ {j : Nat}, j < 4 → (wB k hb ho r M).set (2 + j) (r j, .inl (k 0, 6, .inl (upd (M j) i x))) = wB k hb ho r (gu M j i x)
  | 0, _ => rfl
  | 1, _ => rfl
  | 2, _ => rfl
  | 3, _ => rfl
  | n + 4, h => absurd h (by omega)
theorem ix_lt {i : Int32} {n : Nat} (h : vp_in i n) : ix i < n := Nat.not_le.mp fun q => h (Or.inr q)
theorem ix_ltj {i : Int32} {n j : Nat} (h : vp_in i n) (hj : ix i = j) : j < n := hj ▸ ix_lt h
theorem ix_nI {i : Nat} (h : i < 2 ^ 31) : ix (nI i) = i := nI_clamp h
theorem vi_and (x : Int32) {m : Int32} (k : Nat) (hm : m.toBitVec.toNat = 2 ^ k - 1) (hk : k ≤ 30) : vp_in (x &&& m) (2 ^ k) := pk_andIn x k hm hk
theorem vi_rng {x a : Int32} {n : Nat} (ha : a.toInt + 1 = n) (h0 : ¬ x < 0) (h1 : ¬ a < x) : vp_in x n := by
  rw [vp_in_iff]
  rw [Int32.lt_iff_toInt_lt] at h0 h1
  have : (0 : Int32).toInt = 0 := by decide
  omega
end
section
theorem vi_k {i : Int32} {n : Nat} (h : decide (¬ (i < 0 ∨ n ≤ i.toNatClampNeg)) = true) : vp_in i n := (of_decide_eq_true h : ¬ (i < 0 ∨ n ≤ i.toNatClampNeg))
theorem vi7 (x : Int32) : vp_in (x &&& 7) 8 := vi_and x 3 (by decide) (by decide)
theorem vi3 (x : Int32) : vp_in (x &&& 3) 4 := vi_and x 2 (by decide) (by decide)
theorem vi1 (x : Int32) : vp_in (x &&& 1) 2 := vi_and x 1 (by decide) (by decide)
theorem vi255 (x : Int32) : vp_in (x &&& 255) 256 := vi_and x 8 (by decide) (by decide)
def fX2_get (v : Nat → Int32) (a1 : Int32) : Int32 :=
  (v (ix a1))
set_option maxHeartbeats 4000000 in
set_option maxRecDepth 100000 in
theorem kX2_get (l : Launch) (D : va_G) (k : Nat → ClassId) (c0 c1 : Nat) (v : Nat → Int32) (a1 : Int32) (h1 : vp_in a1 18) : Met l yX2_get wsX2_get { frames := 0, cells := 0, slots := 0, locals := 0 } (rd_P D vwCl (tyL k) (wC k c0 c1 v) (fun _ => True) [.ref c0, .int a1]) (QcRead (fX2_get v a1)) 0 0 (fun _ => False) := by
  refine Met.ofW (cc := cX2_get) (maxL := 2) (ret := (some .int)) (by decide) rfl ?_
  intro p e s m args below meth c s₁ B hml hv0
  obtain ⟨rfl, hP, hK, hX⟩ := hv0
  have hx := B.exec
  have hb := B.bytes
  have hr := B.returns
  have hts := atoms_spec (ws := wsX2_get) B.pre
  have hown : s.vm.findClass RX2 = some m.cls := findClass_of_methodNamed B.named
  have hlocks := B.notSynchronized
  have hl := lv_entry ([.ref c0, .int a1]) (n := 2) (Nat.le_of_ble_eq_true rfl)
  rw [lg_entry_eq]
  generalize (lg_sl ([.ref c0, .int a1]) ++ List.replicate (2 - (lg_sl ([.ref c0, .int a1])).length) Slot.unset).toArray = ls at hl ⊢
  have hl : lv_has ls 2 [(0, .ref c0), (1, .int a1)] := hl
  refine lv_aload_n hx hb dX2_get_0 rfl (lv_at hl 0 rfl) ?_
  refine va_get (D := D) (ci := 1) (v := .ref c1) (C := RX2) (T := TX2) (N := 1) hx hb hts (by decide +kernel) hown hK hP 0 rfl rfl 0 (by decide) (hts (.fieldLink RX2 11 "TrapMachine$Controls" "values" "[I") (by decide +kernel)) (fun _ h9 => h9) rfl dX2_get_1 ?_
  refine lv_iload_n hx hb dX2_get_4 rfl (lv_at hl 1 rfl) ?_
  refine q_iald (j := (ix a1)) hx hb hK hP 1 0 rfl rfl h1 rfl dX2_get_5 ?_
  exact W.iret (v := (v (ix a1))) hx hb hr (rd_end (show fX2_get v a1 = (v (ix a1)) from rfl)) (fun q h => by cases h) dX2_get_6
def fX2_set (v : Nat → Int32) (a1 : Int32) (a2 : Int32) : Nat → Int32 :=
  (upd v (ix a1) a2)
set_option maxHeartbeats 4000000 in
set_option maxRecDepth 100000 in
theorem kX2_set (l : Launch) (D : va_G) (k : Nat → ClassId) (c0 c1 : Nat) (v : Nat → Int32) (a1 : Int32) (a2 : Int32) (h1 : vp_in a1 18) : Met l yX2_set wsX2_set { frames := 0, cells := 0, slots := 0, locals := 0 } (wr_P D vwCl (tyL k) (wC k c0 c1 v) (fun _ => True) [.ref c0, .int a1, .int a2]) (wr_Q D vwCl none (wC k c0 c1 v) (wC k c0 c1 (fX2_set v a1 a2))) 0 0 (in_W (wC k c0 c1 v)) := by
  refine Met.ofW (cc := cX2_set) (maxL := 3) (ret := none) (by decide) rfl ?_
  intro p e s m args below meth c s₁ B hml hv0
  obtain ⟨rfl, hP, hK, hX, hD0⟩ := hv0
  have hx := B.exec
  have hb := B.bytes
  have hr := B.returns
  have hts := atoms_spec (ws := wsX2_set) B.pre
  have hown : s.vm.findClass RX2 = some m.cls := findClass_of_methodNamed B.named
  have hlocks := B.notSynchronized
  have hD : va_D (in_W (wC k c0 c1 v)) (wC k c0 c1 v) := wD_self hD0
  have hS : va_S (in_W (wC k c0 c1 v)) s.heap s.heap [] := va_S.rf
  have hl := lv_entry ([.ref c0, .int a1, .int a2]) (n := 3) (Nat.le_of_ble_eq_true rfl)
  rw [lg_entry_eq]
  generalize (lg_sl ([.ref c0, .int a1, .int a2]) ++ List.replicate (3 - (lg_sl ([.ref c0, .int a1, .int a2])).length) Slot.unset).toArray = ls at hl ⊢
  have hl : lv_has ls 3 [(0, .ref c0), (1, .int a1), (2, .int a2)] := hl
  refine lv_aload_n hx hb dX2_set_0 rfl (lv_at hl 0 rfl) ?_
  refine va_get (D := D) (ci := 1) (v := .ref c1) (C := RX2) (T := TX2) (N := 1) hx hb hts (by decide +kernel) hown hK hP 0 rfl rfl 0 (by decide) (hts (.fieldLink RX2 11 "TrapMachine$Controls" "values" "[I") (by decide +kernel)) (fun _ h9 => h9) rfl dX2_set_1 ?_
  refine lv_iload_n hx hb dX2_set_4 rfl (lv_at hl 1 rfl) ?_
  refine lv_iload_n hx hb dX2_set_5 rfl (lv_at hl 2 rfl) ?_
  refine q_iast (j := (ix a1)) (ws' := wC k c0 c1 (upd v (ix a1) a2)) hx hb hK hP hD hS 1 0 rfl rfl h1 rfl rfl dX2_set_6 (fun H locs hP hD hS => ?_)
  exact W.vret hx hb hr (wr_end rfl (congrArg (wC k c0 c1) (show fX2_set v a1 a2 = (upd v (ix a1) a2) from rfl).symm) hP hS) hS.2.2 dX2_set_7
def fX2_write (v : Nat → Int32) (a1 : Int32) (a2 : Int32) (a3 : Int32) : Nat → Int32 :=
  if a1 = (3 : Int32) then
    (upd v 3 ((v 3) &&& ((a2 &&& (a3 &&& (cnt (ix a1)))) ^^^ (-1 : Int32))))
  else
    if ((((v (ix a1)) &&& ((a3 &&& (cnt (ix a1))) ^^^ (-1 : Int32))) ||| (a2 &&& (a3 &&& (cnt (ix a1))))) &&& (lvb (ix a1))) = (0 : Int32) then
      if a1 = (14 : Int32) then
        (upd (upd v (ix a1) (((v (ix a1)) &&& ((a3 &&& (cnt (ix a1))) ^^^ (-1 : Int32))) ||| (a2 &&& (a3 &&& (cnt (ix a1)))))) 15 ((((v (ix a1)) &&& ((a3 &&& (cnt (ix a1))) ^^^ (-1 : Int32))) ||| (a2 &&& (a3 &&& (cnt (ix a1))))) &&& (65532 : Int32)))
      else
        (upd v (ix a1) (((v (ix a1)) &&& ((a3 &&& (cnt (ix a1))) ^^^ (-1 : Int32))) ||| (a2 &&& (a3 &&& (cnt (ix a1))))))
    else
      if a1 = (14 : Int32) then
        (upd (upd v (ix a1) ((((v (ix a1)) &&& ((a3 &&& (cnt (ix a1))) ^^^ (-1 : Int32))) ||| (a2 &&& (a3 &&& (cnt (ix a1))))) ||| (lvb (ix a1)))) 15 (((((v (ix a1)) &&& ((a3 &&& (cnt (ix a1))) ^^^ (-1 : Int32))) ||| (a2 &&& (a3 &&& (cnt (ix a1))))) ||| (lvb (ix a1))) &&& (65532 : Int32)))
      else
        (upd v (ix a1) ((((v (ix a1)) &&& ((a3 &&& (cnt (ix a1))) ^^^ (-1 : Int32))) ||| (a2 &&& (a3 &&& (cnt (ix a1))))) ||| (lvb (ix a1))))
set_option maxHeartbeats 4000000 in
set_option maxRecDepth 100000 in
theorem kX2_write (l : Launch) (D : va_G) (k : Nat → ClassId) (c0 c1 : Nat) (v : Nat → Int32) (tC tL : Nat) (a1 : Int32) (a2 : Int32) (a3 : Int32) (h1 : vp_in a1 18) : Met l yX2_write wsX2_write { frames := 0, cells := 0, slots := 0, locals := 0 } (wr_P D vwCl (tyL k) (wC k c0 c1 v) (fun U => ST tC tL (in_W (wC k c0 c1 v)) U U.heap) [.ref c0, .int a1, .int a2, .int a3]) (wr_Q D vwCl none (wC k c0 c1 v) (wC k c0 c1 (fX2_write v a1 a2 a3))) 0 0 (in_W (wC k c0 c1 v)) := by
  refine Met.ofW (cc := cX2_write) (maxL := 6) (ret := none) (by decide) rfl ?_
  intro p e s m args below meth c s₁ B hml hv0
  obtain ⟨rfl, hP, hK, hX, hD0⟩ := hv0
  have hx := B.exec
  have hb := B.bytes
  have hr := B.returns
  have hts := atoms_spec (ws := wsX2_write) B.pre
  have hown : s.vm.findClass RX2 = some m.cls := findClass_of_methodNamed B.named
  have hlocks := B.notSynchronized
  have hD : va_D (in_W (wC k c0 c1 v)) (wC k c0 c1 v) := wD_self hD0
  have hS : va_S (in_W (wC k c0 c1 v)) s.heap s.heap [] := va_S.rf
  have hT := hX
  have hl := lv_entry ([.ref c0, .int a1, .int a2, .int a3]) (n := 6) (Nat.le_of_ble_eq_true rfl)
  rw [lg_entry_eq]
  generalize (lg_sl ([.ref c0, .int a1, .int a2, .int a3]) ++ List.replicate (6 - (lg_sl ([.ref c0, .int a1, .int a2, .int a3])).length) Slot.unset).toArray = ls at hl ⊢
  have hl : lv_has ls 6 [(0, .ref c0), (1, .int a1), (2, .int a2), (3, .int a3)] := hl
  refine lv_iload_n hx hb dX2_write_0 rfl (lv_at hl 3 rfl) ?_
  refine va_gets (C := RX2) (n := "COUNTING") (d := "[I") (v := .ref tC) hx hb hT.1.1 hS hown (hts (.fieldLink RX2 15 "TrapMachine$Controls" "COUNTING" "[I") (by decide +kernel)) (fun _ h9 => h9) dX2_write_1 ?_
  refine lv_iload_n hx hb dX2_write_4 rfl (lv_at hl 1 rfl) ?_
  refine va_ti (v := .int (cnt (ix a1))) hx hb hT.1.2 hS h1 rfl dX2_write_5 ?_
  refine lv_iand hx hb dX2_write_6 ?_
  refine lv_istore (lv' := [(4, .int (a3 &&& (cnt (ix a1)))), (0, .ref c0), (1, .int a1), (2, .int a2), (3, .int a3)]) hx hb dX2_write_7 hl (by decide) rfl (fun ls hl => ?_)
  refine lv_iload_n hx hb dX2_write_9 rfl (lv_at hl 2 rfl) ?_
  refine lv_iconst (v := (3 : Int32)) hx hb dX2_write_10 (by decide) ?_
  refine lv_icmp_ne (tgt := 30) hx hb dX2_write_11 (by decide) (fun c_11 => ?_) (fun c_11 => ?_)
  · refine lv_aload_n hx hb dX2_write_30 rfl (lv_at hl 1 rfl) ?_
    refine va_get (D := D) (ci := 1) (v := .ref c1) (C := RX2) (T := TX2) (N := 1) hx hb hts (by decide +kernel) hown hK hP 0 rfl rfl 0 (by decide) (hts (.fieldLink RX2 11 "TrapMachine$Controls" "values" "[I") (by decide +kernel)) (fun _ h9 => h9) rfl dX2_write_31 ?_
    refine lv_iload_n hx hb dX2_write_34 rfl (lv_at hl 2 rfl) ?_
    refine q_iald (j := (ix a1)) hx hb hK hP 1 0 rfl rfl h1 rfl dX2_write_35 ?_
    refine lv_iload hx hb dX2_write_36 (lv_at hl 0 rfl) ?_
    refine lv_iconst (v := (-1 : Int32)) hx hb dX2_write_38 (by decide) ?_
    refine lv_ixor hx hb dX2_write_39 ?_
    refine lv_iand hx hb dX2_write_40 ?_
    refine lv_iload_n hx hb dX2_write_41 rfl (lv_at hl 3 rfl) ?_
    refine lv_iload hx hb dX2_write_42 (lv_at hl 0 rfl) ?_
    refine lv_iand hx hb dX2_write_44 ?_
    refine lv_ior hx hb dX2_write_45 ?_
    refine lv_istore (lv' := [(5, .int (((v (ix a1)) &&& ((a3 &&& (cnt (ix a1))) ^^^ (-1 : Int32))) ||| (a2 &&& (a3 &&& (cnt (ix a1)))))), (4, .int (a3 &&& (cnt (ix a1)))), (0, .ref c0), (1, .int a1), (2, .int a2), (3, .int a3)]) hx hb dX2_write_46 hl (by decide) rfl (fun ls hl => ?_)
    refine lv_iload hx hb dX2_write_48 (lv_at hl 0 rfl) ?_
    refine va_gets (C := RX2) (n := "LEVEL_BITS") (d := "[I") (v := .ref tL) hx hb hT.2.1 hS hown (hts (.fieldLink RX2 18 "TrapMachine$Controls" "LEVEL_BITS" "[I") (by decide +kernel)) (fun _ h9 => h9) dX2_write_50 ?_
    refine lv_iload_n hx hb dX2_write_53 rfl (lv_at hl 3 rfl) ?_
    refine va_ti (v := .int (lvb (ix a1))) hx hb hT.2.2 hS h1 rfl dX2_write_54 ?_
    refine lv_iand hx hb dX2_write_55 ?_
    refine lv_if_eq (tgt := 69) hx hb dX2_write_56 (by decide) (fun c_56 => ?_) (fun c_56 => ?_)
    · refine lv_aload_n hx hb dX2_write_69 rfl (lv_at hl 2 rfl) ?_
      refine va_get (D := D) (ci := 1) (v := .ref c1) (C := RX2) (T := TX2) (N := 1) hx hb hts (by decide +kernel) hown hK hP 0 rfl rfl 0 (by decide) (hts (.fieldLink RX2 11 "TrapMachine$Controls" "values" "[I") (by decide +kernel)) (fun _ h9 => h9) rfl dX2_write_70 ?_
      refine lv_iload_n hx hb dX2_write_73 rfl (lv_at hl 3 rfl) ?_
      refine lv_iload hx hb dX2_write_74 (lv_at hl 0 rfl) ?_
      refine q_iast (j := (ix a1)) (ws' := wC k c0 c1 (upd v (ix a1) (((v (ix a1)) &&& ((a3 &&& (cnt (ix a1))) ^^^ (-1 : Int32))) ||| (a2 &&& (a3 &&& (cnt (ix a1))))))) hx hb hK hP hD hS 1 0 rfl rfl h1 rfl rfl dX2_write_76 (fun H locs hP hD hS => ?_)
      refine lv_iload_n hx hb dX2_write_77 rfl (lv_at hl 3 rfl) ?_
      refine lv_bipush (v := (14 : Int32)) hx hb dX2_write_78 (by decide) ?_
      refine lv_icmp_ne (tgt := 95) hx hb dX2_write_80 (by decide) (fun c_80 => ?_) (fun c_80 => ?_)
      · exact W.vret hx hb hr (wr_end rfl (congrArg (wC k c0 c1) (show fX2_write v a1 a2 a3 = (upd v (ix a1) (((v (ix a1)) &&& ((a3 &&& (cnt (ix a1))) ^^^ (-1 : Int32))) ||| (a2 &&& (a3 &&& (cnt (ix a1)))))) from (if_neg c_11).trans ((if_pos c_56).trans ((if_neg c_80).trans rfl))).symm) hP hS) hS.2.2 dX2_write_95
      · refine lv_aload_n hx hb dX2_write_83 rfl (lv_at hl 2 rfl) ?_
        refine va_get (D := D) (ci := 1) (v := .ref c1) (C := RX2) (T := TX2) (N := 1) hx hb hts (by decide +kernel) hown hK hP 0 rfl rfl 0 (by decide) (hts (.fieldLink RX2 11 "TrapMachine$Controls" "values" "[I") (by decide +kernel)) (fun _ h9 => h9) rfl dX2_write_84 ?_
        refine lv_bipush (v := (15 : Int32)) hx hb dX2_write_87 (by decide) ?_
        refine lv_iload hx hb dX2_write_89 (lv_at hl 0 rfl) ?_
        refine lv_ldc (v := (65532 : Int32)) hx hb hown (hts (.constant RX2 21 (65532)) (by decide +kernel)) dX2_write_91 ?_
        refine lv_iand hx hb dX2_write_93 ?_
        refine q_iast (j := 15) (ws' := wC k c0 c1 (upd (upd v (ix a1) (((v (ix a1)) &&& ((a3 &&& (cnt (ix a1))) ^^^ (-1 : Int32))) ||| (a2 &&& (a3 &&& (cnt (ix a1)))))) 15 ((((v (ix a1)) &&& ((a3 &&& (cnt (ix a1))) ^^^ (-1 : Int32))) ||| (a2 &&& (a3 &&& (cnt (ix a1))))) &&& (65532 : Int32)))) hx hb hK hP hD hS 1 0 rfl rfl (vi_k (by decide)) rfl rfl dX2_write_94 (fun H locs hP hD hS => ?_)
        exact W.vret hx hb hr (wr_end rfl (congrArg (wC k c0 c1) (show fX2_write v a1 a2 a3 = (upd (upd v (ix a1) (((v (ix a1)) &&& ((a3 &&& (cnt (ix a1))) ^^^ (-1 : Int32))) ||| (a2 &&& (a3 &&& (cnt (ix a1)))))) 15 ((((v (ix a1)) &&& ((a3 &&& (cnt (ix a1))) ^^^ (-1 : Int32))) ||| (a2 &&& (a3 &&& (cnt (ix a1))))) &&& (65532 : Int32))) from (if_neg c_11).trans ((if_pos c_56).trans ((if_pos c_80).trans rfl))).symm) hP hS) hS.2.2 dX2_write_95
    · refine lv_iload hx hb dX2_write_59 (lv_at hl 0 rfl) ?_
      refine va_gets (C := RX2) (n := "LEVEL_BITS") (d := "[I") (v := .ref tL) hx hb hT.2.1 hS hown (hts (.fieldLink RX2 18 "TrapMachine$Controls" "LEVEL_BITS" "[I") (by decide +kernel)) (fun _ h9 => h9) dX2_write_61 ?_
      refine lv_iload_n hx hb dX2_write_64 rfl (lv_at hl 3 rfl) ?_
      refine va_ti (v := .int (lvb (ix a1))) hx hb hT.2.2 hS h1 rfl dX2_write_65 ?_
      refine lv_ior hx hb dX2_write_66 ?_
      refine lv_istore (lv' := [(5, .int ((((v (ix a1)) &&& ((a3 &&& (cnt (ix a1))) ^^^ (-1 : Int32))) ||| (a2 &&& (a3 &&& (cnt (ix a1))))) ||| (lvb (ix a1)))), (4, .int (a3 &&& (cnt (ix a1)))), (0, .ref c0), (1, .int a1), (2, .int a2), (3, .int a3)]) hx hb dX2_write_67 hl (by decide) rfl (fun ls hl => ?_)
      refine lv_aload_n hx hb dX2_write_69 rfl (lv_at hl 2 rfl) ?_
      refine va_get (D := D) (ci := 1) (v := .ref c1) (C := RX2) (T := TX2) (N := 1) hx hb hts (by decide +kernel) hown hK hP 0 rfl rfl 0 (by decide) (hts (.fieldLink RX2 11 "TrapMachine$Controls" "values" "[I") (by decide +kernel)) (fun _ h9 => h9) rfl dX2_write_70 ?_
      refine lv_iload_n hx hb dX2_write_73 rfl (lv_at hl 3 rfl) ?_
      refine lv_iload hx hb dX2_write_74 (lv_at hl 0 rfl) ?_
      refine q_iast (j := (ix a1)) (ws' := wC k c0 c1 (upd v (ix a1) ((((v (ix a1)) &&& ((a3 &&& (cnt (ix a1))) ^^^ (-1 : Int32))) ||| (a2 &&& (a3 &&& (cnt (ix a1))))) ||| (lvb (ix a1))))) hx hb hK hP hD hS 1 0 rfl rfl h1 rfl rfl dX2_write_76 (fun H locs hP hD hS => ?_)
      refine lv_iload_n hx hb dX2_write_77 rfl (lv_at hl 3 rfl) ?_
      refine lv_bipush (v := (14 : Int32)) hx hb dX2_write_78 (by decide) ?_
      refine lv_icmp_ne (tgt := 95) hx hb dX2_write_80 (by decide) (fun c_80 => ?_) (fun c_80 => ?_)
      · exact W.vret hx hb hr (wr_end rfl (congrArg (wC k c0 c1) (show fX2_write v a1 a2 a3 = (upd v (ix a1) ((((v (ix a1)) &&& ((a3 &&& (cnt (ix a1))) ^^^ (-1 : Int32))) ||| (a2 &&& (a3 &&& (cnt (ix a1))))) ||| (lvb (ix a1)))) from (if_neg c_11).trans ((if_neg c_56).trans ((if_neg c_80).trans rfl))).symm) hP hS) hS.2.2 dX2_write_95
      · refine lv_aload_n hx hb dX2_write_83 rfl (lv_at hl 2 rfl) ?_
        refine va_get (D := D) (ci := 1) (v := .ref c1) (C := RX2) (T := TX2) (N := 1) hx hb hts (by decide +kernel) hown hK hP 0 rfl rfl 0 (by decide) (hts (.fieldLink RX2 11 "TrapMachine$Controls" "values" "[I") (by decide +kernel)) (fun _ h9 => h9) rfl dX2_write_84 ?_
        refine lv_bipush (v := (15 : Int32)) hx hb dX2_write_87 (by decide) ?_
        refine lv_iload hx hb dX2_write_89 (lv_at hl 0 rfl) ?_
        refine lv_ldc (v := (65532 : Int32)) hx hb hown (hts (.constant RX2 21 (65532)) (by decide +kernel)) dX2_write_91 ?_
        refine lv_iand hx hb dX2_write_93 ?_
        refine q_iast (j := 15) (ws' := wC k c0 c1 (upd (upd v (ix a1) ((((v (ix a1)) &&& ((a3 &&& (cnt (ix a1))) ^^^ (-1 : Int32))) ||| (a2 &&& (a3 &&& (cnt (ix a1))))) ||| (lvb (ix a1)))) 15 (((((v (ix a1)) &&& ((a3 &&& (cnt (ix a1))) ^^^ (-1 : Int32))) ||| (a2 &&& (a3 &&& (cnt (ix a1))))) ||| (lvb (ix a1))) &&& (65532 : Int32)))) hx hb hK hP hD hS 1 0 rfl rfl (vi_k (by decide)) rfl rfl dX2_write_94 (fun H locs hP hD hS => ?_)
        exact W.vret hx hb hr (wr_end rfl (congrArg (wC k c0 c1) (show fX2_write v a1 a2 a3 = (upd (upd v (ix a1) ((((v (ix a1)) &&& ((a3 &&& (cnt (ix a1))) ^^^ (-1 : Int32))) ||| (a2 &&& (a3 &&& (cnt (ix a1))))) ||| (lvb (ix a1)))) 15 (((((v (ix a1)) &&& ((a3 &&& (cnt (ix a1))) ^^^ (-1 : Int32))) ||| (a2 &&& (a3 &&& (cnt (ix a1))))) ||| (lvb (ix a1))) &&& (65532 : Int32))) from (if_neg c_11).trans ((if_neg c_56).trans ((if_pos c_80).trans rfl))).symm) hP hS) hS.2.2 dX2_write_95
  · refine lv_aload_n hx hb dX2_write_14 rfl (lv_at hl 1 rfl) ?_
    refine va_get (D := D) (ci := 1) (v := .ref c1) (C := RX2) (T := TX2) (N := 1) hx hb hts (by decide +kernel) hown hK hP 0 rfl rfl 0 (by decide) (hts (.fieldLink RX2 11 "TrapMachine$Controls" "values" "[I") (by decide +kernel)) (fun _ h9 => h9) rfl dX2_write_15 ?_
    refine lv_iconst (v := (3 : Int32)) hx hb dX2_write_18 (by decide) ?_
    refine lv_dup2_11 hx hb dX2_write_19 rfl rfl ?_
    refine q_iald (j := 3) hx hb hK hP 1 0 rfl rfl (vi_k (by decide)) rfl dX2_write_20 ?_
    refine lv_iload_n hx hb dX2_write_21 rfl (lv_at hl 3 rfl) ?_
    refine lv_iload hx hb dX2_write_22 (lv_at hl 0 rfl) ?_
    refine lv_iand hx hb dX2_write_24 ?_
    refine lv_iconst (v := (-1 : Int32)) hx hb dX2_write_25 (by decide) ?_
    refine lv_ixor hx hb dX2_write_26 ?_
    refine lv_iand hx hb dX2_write_27 ?_
    refine q_iast (j := 3) (ws' := wC k c0 c1 (upd v 3 ((v 3) &&& ((a2 &&& (a3 &&& (cnt (ix a1)))) ^^^ (-1 : Int32))))) hx hb hK hP hD hS 1 0 rfl rfl (vi_k (by decide)) rfl rfl dX2_write_28 (fun H locs hP hD hS => ?_)
    exact W.vret hx hb hr (wr_end rfl (congrArg (wC k c0 c1) (show fX2_write v a1 a2 a3 = (upd v 3 ((v 3) &&& ((a2 &&& (a3 &&& (cnt (ix a1)))) ^^^ (-1 : Int32)))) from (if_pos c_11).trans rfl).symm) hP hS) hS.2.2 dX2_write_29
def fX2_level (v : Nat → Int32)  : Int32 :=
  ((v 0) &&& (3 : Int32))
set_option maxHeartbeats 4000000 in
set_option maxRecDepth 100000 in
theorem kX2_level (l : Launch) (D : va_G) (k : Nat → ClassId) (c0 c1 : Nat) (v : Nat → Int32)   : Met l yX2_level wsX2_level { frames := 0, cells := 0, slots := 0, locals := 0 } (rd_P D vwCl (tyL k) (wC k c0 c1 v) (fun _ => True) [.ref c0]) (QcRead (fX2_level v)) 0 0 (fun _ => False) := by
  refine Met.ofW (cc := cX2_level) (maxL := 1) (ret := (some .int)) (by decide) rfl ?_
  intro p e s m args below meth c s₁ B hml hv0
  obtain ⟨rfl, hP, hK, hX⟩ := hv0
  have hx := B.exec
  have hb := B.bytes
  have hr := B.returns
  have hts := atoms_spec (ws := wsX2_level) B.pre
  have hown : s.vm.findClass RX2 = some m.cls := findClass_of_methodNamed B.named
  have hlocks := B.notSynchronized
  have hl := lv_entry ([.ref c0]) (n := 1) (Nat.le_of_ble_eq_true rfl)
  rw [lg_entry_eq]
  generalize (lg_sl ([.ref c0]) ++ List.replicate (1 - (lg_sl ([.ref c0])).length) Slot.unset).toArray = ls at hl ⊢
  have hl : lv_has ls 1 [(0, .ref c0)] := hl
  refine lv_aload_n hx hb dX2_level_0 rfl (lv_at hl 0 rfl) ?_
  refine va_get (D := D) (ci := 1) (v := .ref c1) (C := RX2) (T := TX2) (N := 1) hx hb hts (by decide +kernel) hown hK hP 0 rfl rfl 0 (by decide) (hts (.fieldLink RX2 11 "TrapMachine$Controls" "values" "[I") (by decide +kernel)) (fun _ h9 => h9) rfl dX2_level_1 ?_
  refine lv_iconst (v := (0 : Int32)) hx hb dX2_level_4 (by decide) ?_
  refine q_iald (j := 0) hx hb hK hP 1 0 rfl rfl (vi_k (by decide)) rfl dX2_level_5 ?_
  refine lv_iconst (v := (3 : Int32)) hx hb dX2_level_6 (by decide) ?_
  refine lv_iand hx hb dX2_level_7 ?_
  exact W.iret (v := ((v 0) &&& (3 : Int32))) hx hb hr (rd_end (show fX2_level v = ((v 0) &&& (3 : Int32)) from rfl)) (fun q h => by cases h) dX2_level_8
def fX2_isEnabled (v : Nat → Int32)  : Int32 :=
  if ((v 0) &&& (4 : Int32)) = (0 : Int32) then
    (0 : Int32)
  else
    (1 : Int32)
set_option maxHeartbeats 4000000 in
set_option maxRecDepth 100000 in
theorem kX2_isEnabled (l : Launch) (D : va_G) (k : Nat → ClassId) (c0 c1 : Nat) (v : Nat → Int32)   : Met l yX2_isEnabled wsX2_isEnabled { frames := 0, cells := 0, slots := 0, locals := 0 } (rd_P D vwCl (tyL k) (wC k c0 c1 v) (fun _ => True) [.ref c0]) (QcRead (fX2_isEnabled v)) 0 0 (fun _ => False) := by
  refine Met.ofW (cc := cX2_isEnabled) (maxL := 1) (ret := (some .boolean)) (by decide) rfl ?_
  intro p e s m args below meth c s₁ B hml hv0
  obtain ⟨rfl, hP, hK, hX⟩ := hv0
  have hx := B.exec
  have hb := B.bytes
  have hr := B.returns
  have hts := atoms_spec (ws := wsX2_isEnabled) B.pre
  have hown : s.vm.findClass RX2 = some m.cls := findClass_of_methodNamed B.named
  have hlocks := B.notSynchronized
  have hl := lv_entry ([.ref c0]) (n := 1) (Nat.le_of_ble_eq_true rfl)
  rw [lg_entry_eq]
  generalize (lg_sl ([.ref c0]) ++ List.replicate (1 - (lg_sl ([.ref c0])).length) Slot.unset).toArray = ls at hl ⊢
  have hl : lv_has ls 1 [(0, .ref c0)] := hl
  refine lv_aload_n hx hb dX2_isEnabled_0 rfl (lv_at hl 0 rfl) ?_
  refine va_get (D := D) (ci := 1) (v := .ref c1) (C := RX2) (T := TX2) (N := 1) hx hb hts (by decide +kernel) hown hK hP 0 rfl rfl 0 (by decide) (hts (.fieldLink RX2 11 "TrapMachine$Controls" "values" "[I") (by decide +kernel)) (fun _ h9 => h9) rfl dX2_isEnabled_1 ?_
  refine lv_iconst (v := (0 : Int32)) hx hb dX2_isEnabled_4 (by decide) ?_
  refine q_iald (j := 0) hx hb hK hP 1 0 rfl rfl (vi_k (by decide)) rfl dX2_isEnabled_5 ?_
  refine lv_iconst (v := (4 : Int32)) hx hb dX2_isEnabled_6 (by decide) ?_
  refine lv_iand hx hb dX2_isEnabled_7 ?_
  refine lv_if_eq (tgt := 15) hx hb dX2_isEnabled_8 (by decide) (fun c_8 => ?_) (fun c_8 => ?_)
  · refine lv_iconst (v := (0 : Int32)) hx hb dX2_isEnabled_15 (by decide) ?_
    exact W.zret (v := (0 : Int32)) hx hb hr rfl (rd_end (show fX2_isEnabled v = (0 : Int32) from (if_pos c_8).trans rfl)) (fun q h => by cases h) dX2_isEnabled_16
  · refine lv_iconst (v := (1 : Int32)) hx hb dX2_isEnabled_11 (by decide) ?_
    refine lv_goto (tgt := 16) hx hb dX2_isEnabled_12 (by decide) ?_
    exact W.zret (v := (1 : Int32)) hx hb hr rfl (rd_end (show fX2_isEnabled v = (1 : Int32) from (if_neg c_8).trans rfl)) (fun q h => by cases h) dX2_isEnabled_16
def fX2_isDirect (v : Nat → Int32)  : Int32 :=
  if ((v 0) &&& (8 : Int32)) = (0 : Int32) then
    (0 : Int32)
  else
    (1 : Int32)
set_option maxHeartbeats 4000000 in
set_option maxRecDepth 100000 in
theorem kX2_isDirect (l : Launch) (D : va_G) (k : Nat → ClassId) (c0 c1 : Nat) (v : Nat → Int32)   : Met l yX2_isDirect wsX2_isDirect { frames := 0, cells := 0, slots := 0, locals := 0 } (rd_P D vwCl (tyL k) (wC k c0 c1 v) (fun _ => True) [.ref c0]) (QcRead (fX2_isDirect v)) 0 0 (fun _ => False) := by
  refine Met.ofW (cc := cX2_isDirect) (maxL := 1) (ret := (some .boolean)) (by decide) rfl ?_
  intro p e s m args below meth c s₁ B hml hv0
  obtain ⟨rfl, hP, hK, hX⟩ := hv0
  have hx := B.exec
  have hb := B.bytes
  have hr := B.returns
  have hts := atoms_spec (ws := wsX2_isDirect) B.pre
  have hown : s.vm.findClass RX2 = some m.cls := findClass_of_methodNamed B.named
  have hlocks := B.notSynchronized
  have hl := lv_entry ([.ref c0]) (n := 1) (Nat.le_of_ble_eq_true rfl)
  rw [lg_entry_eq]
  generalize (lg_sl ([.ref c0]) ++ List.replicate (1 - (lg_sl ([.ref c0])).length) Slot.unset).toArray = ls at hl ⊢
  have hl : lv_has ls 1 [(0, .ref c0)] := hl
  refine lv_aload_n hx hb dX2_isDirect_0 rfl (lv_at hl 0 rfl) ?_
  refine va_get (D := D) (ci := 1) (v := .ref c1) (C := RX2) (T := TX2) (N := 1) hx hb hts (by decide +kernel) hown hK hP 0 rfl rfl 0 (by decide) (hts (.fieldLink RX2 11 "TrapMachine$Controls" "values" "[I") (by decide +kernel)) (fun _ h9 => h9) rfl dX2_isDirect_1 ?_
  refine lv_iconst (v := (0 : Int32)) hx hb dX2_isDirect_4 (by decide) ?_
  refine q_iald (j := 0) hx hb hK hP 1 0 rfl rfl (vi_k (by decide)) rfl dX2_isDirect_5 ?_
  refine lv_bipush (v := (8 : Int32)) hx hb dX2_isDirect_6 (by decide) ?_
  refine lv_iand hx hb dX2_isDirect_8 ?_
  refine lv_if_eq (tgt := 16) hx hb dX2_isDirect_9 (by decide) (fun c_9 => ?_) (fun c_9 => ?_)
  · refine lv_iconst (v := (0 : Int32)) hx hb dX2_isDirect_16 (by decide) ?_
    exact W.zret (v := (0 : Int32)) hx hb hr rfl (rd_end (show fX2_isDirect v = (0 : Int32) from (if_pos c_9).trans rfl)) (fun q h => by cases h) dX2_isDirect_17
  · refine lv_iconst (v := (1 : Int32)) hx hb dX2_isDirect_12 (by decide) ?_
    refine lv_goto (tgt := 17) hx hb dX2_isDirect_13 (by decide) ?_
    exact W.zret (v := (1 : Int32)) hx hb hr rfl (rd_end (show fX2_isDirect v = (1 : Int32) from (if_neg c_9).trans rfl)) (fun q h => by cases h) dX2_isDirect_17
def fX2_isEmpty (v : Nat → Int32)  : Int32 :=
  if ((v 7) &&& (-2147483648 : Int32)) = (0 : Int32) then
    (0 : Int32)
  else
    (1 : Int32)
set_option maxHeartbeats 4000000 in
set_option maxRecDepth 100000 in
theorem kX2_isEmpty (l : Launch) (D : va_G) (k : Nat → ClassId) (c0 c1 : Nat) (v : Nat → Int32)   : Met l yX2_isEmpty wsX2_isEmpty { frames := 0, cells := 0, slots := 0, locals := 0 } (rd_P D vwCl (tyL k) (wC k c0 c1 v) (fun _ => True) [.ref c0]) (QcRead (fX2_isEmpty v)) 0 0 (fun _ => False) := by
  refine Met.ofW (cc := cX2_isEmpty) (maxL := 1) (ret := (some .boolean)) (by decide) rfl ?_
  intro p e s m args below meth c s₁ B hml hv0
  obtain ⟨rfl, hP, hK, hX⟩ := hv0
  have hx := B.exec
  have hb := B.bytes
  have hr := B.returns
  have hts := atoms_spec (ws := wsX2_isEmpty) B.pre
  have hown : s.vm.findClass RX2 = some m.cls := findClass_of_methodNamed B.named
  have hlocks := B.notSynchronized
  have hl := lv_entry ([.ref c0]) (n := 1) (Nat.le_of_ble_eq_true rfl)
  rw [lg_entry_eq]
  generalize (lg_sl ([.ref c0]) ++ List.replicate (1 - (lg_sl ([.ref c0])).length) Slot.unset).toArray = ls at hl ⊢
  have hl : lv_has ls 1 [(0, .ref c0)] := hl
  refine lv_aload_n hx hb dX2_isEmpty_0 rfl (lv_at hl 0 rfl) ?_
  refine va_get (D := D) (ci := 1) (v := .ref c1) (C := RX2) (T := TX2) (N := 1) hx hb hts (by decide +kernel) hown hK hP 0 rfl rfl 0 (by decide) (hts (.fieldLink RX2 11 "TrapMachine$Controls" "values" "[I") (by decide +kernel)) (fun _ h9 => h9) rfl dX2_isEmpty_1 ?_
  refine lv_bipush (v := (7 : Int32)) hx hb dX2_isEmpty_4 (by decide) ?_
  refine q_iald (j := 7) hx hb hK hP 1 0 rfl rfl (vi_k (by decide)) rfl dX2_isEmpty_6 ?_
  refine lv_ldc (v := (-2147483648 : Int32)) hx hb hown (hts (.constant RX2 22 (-2147483648)) (by decide +kernel)) dX2_isEmpty_7 ?_
  refine lv_iand hx hb dX2_isEmpty_9 ?_
  refine lv_if_eq (tgt := 17) hx hb dX2_isEmpty_10 (by decide) (fun c_10 => ?_) (fun c_10 => ?_)
  · refine lv_iconst (v := (0 : Int32)) hx hb dX2_isEmpty_17 (by decide) ?_
    exact W.zret (v := (0 : Int32)) hx hb hr rfl (rd_end (show fX2_isEmpty v = (0 : Int32) from (if_pos c_10).trans rfl)) (fun q h => by cases h) dX2_isEmpty_18
  · refine lv_iconst (v := (1 : Int32)) hx hb dX2_isEmpty_13 (by decide) ?_
    refine lv_goto (tgt := 18) hx hb dX2_isEmpty_14 (by decide) ?_
    exact W.zret (v := (1 : Int32)) hx hb hr rfl (rd_end (show fX2_isEmpty v = (1 : Int32) from (if_neg c_10).trans rfl)) (fun q h => by cases h) dX2_isEmpty_18
def fX2_code (v : Nat → Int32)  : Int32 :=
  ((iu (v 3) (16 : Int32)) &&& (63 : Int32))
set_option maxHeartbeats 4000000 in
set_option maxRecDepth 100000 in
theorem kX2_code (l : Launch) (D : va_G) (k : Nat → ClassId) (c0 c1 : Nat) (v : Nat → Int32)   : Met l yX2_code wsX2_code { frames := 0, cells := 0, slots := 0, locals := 0 } (rd_P D vwCl (tyL k) (wC k c0 c1 v) (fun _ => True) [.ref c0]) (QcRead (fX2_code v)) 0 0 (fun _ => False) := by
  refine Met.ofW (cc := cX2_code) (maxL := 1) (ret := (some .int)) (by decide) rfl ?_
  intro p e s m args below meth c s₁ B hml hv0
  obtain ⟨rfl, hP, hK, hX⟩ := hv0
  have hx := B.exec
  have hb := B.bytes
  have hr := B.returns
  have hts := atoms_spec (ws := wsX2_code) B.pre
  have hown : s.vm.findClass RX2 = some m.cls := findClass_of_methodNamed B.named
  have hlocks := B.notSynchronized
  have hl := lv_entry ([.ref c0]) (n := 1) (Nat.le_of_ble_eq_true rfl)
  rw [lg_entry_eq]
  generalize (lg_sl ([.ref c0]) ++ List.replicate (1 - (lg_sl ([.ref c0])).length) Slot.unset).toArray = ls at hl ⊢
  have hl : lv_has ls 1 [(0, .ref c0)] := hl
  refine lv_aload_n hx hb dX2_code_0 rfl (lv_at hl 0 rfl) ?_
  refine va_get (D := D) (ci := 1) (v := .ref c1) (C := RX2) (T := TX2) (N := 1) hx hb hts (by decide +kernel) hown hK hP 0 rfl rfl 0 (by decide) (hts (.fieldLink RX2 11 "TrapMachine$Controls" "values" "[I") (by decide +kernel)) (fun _ h9 => h9) rfl dX2_code_1 ?_
  refine lv_iconst (v := (3 : Int32)) hx hb dX2_code_4 (by decide) ?_
  refine q_iald (j := 3) hx hb hK hP 1 0 rfl rfl (vi_k (by decide)) rfl dX2_code_5 ?_
  refine lv_bipush (v := (16 : Int32)) hx hb dX2_code_6 (by decide) ?_
  refine lv_iushr (v := (iu (v 3) (16 : Int32))) hx hb dX2_code_8 rfl ?_
  refine lv_bipush (v := (63 : Int32)) hx hb dX2_code_9 (by decide) ?_
  refine lv_iand hx hb dX2_code_11 ?_
  exact W.iret (v := ((iu (v 3) (16 : Int32)) &&& (63 : Int32))) hx hb hr (rd_end (show fX2_code v = ((iu (v 3) (16 : Int32)) &&& (63 : Int32)) from rfl)) (fun q h => by cases h) dX2_code_12
def fX2_isAsked (v : Nat → Int32)  : Int32 :=
  if (((v 2) &&& (v 3)) &&& (31 : Int32)) = (0 : Int32) then
    (0 : Int32)
  else
    (1 : Int32)
set_option maxHeartbeats 4000000 in
set_option maxRecDepth 100000 in
theorem kX2_isAsked (l : Launch) (D : va_G) (k : Nat → ClassId) (c0 c1 : Nat) (v : Nat → Int32)   : Met l yX2_isAsked wsX2_isAsked { frames := 0, cells := 0, slots := 0, locals := 0 } (rd_P D vwCl (tyL k) (wC k c0 c1 v) (fun _ => True) [.ref c0]) (QcRead (fX2_isAsked v)) 0 0 (fun _ => False) := by
  refine Met.ofW (cc := cX2_isAsked) (maxL := 1) (ret := (some .boolean)) (by decide) rfl ?_
  intro p e s m args below meth c s₁ B hml hv0
  obtain ⟨rfl, hP, hK, hX⟩ := hv0
  have hx := B.exec
  have hb := B.bytes
  have hr := B.returns
  have hts := atoms_spec (ws := wsX2_isAsked) B.pre
  have hown : s.vm.findClass RX2 = some m.cls := findClass_of_methodNamed B.named
  have hlocks := B.notSynchronized
  have hl := lv_entry ([.ref c0]) (n := 1) (Nat.le_of_ble_eq_true rfl)
  rw [lg_entry_eq]
  generalize (lg_sl ([.ref c0]) ++ List.replicate (1 - (lg_sl ([.ref c0])).length) Slot.unset).toArray = ls at hl ⊢
  have hl : lv_has ls 1 [(0, .ref c0)] := hl
  refine lv_aload_n hx hb dX2_isAsked_0 rfl (lv_at hl 0 rfl) ?_
  refine va_get (D := D) (ci := 1) (v := .ref c1) (C := RX2) (T := TX2) (N := 1) hx hb hts (by decide +kernel) hown hK hP 0 rfl rfl 0 (by decide) (hts (.fieldLink RX2 11 "TrapMachine$Controls" "values" "[I") (by decide +kernel)) (fun _ h9 => h9) rfl dX2_isAsked_1 ?_
  refine lv_iconst (v := (2 : Int32)) hx hb dX2_isAsked_4 (by decide) ?_
  refine q_iald (j := 2) hx hb hK hP 1 0 rfl rfl (vi_k (by decide)) rfl dX2_isAsked_5 ?_
  refine lv_aload_n hx hb dX2_isAsked_6 rfl (lv_at hl 0 rfl) ?_
  refine va_get (D := D) (ci := 1) (v := .ref c1) (C := RX2) (T := TX2) (N := 1) hx hb hts (by decide +kernel) hown hK hP 0 rfl rfl 0 (by decide) (hts (.fieldLink RX2 11 "TrapMachine$Controls" "values" "[I") (by decide +kernel)) (fun _ h9 => h9) rfl dX2_isAsked_7 ?_
  refine lv_iconst (v := (3 : Int32)) hx hb dX2_isAsked_10 (by decide) ?_
  refine q_iald (j := 3) hx hb hK hP 1 0 rfl rfl (vi_k (by decide)) rfl dX2_isAsked_11 ?_
  refine lv_iand hx hb dX2_isAsked_12 ?_
  refine lv_bipush (v := (31 : Int32)) hx hb dX2_isAsked_13 (by decide) ?_
  refine lv_iand hx hb dX2_isAsked_15 ?_
  refine lv_if_eq (tgt := 23) hx hb dX2_isAsked_16 (by decide) (fun c_16 => ?_) (fun c_16 => ?_)
  · refine lv_iconst (v := (0 : Int32)) hx hb dX2_isAsked_23 (by decide) ?_
    exact W.zret (v := (0 : Int32)) hx hb hr rfl (rd_end (show fX2_isAsked v = (0 : Int32) from (if_pos c_16).trans rfl)) (fun q h => by cases h) dX2_isAsked_24
  · refine lv_iconst (v := (1 : Int32)) hx hb dX2_isAsked_19 (by decide) ?_
    refine lv_goto (tgt := 24) hx hb dX2_isAsked_20 (by decide) ?_
    exact W.zret (v := (1 : Int32)) hx hb hr rfl (rd_end (show fX2_isAsked v = (1 : Int32) from (if_neg c_16).trans rfl)) (fun q h => by cases h) dX2_isAsked_24
def fX2_isInWindow (v : Nat → Int32) (a1 : Int32) : Int32 :=
  if ((iu (v 17) ((v 0) &&& (3 : Int32))) &&& (1 : Int32)) = (0 : Int32) then
    (0 : Int32)
  else
    if (iu (a1 ^^^ (v 17)) (28 : Int32)) = (0 : Int32) then
      (1 : Int32)
    else
      (0 : Int32)
set_option maxHeartbeats 4000000 in
set_option maxRecDepth 100000 in
theorem kX2_isInWindow (l : Launch) (D : va_G) (k : Nat → ClassId) (c0 c1 : Nat) (v : Nat → Int32) (a1 : Int32)  : Met l yX2_isInWindow wsX2_isInWindow { frames := 0, cells := 0, slots := 0, locals := 0 } (rd_P D vwCl (tyL k) (wC k c0 c1 v) (fun _ => True) [.ref c0, .int a1]) (QcRead (fX2_isInWindow v a1)) 0 0 (fun _ => False) := by
  refine Met.ofW (cc := cX2_isInWindow) (maxL := 4) (ret := (some .boolean)) (by decide) rfl ?_
  intro p e s m args below meth c s₁ B hml hv0
  obtain ⟨rfl, hP, hK, hX⟩ := hv0
  have hx := B.exec
  have hb := B.bytes
  have hr := B.returns
  have hts := atoms_spec (ws := wsX2_isInWindow) B.pre
  have hown : s.vm.findClass RX2 = some m.cls := findClass_of_methodNamed B.named
  have hlocks := B.notSynchronized
  have hl := lv_entry ([.ref c0, .int a1]) (n := 4) (Nat.le_of_ble_eq_true rfl)
  rw [lg_entry_eq]
  generalize (lg_sl ([.ref c0, .int a1]) ++ List.replicate (4 - (lg_sl ([.ref c0, .int a1])).length) Slot.unset).toArray = ls at hl ⊢
  have hl : lv_has ls 4 [(0, .ref c0), (1, .int a1)] := hl
  refine lv_aload_n hx hb dX2_isInWindow_0 rfl (lv_at hl 0 rfl) ?_
  refine va_get (D := D) (ci := 1) (v := .ref c1) (C := RX2) (T := TX2) (N := 1) hx hb hts (by decide +kernel) hown hK hP 0 rfl rfl 0 (by decide) (hts (.fieldLink RX2 11 "TrapMachine$Controls" "values" "[I") (by decide +kernel)) (fun _ h9 => h9) rfl dX2_isInWindow_1 ?_
  refine lv_bipush (v := (17 : Int32)) hx hb dX2_isInWindow_4 (by decide) ?_
  refine q_iald (j := 17) hx hb hK hP 1 0 rfl rfl (vi_k (by decide)) rfl dX2_isInWindow_6 ?_
  refine lv_istore_n (lv' := [(2, .int (v 17)), (0, .ref c0), (1, .int a1)]) hx hb dX2_isInWindow_7 rfl hl (by decide) rfl (fun ls hl => ?_)
  refine lv_iload_n hx hb dX2_isInWindow_8 rfl (lv_at hl 0 rfl) ?_
  refine lv_aload_n hx hb dX2_isInWindow_9 rfl (lv_at hl 1 rfl) ?_
  refine va_get (D := D) (ci := 1) (v := .ref c1) (C := RX2) (T := TX2) (N := 1) hx hb hts (by decide +kernel) hown hK hP 0 rfl rfl 0 (by decide) (hts (.fieldLink RX2 11 "TrapMachine$Controls" "values" "[I") (by decide +kernel)) (fun _ h9 => h9) rfl dX2_isInWindow_10 ?_
  refine lv_iconst (v := (0 : Int32)) hx hb dX2_isInWindow_13 (by decide) ?_
  refine q_iald (j := 0) hx hb hK hP 1 0 rfl rfl (vi_k (by decide)) rfl dX2_isInWindow_14 ?_
  refine lv_iconst (v := (3 : Int32)) hx hb dX2_isInWindow_15 (by decide) ?_
  refine lv_iand hx hb dX2_isInWindow_16 ?_
  refine lv_iushr (v := (iu (v 17) ((v 0) &&& (3 : Int32)))) hx hb dX2_isInWindow_17 rfl ?_
  refine lv_iconst (v := (1 : Int32)) hx hb dX2_isInWindow_18 (by decide) ?_
  refine lv_iand hx hb dX2_isInWindow_19 ?_
  refine lv_if_eq (tgt := 27) hx hb dX2_isInWindow_20 (by decide) (fun c_20 => ?_) (fun c_20 => ?_)
  · refine lv_iconst (v := (0 : Int32)) hx hb dX2_isInWindow_27 (by decide) ?_
    refine lv_istore_n (lv' := [(3, .int (0 : Int32)), (2, .int (v 17)), (0, .ref c0), (1, .int a1)]) hx hb dX2_isInWindow_28 rfl hl (by decide) rfl (fun ls hl => ?_)
    refine lv_iload_n hx hb dX2_isInWindow_29 rfl (lv_at hl 0 rfl) ?_
    refine lv_if_eq (tgt := 46) hx hb dX2_isInWindow_30 (by decide) (fun _ => ?_) (fun c9 => absurd (by decide) c9)
    refine lv_iconst (v := (0 : Int32)) hx hb dX2_isInWindow_46 (by decide) ?_
    exact W.zret (v := (0 : Int32)) hx hb hr rfl (rd_end (show fX2_isInWindow v a1 = (0 : Int32) from (if_pos c_20).trans rfl)) (fun q h => by cases h) dX2_isInWindow_47
  · refine lv_iconst (v := (1 : Int32)) hx hb dX2_isInWindow_23 (by decide) ?_
    refine lv_goto (tgt := 28) hx hb dX2_isInWindow_24 (by decide) ?_
    refine lv_istore_n (lv' := [(3, .int (1 : Int32)), (2, .int (v 17)), (0, .ref c0), (1, .int a1)]) hx hb dX2_isInWindow_28 rfl hl (by decide) rfl (fun ls hl => ?_)
    refine lv_iload_n hx hb dX2_isInWindow_29 rfl (lv_at hl 0 rfl) ?_
    refine lv_if_eq (tgt := 46) hx hb dX2_isInWindow_30 (by decide) (fun c9 => absurd c9 (by decide)) (fun _ => ?_)
    refine lv_iload_n hx hb dX2_isInWindow_33 rfl (lv_at hl 3 rfl) ?_
    refine lv_iload_n hx hb dX2_isInWindow_34 rfl (lv_at hl 1 rfl) ?_
    refine lv_ixor hx hb dX2_isInWindow_35 ?_
    refine lv_bipush (v := (28 : Int32)) hx hb dX2_isInWindow_36 (by decide) ?_
    refine lv_iushr (v := (iu (a1 ^^^ (v 17)) (28 : Int32))) hx hb dX2_isInWindow_38 rfl ?_
    refine lv_if_ne (tgt := 46) hx hb dX2_isInWindow_39 (by decide) (fun c_39 => ?_) (fun c_39 => ?_)
    · refine lv_iconst (v := (0 : Int32)) hx hb dX2_isInWindow_46 (by decide) ?_
      exact W.zret (v := (0 : Int32)) hx hb hr rfl (rd_end (show fX2_isInWindow v a1 = (0 : Int32) from (if_neg c_20).trans ((if_neg c_39).trans rfl))) (fun q h => by cases h) dX2_isInWindow_47
    · refine lv_iconst (v := (1 : Int32)) hx hb dX2_isInWindow_42 (by decide) ?_
      refine lv_goto (tgt := 47) hx hb dX2_isInWindow_43 (by decide) ?_
      exact W.zret (v := (1 : Int32)) hx hb hr rfl (rd_end (show fX2_isInWindow v a1 = (1 : Int32) from (if_neg c_20).trans ((if_pos c_39).trans rfl))) (fun q h => by cases h) dX2_isInWindow_47
def fX2_setDirect (v : Nat → Int32)  : Nat → Int32 :=
  (upd v 0 ((v 0) ||| (8 : Int32)))
set_option maxHeartbeats 4000000 in
set_option maxRecDepth 100000 in
theorem kX2_setDirect (l : Launch) (D : va_G) (k : Nat → ClassId) (c0 c1 : Nat) (v : Nat → Int32)   : Met l yX2_setDirect wsX2_setDirect { frames := 0, cells := 0, slots := 0, locals := 0 } (wr_P D vwCl (tyL k) (wC k c0 c1 v) (fun _ => True) [.ref c0]) (wr_Q D vwCl none (wC k c0 c1 v) (wC k c0 c1 (fX2_setDirect v))) 0 0 (in_W (wC k c0 c1 v)) := by
  refine Met.ofW (cc := cX2_setDirect) (maxL := 1) (ret := none) (by decide) rfl ?_
  intro p e s m args below meth c s₁ B hml hv0
  obtain ⟨rfl, hP, hK, hX, hD0⟩ := hv0
  have hx := B.exec
  have hb := B.bytes
  have hr := B.returns
  have hts := atoms_spec (ws := wsX2_setDirect) B.pre
  have hown : s.vm.findClass RX2 = some m.cls := findClass_of_methodNamed B.named
  have hlocks := B.notSynchronized
  have hD : va_D (in_W (wC k c0 c1 v)) (wC k c0 c1 v) := wD_self hD0
  have hS : va_S (in_W (wC k c0 c1 v)) s.heap s.heap [] := va_S.rf
  have hl := lv_entry ([.ref c0]) (n := 1) (Nat.le_of_ble_eq_true rfl)
  rw [lg_entry_eq]
  generalize (lg_sl ([.ref c0]) ++ List.replicate (1 - (lg_sl ([.ref c0])).length) Slot.unset).toArray = ls at hl ⊢
  have hl : lv_has ls 1 [(0, .ref c0)] := hl
  refine lv_aload_n hx hb dX2_setDirect_0 rfl (lv_at hl 0 rfl) ?_
  refine va_get (D := D) (ci := 1) (v := .ref c1) (C := RX2) (T := TX2) (N := 1) hx hb hts (by decide +kernel) hown hK hP 0 rfl rfl 0 (by decide) (hts (.fieldLink RX2 11 "TrapMachine$Controls" "values" "[I") (by decide +kernel)) (fun _ h9 => h9) rfl dX2_setDirect_1 ?_
  refine lv_iconst (v := (0 : Int32)) hx hb dX2_setDirect_4 (by decide) ?_
  refine lv_dup2_11 hx hb dX2_setDirect_5 rfl rfl ?_
  refine q_iald (j := 0) hx hb hK hP 1 0 rfl rfl (vi_k (by decide)) rfl dX2_setDirect_6 ?_
  refine lv_bipush (v := (8 : Int32)) hx hb dX2_setDirect_7 (by decide) ?_
  refine lv_ior hx hb dX2_setDirect_9 ?_
  refine q_iast (j := 0) (ws' := wC k c0 c1 (upd v 0 ((v 0) ||| (8 : Int32)))) hx hb hK hP hD hS 1 0 rfl rfl (vi_k (by decide)) rfl rfl dX2_setDirect_10 (fun H locs hP hD hS => ?_)
  exact W.vret hx hb hr (wr_end rfl (congrArg (wC k c0 c1) (show fX2_setDirect v = (upd v 0 ((v 0) ||| (8 : Int32))) from rfl).symm) hP hS) hS.2.2 dX2_setDirect_11
def fX2_setEmpty (v : Nat → Int32) (a1 : Int32) : Nat → Int32 :=
  if a1 = (0 : Int32) then
    (upd v 7 (((v 7) &&& (2147483647 : Int32)) ||| (0 : Int32)))
  else
    (upd v 7 (((v 7) &&& (2147483647 : Int32)) ||| (-2147483648 : Int32)))
set_option maxHeartbeats 4000000 in
set_option maxRecDepth 100000 in
theorem kX2_setEmpty (l : Launch) (D : va_G) (k : Nat → ClassId) (c0 c1 : Nat) (v : Nat → Int32) (a1 : Int32)  : Met l yX2_setEmpty wsX2_setEmpty { frames := 0, cells := 0, slots := 0, locals := 0 } (wr_P D vwCl (tyL k) (wC k c0 c1 v) (fun _ => True) [.ref c0, .int a1]) (wr_Q D vwCl none (wC k c0 c1 v) (wC k c0 c1 (fX2_setEmpty v a1))) 0 0 (in_W (wC k c0 c1 v)) := by
  refine Met.ofW (cc := cX2_setEmpty) (maxL := 2) (ret := none) (by decide) rfl ?_
  intro p e s m args below meth c s₁ B hml hv0
  obtain ⟨rfl, hP, hK, hX, hD0⟩ := hv0
  have hx := B.exec
  have hb := B.bytes
  have hr := B.returns
  have hts := atoms_spec (ws := wsX2_setEmpty) B.pre
  have hown : s.vm.findClass RX2 = some m.cls := findClass_of_methodNamed B.named
  have hlocks := B.notSynchronized
  have hD : va_D (in_W (wC k c0 c1 v)) (wC k c0 c1 v) := wD_self hD0
  have hS : va_S (in_W (wC k c0 c1 v)) s.heap s.heap [] := va_S.rf
  have hl := lv_entry ([.ref c0, .int a1]) (n := 2) (Nat.le_of_ble_eq_true rfl)
  rw [lg_entry_eq]
  generalize (lg_sl ([.ref c0, .int a1]) ++ List.replicate (2 - (lg_sl ([.ref c0, .int a1])).length) Slot.unset).toArray = ls at hl ⊢
  have hl : lv_has ls 2 [(0, .ref c0), (1, .int a1)] := hl
  refine lv_aload_n hx hb dX2_setEmpty_0 rfl (lv_at hl 0 rfl) ?_
  refine va_get (D := D) (ci := 1) (v := .ref c1) (C := RX2) (T := TX2) (N := 1) hx hb hts (by decide +kernel) hown hK hP 0 rfl rfl 0 (by decide) (hts (.fieldLink RX2 11 "TrapMachine$Controls" "values" "[I") (by decide +kernel)) (fun _ h9 => h9) rfl dX2_setEmpty_1 ?_
  refine lv_bipush (v := (7 : Int32)) hx hb dX2_setEmpty_4 (by decide) ?_
  refine lv_aload_n hx hb dX2_setEmpty_6 rfl (lv_at hl 0 rfl) ?_
  refine va_get (D := D) (ci := 1) (v := .ref c1) (C := RX2) (T := TX2) (N := 1) hx hb hts (by decide +kernel) hown hK hP 0 rfl rfl 0 (by decide) (hts (.fieldLink RX2 11 "TrapMachine$Controls" "values" "[I") (by decide +kernel)) (fun _ h9 => h9) rfl dX2_setEmpty_7 ?_
  refine lv_bipush (v := (7 : Int32)) hx hb dX2_setEmpty_10 (by decide) ?_
  refine q_iald (j := 7) hx hb hK hP 1 0 rfl rfl (vi_k (by decide)) rfl dX2_setEmpty_12 ?_
  refine lv_ldc (v := (2147483647 : Int32)) hx hb hown (hts (.constant RX2 23 (2147483647)) (by decide +kernel)) dX2_setEmpty_13 ?_
  refine lv_iand hx hb dX2_setEmpty_15 ?_
  refine lv_iload_n hx hb dX2_setEmpty_16 rfl (lv_at hl 1 rfl) ?_
  refine lv_if_eq (tgt := 25) hx hb dX2_setEmpty_17 (by decide) (fun c_17 => ?_) (fun c_17 => ?_)
  · refine lv_iconst (v := (0 : Int32)) hx hb dX2_setEmpty_25 (by decide) ?_
    refine lv_ior hx hb dX2_setEmpty_26 ?_
    refine q_iast (j := 7) (ws' := wC k c0 c1 (upd v 7 (((v 7) &&& (2147483647 : Int32)) ||| (0 : Int32)))) hx hb hK hP hD hS 1 0 rfl rfl (vi_k (by decide)) rfl rfl dX2_setEmpty_27 (fun H locs hP hD hS => ?_)
    exact W.vret hx hb hr (wr_end rfl (congrArg (wC k c0 c1) (show fX2_setEmpty v a1 = (upd v 7 (((v 7) &&& (2147483647 : Int32)) ||| (0 : Int32))) from (if_pos c_17).trans rfl).symm) hP hS) hS.2.2 dX2_setEmpty_28
  · refine lv_ldc (v := (-2147483648 : Int32)) hx hb hown (hts (.constant RX2 22 (-2147483648)) (by decide +kernel)) dX2_setEmpty_20 ?_
    refine lv_goto (tgt := 26) hx hb dX2_setEmpty_22 (by decide) ?_
    refine lv_ior hx hb dX2_setEmpty_26 ?_
    refine q_iast (j := 7) (ws' := wC k c0 c1 (upd v 7 (((v 7) &&& (2147483647 : Int32)) ||| (-2147483648 : Int32)))) hx hb hK hP hD hS 1 0 rfl rfl (vi_k (by decide)) rfl rfl dX2_setEmpty_27 (fun H locs hP hD hS => ?_)
    exact W.vret hx hb hr (wr_end rfl (congrArg (wC k c0 c1) (show fX2_setEmpty v a1 = (upd v 7 (((v 7) &&& (2147483647 : Int32)) ||| (-2147483648 : Int32))) from (if_neg c_17).trans rfl).symm) hP hS) hS.2.2 dX2_setEmpty_28
def fX2_setLine (v : Nat → Int32) (a1 : Int32) (a2 : Int32) : Nat → Int32 :=
  if a2 = (0 : Int32) then
    (upd v 3 (((v 3) &&& (((1 : Int32) <<< (a1 &&& 31)) ^^^ (-1 : Int32))) ||| (0 : Int32)))
  else
    (upd v 3 (((v 3) &&& (((1 : Int32) <<< (a1 &&& 31)) ^^^ (-1 : Int32))) ||| ((1 : Int32) <<< (a1 &&& 31))))
set_option maxHeartbeats 4000000 in
set_option maxRecDepth 100000 in
theorem kX2_setLine (l : Launch) (D : va_G) (k : Nat → ClassId) (c0 c1 : Nat) (v : Nat → Int32) (a1 : Int32) (a2 : Int32)  : Met l yX2_setLine wsX2_setLine { frames := 0, cells := 0, slots := 0, locals := 0 } (wr_P D vwCl (tyL k) (wC k c0 c1 v) (fun _ => True) [.ref c0, .int a1, .int a2]) (wr_Q D vwCl none (wC k c0 c1 v) (wC k c0 c1 (fX2_setLine v a1 a2))) 0 0 (in_W (wC k c0 c1 v)) := by
  refine Met.ofW (cc := cX2_setLine) (maxL := 4) (ret := none) (by decide) rfl ?_
  intro p e s m args below meth c s₁ B hml hv0
  obtain ⟨rfl, hP, hK, hX, hD0⟩ := hv0
  have hx := B.exec
  have hb := B.bytes
  have hr := B.returns
  have hts := atoms_spec (ws := wsX2_setLine) B.pre
  have hown : s.vm.findClass RX2 = some m.cls := findClass_of_methodNamed B.named
  have hlocks := B.notSynchronized
  have hD : va_D (in_W (wC k c0 c1 v)) (wC k c0 c1 v) := wD_self hD0
  have hS : va_S (in_W (wC k c0 c1 v)) s.heap s.heap [] := va_S.rf
  have hl := lv_entry ([.ref c0, .int a1, .int a2]) (n := 4) (Nat.le_of_ble_eq_true rfl)
  rw [lg_entry_eq]
  generalize (lg_sl ([.ref c0, .int a1, .int a2]) ++ List.replicate (4 - (lg_sl ([.ref c0, .int a1, .int a2])).length) Slot.unset).toArray = ls at hl ⊢
  have hl : lv_has ls 4 [(0, .ref c0), (1, .int a1), (2, .int a2)] := hl
  refine lv_iconst (v := (1 : Int32)) hx hb dX2_setLine_0 (by decide) ?_
  refine lv_iload_n hx hb dX2_setLine_1 rfl (lv_at hl 1 rfl) ?_
  refine lv_ishl hx hb dX2_setLine_2 ?_
  refine lv_istore_n (lv' := [(3, .int ((1 : Int32) <<< (a1 &&& 31))), (0, .ref c0), (1, .int a1), (2, .int a2)]) hx hb dX2_setLine_3 rfl hl (by decide) rfl (fun ls hl => ?_)
  refine lv_aload_n hx hb dX2_setLine_4 rfl (lv_at hl 1 rfl) ?_
  refine va_get (D := D) (ci := 1) (v := .ref c1) (C := RX2) (T := TX2) (N := 1) hx hb hts (by decide +kernel) hown hK hP 0 rfl rfl 0 (by decide) (hts (.fieldLink RX2 11 "TrapMachine$Controls" "values" "[I") (by decide +kernel)) (fun _ h9 => h9) rfl dX2_setLine_5 ?_
  refine lv_iconst (v := (3 : Int32)) hx hb dX2_setLine_8 (by decide) ?_
  refine lv_aload_n hx hb dX2_setLine_9 rfl (lv_at hl 1 rfl) ?_
  refine va_get (D := D) (ci := 1) (v := .ref c1) (C := RX2) (T := TX2) (N := 1) hx hb hts (by decide +kernel) hown hK hP 0 rfl rfl 0 (by decide) (hts (.fieldLink RX2 11 "TrapMachine$Controls" "values" "[I") (by decide +kernel)) (fun _ h9 => h9) rfl dX2_setLine_10 ?_
  refine lv_iconst (v := (3 : Int32)) hx hb dX2_setLine_13 (by decide) ?_
  refine q_iald (j := 3) hx hb hK hP 1 0 rfl rfl (vi_k (by decide)) rfl dX2_setLine_14 ?_
  refine lv_iload_n hx hb dX2_setLine_15 rfl (lv_at hl 0 rfl) ?_
  refine lv_iconst (v := (-1 : Int32)) hx hb dX2_setLine_16 (by decide) ?_
  refine lv_ixor hx hb dX2_setLine_17 ?_
  refine lv_iand hx hb dX2_setLine_18 ?_
  refine lv_iload_n hx hb dX2_setLine_19 rfl (lv_at hl 3 rfl) ?_
  refine lv_if_eq (tgt := 27) hx hb dX2_setLine_20 (by decide) (fun c_20 => ?_) (fun c_20 => ?_)
  · refine lv_iconst (v := (0 : Int32)) hx hb dX2_setLine_27 (by decide) ?_
    refine lv_ior hx hb dX2_setLine_28 ?_
    refine q_iast (j := 3) (ws' := wC k c0 c1 (upd v 3 (((v 3) &&& (((1 : Int32) <<< (a1 &&& 31)) ^^^ (-1 : Int32))) ||| (0 : Int32)))) hx hb hK hP hD hS 1 0 rfl rfl (vi_k (by decide)) rfl rfl dX2_setLine_29 (fun H locs hP hD hS => ?_)
    exact W.vret hx hb hr (wr_end rfl (congrArg (wC k c0 c1) (show fX2_setLine v a1 a2 = (upd v 3 (((v 3) &&& (((1 : Int32) <<< (a1 &&& 31)) ^^^ (-1 : Int32))) ||| (0 : Int32))) from (if_pos c_20).trans rfl).symm) hP hS) hS.2.2 dX2_setLine_30
  · refine lv_iload_n hx hb dX2_setLine_23 rfl (lv_at hl 0 rfl) ?_
    refine lv_goto (tgt := 28) hx hb dX2_setLine_24 (by decide) ?_
    refine lv_ior hx hb dX2_setLine_28 ?_
    refine q_iast (j := 3) (ws' := wC k c0 c1 (upd v 3 (((v 3) &&& (((1 : Int32) <<< (a1 &&& 31)) ^^^ (-1 : Int32))) ||| ((1 : Int32) <<< (a1 &&& 31))))) hx hb hK hP hD hS 1 0 rfl rfl (vi_k (by decide)) rfl rfl dX2_setLine_29 (fun H locs hP hD hS => ?_)
    exact W.vret hx hb hr (wr_end rfl (congrArg (wC k c0 c1) (show fX2_setLine v a1 a2 = (upd v 3 (((v 3) &&& (((1 : Int32) <<< (a1 &&& 31)) ^^^ (-1 : Int32))) ||| ((1 : Int32) <<< (a1 &&& 31)))) from (if_neg c_20).trans rfl).symm) hP hS) hS.2.2 dX2_setLine_30
def fX2_enter (v : Nat → Int32) (a1 : Int32) (a2 : Int32) : Nat → Int32 :=
  (upd (upd (upd (upd v 1 ((v 0) &&& (7 : Int32))) 0 (((upd v 1 ((v 0) &&& (7 : Int32))) 0) &&& (-8 : Int32))) 4 a2) 3 ((((upd (upd (upd v 1 ((v 0) &&& (7 : Int32))) 0 (((upd v 1 ((v 0) &&& (7 : Int32))) 0) &&& (-8 : Int32))) 4 a2) 3) &&& (31 : Int32)) ||| (a1 <<< ((16 : Int32) &&& 31))))
set_option maxHeartbeats 4000000 in
set_option maxRecDepth 100000 in
theorem kX2_enter (l : Launch) (D : va_G) (k : Nat → ClassId) (c0 c1 : Nat) (v : Nat → Int32) (a1 : Int32) (a2 : Int32)  : Met l yX2_enter wsX2_enter { frames := 0, cells := 0, slots := 0, locals := 0 } (wr_P D vwCl (tyL k) (wC k c0 c1 v) (fun _ => True) [.ref c0, .int a1, .int a2]) (wr_Q D vwCl none (wC k c0 c1 v) (wC k c0 c1 (fX2_enter v a1 a2))) 0 0 (in_W (wC k c0 c1 v)) := by
  refine Met.ofW (cc := cX2_enter) (maxL := 3) (ret := none) (by decide) rfl ?_
  intro p e s m args below meth c s₁ B hml hv0
  obtain ⟨rfl, hP, hK, hX, hD0⟩ := hv0
  have hx := B.exec
  have hb := B.bytes
  have hr := B.returns
  have hts := atoms_spec (ws := wsX2_enter) B.pre
  have hown : s.vm.findClass RX2 = some m.cls := findClass_of_methodNamed B.named
  have hlocks := B.notSynchronized
  have hD : va_D (in_W (wC k c0 c1 v)) (wC k c0 c1 v) := wD_self hD0
  have hS : va_S (in_W (wC k c0 c1 v)) s.heap s.heap [] := va_S.rf
  have hl := lv_entry ([.ref c0, .int a1, .int a2]) (n := 3) (Nat.le_of_ble_eq_true rfl)
  rw [lg_entry_eq]
  generalize (lg_sl ([.ref c0, .int a1, .int a2]) ++ List.replicate (3 - (lg_sl ([.ref c0, .int a1, .int a2])).length) Slot.unset).toArray = ls at hl ⊢
  have hl : lv_has ls 3 [(0, .ref c0), (1, .int a1), (2, .int a2)] := hl
  refine lv_aload_n hx hb dX2_enter_0 rfl (lv_at hl 0 rfl) ?_
  refine va_get (D := D) (ci := 1) (v := .ref c1) (C := RX2) (T := TX2) (N := 1) hx hb hts (by decide +kernel) hown hK hP 0 rfl rfl 0 (by decide) (hts (.fieldLink RX2 11 "TrapMachine$Controls" "values" "[I") (by decide +kernel)) (fun _ h9 => h9) rfl dX2_enter_1 ?_
  refine lv_iconst (v := (1 : Int32)) hx hb dX2_enter_4 (by decide) ?_
  refine lv_aload_n hx hb dX2_enter_5 rfl (lv_at hl 0 rfl) ?_
  refine va_get (D := D) (ci := 1) (v := .ref c1) (C := RX2) (T := TX2) (N := 1) hx hb hts (by decide +kernel) hown hK hP 0 rfl rfl 0 (by decide) (hts (.fieldLink RX2 11 "TrapMachine$Controls" "values" "[I") (by decide +kernel)) (fun _ h9 => h9) rfl dX2_enter_6 ?_
  refine lv_iconst (v := (0 : Int32)) hx hb dX2_enter_9 (by decide) ?_
  refine q_iald (j := 0) hx hb hK hP 1 0 rfl rfl (vi_k (by decide)) rfl dX2_enter_10 ?_
  refine lv_bipush (v := (7 : Int32)) hx hb dX2_enter_11 (by decide) ?_
  refine lv_iand hx hb dX2_enter_13 ?_
  refine q_iast (j := 1) (ws' := wC k c0 c1 (upd v 1 ((v 0) &&& (7 : Int32)))) hx hb hK hP hD hS 1 0 rfl rfl (vi_k (by decide)) rfl rfl dX2_enter_14 (fun H locs hP hD hS => ?_)
  refine lv_aload_n hx hb dX2_enter_15 rfl (lv_at hl 0 rfl) ?_
  refine va_get (D := D) (ci := 1) (v := .ref c1) (C := RX2) (T := TX2) (N := 1) hx hb hts (by decide +kernel) hown hK hP 0 rfl rfl 0 (by decide) (hts (.fieldLink RX2 11 "TrapMachine$Controls" "values" "[I") (by decide +kernel)) (fun _ h9 => h9) rfl dX2_enter_16 ?_
  refine lv_iconst (v := (0 : Int32)) hx hb dX2_enter_19 (by decide) ?_
  refine lv_dup2_11 hx hb dX2_enter_20 rfl rfl ?_
  refine q_iald (j := 0) hx hb hK hP 1 0 rfl rfl (vi_k (by decide)) rfl dX2_enter_21 ?_
  refine lv_bipush (v := (-8 : Int32)) hx hb dX2_enter_22 (by decide) ?_
  refine lv_iand hx hb dX2_enter_24 ?_
  refine q_iast (j := 0) (ws' := wC k c0 c1 (upd (upd v 1 ((v 0) &&& (7 : Int32))) 0 (((upd v 1 ((v 0) &&& (7 : Int32))) 0) &&& (-8 : Int32)))) hx hb hK hP hD hS 1 0 rfl rfl (vi_k (by decide)) rfl rfl dX2_enter_25 (fun H locs hP hD hS => ?_)
  refine lv_aload_n hx hb dX2_enter_26 rfl (lv_at hl 0 rfl) ?_
  refine va_get (D := D) (ci := 1) (v := .ref c1) (C := RX2) (T := TX2) (N := 1) hx hb hts (by decide +kernel) hown hK hP 0 rfl rfl 0 (by decide) (hts (.fieldLink RX2 11 "TrapMachine$Controls" "values" "[I") (by decide +kernel)) (fun _ h9 => h9) rfl dX2_enter_27 ?_
  refine lv_iconst (v := (4 : Int32)) hx hb dX2_enter_30 (by decide) ?_
  refine lv_iload_n hx hb dX2_enter_31 rfl (lv_at hl 2 rfl) ?_
  refine q_iast (j := 4) (ws' := wC k c0 c1 (upd (upd (upd v 1 ((v 0) &&& (7 : Int32))) 0 (((upd v 1 ((v 0) &&& (7 : Int32))) 0) &&& (-8 : Int32))) 4 a2)) hx hb hK hP hD hS 1 0 rfl rfl (vi_k (by decide)) rfl rfl dX2_enter_32 (fun H locs hP hD hS => ?_)
  refine lv_aload_n hx hb dX2_enter_33 rfl (lv_at hl 0 rfl) ?_
  refine va_get (D := D) (ci := 1) (v := .ref c1) (C := RX2) (T := TX2) (N := 1) hx hb hts (by decide +kernel) hown hK hP 0 rfl rfl 0 (by decide) (hts (.fieldLink RX2 11 "TrapMachine$Controls" "values" "[I") (by decide +kernel)) (fun _ h9 => h9) rfl dX2_enter_34 ?_
  refine lv_iconst (v := (3 : Int32)) hx hb dX2_enter_37 (by decide) ?_
  refine lv_aload_n hx hb dX2_enter_38 rfl (lv_at hl 0 rfl) ?_
  refine va_get (D := D) (ci := 1) (v := .ref c1) (C := RX2) (T := TX2) (N := 1) hx hb hts (by decide +kernel) hown hK hP 0 rfl rfl 0 (by decide) (hts (.fieldLink RX2 11 "TrapMachine$Controls" "values" "[I") (by decide +kernel)) (fun _ h9 => h9) rfl dX2_enter_39 ?_
  refine lv_iconst (v := (3 : Int32)) hx hb dX2_enter_42 (by decide) ?_
  refine q_iald (j := 3) hx hb hK hP 1 0 rfl rfl (vi_k (by decide)) rfl dX2_enter_43 ?_
  refine lv_bipush (v := (31 : Int32)) hx hb dX2_enter_44 (by decide) ?_
  refine lv_iand hx hb dX2_enter_46 ?_
  refine lv_iload_n hx hb dX2_enter_47 rfl (lv_at hl 1 rfl) ?_
  refine lv_bipush (v := (16 : Int32)) hx hb dX2_enter_48 (by decide) ?_
  refine lv_ishl hx hb dX2_enter_50 ?_
  refine lv_ior hx hb dX2_enter_51 ?_
  refine q_iast (j := 3) (ws' := wC k c0 c1 (upd (upd (upd (upd v 1 ((v 0) &&& (7 : Int32))) 0 (((upd v 1 ((v 0) &&& (7 : Int32))) 0) &&& (-8 : Int32))) 4 a2) 3 ((((upd (upd (upd v 1 ((v 0) &&& (7 : Int32))) 0 (((upd v 1 ((v 0) &&& (7 : Int32))) 0) &&& (-8 : Int32))) 4 a2) 3) &&& (31 : Int32)) ||| (a1 <<< ((16 : Int32) &&& 31))))) hx hb hK hP hD hS 1 0 rfl rfl (vi_k (by decide)) rfl rfl dX2_enter_52 (fun H locs hP hD hS => ?_)
  exact W.vret hx hb hr (wr_end rfl (congrArg (wC k c0 c1) (show fX2_enter v a1 a2 = (upd (upd (upd (upd v 1 ((v 0) &&& (7 : Int32))) 0 (((upd v 1 ((v 0) &&& (7 : Int32))) 0) &&& (-8 : Int32))) 4 a2) 3 ((((upd (upd (upd v 1 ((v 0) &&& (7 : Int32))) 0 (((upd v 1 ((v 0) &&& (7 : Int32))) 0) &&& (-8 : Int32))) 4 a2) 3) &&& (31 : Int32)) ||| (a1 <<< ((16 : Int32) &&& 31)))) from rfl).symm) hP hS) hS.2.2 dX2_enter_53
def fX2_leave (v : Nat → Int32)  : Nat → Int32 :=
  if (fX2_code (upd v 0 (((v 0) &&& (8 : Int32)) ||| (v 1)))) = (63 : Int32) then
    (upd (upd v 0 (((v 0) &&& (8 : Int32)) ||| (v 1))) 0 (((upd v 0 (((v 0) &&& (8 : Int32)) ||| (v 1))) 0) &&& (-9 : Int32)))
  else
    (upd v 0 (((v 0) &&& (8 : Int32)) ||| (v 1)))
set_option maxHeartbeats 4000000 in
set_option maxRecDepth 100000 in
theorem kX2_leave (l : Launch) (D : va_G) (k : Nat → ClassId) (c0 c1 : Nat) (v : Nat → Int32)   : Met l yX2_leave wsX2_leave { frames := 1, cells := 0, slots := 0, locals := 20 } (wr_P D vwCl (tyL k) (wC k c0 c1 v) (fun _ => True) [.ref c0]) (wr_Q D vwCl none (wC k c0 c1 v) (wC k c0 c1 (fX2_leave v))) 0 0 (in_W (wC k c0 c1 v)) := by
  refine Met.ofW (cc := cX2_leave) (maxL := 1) (ret := none) (by decide) rfl ?_
  intro p e s m args below meth c s₁ B hml hv0
  obtain ⟨rfl, hP, hK, hX, hD0⟩ := hv0
  have hx := B.exec
  have hb := B.bytes
  have hr := B.returns
  have hts := atoms_spec (ws := wsX2_leave) B.pre
  have hown : s.vm.findClass RX2 = some m.cls := findClass_of_methodNamed B.named
  have hlocks := B.notSynchronized
  have hD : va_D (in_W (wC k c0 c1 v)) (wC k c0 c1 v) := wD_self hD0
  have hS : va_S (in_W (wC k c0 c1 v)) s.heap s.heap [] := va_S.rf
  have hl := lv_entry ([.ref c0]) (n := 1) (Nat.le_of_ble_eq_true rfl)
  rw [lg_entry_eq]
  generalize (lg_sl ([.ref c0]) ++ List.replicate (1 - (lg_sl ([.ref c0])).length) Slot.unset).toArray = ls at hl ⊢
  have hl : lv_has ls 1 [(0, .ref c0)] := hl
  refine lv_aload_n hx hb dX2_leave_0 rfl (lv_at hl 0 rfl) ?_
  refine va_get (D := D) (ci := 1) (v := .ref c1) (C := RX2) (T := TX2) (N := 1) hx hb hts (by decide +kernel) hown hK hP 0 rfl rfl 0 (by decide) (hts (.fieldLink RX2 11 "TrapMachine$Controls" "values" "[I") (by decide +kernel)) (fun _ h9 => h9) rfl dX2_leave_1 ?_
  refine lv_iconst (v := (0 : Int32)) hx hb dX2_leave_4 (by decide) ?_
  refine lv_aload_n hx hb dX2_leave_5 rfl (lv_at hl 0 rfl) ?_
  refine va_get (D := D) (ci := 1) (v := .ref c1) (C := RX2) (T := TX2) (N := 1) hx hb hts (by decide +kernel) hown hK hP 0 rfl rfl 0 (by decide) (hts (.fieldLink RX2 11 "TrapMachine$Controls" "values" "[I") (by decide +kernel)) (fun _ h9 => h9) rfl dX2_leave_6 ?_
  refine lv_iconst (v := (0 : Int32)) hx hb dX2_leave_9 (by decide) ?_
  refine q_iald (j := 0) hx hb hK hP 1 0 rfl rfl (vi_k (by decide)) rfl dX2_leave_10 ?_
  refine lv_bipush (v := (8 : Int32)) hx hb dX2_leave_11 (by decide) ?_
  refine lv_iand hx hb dX2_leave_13 ?_
  refine lv_aload_n hx hb dX2_leave_14 rfl (lv_at hl 0 rfl) ?_
  refine va_get (D := D) (ci := 1) (v := .ref c1) (C := RX2) (T := TX2) (N := 1) hx hb hts (by decide +kernel) hown hK hP 0 rfl rfl 0 (by decide) (hts (.fieldLink RX2 11 "TrapMachine$Controls" "values" "[I") (by decide +kernel)) (fun _ h9 => h9) rfl dX2_leave_15 ?_
  refine lv_iconst (v := (1 : Int32)) hx hb dX2_leave_18 (by decide) ?_
  refine q_iald (j := 1) hx hb hK hP 1 0 rfl rfl (vi_k (by decide)) rfl dX2_leave_19 ?_
  refine lv_ior hx hb dX2_leave_20 ?_
  refine q_iast (j := 0) (ws' := wC k c0 c1 (upd v 0 (((v 0) &&& (8 : Int32)) ||| (v 1)))) hx hb hK hP hD hS 1 0 rfl rfl (vi_k (by decide)) rfl rfl dX2_leave_21 (fun H locs hP hD hS => ?_)
  refine lv_aload_n hx hb dX2_leave_22 rfl (lv_at hl 0 rfl) ?_
  refine rd_call (r := (fX2_code (upd v 0 (((v 0) &&& (8 : Int32)) ||| (v 1))))) (W.runV (C := RX2) (b := c0) (As := []) (rest := []) ⟨hx, hb, hml, hown, hts⟩ (kX2_code l D k c0 c1 (upd v 0 (((v 0) &&& (8 : Int32)) ||| (v 1)))) (cwV 0 hts gX2_leave_X2_code rfl rfl rfl (by decide +kernel) ⟨Nat.le_of_ble_eq_true rfl, Nat.le_of_ble_eq_true rfl⟩) (rd_preV bl_T pr_T hK hP (va_recv hK hP (ci := 1) (q0 := 0) rfl rfl)) rfl rfl hl.1 rfl (lv_room (Nat.le_of_ble_eq_true rfl)) dX2_leave_23 ⟨Nat.zero_le _, Nat.zero_le _⟩) ?_
  refine lv_bipush (v := (63 : Int32)) hx hb dX2_leave_26 (by decide) ?_
  refine lv_icmp_ne (tgt := 42) hx hb dX2_leave_28 (by decide) (fun c_28 => ?_) (fun c_28 => ?_)
  · exact W.vret hx hb hr (wr_end rfl (congrArg (wC k c0 c1) (show fX2_leave v = (upd v 0 (((v 0) &&& (8 : Int32)) ||| (v 1))) from (if_neg c_28).trans rfl).symm) hP hS) hS.2.2 dX2_leave_42
  · refine lv_aload_n hx hb dX2_leave_31 rfl (lv_at hl 0 rfl) ?_
    refine va_get (D := D) (ci := 1) (v := .ref c1) (C := RX2) (T := TX2) (N := 1) hx hb hts (by decide +kernel) hown hK hP 0 rfl rfl 0 (by decide) (hts (.fieldLink RX2 11 "TrapMachine$Controls" "values" "[I") (by decide +kernel)) (fun _ h9 => h9) rfl dX2_leave_32 ?_
    refine lv_iconst (v := (0 : Int32)) hx hb dX2_leave_35 (by decide) ?_
    refine lv_dup2_11 hx hb dX2_leave_36 rfl rfl ?_
    refine q_iald (j := 0) hx hb hK hP 1 0 rfl rfl (vi_k (by decide)) rfl dX2_leave_37 ?_
    refine lv_bipush (v := (-9 : Int32)) hx hb dX2_leave_38 (by decide) ?_
    refine lv_iand hx hb dX2_leave_40 ?_
    refine q_iast (j := 0) (ws' := wC k c0 c1 (upd (upd v 0 (((v 0) &&& (8 : Int32)) ||| (v 1))) 0 (((upd v 0 (((v 0) &&& (8 : Int32)) ||| (v 1))) 0) &&& (-9 : Int32)))) hx hb hK hP hD hS 1 0 rfl rfl (vi_k (by decide)) rfl rfl dX2_leave_41 (fun H locs hP hD hS => ?_)
    exact W.vret hx hb hr (wr_end rfl (congrArg (wC k c0 c1) (show fX2_leave v = (upd (upd v 0 (((v 0) &&& (8 : Int32)) ||| (v 1))) 0 (((upd v 0 (((v 0) &&& (8 : Int32)) ||| (v 1))) 0) &&& (-9 : Int32))) from (if_pos c_28).trans rfl).symm) hP hS) hS.2.2 dX2_leave_42
def fX2_tick (v : Nat → Int32)  : Nat → Int32 :=
  if ((v 14) &&& (1 : Int32)) = (0 : Int32) then
    v
  else
    if (v 15) = (0 : Int32) then
      v
    else
      if ((upd v 15 ((v 15) - (1 : Int32))) 15) = (0 : Int32) then
        if ((v 14) &&& (2 : Int32)) = (0 : Int32) then
          (upd (upd v 15 ((v 15) - (1 : Int32))) 3 (((upd v 15 ((v 15) - (1 : Int32))) 3) ||| (16 : Int32)))
        else
          (upd (upd (upd v 15 ((v 15) - (1 : Int32))) 3 (((upd v 15 ((v 15) - (1 : Int32))) 3) ||| (16 : Int32))) 15 ((v 14) &&& (65532 : Int32)))
      else
        (upd v 15 ((v 15) - (1 : Int32)))
set_option maxHeartbeats 4000000 in
set_option maxRecDepth 100000 in
theorem kX2_tick (l : Launch) (D : va_G) (k : Nat → ClassId) (c0 c1 : Nat) (v : Nat → Int32)   : Met l yX2_tick wsX2_tick { frames := 0, cells := 0, slots := 0, locals := 0 } (wr_P D vwCl (tyL k) (wC k c0 c1 v) (fun _ => True) [.ref c0]) (wr_Q D vwCl none (wC k c0 c1 v) (wC k c0 c1 (fX2_tick v))) 0 0 (in_W (wC k c0 c1 v)) := by
  refine Met.ofW (cc := cX2_tick) (maxL := 2) (ret := none) (by decide) rfl ?_
  intro p e s m args below meth c s₁ B hml hv0
  obtain ⟨rfl, hP, hK, hX, hD0⟩ := hv0
  have hx := B.exec
  have hb := B.bytes
  have hr := B.returns
  have hts := atoms_spec (ws := wsX2_tick) B.pre
  have hown : s.vm.findClass RX2 = some m.cls := findClass_of_methodNamed B.named
  have hlocks := B.notSynchronized
  have hD : va_D (in_W (wC k c0 c1 v)) (wC k c0 c1 v) := wD_self hD0
  have hS : va_S (in_W (wC k c0 c1 v)) s.heap s.heap [] := va_S.rf
  have hl := lv_entry ([.ref c0]) (n := 2) (Nat.le_of_ble_eq_true rfl)
  rw [lg_entry_eq]
  generalize (lg_sl ([.ref c0]) ++ List.replicate (2 - (lg_sl ([.ref c0])).length) Slot.unset).toArray = ls at hl ⊢
  have hl : lv_has ls 2 [(0, .ref c0)] := hl
  refine lv_aload_n hx hb dX2_tick_0 rfl (lv_at hl 0 rfl) ?_
  refine va_get (D := D) (ci := 1) (v := .ref c1) (C := RX2) (T := TX2) (N := 1) hx hb hts (by decide +kernel) hown hK hP 0 rfl rfl 0 (by decide) (hts (.fieldLink RX2 11 "TrapMachine$Controls" "values" "[I") (by decide +kernel)) (fun _ h9 => h9) rfl dX2_tick_1 ?_
  refine lv_bipush (v := (14 : Int32)) hx hb dX2_tick_4 (by decide) ?_
  refine q_iald (j := 14) hx hb hK hP 1 0 rfl rfl (vi_k (by decide)) rfl dX2_tick_6 ?_
  refine lv_istore_n (lv' := [(1, .int (v 14)), (0, .ref c0)]) hx hb dX2_tick_7 rfl hl (by decide) rfl (fun ls hl => ?_)
  refine lv_iload_n hx hb dX2_tick_8 rfl (lv_at hl 0 rfl) ?_
  refine lv_iconst (v := (1 : Int32)) hx hb dX2_tick_9 (by decide) ?_
  refine lv_iand hx hb dX2_tick_10 ?_
  refine lv_if_eq (tgt := 24) hx hb dX2_tick_11 (by decide) (fun c_11 => ?_) (fun c_11 => ?_)
  · exact W.vret hx hb hr (wr_end rfl (congrArg (wC k c0 c1) (show fX2_tick v = v from (if_pos c_11).trans rfl).symm) hP hS) hS.2.2 dX2_tick_24
  · refine lv_aload_n hx hb dX2_tick_14 rfl (lv_at hl 1 rfl) ?_
    refine va_get (D := D) (ci := 1) (v := .ref c1) (C := RX2) (T := TX2) (N := 1) hx hb hts (by decide +kernel) hown hK hP 0 rfl rfl 0 (by decide) (hts (.fieldLink RX2 11 "TrapMachine$Controls" "values" "[I") (by decide +kernel)) (fun _ h9 => h9) rfl dX2_tick_15 ?_
    refine lv_bipush (v := (15 : Int32)) hx hb dX2_tick_18 (by decide) ?_
    refine q_iald (j := 15) hx hb hK hP 1 0 rfl rfl (vi_k (by decide)) rfl dX2_tick_20 ?_
    refine lv_if_ne (tgt := 25) hx hb dX2_tick_21 (by decide) (fun c_21 => ?_) (fun c_21 => ?_)
    · refine lv_aload_n hx hb dX2_tick_25 rfl (lv_at hl 1 rfl) ?_
      refine va_get (D := D) (ci := 1) (v := .ref c1) (C := RX2) (T := TX2) (N := 1) hx hb hts (by decide +kernel) hown hK hP 0 rfl rfl 0 (by decide) (hts (.fieldLink RX2 11 "TrapMachine$Controls" "values" "[I") (by decide +kernel)) (fun _ h9 => h9) rfl dX2_tick_26 ?_
      refine lv_bipush (v := (15 : Int32)) hx hb dX2_tick_29 (by decide) ?_
      refine lv_dup2_11 hx hb dX2_tick_31 rfl rfl ?_
      refine q_iald (j := 15) hx hb hK hP 1 0 rfl rfl (vi_k (by decide)) rfl dX2_tick_32 ?_
      refine lv_iconst (v := (1 : Int32)) hx hb dX2_tick_33 (by decide) ?_
      refine lv_isub hx hb dX2_tick_34 ?_
      refine q_iast (j := 15) (ws' := wC k c0 c1 (upd v 15 ((v 15) - (1 : Int32)))) hx hb hK hP hD hS 1 0 rfl rfl (vi_k (by decide)) rfl rfl dX2_tick_35 (fun H locs hP hD hS => ?_)
      refine lv_aload_n hx hb dX2_tick_36 rfl (lv_at hl 1 rfl) ?_
      refine va_get (D := D) (ci := 1) (v := .ref c1) (C := RX2) (T := TX2) (N := 1) hx hb hts (by decide +kernel) hown hK hP 0 rfl rfl 0 (by decide) (hts (.fieldLink RX2 11 "TrapMachine$Controls" "values" "[I") (by decide +kernel)) (fun _ h9 => h9) rfl dX2_tick_37 ?_
      refine lv_bipush (v := (15 : Int32)) hx hb dX2_tick_40 (by decide) ?_
      refine q_iald (j := 15) hx hb hK hP 1 0 rfl rfl (vi_k (by decide)) rfl dX2_tick_42 ?_
      refine lv_if_ne (tgt := 74) hx hb dX2_tick_43 (by decide) (fun c_43 => ?_) (fun c_43 => ?_)
      · exact W.vret hx hb hr (wr_end rfl (congrArg (wC k c0 c1) (show fX2_tick v = (upd v 15 ((v 15) - (1 : Int32))) from (if_neg c_11).trans ((if_neg c_21).trans ((if_neg c_43).trans rfl))).symm) hP hS) hS.2.2 dX2_tick_74
      · refine lv_aload_n hx hb dX2_tick_46 rfl (lv_at hl 1 rfl) ?_
        refine va_get (D := D) (ci := 1) (v := .ref c1) (C := RX2) (T := TX2) (N := 1) hx hb hts (by decide +kernel) hown hK hP 0 rfl rfl 0 (by decide) (hts (.fieldLink RX2 11 "TrapMachine$Controls" "values" "[I") (by decide +kernel)) (fun _ h9 => h9) rfl dX2_tick_47 ?_
        refine lv_iconst (v := (3 : Int32)) hx hb dX2_tick_50 (by decide) ?_
        refine lv_dup2_11 hx hb dX2_tick_51 rfl rfl ?_
        refine q_iald (j := 3) hx hb hK hP 1 0 rfl rfl (vi_k (by decide)) rfl dX2_tick_52 ?_
        refine lv_bipush (v := (16 : Int32)) hx hb dX2_tick_53 (by decide) ?_
        refine lv_ior hx hb dX2_tick_55 ?_
        refine q_iast (j := 3) (ws' := wC k c0 c1 (upd (upd v 15 ((v 15) - (1 : Int32))) 3 (((upd v 15 ((v 15) - (1 : Int32))) 3) ||| (16 : Int32)))) hx hb hK hP hD hS 1 0 rfl rfl (vi_k (by decide)) rfl rfl dX2_tick_56 (fun H locs hP hD hS => ?_)
        refine lv_iload_n hx hb dX2_tick_57 rfl (lv_at hl 0 rfl) ?_
        refine lv_iconst (v := (2 : Int32)) hx hb dX2_tick_58 (by decide) ?_
        refine lv_iand hx hb dX2_tick_59 ?_
        refine lv_if_eq (tgt := 74) hx hb dX2_tick_60 (by decide) (fun c_60 => ?_) (fun c_60 => ?_)
        · exact W.vret hx hb hr (wr_end rfl (congrArg (wC k c0 c1) (show fX2_tick v = (upd (upd v 15 ((v 15) - (1 : Int32))) 3 (((upd v 15 ((v 15) - (1 : Int32))) 3) ||| (16 : Int32))) from (if_neg c_11).trans ((if_neg c_21).trans ((if_pos c_43).trans ((if_pos c_60).trans rfl)))).symm) hP hS) hS.2.2 dX2_tick_74
        · refine lv_aload_n hx hb dX2_tick_63 rfl (lv_at hl 1 rfl) ?_
          refine va_get (D := D) (ci := 1) (v := .ref c1) (C := RX2) (T := TX2) (N := 1) hx hb hts (by decide +kernel) hown hK hP 0 rfl rfl 0 (by decide) (hts (.fieldLink RX2 11 "TrapMachine$Controls" "values" "[I") (by decide +kernel)) (fun _ h9 => h9) rfl dX2_tick_64 ?_
          refine lv_bipush (v := (15 : Int32)) hx hb dX2_tick_67 (by decide) ?_
          refine lv_iload_n hx hb dX2_tick_69 rfl (lv_at hl 0 rfl) ?_
          refine lv_ldc (v := (65532 : Int32)) hx hb hown (hts (.constant RX2 21 (65532)) (by decide +kernel)) dX2_tick_70 ?_
          refine lv_iand hx hb dX2_tick_72 ?_
          refine q_iast (j := 15) (ws' := wC k c0 c1 (upd (upd (upd v 15 ((v 15) - (1 : Int32))) 3 (((upd v 15 ((v 15) - (1 : Int32))) 3) ||| (16 : Int32))) 15 ((v 14) &&& (65532 : Int32)))) hx hb hK hP hD hS 1 0 rfl rfl (vi_k (by decide)) rfl rfl dX2_tick_73 (fun H locs hP hD hS => ?_)
          exact W.vret hx hb hr (wr_end rfl (congrArg (wC k c0 c1) (show fX2_tick v = (upd (upd (upd v 15 ((v 15) - (1 : Int32))) 3 (((upd v 15 ((v 15) - (1 : Int32))) 3) ||| (16 : Int32))) 15 ((v 14) &&& (65532 : Int32))) from (if_neg c_11).trans ((if_neg c_21).trans ((if_pos c_43).trans ((if_neg c_60).trans rfl)))).symm) hP hS) hS.2.2 dX2_tick_74
    · exact W.vret hx hb hr (wr_end rfl (congrArg (wC k c0 c1) (show fX2_tick v = v from (if_neg c_11).trans ((if_pos c_21).trans rfl)).symm) hP hS) hS.2.2 dX2_tick_24
end
section
def fX0_get (M : Nat → Nat → Int32) (a1 : Int32) (a2 : Int32) : Int32 :=
  (M (ix a1) (ix a2))
set_option maxHeartbeats 4000000 in
set_option maxRecDepth 100000 in
theorem kX0_get (l : Launch) (D : va_G) (k : Nat → ClassId) (b0 b1 : Nat) (r : Nat → Nat) (M : Nat → Nat → Int32) (a1 : Int32) (a2 : Int32) (h1 : vp_in a1 4) (h2 : vp_in a2 6) : Met l yX0_get wsX0_get { frames := 0, cells := 0, slots := 0, locals := 0 } (rd_P D vwCl (tyL k) (wB k b0 b1 r M) (fun _ => True) [.ref b0, .int a1, .int a2]) (QcRead (fX0_get M a1 a2)) 0 0 (fun _ => False) := by
  refine Met.ofW (cc := cX0_get) (maxL := 3) (ret := (some .int)) (by decide) rfl ?_
  intro p e s m args below meth c s₁ B hml hv0
  obtain ⟨rfl, hP, hK, hX⟩ := hv0
  have hx := B.exec
  have hb := B.bytes
  have hr := B.returns
  have hts := atoms_spec (ws := wsX0_get) B.pre
  have hown : s.vm.findClass RX0 = some m.cls := findClass_of_methodNamed B.named
  have hlocks := B.notSynchronized
  have hl := lv_entry ([.ref b0, .int a1, .int a2]) (n := 3) (Nat.le_of_ble_eq_true rfl)
  rw [lg_entry_eq]
  generalize (lg_sl ([.ref b0, .int a1, .int a2]) ++ List.replicate (3 - (lg_sl ([.ref b0, .int a1, .int a2])).length) Slot.unset).toArray = ls at hl ⊢
  have hl : lv_has ls 3 [(0, .ref b0), (1, .int a1), (2, .int a2)] := hl
  refine lv_aload_n hx hb dX0_get_0 rfl (lv_at hl 0 rfl) ?_
  refine va_get (D := D) (ci := 0) (v := .ref b1) (C := RX0) (T := TX0) (N := 1) hx hb hts (by decide +kernel) hown hK hP 0 rfl rfl 0 (by decide) (hts (.fieldLink RX0 11 "TrapMachine$Buffer" "parts" "[[I") (by decide +kernel)) (fun _ h9 => h9) rfl dX0_get_1 ?_
  refine lv_iload_n hx hb dX0_get_4 rfl (lv_at hl 1 rfl) ?_
  refine gd_aald (j := (ix a1)) (y := r (ix a1)) hx hb hK hP 1 1 rfl rfl h1 rfl rfl dX0_get_5 ?_
  refine lv_iload_n hx hb dX0_get_6 rfl (lv_at hl 2 rfl) ?_
  refine q_iald (j := (ix a2)) hx hb hK hP (2 + (ix a1)) 0 (gd_at (ix_ltj h1 rfl)) rfl h2 rfl dX0_get_7 ?_
  exact W.iret (v := (M (ix a1) (ix a2))) hx hb hr (rd_end (show fX0_get M a1 a2 = (M (ix a1) (ix a2)) from rfl)) (fun q h => by cases h) dX0_get_8
def fX0_set (M : Nat → Nat → Int32) (a1 : Int32) (a2 : Int32) (a3 : Int32) (a4 : Int32) : Nat → Nat → Int32 :=
  if a2 = (0 : Int32) then
    (gu (gu (gu M (ix a1) 0 (0 : Int32)) (ix a1) 1 a3) (ix a1) 2 a4)
  else
    (gu (gu (gu M (ix a1) 0 (1 : Int32)) (ix a1) 1 a3) (ix a1) 2 a4)
set_option maxHeartbeats 4000000 in
set_option maxRecDepth 100000 in
theorem kX0_set (l : Launch) (D : va_G) (k : Nat → ClassId) (b0 b1 : Nat) (r : Nat → Nat) (M : Nat → Nat → Int32) (a1 : Int32) (a2 : Int32) (a3 : Int32) (a4 : Int32) (h1 : vp_in a1 4) : Met l yX0_set wsX0_set { frames := 0, cells := 0, slots := 0, locals := 0 } (wr_P D vwCl (tyL k) (wB k b0 b1 r M) (fun _ => True) [.ref b0, .int a1, .int a2, .int a3, .int a4]) (wr_Q D vwCl none (wB k b0 b1 r M) (wB k b0 b1 r (fX0_set M a1 a2 a3 a4))) 0 0 (in_W (wB k b0 b1 r M)) := by
  refine Met.ofW (cc := cX0_set) (maxL := 5) (ret := none) (by decide) rfl ?_
  intro p e s m args below meth c s₁ B hml hv0
  obtain ⟨rfl, hP, hK, hX, hD0⟩ := hv0
  have hx := B.exec
  have hb := B.bytes
  have hr := B.returns
  have hts := atoms_spec (ws := wsX0_set) B.pre
  have hown : s.vm.findClass RX0 = some m.cls := findClass_of_methodNamed B.named
  have hlocks := B.notSynchronized
  have hD : va_D (in_W (wB k b0 b1 r M)) (wB k b0 b1 r M) := wD_self hD0
  have hS : va_S (in_W (wB k b0 b1 r M)) s.heap s.heap [] := va_S.rf
  have hl := lv_entry ([.ref b0, .int a1, .int a2, .int a3, .int a4]) (n := 5) (Nat.le_of_ble_eq_true rfl)
  rw [lg_entry_eq]
  generalize (lg_sl ([.ref b0, .int a1, .int a2, .int a3, .int a4]) ++ List.replicate (5 - (lg_sl ([.ref b0, .int a1, .int a2, .int a3, .int a4])).length) Slot.unset).toArray = ls at hl ⊢
  have hl : lv_has ls 5 [(0, .ref b0), (1, .int a1), (2, .int a2), (3, .int a3), (4, .int a4)] := hl
  refine lv_aload_n hx hb dX0_set_0 rfl (lv_at hl 0 rfl) ?_
  refine va_get (D := D) (ci := 0) (v := .ref b1) (C := RX0) (T := TX0) (N := 1) hx hb hts (by decide +kernel) hown hK hP 0 rfl rfl 0 (by decide) (hts (.fieldLink RX0 11 "TrapMachine$Buffer" "parts" "[[I") (by decide +kernel)) (fun _ h9 => h9) rfl dX0_set_1 ?_
  refine lv_iload_n hx hb dX0_set_4 rfl (lv_at hl 1 rfl) ?_
  refine gd_aald (j := (ix a1)) (y := r (ix a1)) hx hb hK hP 1 1 rfl rfl h1 rfl rfl dX0_set_5 ?_
  refine lv_iconst (v := (0 : Int32)) hx hb dX0_set_6 (by decide) ?_
  refine lv_iload_n hx hb dX0_set_7 rfl (lv_at hl 2 rfl) ?_
  refine lv_if_eq (tgt := 15) hx hb dX0_set_8 (by decide) (fun c_8 => ?_) (fun c_8 => ?_)
  · refine lv_iconst (v := (0 : Int32)) hx hb dX0_set_15 (by decide) ?_
    refine q_iast (j := 0) (ws' := wB k b0 b1 r (gu M (ix a1) 0 (0 : Int32))) hx hb hK hP hD hS (2 + (ix a1)) 0 (gd_at (ix_ltj h1 rfl)) rfl (vi_k (by decide)) rfl (gd_set (ix_ltj h1 rfl)) dX0_set_16 (fun H locs hP hD hS => ?_)
    refine lv_aload_n hx hb dX0_set_17 rfl (lv_at hl 0 rfl) ?_
    refine va_get (D := D) (ci := 0) (v := .ref b1) (C := RX0) (T := TX0) (N := 1) hx hb hts (by decide +kernel) hown hK hP 0 rfl rfl 0 (by decide) (hts (.fieldLink RX0 11 "TrapMachine$Buffer" "parts" "[[I") (by decide +kernel)) (fun _ h9 => h9) rfl dX0_set_18 ?_
    refine lv_iload_n hx hb dX0_set_21 rfl (lv_at hl 1 rfl) ?_
    refine gd_aald (j := (ix a1)) (y := r (ix a1)) hx hb hK hP 1 1 rfl rfl h1 rfl rfl dX0_set_22 ?_
    refine lv_iconst (v := (1 : Int32)) hx hb dX0_set_23 (by decide) ?_
    refine lv_iload_n hx hb dX0_set_24 rfl (lv_at hl 3 rfl) ?_
    refine q_iast (j := 1) (ws' := wB k b0 b1 r (gu (gu M (ix a1) 0 (0 : Int32)) (ix a1) 1 a3)) hx hb hK hP hD hS (2 + (ix a1)) 0 (gd_at (ix_ltj h1 rfl)) rfl (vi_k (by decide)) rfl (gd_set (ix_ltj h1 rfl)) dX0_set_25 (fun H locs hP hD hS => ?_)
    refine lv_aload_n hx hb dX0_set_26 rfl (lv_at hl 0 rfl) ?_
    refine va_get (D := D) (ci := 0) (v := .ref b1) (C := RX0) (T := TX0) (N := 1) hx hb hts (by decide +kernel) hown hK hP 0 rfl rfl 0 (by decide) (hts (.fieldLink RX0 11 "TrapMachine$Buffer" "parts" "[[I") (by decide +kernel)) (fun _ h9 => h9) rfl dX0_set_27 ?_
    refine lv_iload_n hx hb dX0_set_30 rfl (lv_at hl 1 rfl) ?_
    refine gd_aald (j := (ix a1)) (y := r (ix a1)) hx hb hK hP 1 1 rfl rfl h1 rfl rfl dX0_set_31 ?_
    refine lv_iconst (v := (2 : Int32)) hx hb dX0_set_32 (by decide) ?_
    refine lv_iload hx hb dX0_set_33 (lv_at hl 4 rfl) ?_
    refine q_iast (j := 2) (ws' := wB k b0 b1 r (gu (gu (gu M (ix a1) 0 (0 : Int32)) (ix a1) 1 a3) (ix a1) 2 a4)) hx hb hK hP hD hS (2 + (ix a1)) 0 (gd_at (ix_ltj h1 rfl)) rfl (vi_k (by decide)) rfl (gd_set (ix_ltj h1 rfl)) dX0_set_35 (fun H locs hP hD hS => ?_)
    exact W.vret hx hb hr (wr_end rfl (congrArg (wB k b0 b1 r) (show fX0_set M a1 a2 a3 a4 = (gu (gu (gu M (ix a1) 0 (0 : Int32)) (ix a1) 1 a3) (ix a1) 2 a4) from (if_pos c_8).trans rfl).symm) hP hS) hS.2.2 dX0_set_36
  · refine lv_iconst (v := (1 : Int32)) hx hb dX0_set_11 (by decide) ?_
    refine lv_goto (tgt := 16) hx hb dX0_set_12 (by decide) ?_
    refine q_iast (j := 0) (ws' := wB k b0 b1 r (gu M (ix a1) 0 (1 : Int32))) hx hb hK hP hD hS (2 + (ix a1)) 0 (gd_at (ix_ltj h1 rfl)) rfl (vi_k (by decide)) rfl (gd_set (ix_ltj h1 rfl)) dX0_set_16 (fun H locs hP hD hS => ?_)
    refine lv_aload_n hx hb dX0_set_17 rfl (lv_at hl 0 rfl) ?_
    refine va_get (D := D) (ci := 0) (v := .ref b1) (C := RX0) (T := TX0) (N := 1) hx hb hts (by decide +kernel) hown hK hP 0 rfl rfl 0 (by decide) (hts (.fieldLink RX0 11 "TrapMachine$Buffer" "parts" "[[I") (by decide +kernel)) (fun _ h9 => h9) rfl dX0_set_18 ?_
    refine lv_iload_n hx hb dX0_set_21 rfl (lv_at hl 1 rfl) ?_
    refine gd_aald (j := (ix a1)) (y := r (ix a1)) hx hb hK hP 1 1 rfl rfl h1 rfl rfl dX0_set_22 ?_
    refine lv_iconst (v := (1 : Int32)) hx hb dX0_set_23 (by decide) ?_
    refine lv_iload_n hx hb dX0_set_24 rfl (lv_at hl 3 rfl) ?_
    refine q_iast (j := 1) (ws' := wB k b0 b1 r (gu (gu M (ix a1) 0 (1 : Int32)) (ix a1) 1 a3)) hx hb hK hP hD hS (2 + (ix a1)) 0 (gd_at (ix_ltj h1 rfl)) rfl (vi_k (by decide)) rfl (gd_set (ix_ltj h1 rfl)) dX0_set_25 (fun H locs hP hD hS => ?_)
    refine lv_aload_n hx hb dX0_set_26 rfl (lv_at hl 0 rfl) ?_
    refine va_get (D := D) (ci := 0) (v := .ref b1) (C := RX0) (T := TX0) (N := 1) hx hb hts (by decide +kernel) hown hK hP 0 rfl rfl 0 (by decide) (hts (.fieldLink RX0 11 "TrapMachine$Buffer" "parts" "[[I") (by decide +kernel)) (fun _ h9 => h9) rfl dX0_set_27 ?_
    refine lv_iload_n hx hb dX0_set_30 rfl (lv_at hl 1 rfl) ?_
    refine gd_aald (j := (ix a1)) (y := r (ix a1)) hx hb hK hP 1 1 rfl rfl h1 rfl rfl dX0_set_31 ?_
    refine lv_iconst (v := (2 : Int32)) hx hb dX0_set_32 (by decide) ?_
    refine lv_iload hx hb dX0_set_33 (lv_at hl 4 rfl) ?_
    refine q_iast (j := 2) (ws' := wB k b0 b1 r (gu (gu (gu M (ix a1) 0 (1 : Int32)) (ix a1) 1 a3) (ix a1) 2 a4)) hx hb hK hP hD hS (2 + (ix a1)) 0 (gd_at (ix_ltj h1 rfl)) rfl (vi_k (by decide)) rfl (gd_set (ix_ltj h1 rfl)) dX0_set_35 (fun H locs hP hD hS => ?_)
    exact W.vret hx hb hr (wr_end rfl (congrArg (wB k b0 b1 r) (show fX0_set M a1 a2 a3 a4 = (gu (gu (gu M (ix a1) 0 (1 : Int32)) (ix a1) 1 a3) (ix a1) 2 a4) from (if_neg c_8).trans rfl).symm) hP hS) hS.2.2 dX0_set_36
def fX0_setHalves (M : Nat → Nat → Int32) (a1 : Int32) (a2 : Int32) (a3 : Int32) : Nat → Nat → Int32 :=
  if ((a2 &&& a3) &&& (16 : Int32)) = (0 : Int32) then
    (gu (gu (gu M (ix a1) 3 (0 : Int32)) (ix a1) 4 (a2 &&& (-17 : Int32))) (ix a1) 5 (a3 &&& (-17 : Int32)))
  else
    (gu (gu (gu M (ix a1) 3 (1 : Int32)) (ix a1) 4 (a2 &&& (-17 : Int32))) (ix a1) 5 (a3 &&& (-17 : Int32)))
set_option maxHeartbeats 4000000 in
set_option maxRecDepth 100000 in
theorem kX0_setHalves (l : Launch) (D : va_G) (k : Nat → ClassId) (b0 b1 : Nat) (r : Nat → Nat) (M : Nat → Nat → Int32) (a1 : Int32) (a2 : Int32) (a3 : Int32) (h1 : vp_in a1 4) : Met l yX0_setHalves wsX0_setHalves { frames := 0, cells := 0, slots := 0, locals := 0 } (wr_P D vwCl (tyL k) (wB k b0 b1 r M) (fun _ => True) [.ref b0, .int a1, .int a2, .int a3]) (wr_Q D vwCl none (wB k b0 b1 r M) (wB k b0 b1 r (fX0_setHalves M a1 a2 a3))) 0 0 (in_W (wB k b0 b1 r M)) := by
  refine Met.ofW (cc := cX0_setHalves) (maxL := 4) (ret := none) (by decide) rfl ?_
  intro p e s m args below meth c s₁ B hml hv0
  obtain ⟨rfl, hP, hK, hX, hD0⟩ := hv0
  have hx := B.exec
  have hb := B.bytes
  have hr := B.returns
  have hts := atoms_spec (ws := wsX0_setHalves) B.pre
  have hown : s.vm.findClass RX0 = some m.cls := findClass_of_methodNamed B.named
  have hlocks := B.notSynchronized
  have hD : va_D (in_W (wB k b0 b1 r M)) (wB k b0 b1 r M) := wD_self hD0
  have hS : va_S (in_W (wB k b0 b1 r M)) s.heap s.heap [] := va_S.rf
  have hl := lv_entry ([.ref b0, .int a1, .int a2, .int a3]) (n := 4) (Nat.le_of_ble_eq_true rfl)
  rw [lg_entry_eq]
  generalize (lg_sl ([.ref b0, .int a1, .int a2, .int a3]) ++ List.replicate (4 - (lg_sl ([.ref b0, .int a1, .int a2, .int a3])).length) Slot.unset).toArray = ls at hl ⊢
  have hl : lv_has ls 4 [(0, .ref b0), (1, .int a1), (2, .int a2), (3, .int a3)] := hl
  refine lv_aload_n hx hb dX0_setHalves_0 rfl (lv_at hl 0 rfl) ?_
  refine va_get (D := D) (ci := 0) (v := .ref b1) (C := RX0) (T := TX0) (N := 1) hx hb hts (by decide +kernel) hown hK hP 0 rfl rfl 0 (by decide) (hts (.fieldLink RX0 11 "TrapMachine$Buffer" "parts" "[[I") (by decide +kernel)) (fun _ h9 => h9) rfl dX0_setHalves_1 ?_
  refine lv_iload_n hx hb dX0_setHalves_4 rfl (lv_at hl 1 rfl) ?_
  refine gd_aald (j := (ix a1)) (y := r (ix a1)) hx hb hK hP 1 1 rfl rfl h1 rfl rfl dX0_setHalves_5 ?_
  refine lv_iconst (v := (3 : Int32)) hx hb dX0_setHalves_6 (by decide) ?_
  refine lv_iload_n hx hb dX0_setHalves_7 rfl (lv_at hl 2 rfl) ?_
  refine lv_iload_n hx hb dX0_setHalves_8 rfl (lv_at hl 3 rfl) ?_
  refine lv_iand hx hb dX0_setHalves_9 ?_
  refine lv_bipush (v := (16 : Int32)) hx hb dX0_setHalves_10 (by decide) ?_
  refine lv_iand hx hb dX0_setHalves_12 ?_
  refine lv_if_eq (tgt := 20) hx hb dX0_setHalves_13 (by decide) (fun c_13 => ?_) (fun c_13 => ?_)
  · refine lv_iconst (v := (0 : Int32)) hx hb dX0_setHalves_20 (by decide) ?_
    refine q_iast (j := 3) (ws' := wB k b0 b1 r (gu M (ix a1) 3 (0 : Int32))) hx hb hK hP hD hS (2 + (ix a1)) 0 (gd_at (ix_ltj h1 rfl)) rfl (vi_k (by decide)) rfl (gd_set (ix_ltj h1 rfl)) dX0_setHalves_21 (fun H locs hP hD hS => ?_)
    refine lv_aload_n hx hb dX0_setHalves_22 rfl (lv_at hl 0 rfl) ?_
    refine va_get (D := D) (ci := 0) (v := .ref b1) (C := RX0) (T := TX0) (N := 1) hx hb hts (by decide +kernel) hown hK hP 0 rfl rfl 0 (by decide) (hts (.fieldLink RX0 11 "TrapMachine$Buffer" "parts" "[[I") (by decide +kernel)) (fun _ h9 => h9) rfl dX0_setHalves_23 ?_
    refine lv_iload_n hx hb dX0_setHalves_26 rfl (lv_at hl 1 rfl) ?_
    refine gd_aald (j := (ix a1)) (y := r (ix a1)) hx hb hK hP 1 1 rfl rfl h1 rfl rfl dX0_setHalves_27 ?_
    refine lv_iconst (v := (4 : Int32)) hx hb dX0_setHalves_28 (by decide) ?_
    refine lv_iload_n hx hb dX0_setHalves_29 rfl (lv_at hl 2 rfl) ?_
    refine lv_bipush (v := (-17 : Int32)) hx hb dX0_setHalves_30 (by decide) ?_
    refine lv_iand hx hb dX0_setHalves_32 ?_
    refine q_iast (j := 4) (ws' := wB k b0 b1 r (gu (gu M (ix a1) 3 (0 : Int32)) (ix a1) 4 (a2 &&& (-17 : Int32)))) hx hb hK hP hD hS (2 + (ix a1)) 0 (gd_at (ix_ltj h1 rfl)) rfl (vi_k (by decide)) rfl (gd_set (ix_ltj h1 rfl)) dX0_setHalves_33 (fun H locs hP hD hS => ?_)
    refine lv_aload_n hx hb dX0_setHalves_34 rfl (lv_at hl 0 rfl) ?_
    refine va_get (D := D) (ci := 0) (v := .ref b1) (C := RX0) (T := TX0) (N := 1) hx hb hts (by decide +kernel) hown hK hP 0 rfl rfl 0 (by decide) (hts (.fieldLink RX0 11 "TrapMachine$Buffer" "parts" "[[I") (by decide +kernel)) (fun _ h9 => h9) rfl dX0_setHalves_35 ?_
    refine lv_iload_n hx hb dX0_setHalves_38 rfl (lv_at hl 1 rfl) ?_
    refine gd_aald (j := (ix a1)) (y := r (ix a1)) hx hb hK hP 1 1 rfl rfl h1 rfl rfl dX0_setHalves_39 ?_
    refine lv_iconst (v := (5 : Int32)) hx hb dX0_setHalves_40 (by decide) ?_
    refine lv_iload_n hx hb dX0_setHalves_41 rfl (lv_at hl 3 rfl) ?_
    refine lv_bipush (v := (-17 : Int32)) hx hb dX0_setHalves_42 (by decide) ?_
    refine lv_iand hx hb dX0_setHalves_44 ?_
    refine q_iast (j := 5) (ws' := wB k b0 b1 r (gu (gu (gu M (ix a1) 3 (0 : Int32)) (ix a1) 4 (a2 &&& (-17 : Int32))) (ix a1) 5 (a3 &&& (-17 : Int32)))) hx hb hK hP hD hS (2 + (ix a1)) 0 (gd_at (ix_ltj h1 rfl)) rfl (vi_k (by decide)) rfl (gd_set (ix_ltj h1 rfl)) dX0_setHalves_45 (fun H locs hP hD hS => ?_)
    exact W.vret hx hb hr (wr_end rfl (congrArg (wB k b0 b1 r) (show fX0_setHalves M a1 a2 a3 = (gu (gu (gu M (ix a1) 3 (0 : Int32)) (ix a1) 4 (a2 &&& (-17 : Int32))) (ix a1) 5 (a3 &&& (-17 : Int32))) from (if_pos c_13).trans rfl).symm) hP hS) hS.2.2 dX0_setHalves_46
  · refine lv_iconst (v := (1 : Int32)) hx hb dX0_setHalves_16 (by decide) ?_
    refine lv_goto (tgt := 21) hx hb dX0_setHalves_17 (by decide) ?_
    refine q_iast (j := 3) (ws' := wB k b0 b1 r (gu M (ix a1) 3 (1 : Int32))) hx hb hK hP hD hS (2 + (ix a1)) 0 (gd_at (ix_ltj h1 rfl)) rfl (vi_k (by decide)) rfl (gd_set (ix_ltj h1 rfl)) dX0_setHalves_21 (fun H locs hP hD hS => ?_)
    refine lv_aload_n hx hb dX0_setHalves_22 rfl (lv_at hl 0 rfl) ?_
    refine va_get (D := D) (ci := 0) (v := .ref b1) (C := RX0) (T := TX0) (N := 1) hx hb hts (by decide +kernel) hown hK hP 0 rfl rfl 0 (by decide) (hts (.fieldLink RX0 11 "TrapMachine$Buffer" "parts" "[[I") (by decide +kernel)) (fun _ h9 => h9) rfl dX0_setHalves_23 ?_
    refine lv_iload_n hx hb dX0_setHalves_26 rfl (lv_at hl 1 rfl) ?_
    refine gd_aald (j := (ix a1)) (y := r (ix a1)) hx hb hK hP 1 1 rfl rfl h1 rfl rfl dX0_setHalves_27 ?_
    refine lv_iconst (v := (4 : Int32)) hx hb dX0_setHalves_28 (by decide) ?_
    refine lv_iload_n hx hb dX0_setHalves_29 rfl (lv_at hl 2 rfl) ?_
    refine lv_bipush (v := (-17 : Int32)) hx hb dX0_setHalves_30 (by decide) ?_
    refine lv_iand hx hb dX0_setHalves_32 ?_
    refine q_iast (j := 4) (ws' := wB k b0 b1 r (gu (gu M (ix a1) 3 (1 : Int32)) (ix a1) 4 (a2 &&& (-17 : Int32)))) hx hb hK hP hD hS (2 + (ix a1)) 0 (gd_at (ix_ltj h1 rfl)) rfl (vi_k (by decide)) rfl (gd_set (ix_ltj h1 rfl)) dX0_setHalves_33 (fun H locs hP hD hS => ?_)
    refine lv_aload_n hx hb dX0_setHalves_34 rfl (lv_at hl 0 rfl) ?_
    refine va_get (D := D) (ci := 0) (v := .ref b1) (C := RX0) (T := TX0) (N := 1) hx hb hts (by decide +kernel) hown hK hP 0 rfl rfl 0 (by decide) (hts (.fieldLink RX0 11 "TrapMachine$Buffer" "parts" "[[I") (by decide +kernel)) (fun _ h9 => h9) rfl dX0_setHalves_35 ?_
    refine lv_iload_n hx hb dX0_setHalves_38 rfl (lv_at hl 1 rfl) ?_
    refine gd_aald (j := (ix a1)) (y := r (ix a1)) hx hb hK hP 1 1 rfl rfl h1 rfl rfl dX0_setHalves_39 ?_
    refine lv_iconst (v := (5 : Int32)) hx hb dX0_setHalves_40 (by decide) ?_
    refine lv_iload_n hx hb dX0_setHalves_41 rfl (lv_at hl 3 rfl) ?_
    refine lv_bipush (v := (-17 : Int32)) hx hb dX0_setHalves_42 (by decide) ?_
    refine lv_iand hx hb dX0_setHalves_44 ?_
    refine q_iast (j := 5) (ws' := wB k b0 b1 r (gu (gu (gu M (ix a1) 3 (1 : Int32)) (ix a1) 4 (a2 &&& (-17 : Int32))) (ix a1) 5 (a3 &&& (-17 : Int32)))) hx hb hK hP hD hS (2 + (ix a1)) 0 (gd_at (ix_ltj h1 rfl)) rfl (vi_k (by decide)) rfl (gd_set (ix_ltj h1 rfl)) dX0_setHalves_45 (fun H locs hP hD hS => ?_)
    exact W.vret hx hb hr (wr_end rfl (congrArg (wB k b0 b1 r) (show fX0_setHalves M a1 a2 a3 = (gu (gu (gu M (ix a1) 3 (1 : Int32)) (ix a1) 4 (a2 &&& (-17 : Int32))) (ix a1) 5 (a3 &&& (-17 : Int32))) from (if_neg c_13).trans rfl).symm) hP hS) hS.2.2 dX0_setHalves_46
def fX0_isOfKind (M : Nat → Nat → Int32) (a1 : Int32) (a2 : Int32) (a3 : Int32) (a4 : Int32) : Int32 :=
  if (M (ix a1) 3) = (1 : Int32) then
    if (M (ix a1) 2) = a3 then
      if a2 = (0 : Int32) then
        (1 : Int32)
      else
        if a2 = (1 : Int32) then
          (1 : Int32)
        else
          if a2 = (2 : Int32) then
            (0 : Int32)
          else
            if a2 = (3 : Int32) then
              (0 : Int32)
            else
              (0 : Int32)
    else
      if a2 = (0 : Int32) then
        (1 : Int32)
      else
        if a2 = (1 : Int32) then
          (1 : Int32)
        else
          if a2 = (2 : Int32) then
            (0 : Int32)
          else
            if a2 = (3 : Int32) then
              (0 : Int32)
            else
              (0 : Int32)
  else
    if (M (ix a1) 2) = a3 then
      if a2 = (0 : Int32) then
        (1 : Int32)
      else
        if a2 = (1 : Int32) then
          (0 : Int32)
        else
          if a2 = (2 : Int32) then
            (1 : Int32)
          else
            if a2 = (3 : Int32) then
              (1 : Int32)
            else
              if (M (ix a1) 1) = a4 then
                (1 : Int32)
              else
                (0 : Int32)
    else
      if a2 = (0 : Int32) then
        (1 : Int32)
      else
        if a2 = (1 : Int32) then
          (0 : Int32)
        else
          if a2 = (2 : Int32) then
            (1 : Int32)
          else
            if a2 = (3 : Int32) then
              (0 : Int32)
            else
              (0 : Int32)
set_option maxHeartbeats 4000000 in
set_option maxRecDepth 100000 in
theorem kX0_isOfKind (l : Launch) (D : va_G) (k : Nat → ClassId) (b0 b1 : Nat) (r : Nat → Nat) (M : Nat → Nat → Int32) (a1 : Int32) (a2 : Int32) (a3 : Int32) (a4 : Int32) (h1 : vp_in a1 4) : Met l yX0_isOfKind wsX0_isOfKind { frames := 0, cells := 0, slots := 0, locals := 0 } (rd_P D vwCl (tyL k) (wB k b0 b1 r M) (fun _ => True) [.ref b0, .int a1, .int a2, .int a3, .int a4]) (QcRead (fX0_isOfKind M a1 a2 a3 a4)) 0 0 (fun _ => False) := by
  refine Met.ofW (cc := cX0_isOfKind) (maxL := 7) (ret := (some .boolean)) (by decide) rfl ?_
  intro p e s m args below meth c s₁ B hml hv0
  obtain ⟨rfl, hP, hK, hX⟩ := hv0
  have hx := B.exec
  have hb := B.bytes
  have hr := B.returns
  have hts := atoms_spec (ws := wsX0_isOfKind) B.pre
  have hown : s.vm.findClass RX0 = some m.cls := findClass_of_methodNamed B.named
  have hlocks := B.notSynchronized
  have hl := lv_entry ([.ref b0, .int a1, .int a2, .int a3, .int a4]) (n := 7) (Nat.le_of_ble_eq_true rfl)
  rw [lg_entry_eq]
  generalize (lg_sl ([.ref b0, .int a1, .int a2, .int a3, .int a4]) ++ List.replicate (7 - (lg_sl ([.ref b0, .int a1, .int a2, .int a3, .int a4])).length) Slot.unset).toArray = ls at hl ⊢
  have hl : lv_has ls 7 [(0, .ref b0), (1, .int a1), (2, .int a2), (3, .int a3), (4, .int a4)] := hl
  refine lv_aload_n hx hb dX0_isOfKind_0 rfl (lv_at hl 0 rfl) ?_
  refine va_get (D := D) (ci := 0) (v := .ref b1) (C := RX0) (T := TX0) (N := 1) hx hb hts (by decide +kernel) hown hK hP 0 rfl rfl 0 (by decide) (hts (.fieldLink RX0 11 "TrapMachine$Buffer" "parts" "[[I") (by decide +kernel)) (fun _ h9 => h9) rfl dX0_isOfKind_1 ?_
  refine lv_iload_n hx hb dX0_isOfKind_4 rfl (lv_at hl 1 rfl) ?_
  refine gd_aald (j := (ix a1)) (y := r (ix a1)) hx hb hK hP 1 1 rfl rfl h1 rfl rfl dX0_isOfKind_5 ?_
  refine lv_iconst (v := (3 : Int32)) hx hb dX0_isOfKind_6 (by decide) ?_
  refine q_iald (j := 3) hx hb hK hP (2 + (ix a1)) 0 (gd_at (ix_ltj h1 rfl)) rfl (vi_k (by decide)) rfl dX0_isOfKind_7 ?_
  refine lv_iconst (v := (1 : Int32)) hx hb dX0_isOfKind_8 (by decide) ?_
  refine lv_icmp_ne (tgt := 16) hx hb dX0_isOfKind_9 (by decide) (fun c_9 => ?_) (fun c_9 => ?_)
  · refine lv_iconst (v := (0 : Int32)) hx hb dX0_isOfKind_16 (by decide) ?_
    refine lv_istore (lv' := [(5, .int (0 : Int32)), (0, .ref b0), (1, .int a1), (2, .int a2), (3, .int a3), (4, .int a4)]) hx hb dX0_isOfKind_17 hl (by decide) rfl (fun ls hl => ?_)
    refine lv_aload_n hx hb dX0_isOfKind_19 rfl (lv_at hl 1 rfl) ?_
    refine va_get (D := D) (ci := 0) (v := .ref b1) (C := RX0) (T := TX0) (N := 1) hx hb hts (by decide +kernel) hown hK hP 0 rfl rfl 0 (by decide) (hts (.fieldLink RX0 11 "TrapMachine$Buffer" "parts" "[[I") (by decide +kernel)) (fun _ h9 => h9) rfl dX0_isOfKind_20 ?_
    refine lv_iload_n hx hb dX0_isOfKind_23 rfl (lv_at hl 2 rfl) ?_
    refine gd_aald (j := (ix a1)) (y := r (ix a1)) hx hb hK hP 1 1 rfl rfl h1 rfl rfl dX0_isOfKind_24 ?_
    refine lv_iconst (v := (2 : Int32)) hx hb dX0_isOfKind_25 (by decide) ?_
    refine q_iald (j := 2) hx hb hK hP (2 + (ix a1)) 0 (gd_at (ix_ltj h1 rfl)) rfl (vi_k (by decide)) rfl dX0_isOfKind_26 ?_
    refine lv_iload_n hx hb dX0_isOfKind_27 rfl (lv_at hl 4 rfl) ?_
    refine lv_icmp_ne (tgt := 35) hx hb dX0_isOfKind_28 (by decide) (fun c_28 => ?_) (fun c_28 => ?_)
    · refine lv_iconst (v := (0 : Int32)) hx hb dX0_isOfKind_35 (by decide) ?_
      refine lv_istore (lv' := [(6, .int (0 : Int32)), (5, .int (0 : Int32)), (0, .ref b0), (1, .int a1), (2, .int a2), (3, .int a3), (4, .int a4)]) hx hb dX0_isOfKind_36 hl (by decide) rfl (fun ls hl => ?_)
      refine lv_iload_n hx hb dX0_isOfKind_38 rfl (lv_at hl 4 rfl) ?_
      by_cases c_39_0 : a2 = (0 : Int32)
      · refine lv_tableIn (off := (29 : Int)) (tgt := 68) hx hb dX0_isOfKind_39 (by rw [c_39_0]; decide) (by rw [c_39_0]; decide) (by rw [c_39_0]; rfl) (by decide) ?_
        refine lv_iconst (v := (1 : Int32)) hx hb dX0_isOfKind_68 (by decide) ?_
        exact W.zret (v := (1 : Int32)) hx hb hr rfl (rd_end (show fX0_isOfKind M a1 a2 a3 a4 = (1 : Int32) from (if_neg c_9).trans ((if_neg c_28).trans ((if_pos c_39_0).trans rfl)))) (fun q h => by cases h) dX0_isOfKind_69
      · by_cases c_39_1 : a2 = (1 : Int32)
        · refine lv_tableIn (off := (31 : Int)) (tgt := 70) hx hb dX0_isOfKind_39 (by rw [c_39_1]; decide) (by rw [c_39_1]; decide) (by rw [c_39_1]; rfl) (by decide) ?_
          refine lv_iload hx hb dX0_isOfKind_70 (lv_at hl 1 rfl) ?_
          exact W.zret (v := (0 : Int32)) hx hb hr rfl (rd_end (show fX0_isOfKind M a1 a2 a3 a4 = (0 : Int32) from (if_neg c_9).trans ((if_neg c_28).trans ((if_neg c_39_0).trans ((if_pos c_39_1).trans rfl))))) (fun q h => by cases h) dX0_isOfKind_72
        · by_cases c_39_2 : a2 = (2 : Int32)
          · refine lv_tableIn (off := (34 : Int)) (tgt := 73) hx hb dX0_isOfKind_39 (by rw [c_39_2]; decide) (by rw [c_39_2]; decide) (by rw [c_39_2]; rfl) (by decide) ?_
            refine lv_iload hx hb dX0_isOfKind_73 (lv_at hl 1 rfl) ?_
            refine lv_if_ne (tgt := 82) hx hb dX0_isOfKind_75 (by decide) (fun c9 => absurd (by decide) c9) (fun _ => ?_)
            refine lv_iconst (v := (1 : Int32)) hx hb dX0_isOfKind_78 (by decide) ?_
            refine lv_goto (tgt := 83) hx hb dX0_isOfKind_79 (by decide) ?_
            exact W.zret (v := (1 : Int32)) hx hb hr rfl (rd_end (show fX0_isOfKind M a1 a2 a3 a4 = (1 : Int32) from (if_neg c_9).trans ((if_neg c_28).trans ((if_neg c_39_0).trans ((if_neg c_39_1).trans ((if_pos c_39_2).trans rfl)))))) (fun q h => by cases h) dX0_isOfKind_83
          · by_cases c_39_3 : a2 = (3 : Int32)
            · refine lv_tableIn (off := (45 : Int)) (tgt := 84) hx hb dX0_isOfKind_39 (by rw [c_39_3]; decide) (by rw [c_39_3]; decide) (by rw [c_39_3]; rfl) (by decide) ?_
              refine lv_iload hx hb dX0_isOfKind_84 (lv_at hl 1 rfl) ?_
              refine lv_if_ne (tgt := 98) hx hb dX0_isOfKind_86 (by decide) (fun c9 => absurd (by decide) c9) (fun _ => ?_)
              refine lv_iload hx hb dX0_isOfKind_89 (lv_at hl 0 rfl) ?_
              refine lv_if_eq (tgt := 98) hx hb dX0_isOfKind_91 (by decide) (fun _ => ?_) (fun c9 => absurd (by decide) c9)
              refine lv_iconst (v := (0 : Int32)) hx hb dX0_isOfKind_98 (by decide) ?_
              exact W.zret (v := (0 : Int32)) hx hb hr rfl (rd_end (show fX0_isOfKind M a1 a2 a3 a4 = (0 : Int32) from (if_neg c_9).trans ((if_neg c_28).trans ((if_neg c_39_0).trans ((if_neg c_39_1).trans ((if_neg c_39_2).trans ((if_pos c_39_3).trans rfl))))))) (fun q h => by cases h) dX0_isOfKind_99
            · refine lv_tableOut (tgt := 100) hx hb dX0_isOfKind_39 (by have n0 := lv_neT c_39_0 (show (0 : Int32).toInt = 0 by decide); have n1 := lv_neT c_39_1 (show (1 : Int32).toInt = 1 by decide); have n2 := lv_neT c_39_2 (show (2 : Int32).toInt = 2 by decide); have n3 := lv_neT c_39_3 (show (3 : Int32).toInt = 3 by decide); omega) (by decide) ?_
              refine lv_iload hx hb dX0_isOfKind_100 (lv_at hl 1 rfl) ?_
              refine lv_if_ne (tgt := 127) hx hb dX0_isOfKind_102 (by decide) (fun c9 => absurd (by decide) c9) (fun _ => ?_)
              refine lv_iload hx hb dX0_isOfKind_105 (lv_at hl 0 rfl) ?_
              refine lv_if_eq (tgt := 127) hx hb dX0_isOfKind_107 (by decide) (fun _ => ?_) (fun c9 => absurd (by decide) c9)
              refine lv_iconst (v := (0 : Int32)) hx hb dX0_isOfKind_127 (by decide) ?_
              exact W.zret (v := (0 : Int32)) hx hb hr rfl (rd_end (show fX0_isOfKind M a1 a2 a3 a4 = (0 : Int32) from (if_neg c_9).trans ((if_neg c_28).trans ((if_neg c_39_0).trans ((if_neg c_39_1).trans ((if_neg c_39_2).trans ((if_neg c_39_3).trans rfl))))))) (fun q h => by cases h) dX0_isOfKind_128
    · refine lv_iconst (v := (1 : Int32)) hx hb dX0_isOfKind_31 (by decide) ?_
      refine lv_goto (tgt := 36) hx hb dX0_isOfKind_32 (by decide) ?_
      refine lv_istore (lv' := [(6, .int (1 : Int32)), (5, .int (0 : Int32)), (0, .ref b0), (1, .int a1), (2, .int a2), (3, .int a3), (4, .int a4)]) hx hb dX0_isOfKind_36 hl (by decide) rfl (fun ls hl => ?_)
      refine lv_iload_n hx hb dX0_isOfKind_38 rfl (lv_at hl 4 rfl) ?_
      by_cases c_39_0 : a2 = (0 : Int32)
      · refine lv_tableIn (off := (29 : Int)) (tgt := 68) hx hb dX0_isOfKind_39 (by rw [c_39_0]; decide) (by rw [c_39_0]; decide) (by rw [c_39_0]; rfl) (by decide) ?_
        refine lv_iconst (v := (1 : Int32)) hx hb dX0_isOfKind_68 (by decide) ?_
        exact W.zret (v := (1 : Int32)) hx hb hr rfl (rd_end (show fX0_isOfKind M a1 a2 a3 a4 = (1 : Int32) from (if_neg c_9).trans ((if_pos c_28).trans ((if_pos c_39_0).trans rfl)))) (fun q h => by cases h) dX0_isOfKind_69
      · by_cases c_39_1 : a2 = (1 : Int32)
        · refine lv_tableIn (off := (31 : Int)) (tgt := 70) hx hb dX0_isOfKind_39 (by rw [c_39_1]; decide) (by rw [c_39_1]; decide) (by rw [c_39_1]; rfl) (by decide) ?_
          refine lv_iload hx hb dX0_isOfKind_70 (lv_at hl 1 rfl) ?_
          exact W.zret (v := (0 : Int32)) hx hb hr rfl (rd_end (show fX0_isOfKind M a1 a2 a3 a4 = (0 : Int32) from (if_neg c_9).trans ((if_pos c_28).trans ((if_neg c_39_0).trans ((if_pos c_39_1).trans rfl))))) (fun q h => by cases h) dX0_isOfKind_72
        · by_cases c_39_2 : a2 = (2 : Int32)
          · refine lv_tableIn (off := (34 : Int)) (tgt := 73) hx hb dX0_isOfKind_39 (by rw [c_39_2]; decide) (by rw [c_39_2]; decide) (by rw [c_39_2]; rfl) (by decide) ?_
            refine lv_iload hx hb dX0_isOfKind_73 (lv_at hl 1 rfl) ?_
            refine lv_if_ne (tgt := 82) hx hb dX0_isOfKind_75 (by decide) (fun c9 => absurd (by decide) c9) (fun _ => ?_)
            refine lv_iconst (v := (1 : Int32)) hx hb dX0_isOfKind_78 (by decide) ?_
            refine lv_goto (tgt := 83) hx hb dX0_isOfKind_79 (by decide) ?_
            exact W.zret (v := (1 : Int32)) hx hb hr rfl (rd_end (show fX0_isOfKind M a1 a2 a3 a4 = (1 : Int32) from (if_neg c_9).trans ((if_pos c_28).trans ((if_neg c_39_0).trans ((if_neg c_39_1).trans ((if_pos c_39_2).trans rfl)))))) (fun q h => by cases h) dX0_isOfKind_83
          · by_cases c_39_3 : a2 = (3 : Int32)
            · refine lv_tableIn (off := (45 : Int)) (tgt := 84) hx hb dX0_isOfKind_39 (by rw [c_39_3]; decide) (by rw [c_39_3]; decide) (by rw [c_39_3]; rfl) (by decide) ?_
              refine lv_iload hx hb dX0_isOfKind_84 (lv_at hl 1 rfl) ?_
              refine lv_if_ne (tgt := 98) hx hb dX0_isOfKind_86 (by decide) (fun c9 => absurd (by decide) c9) (fun _ => ?_)
              refine lv_iload hx hb dX0_isOfKind_89 (lv_at hl 0 rfl) ?_
              refine lv_if_eq (tgt := 98) hx hb dX0_isOfKind_91 (by decide) (fun c9 => absurd c9 (by decide)) (fun _ => ?_)
              refine lv_iconst (v := (1 : Int32)) hx hb dX0_isOfKind_94 (by decide) ?_
              refine lv_goto (tgt := 99) hx hb dX0_isOfKind_95 (by decide) ?_
              exact W.zret (v := (1 : Int32)) hx hb hr rfl (rd_end (show fX0_isOfKind M a1 a2 a3 a4 = (1 : Int32) from (if_neg c_9).trans ((if_pos c_28).trans ((if_neg c_39_0).trans ((if_neg c_39_1).trans ((if_neg c_39_2).trans ((if_pos c_39_3).trans rfl))))))) (fun q h => by cases h) dX0_isOfKind_99
            · refine lv_tableOut (tgt := 100) hx hb dX0_isOfKind_39 (by have n0 := lv_neT c_39_0 (show (0 : Int32).toInt = 0 by decide); have n1 := lv_neT c_39_1 (show (1 : Int32).toInt = 1 by decide); have n2 := lv_neT c_39_2 (show (2 : Int32).toInt = 2 by decide); have n3 := lv_neT c_39_3 (show (3 : Int32).toInt = 3 by decide); omega) (by decide) ?_
              refine lv_iload hx hb dX0_isOfKind_100 (lv_at hl 1 rfl) ?_
              refine lv_if_ne (tgt := 127) hx hb dX0_isOfKind_102 (by decide) (fun c9 => absurd (by decide) c9) (fun _ => ?_)
              refine lv_iload hx hb dX0_isOfKind_105 (lv_at hl 0 rfl) ?_
              refine lv_if_eq (tgt := 127) hx hb dX0_isOfKind_107 (by decide) (fun c9 => absurd c9 (by decide)) (fun _ => ?_)
              refine lv_aload_n hx hb dX0_isOfKind_110 rfl (lv_at hl 2 rfl) ?_
              refine va_get (D := D) (ci := 0) (v := .ref b1) (C := RX0) (T := TX0) (N := 1) hx hb hts (by decide +kernel) hown hK hP 0 rfl rfl 0 (by decide) (hts (.fieldLink RX0 11 "TrapMachine$Buffer" "parts" "[[I") (by decide +kernel)) (fun _ h9 => h9) rfl dX0_isOfKind_111 ?_
              refine lv_iload_n hx hb dX0_isOfKind_114 rfl (lv_at hl 3 rfl) ?_
              refine gd_aald (j := (ix a1)) (y := r (ix a1)) hx hb hK hP 1 1 rfl rfl h1 rfl rfl dX0_isOfKind_115 ?_
              refine lv_iconst (v := (1 : Int32)) hx hb dX0_isOfKind_116 (by decide) ?_
              refine q_iald (j := 1) hx hb hK hP (2 + (ix a1)) 0 (gd_at (ix_ltj h1 rfl)) rfl (vi_k (by decide)) rfl dX0_isOfKind_117 ?_
              refine lv_iload hx hb dX0_isOfKind_118 (lv_at hl 6 rfl) ?_
              refine lv_icmp_ne (tgt := 127) hx hb dX0_isOfKind_120 (by decide) (fun c_120 => ?_) (fun c_120 => ?_)
              · refine lv_iconst (v := (0 : Int32)) hx hb dX0_isOfKind_127 (by decide) ?_
                exact W.zret (v := (0 : Int32)) hx hb hr rfl (rd_end (show fX0_isOfKind M a1 a2 a3 a4 = (0 : Int32) from (if_neg c_9).trans ((if_pos c_28).trans ((if_neg c_39_0).trans ((if_neg c_39_1).trans ((if_neg c_39_2).trans ((if_neg c_39_3).trans ((if_neg c_120).trans rfl)))))))) (fun q h => by cases h) dX0_isOfKind_128
              · refine lv_iconst (v := (1 : Int32)) hx hb dX0_isOfKind_123 (by decide) ?_
                refine lv_goto (tgt := 128) hx hb dX0_isOfKind_124 (by decide) ?_
                exact W.zret (v := (1 : Int32)) hx hb hr rfl (rd_end (show fX0_isOfKind M a1 a2 a3 a4 = (1 : Int32) from (if_neg c_9).trans ((if_pos c_28).trans ((if_neg c_39_0).trans ((if_neg c_39_1).trans ((if_neg c_39_2).trans ((if_neg c_39_3).trans ((if_pos c_120).trans rfl)))))))) (fun q h => by cases h) dX0_isOfKind_128
  · refine lv_iconst (v := (1 : Int32)) hx hb dX0_isOfKind_12 (by decide) ?_
    refine lv_goto (tgt := 17) hx hb dX0_isOfKind_13 (by decide) ?_
    refine lv_istore (lv' := [(5, .int (1 : Int32)), (0, .ref b0), (1, .int a1), (2, .int a2), (3, .int a3), (4, .int a4)]) hx hb dX0_isOfKind_17 hl (by decide) rfl (fun ls hl => ?_)
    refine lv_aload_n hx hb dX0_isOfKind_19 rfl (lv_at hl 1 rfl) ?_
    refine va_get (D := D) (ci := 0) (v := .ref b1) (C := RX0) (T := TX0) (N := 1) hx hb hts (by decide +kernel) hown hK hP 0 rfl rfl 0 (by decide) (hts (.fieldLink RX0 11 "TrapMachine$Buffer" "parts" "[[I") (by decide +kernel)) (fun _ h9 => h9) rfl dX0_isOfKind_20 ?_
    refine lv_iload_n hx hb dX0_isOfKind_23 rfl (lv_at hl 2 rfl) ?_
    refine gd_aald (j := (ix a1)) (y := r (ix a1)) hx hb hK hP 1 1 rfl rfl h1 rfl rfl dX0_isOfKind_24 ?_
    refine lv_iconst (v := (2 : Int32)) hx hb dX0_isOfKind_25 (by decide) ?_
    refine q_iald (j := 2) hx hb hK hP (2 + (ix a1)) 0 (gd_at (ix_ltj h1 rfl)) rfl (vi_k (by decide)) rfl dX0_isOfKind_26 ?_
    refine lv_iload_n hx hb dX0_isOfKind_27 rfl (lv_at hl 4 rfl) ?_
    refine lv_icmp_ne (tgt := 35) hx hb dX0_isOfKind_28 (by decide) (fun c_28 => ?_) (fun c_28 => ?_)
    · refine lv_iconst (v := (0 : Int32)) hx hb dX0_isOfKind_35 (by decide) ?_
      refine lv_istore (lv' := [(6, .int (0 : Int32)), (5, .int (1 : Int32)), (0, .ref b0), (1, .int a1), (2, .int a2), (3, .int a3), (4, .int a4)]) hx hb dX0_isOfKind_36 hl (by decide) rfl (fun ls hl => ?_)
      refine lv_iload_n hx hb dX0_isOfKind_38 rfl (lv_at hl 4 rfl) ?_
      by_cases c_39_0 : a2 = (0 : Int32)
      · refine lv_tableIn (off := (29 : Int)) (tgt := 68) hx hb dX0_isOfKind_39 (by rw [c_39_0]; decide) (by rw [c_39_0]; decide) (by rw [c_39_0]; rfl) (by decide) ?_
        refine lv_iconst (v := (1 : Int32)) hx hb dX0_isOfKind_68 (by decide) ?_
        exact W.zret (v := (1 : Int32)) hx hb hr rfl (rd_end (show fX0_isOfKind M a1 a2 a3 a4 = (1 : Int32) from (if_pos c_9).trans ((if_neg c_28).trans ((if_pos c_39_0).trans rfl)))) (fun q h => by cases h) dX0_isOfKind_69
      · by_cases c_39_1 : a2 = (1 : Int32)
        · refine lv_tableIn (off := (31 : Int)) (tgt := 70) hx hb dX0_isOfKind_39 (by rw [c_39_1]; decide) (by rw [c_39_1]; decide) (by rw [c_39_1]; rfl) (by decide) ?_
          refine lv_iload hx hb dX0_isOfKind_70 (lv_at hl 1 rfl) ?_
          exact W.zret (v := (1 : Int32)) hx hb hr rfl (rd_end (show fX0_isOfKind M a1 a2 a3 a4 = (1 : Int32) from (if_pos c_9).trans ((if_neg c_28).trans ((if_neg c_39_0).trans ((if_pos c_39_1).trans rfl))))) (fun q h => by cases h) dX0_isOfKind_72
        · by_cases c_39_2 : a2 = (2 : Int32)
          · refine lv_tableIn (off := (34 : Int)) (tgt := 73) hx hb dX0_isOfKind_39 (by rw [c_39_2]; decide) (by rw [c_39_2]; decide) (by rw [c_39_2]; rfl) (by decide) ?_
            refine lv_iload hx hb dX0_isOfKind_73 (lv_at hl 1 rfl) ?_
            refine lv_if_ne (tgt := 82) hx hb dX0_isOfKind_75 (by decide) (fun _ => ?_) (fun c9 => absurd c9 (by decide))
            refine lv_iconst (v := (0 : Int32)) hx hb dX0_isOfKind_82 (by decide) ?_
            exact W.zret (v := (0 : Int32)) hx hb hr rfl (rd_end (show fX0_isOfKind M a1 a2 a3 a4 = (0 : Int32) from (if_pos c_9).trans ((if_neg c_28).trans ((if_neg c_39_0).trans ((if_neg c_39_1).trans ((if_pos c_39_2).trans rfl)))))) (fun q h => by cases h) dX0_isOfKind_83
          · by_cases c_39_3 : a2 = (3 : Int32)
            · refine lv_tableIn (off := (45 : Int)) (tgt := 84) hx hb dX0_isOfKind_39 (by rw [c_39_3]; decide) (by rw [c_39_3]; decide) (by rw [c_39_3]; rfl) (by decide) ?_
              refine lv_iload hx hb dX0_isOfKind_84 (lv_at hl 1 rfl) ?_
              refine lv_if_ne (tgt := 98) hx hb dX0_isOfKind_86 (by decide) (fun _ => ?_) (fun c9 => absurd c9 (by decide))
              refine lv_iconst (v := (0 : Int32)) hx hb dX0_isOfKind_98 (by decide) ?_
              exact W.zret (v := (0 : Int32)) hx hb hr rfl (rd_end (show fX0_isOfKind M a1 a2 a3 a4 = (0 : Int32) from (if_pos c_9).trans ((if_neg c_28).trans ((if_neg c_39_0).trans ((if_neg c_39_1).trans ((if_neg c_39_2).trans ((if_pos c_39_3).trans rfl))))))) (fun q h => by cases h) dX0_isOfKind_99
            · refine lv_tableOut (tgt := 100) hx hb dX0_isOfKind_39 (by have n0 := lv_neT c_39_0 (show (0 : Int32).toInt = 0 by decide); have n1 := lv_neT c_39_1 (show (1 : Int32).toInt = 1 by decide); have n2 := lv_neT c_39_2 (show (2 : Int32).toInt = 2 by decide); have n3 := lv_neT c_39_3 (show (3 : Int32).toInt = 3 by decide); omega) (by decide) ?_
              refine lv_iload hx hb dX0_isOfKind_100 (lv_at hl 1 rfl) ?_
              refine lv_if_ne (tgt := 127) hx hb dX0_isOfKind_102 (by decide) (fun _ => ?_) (fun c9 => absurd c9 (by decide))
              refine lv_iconst (v := (0 : Int32)) hx hb dX0_isOfKind_127 (by decide) ?_
              exact W.zret (v := (0 : Int32)) hx hb hr rfl (rd_end (show fX0_isOfKind M a1 a2 a3 a4 = (0 : Int32) from (if_pos c_9).trans ((if_neg c_28).trans ((if_neg c_39_0).trans ((if_neg c_39_1).trans ((if_neg c_39_2).trans ((if_neg c_39_3).trans rfl))))))) (fun q h => by cases h) dX0_isOfKind_128
    · refine lv_iconst (v := (1 : Int32)) hx hb dX0_isOfKind_31 (by decide) ?_
      refine lv_goto (tgt := 36) hx hb dX0_isOfKind_32 (by decide) ?_
      refine lv_istore (lv' := [(6, .int (1 : Int32)), (5, .int (1 : Int32)), (0, .ref b0), (1, .int a1), (2, .int a2), (3, .int a3), (4, .int a4)]) hx hb dX0_isOfKind_36 hl (by decide) rfl (fun ls hl => ?_)
      refine lv_iload_n hx hb dX0_isOfKind_38 rfl (lv_at hl 4 rfl) ?_
      by_cases c_39_0 : a2 = (0 : Int32)
      · refine lv_tableIn (off := (29 : Int)) (tgt := 68) hx hb dX0_isOfKind_39 (by rw [c_39_0]; decide) (by rw [c_39_0]; decide) (by rw [c_39_0]; rfl) (by decide) ?_
        refine lv_iconst (v := (1 : Int32)) hx hb dX0_isOfKind_68 (by decide) ?_
        exact W.zret (v := (1 : Int32)) hx hb hr rfl (rd_end (show fX0_isOfKind M a1 a2 a3 a4 = (1 : Int32) from (if_pos c_9).trans ((if_pos c_28).trans ((if_pos c_39_0).trans rfl)))) (fun q h => by cases h) dX0_isOfKind_69
      · by_cases c_39_1 : a2 = (1 : Int32)
        · refine lv_tableIn (off := (31 : Int)) (tgt := 70) hx hb dX0_isOfKind_39 (by rw [c_39_1]; decide) (by rw [c_39_1]; decide) (by rw [c_39_1]; rfl) (by decide) ?_
          refine lv_iload hx hb dX0_isOfKind_70 (lv_at hl 1 rfl) ?_
          exact W.zret (v := (1 : Int32)) hx hb hr rfl (rd_end (show fX0_isOfKind M a1 a2 a3 a4 = (1 : Int32) from (if_pos c_9).trans ((if_pos c_28).trans ((if_neg c_39_0).trans ((if_pos c_39_1).trans rfl))))) (fun q h => by cases h) dX0_isOfKind_72
        · by_cases c_39_2 : a2 = (2 : Int32)
          · refine lv_tableIn (off := (34 : Int)) (tgt := 73) hx hb dX0_isOfKind_39 (by rw [c_39_2]; decide) (by rw [c_39_2]; decide) (by rw [c_39_2]; rfl) (by decide) ?_
            refine lv_iload hx hb dX0_isOfKind_73 (lv_at hl 1 rfl) ?_
            refine lv_if_ne (tgt := 82) hx hb dX0_isOfKind_75 (by decide) (fun _ => ?_) (fun c9 => absurd c9 (by decide))
            refine lv_iconst (v := (0 : Int32)) hx hb dX0_isOfKind_82 (by decide) ?_
            exact W.zret (v := (0 : Int32)) hx hb hr rfl (rd_end (show fX0_isOfKind M a1 a2 a3 a4 = (0 : Int32) from (if_pos c_9).trans ((if_pos c_28).trans ((if_neg c_39_0).trans ((if_neg c_39_1).trans ((if_pos c_39_2).trans rfl)))))) (fun q h => by cases h) dX0_isOfKind_83
          · by_cases c_39_3 : a2 = (3 : Int32)
            · refine lv_tableIn (off := (45 : Int)) (tgt := 84) hx hb dX0_isOfKind_39 (by rw [c_39_3]; decide) (by rw [c_39_3]; decide) (by rw [c_39_3]; rfl) (by decide) ?_
              refine lv_iload hx hb dX0_isOfKind_84 (lv_at hl 1 rfl) ?_
              refine lv_if_ne (tgt := 98) hx hb dX0_isOfKind_86 (by decide) (fun _ => ?_) (fun c9 => absurd c9 (by decide))
              refine lv_iconst (v := (0 : Int32)) hx hb dX0_isOfKind_98 (by decide) ?_
              exact W.zret (v := (0 : Int32)) hx hb hr rfl (rd_end (show fX0_isOfKind M a1 a2 a3 a4 = (0 : Int32) from (if_pos c_9).trans ((if_pos c_28).trans ((if_neg c_39_0).trans ((if_neg c_39_1).trans ((if_neg c_39_2).trans ((if_pos c_39_3).trans rfl))))))) (fun q h => by cases h) dX0_isOfKind_99
            · refine lv_tableOut (tgt := 100) hx hb dX0_isOfKind_39 (by have n0 := lv_neT c_39_0 (show (0 : Int32).toInt = 0 by decide); have n1 := lv_neT c_39_1 (show (1 : Int32).toInt = 1 by decide); have n2 := lv_neT c_39_2 (show (2 : Int32).toInt = 2 by decide); have n3 := lv_neT c_39_3 (show (3 : Int32).toInt = 3 by decide); omega) (by decide) ?_
              refine lv_iload hx hb dX0_isOfKind_100 (lv_at hl 1 rfl) ?_
              refine lv_if_ne (tgt := 127) hx hb dX0_isOfKind_102 (by decide) (fun _ => ?_) (fun c9 => absurd c9 (by decide))
              refine lv_iconst (v := (0 : Int32)) hx hb dX0_isOfKind_127 (by decide) ?_
              exact W.zret (v := (0 : Int32)) hx hb hr rfl (rd_end (show fX0_isOfKind M a1 a2 a3 a4 = (0 : Int32) from (if_pos c_9).trans ((if_pos c_28).trans ((if_neg c_39_0).trans ((if_neg c_39_1).trans ((if_neg c_39_2).trans ((if_neg c_39_3).trans rfl))))))) (fun q h => by cases h) dX0_isOfKind_128
end
