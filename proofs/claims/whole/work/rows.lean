section
-- ===== PART A: goes FIRST, ahead of the names: the tables' words, and 'selects' of the private methods out of them =====
/-- a private method of a class that the tables say can be made, by its rows of tables_1 -/
def lw_okq (q : MethodName × Nat) : Prop := (q.1.cls ≠ "java/lang/invoke/MethodHandle" ∧ q.1.cls ≠ "java/lang/invoke/VarHandle") ∧ Cond.instantiable q.1.cls q.2 ∈ tables_1 ∧ Cond.privateMethod q.1 ∈ tables_1 ∧ Cond.instanceMethod q.1 ∈ tables_1
theorem lw_p0 : lw_okq (⟨"CarDesk", "trayOfSort", "(I)LCarDesk$Tray;"⟩, 14) := ⟨⟨by decide +kernel, by decide +kernel⟩, List.mem_of_getElem? (i := 7) (by decide +kernel), List.mem_of_getElem? (i := 99) (by decide +kernel), List.mem_of_getElem? (i := 100) (by decide +kernel)⟩
theorem lw_p1 : lw_okq (⟨"CarDesk", "refuse", "(I)I"⟩, 14) := ⟨⟨by decide +kernel, by decide +kernel⟩, List.mem_of_getElem? (i := 7) (by decide +kernel), List.mem_of_getElem? (i := 103) (by decide +kernel), List.mem_of_getElem? (i := 104) (by decide +kernel)⟩
theorem lw_p2 : lw_okq (⟨"CarDesk$Tray", "isFull", "()Z"⟩, 3) := ⟨⟨by decide +kernel, by decide +kernel⟩, List.mem_of_getElem? (i := 15) (by decide +kernel), List.mem_of_getElem? (i := 107) (by decide +kernel), List.mem_of_getElem? (i := 108) (by decide +kernel)⟩
theorem lw_p3 : lw_okq (⟨"CarDesk$Tray", "put", "(I)V"⟩, 3) := ⟨⟨by decide +kernel, by decide +kernel⟩, List.mem_of_getElem? (i := 15) (by decide +kernel), List.mem_of_getElem? (i := 111) (by decide +kernel), List.mem_of_getElem? (i := 112) (by decide +kernel)⟩
theorem lw_p4 : lw_okq (⟨"CarDesk", "canBeMade", "(I)Z"⟩, 14) := ⟨⟨by decide +kernel, by decide +kernel⟩, List.mem_of_getElem? (i := 7) (by decide +kernel), List.mem_of_getElem? (i := 138) (by decide +kernel), List.mem_of_getElem? (i := 139) (by decide +kernel)⟩
theorem lw_p5 : lw_okq (⟨"CarDesk", "trayOfKind", "(I)LCarDesk$Tray;"⟩, 14) := ⟨⟨by decide +kernel, by decide +kernel⟩, List.mem_of_getElem? (i := 7) (by decide +kernel), List.mem_of_getElem? (i := 142) (by decide +kernel), List.mem_of_getElem? (i := 143) (by decide +kernel)⟩
theorem lw_p6 : lw_okq (⟨"CarDesk$Shelf", "newest", "()LCarDesk$Thing;"⟩, 2) := ⟨⟨by decide +kernel, by decide +kernel⟩, List.mem_of_getElem? (i := 35) (by decide +kernel), List.mem_of_getElem? (i := 146) (by decide +kernel), List.mem_of_getElem? (i := 147) (by decide +kernel)⟩
theorem lw_p7 : lw_okq (⟨"CarDesk$Shelf", "at", "(I)LCarDesk$Thing;"⟩, 2) := ⟨⟨by decide +kernel, by decide +kernel⟩, List.mem_of_getElem? (i := 35) (by decide +kernel), List.mem_of_getElem? (i := 150) (by decide +kernel), List.mem_of_getElem? (i := 151) (by decide +kernel)⟩
theorem lw_p8 : lw_okq (⟨"CarDesk$Shelf", "isFull", "()Z"⟩, 2) := ⟨⟨by decide +kernel, by decide +kernel⟩, List.mem_of_getElem? (i := 35) (by decide +kernel), List.mem_of_getElem? (i := 154) (by decide +kernel), List.mem_of_getElem? (i := 155) (by decide +kernel)⟩
theorem lw_p9 : lw_okq (⟨"CarDesk", "sourceOf", "(I)LCarDesk$Thing;"⟩, 14) := ⟨⟨by decide +kernel, by decide +kernel⟩, List.mem_of_getElem? (i := 7) (by decide +kernel), List.mem_of_getElem? (i := 158) (by decide +kernel), List.mem_of_getElem? (i := 159) (by decide +kernel)⟩
theorem lw_p10 : lw_okq (⟨"CarDesk", "firstState", "(ILCarDesk$Thing;)J"⟩, 14) := ⟨⟨by decide +kernel, by decide +kernel⟩, List.mem_of_getElem? (i := 7) (by decide +kernel), List.mem_of_getElem? (i := 164) (by decide +kernel), List.mem_of_getElem? (i := 165) (by decide +kernel)⟩
theorem lw_p11 : lw_okq (⟨"CarDesk$Tray", "hash", "()J"⟩, 3) := ⟨⟨by decide +kernel, by decide +kernel⟩, List.mem_of_getElem? (i := 15) (by decide +kernel), List.mem_of_getElem? (i := 168) (by decide +kernel), List.mem_of_getElem? (i := 169) (by decide +kernel)⟩
theorem lw_p12 : lw_okq (⟨"CarDesk$Tray", "sum", "()I"⟩, 3) := ⟨⟨by decide +kernel, by decide +kernel⟩, List.mem_of_getElem? (i := 15) (by decide +kernel), List.mem_of_getElem? (i := 175) (by decide +kernel), List.mem_of_getElem? (i := 176) (by decide +kernel)⟩
theorem lw_p13 : lw_okq (⟨"CarDesk$Tray", "changes", "()I"⟩, 3) := ⟨⟨by decide +kernel, by decide +kernel⟩, List.mem_of_getElem? (i := 15) (by decide +kernel), List.mem_of_getElem? (i := 179) (by decide +kernel), List.mem_of_getElem? (i := 180) (by decide +kernel)⟩
theorem lw_p14 : lw_okq (⟨"CarDesk$Tray", "checksum", "()J"⟩, 3) := ⟨⟨by decide +kernel, by decide +kernel⟩, List.mem_of_getElem? (i := 15) (by decide +kernel), List.mem_of_getElem? (i := 183) (by decide +kernel), List.mem_of_getElem? (i := 184) (by decide +kernel)⟩
theorem lw_p15 : lw_okq (⟨"CarDesk$Shelf", "countThere", "()I"⟩, 2) := ⟨⟨by decide +kernel, by decide +kernel⟩, List.mem_of_getElem? (i := 35) (by decide +kernel), List.mem_of_getElem? (i := 189) (by decide +kernel), List.mem_of_getElem? (i := 190) (by decide +kernel)⟩
def lw_privs_1 : List (MethodName × Nat) := [(⟨"CarDesk", "trayOfSort", "(I)LCarDesk$Tray;"⟩, 14), (⟨"CarDesk", "refuse", "(I)I"⟩, 14), (⟨"CarDesk$Tray", "isFull", "()Z"⟩, 3), (⟨"CarDesk$Tray", "put", "(I)V"⟩, 3), (⟨"CarDesk", "canBeMade", "(I)Z"⟩, 14), (⟨"CarDesk", "trayOfKind", "(I)LCarDesk$Tray;"⟩, 14), (⟨"CarDesk$Shelf", "newest", "()LCarDesk$Thing;"⟩, 2), (⟨"CarDesk$Shelf", "at", "(I)LCarDesk$Thing;"⟩, 2), (⟨"CarDesk$Shelf", "isFull", "()Z"⟩, 2), (⟨"CarDesk", "sourceOf", "(I)LCarDesk$Thing;"⟩, 14), (⟨"CarDesk", "firstState", "(ILCarDesk$Thing;)J"⟩, 14), (⟨"CarDesk$Tray", "hash", "()J"⟩, 3), (⟨"CarDesk$Tray", "sum", "()I"⟩, 3), (⟨"CarDesk$Tray", "changes", "()I"⟩, 3), (⟨"CarDesk$Tray", "checksum", "()J"⟩, 3), (⟨"CarDesk$Shelf", "countThere", "()I"⟩, 2)]
theorem lw_r1 : ∀ q ∈ lw_privs_1, lw_okq q := List.forall_mem_cons.mpr ⟨lw_p0, List.forall_mem_cons.mpr ⟨lw_p1, List.forall_mem_cons.mpr ⟨lw_p2, List.forall_mem_cons.mpr ⟨lw_p3, List.forall_mem_cons.mpr ⟨lw_p4, List.forall_mem_cons.mpr ⟨lw_p5, List.forall_mem_cons.mpr ⟨lw_p6, List.forall_mem_cons.mpr ⟨lw_p7, List.forall_mem_cons.mpr ⟨lw_p8, List.forall_mem_cons.mpr ⟨lw_p9, List.forall_mem_cons.mpr ⟨lw_p10, List.forall_mem_cons.mpr ⟨lw_p11, List.forall_mem_cons.mpr ⟨lw_p12, List.forall_mem_cons.mpr ⟨lw_p13, List.forall_mem_cons.mpr ⟨lw_p14, List.forall_mem_cons.mpr ⟨lw_p15, fun _ h => absurd h List.not_mem_nil⟩⟩⟩⟩⟩⟩⟩⟩⟩⟩⟩⟩⟩⟩⟩⟩
theorem lw_p16 : lw_okq (⟨"CarDesk$Shelf", "put", "(LCarDesk$Thing;)V"⟩, 2) := ⟨⟨by decide +kernel, by decide +kernel⟩, List.mem_of_getElem? (i := 35) (by decide +kernel), List.mem_of_getElem? (i := 217) (by decide +kernel), List.mem_of_getElem? (i := 218) (by decide +kernel)⟩
theorem lw_p17 : lw_okq (⟨"CarDesk", "emptyTrayOf", "(I)V"⟩, 14) := ⟨⟨by decide +kernel, by decide +kernel⟩, List.mem_of_getElem? (i := 7) (by decide +kernel), List.mem_of_getElem? (i := 221) (by decide +kernel), List.mem_of_getElem? (i := 222) (by decide +kernel)⟩
theorem lw_p18 : lw_okq (⟨"CarDesk$Tray", "empty", "()V"⟩, 3) := ⟨⟨by decide +kernel, by decide +kernel⟩, List.mem_of_getElem? (i := 15) (by decide +kernel), List.mem_of_getElem? (i := 225) (by decide +kernel), List.mem_of_getElem? (i := 226) (by decide +kernel)⟩
theorem lw_p19 : lw_okq (⟨"CarDesk", "thingForCall", "(IJ)LCarDesk$Thing;"⟩, 14) := ⟨⟨by decide +kernel, by decide +kernel⟩, List.mem_of_getElem? (i := 7) (by decide +kernel), List.mem_of_getElem? (i := 233) (by decide +kernel), List.mem_of_getElem? (i := 234) (by decide +kernel)⟩
theorem lw_p20 : lw_okq (⟨"CarDesk", "thingOf", "(J)LCarDesk$Thing;"⟩, 14) := ⟨⟨by decide +kernel, by decide +kernel⟩, List.mem_of_getElem? (i := 7) (by decide +kernel), List.mem_of_getElem? (i := 238) (by decide +kernel), List.mem_of_getElem? (i := 239) (by decide +kernel)⟩
theorem lw_p21 : lw_okq (⟨"CarDesk", "refusalOfCall", "(ILCarDesk$Thing;J)I"⟩, 14) := ⟨⟨by decide +kernel, by decide +kernel⟩, List.mem_of_getElem? (i := 7) (by decide +kernel), List.mem_of_getElem? (i := 244) (by decide +kernel), List.mem_of_getElem? (i := 245) (by decide +kernel)⟩
theorem lw_p22 : lw_okq (⟨"CarDesk$Thing", "isInUse", "()Z"⟩, 5) := ⟨⟨by decide +kernel, by decide +kernel⟩, List.mem_of_getElem? (i := 162) (by decide +kernel), List.mem_of_getElem? (i := 251) (by decide +kernel), List.mem_of_getElem? (i := 252) (by decide +kernel)⟩
theorem lw_p23 : lw_okq (⟨"CarDesk", "tellFailed", "(III)V"⟩, 14) := ⟨⟨by decide +kernel, by decide +kernel⟩, List.mem_of_getElem? (i := 7) (by decide +kernel), List.mem_of_getElem? (i := 255) (by decide +kernel), List.mem_of_getElem? (i := 256) (by decide +kernel)⟩
theorem lw_p24 : lw_okq (⟨"CarDesk", "outcomeOfCall", "(ILCarDesk$Thing;J)J"⟩, 14) := ⟨⟨by decide +kernel, by decide +kernel⟩, List.mem_of_getElem? (i := 7) (by decide +kernel), List.mem_of_getElem? (i := 259) (by decide +kernel), List.mem_of_getElem? (i := 260) (by decide +kernel)⟩
theorem lw_p25 : lw_okq (⟨"CarDesk$Thing", "comparedWith", "(LCarDesk$Thing;)I"⟩, 5) := ⟨⟨by decide +kernel, by decide +kernel⟩, List.mem_of_getElem? (i := 162) (by decide +kernel), List.mem_of_getElem? (i := 263) (by decide +kernel), List.mem_of_getElem? (i := 264) (by decide +kernel)⟩
theorem lw_p26 : lw_okq (⟨"CarDesk", "changeByCall", "(ILCarDesk$Thing;J)V"⟩, 14) := ⟨⟨by decide +kernel, by decide +kernel⟩, List.mem_of_getElem? (i := 7) (by decide +kernel), List.mem_of_getElem? (i := 267) (by decide +kernel), List.mem_of_getElem? (i := 268) (by decide +kernel)⟩
theorem lw_p27 : lw_okq (⟨"CarDesk", "steppedState", "(ILCarDesk$Thing;J)J"⟩, 14) := ⟨⟨by decide +kernel, by decide +kernel⟩, List.mem_of_getElem? (i := 7) (by decide +kernel), List.mem_of_getElem? (i := 271) (by decide +kernel), List.mem_of_getElem? (i := 272) (by decide +kernel)⟩
theorem lw_p28 : lw_okq (⟨"CarDesk$Thing", "stateOfSource", "()J"⟩, 5) := ⟨⟨by decide +kernel, by decide +kernel⟩, List.mem_of_getElem? (i := 162) (by decide +kernel), List.mem_of_getElem? (i := 280) (by decide +kernel), List.mem_of_getElem? (i := 281) (by decide +kernel)⟩
theorem lw_p29 : lw_okq (⟨"CarDesk$Shelf", "sumOfStates", "()J"⟩, 2) := ⟨⟨by decide +kernel, by decide +kernel⟩, List.mem_of_getElem? (i := 35) (by decide +kernel), List.mem_of_getElem? (i := 284) (by decide +kernel), List.mem_of_getElem? (i := 285) (by decide +kernel)⟩
theorem lw_p30 : lw_okq (⟨"CarDesk$Thing", "leave", "()V"⟩, 5) := ⟨⟨by decide +kernel, by decide +kernel⟩, List.mem_of_getElem? (i := 162) (by decide +kernel), List.mem_of_getElem? (i := 296) (by decide +kernel), List.mem_of_getElem? (i := 297) (by decide +kernel)⟩
theorem lw_p31 : lw_okq (⟨"CarDeskModel", "refuse", "(I)I"⟩, 20) := ⟨⟨by decide +kernel, by decide +kernel⟩, List.mem_of_getElem? (i := 309) (by decide +kernel), List.mem_of_getElem? (i := 381) (by decide +kernel), List.mem_of_getElem? (i := 382) (by decide +kernel)⟩
def lw_privs_2 : List (MethodName × Nat) := [(⟨"CarDesk$Shelf", "put", "(LCarDesk$Thing;)V"⟩, 2), (⟨"CarDesk", "emptyTrayOf", "(I)V"⟩, 14), (⟨"CarDesk$Tray", "empty", "()V"⟩, 3), (⟨"CarDesk", "thingForCall", "(IJ)LCarDesk$Thing;"⟩, 14), (⟨"CarDesk", "thingOf", "(J)LCarDesk$Thing;"⟩, 14), (⟨"CarDesk", "refusalOfCall", "(ILCarDesk$Thing;J)I"⟩, 14), (⟨"CarDesk$Thing", "isInUse", "()Z"⟩, 5), (⟨"CarDesk", "tellFailed", "(III)V"⟩, 14), (⟨"CarDesk", "outcomeOfCall", "(ILCarDesk$Thing;J)J"⟩, 14), (⟨"CarDesk$Thing", "comparedWith", "(LCarDesk$Thing;)I"⟩, 5), (⟨"CarDesk", "changeByCall", "(ILCarDesk$Thing;J)V"⟩, 14), (⟨"CarDesk", "steppedState", "(ILCarDesk$Thing;J)J"⟩, 14), (⟨"CarDesk$Thing", "stateOfSource", "()J"⟩, 5), (⟨"CarDesk$Shelf", "sumOfStates", "()J"⟩, 2), (⟨"CarDesk$Thing", "leave", "()V"⟩, 5), (⟨"CarDeskModel", "refuse", "(I)I"⟩, 20)]
theorem lw_r2 : ∀ q ∈ lw_privs_2, lw_okq q := List.forall_mem_cons.mpr ⟨lw_p16, List.forall_mem_cons.mpr ⟨lw_p17, List.forall_mem_cons.mpr ⟨lw_p18, List.forall_mem_cons.mpr ⟨lw_p19, List.forall_mem_cons.mpr ⟨lw_p20, List.forall_mem_cons.mpr ⟨lw_p21, List.forall_mem_cons.mpr ⟨lw_p22, List.forall_mem_cons.mpr ⟨lw_p23, List.forall_mem_cons.mpr ⟨lw_p24, List.forall_mem_cons.mpr ⟨lw_p25, List.forall_mem_cons.mpr ⟨lw_p26, List.forall_mem_cons.mpr ⟨lw_p27, List.forall_mem_cons.mpr ⟨lw_p28, List.forall_mem_cons.mpr ⟨lw_p29, List.forall_mem_cons.mpr ⟨lw_p30, List.forall_mem_cons.mpr ⟨lw_p31, fun _ h => absurd h List.not_mem_nil⟩⟩⟩⟩⟩⟩⟩⟩⟩⟩⟩⟩⟩⟩⟩⟩
theorem lw_p32 : lw_okq (⟨"CarDeskModel", "latest", "(I)I"⟩, 20) := ⟨⟨by decide +kernel, by decide +kernel⟩, List.mem_of_getElem? (i := 309) (by decide +kernel), List.mem_of_getElem? (i := 408) (by decide +kernel), List.mem_of_getElem? (i := 409) (by decide +kernel)⟩
theorem lw_p33 : lw_okq (⟨"CarDeskModel", "stateOfLetters", "()J"⟩, 20) := ⟨⟨by decide +kernel, by decide +kernel⟩, List.mem_of_getElem? (i := 309) (by decide +kernel), List.mem_of_getElem? (i := 412) (by decide +kernel), List.mem_of_getElem? (i := 413) (by decide +kernel)⟩
theorem lw_p34 : lw_okq (⟨"CarDeskModel", "stateOfBits", "()J"⟩, 20) := ⟨⟨by decide +kernel, by decide +kernel⟩, List.mem_of_getElem? (i := 309) (by decide +kernel), List.mem_of_getElem? (i := 418) (by decide +kernel), List.mem_of_getElem? (i := 419) (by decide +kernel)⟩
theorem lw_p35 : lw_okq (⟨"CarDeskModel", "stateOfBytes", "()J"⟩, 20) := ⟨⟨by decide +kernel, by decide +kernel⟩, List.mem_of_getElem? (i := 309) (by decide +kernel), List.mem_of_getElem? (i := 423) (by decide +kernel), List.mem_of_getElem? (i := 424) (by decide +kernel)⟩
theorem lw_p36 : lw_okq (⟨"CarDeskModel", "isUsed", "(I)Z"⟩, 20) := ⟨⟨by decide +kernel, by decide +kernel⟩, List.mem_of_getElem? (i := 309) (by decide +kernel), List.mem_of_getElem? (i := 434) (by decide +kernel), List.mem_of_getElem? (i := 435) (by decide +kernel)⟩
theorem lw_p37 : lw_okq (⟨"CarDeskModel", "why", "(IIJ)I"⟩, 20) := ⟨⟨by decide +kernel, by decide +kernel⟩, List.mem_of_getElem? (i := 309) (by decide +kernel), List.mem_of_getElem? (i := 442) (by decide +kernel), List.mem_of_getElem? (i := 443) (by decide +kernel)⟩
theorem lw_p38 : lw_okq (⟨"CarDeskModel", "isThere", "(JI)Z"⟩, 20) := ⟨⟨by decide +kernel, by decide +kernel⟩, List.mem_of_getElem? (i := 309) (by decide +kernel), List.mem_of_getElem? (i := 446) (by decide +kernel), List.mem_of_getElem? (i := 447) (by decide +kernel)⟩
theorem lw_p39 : lw_okq (⟨"CarDeskModel", "answerOf", "(IIJ)J"⟩, 20) := ⟨⟨by decide +kernel, by decide +kernel⟩, List.mem_of_getElem? (i := 309) (by decide +kernel), List.mem_of_getElem? (i := 452) (by decide +kernel), List.mem_of_getElem? (i := 453) (by decide +kernel)⟩
theorem lw_p40 : lw_okq (⟨"CarDeskModel", "stepped", "(IIJ)J"⟩, 20) := ⟨⟨by decide +kernel, by decide +kernel⟩, List.mem_of_getElem? (i := 309) (by decide +kernel), List.mem_of_getElem? (i := 457) (by decide +kernel), List.mem_of_getElem? (i := 458) (by decide +kernel)⟩
def lw_privs_3 : List (MethodName × Nat) := [(⟨"CarDeskModel", "latest", "(I)I"⟩, 20), (⟨"CarDeskModel", "stateOfLetters", "()J"⟩, 20), (⟨"CarDeskModel", "stateOfBits", "()J"⟩, 20), (⟨"CarDeskModel", "stateOfBytes", "()J"⟩, 20), (⟨"CarDeskModel", "isUsed", "(I)Z"⟩, 20), (⟨"CarDeskModel", "why", "(IIJ)I"⟩, 20), (⟨"CarDeskModel", "isThere", "(JI)Z"⟩, 20), (⟨"CarDeskModel", "answerOf", "(IIJ)J"⟩, 20), (⟨"CarDeskModel", "stepped", "(IIJ)J"⟩, 20)]
theorem lw_r3 : ∀ q ∈ lw_privs_3, lw_okq q := List.forall_mem_cons.mpr ⟨lw_p32, List.forall_mem_cons.mpr ⟨lw_p33, List.forall_mem_cons.mpr ⟨lw_p34, List.forall_mem_cons.mpr ⟨lw_p35, List.forall_mem_cons.mpr ⟨lw_p36, List.forall_mem_cons.mpr ⟨lw_p37, List.forall_mem_cons.mpr ⟨lw_p38, List.forall_mem_cons.mpr ⟨lw_p39, List.forall_mem_cons.mpr ⟨lw_p40, fun _ h => absurd h List.not_mem_nil⟩⟩⟩⟩⟩⟩⟩⟩⟩
def lw_privs : List (MethodName × Nat) := lw_privs_1 ++ (lw_privs_2 ++ (lw_privs_3))
def lw_tbl : List Cond := k2_sels lw_privs ++ tables_1
theorem lw_privs_ok : ∀ q ∈ lw_privs, lw_okq q := by
  show ∀ q ∈ lw_privs_1 ++ (lw_privs_2 ++ (lw_privs_3)), lw_okq q
  exact List.forall_mem_append.mpr ⟨lw_r1, List.forall_mem_append.mpr ⟨lw_r2, lw_r3⟩⟩
end
section
def R_CarDesk : String := "CarDesk"
def F_CarDesk : u_T := fun k => match k with
  | 0 => ("CarDesk", "letters", "LCarDesk$Tray;", true)
  | 1 => ("CarDesk", "bits", "LCarDesk$Tray;", true)
  | 2 => ("CarDesk", "bytes", "LCarDesk$Tray;", true)
  | 3 => ("CarDesk", "shelves", "[LCarDesk$Shelf;", true)
  | 4 => ("CarDesk", "answers", "[J", true)
  | 5 => ("CarDesk", "failures", "[I", true)
  | 6 => ("CarDesk", "refused", "I", false)
  | 7 => ("CarDesk", "failed", "I", false)
  | 8 => ("CarDesk", "lastFailure", "I", false)
  | 9 => ("CarDesk", "lastFailedCall", "I", false)
  | 10 => ("CarDesk", "lastFailedNumber", "I", false)
  | 11 => ("CarDesk", "answered", "I", false)
  | 12 => ("CarDesk", "thingsMade", "I", false)
  | _ => ("CarDesk", "noted", "I", false)
def t_CarDesk : Nat → FieldType := fun k => match k with
  | 0 => .object "CarDesk$Tray"
  | 1 => .object "CarDesk$Tray"
  | 2 => .object "CarDesk$Tray"
  | 3 => .array (.object "CarDesk$Shelf")
  | 4 => .array .long
  | 5 => .array .int
  | 6 => .int
  | 7 => .int
  | 8 => .int
  | 9 => .int
  | 10 => .int
  | 11 => .int
  | 12 => .int
  | _ => .int
abbrev w_CarDesk : List Cond := u_ws R_CarDesk F_CarDesk 14
theorem n_CarDesk : ∀ a, a < 14 → ∀ b, b < 14 → a ≠ b → (F_CarDesk a).2.1 ≠ (F_CarDesk b).2.1 := by decide +kernel
theorem t_CarDesk_ok : ∀ k, k < 14 → parseFieldDescriptor (F_CarDesk k).2.2.1 = some (t_CarDesk k) := by decide +kernel
def R_Tray : String := "CarDesk$Tray"
def F_Tray : u_T := fun k => match k with
  | 0 => ("CarDesk$Tray", "most", "I", true)
  | 1 => ("CarDesk$Tray", "values", "[I", true)
  | _ => ("CarDesk$Tray", "count", "I", false)
def t_Tray : Nat → FieldType := fun k => match k with
  | 0 => .int
  | 1 => .array .int
  | _ => .int
abbrev w_Tray : List Cond := u_ws R_Tray F_Tray 3
theorem n_Tray : ∀ a, a < 3 → ∀ b, b < 3 → a ≠ b → (F_Tray a).2.1 ≠ (F_Tray b).2.1 := by decide +kernel
theorem t_Tray_ok : ∀ k, k < 3 → parseFieldDescriptor (F_Tray k).2.2.1 = some (t_Tray k) := by decide +kernel
def R_Shelf : String := "CarDesk$Shelf"
def F_Shelf : u_T := fun k => match k with
  | 0 => ("CarDesk$Shelf", "things", "[LCarDesk$Thing;", true)
  | _ => ("CarDesk$Shelf", "made", "I", false)
def t_Shelf : Nat → FieldType := fun k => match k with
  | 0 => .array (.object "CarDesk$Thing")
  | _ => .int
abbrev w_Shelf : List Cond := u_ws R_Shelf F_Shelf 2
theorem n_Shelf : ∀ a, a < 2 → ∀ b, b < 2 → a ≠ b → (F_Shelf a).2.1 ≠ (F_Shelf b).2.1 := by decide +kernel
theorem t_Shelf_ok : ∀ k, k < 2 → parseFieldDescriptor (F_Shelf k).2.2.1 = some (t_Shelf k) := by decide +kernel
def R_Thing : String := "CarDesk$Thing"
def F_Thing : u_T := fun k => match k with
  | 0 => ("CarDesk$Thing", "source", "LCarDesk$Thing;", true)
  | 1 => ("CarDesk$Thing", "state", "J", false)
  | 2 => ("CarDesk$Thing", "turns", "I", false)
  | 3 => ("CarDesk$Thing", "users", "I", false)
  | _ => ("CarDesk$Thing", "there", "Z", false)
def t_Thing : Nat → FieldType := fun k => match k with
  | 0 => .object "CarDesk$Thing"
  | 1 => .long
  | 2 => .int
  | 3 => .int
  | _ => .boolean
abbrev w_Thing : List Cond := u_ws R_Thing F_Thing 5
theorem n_Thing : ∀ a, a < 5 → ∀ b, b < 5 → a ≠ b → (F_Thing a).2.1 ≠ (F_Thing b).2.1 := by decide +kernel
theorem t_Thing_ok : ∀ k, k < 5 → parseFieldDescriptor (F_Thing k).2.2.1 = some (t_Thing k) := by decide +kernel
def R_Model : String := "CarDeskModel"
def F_Model : u_T := fun k => match k with
  | 0 => ("CarDeskModel", "code", "I", false)
  | 1 => ("CarDeskModel", "letters", "[I", true)
  | 2 => ("CarDeskModel", "bits", "[I", true)
  | 3 => ("CarDeskModel", "bytes", "[I", true)
  | 4 => ("CarDeskModel", "collected", "[I", true)
  | 5 => ("CarDeskModel", "answers", "[J", true)
  | 6 => ("CarDeskModel", "failures", "[I", true)
  | 7 => ("CarDeskModel", "there", "[Z", true)
  | 8 => ("CarDeskModel", "state", "[J", true)
  | 9 => ("CarDeskModel", "turns", "[I", true)
  | 10 => ("CarDeskModel", "of", "[I", true)
  | 11 => ("CarDeskModel", "made", "[I", true)
  | 12 => ("CarDeskModel", "refused", "I", false)
  | 13 => ("CarDeskModel", "failed", "I", false)
  | 14 => ("CarDeskModel", "lastFailure", "I", false)
  | 15 => ("CarDeskModel", "lastCall", "I", false)
  | 16 => ("CarDeskModel", "lastNumber", "I", false)
  | 17 => ("CarDeskModel", "answered", "I", false)
  | 18 => ("CarDeskModel", "things", "I", false)
  | _ => ("CarDeskModel", "noted", "I", false)
def t_Model : Nat → FieldType := fun k => match k with
  | 0 => .int
  | 1 => .array .int
  | 2 => .array .int
  | 3 => .array .int
  | 4 => .array .int
  | 5 => .array .long
  | 6 => .array .int
  | 7 => .array .boolean
  | 8 => .array .long
  | 9 => .array .int
  | 10 => .array .int
  | 11 => .array .int
  | 12 => .int
  | 13 => .int
  | 14 => .int
  | 15 => .int
  | 16 => .int
  | 17 => .int
  | 18 => .int
  | _ => .int
abbrev w_Model : List Cond := u_ws R_Model F_Model 20
theorem n_Model : ∀ a, a < 20 → ∀ b, b < 20 → a ≠ b → (F_Model a).2.1 ≠ (F_Model b).2.1 := by decide +kernel
theorem t_Model_ok : ∀ k, k < 20 → parseFieldDescriptor (F_Model k).2.2.1 = some (t_Model k) := by decide +kernel
abbrev classes : List vw_C := [(R_CarDesk, F_CarDesk, 14), (R_Tray, F_Tray, 3), (R_Shelf, F_Shelf, 2), (R_Thing, F_Thing, 5), (R_Model, F_Model, 20)]
abbrev b_Tray_isFull : ByteArray := prog_4_method_2_code
def y_Tray_isFull : MethodName := ⟨R_Tray, "isFull", "()Z"⟩
abbrev b_Tray_put : ByteArray := prog_4_method_3_code
def y_Tray_put : MethodName := ⟨R_Tray, "put", "(I)V"⟩
abbrev b_Tray_empty : ByteArray := prog_4_method_4_code
def y_Tray_empty : MethodName := ⟨R_Tray, "empty", "()V"⟩
abbrev b_Tray_hash : ByteArray := prog_4_method_5_code
def y_Tray_hash : MethodName := ⟨R_Tray, "hash", "()J"⟩
abbrev b_Tray_sum : ByteArray := prog_4_method_6_code
def y_Tray_sum : MethodName := ⟨R_Tray, "sum", "()I"⟩
abbrev b_Tray_checksum : ByteArray := prog_4_method_8_code
def y_Tray_checksum : MethodName := ⟨R_Tray, "checksum", "()J"⟩
abbrev b_Tray_changes : ByteArray := prog_4_method_7_code
def y_Tray_changes : MethodName := ⟨R_Tray, "changes", "()I"⟩
abbrev b_Thing_isInUse : ByteArray := prog_3_method_2_code
def y_Thing_isInUse : MethodName := ⟨R_Thing, "isInUse", "()Z"⟩
abbrev b_Thing_stateOfSource : ByteArray := prog_3_method_4_code
def y_Thing_stateOfSource : MethodName := ⟨R_Thing, "stateOfSource", "()J"⟩
abbrev b_Thing_leave : ByteArray := prog_3_method_3_code
def y_Thing_leave : MethodName := ⟨R_Thing, "leave", "()V"⟩
abbrev b_Thing_comparedWith : ByteArray := prog_3_method_5_code
def y_Thing_comparedWith : MethodName := ⟨R_Thing, "comparedWith", "(LCarDesk$Thing;)I"⟩
abbrev b_Shelf_isFull : ByteArray := prog_2_method_2_code
def y_Shelf_isFull : MethodName := ⟨R_Shelf, "isFull", "()Z"⟩
abbrev b_Shelf_put : ByteArray := prog_2_method_3_code
def y_Shelf_put : MethodName := ⟨R_Shelf, "put", "(LCarDesk$Thing;)V"⟩
abbrev b_Shelf_at : ByteArray := prog_2_method_4_code
def y_Shelf_at : MethodName := ⟨R_Shelf, "at", "(I)LCarDesk$Thing;"⟩
abbrev b_Shelf_countThere : ByteArray := prog_2_method_6_code
def y_Shelf_countThere : MethodName := ⟨R_Shelf, "countThere", "()I"⟩
abbrev b_Shelf_sumOfStates : ByteArray := prog_2_method_7_code
def y_Shelf_sumOfStates : MethodName := ⟨R_Shelf, "sumOfStates", "()J"⟩
abbrev b_Shelf_newest : ByteArray := prog_2_method_5_code
def y_Shelf_newest : MethodName := ⟨R_Shelf, "newest", "()LCarDesk$Thing;"⟩
abbrev b_Thing_init : ByteArray := prog_3_method_1_code
def y_Thing_init : MethodName := ⟨R_Thing, "<init>", "(JLCarDesk$Thing;)V"⟩
abbrev b_CarDesk_refuse : ByteArray := prog_1_method_11_code
def y_CarDesk_refuse : MethodName := ⟨R_CarDesk, "refuse", "(I)I"⟩
abbrev b_CarDesk_tellFailed : ByteArray := prog_1_method_12_code
def y_CarDesk_tellFailed : MethodName := ⟨R_CarDesk, "tellFailed", "(III)V"⟩
abbrev b_CarDesk_isKind : ByteArray := prog_1_method_13_code
def y_CarDesk_isKind : MethodName := ⟨R_CarDesk, "isKind", "(I)Z"⟩
abbrev b_CarDesk_isCall : ByteArray := prog_1_method_14_code
def y_CarDesk_isCall : MethodName := ⟨R_CarDesk, "isCall", "(I)Z"⟩
abbrev b_CarDesk_isArgument : ByteArray := prog_1_method_15_code
def y_CarDesk_isArgument : MethodName := ⟨R_CarDesk, "isArgument", "(J)Z"⟩
abbrev b_CarDesk_turnedLeft : ByteArray := prog_1_method_29_code
def y_CarDesk_turnedLeft : MethodName := ⟨R_CarDesk, "turnedLeft", "(JI)J"⟩
abbrev b_CarDesk_trayOfSort : ByteArray := prog_1_method_16_code
def y_CarDesk_trayOfSort : MethodName := ⟨R_CarDesk, "trayOfSort", "(I)LCarDesk$Tray;"⟩
abbrev b_CarDesk_trayOfKind : ByteArray := prog_1_method_17_code
def y_CarDesk_trayOfKind : MethodName := ⟨R_CarDesk, "trayOfKind", "(I)LCarDesk$Tray;"⟩
abbrev b_CarDesk_canBeMade : ByteArray := prog_1_method_18_code
def y_CarDesk_canBeMade : MethodName := ⟨R_CarDesk, "canBeMade", "(I)Z"⟩
abbrev b_CarDesk_sourceOf : ByteArray := prog_1_method_19_code
def y_CarDesk_sourceOf : MethodName := ⟨R_CarDesk, "sourceOf", "(I)LCarDesk$Thing;"⟩
abbrev b_CarDesk_firstState : ByteArray := prog_1_method_20_code
def y_CarDesk_firstState : MethodName := ⟨R_CarDesk, "firstState", "(ILCarDesk$Thing;)J"⟩
abbrev b_CarDesk_emptyTrayOf : ByteArray := prog_1_method_21_code
def y_CarDesk_emptyTrayOf : MethodName := ⟨R_CarDesk, "emptyTrayOf", "(I)V"⟩
abbrev b_CarDesk_thingOf : ByteArray := prog_1_method_22_code
def y_CarDesk_thingOf : MethodName := ⟨R_CarDesk, "thingOf", "(J)LCarDesk$Thing;"⟩
abbrev b_CarDesk_thingForCall : ByteArray := prog_1_method_23_code
def y_CarDesk_thingForCall : MethodName := ⟨R_CarDesk, "thingForCall", "(IJ)LCarDesk$Thing;"⟩
abbrev b_CarDesk_refusalOfStep : ByteArray := prog_1_method_25_code
def y_CarDesk_refusalOfStep : MethodName := ⟨R_CarDesk, "refusalOfStep", "(ILCarDesk$Thing;)I"⟩
abbrev b_CarDesk_refusalOfCall : ByteArray := prog_1_method_24_code
def y_CarDesk_refusalOfCall : MethodName := ⟨R_CarDesk, "refusalOfCall", "(ILCarDesk$Thing;J)I"⟩
abbrev b_CarDesk_steppedState : ByteArray := prog_1_method_28_code
def y_CarDesk_steppedState : MethodName := ⟨R_CarDesk, "steppedState", "(ILCarDesk$Thing;J)J"⟩
abbrev b_CarDesk_outcomeOfCall : ByteArray := prog_1_method_26_code
def y_CarDesk_outcomeOfCall : MethodName := ⟨R_CarDesk, "outcomeOfCall", "(ILCarDesk$Thing;J)J"⟩
abbrev b_CarDesk_changeByCall : ByteArray := prog_1_method_27_code
def y_CarDesk_changeByCall : MethodName := ⟨R_CarDesk, "changeByCall", "(ILCarDesk$Thing;J)V"⟩
abbrev b_CarDesk_collect : ByteArray := prog_1_method_2_code
def y_CarDesk_collect : MethodName := ⟨R_CarDesk, "collect", "(IJ)I"⟩
abbrev b_CarDesk_answer : ByteArray := prog_1_method_3_code
def y_CarDesk_answer : MethodName := ⟨R_CarDesk, "answer", "(IJ)I"⟩
abbrev b_CarDesk_fails : ByteArray := prog_1_method_4_code
def y_CarDesk_fails : MethodName := ⟨R_CarDesk, "fails", "(II)I"⟩
abbrev b_CarDesk_call : ByteArray := prog_1_method_6_code
def y_CarDesk_call : MethodName := ⟨R_CarDesk, "call", "(IIJ)J"⟩
abbrev b_CarDesk_told : ByteArray := prog_1_method_7_code
def y_CarDesk_told : MethodName := ⟨R_CarDesk, "told", "(I)I"⟩
abbrev b_CarDesk_drop : ByteArray := prog_1_method_8_code
def y_CarDesk_drop : MethodName := ⟨R_CarDesk, "drop", "(I)Z"⟩
abbrev b_CarDesk_numbers : ByteArray := prog_1_method_9_code
def y_CarDesk_numbers : MethodName := ⟨R_CarDesk, "numbers", "(I)I"⟩
abbrev b_CarDesk_again : ByteArray := prog_1_method_10_code
def y_CarDesk_again : MethodName := ⟨R_CarDesk, "again", "(IIJ)J"⟩
abbrev b_CarDesk_make : ByteArray := prog_1_method_5_code
def y_CarDesk_make : MethodName := ⟨R_CarDesk, "make", "(I)I"⟩
/-- the words that every contract takes along: all of the tables that a call may carry -/
def cd_WA : List Cond := lw_tbl.filter goodWord
theorem i_CarDesk : ∀ w ∈ w_CarDesk, w ∈ cd_WA := by decide +kernel
theorem i_Tray : ∀ w ∈ w_Tray, w ∈ cd_WA := by decide +kernel
theorem i_Shelf : ∀ w ∈ w_Shelf, w ∈ cd_WA := by decide +kernel
theorem i_Thing : ∀ w ∈ w_Thing, w ∈ cd_WA := by decide +kernel
theorem i_Model : ∀ w ∈ w_Model, w ∈ cd_WA := by decide +kernel
def cd_nest : List Cond := [.fieldLinkNest R_Shelf 21 "CarDesk$Thing" "there" "Z" "CarDesk", .fieldLinkNest R_Shelf 29 "CarDesk$Thing" "state" "J" "CarDesk", .methodLinkNest R_CarDesk 165 y_Shelf_newest "CarDesk", .fieldLinkNest R_CarDesk 82 "CarDesk$Tray" "count" "I" "CarDesk", .methodLinkNest R_CarDesk 169 y_Tray_hash "CarDesk", .fieldLinkNest R_CarDesk 173 "CarDesk$Thing" "state" "J" "CarDesk", .methodLinkNest R_CarDesk 179 y_Tray_sum "CarDesk", .methodLinkNest R_CarDesk 182 y_Tray_changes "CarDesk", .methodLinkNest R_CarDesk 185 y_Tray_checksum "CarDesk", .methodLinkNest R_CarDesk 152 y_Shelf_countThere "CarDesk", .methodLinkNest R_CarDesk 188 y_Tray_empty "CarDesk", .methodLinkNest R_CarDesk 193 y_Shelf_at "CarDesk", .fieldLinkNest R_CarDesk 202 "CarDesk$Thing" "turns" "I" "CarDesk", .methodLinkNest R_CarDesk 146 y_Thing_isInUse "CarDesk", .methodLinkNest R_CarDesk 220 y_Thing_stateOfSource "CarDesk", .methodLinkNest R_CarDesk 223 y_Shelf_sumOfStates "CarDesk", .methodLinkNest R_CarDesk 205 y_Thing_comparedWith "CarDesk", .fieldLinkNest R_CarDesk 72 "CarDesk$Tray" "most" "I" "CarDesk", .methodLinkNest R_CarDesk 75 y_Tray_isFull "CarDesk", .methodLinkNest R_CarDesk 79 y_Tray_put "CarDesk", .methodLinkNest R_CarDesk 149 y_Thing_leave "CarDesk", .methodLinkNest R_CarDesk 99 y_Shelf_isFull "CarDesk", .methodLinkNest R_CarDesk 110 y_Thing_init "CarDesk", .methodLinkNest R_CarDesk 113 y_Shelf_put "CarDesk", .fieldLinkNest R_CarDesk 119 "CarDesk$Shelf" "made" "I" "CarDesk"]
abbrev cd_aos : List String := [R_Shelf, R_Thing]
end
section
theorem mw_0 : (.fieldLink R_Tray 15 "CarDesk$Tray" "count" "I" : Cond) ∈ cd_WA := List.mem_filter.mpr ⟨List.mem_append_right _ (List.mem_of_getElem? (i := 23) (by decide +kernel)), by decide +kernel⟩
theorem mw_1 : (.fieldLink R_Tray 9 "CarDesk$Tray" "values" "[I" : Cond) ∈ cd_WA := List.mem_filter.mpr ⟨List.mem_append_right _ (List.mem_of_getElem? (i := 22) (by decide +kernel)), by decide +kernel⟩
theorem mw_2 : (.constantLong R_Tray 24 31 : Cond) ∈ cd_WA := List.mem_filter.mpr ⟨List.mem_append_right _ (List.mem_of_getElem? (i := 172) (by decide +kernel)), by decide +kernel⟩
theorem mw_3 : (.constantLong R_Tray 22 7 : Cond) ∈ cd_WA := List.mem_filter.mpr ⟨List.mem_append_right _ (List.mem_of_getElem? (i := 171) (by decide +kernel)), by decide +kernel⟩
theorem mw_4 : (.constantLong R_Tray 27 65536 : Cond) ∈ cd_WA := List.mem_filter.mpr ⟨List.mem_append_right _ (List.mem_of_getElem? (i := 187) (by decide +kernel)), by decide +kernel⟩
theorem mw_5 : (.constant R_Tray 26 65521 : Cond) ∈ cd_WA := List.mem_filter.mpr ⟨List.mem_append_right _ (List.mem_of_getElem? (i := 186) (by decide +kernel)), by decide +kernel⟩
theorem mw_6 : (.fieldLink R_Thing 13 "CarDesk$Thing" "users" "I" : Cond) ∈ cd_WA := List.mem_filter.mpr ⟨List.mem_append_right _ (List.mem_of_getElem? (i := 202) (by decide +kernel)), by decide +kernel⟩
theorem mw_7 : (.fieldLink R_Thing 24 "CarDesk$Thing" "source" "LCarDesk$Thing;" : Cond) ∈ cd_WA := List.mem_filter.mpr ⟨List.mem_append_right _ (List.mem_of_getElem? (i := 196) (by decide +kernel)), by decide +kernel⟩
theorem mw_8 : (.fieldLink R_Thing 20 "CarDesk$Thing" "state" "J" : Cond) ∈ cd_WA := List.mem_filter.mpr ⟨List.mem_append_right _ (List.mem_of_getElem? (i := 197) (by decide +kernel)), by decide +kernel⟩
theorem mw_9 : (.fieldLink R_Thing 16 "CarDesk$Thing" "there" "Z" : Cond) ∈ cd_WA := List.mem_filter.mpr ⟨List.mem_append_right _ (List.mem_of_getElem? (i := 203) (by decide +kernel)), by decide +kernel⟩
theorem mw_10 : (.fieldLink R_Shelf 17 "CarDesk$Shelf" "made" "I" : Cond) ∈ cd_WA := List.mem_filter.mpr ⟨List.mem_append_right _ (List.mem_of_getElem? (i := 43) (by decide +kernel)), by decide +kernel⟩
theorem mw_11 : (.fieldLink R_Shelf 11 "CarDesk$Shelf" "things" "[LCarDesk$Thing;" : Cond) ∈ cd_WA := List.mem_filter.mpr ⟨List.mem_append_right _ (List.mem_of_getElem? (i := 42) (by decide +kernel)), by decide +kernel⟩
theorem mw_12 : (.code y_Shelf_at b_Shelf_at 3 (some (.object "CarDesk$Thing")) : Cond) ∈ cd_WA := List.mem_filter.mpr ⟨List.mem_append_right _ (List.mem_of_getElem? (i := 152) (by decide +kernel)), by decide +kernel⟩
theorem mw_13 : (.initialized R_Shelf : Cond) ∈ cd_WA := List.mem_filter.mpr ⟨List.mem_append_right _ (List.mem_of_getElem? (i := 3) (by decide +kernel)), by decide +kernel⟩
theorem mw_14 : (.instanceMethod y_Shelf_at : Cond) ∈ cd_WA := List.mem_filter.mpr ⟨List.mem_append_right _ (List.mem_of_getElem? (i := 151) (by decide +kernel)), by decide +kernel⟩
theorem mw_15 : (.selects R_Shelf y_Shelf_at y_Shelf_at : Cond) ∈ cd_WA := List.mem_filter.mpr ⟨List.mem_append_left _ (List.mem_of_getElem? (i := 7) (by decide +kernel)), by decide +kernel⟩
theorem mw_16 : (.methodLink R_Shelf 25 y_Shelf_at : Cond) ∈ cd_WA := List.mem_filter.mpr ⟨List.mem_append_right _ (List.mem_of_getElem? (i := 149) (by decide +kernel)), by decide +kernel⟩
theorem mw_17 : (.methodLink R_Thing 1 objectInit : Cond) ∈ cd_WA := List.mem_filter.mpr ⟨List.mem_append_right _ (List.mem_of_getElem? (i := 195) (by decide +kernel)), by decide +kernel⟩
theorem mw_18 : (.instanceMethod objectInit : Cond) ∈ cd_WA := List.mem_filter.mpr ⟨List.mem_append_right _ (List.mem_of_getElem? (i := 12) (by decide +kernel)), by decide +kernel⟩
theorem mw_19 : (.code objectInit ⟨#[0xb1]⟩ 1 none : Cond) ∈ cd_WA := List.mem_filter.mpr ⟨List.mem_append_right _ (List.mem_of_getElem? (i := 13) (by decide +kernel)), by decide +kernel⟩
theorem mw_20 : (.fieldLink R_Thing 7 "CarDesk$Thing" "turns" "I" : Cond) ∈ cd_WA := List.mem_filter.mpr ⟨List.mem_append_right _ (List.mem_of_getElem? (i := 200) (by decide +kernel)), by decide +kernel⟩
theorem mw_21 : (.fieldLink R_CarDesk 38 "CarDesk" "refused" "I" : Cond) ∈ cd_WA := List.mem_filter.mpr ⟨List.mem_append_right _ (List.mem_of_getElem? (i := 57) (by decide +kernel)), by decide +kernel⟩
theorem mw_22 : (.fieldLink R_CarDesk 42 "CarDesk" "failed" "I" : Cond) ∈ cd_WA := List.mem_filter.mpr ⟨List.mem_append_right _ (List.mem_of_getElem? (i := 58) (by decide +kernel)), by decide +kernel⟩
theorem mw_23 : (.fieldLink R_CarDesk 45 "CarDesk" "lastFailure" "I" : Cond) ∈ cd_WA := List.mem_filter.mpr ⟨List.mem_append_right _ (List.mem_of_getElem? (i := 59) (by decide +kernel)), by decide +kernel⟩
theorem mw_24 : (.fieldLink R_CarDesk 48 "CarDesk" "lastFailedCall" "I" : Cond) ∈ cd_WA := List.mem_filter.mpr ⟨List.mem_append_right _ (List.mem_of_getElem? (i := 60) (by decide +kernel)), by decide +kernel⟩
theorem mw_25 : (.fieldLink R_CarDesk 51 "CarDesk" "lastFailedNumber" "I" : Cond) ∈ cd_WA := List.mem_filter.mpr ⟨List.mem_append_right _ (List.mem_of_getElem? (i := 61) (by decide +kernel)), by decide +kernel⟩
theorem mw_26 : (.constantLong R_CarDesk 158 (-1000000000) : Cond) ∈ cd_WA := List.mem_filter.mpr ⟨List.mem_append_right _ (List.mem_of_getElem? (i := 124) (by decide +kernel)), by decide +kernel⟩
theorem mw_27 : (.constantLong R_CarDesk 160 1000000000 : Cond) ∈ cd_WA := List.mem_filter.mpr ⟨List.mem_append_right _ (List.mem_of_getElem? (i := 125) (by decide +kernel)), by decide +kernel⟩
theorem mw_28 : (.fieldLink R_CarDesk 12 "CarDesk" "letters" "LCarDesk$Tray;" : Cond) ∈ cd_WA := List.mem_filter.mpr ⟨List.mem_append_right _ (List.mem_of_getElem? (i := 51) (by decide +kernel)), by decide +kernel⟩
theorem mw_29 : (.fieldLink R_CarDesk 18 "CarDesk" "bits" "LCarDesk$Tray;" : Cond) ∈ cd_WA := List.mem_filter.mpr ⟨List.mem_append_right _ (List.mem_of_getElem? (i := 52) (by decide +kernel)), by decide +kernel⟩
theorem mw_30 : (.fieldLink R_CarDesk 21 "CarDesk" "bytes" "LCarDesk$Tray;" : Cond) ∈ cd_WA := List.mem_filter.mpr ⟨List.mem_append_right _ (List.mem_of_getElem? (i := 53) (by decide +kernel)), by decide +kernel⟩
theorem mw_31 : (.code y_CarDesk_trayOfKind b_CarDesk_trayOfKind 2 (some (.object "CarDesk$Tray")) : Cond) ∈ cd_WA := List.mem_filter.mpr ⟨List.mem_append_right _ (List.mem_of_getElem? (i := 144) (by decide +kernel)), by decide +kernel⟩
theorem mw_32 : (.initialized R_CarDesk : Cond) ∈ cd_WA := List.mem_filter.mpr ⟨List.mem_append_right _ (List.mem_of_getElem? (i := 1) (by decide +kernel)), by decide +kernel⟩
theorem mw_33 : (.instanceMethod y_CarDesk_trayOfKind : Cond) ∈ cd_WA := List.mem_filter.mpr ⟨List.mem_append_right _ (List.mem_of_getElem? (i := 143) (by decide +kernel)), by decide +kernel⟩
theorem mw_34 : (.selects R_CarDesk y_CarDesk_trayOfKind y_CarDesk_trayOfKind : Cond) ∈ cd_WA := List.mem_filter.mpr ⟨List.mem_append_left _ (List.mem_of_getElem? (i := 5) (by decide +kernel)), by decide +kernel⟩
theorem mw_35 : (.methodLink R_CarDesk 162 y_CarDesk_trayOfKind : Cond) ∈ cd_WA := List.mem_filter.mpr ⟨List.mem_append_right _ (List.mem_of_getElem? (i := 141) (by decide +kernel)), by decide +kernel⟩
theorem mw_36 : (.fieldLink R_CarDesk 26 "CarDesk" "shelves" "[LCarDesk$Shelf;" : Cond) ∈ cd_WA := List.mem_filter.mpr ⟨List.mem_append_right _ (List.mem_of_getElem? (i := 54) (by decide +kernel)), by decide +kernel⟩
theorem mw_37 : (.code y_Shelf_newest b_Shelf_newest 3 (some (.object "CarDesk$Thing")) : Cond) ∈ cd_WA := List.mem_filter.mpr ⟨List.mem_append_right _ (List.mem_of_getElem? (i := 148) (by decide +kernel)), by decide +kernel⟩
theorem mw_38 : (.instanceMethod y_Shelf_newest : Cond) ∈ cd_WA := List.mem_filter.mpr ⟨List.mem_append_right _ (List.mem_of_getElem? (i := 147) (by decide +kernel)), by decide +kernel⟩
theorem mw_39 : (.selects R_Shelf y_Shelf_newest y_Shelf_newest : Cond) ∈ cd_WA := List.mem_filter.mpr ⟨List.mem_append_left _ (List.mem_of_getElem? (i := 6) (by decide +kernel)), by decide +kernel⟩
theorem mw_40 : (.code y_Tray_hash b_Tray_hash 4 (some .long) : Cond) ∈ cd_WA := List.mem_filter.mpr ⟨List.mem_append_right _ (List.mem_of_getElem? (i := 170) (by decide +kernel)), by decide +kernel⟩
theorem mw_41 : (.initialized R_Tray : Cond) ∈ cd_WA := List.mem_filter.mpr ⟨List.mem_append_right _ (List.mem_of_getElem? (i := 2) (by decide +kernel)), by decide +kernel⟩
theorem mw_42 : (.instanceMethod y_Tray_hash : Cond) ∈ cd_WA := List.mem_filter.mpr ⟨List.mem_append_right _ (List.mem_of_getElem? (i := 169) (by decide +kernel)), by decide +kernel⟩
theorem mw_43 : (.selects R_Tray y_Tray_hash y_Tray_hash : Cond) ∈ cd_WA := List.mem_filter.mpr ⟨List.mem_append_left _ (List.mem_of_getElem? (i := 11) (by decide +kernel)), by decide +kernel⟩
theorem mw_44 : (.constantLong R_CarDesk 177 1000 : Cond) ∈ cd_WA := List.mem_filter.mpr ⟨List.mem_append_right _ (List.mem_of_getElem? (i := 173) (by decide +kernel)), by decide +kernel⟩
theorem mw_45 : (.code y_Tray_sum b_Tray_sum 3 (some .int) : Cond) ∈ cd_WA := List.mem_filter.mpr ⟨List.mem_append_right _ (List.mem_of_getElem? (i := 177) (by decide +kernel)), by decide +kernel⟩
theorem mw_46 : (.instanceMethod y_Tray_sum : Cond) ∈ cd_WA := List.mem_filter.mpr ⟨List.mem_append_right _ (List.mem_of_getElem? (i := 176) (by decide +kernel)), by decide +kernel⟩
theorem mw_47 : (.selects R_Tray y_Tray_sum y_Tray_sum : Cond) ∈ cd_WA := List.mem_filter.mpr ⟨List.mem_append_left _ (List.mem_of_getElem? (i := 12) (by decide +kernel)), by decide +kernel⟩
theorem mw_48 : (.code y_Tray_changes b_Tray_changes 3 (some .int) : Cond) ∈ cd_WA := List.mem_filter.mpr ⟨List.mem_append_right _ (List.mem_of_getElem? (i := 181) (by decide +kernel)), by decide +kernel⟩
theorem mw_49 : (.instanceMethod y_Tray_changes : Cond) ∈ cd_WA := List.mem_filter.mpr ⟨List.mem_append_right _ (List.mem_of_getElem? (i := 180) (by decide +kernel)), by decide +kernel⟩
theorem mw_50 : (.selects R_Tray y_Tray_changes y_Tray_changes : Cond) ∈ cd_WA := List.mem_filter.mpr ⟨List.mem_append_left _ (List.mem_of_getElem? (i := 13) (by decide +kernel)), by decide +kernel⟩
theorem mw_51 : (.code y_Tray_checksum b_Tray_checksum 4 (some .long) : Cond) ∈ cd_WA := List.mem_filter.mpr ⟨List.mem_append_right _ (List.mem_of_getElem? (i := 185) (by decide +kernel)), by decide +kernel⟩
theorem mw_52 : (.instanceMethod y_Tray_checksum : Cond) ∈ cd_WA := List.mem_filter.mpr ⟨List.mem_append_right _ (List.mem_of_getElem? (i := 184) (by decide +kernel)), by decide +kernel⟩
theorem mw_53 : (.selects R_Tray y_Tray_checksum y_Tray_checksum : Cond) ∈ cd_WA := List.mem_filter.mpr ⟨List.mem_append_left _ (List.mem_of_getElem? (i := 14) (by decide +kernel)), by decide +kernel⟩
theorem mw_54 : (.code y_Shelf_countThere b_Shelf_countThere 3 (some .int) : Cond) ∈ cd_WA := List.mem_filter.mpr ⟨List.mem_append_right _ (List.mem_of_getElem? (i := 191) (by decide +kernel)), by decide +kernel⟩
theorem mw_55 : (.instanceMethod y_Shelf_countThere : Cond) ∈ cd_WA := List.mem_filter.mpr ⟨List.mem_append_right _ (List.mem_of_getElem? (i := 190) (by decide +kernel)), by decide +kernel⟩
theorem mw_56 : (.selects R_Shelf y_Shelf_countThere y_Shelf_countThere : Cond) ∈ cd_WA := List.mem_filter.mpr ⟨List.mem_append_left _ (List.mem_of_getElem? (i := 15) (by decide +kernel)), by decide +kernel⟩
theorem mw_57 : (.code y_Tray_empty b_Tray_empty 1 none : Cond) ∈ cd_WA := List.mem_filter.mpr ⟨List.mem_append_right _ (List.mem_of_getElem? (i := 227) (by decide +kernel)), by decide +kernel⟩
theorem mw_58 : (.instanceMethod y_Tray_empty : Cond) ∈ cd_WA := List.mem_filter.mpr ⟨List.mem_append_right _ (List.mem_of_getElem? (i := 226) (by decide +kernel)), by decide +kernel⟩
theorem mw_59 : (.selects R_Tray y_Tray_empty y_Tray_empty : Cond) ∈ cd_WA := List.mem_filter.mpr ⟨List.mem_append_left _ (List.mem_of_getElem? (i := 18) (by decide +kernel)), by decide +kernel⟩
theorem mw_60 : (.constantLong R_CarDesk 191 384 : Cond) ∈ cd_WA := List.mem_filter.mpr ⟨List.mem_append_right _ (List.mem_of_getElem? (i := 241) (by decide +kernel)), by decide +kernel⟩
theorem mw_61 : (.code y_CarDesk_isCall b_CarDesk_isCall 1 (some .boolean) : Cond) ∈ cd_WA := List.mem_filter.mpr ⟨List.mem_append_right _ (List.mem_of_getElem? (i := 120) (by decide +kernel)), by decide +kernel⟩
theorem mw_62 : (.static y_CarDesk_isCall : Cond) ∈ cd_WA := List.mem_filter.mpr ⟨List.mem_append_right _ (List.mem_of_getElem? (i := 119) (by decide +kernel)), by decide +kernel⟩
theorem mw_63 : (.methodLink R_CarDesk 85 y_CarDesk_isCall : Cond) ∈ cd_WA := List.mem_filter.mpr ⟨List.mem_append_right _ (List.mem_of_getElem? (i := 118) (by decide +kernel)), by decide +kernel⟩
theorem mw_64 : (.constantLong R_CarDesk 196 64 : Cond) ∈ cd_WA := List.mem_filter.mpr ⟨List.mem_append_right _ (List.mem_of_getElem? (i := 236) (by decide +kernel)), by decide +kernel⟩
theorem mw_65 : (.code y_CarDesk_thingOf b_CarDesk_thingOf 4 (some (.object "CarDesk$Thing")) : Cond) ∈ cd_WA := List.mem_filter.mpr ⟨List.mem_append_right _ (List.mem_of_getElem? (i := 240) (by decide +kernel)), by decide +kernel⟩
theorem mw_66 : (.instanceMethod y_CarDesk_thingOf : Cond) ∈ cd_WA := List.mem_filter.mpr ⟨List.mem_append_right _ (List.mem_of_getElem? (i := 239) (by decide +kernel)), by decide +kernel⟩
theorem mw_67 : (.selects R_CarDesk y_CarDesk_thingOf y_CarDesk_thingOf : Cond) ∈ cd_WA := List.mem_filter.mpr ⟨List.mem_append_left _ (List.mem_of_getElem? (i := 20) (by decide +kernel)), by decide +kernel⟩
theorem mw_68 : (.methodLink R_CarDesk 142 y_CarDesk_thingOf : Cond) ∈ cd_WA := List.mem_filter.mpr ⟨List.mem_append_right _ (List.mem_of_getElem? (i := 237) (by decide +kernel)), by decide +kernel⟩
theorem mw_69 : (.code y_Thing_isInUse b_Thing_isInUse 1 (some .boolean) : Cond) ∈ cd_WA := List.mem_filter.mpr ⟨List.mem_append_right _ (List.mem_of_getElem? (i := 253) (by decide +kernel)), by decide +kernel⟩
theorem mw_70 : (.initialized R_Thing : Cond) ∈ cd_WA := List.mem_filter.mpr ⟨List.mem_append_right _ (List.mem_of_getElem? (i := 5) (by decide +kernel)), by decide +kernel⟩
theorem mw_71 : (.instanceMethod y_Thing_isInUse : Cond) ∈ cd_WA := List.mem_filter.mpr ⟨List.mem_append_right _ (List.mem_of_getElem? (i := 252) (by decide +kernel)), by decide +kernel⟩
theorem mw_72 : (.selects R_Thing y_Thing_isInUse y_Thing_isInUse : Cond) ∈ cd_WA := List.mem_filter.mpr ⟨List.mem_append_left _ (List.mem_of_getElem? (i := 22) (by decide +kernel)), by decide +kernel⟩
theorem mw_73 : (.code y_CarDesk_isArgument b_CarDesk_isArgument 2 (some .boolean) : Cond) ∈ cd_WA := List.mem_filter.mpr ⟨List.mem_append_right _ (List.mem_of_getElem? (i := 123) (by decide +kernel)), by decide +kernel⟩
theorem mw_74 : (.static y_CarDesk_isArgument : Cond) ∈ cd_WA := List.mem_filter.mpr ⟨List.mem_append_right _ (List.mem_of_getElem? (i := 122) (by decide +kernel)), by decide +kernel⟩
theorem mw_75 : (.methodLink R_CarDesk 89 y_CarDesk_isArgument : Cond) ∈ cd_WA := List.mem_filter.mpr ⟨List.mem_append_right _ (List.mem_of_getElem? (i := 121) (by decide +kernel)), by decide +kernel⟩
theorem mw_76 : (.code y_CarDesk_refusalOfStep b_CarDesk_refusalOfStep 2 (some .int) : Cond) ∈ cd_WA := List.mem_filter.mpr ⟨List.mem_append_right _ (List.mem_of_getElem? (i := 249) (by decide +kernel)), by decide +kernel⟩
theorem mw_77 : (.static y_CarDesk_refusalOfStep : Cond) ∈ cd_WA := List.mem_filter.mpr ⟨List.mem_append_right _ (List.mem_of_getElem? (i := 248) (by decide +kernel)), by decide +kernel⟩
theorem mw_78 : (.methodLink R_CarDesk 198 y_CarDesk_refusalOfStep : Cond) ∈ cd_WA := List.mem_filter.mpr ⟨List.mem_append_right _ (List.mem_of_getElem? (i := 247) (by decide +kernel)), by decide +kernel⟩
theorem mw_79 : (.code y_CarDesk_thingForCall b_CarDesk_thingForCall 4 (some (.object "CarDesk$Thing")) : Cond) ∈ cd_WA := List.mem_filter.mpr ⟨List.mem_append_right _ (List.mem_of_getElem? (i := 235) (by decide +kernel)), by decide +kernel⟩
theorem mw_80 : (.instanceMethod y_CarDesk_thingForCall : Cond) ∈ cd_WA := List.mem_filter.mpr ⟨List.mem_append_right _ (List.mem_of_getElem? (i := 234) (by decide +kernel)), by decide +kernel⟩
theorem mw_81 : (.selects R_CarDesk y_CarDesk_thingForCall y_CarDesk_thingForCall : Cond) ∈ cd_WA := List.mem_filter.mpr ⟨List.mem_append_left _ (List.mem_of_getElem? (i := 19) (by decide +kernel)), by decide +kernel⟩
theorem mw_82 : (.methodLink R_CarDesk 122 y_CarDesk_thingForCall : Cond) ∈ cd_WA := List.mem_filter.mpr ⟨List.mem_append_right _ (List.mem_of_getElem? (i := 232) (by decide +kernel)), by decide +kernel⟩
theorem mw_83 : (.constantLong R_CarDesk 212 31 : Cond) ∈ cd_WA := List.mem_filter.mpr ⟨List.mem_append_right _ (List.mem_of_getElem? (i := 274) (by decide +kernel)), by decide +kernel⟩
theorem mw_84 : (.fieldLink R_CarDesk 30 "CarDesk" "answers" "[J" : Cond) ∈ cd_WA := List.mem_filter.mpr ⟨List.mem_append_right _ (List.mem_of_getElem? (i := 55) (by decide +kernel)), by decide +kernel⟩
theorem mw_85 : (.constantLong R_CarDesk 214 63 : Cond) ∈ cd_WA := List.mem_filter.mpr ⟨List.mem_append_right _ (List.mem_of_getElem? (i := 275) (by decide +kernel)), by decide +kernel⟩
theorem mw_86 : (.code y_CarDesk_turnedLeft b_CarDesk_turnedLeft 3 (some .long) : Cond) ∈ cd_WA := List.mem_filter.mpr ⟨List.mem_append_right _ (List.mem_of_getElem? (i := 278) (by decide +kernel)), by decide +kernel⟩
theorem mw_87 : (.static y_CarDesk_turnedLeft : Cond) ∈ cd_WA := List.mem_filter.mpr ⟨List.mem_append_right _ (List.mem_of_getElem? (i := 277) (by decide +kernel)), by decide +kernel⟩
theorem mw_88 : (.methodLink R_CarDesk 216 y_CarDesk_turnedLeft : Cond) ∈ cd_WA := List.mem_filter.mpr ⟨List.mem_append_right _ (List.mem_of_getElem? (i := 276) (by decide +kernel)), by decide +kernel⟩
theorem mw_89 : (.code y_Thing_stateOfSource b_Thing_stateOfSource 1 (some .long) : Cond) ∈ cd_WA := List.mem_filter.mpr ⟨List.mem_append_right _ (List.mem_of_getElem? (i := 282) (by decide +kernel)), by decide +kernel⟩
theorem mw_90 : (.instanceMethod y_Thing_stateOfSource : Cond) ∈ cd_WA := List.mem_filter.mpr ⟨List.mem_append_right _ (List.mem_of_getElem? (i := 281) (by decide +kernel)), by decide +kernel⟩
theorem mw_91 : (.selects R_Thing y_Thing_stateOfSource y_Thing_stateOfSource : Cond) ∈ cd_WA := List.mem_filter.mpr ⟨List.mem_append_left _ (List.mem_of_getElem? (i := 28) (by decide +kernel)), by decide +kernel⟩
theorem mw_92 : (.code y_Shelf_sumOfStates b_Shelf_sumOfStates 5 (some .long) : Cond) ∈ cd_WA := List.mem_filter.mpr ⟨List.mem_append_right _ (List.mem_of_getElem? (i := 286) (by decide +kernel)), by decide +kernel⟩
theorem mw_93 : (.instanceMethod y_Shelf_sumOfStates : Cond) ∈ cd_WA := List.mem_filter.mpr ⟨List.mem_append_right _ (List.mem_of_getElem? (i := 285) (by decide +kernel)), by decide +kernel⟩
theorem mw_94 : (.selects R_Shelf y_Shelf_sumOfStates y_Shelf_sumOfStates : Cond) ∈ cd_WA := List.mem_filter.mpr ⟨List.mem_append_left _ (List.mem_of_getElem? (i := 29) (by decide +kernel)), by decide +kernel⟩
theorem mw_95 : (.code y_Thing_comparedWith b_Thing_comparedWith 2 (some .int) : Cond) ∈ cd_WA := List.mem_filter.mpr ⟨List.mem_append_right _ (List.mem_of_getElem? (i := 265) (by decide +kernel)), by decide +kernel⟩
theorem mw_96 : (.instanceMethod y_Thing_comparedWith : Cond) ∈ cd_WA := List.mem_filter.mpr ⟨List.mem_append_right _ (List.mem_of_getElem? (i := 264) (by decide +kernel)), by decide +kernel⟩
theorem mw_97 : (.selects R_Thing y_Thing_comparedWith y_Thing_comparedWith : Cond) ∈ cd_WA := List.mem_filter.mpr ⟨List.mem_append_left _ (List.mem_of_getElem? (i := 25) (by decide +kernel)), by decide +kernel⟩
theorem mw_98 : (.code y_CarDesk_steppedState b_CarDesk_steppedState 5 (some .long) : Cond) ∈ cd_WA := List.mem_filter.mpr ⟨List.mem_append_right _ (List.mem_of_getElem? (i := 273) (by decide +kernel)), by decide +kernel⟩
theorem mw_99 : (.instanceMethod y_CarDesk_steppedState : Cond) ∈ cd_WA := List.mem_filter.mpr ⟨List.mem_append_right _ (List.mem_of_getElem? (i := 272) (by decide +kernel)), by decide +kernel⟩
theorem mw_100 : (.selects R_CarDesk y_CarDesk_steppedState y_CarDesk_steppedState : Cond) ∈ cd_WA := List.mem_filter.mpr ⟨List.mem_append_left _ (List.mem_of_getElem? (i := 27) (by decide +kernel)), by decide +kernel⟩
theorem mw_101 : (.methodLink R_CarDesk 209 y_CarDesk_steppedState : Cond) ∈ cd_WA := List.mem_filter.mpr ⟨List.mem_append_right _ (List.mem_of_getElem? (i := 270) (by decide +kernel)), by decide +kernel⟩
theorem mw_102 : (.code y_CarDesk_trayOfSort b_CarDesk_trayOfSort 2 (some (.object "CarDesk$Tray")) : Cond) ∈ cd_WA := List.mem_filter.mpr ⟨List.mem_append_right _ (List.mem_of_getElem? (i := 101) (by decide +kernel)), by decide +kernel⟩
theorem mw_103 : (.instanceMethod y_CarDesk_trayOfSort : Cond) ∈ cd_WA := List.mem_filter.mpr ⟨List.mem_append_right _ (List.mem_of_getElem? (i := 100) (by decide +kernel)), by decide +kernel⟩
theorem mw_104 : (.selects R_CarDesk y_CarDesk_trayOfSort y_CarDesk_trayOfSort : Cond) ∈ cd_WA := List.mem_filter.mpr ⟨List.mem_append_left _ (List.mem_of_getElem? (i := 0) (by decide +kernel)), by decide +kernel⟩
theorem mw_105 : (.methodLink R_CarDesk 64 y_CarDesk_trayOfSort : Cond) ∈ cd_WA := List.mem_filter.mpr ⟨List.mem_append_right _ (List.mem_of_getElem? (i := 98) (by decide +kernel)), by decide +kernel⟩
theorem mw_106 : (.code y_CarDesk_refuse b_CarDesk_refuse 2 (some .int) : Cond) ∈ cd_WA := List.mem_filter.mpr ⟨List.mem_append_right _ (List.mem_of_getElem? (i := 105) (by decide +kernel)), by decide +kernel⟩
theorem mw_107 : (.instanceMethod y_CarDesk_refuse : Cond) ∈ cd_WA := List.mem_filter.mpr ⟨List.mem_append_right _ (List.mem_of_getElem? (i := 104) (by decide +kernel)), by decide +kernel⟩
theorem mw_108 : (.selects R_CarDesk y_CarDesk_refuse y_CarDesk_refuse : Cond) ∈ cd_WA := List.mem_filter.mpr ⟨List.mem_append_left _ (List.mem_of_getElem? (i := 1) (by decide +kernel)), by decide +kernel⟩
theorem mw_109 : (.methodLink R_CarDesk 68 y_CarDesk_refuse : Cond) ∈ cd_WA := List.mem_filter.mpr ⟨List.mem_append_right _ (List.mem_of_getElem? (i := 102) (by decide +kernel)), by decide +kernel⟩
theorem mw_110 : (.code y_Tray_isFull b_Tray_isFull 1 (some .boolean) : Cond) ∈ cd_WA := List.mem_filter.mpr ⟨List.mem_append_right _ (List.mem_of_getElem? (i := 109) (by decide +kernel)), by decide +kernel⟩
theorem mw_111 : (.instanceMethod y_Tray_isFull : Cond) ∈ cd_WA := List.mem_filter.mpr ⟨List.mem_append_right _ (List.mem_of_getElem? (i := 108) (by decide +kernel)), by decide +kernel⟩
theorem mw_112 : (.selects R_Tray y_Tray_isFull y_Tray_isFull : Cond) ∈ cd_WA := List.mem_filter.mpr ⟨List.mem_append_left _ (List.mem_of_getElem? (i := 2) (by decide +kernel)), by decide +kernel⟩
theorem mw_113 : (.code y_Tray_put b_Tray_put 2 none : Cond) ∈ cd_WA := List.mem_filter.mpr ⟨List.mem_append_right _ (List.mem_of_getElem? (i := 113) (by decide +kernel)), by decide +kernel⟩
theorem mw_114 : (.instanceMethod y_Tray_put : Cond) ∈ cd_WA := List.mem_filter.mpr ⟨List.mem_append_right _ (List.mem_of_getElem? (i := 112) (by decide +kernel)), by decide +kernel⟩
theorem mw_115 : (.selects R_Tray y_Tray_put y_Tray_put : Cond) ∈ cd_WA := List.mem_filter.mpr ⟨List.mem_append_left _ (List.mem_of_getElem? (i := 3) (by decide +kernel)), by decide +kernel⟩
theorem mw_116 : (.fieldLink R_CarDesk 60 "CarDesk" "noted" "I" : Cond) ∈ cd_WA := List.mem_filter.mpr ⟨List.mem_append_right _ (List.mem_of_getElem? (i := 64) (by decide +kernel)), by decide +kernel⟩
theorem mw_117 : (.fieldLink R_CarDesk 34 "CarDesk" "failures" "[I" : Cond) ∈ cd_WA := List.mem_filter.mpr ⟨List.mem_append_right _ (List.mem_of_getElem? (i := 56) (by decide +kernel)), by decide +kernel⟩
theorem mw_118 : (.code y_CarDesk_refusalOfCall b_CarDesk_refusalOfCall 6 (some .int) : Cond) ∈ cd_WA := List.mem_filter.mpr ⟨List.mem_append_right _ (List.mem_of_getElem? (i := 246) (by decide +kernel)), by decide +kernel⟩
theorem mw_119 : (.instanceMethod y_CarDesk_refusalOfCall : Cond) ∈ cd_WA := List.mem_filter.mpr ⟨List.mem_append_right _ (List.mem_of_getElem? (i := 245) (by decide +kernel)), by decide +kernel⟩
theorem mw_120 : (.selects R_CarDesk y_CarDesk_refusalOfCall y_CarDesk_refusalOfCall : Cond) ∈ cd_WA := List.mem_filter.mpr ⟨List.mem_append_left _ (List.mem_of_getElem? (i := 21) (by decide +kernel)), by decide +kernel⟩
theorem mw_121 : (.methodLink R_CarDesk 126 y_CarDesk_refusalOfCall : Cond) ∈ cd_WA := List.mem_filter.mpr ⟨List.mem_append_right _ (List.mem_of_getElem? (i := 243) (by decide +kernel)), by decide +kernel⟩
theorem mw_122 : (.fieldLink R_CarDesk 54 "CarDesk" "answered" "I" : Cond) ∈ cd_WA := List.mem_filter.mpr ⟨List.mem_append_right _ (List.mem_of_getElem? (i := 62) (by decide +kernel)), by decide +kernel⟩
theorem mw_123 : (.code y_CarDesk_outcomeOfCall b_CarDesk_outcomeOfCall 5 (some .long) : Cond) ∈ cd_WA := List.mem_filter.mpr ⟨List.mem_append_right _ (List.mem_of_getElem? (i := 261) (by decide +kernel)), by decide +kernel⟩
theorem mw_124 : (.instanceMethod y_CarDesk_outcomeOfCall : Cond) ∈ cd_WA := List.mem_filter.mpr ⟨List.mem_append_right _ (List.mem_of_getElem? (i := 260) (by decide +kernel)), by decide +kernel⟩
theorem mw_125 : (.selects R_CarDesk y_CarDesk_outcomeOfCall y_CarDesk_outcomeOfCall : Cond) ∈ cd_WA := List.mem_filter.mpr ⟨List.mem_append_left _ (List.mem_of_getElem? (i := 24) (by decide +kernel)), by decide +kernel⟩
theorem mw_126 : (.methodLink R_CarDesk 134 y_CarDesk_outcomeOfCall : Cond) ∈ cd_WA := List.mem_filter.mpr ⟨List.mem_append_right _ (List.mem_of_getElem? (i := 258) (by decide +kernel)), by decide +kernel⟩
theorem mw_127 : (.code y_CarDesk_changeByCall b_CarDesk_changeByCall 6 none : Cond) ∈ cd_WA := List.mem_filter.mpr ⟨List.mem_append_right _ (List.mem_of_getElem? (i := 269) (by decide +kernel)), by decide +kernel⟩
theorem mw_128 : (.instanceMethod y_CarDesk_changeByCall : Cond) ∈ cd_WA := List.mem_filter.mpr ⟨List.mem_append_right _ (List.mem_of_getElem? (i := 268) (by decide +kernel)), by decide +kernel⟩
theorem mw_129 : (.selects R_CarDesk y_CarDesk_changeByCall y_CarDesk_changeByCall : Cond) ∈ cd_WA := List.mem_filter.mpr ⟨List.mem_append_left _ (List.mem_of_getElem? (i := 26) (by decide +kernel)), by decide +kernel⟩
theorem mw_130 : (.methodLink R_CarDesk 138 y_CarDesk_changeByCall : Cond) ∈ cd_WA := List.mem_filter.mpr ⟨List.mem_append_right _ (List.mem_of_getElem? (i := 266) (by decide +kernel)), by decide +kernel⟩
theorem mw_131 : (.code y_CarDesk_tellFailed b_CarDesk_tellFailed 4 none : Cond) ∈ cd_WA := List.mem_filter.mpr ⟨List.mem_append_right _ (List.mem_of_getElem? (i := 257) (by decide +kernel)), by decide +kernel⟩
theorem mw_132 : (.instanceMethod y_CarDesk_tellFailed : Cond) ∈ cd_WA := List.mem_filter.mpr ⟨List.mem_append_right _ (List.mem_of_getElem? (i := 256) (by decide +kernel)), by decide +kernel⟩
theorem mw_133 : (.selects R_CarDesk y_CarDesk_tellFailed y_CarDesk_tellFailed : Cond) ∈ cd_WA := List.mem_filter.mpr ⟨List.mem_append_left _ (List.mem_of_getElem? (i := 23) (by decide +kernel)), by decide +kernel⟩
theorem mw_134 : (.methodLink R_CarDesk 130 y_CarDesk_tellFailed : Cond) ∈ cd_WA := List.mem_filter.mpr ⟨List.mem_append_right _ (List.mem_of_getElem? (i := 254) (by decide +kernel)), by decide +kernel⟩
theorem mw_135 : (.fieldLink R_CarDesk 57 "CarDesk" "thingsMade" "I" : Cond) ∈ cd_WA := List.mem_filter.mpr ⟨List.mem_append_right _ (List.mem_of_getElem? (i := 63) (by decide +kernel)), by decide +kernel⟩
theorem mw_136 : (.code y_Thing_leave b_Thing_leave 1 none : Cond) ∈ cd_WA := List.mem_filter.mpr ⟨List.mem_append_right _ (List.mem_of_getElem? (i := 298) (by decide +kernel)), by decide +kernel⟩
theorem mw_137 : (.instanceMethod y_Thing_leave : Cond) ∈ cd_WA := List.mem_filter.mpr ⟨List.mem_append_right _ (List.mem_of_getElem? (i := 297) (by decide +kernel)), by decide +kernel⟩
theorem mw_138 : (.selects R_Thing y_Thing_leave y_Thing_leave : Cond) ∈ cd_WA := List.mem_filter.mpr ⟨List.mem_append_left _ (List.mem_of_getElem? (i := 30) (by decide +kernel)), by decide +kernel⟩
theorem mw_139 : (.code y_CarDesk_isKind b_CarDesk_isKind 1 (some .boolean) : Cond) ∈ cd_WA := List.mem_filter.mpr ⟨List.mem_append_right _ (List.mem_of_getElem? (i := 136) (by decide +kernel)), by decide +kernel⟩
theorem mw_140 : (.static y_CarDesk_isKind : Cond) ∈ cd_WA := List.mem_filter.mpr ⟨List.mem_append_right _ (List.mem_of_getElem? (i := 135) (by decide +kernel)), by decide +kernel⟩
theorem mw_141 : (.methodLink R_CarDesk 93 y_CarDesk_isKind : Cond) ∈ cd_WA := List.mem_filter.mpr ⟨List.mem_append_right _ (List.mem_of_getElem? (i := 134) (by decide +kernel)), by decide +kernel⟩
theorem mw_142 : (.constantLong R_CarDesk 156 (-4) : Cond) ∈ cd_WA := List.mem_filter.mpr ⟨List.mem_append_right _ (List.mem_of_getElem? (i := 307) (by decide +kernel)), by decide +kernel⟩
theorem mw_143 : (.code y_CarDesk_canBeMade b_CarDesk_canBeMade 4 (some .boolean) : Cond) ∈ cd_WA := List.mem_filter.mpr ⟨List.mem_append_right _ (List.mem_of_getElem? (i := 140) (by decide +kernel)), by decide +kernel⟩
theorem mw_144 : (.instanceMethod y_CarDesk_canBeMade : Cond) ∈ cd_WA := List.mem_filter.mpr ⟨List.mem_append_right _ (List.mem_of_getElem? (i := 139) (by decide +kernel)), by decide +kernel⟩
theorem mw_145 : (.selects R_CarDesk y_CarDesk_canBeMade y_CarDesk_canBeMade : Cond) ∈ cd_WA := List.mem_filter.mpr ⟨List.mem_append_left _ (List.mem_of_getElem? (i := 4) (by decide +kernel)), by decide +kernel⟩
theorem mw_146 : (.methodLink R_CarDesk 96 y_CarDesk_canBeMade : Cond) ∈ cd_WA := List.mem_filter.mpr ⟨List.mem_append_right _ (List.mem_of_getElem? (i := 137) (by decide +kernel)), by decide +kernel⟩
theorem mw_147 : (.code y_Shelf_isFull b_Shelf_isFull 1 (some .boolean) : Cond) ∈ cd_WA := List.mem_filter.mpr ⟨List.mem_append_right _ (List.mem_of_getElem? (i := 156) (by decide +kernel)), by decide +kernel⟩
theorem mw_148 : (.instanceMethod y_Shelf_isFull : Cond) ∈ cd_WA := List.mem_filter.mpr ⟨List.mem_append_right _ (List.mem_of_getElem? (i := 155) (by decide +kernel)), by decide +kernel⟩
theorem mw_149 : (.selects R_Shelf y_Shelf_isFull y_Shelf_isFull : Cond) ∈ cd_WA := List.mem_filter.mpr ⟨List.mem_append_left _ (List.mem_of_getElem? (i := 8) (by decide +kernel)), by decide +kernel⟩
theorem mw_150 : (.code y_CarDesk_sourceOf b_CarDesk_sourceOf 2 (some (.object "CarDesk$Thing")) : Cond) ∈ cd_WA := List.mem_filter.mpr ⟨List.mem_append_right _ (List.mem_of_getElem? (i := 160) (by decide +kernel)), by decide +kernel⟩
theorem mw_151 : (.instanceMethod y_CarDesk_sourceOf : Cond) ∈ cd_WA := List.mem_filter.mpr ⟨List.mem_append_right _ (List.mem_of_getElem? (i := 159) (by decide +kernel)), by decide +kernel⟩
theorem mw_152 : (.selects R_CarDesk y_CarDesk_sourceOf y_CarDesk_sourceOf : Cond) ∈ cd_WA := List.mem_filter.mpr ⟨List.mem_append_left _ (List.mem_of_getElem? (i := 9) (by decide +kernel)), by decide +kernel⟩
theorem mw_153 : (.methodLink R_CarDesk 100 y_CarDesk_sourceOf : Cond) ∈ cd_WA := List.mem_filter.mpr ⟨List.mem_append_right _ (List.mem_of_getElem? (i := 157) (by decide +kernel)), by decide +kernel⟩
theorem mw_154 : (.classLink R_CarDesk 104 R_Thing : Cond) ∈ cd_WA := List.mem_filter.mpr ⟨List.mem_append_right _ (List.mem_of_getElem? (i := 161) (by decide +kernel)), by decide +kernel⟩
theorem mw_155 : (.instantiable R_Thing 5 : Cond) ∈ cd_WA := List.mem_filter.mpr ⟨List.mem_append_right _ (List.mem_of_getElem? (i := 162) (by decide +kernel)), by decide +kernel⟩
theorem mw_156 : (.code y_CarDesk_firstState b_CarDesk_firstState 3 (some .long) : Cond) ∈ cd_WA := List.mem_filter.mpr ⟨List.mem_append_right _ (List.mem_of_getElem? (i := 166) (by decide +kernel)), by decide +kernel⟩
theorem mw_157 : (.instanceMethod y_CarDesk_firstState : Cond) ∈ cd_WA := List.mem_filter.mpr ⟨List.mem_append_right _ (List.mem_of_getElem? (i := 165) (by decide +kernel)), by decide +kernel⟩
theorem mw_158 : (.selects R_CarDesk y_CarDesk_firstState y_CarDesk_firstState : Cond) ∈ cd_WA := List.mem_filter.mpr ⟨List.mem_append_left _ (List.mem_of_getElem? (i := 10) (by decide +kernel)), by decide +kernel⟩
theorem mw_159 : (.methodLink R_CarDesk 106 y_CarDesk_firstState : Cond) ∈ cd_WA := List.mem_filter.mpr ⟨List.mem_append_right _ (List.mem_of_getElem? (i := 163) (by decide +kernel)), by decide +kernel⟩
theorem mw_160 : (.code y_Thing_init b_Thing_init 4 none : Cond) ∈ cd_WA := List.mem_filter.mpr ⟨List.mem_append_right _ (List.mem_of_getElem? (i := 194) (by decide +kernel)), by decide +kernel⟩
theorem mw_161 : (.instanceMethod y_Thing_init : Cond) ∈ cd_WA := List.mem_filter.mpr ⟨List.mem_append_right _ (List.mem_of_getElem? (i := 193) (by decide +kernel)), by decide +kernel⟩
theorem mw_162 : (.code y_Shelf_put b_Shelf_put 2 none : Cond) ∈ cd_WA := List.mem_filter.mpr ⟨List.mem_append_right _ (List.mem_of_getElem? (i := 219) (by decide +kernel)), by decide +kernel⟩
theorem mw_163 : (.instanceMethod y_Shelf_put : Cond) ∈ cd_WA := List.mem_filter.mpr ⟨List.mem_append_right _ (List.mem_of_getElem? (i := 218) (by decide +kernel)), by decide +kernel⟩
theorem mw_164 : (.selects R_Shelf y_Shelf_put y_Shelf_put : Cond) ∈ cd_WA := List.mem_filter.mpr ⟨List.mem_append_left _ (List.mem_of_getElem? (i := 16) (by decide +kernel)), by decide +kernel⟩
theorem mw_165 : (.code y_CarDesk_emptyTrayOf b_CarDesk_emptyTrayOf 3 none : Cond) ∈ cd_WA := List.mem_filter.mpr ⟨List.mem_append_right _ (List.mem_of_getElem? (i := 223) (by decide +kernel)), by decide +kernel⟩
theorem mw_166 : (.instanceMethod y_CarDesk_emptyTrayOf : Cond) ∈ cd_WA := List.mem_filter.mpr ⟨List.mem_append_right _ (List.mem_of_getElem? (i := 222) (by decide +kernel)), by decide +kernel⟩
theorem mw_167 : (.selects R_CarDesk y_CarDesk_emptyTrayOf y_CarDesk_emptyTrayOf : Cond) ∈ cd_WA := List.mem_filter.mpr ⟨List.mem_append_left _ (List.mem_of_getElem? (i := 17) (by decide +kernel)), by decide +kernel⟩
theorem mw_168 : (.methodLink R_CarDesk 116 y_CarDesk_emptyTrayOf : Cond) ∈ cd_WA := List.mem_filter.mpr ⟨List.mem_append_right _ (List.mem_of_getElem? (i := 220) (by decide +kernel)), by decide +kernel⟩
theorem nn_0 : (.fieldLinkNest R_Shelf 21 "CarDesk$Thing" "there" "Z" "CarDesk" : Cond) ∈ cd_nest := List.mem_of_getElem? (i := 0) (by decide +kernel)
theorem nn_1 : (.fieldLinkNest R_Shelf 29 "CarDesk$Thing" "state" "J" "CarDesk" : Cond) ∈ cd_nest := List.mem_of_getElem? (i := 1) (by decide +kernel)
theorem nn_2 : (.methodLinkNest R_CarDesk 165 y_Shelf_newest "CarDesk" : Cond) ∈ cd_nest := List.mem_of_getElem? (i := 2) (by decide +kernel)
theorem nn_3 : (.fieldLinkNest R_CarDesk 82 "CarDesk$Tray" "count" "I" "CarDesk" : Cond) ∈ cd_nest := List.mem_of_getElem? (i := 3) (by decide +kernel)
theorem nn_4 : (.methodLinkNest R_CarDesk 169 y_Tray_hash "CarDesk" : Cond) ∈ cd_nest := List.mem_of_getElem? (i := 4) (by decide +kernel)
theorem nn_5 : (.fieldLinkNest R_CarDesk 173 "CarDesk$Thing" "state" "J" "CarDesk" : Cond) ∈ cd_nest := List.mem_of_getElem? (i := 5) (by decide +kernel)
theorem nn_6 : (.methodLinkNest R_CarDesk 179 y_Tray_sum "CarDesk" : Cond) ∈ cd_nest := List.mem_of_getElem? (i := 6) (by decide +kernel)
theorem nn_7 : (.methodLinkNest R_CarDesk 182 y_Tray_changes "CarDesk" : Cond) ∈ cd_nest := List.mem_of_getElem? (i := 7) (by decide +kernel)
theorem nn_8 : (.methodLinkNest R_CarDesk 185 y_Tray_checksum "CarDesk" : Cond) ∈ cd_nest := List.mem_of_getElem? (i := 8) (by decide +kernel)
theorem nn_9 : (.methodLinkNest R_CarDesk 152 y_Shelf_countThere "CarDesk" : Cond) ∈ cd_nest := List.mem_of_getElem? (i := 9) (by decide +kernel)
theorem nn_10 : (.methodLinkNest R_CarDesk 188 y_Tray_empty "CarDesk" : Cond) ∈ cd_nest := List.mem_of_getElem? (i := 10) (by decide +kernel)
theorem nn_11 : (.methodLinkNest R_CarDesk 193 y_Shelf_at "CarDesk" : Cond) ∈ cd_nest := List.mem_of_getElem? (i := 11) (by decide +kernel)
theorem nn_12 : (.fieldLinkNest R_CarDesk 202 "CarDesk$Thing" "turns" "I" "CarDesk" : Cond) ∈ cd_nest := List.mem_of_getElem? (i := 12) (by decide +kernel)
theorem nn_13 : (.methodLinkNest R_CarDesk 146 y_Thing_isInUse "CarDesk" : Cond) ∈ cd_nest := List.mem_of_getElem? (i := 13) (by decide +kernel)
theorem nn_14 : (.methodLinkNest R_CarDesk 220 y_Thing_stateOfSource "CarDesk" : Cond) ∈ cd_nest := List.mem_of_getElem? (i := 14) (by decide +kernel)
theorem nn_15 : (.methodLinkNest R_CarDesk 223 y_Shelf_sumOfStates "CarDesk" : Cond) ∈ cd_nest := List.mem_of_getElem? (i := 15) (by decide +kernel)
theorem nn_16 : (.methodLinkNest R_CarDesk 205 y_Thing_comparedWith "CarDesk" : Cond) ∈ cd_nest := List.mem_of_getElem? (i := 16) (by decide +kernel)
theorem nn_17 : (.fieldLinkNest R_CarDesk 72 "CarDesk$Tray" "most" "I" "CarDesk" : Cond) ∈ cd_nest := List.mem_of_getElem? (i := 17) (by decide +kernel)
theorem nn_18 : (.methodLinkNest R_CarDesk 75 y_Tray_isFull "CarDesk" : Cond) ∈ cd_nest := List.mem_of_getElem? (i := 18) (by decide +kernel)
theorem nn_19 : (.methodLinkNest R_CarDesk 79 y_Tray_put "CarDesk" : Cond) ∈ cd_nest := List.mem_of_getElem? (i := 19) (by decide +kernel)
theorem nn_20 : (.methodLinkNest R_CarDesk 149 y_Thing_leave "CarDesk" : Cond) ∈ cd_nest := List.mem_of_getElem? (i := 20) (by decide +kernel)
theorem nn_21 : (.methodLinkNest R_CarDesk 99 y_Shelf_isFull "CarDesk" : Cond) ∈ cd_nest := List.mem_of_getElem? (i := 21) (by decide +kernel)
theorem nn_22 : (.methodLinkNest R_CarDesk 110 y_Thing_init "CarDesk" : Cond) ∈ cd_nest := List.mem_of_getElem? (i := 22) (by decide +kernel)
theorem nn_23 : (.methodLinkNest R_CarDesk 113 y_Shelf_put "CarDesk" : Cond) ∈ cd_nest := List.mem_of_getElem? (i := 23) (by decide +kernel)
theorem nn_24 : (.fieldLinkNest R_CarDesk 119 "CarDesk$Shelf" "made" "I" "CarDesk" : Cond) ∈ cd_nest := List.mem_of_getElem? (i := 24) (by decide +kernel)
end
section
theorem d_Tray_isFull_0 : decode b_Tray_isFull 0 = .ok (.aload_n 0, 1) := by decide +kernel
theorem d_Tray_isFull_1 : decode b_Tray_isFull 1 = .ok (.getfield 15, 3) := by decide +kernel
theorem d_Tray_isFull_4 : decode b_Tray_isFull 4 = .ok (.sipush 200, 3) := by decide +kernel
theorem d_Tray_isFull_7 : decode b_Tray_isFull 7 = .ok (.if_icmp .lt 7, 3) := by decide +kernel
theorem d_Tray_isFull_10 : decode b_Tray_isFull 10 = .ok (.iconst 1, 1) := by decide +kernel
theorem d_Tray_isFull_11 : decode b_Tray_isFull 11 = .ok (.goto 4, 3) := by decide +kernel
theorem d_Tray_isFull_14 : decode b_Tray_isFull 14 = .ok (.iconst 0, 1) := by decide +kernel
theorem d_Tray_isFull_15 : decode b_Tray_isFull 15 = .ok (.ireturn, 1) := by decide +kernel

theorem d_Tray_put_0 : decode b_Tray_put 0 = .ok (.aload_n 0, 1) := by decide +kernel
theorem d_Tray_put_1 : decode b_Tray_put 1 = .ok (.getfield 15, 3) := by decide +kernel
theorem d_Tray_put_4 : decode b_Tray_put 4 = .ok (.ifCond .lt 33, 3) := by decide +kernel
theorem d_Tray_put_7 : decode b_Tray_put 7 = .ok (.aload_n 0, 1) := by decide +kernel
theorem d_Tray_put_8 : decode b_Tray_put 8 = .ok (.getfield 15, 3) := by decide +kernel
theorem d_Tray_put_11 : decode b_Tray_put 11 = .ok (.sipush 200, 3) := by decide +kernel
theorem d_Tray_put_14 : decode b_Tray_put 14 = .ok (.if_icmp .ge 23, 3) := by decide +kernel
theorem d_Tray_put_17 : decode b_Tray_put 17 = .ok (.aload_n 0, 1) := by decide +kernel
theorem d_Tray_put_18 : decode b_Tray_put 18 = .ok (.getfield 9, 3) := by decide +kernel
theorem d_Tray_put_21 : decode b_Tray_put 21 = .ok (.aload_n 0, 1) := by decide +kernel
theorem d_Tray_put_22 : decode b_Tray_put 22 = .ok (.getfield 15, 3) := by decide +kernel
theorem d_Tray_put_25 : decode b_Tray_put 25 = .ok (.iload_n 1, 1) := by decide +kernel
theorem d_Tray_put_26 : decode b_Tray_put 26 = .ok (.iastore, 1) := by decide +kernel
theorem d_Tray_put_27 : decode b_Tray_put 27 = .ok (.aload_n 0, 1) := by decide +kernel
theorem d_Tray_put_28 : decode b_Tray_put 28 = .ok (.dup, 1) := by decide +kernel
theorem d_Tray_put_29 : decode b_Tray_put 29 = .ok (.getfield 15, 3) := by decide +kernel
theorem d_Tray_put_32 : decode b_Tray_put 32 = .ok (.iconst 1, 1) := by decide +kernel
theorem d_Tray_put_33 : decode b_Tray_put 33 = .ok (.iadd, 1) := by decide +kernel
theorem d_Tray_put_34 : decode b_Tray_put 34 = .ok (.putfield 15, 3) := by decide +kernel
theorem d_Tray_put_37 : decode b_Tray_put 37 = .ok (.return_, 1) := by decide +kernel

theorem d_Tray_empty_0 : decode b_Tray_empty 0 = .ok (.aload_n 0, 1) := by decide +kernel
theorem d_Tray_empty_1 : decode b_Tray_empty 1 = .ok (.iconst 0, 1) := by decide +kernel
theorem d_Tray_empty_2 : decode b_Tray_empty 2 = .ok (.putfield 15, 3) := by decide +kernel
theorem d_Tray_empty_5 : decode b_Tray_empty 5 = .ok (.return_, 1) := by decide +kernel

theorem d_Tray_hash_0 : decode b_Tray_hash 0 = .ok (.ldc2_w 22, 3) := by decide +kernel
theorem d_Tray_hash_3 : decode b_Tray_hash 3 = .ok (.lstore_n 1, 1) := by decide +kernel
theorem d_Tray_hash_4 : decode b_Tray_hash 4 = .ok (.iconst 0, 1) := by decide +kernel
theorem d_Tray_hash_5 : decode b_Tray_hash 5 = .ok (.istore_n 3, 1) := by decide +kernel
theorem d_Tray_hash_6 : decode b_Tray_hash 6 = .ok (.iload_n 3, 1) := by decide +kernel
theorem d_Tray_hash_7 : decode b_Tray_hash 7 = .ok (.aload_n 0, 1) := by decide +kernel
theorem d_Tray_hash_8 : decode b_Tray_hash 8 = .ok (.getfield 15, 3) := by decide +kernel
theorem d_Tray_hash_11 : decode b_Tray_hash 11 = .ok (.if_icmp .ge 23, 3) := by decide +kernel
theorem d_Tray_hash_14 : decode b_Tray_hash 14 = .ok (.ldc2_w 24, 3) := by decide +kernel
theorem d_Tray_hash_17 : decode b_Tray_hash 17 = .ok (.lload_n 1, 1) := by decide +kernel
theorem d_Tray_hash_18 : decode b_Tray_hash 18 = .ok (.lmul, 1) := by decide +kernel
theorem d_Tray_hash_19 : decode b_Tray_hash 19 = .ok (.aload_n 0, 1) := by decide +kernel
theorem d_Tray_hash_20 : decode b_Tray_hash 20 = .ok (.getfield 9, 3) := by decide +kernel
theorem d_Tray_hash_23 : decode b_Tray_hash 23 = .ok (.iload_n 3, 1) := by decide +kernel
theorem d_Tray_hash_24 : decode b_Tray_hash 24 = .ok (.iaload, 1) := by decide +kernel
theorem d_Tray_hash_25 : decode b_Tray_hash 25 = .ok (.i2l, 1) := by decide +kernel
theorem d_Tray_hash_26 : decode b_Tray_hash 26 = .ok (.ladd, 1) := by decide +kernel
theorem d_Tray_hash_27 : decode b_Tray_hash 27 = .ok (.lstore_n 1, 1) := by decide +kernel
theorem d_Tray_hash_28 : decode b_Tray_hash 28 = .ok (.iinc 3 1, 3) := by decide +kernel
theorem d_Tray_hash_31 : decode b_Tray_hash 31 = .ok (.goto (-25), 3) := by decide +kernel
theorem d_Tray_hash_34 : decode b_Tray_hash 34 = .ok (.lload_n 1, 1) := by decide +kernel
theorem d_Tray_hash_35 : decode b_Tray_hash 35 = .ok (.lreturn, 1) := by decide +kernel

theorem d_Tray_sum_0 : decode b_Tray_sum 0 = .ok (.iconst 0, 1) := by decide +kernel
theorem d_Tray_sum_1 : decode b_Tray_sum 1 = .ok (.istore_n 1, 1) := by decide +kernel
theorem d_Tray_sum_2 : decode b_Tray_sum 2 = .ok (.iconst 0, 1) := by decide +kernel
theorem d_Tray_sum_3 : decode b_Tray_sum 3 = .ok (.istore_n 2, 1) := by decide +kernel
theorem d_Tray_sum_4 : decode b_Tray_sum 4 = .ok (.iload_n 2, 1) := by decide +kernel
theorem d_Tray_sum_5 : decode b_Tray_sum 5 = .ok (.aload_n 0, 1) := by decide +kernel
theorem d_Tray_sum_6 : decode b_Tray_sum 6 = .ok (.getfield 15, 3) := by decide +kernel
theorem d_Tray_sum_9 : decode b_Tray_sum 9 = .ok (.if_icmp .ge 18, 3) := by decide +kernel
theorem d_Tray_sum_12 : decode b_Tray_sum 12 = .ok (.iload_n 1, 1) := by decide +kernel
theorem d_Tray_sum_13 : decode b_Tray_sum 13 = .ok (.aload_n 0, 1) := by decide +kernel
theorem d_Tray_sum_14 : decode b_Tray_sum 14 = .ok (.getfield 9, 3) := by decide +kernel
theorem d_Tray_sum_17 : decode b_Tray_sum 17 = .ok (.iload_n 2, 1) := by decide +kernel
theorem d_Tray_sum_18 : decode b_Tray_sum 18 = .ok (.iaload, 1) := by decide +kernel
theorem d_Tray_sum_19 : decode b_Tray_sum 19 = .ok (.iadd, 1) := by decide +kernel
theorem d_Tray_sum_20 : decode b_Tray_sum 20 = .ok (.istore_n 1, 1) := by decide +kernel
theorem d_Tray_sum_21 : decode b_Tray_sum 21 = .ok (.iinc 2 1, 3) := by decide +kernel
theorem d_Tray_sum_24 : decode b_Tray_sum 24 = .ok (.goto (-20), 3) := by decide +kernel
theorem d_Tray_sum_27 : decode b_Tray_sum 27 = .ok (.iload_n 1, 1) := by decide +kernel
theorem d_Tray_sum_28 : decode b_Tray_sum 28 = .ok (.ireturn, 1) := by decide +kernel

theorem d_Tray_checksum_0 : decode b_Tray_checksum 0 = .ok (.iconst 1, 1) := by decide +kernel
theorem d_Tray_checksum_1 : decode b_Tray_checksum 1 = .ok (.istore_n 1, 1) := by decide +kernel
theorem d_Tray_checksum_2 : decode b_Tray_checksum 2 = .ok (.iconst 0, 1) := by decide +kernel
theorem d_Tray_checksum_3 : decode b_Tray_checksum 3 = .ok (.istore_n 2, 1) := by decide +kernel
theorem d_Tray_checksum_4 : decode b_Tray_checksum 4 = .ok (.iconst 0, 1) := by decide +kernel
theorem d_Tray_checksum_5 : decode b_Tray_checksum 5 = .ok (.istore_n 3, 1) := by decide +kernel
theorem d_Tray_checksum_6 : decode b_Tray_checksum 6 = .ok (.iload_n 3, 1) := by decide +kernel
theorem d_Tray_checksum_7 : decode b_Tray_checksum 7 = .ok (.aload_n 0, 1) := by decide +kernel
theorem d_Tray_checksum_8 : decode b_Tray_checksum 8 = .ok (.getfield 15, 3) := by decide +kernel
theorem d_Tray_checksum_11 : decode b_Tray_checksum 11 = .ok (.if_icmp .ge 28, 3) := by decide +kernel
theorem d_Tray_checksum_14 : decode b_Tray_checksum 14 = .ok (.iload_n 1, 1) := by decide +kernel
theorem d_Tray_checksum_15 : decode b_Tray_checksum 15 = .ok (.aload_n 0, 1) := by decide +kernel
theorem d_Tray_checksum_16 : decode b_Tray_checksum 16 = .ok (.getfield 9, 3) := by decide +kernel
theorem d_Tray_checksum_19 : decode b_Tray_checksum 19 = .ok (.iload_n 3, 1) := by decide +kernel
theorem d_Tray_checksum_20 : decode b_Tray_checksum 20 = .ok (.iaload, 1) := by decide +kernel
theorem d_Tray_checksum_21 : decode b_Tray_checksum 21 = .ok (.iadd, 1) := by decide +kernel
theorem d_Tray_checksum_22 : decode b_Tray_checksum 22 = .ok (.ldc 26, 2) := by decide +kernel
theorem d_Tray_checksum_24 : decode b_Tray_checksum 24 = .ok (.irem, 1) := by decide +kernel
theorem d_Tray_checksum_25 : decode b_Tray_checksum 25 = .ok (.istore_n 1, 1) := by decide +kernel
theorem d_Tray_checksum_26 : decode b_Tray_checksum 26 = .ok (.iload_n 2, 1) := by decide +kernel
theorem d_Tray_checksum_27 : decode b_Tray_checksum 27 = .ok (.iload_n 1, 1) := by decide +kernel
theorem d_Tray_checksum_28 : decode b_Tray_checksum 28 = .ok (.iadd, 1) := by decide +kernel
theorem d_Tray_checksum_29 : decode b_Tray_checksum 29 = .ok (.ldc 26, 2) := by decide +kernel
theorem d_Tray_checksum_31 : decode b_Tray_checksum 31 = .ok (.irem, 1) := by decide +kernel
theorem d_Tray_checksum_32 : decode b_Tray_checksum 32 = .ok (.istore_n 2, 1) := by decide +kernel
theorem d_Tray_checksum_33 : decode b_Tray_checksum 33 = .ok (.iinc 3 1, 3) := by decide +kernel
theorem d_Tray_checksum_36 : decode b_Tray_checksum 36 = .ok (.goto (-30), 3) := by decide +kernel
theorem d_Tray_checksum_39 : decode b_Tray_checksum 39 = .ok (.ldc2_w 27, 3) := by decide +kernel
theorem d_Tray_checksum_42 : decode b_Tray_checksum 42 = .ok (.iload_n 2, 1) := by decide +kernel
theorem d_Tray_checksum_43 : decode b_Tray_checksum 43 = .ok (.i2l, 1) := by decide +kernel
theorem d_Tray_checksum_44 : decode b_Tray_checksum 44 = .ok (.lmul, 1) := by decide +kernel
theorem d_Tray_checksum_45 : decode b_Tray_checksum 45 = .ok (.iload_n 1, 1) := by decide +kernel
theorem d_Tray_checksum_46 : decode b_Tray_checksum 46 = .ok (.i2l, 1) := by decide +kernel
theorem d_Tray_checksum_47 : decode b_Tray_checksum 47 = .ok (.ladd, 1) := by decide +kernel
theorem d_Tray_checksum_48 : decode b_Tray_checksum 48 = .ok (.lreturn, 1) := by decide +kernel

theorem d_Tray_changes_0 : decode b_Tray_changes 0 = .ok (.iconst 0, 1) := by decide +kernel
theorem d_Tray_changes_1 : decode b_Tray_changes 1 = .ok (.istore_n 1, 1) := by decide +kernel
theorem d_Tray_changes_2 : decode b_Tray_changes 2 = .ok (.iconst 1, 1) := by decide +kernel
theorem d_Tray_changes_3 : decode b_Tray_changes 3 = .ok (.istore_n 2, 1) := by decide +kernel
theorem d_Tray_changes_4 : decode b_Tray_changes 4 = .ok (.iload_n 2, 1) := by decide +kernel
theorem d_Tray_changes_5 : decode b_Tray_changes 5 = .ok (.aload_n 0, 1) := by decide +kernel
theorem d_Tray_changes_6 : decode b_Tray_changes 6 = .ok (.getfield 15, 3) := by decide +kernel
theorem d_Tray_changes_9 : decode b_Tray_changes 9 = .ok (.if_icmp .ge 29, 3) := by decide +kernel
theorem d_Tray_changes_12 : decode b_Tray_changes 12 = .ok (.aload_n 0, 1) := by decide +kernel
theorem d_Tray_changes_13 : decode b_Tray_changes 13 = .ok (.getfield 9, 3) := by decide +kernel
theorem d_Tray_changes_16 : decode b_Tray_changes 16 = .ok (.iload_n 2, 1) := by decide +kernel
theorem d_Tray_changes_17 : decode b_Tray_changes 17 = .ok (.iaload, 1) := by decide +kernel
theorem d_Tray_changes_18 : decode b_Tray_changes 18 = .ok (.aload_n 0, 1) := by decide +kernel
theorem d_Tray_changes_19 : decode b_Tray_changes 19 = .ok (.getfield 9, 3) := by decide +kernel
theorem d_Tray_changes_22 : decode b_Tray_changes 22 = .ok (.iload_n 2, 1) := by decide +kernel
theorem d_Tray_changes_23 : decode b_Tray_changes 23 = .ok (.iconst 1, 1) := by decide +kernel
theorem d_Tray_changes_24 : decode b_Tray_changes 24 = .ok (.isub, 1) := by decide +kernel
theorem d_Tray_changes_25 : decode b_Tray_changes 25 = .ok (.iaload, 1) := by decide +kernel
theorem d_Tray_changes_26 : decode b_Tray_changes 26 = .ok (.if_icmp .eq 6, 3) := by decide +kernel
theorem d_Tray_changes_29 : decode b_Tray_changes 29 = .ok (.iinc 1 1, 3) := by decide +kernel
theorem d_Tray_changes_32 : decode b_Tray_changes 32 = .ok (.iinc 2 1, 3) := by decide +kernel
theorem d_Tray_changes_35 : decode b_Tray_changes 35 = .ok (.goto (-31), 3) := by decide +kernel
theorem d_Tray_changes_38 : decode b_Tray_changes 38 = .ok (.iload_n 1, 1) := by decide +kernel
theorem d_Tray_changes_39 : decode b_Tray_changes 39 = .ok (.ireturn, 1) := by decide +kernel
end
section
theorem d_Thing_isInUse_0 : decode b_Thing_isInUse 0 = .ok (.aload_n 0, 1) := by decide +kernel
theorem d_Thing_isInUse_1 : decode b_Thing_isInUse 1 = .ok (.getfield 13, 3) := by decide +kernel
theorem d_Thing_isInUse_4 : decode b_Thing_isInUse 4 = .ok (.ifCond .le 7, 3) := by decide +kernel
theorem d_Thing_isInUse_7 : decode b_Thing_isInUse 7 = .ok (.iconst 1, 1) := by decide +kernel
theorem d_Thing_isInUse_8 : decode b_Thing_isInUse 8 = .ok (.goto 4, 3) := by decide +kernel
theorem d_Thing_isInUse_11 : decode b_Thing_isInUse 11 = .ok (.iconst 0, 1) := by decide +kernel
theorem d_Thing_isInUse_12 : decode b_Thing_isInUse 12 = .ok (.ireturn, 1) := by decide +kernel

theorem d_Thing_stateOfSource_0 : decode b_Thing_stateOfSource 0 = .ok (.aload_n 0, 1) := by decide +kernel
theorem d_Thing_stateOfSource_1 : decode b_Thing_stateOfSource 1 = .ok (.getfield 24, 3) := by decide +kernel
theorem d_Thing_stateOfSource_4 : decode b_Thing_stateOfSource 4 = .ok (.ifnonnull 7, 3) := by decide +kernel
theorem d_Thing_stateOfSource_7 : decode b_Thing_stateOfSource 7 = .ok (.lconst 0, 1) := by decide +kernel
theorem d_Thing_stateOfSource_8 : decode b_Thing_stateOfSource 8 = .ok (.goto 10, 3) := by decide +kernel
theorem d_Thing_stateOfSource_11 : decode b_Thing_stateOfSource 11 = .ok (.aload_n 0, 1) := by decide +kernel
theorem d_Thing_stateOfSource_12 : decode b_Thing_stateOfSource 12 = .ok (.getfield 24, 3) := by decide +kernel
theorem d_Thing_stateOfSource_15 : decode b_Thing_stateOfSource 15 = .ok (.getfield 20, 3) := by decide +kernel
theorem d_Thing_stateOfSource_18 : decode b_Thing_stateOfSource 18 = .ok (.lreturn, 1) := by decide +kernel

theorem d_Thing_leave_0 : decode b_Thing_leave 0 = .ok (.aload_n 0, 1) := by decide +kernel
theorem d_Thing_leave_1 : decode b_Thing_leave 1 = .ok (.iconst 0, 1) := by decide +kernel
theorem d_Thing_leave_2 : decode b_Thing_leave 2 = .ok (.putfield 16, 3) := by decide +kernel
theorem d_Thing_leave_5 : decode b_Thing_leave 5 = .ok (.aload_n 0, 1) := by decide +kernel
theorem d_Thing_leave_6 : decode b_Thing_leave 6 = .ok (.getfield 24, 3) := by decide +kernel
theorem d_Thing_leave_9 : decode b_Thing_leave 9 = .ok (.ifnull 16, 3) := by decide +kernel
theorem d_Thing_leave_12 : decode b_Thing_leave 12 = .ok (.aload_n 0, 1) := by decide +kernel
theorem d_Thing_leave_13 : decode b_Thing_leave 13 = .ok (.getfield 24, 3) := by decide +kernel
theorem d_Thing_leave_16 : decode b_Thing_leave 16 = .ok (.dup, 1) := by decide +kernel
theorem d_Thing_leave_17 : decode b_Thing_leave 17 = .ok (.getfield 13, 3) := by decide +kernel
theorem d_Thing_leave_20 : decode b_Thing_leave 20 = .ok (.iconst 1, 1) := by decide +kernel
theorem d_Thing_leave_21 : decode b_Thing_leave 21 = .ok (.isub, 1) := by decide +kernel
theorem d_Thing_leave_22 : decode b_Thing_leave 22 = .ok (.putfield 13, 3) := by decide +kernel
theorem d_Thing_leave_25 : decode b_Thing_leave 25 = .ok (.return_, 1) := by decide +kernel

theorem d_Thing_comparedWith_0 : decode b_Thing_comparedWith 0 = .ok (.aload_n 1, 1) := by decide +kernel
theorem d_Thing_comparedWith_1 : decode b_Thing_comparedWith 1 = .ok (.ifnull 15, 3) := by decide +kernel
theorem d_Thing_comparedWith_4 : decode b_Thing_comparedWith 4 = .ok (.aload_n 0, 1) := by decide +kernel
theorem d_Thing_comparedWith_5 : decode b_Thing_comparedWith 5 = .ok (.getfield 20, 3) := by decide +kernel
theorem d_Thing_comparedWith_8 : decode b_Thing_comparedWith 8 = .ok (.aload_n 1, 1) := by decide +kernel
theorem d_Thing_comparedWith_9 : decode b_Thing_comparedWith 9 = .ok (.getfield 20, 3) := by decide +kernel
theorem d_Thing_comparedWith_12 : decode b_Thing_comparedWith 12 = .ok (.lcmp, 1) := by decide +kernel
theorem d_Thing_comparedWith_13 : decode b_Thing_comparedWith 13 = .ok (.ifCond .ge 5, 3) := by decide +kernel
theorem d_Thing_comparedWith_16 : decode b_Thing_comparedWith 16 = .ok (.iconst 0, 1) := by decide +kernel
theorem d_Thing_comparedWith_17 : decode b_Thing_comparedWith 17 = .ok (.ireturn, 1) := by decide +kernel
theorem d_Thing_comparedWith_18 : decode b_Thing_comparedWith 18 = .ok (.aload_n 0, 1) := by decide +kernel
theorem d_Thing_comparedWith_19 : decode b_Thing_comparedWith 19 = .ok (.getfield 20, 3) := by decide +kernel
theorem d_Thing_comparedWith_22 : decode b_Thing_comparedWith 22 = .ok (.aload_n 1, 1) := by decide +kernel
theorem d_Thing_comparedWith_23 : decode b_Thing_comparedWith 23 = .ok (.getfield 20, 3) := by decide +kernel
theorem d_Thing_comparedWith_26 : decode b_Thing_comparedWith 26 = .ok (.lcmp, 1) := by decide +kernel
theorem d_Thing_comparedWith_27 : decode b_Thing_comparedWith 27 = .ok (.ifCond .ne 7, 3) := by decide +kernel
theorem d_Thing_comparedWith_30 : decode b_Thing_comparedWith 30 = .ok (.iconst 1, 1) := by decide +kernel
theorem d_Thing_comparedWith_31 : decode b_Thing_comparedWith 31 = .ok (.goto 4, 3) := by decide +kernel
theorem d_Thing_comparedWith_34 : decode b_Thing_comparedWith 34 = .ok (.iconst 2, 1) := by decide +kernel
theorem d_Thing_comparedWith_35 : decode b_Thing_comparedWith 35 = .ok (.ireturn, 1) := by decide +kernel

theorem d_Thing_init_0 : decode b_Thing_init 0 = .ok (.aload_n 0, 1) := by decide +kernel
theorem d_Thing_init_1 : decode b_Thing_init 1 = .ok (.invokespecial 1, 3) := by decide +kernel
theorem d_Thing_init_4 : decode b_Thing_init 4 = .ok (.aload_n 0, 1) := by decide +kernel
theorem d_Thing_init_5 : decode b_Thing_init 5 = .ok (.iconst 0, 1) := by decide +kernel
theorem d_Thing_init_6 : decode b_Thing_init 6 = .ok (.putfield 7, 3) := by decide +kernel
theorem d_Thing_init_9 : decode b_Thing_init 9 = .ok (.aload_n 0, 1) := by decide +kernel
theorem d_Thing_init_10 : decode b_Thing_init 10 = .ok (.iconst 0, 1) := by decide +kernel
theorem d_Thing_init_11 : decode b_Thing_init 11 = .ok (.putfield 13, 3) := by decide +kernel
theorem d_Thing_init_14 : decode b_Thing_init 14 = .ok (.aload_n 0, 1) := by decide +kernel
theorem d_Thing_init_15 : decode b_Thing_init 15 = .ok (.iconst 1, 1) := by decide +kernel
theorem d_Thing_init_16 : decode b_Thing_init 16 = .ok (.putfield 16, 3) := by decide +kernel
theorem d_Thing_init_19 : decode b_Thing_init 19 = .ok (.aload_n 0, 1) := by decide +kernel
theorem d_Thing_init_20 : decode b_Thing_init 20 = .ok (.lload_n 1, 1) := by decide +kernel
theorem d_Thing_init_21 : decode b_Thing_init 21 = .ok (.putfield 20, 3) := by decide +kernel
theorem d_Thing_init_24 : decode b_Thing_init 24 = .ok (.aload_n 0, 1) := by decide +kernel
theorem d_Thing_init_25 : decode b_Thing_init 25 = .ok (.aload_n 3, 1) := by decide +kernel
theorem d_Thing_init_26 : decode b_Thing_init 26 = .ok (.putfield 24, 3) := by decide +kernel
theorem d_Thing_init_29 : decode b_Thing_init 29 = .ok (.aload_n 3, 1) := by decide +kernel
theorem d_Thing_init_30 : decode b_Thing_init 30 = .ok (.ifnull 13, 3) := by decide +kernel
theorem d_Thing_init_33 : decode b_Thing_init 33 = .ok (.aload_n 3, 1) := by decide +kernel
theorem d_Thing_init_34 : decode b_Thing_init 34 = .ok (.dup, 1) := by decide +kernel
theorem d_Thing_init_35 : decode b_Thing_init 35 = .ok (.getfield 13, 3) := by decide +kernel
theorem d_Thing_init_38 : decode b_Thing_init 38 = .ok (.iconst 1, 1) := by decide +kernel
theorem d_Thing_init_39 : decode b_Thing_init 39 = .ok (.iadd, 1) := by decide +kernel
theorem d_Thing_init_40 : decode b_Thing_init 40 = .ok (.putfield 13, 3) := by decide +kernel
theorem d_Thing_init_43 : decode b_Thing_init 43 = .ok (.return_, 1) := by decide +kernel
end
section
theorem d_Shelf_isFull_0 : decode b_Shelf_isFull 0 = .ok (.aload_n 0, 1) := by decide +kernel
theorem d_Shelf_isFull_1 : decode b_Shelf_isFull 1 = .ok (.getfield 17, 3) := by decide +kernel
theorem d_Shelf_isFull_4 : decode b_Shelf_isFull 4 = .ok (.bipush 20, 2) := by decide +kernel
theorem d_Shelf_isFull_6 : decode b_Shelf_isFull 6 = .ok (.if_icmp .lt 7, 3) := by decide +kernel
theorem d_Shelf_isFull_9 : decode b_Shelf_isFull 9 = .ok (.iconst 1, 1) := by decide +kernel
theorem d_Shelf_isFull_10 : decode b_Shelf_isFull 10 = .ok (.goto 4, 3) := by decide +kernel
theorem d_Shelf_isFull_13 : decode b_Shelf_isFull 13 = .ok (.iconst 0, 1) := by decide +kernel
theorem d_Shelf_isFull_14 : decode b_Shelf_isFull 14 = .ok (.ireturn, 1) := by decide +kernel

theorem d_Shelf_put_0 : decode b_Shelf_put 0 = .ok (.aload_n 0, 1) := by decide +kernel
theorem d_Shelf_put_1 : decode b_Shelf_put 1 = .ok (.getfield 17, 3) := by decide +kernel
theorem d_Shelf_put_4 : decode b_Shelf_put 4 = .ok (.ifCond .lt 32, 3) := by decide +kernel
theorem d_Shelf_put_7 : decode b_Shelf_put 7 = .ok (.aload_n 0, 1) := by decide +kernel
theorem d_Shelf_put_8 : decode b_Shelf_put 8 = .ok (.getfield 17, 3) := by decide +kernel
theorem d_Shelf_put_11 : decode b_Shelf_put 11 = .ok (.bipush 20, 2) := by decide +kernel
theorem d_Shelf_put_13 : decode b_Shelf_put 13 = .ok (.if_icmp .ge 23, 3) := by decide +kernel
theorem d_Shelf_put_16 : decode b_Shelf_put 16 = .ok (.aload_n 0, 1) := by decide +kernel
theorem d_Shelf_put_17 : decode b_Shelf_put 17 = .ok (.getfield 11, 3) := by decide +kernel
theorem d_Shelf_put_20 : decode b_Shelf_put 20 = .ok (.aload_n 0, 1) := by decide +kernel
theorem d_Shelf_put_21 : decode b_Shelf_put 21 = .ok (.getfield 17, 3) := by decide +kernel
theorem d_Shelf_put_24 : decode b_Shelf_put 24 = .ok (.aload_n 1, 1) := by decide +kernel
theorem d_Shelf_put_25 : decode b_Shelf_put 25 = .ok (.aastore, 1) := by decide +kernel
theorem d_Shelf_put_26 : decode b_Shelf_put 26 = .ok (.aload_n 0, 1) := by decide +kernel
theorem d_Shelf_put_27 : decode b_Shelf_put 27 = .ok (.dup, 1) := by decide +kernel
theorem d_Shelf_put_28 : decode b_Shelf_put 28 = .ok (.getfield 17, 3) := by decide +kernel
theorem d_Shelf_put_31 : decode b_Shelf_put 31 = .ok (.iconst 1, 1) := by decide +kernel
theorem d_Shelf_put_32 : decode b_Shelf_put 32 = .ok (.iadd, 1) := by decide +kernel
theorem d_Shelf_put_33 : decode b_Shelf_put 33 = .ok (.putfield 17, 3) := by decide +kernel
theorem d_Shelf_put_36 : decode b_Shelf_put 36 = .ok (.return_, 1) := by decide +kernel

theorem d_Shelf_at_0 : decode b_Shelf_at 0 = .ok (.iload_n 1, 1) := by decide +kernel
theorem d_Shelf_at_1 : decode b_Shelf_at 1 = .ok (.ifCond .lt 9, 3) := by decide +kernel
theorem d_Shelf_at_4 : decode b_Shelf_at 4 = .ok (.iload_n 1, 1) := by decide +kernel
theorem d_Shelf_at_5 : decode b_Shelf_at 5 = .ok (.bipush 20, 2) := by decide +kernel
theorem d_Shelf_at_7 : decode b_Shelf_at 7 = .ok (.if_icmp .lt 5, 3) := by decide +kernel
theorem d_Shelf_at_10 : decode b_Shelf_at 10 = .ok (.aconst_null, 1) := by decide +kernel
theorem d_Shelf_at_11 : decode b_Shelf_at 11 = .ok (.areturn, 1) := by decide +kernel
theorem d_Shelf_at_12 : decode b_Shelf_at 12 = .ok (.aload_n 0, 1) := by decide +kernel
theorem d_Shelf_at_13 : decode b_Shelf_at 13 = .ok (.getfield 11, 3) := by decide +kernel
theorem d_Shelf_at_16 : decode b_Shelf_at 16 = .ok (.iload_n 1, 1) := by decide +kernel
theorem d_Shelf_at_17 : decode b_Shelf_at 17 = .ok (.aaload, 1) := by decide +kernel
theorem d_Shelf_at_18 : decode b_Shelf_at 18 = .ok (.astore_n 2, 1) := by decide +kernel
theorem d_Shelf_at_19 : decode b_Shelf_at 19 = .ok (.aload_n 2, 1) := by decide +kernel
theorem d_Shelf_at_20 : decode b_Shelf_at 20 = .ok (.ifnull 14, 3) := by decide +kernel
theorem d_Shelf_at_23 : decode b_Shelf_at 23 = .ok (.aload_n 2, 1) := by decide +kernel
theorem d_Shelf_at_24 : decode b_Shelf_at 24 = .ok (.getfield 21, 3) := by decide +kernel
theorem d_Shelf_at_27 : decode b_Shelf_at 27 = .ok (.ifCond .eq 7, 3) := by decide +kernel
theorem d_Shelf_at_30 : decode b_Shelf_at 30 = .ok (.aload_n 2, 1) := by decide +kernel
theorem d_Shelf_at_31 : decode b_Shelf_at 31 = .ok (.goto 4, 3) := by decide +kernel
theorem d_Shelf_at_34 : decode b_Shelf_at 34 = .ok (.aconst_null, 1) := by decide +kernel
theorem d_Shelf_at_35 : decode b_Shelf_at 35 = .ok (.areturn, 1) := by decide +kernel

theorem d_Shelf_countThere_0 : decode b_Shelf_countThere 0 = .ok (.iconst 0, 1) := by decide +kernel
theorem d_Shelf_countThere_1 : decode b_Shelf_countThere 1 = .ok (.istore_n 1, 1) := by decide +kernel
theorem d_Shelf_countThere_2 : decode b_Shelf_countThere 2 = .ok (.iconst 0, 1) := by decide +kernel
theorem d_Shelf_countThere_3 : decode b_Shelf_countThere 3 = .ok (.istore_n 2, 1) := by decide +kernel
theorem d_Shelf_countThere_4 : decode b_Shelf_countThere 4 = .ok (.iload_n 2, 1) := by decide +kernel
theorem d_Shelf_countThere_5 : decode b_Shelf_countThere 5 = .ok (.bipush 20, 2) := by decide +kernel
theorem d_Shelf_countThere_7 : decode b_Shelf_countThere 7 = .ok (.if_icmp .ge 20, 3) := by decide +kernel
theorem d_Shelf_countThere_10 : decode b_Shelf_countThere 10 = .ok (.aload_n 0, 1) := by decide +kernel
theorem d_Shelf_countThere_11 : decode b_Shelf_countThere 11 = .ok (.iload_n 2, 1) := by decide +kernel
theorem d_Shelf_countThere_12 : decode b_Shelf_countThere 12 = .ok (.invokevirtual 25, 3) := by decide +kernel
theorem d_Shelf_countThere_15 : decode b_Shelf_countThere 15 = .ok (.ifnull 6, 3) := by decide +kernel
theorem d_Shelf_countThere_18 : decode b_Shelf_countThere 18 = .ok (.iinc 1 1, 3) := by decide +kernel
theorem d_Shelf_countThere_21 : decode b_Shelf_countThere 21 = .ok (.iinc 2 1, 3) := by decide +kernel
theorem d_Shelf_countThere_24 : decode b_Shelf_countThere 24 = .ok (.goto (-20), 3) := by decide +kernel
theorem d_Shelf_countThere_27 : decode b_Shelf_countThere 27 = .ok (.iload_n 1, 1) := by decide +kernel
theorem d_Shelf_countThere_28 : decode b_Shelf_countThere 28 = .ok (.ireturn, 1) := by decide +kernel

theorem d_Shelf_sumOfStates_0 : decode b_Shelf_sumOfStates 0 = .ok (.lconst 0, 1) := by decide +kernel
theorem d_Shelf_sumOfStates_1 : decode b_Shelf_sumOfStates 1 = .ok (.lstore_n 1, 1) := by decide +kernel
theorem d_Shelf_sumOfStates_2 : decode b_Shelf_sumOfStates 2 = .ok (.iconst 0, 1) := by decide +kernel
theorem d_Shelf_sumOfStates_3 : decode b_Shelf_sumOfStates 3 = .ok (.istore_n 3, 1) := by decide +kernel
theorem d_Shelf_sumOfStates_4 : decode b_Shelf_sumOfStates 4 = .ok (.iload_n 3, 1) := by decide +kernel
theorem d_Shelf_sumOfStates_5 : decode b_Shelf_sumOfStates 5 = .ok (.bipush 20, 2) := by decide +kernel
theorem d_Shelf_sumOfStates_7 : decode b_Shelf_sumOfStates 7 = .ok (.if_icmp .ge 29, 3) := by decide +kernel
theorem d_Shelf_sumOfStates_10 : decode b_Shelf_sumOfStates 10 = .ok (.aload_n 0, 1) := by decide +kernel
theorem d_Shelf_sumOfStates_11 : decode b_Shelf_sumOfStates 11 = .ok (.iload_n 3, 1) := by decide +kernel
theorem d_Shelf_sumOfStates_12 : decode b_Shelf_sumOfStates 12 = .ok (.invokevirtual 25, 3) := by decide +kernel
theorem d_Shelf_sumOfStates_15 : decode b_Shelf_sumOfStates 15 = .ok (.astore 4, 2) := by decide +kernel
theorem d_Shelf_sumOfStates_17 : decode b_Shelf_sumOfStates 17 = .ok (.aload 4, 2) := by decide +kernel
theorem d_Shelf_sumOfStates_19 : decode b_Shelf_sumOfStates 19 = .ok (.ifnull 11, 3) := by decide +kernel
theorem d_Shelf_sumOfStates_22 : decode b_Shelf_sumOfStates 22 = .ok (.lload_n 1, 1) := by decide +kernel
theorem d_Shelf_sumOfStates_23 : decode b_Shelf_sumOfStates 23 = .ok (.aload 4, 2) := by decide +kernel
theorem d_Shelf_sumOfStates_25 : decode b_Shelf_sumOfStates 25 = .ok (.getfield 29, 3) := by decide +kernel
theorem d_Shelf_sumOfStates_28 : decode b_Shelf_sumOfStates 28 = .ok (.ladd, 1) := by decide +kernel
theorem d_Shelf_sumOfStates_29 : decode b_Shelf_sumOfStates 29 = .ok (.lstore_n 1, 1) := by decide +kernel
theorem d_Shelf_sumOfStates_30 : decode b_Shelf_sumOfStates 30 = .ok (.iinc 3 1, 3) := by decide +kernel
theorem d_Shelf_sumOfStates_33 : decode b_Shelf_sumOfStates 33 = .ok (.goto (-29), 3) := by decide +kernel
theorem d_Shelf_sumOfStates_36 : decode b_Shelf_sumOfStates 36 = .ok (.lload_n 1, 1) := by decide +kernel
theorem d_Shelf_sumOfStates_37 : decode b_Shelf_sumOfStates 37 = .ok (.lreturn, 1) := by decide +kernel

theorem d_Shelf_newest_0 : decode b_Shelf_newest 0 = .ok (.bipush 19, 2) := by decide +kernel
theorem d_Shelf_newest_2 : decode b_Shelf_newest 2 = .ok (.istore_n 1, 1) := by decide +kernel
theorem d_Shelf_newest_3 : decode b_Shelf_newest 3 = .ok (.iload_n 1, 1) := by decide +kernel
theorem d_Shelf_newest_4 : decode b_Shelf_newest 4 = .ok (.ifCond .lt 21, 3) := by decide +kernel
theorem d_Shelf_newest_7 : decode b_Shelf_newest 7 = .ok (.aload_n 0, 1) := by decide +kernel
theorem d_Shelf_newest_8 : decode b_Shelf_newest 8 = .ok (.iload_n 1, 1) := by decide +kernel
theorem d_Shelf_newest_9 : decode b_Shelf_newest 9 = .ok (.invokevirtual 25, 3) := by decide +kernel
theorem d_Shelf_newest_12 : decode b_Shelf_newest 12 = .ok (.astore_n 2, 1) := by decide +kernel
theorem d_Shelf_newest_13 : decode b_Shelf_newest 13 = .ok (.aload_n 2, 1) := by decide +kernel
theorem d_Shelf_newest_14 : decode b_Shelf_newest 14 = .ok (.ifnull 5, 3) := by decide +kernel
theorem d_Shelf_newest_17 : decode b_Shelf_newest 17 = .ok (.aload_n 2, 1) := by decide +kernel
theorem d_Shelf_newest_18 : decode b_Shelf_newest 18 = .ok (.areturn, 1) := by decide +kernel
theorem d_Shelf_newest_19 : decode b_Shelf_newest 19 = .ok (.iinc 1 (-1), 3) := by decide +kernel
theorem d_Shelf_newest_22 : decode b_Shelf_newest 22 = .ok (.goto (-19), 3) := by decide +kernel
theorem d_Shelf_newest_25 : decode b_Shelf_newest 25 = .ok (.aconst_null, 1) := by decide +kernel
theorem d_Shelf_newest_26 : decode b_Shelf_newest 26 = .ok (.areturn, 1) := by decide +kernel
end
section
theorem d_CarDesk_refuse_0 : decode b_CarDesk_refuse 0 = .ok (.aload_n 0, 1) := by decide +kernel
theorem d_CarDesk_refuse_1 : decode b_CarDesk_refuse 1 = .ok (.dup, 1) := by decide +kernel
theorem d_CarDesk_refuse_2 : decode b_CarDesk_refuse 2 = .ok (.getfield 38, 3) := by decide +kernel
theorem d_CarDesk_refuse_5 : decode b_CarDesk_refuse 5 = .ok (.iconst 1, 1) := by decide +kernel
theorem d_CarDesk_refuse_6 : decode b_CarDesk_refuse 6 = .ok (.iadd, 1) := by decide +kernel
theorem d_CarDesk_refuse_7 : decode b_CarDesk_refuse 7 = .ok (.putfield 38, 3) := by decide +kernel
theorem d_CarDesk_refuse_10 : decode b_CarDesk_refuse 10 = .ok (.iload_n 1, 1) := by decide +kernel
theorem d_CarDesk_refuse_11 : decode b_CarDesk_refuse 11 = .ok (.ireturn, 1) := by decide +kernel

theorem d_CarDesk_tellFailed_0 : decode b_CarDesk_tellFailed 0 = .ok (.aload_n 0, 1) := by decide +kernel
theorem d_CarDesk_tellFailed_1 : decode b_CarDesk_tellFailed 1 = .ok (.dup, 1) := by decide +kernel
theorem d_CarDesk_tellFailed_2 : decode b_CarDesk_tellFailed 2 = .ok (.getfield 42, 3) := by decide +kernel
theorem d_CarDesk_tellFailed_5 : decode b_CarDesk_tellFailed 5 = .ok (.iconst 1, 1) := by decide +kernel
theorem d_CarDesk_tellFailed_6 : decode b_CarDesk_tellFailed 6 = .ok (.iadd, 1) := by decide +kernel
theorem d_CarDesk_tellFailed_7 : decode b_CarDesk_tellFailed 7 = .ok (.putfield 42, 3) := by decide +kernel
theorem d_CarDesk_tellFailed_10 : decode b_CarDesk_tellFailed 10 = .ok (.aload_n 0, 1) := by decide +kernel
theorem d_CarDesk_tellFailed_11 : decode b_CarDesk_tellFailed 11 = .ok (.iload_n 1, 1) := by decide +kernel
theorem d_CarDesk_tellFailed_12 : decode b_CarDesk_tellFailed 12 = .ok (.putfield 45, 3) := by decide +kernel
theorem d_CarDesk_tellFailed_15 : decode b_CarDesk_tellFailed 15 = .ok (.aload_n 0, 1) := by decide +kernel
theorem d_CarDesk_tellFailed_16 : decode b_CarDesk_tellFailed 16 = .ok (.iload_n 2, 1) := by decide +kernel
theorem d_CarDesk_tellFailed_17 : decode b_CarDesk_tellFailed 17 = .ok (.putfield 48, 3) := by decide +kernel
theorem d_CarDesk_tellFailed_20 : decode b_CarDesk_tellFailed 20 = .ok (.aload_n 0, 1) := by decide +kernel
theorem d_CarDesk_tellFailed_21 : decode b_CarDesk_tellFailed 21 = .ok (.iload_n 3, 1) := by decide +kernel
theorem d_CarDesk_tellFailed_22 : decode b_CarDesk_tellFailed 22 = .ok (.putfield 51, 3) := by decide +kernel
theorem d_CarDesk_tellFailed_25 : decode b_CarDesk_tellFailed 25 = .ok (.return_, 1) := by decide +kernel

theorem d_CarDesk_isKind_0 : decode b_CarDesk_isKind 0 = .ok (.iload_n 0, 1) := by decide +kernel
theorem d_CarDesk_isKind_1 : decode b_CarDesk_isKind 1 = .ok (.ifCond .lt 13, 3) := by decide +kernel
theorem d_CarDesk_isKind_4 : decode b_CarDesk_isKind 4 = .ok (.iload_n 0, 1) := by decide +kernel
theorem d_CarDesk_isKind_5 : decode b_CarDesk_isKind 5 = .ok (.bipush 6, 2) := by decide +kernel
theorem d_CarDesk_isKind_7 : decode b_CarDesk_isKind 7 = .ok (.if_icmp .ge 7, 3) := by decide +kernel
theorem d_CarDesk_isKind_10 : decode b_CarDesk_isKind 10 = .ok (.iconst 1, 1) := by decide +kernel
theorem d_CarDesk_isKind_11 : decode b_CarDesk_isKind 11 = .ok (.goto 4, 3) := by decide +kernel
theorem d_CarDesk_isKind_14 : decode b_CarDesk_isKind 14 = .ok (.iconst 0, 1) := by decide +kernel
theorem d_CarDesk_isKind_15 : decode b_CarDesk_isKind 15 = .ok (.ireturn, 1) := by decide +kernel

theorem d_CarDesk_isCall_0 : decode b_CarDesk_isCall 0 = .ok (.iload_n 0, 1) := by decide +kernel
theorem d_CarDesk_isCall_1 : decode b_CarDesk_isCall 1 = .ok (.ifCond .lt 13, 3) := by decide +kernel
theorem d_CarDesk_isCall_4 : decode b_CarDesk_isCall 4 = .ok (.iload_n 0, 1) := by decide +kernel
theorem d_CarDesk_isCall_5 : decode b_CarDesk_isCall 5 = .ok (.bipush 24, 2) := by decide +kernel
theorem d_CarDesk_isCall_7 : decode b_CarDesk_isCall 7 = .ok (.if_icmp .ge 7, 3) := by decide +kernel
theorem d_CarDesk_isCall_10 : decode b_CarDesk_isCall 10 = .ok (.iconst 1, 1) := by decide +kernel
theorem d_CarDesk_isCall_11 : decode b_CarDesk_isCall 11 = .ok (.goto 4, 3) := by decide +kernel
theorem d_CarDesk_isCall_14 : decode b_CarDesk_isCall 14 = .ok (.iconst 0, 1) := by decide +kernel
theorem d_CarDesk_isCall_15 : decode b_CarDesk_isCall 15 = .ok (.ireturn, 1) := by decide +kernel

theorem d_CarDesk_isArgument_0 : decode b_CarDesk_isArgument 0 = .ok (.lload_n 0, 1) := by decide +kernel
theorem d_CarDesk_isArgument_1 : decode b_CarDesk_isArgument 1 = .ok (.ldc2_w 158, 3) := by decide +kernel
theorem d_CarDesk_isArgument_4 : decode b_CarDesk_isArgument 4 = .ok (.lcmp, 1) := by decide +kernel
theorem d_CarDesk_isArgument_5 : decode b_CarDesk_isArgument 5 = .ok (.ifCond .lt 15, 3) := by decide +kernel
theorem d_CarDesk_isArgument_8 : decode b_CarDesk_isArgument 8 = .ok (.lload_n 0, 1) := by decide +kernel
theorem d_CarDesk_isArgument_9 : decode b_CarDesk_isArgument 9 = .ok (.ldc2_w 160, 3) := by decide +kernel
theorem d_CarDesk_isArgument_12 : decode b_CarDesk_isArgument 12 = .ok (.lcmp, 1) := by decide +kernel
theorem d_CarDesk_isArgument_13 : decode b_CarDesk_isArgument 13 = .ok (.ifCond .gt 7, 3) := by decide +kernel
theorem d_CarDesk_isArgument_16 : decode b_CarDesk_isArgument 16 = .ok (.iconst 1, 1) := by decide +kernel
theorem d_CarDesk_isArgument_17 : decode b_CarDesk_isArgument 17 = .ok (.goto 4, 3) := by decide +kernel
theorem d_CarDesk_isArgument_20 : decode b_CarDesk_isArgument 20 = .ok (.iconst 0, 1) := by decide +kernel
theorem d_CarDesk_isArgument_21 : decode b_CarDesk_isArgument 21 = .ok (.ireturn, 1) := by decide +kernel

theorem d_CarDesk_turnedLeft_0 : decode b_CarDesk_turnedLeft 0 = .ok (.lload_n 0, 1) := by decide +kernel
theorem d_CarDesk_turnedLeft_1 : decode b_CarDesk_turnedLeft 1 = .ok (.iload_n 2, 1) := by decide +kernel
theorem d_CarDesk_turnedLeft_2 : decode b_CarDesk_turnedLeft 2 = .ok (.lshl, 1) := by decide +kernel
theorem d_CarDesk_turnedLeft_3 : decode b_CarDesk_turnedLeft 3 = .ok (.lload_n 0, 1) := by decide +kernel
theorem d_CarDesk_turnedLeft_4 : decode b_CarDesk_turnedLeft 4 = .ok (.bipush 64, 2) := by decide +kernel
theorem d_CarDesk_turnedLeft_6 : decode b_CarDesk_turnedLeft 6 = .ok (.iload_n 2, 1) := by decide +kernel
theorem d_CarDesk_turnedLeft_7 : decode b_CarDesk_turnedLeft 7 = .ok (.isub, 1) := by decide +kernel
theorem d_CarDesk_turnedLeft_8 : decode b_CarDesk_turnedLeft 8 = .ok (.lushr, 1) := by decide +kernel
theorem d_CarDesk_turnedLeft_9 : decode b_CarDesk_turnedLeft 9 = .ok (.lor, 1) := by decide +kernel
theorem d_CarDesk_turnedLeft_10 : decode b_CarDesk_turnedLeft 10 = .ok (.lreturn, 1) := by decide +kernel

theorem d_CarDesk_trayOfSort_0 : decode b_CarDesk_trayOfSort 0 = .ok (.iload_n 1, 1) := by decide +kernel
theorem d_CarDesk_trayOfSort_1 : decode b_CarDesk_trayOfSort 1 = .ok (.tableswitch 42 0 2 #[27, 32, 37], 27) := by decide +kernel
theorem d_CarDesk_trayOfSort_28 : decode b_CarDesk_trayOfSort 28 = .ok (.aload_n 0, 1) := by decide +kernel
theorem d_CarDesk_trayOfSort_29 : decode b_CarDesk_trayOfSort 29 = .ok (.getfield 12, 3) := by decide +kernel
theorem d_CarDesk_trayOfSort_32 : decode b_CarDesk_trayOfSort 32 = .ok (.areturn, 1) := by decide +kernel
theorem d_CarDesk_trayOfSort_33 : decode b_CarDesk_trayOfSort 33 = .ok (.aload_n 0, 1) := by decide +kernel
theorem d_CarDesk_trayOfSort_34 : decode b_CarDesk_trayOfSort 34 = .ok (.getfield 18, 3) := by decide +kernel
theorem d_CarDesk_trayOfSort_37 : decode b_CarDesk_trayOfSort 37 = .ok (.areturn, 1) := by decide +kernel
theorem d_CarDesk_trayOfSort_38 : decode b_CarDesk_trayOfSort 38 = .ok (.aload_n 0, 1) := by decide +kernel
theorem d_CarDesk_trayOfSort_39 : decode b_CarDesk_trayOfSort 39 = .ok (.getfield 21, 3) := by decide +kernel
theorem d_CarDesk_trayOfSort_42 : decode b_CarDesk_trayOfSort 42 = .ok (.areturn, 1) := by decide +kernel
theorem d_CarDesk_trayOfSort_43 : decode b_CarDesk_trayOfSort 43 = .ok (.aconst_null, 1) := by decide +kernel
theorem d_CarDesk_trayOfSort_44 : decode b_CarDesk_trayOfSort 44 = .ok (.areturn, 1) := by decide +kernel

theorem d_CarDesk_trayOfKind_0 : decode b_CarDesk_trayOfKind 0 = .ok (.iload_n 1, 1) := by decide +kernel
theorem d_CarDesk_trayOfKind_1 : decode b_CarDesk_trayOfKind 1 = .ok (.tableswitch 50 0 4 #[35, 50, 40, 50, 45], 35) := by decide +kernel
theorem d_CarDesk_trayOfKind_36 : decode b_CarDesk_trayOfKind 36 = .ok (.aload_n 0, 1) := by decide +kernel
theorem d_CarDesk_trayOfKind_37 : decode b_CarDesk_trayOfKind 37 = .ok (.getfield 12, 3) := by decide +kernel
theorem d_CarDesk_trayOfKind_40 : decode b_CarDesk_trayOfKind 40 = .ok (.areturn, 1) := by decide +kernel
theorem d_CarDesk_trayOfKind_41 : decode b_CarDesk_trayOfKind 41 = .ok (.aload_n 0, 1) := by decide +kernel
theorem d_CarDesk_trayOfKind_42 : decode b_CarDesk_trayOfKind 42 = .ok (.getfield 18, 3) := by decide +kernel
theorem d_CarDesk_trayOfKind_45 : decode b_CarDesk_trayOfKind 45 = .ok (.areturn, 1) := by decide +kernel
theorem d_CarDesk_trayOfKind_46 : decode b_CarDesk_trayOfKind 46 = .ok (.aload_n 0, 1) := by decide +kernel
theorem d_CarDesk_trayOfKind_47 : decode b_CarDesk_trayOfKind 47 = .ok (.getfield 21, 3) := by decide +kernel
theorem d_CarDesk_trayOfKind_50 : decode b_CarDesk_trayOfKind 50 = .ok (.areturn, 1) := by decide +kernel
theorem d_CarDesk_trayOfKind_51 : decode b_CarDesk_trayOfKind 51 = .ok (.aconst_null, 1) := by decide +kernel
theorem d_CarDesk_trayOfKind_52 : decode b_CarDesk_trayOfKind 52 = .ok (.areturn, 1) := by decide +kernel

theorem d_CarDesk_canBeMade_0 : decode b_CarDesk_canBeMade 0 = .ok (.aload_n 0, 1) := by decide +kernel
theorem d_CarDesk_canBeMade_1 : decode b_CarDesk_canBeMade 1 = .ok (.iload_n 1, 1) := by decide +kernel
theorem d_CarDesk_canBeMade_2 : decode b_CarDesk_canBeMade 2 = .ok (.invokevirtual 162, 3) := by decide +kernel
theorem d_CarDesk_canBeMade_5 : decode b_CarDesk_canBeMade 5 = .ok (.astore_n 2, 1) := by decide +kernel
theorem d_CarDesk_canBeMade_6 : decode b_CarDesk_canBeMade 6 = .ok (.aload_n 2, 1) := by decide +kernel
theorem d_CarDesk_canBeMade_7 : decode b_CarDesk_canBeMade 7 = .ok (.ifnull 16, 3) := by decide +kernel
theorem d_CarDesk_canBeMade_10 : decode b_CarDesk_canBeMade 10 = .ok (.aload_n 2, 1) := by decide +kernel
theorem d_CarDesk_canBeMade_11 : decode b_CarDesk_canBeMade 11 = .ok (.getfield 82, 3) := by decide +kernel
theorem d_CarDesk_canBeMade_14 : decode b_CarDesk_canBeMade 14 = .ok (.ifCond .le 7, 3) := by decide +kernel
theorem d_CarDesk_canBeMade_17 : decode b_CarDesk_canBeMade 17 = .ok (.iconst 1, 1) := by decide +kernel
theorem d_CarDesk_canBeMade_18 : decode b_CarDesk_canBeMade 18 = .ok (.goto 4, 3) := by decide +kernel
theorem d_CarDesk_canBeMade_21 : decode b_CarDesk_canBeMade 21 = .ok (.iconst 0, 1) := by decide +kernel
theorem d_CarDesk_canBeMade_22 : decode b_CarDesk_canBeMade 22 = .ok (.ireturn, 1) := by decide +kernel
theorem d_CarDesk_canBeMade_23 : decode b_CarDesk_canBeMade 23 = .ok (.iload_n 1, 1) := by decide +kernel
theorem d_CarDesk_canBeMade_24 : decode b_CarDesk_canBeMade 24 = .ok (.iconst 1, 1) := by decide +kernel
theorem d_CarDesk_canBeMade_25 : decode b_CarDesk_canBeMade 25 = .ok (.if_icmp .ne 7, 3) := by decide +kernel
theorem d_CarDesk_canBeMade_28 : decode b_CarDesk_canBeMade 28 = .ok (.iconst 0, 1) := by decide +kernel
theorem d_CarDesk_canBeMade_29 : decode b_CarDesk_canBeMade 29 = .ok (.goto 4, 3) := by decide +kernel
theorem d_CarDesk_canBeMade_32 : decode b_CarDesk_canBeMade 32 = .ok (.iconst 1, 1) := by decide +kernel
theorem d_CarDesk_canBeMade_33 : decode b_CarDesk_canBeMade 33 = .ok (.istore_n 3, 1) := by decide +kernel
theorem d_CarDesk_canBeMade_34 : decode b_CarDesk_canBeMade 34 = .ok (.aload_n 0, 1) := by decide +kernel
theorem d_CarDesk_canBeMade_35 : decode b_CarDesk_canBeMade 35 = .ok (.getfield 26, 3) := by decide +kernel
theorem d_CarDesk_canBeMade_38 : decode b_CarDesk_canBeMade 38 = .ok (.iload_n 3, 1) := by decide +kernel
theorem d_CarDesk_canBeMade_39 : decode b_CarDesk_canBeMade 39 = .ok (.aaload, 1) := by decide +kernel
theorem d_CarDesk_canBeMade_40 : decode b_CarDesk_canBeMade 40 = .ok (.invokevirtual 165, 3) := by decide +kernel
theorem d_CarDesk_canBeMade_43 : decode b_CarDesk_canBeMade 43 = .ok (.ifnull 7, 3) := by decide +kernel
theorem d_CarDesk_canBeMade_46 : decode b_CarDesk_canBeMade 46 = .ok (.iconst 1, 1) := by decide +kernel
theorem d_CarDesk_canBeMade_47 : decode b_CarDesk_canBeMade 47 = .ok (.goto 4, 3) := by decide +kernel
theorem d_CarDesk_canBeMade_50 : decode b_CarDesk_canBeMade 50 = .ok (.iconst 0, 1) := by decide +kernel
theorem d_CarDesk_canBeMade_51 : decode b_CarDesk_canBeMade 51 = .ok (.ireturn, 1) := by decide +kernel

theorem d_CarDesk_sourceOf_0 : decode b_CarDesk_sourceOf 0 = .ok (.iload_n 1, 1) := by decide +kernel
theorem d_CarDesk_sourceOf_1 : decode b_CarDesk_sourceOf 1 = .ok (.lookupswitch 47 #[(1, 27), (3, 37)], 27) := by decide +kernel
theorem d_CarDesk_sourceOf_28 : decode b_CarDesk_sourceOf 28 = .ok (.aload_n 0, 1) := by decide +kernel
theorem d_CarDesk_sourceOf_29 : decode b_CarDesk_sourceOf 29 = .ok (.getfield 26, 3) := by decide +kernel
theorem d_CarDesk_sourceOf_32 : decode b_CarDesk_sourceOf 32 = .ok (.iconst 0, 1) := by decide +kernel
theorem d_CarDesk_sourceOf_33 : decode b_CarDesk_sourceOf 33 = .ok (.aaload, 1) := by decide +kernel
theorem d_CarDesk_sourceOf_34 : decode b_CarDesk_sourceOf 34 = .ok (.invokevirtual 165, 3) := by decide +kernel
theorem d_CarDesk_sourceOf_37 : decode b_CarDesk_sourceOf 37 = .ok (.areturn, 1) := by decide +kernel
theorem d_CarDesk_sourceOf_38 : decode b_CarDesk_sourceOf 38 = .ok (.aload_n 0, 1) := by decide +kernel
theorem d_CarDesk_sourceOf_39 : decode b_CarDesk_sourceOf 39 = .ok (.getfield 26, 3) := by decide +kernel
theorem d_CarDesk_sourceOf_42 : decode b_CarDesk_sourceOf 42 = .ok (.iconst 1, 1) := by decide +kernel
theorem d_CarDesk_sourceOf_43 : decode b_CarDesk_sourceOf 43 = .ok (.aaload, 1) := by decide +kernel
theorem d_CarDesk_sourceOf_44 : decode b_CarDesk_sourceOf 44 = .ok (.invokevirtual 165, 3) := by decide +kernel
theorem d_CarDesk_sourceOf_47 : decode b_CarDesk_sourceOf 47 = .ok (.areturn, 1) := by decide +kernel
theorem d_CarDesk_sourceOf_48 : decode b_CarDesk_sourceOf 48 = .ok (.aconst_null, 1) := by decide +kernel
theorem d_CarDesk_sourceOf_49 : decode b_CarDesk_sourceOf 49 = .ok (.areturn, 1) := by decide +kernel
end
section
theorem d_CarDesk_firstState_0 : decode b_CarDesk_firstState 0 = .ok (.iload_n 1, 1) := by decide +kernel
theorem d_CarDesk_firstState_1 : decode b_CarDesk_firstState 1 = .ok (.tableswitch 88 0 4 #[35, 43, 56, 78, 80], 35) := by decide +kernel
theorem d_CarDesk_firstState_36 : decode b_CarDesk_firstState 36 = .ok (.aload_n 0, 1) := by decide +kernel
theorem d_CarDesk_firstState_37 : decode b_CarDesk_firstState 37 = .ok (.getfield 12, 3) := by decide +kernel
theorem d_CarDesk_firstState_40 : decode b_CarDesk_firstState 40 = .ok (.invokevirtual 169, 3) := by decide +kernel
theorem d_CarDesk_firstState_43 : decode b_CarDesk_firstState 43 = .ok (.lreturn, 1) := by decide +kernel
theorem d_CarDesk_firstState_44 : decode b_CarDesk_firstState 44 = .ok (.aload_n 2, 1) := by decide +kernel
theorem d_CarDesk_firstState_45 : decode b_CarDesk_firstState 45 = .ok (.ifnonnull 7, 3) := by decide +kernel
theorem d_CarDesk_firstState_48 : decode b_CarDesk_firstState 48 = .ok (.lconst 0, 1) := by decide +kernel
theorem d_CarDesk_firstState_49 : decode b_CarDesk_firstState 49 = .ok (.goto 7, 3) := by decide +kernel
theorem d_CarDesk_firstState_52 : decode b_CarDesk_firstState 52 = .ok (.aload_n 2, 1) := by decide +kernel
theorem d_CarDesk_firstState_53 : decode b_CarDesk_firstState 53 = .ok (.getfield 173, 3) := by decide +kernel
theorem d_CarDesk_firstState_56 : decode b_CarDesk_firstState 56 = .ok (.lreturn, 1) := by decide +kernel
theorem d_CarDesk_firstState_57 : decode b_CarDesk_firstState 57 = .ok (.ldc2_w 177, 3) := by decide +kernel
theorem d_CarDesk_firstState_60 : decode b_CarDesk_firstState 60 = .ok (.aload_n 0, 1) := by decide +kernel
theorem d_CarDesk_firstState_61 : decode b_CarDesk_firstState 61 = .ok (.getfield 18, 3) := by decide +kernel
theorem d_CarDesk_firstState_64 : decode b_CarDesk_firstState 64 = .ok (.invokevirtual 179, 3) := by decide +kernel
theorem d_CarDesk_firstState_67 : decode b_CarDesk_firstState 67 = .ok (.i2l, 1) := by decide +kernel
theorem d_CarDesk_firstState_68 : decode b_CarDesk_firstState 68 = .ok (.lmul, 1) := by decide +kernel
theorem d_CarDesk_firstState_69 : decode b_CarDesk_firstState 69 = .ok (.aload_n 0, 1) := by decide +kernel
theorem d_CarDesk_firstState_70 : decode b_CarDesk_firstState 70 = .ok (.getfield 18, 3) := by decide +kernel
theorem d_CarDesk_firstState_73 : decode b_CarDesk_firstState 73 = .ok (.invokevirtual 182, 3) := by decide +kernel
theorem d_CarDesk_firstState_76 : decode b_CarDesk_firstState 76 = .ok (.i2l, 1) := by decide +kernel
theorem d_CarDesk_firstState_77 : decode b_CarDesk_firstState 77 = .ok (.ladd, 1) := by decide +kernel
theorem d_CarDesk_firstState_78 : decode b_CarDesk_firstState 78 = .ok (.lreturn, 1) := by decide +kernel
theorem d_CarDesk_firstState_79 : decode b_CarDesk_firstState 79 = .ok (.lconst 0, 1) := by decide +kernel
theorem d_CarDesk_firstState_80 : decode b_CarDesk_firstState 80 = .ok (.lreturn, 1) := by decide +kernel
theorem d_CarDesk_firstState_81 : decode b_CarDesk_firstState 81 = .ok (.aload_n 0, 1) := by decide +kernel
theorem d_CarDesk_firstState_82 : decode b_CarDesk_firstState 82 = .ok (.getfield 21, 3) := by decide +kernel
theorem d_CarDesk_firstState_85 : decode b_CarDesk_firstState 85 = .ok (.invokevirtual 185, 3) := by decide +kernel
theorem d_CarDesk_firstState_88 : decode b_CarDesk_firstState 88 = .ok (.lreturn, 1) := by decide +kernel
theorem d_CarDesk_firstState_89 : decode b_CarDesk_firstState 89 = .ok (.aload_n 0, 1) := by decide +kernel
theorem d_CarDesk_firstState_90 : decode b_CarDesk_firstState 90 = .ok (.getfield 26, 3) := by decide +kernel
theorem d_CarDesk_firstState_93 : decode b_CarDesk_firstState 93 = .ok (.iconst 1, 1) := by decide +kernel
theorem d_CarDesk_firstState_94 : decode b_CarDesk_firstState 94 = .ok (.aaload, 1) := by decide +kernel
theorem d_CarDesk_firstState_95 : decode b_CarDesk_firstState 95 = .ok (.invokevirtual 152, 3) := by decide +kernel
theorem d_CarDesk_firstState_98 : decode b_CarDesk_firstState 98 = .ok (.i2l, 1) := by decide +kernel
theorem d_CarDesk_firstState_99 : decode b_CarDesk_firstState 99 = .ok (.lreturn, 1) := by decide +kernel

theorem d_CarDesk_emptyTrayOf_0 : decode b_CarDesk_emptyTrayOf 0 = .ok (.aload_n 0, 1) := by decide +kernel
theorem d_CarDesk_emptyTrayOf_1 : decode b_CarDesk_emptyTrayOf 1 = .ok (.iload_n 1, 1) := by decide +kernel
theorem d_CarDesk_emptyTrayOf_2 : decode b_CarDesk_emptyTrayOf 2 = .ok (.invokevirtual 162, 3) := by decide +kernel
theorem d_CarDesk_emptyTrayOf_5 : decode b_CarDesk_emptyTrayOf 5 = .ok (.astore_n 2, 1) := by decide +kernel
theorem d_CarDesk_emptyTrayOf_6 : decode b_CarDesk_emptyTrayOf 6 = .ok (.aload_n 2, 1) := by decide +kernel
theorem d_CarDesk_emptyTrayOf_7 : decode b_CarDesk_emptyTrayOf 7 = .ok (.ifnull 7, 3) := by decide +kernel
theorem d_CarDesk_emptyTrayOf_10 : decode b_CarDesk_emptyTrayOf 10 = .ok (.aload_n 2, 1) := by decide +kernel
theorem d_CarDesk_emptyTrayOf_11 : decode b_CarDesk_emptyTrayOf 11 = .ok (.invokevirtual 188, 3) := by decide +kernel
theorem d_CarDesk_emptyTrayOf_14 : decode b_CarDesk_emptyTrayOf 14 = .ok (.return_, 1) := by decide +kernel

theorem d_CarDesk_thingOf_0 : decode b_CarDesk_thingOf 0 = .ok (.lload_n 1, 1) := by decide +kernel
theorem d_CarDesk_thingOf_1 : decode b_CarDesk_thingOf 1 = .ok (.lconst 0, 1) := by decide +kernel
theorem d_CarDesk_thingOf_2 : decode b_CarDesk_thingOf 2 = .ok (.lcmp, 1) := by decide +kernel
theorem d_CarDesk_thingOf_3 : decode b_CarDesk_thingOf 3 = .ok (.ifCond .lt 11, 3) := by decide +kernel
theorem d_CarDesk_thingOf_6 : decode b_CarDesk_thingOf 6 = .ok (.lload_n 1, 1) := by decide +kernel
theorem d_CarDesk_thingOf_7 : decode b_CarDesk_thingOf 7 = .ok (.ldc2_w 191, 3) := by decide +kernel
theorem d_CarDesk_thingOf_10 : decode b_CarDesk_thingOf 10 = .ok (.lcmp, 1) := by decide +kernel
theorem d_CarDesk_thingOf_11 : decode b_CarDesk_thingOf 11 = .ok (.ifCond .lt 5, 3) := by decide +kernel
theorem d_CarDesk_thingOf_14 : decode b_CarDesk_thingOf 14 = .ok (.aconst_null, 1) := by decide +kernel
theorem d_CarDesk_thingOf_15 : decode b_CarDesk_thingOf 15 = .ok (.areturn, 1) := by decide +kernel
theorem d_CarDesk_thingOf_16 : decode b_CarDesk_thingOf 16 = .ok (.lload_n 1, 1) := by decide +kernel
theorem d_CarDesk_thingOf_17 : decode b_CarDesk_thingOf 17 = .ok (.l2i, 1) := by decide +kernel
theorem d_CarDesk_thingOf_18 : decode b_CarDesk_thingOf 18 = .ok (.istore_n 3, 1) := by decide +kernel
theorem d_CarDesk_thingOf_19 : decode b_CarDesk_thingOf 19 = .ok (.aload_n 0, 1) := by decide +kernel
theorem d_CarDesk_thingOf_20 : decode b_CarDesk_thingOf 20 = .ok (.getfield 26, 3) := by decide +kernel
theorem d_CarDesk_thingOf_23 : decode b_CarDesk_thingOf 23 = .ok (.iload_n 3, 1) := by decide +kernel
theorem d_CarDesk_thingOf_24 : decode b_CarDesk_thingOf 24 = .ok (.bipush 64, 2) := by decide +kernel
theorem d_CarDesk_thingOf_26 : decode b_CarDesk_thingOf 26 = .ok (.idiv, 1) := by decide +kernel
theorem d_CarDesk_thingOf_27 : decode b_CarDesk_thingOf 27 = .ok (.aaload, 1) := by decide +kernel
theorem d_CarDesk_thingOf_28 : decode b_CarDesk_thingOf 28 = .ok (.iload_n 3, 1) := by decide +kernel
theorem d_CarDesk_thingOf_29 : decode b_CarDesk_thingOf 29 = .ok (.bipush 64, 2) := by decide +kernel
theorem d_CarDesk_thingOf_31 : decode b_CarDesk_thingOf 31 = .ok (.irem, 1) := by decide +kernel
theorem d_CarDesk_thingOf_32 : decode b_CarDesk_thingOf 32 = .ok (.iconst 1, 1) := by decide +kernel
theorem d_CarDesk_thingOf_33 : decode b_CarDesk_thingOf 33 = .ok (.isub, 1) := by decide +kernel
theorem d_CarDesk_thingOf_34 : decode b_CarDesk_thingOf 34 = .ok (.invokevirtual 193, 3) := by decide +kernel
theorem d_CarDesk_thingOf_37 : decode b_CarDesk_thingOf 37 = .ok (.areturn, 1) := by decide +kernel

theorem d_CarDesk_thingForCall_0 : decode b_CarDesk_thingForCall 0 = .ok (.iload_n 1, 1) := by decide +kernel
theorem d_CarDesk_thingForCall_1 : decode b_CarDesk_thingForCall 1 = .ok (.invokestatic 85, 3) := by decide +kernel
theorem d_CarDesk_thingForCall_4 : decode b_CarDesk_thingForCall 4 = .ok (.ifCond .eq 17, 3) := by decide +kernel
theorem d_CarDesk_thingForCall_7 : decode b_CarDesk_thingForCall 7 = .ok (.lload_n 2, 1) := by decide +kernel
theorem d_CarDesk_thingForCall_8 : decode b_CarDesk_thingForCall 8 = .ok (.ldc2_w 196, 3) := by decide +kernel
theorem d_CarDesk_thingForCall_11 : decode b_CarDesk_thingForCall 11 = .ok (.ldiv, 1) := by decide +kernel
theorem d_CarDesk_thingForCall_12 : decode b_CarDesk_thingForCall 12 = .ok (.iload_n 1, 1) := by decide +kernel
theorem d_CarDesk_thingForCall_13 : decode b_CarDesk_thingForCall 13 = .ok (.bipush 6, 2) := by decide +kernel
theorem d_CarDesk_thingForCall_15 : decode b_CarDesk_thingForCall 15 = .ok (.irem, 1) := by decide +kernel
theorem d_CarDesk_thingForCall_16 : decode b_CarDesk_thingForCall 16 = .ok (.i2l, 1) := by decide +kernel
theorem d_CarDesk_thingForCall_17 : decode b_CarDesk_thingForCall 17 = .ok (.lcmp, 1) := by decide +kernel
theorem d_CarDesk_thingForCall_18 : decode b_CarDesk_thingForCall 18 = .ok (.ifCond .eq 5, 3) := by decide +kernel
theorem d_CarDesk_thingForCall_21 : decode b_CarDesk_thingForCall 21 = .ok (.aconst_null, 1) := by decide +kernel
theorem d_CarDesk_thingForCall_22 : decode b_CarDesk_thingForCall 22 = .ok (.areturn, 1) := by decide +kernel
theorem d_CarDesk_thingForCall_23 : decode b_CarDesk_thingForCall 23 = .ok (.aload_n 0, 1) := by decide +kernel
theorem d_CarDesk_thingForCall_24 : decode b_CarDesk_thingForCall 24 = .ok (.lload_n 2, 1) := by decide +kernel
theorem d_CarDesk_thingForCall_25 : decode b_CarDesk_thingForCall 25 = .ok (.invokevirtual 142, 3) := by decide +kernel
theorem d_CarDesk_thingForCall_28 : decode b_CarDesk_thingForCall 28 = .ok (.areturn, 1) := by decide +kernel
end
section
theorem d_CarDesk_refusalOfStep_0 : decode b_CarDesk_refusalOfStep 0 = .ok (.iload_n 0, 1) := by decide +kernel
theorem d_CarDesk_refusalOfStep_1 : decode b_CarDesk_refusalOfStep 1 = .ok (.ifCond .ne 13, 3) := by decide +kernel
theorem d_CarDesk_refusalOfStep_4 : decode b_CarDesk_refusalOfStep 4 = .ok (.aload_n 1, 1) := by decide +kernel
theorem d_CarDesk_refusalOfStep_5 : decode b_CarDesk_refusalOfStep 5 = .ok (.invokevirtual 146, 3) := by decide +kernel
theorem d_CarDesk_refusalOfStep_8 : decode b_CarDesk_refusalOfStep 8 = .ok (.ifCond .eq 6, 3) := by decide +kernel
theorem d_CarDesk_refusalOfStep_11 : decode b_CarDesk_refusalOfStep 11 = .ok (.bipush (-3), 2) := by decide +kernel
theorem d_CarDesk_refusalOfStep_13 : decode b_CarDesk_refusalOfStep 13 = .ok (.ireturn, 1) := by decide +kernel
theorem d_CarDesk_refusalOfStep_14 : decode b_CarDesk_refusalOfStep 14 = .ok (.aload_n 1, 1) := by decide +kernel
theorem d_CarDesk_refusalOfStep_15 : decode b_CarDesk_refusalOfStep 15 = .ok (.getfield 202, 3) := by decide +kernel
theorem d_CarDesk_refusalOfStep_18 : decode b_CarDesk_refusalOfStep 18 = .ok (.bipush 50, 2) := by decide +kernel
theorem d_CarDesk_refusalOfStep_20 : decode b_CarDesk_refusalOfStep 20 = .ok (.if_icmp .lt 8, 3) := by decide +kernel
theorem d_CarDesk_refusalOfStep_23 : decode b_CarDesk_refusalOfStep 23 = .ok (.bipush (-4), 2) := by decide +kernel
theorem d_CarDesk_refusalOfStep_25 : decode b_CarDesk_refusalOfStep 25 = .ok (.goto 4, 3) := by decide +kernel
theorem d_CarDesk_refusalOfStep_28 : decode b_CarDesk_refusalOfStep 28 = .ok (.iconst 0, 1) := by decide +kernel
theorem d_CarDesk_refusalOfStep_29 : decode b_CarDesk_refusalOfStep 29 = .ok (.ireturn, 1) := by decide +kernel

theorem d_CarDesk_refusalOfCall_0 : decode b_CarDesk_refusalOfCall 0 = .ok (.aload_n 2, 1) := by decide +kernel
theorem d_CarDesk_refusalOfCall_1 : decode b_CarDesk_refusalOfCall 1 = .ok (.ifnonnull 5, 3) := by decide +kernel
theorem d_CarDesk_refusalOfCall_4 : decode b_CarDesk_refusalOfCall 4 = .ok (.iconst (-1), 1) := by decide +kernel
theorem d_CarDesk_refusalOfCall_5 : decode b_CarDesk_refusalOfCall 5 = .ok (.ireturn, 1) := by decide +kernel
theorem d_CarDesk_refusalOfCall_6 : decode b_CarDesk_refusalOfCall 6 = .ok (.iload_n 1, 1) := by decide +kernel
theorem d_CarDesk_refusalOfCall_7 : decode b_CarDesk_refusalOfCall 7 = .ok (.bipush 6, 2) := by decide +kernel
theorem d_CarDesk_refusalOfCall_9 : decode b_CarDesk_refusalOfCall 9 = .ok (.idiv, 1) := by decide +kernel
theorem d_CarDesk_refusalOfCall_10 : decode b_CarDesk_refusalOfCall 10 = .ok (.istore 5, 2) := by decide +kernel
theorem d_CarDesk_refusalOfCall_12 : decode b_CarDesk_refusalOfCall 12 = .ok (.iload 5, 2) := by decide +kernel
theorem d_CarDesk_refusalOfCall_14 : decode b_CarDesk_refusalOfCall 14 = .ok (.iconst 3, 1) := by decide +kernel
theorem d_CarDesk_refusalOfCall_15 : decode b_CarDesk_refusalOfCall 15 = .ok (.if_icmp .ne 14, 3) := by decide +kernel
theorem d_CarDesk_refusalOfCall_18 : decode b_CarDesk_refusalOfCall 18 = .ok (.aload_n 0, 1) := by decide +kernel
theorem d_CarDesk_refusalOfCall_19 : decode b_CarDesk_refusalOfCall 19 = .ok (.iload_n 1, 1) := by decide +kernel
theorem d_CarDesk_refusalOfCall_20 : decode b_CarDesk_refusalOfCall 20 = .ok (.lload_n 3, 1) := by decide +kernel
theorem d_CarDesk_refusalOfCall_21 : decode b_CarDesk_refusalOfCall 21 = .ok (.invokevirtual 122, 3) := by decide +kernel
theorem d_CarDesk_refusalOfCall_24 : decode b_CarDesk_refusalOfCall 24 = .ok (.ifnonnull 5, 3) := by decide +kernel
theorem d_CarDesk_refusalOfCall_27 : decode b_CarDesk_refusalOfCall 27 = .ok (.iconst (-1), 1) := by decide +kernel
theorem d_CarDesk_refusalOfCall_28 : decode b_CarDesk_refusalOfCall 28 = .ok (.ireturn, 1) := by decide +kernel
theorem d_CarDesk_refusalOfCall_29 : decode b_CarDesk_refusalOfCall 29 = .ok (.lload_n 3, 1) := by decide +kernel
theorem d_CarDesk_refusalOfCall_30 : decode b_CarDesk_refusalOfCall 30 = .ok (.invokestatic 89, 3) := by decide +kernel
theorem d_CarDesk_refusalOfCall_33 : decode b_CarDesk_refusalOfCall 33 = .ok (.ifCond .ne 6, 3) := by decide +kernel
theorem d_CarDesk_refusalOfCall_36 : decode b_CarDesk_refusalOfCall 36 = .ok (.bipush (-2), 2) := by decide +kernel
theorem d_CarDesk_refusalOfCall_38 : decode b_CarDesk_refusalOfCall 38 = .ok (.ireturn, 1) := by decide +kernel
theorem d_CarDesk_refusalOfCall_39 : decode b_CarDesk_refusalOfCall 39 = .ok (.iload 5, 2) := by decide +kernel
theorem d_CarDesk_refusalOfCall_41 : decode b_CarDesk_refusalOfCall 41 = .ok (.iconst 2, 1) := by decide +kernel
theorem d_CarDesk_refusalOfCall_42 : decode b_CarDesk_refusalOfCall 42 = .ok (.if_icmp .ne 14, 3) := by decide +kernel
theorem d_CarDesk_refusalOfCall_45 : decode b_CarDesk_refusalOfCall 45 = .ok (.iload_n 1, 1) := by decide +kernel
theorem d_CarDesk_refusalOfCall_46 : decode b_CarDesk_refusalOfCall 46 = .ok (.bipush 6, 2) := by decide +kernel
theorem d_CarDesk_refusalOfCall_48 : decode b_CarDesk_refusalOfCall 48 = .ok (.irem, 1) := by decide +kernel
theorem d_CarDesk_refusalOfCall_49 : decode b_CarDesk_refusalOfCall 49 = .ok (.aload_n 2, 1) := by decide +kernel
theorem d_CarDesk_refusalOfCall_50 : decode b_CarDesk_refusalOfCall 50 = .ok (.invokestatic 198, 3) := by decide +kernel
theorem d_CarDesk_refusalOfCall_53 : decode b_CarDesk_refusalOfCall 53 = .ok (.goto 4, 3) := by decide +kernel
theorem d_CarDesk_refusalOfCall_56 : decode b_CarDesk_refusalOfCall 56 = .ok (.iconst 0, 1) := by decide +kernel
theorem d_CarDesk_refusalOfCall_57 : decode b_CarDesk_refusalOfCall 57 = .ok (.ireturn, 1) := by decide +kernel

theorem d_CarDesk_steppedState_0 : decode b_CarDesk_steppedState 0 = .ok (.iload_n 1, 1) := by decide +kernel
theorem d_CarDesk_steppedState_1 : decode b_CarDesk_steppedState 1 = .ok (.bipush 6, 2) := by decide +kernel
theorem d_CarDesk_steppedState_3 : decode b_CarDesk_steppedState 3 = .ok (.irem, 1) := by decide +kernel
theorem d_CarDesk_steppedState_4 : decode b_CarDesk_steppedState 4 = .ok (.tableswitch 101 0 4 #[36, 43, 61, 75, 87], 36) := by decide +kernel
theorem d_CarDesk_steppedState_40 : decode b_CarDesk_steppedState 40 = .ok (.aload_n 2, 1) := by decide +kernel
theorem d_CarDesk_steppedState_41 : decode b_CarDesk_steppedState 41 = .ok (.getfield 173, 3) := by decide +kernel
theorem d_CarDesk_steppedState_44 : decode b_CarDesk_steppedState 44 = .ok (.lload_n 3, 1) := by decide +kernel
theorem d_CarDesk_steppedState_45 : decode b_CarDesk_steppedState 45 = .ok (.lxor, 1) := by decide +kernel
theorem d_CarDesk_steppedState_46 : decode b_CarDesk_steppedState 46 = .ok (.lreturn, 1) := by decide +kernel
theorem d_CarDesk_steppedState_47 : decode b_CarDesk_steppedState 47 = .ok (.ldc2_w 212, 3) := by decide +kernel
theorem d_CarDesk_steppedState_50 : decode b_CarDesk_steppedState 50 = .ok (.aload_n 2, 1) := by decide +kernel
theorem d_CarDesk_steppedState_51 : decode b_CarDesk_steppedState 51 = .ok (.getfield 173, 3) := by decide +kernel
theorem d_CarDesk_steppedState_54 : decode b_CarDesk_steppedState 54 = .ok (.lmul, 1) := by decide +kernel
theorem d_CarDesk_steppedState_55 : decode b_CarDesk_steppedState 55 = .ok (.lload_n 3, 1) := by decide +kernel
theorem d_CarDesk_steppedState_56 : decode b_CarDesk_steppedState 56 = .ok (.ladd, 1) := by decide +kernel
theorem d_CarDesk_steppedState_57 : decode b_CarDesk_steppedState 57 = .ok (.aload_n 0, 1) := by decide +kernel
theorem d_CarDesk_steppedState_58 : decode b_CarDesk_steppedState 58 = .ok (.getfield 30, 3) := by decide +kernel
theorem d_CarDesk_steppedState_61 : decode b_CarDesk_steppedState 61 = .ok (.iload_n 1, 1) := by decide +kernel
theorem d_CarDesk_steppedState_62 : decode b_CarDesk_steppedState 62 = .ok (.laload, 1) := by decide +kernel
theorem d_CarDesk_steppedState_63 : decode b_CarDesk_steppedState 63 = .ok (.ladd, 1) := by decide +kernel
theorem d_CarDesk_steppedState_64 : decode b_CarDesk_steppedState 64 = .ok (.lreturn, 1) := by decide +kernel
theorem d_CarDesk_steppedState_65 : decode b_CarDesk_steppedState 65 = .ok (.aload_n 2, 1) := by decide +kernel
theorem d_CarDesk_steppedState_66 : decode b_CarDesk_steppedState 66 = .ok (.getfield 173, 3) := by decide +kernel
theorem d_CarDesk_steppedState_69 : decode b_CarDesk_steppedState 69 = .ok (.lload_n 3, 1) := by decide +kernel
theorem d_CarDesk_steppedState_70 : decode b_CarDesk_steppedState 70 = .ok (.ldc2_w 214, 3) := by decide +kernel
theorem d_CarDesk_steppedState_73 : decode b_CarDesk_steppedState 73 = .ok (.land, 1) := by decide +kernel
theorem d_CarDesk_steppedState_74 : decode b_CarDesk_steppedState 74 = .ok (.l2i, 1) := by decide +kernel
theorem d_CarDesk_steppedState_75 : decode b_CarDesk_steppedState 75 = .ok (.invokestatic 216, 3) := by decide +kernel
theorem d_CarDesk_steppedState_78 : decode b_CarDesk_steppedState 78 = .ok (.lreturn, 1) := by decide +kernel
theorem d_CarDesk_steppedState_79 : decode b_CarDesk_steppedState 79 = .ok (.aload_n 2, 1) := by decide +kernel
theorem d_CarDesk_steppedState_80 : decode b_CarDesk_steppedState 80 = .ok (.getfield 173, 3) := by decide +kernel
theorem d_CarDesk_steppedState_83 : decode b_CarDesk_steppedState 83 = .ok (.aload_n 2, 1) := by decide +kernel
theorem d_CarDesk_steppedState_84 : decode b_CarDesk_steppedState 84 = .ok (.invokevirtual 220, 3) := by decide +kernel
theorem d_CarDesk_steppedState_87 : decode b_CarDesk_steppedState 87 = .ok (.ladd, 1) := by decide +kernel
theorem d_CarDesk_steppedState_88 : decode b_CarDesk_steppedState 88 = .ok (.lload_n 3, 1) := by decide +kernel
theorem d_CarDesk_steppedState_89 : decode b_CarDesk_steppedState 89 = .ok (.ladd, 1) := by decide +kernel
theorem d_CarDesk_steppedState_90 : decode b_CarDesk_steppedState 90 = .ok (.lreturn, 1) := by decide +kernel
theorem d_CarDesk_steppedState_91 : decode b_CarDesk_steppedState 91 = .ok (.aload_n 2, 1) := by decide +kernel
theorem d_CarDesk_steppedState_92 : decode b_CarDesk_steppedState 92 = .ok (.getfield 173, 3) := by decide +kernel
theorem d_CarDesk_steppedState_95 : decode b_CarDesk_steppedState 95 = .ok (.lload_n 3, 1) := by decide +kernel
theorem d_CarDesk_steppedState_96 : decode b_CarDesk_steppedState 96 = .ok (.aload_n 0, 1) := by decide +kernel
theorem d_CarDesk_steppedState_97 : decode b_CarDesk_steppedState 97 = .ok (.getfield 30, 3) := by decide +kernel
theorem d_CarDesk_steppedState_100 : decode b_CarDesk_steppedState 100 = .ok (.iload_n 1, 1) := by decide +kernel
theorem d_CarDesk_steppedState_101 : decode b_CarDesk_steppedState 101 = .ok (.laload, 1) := by decide +kernel
theorem d_CarDesk_steppedState_102 : decode b_CarDesk_steppedState 102 = .ok (.lmul, 1) := by decide +kernel
theorem d_CarDesk_steppedState_103 : decode b_CarDesk_steppedState 103 = .ok (.ladd, 1) := by decide +kernel
theorem d_CarDesk_steppedState_104 : decode b_CarDesk_steppedState 104 = .ok (.lreturn, 1) := by decide +kernel
theorem d_CarDesk_steppedState_105 : decode b_CarDesk_steppedState 105 = .ok (.aload_n 0, 1) := by decide +kernel
theorem d_CarDesk_steppedState_106 : decode b_CarDesk_steppedState 106 = .ok (.getfield 26, 3) := by decide +kernel
theorem d_CarDesk_steppedState_109 : decode b_CarDesk_steppedState 109 = .ok (.iconst 1, 1) := by decide +kernel
theorem d_CarDesk_steppedState_110 : decode b_CarDesk_steppedState 110 = .ok (.aaload, 1) := by decide +kernel
theorem d_CarDesk_steppedState_111 : decode b_CarDesk_steppedState 111 = .ok (.invokevirtual 223, 3) := by decide +kernel
theorem d_CarDesk_steppedState_114 : decode b_CarDesk_steppedState 114 = .ok (.lload_n 3, 1) := by decide +kernel
theorem d_CarDesk_steppedState_115 : decode b_CarDesk_steppedState 115 = .ok (.ladd, 1) := by decide +kernel
theorem d_CarDesk_steppedState_116 : decode b_CarDesk_steppedState 116 = .ok (.lreturn, 1) := by decide +kernel

theorem d_CarDesk_outcomeOfCall_0 : decode b_CarDesk_outcomeOfCall 0 = .ok (.iload_n 1, 1) := by decide +kernel
theorem d_CarDesk_outcomeOfCall_1 : decode b_CarDesk_outcomeOfCall 1 = .ok (.bipush 6, 2) := by decide +kernel
theorem d_CarDesk_outcomeOfCall_3 : decode b_CarDesk_outcomeOfCall 3 = .ok (.idiv, 1) := by decide +kernel
theorem d_CarDesk_outcomeOfCall_4 : decode b_CarDesk_outcomeOfCall 4 = .ok (.tableswitch 53 0 2 #[28, 40, 45], 28) := by decide +kernel
theorem d_CarDesk_outcomeOfCall_32 : decode b_CarDesk_outcomeOfCall 32 = .ok (.aload_n 2, 1) := by decide +kernel
theorem d_CarDesk_outcomeOfCall_33 : decode b_CarDesk_outcomeOfCall 33 = .ok (.getfield 173, 3) := by decide +kernel
theorem d_CarDesk_outcomeOfCall_36 : decode b_CarDesk_outcomeOfCall 36 = .ok (.aload_n 0, 1) := by decide +kernel
theorem d_CarDesk_outcomeOfCall_37 : decode b_CarDesk_outcomeOfCall 37 = .ok (.getfield 30, 3) := by decide +kernel
theorem d_CarDesk_outcomeOfCall_40 : decode b_CarDesk_outcomeOfCall 40 = .ok (.iload_n 1, 1) := by decide +kernel
theorem d_CarDesk_outcomeOfCall_41 : decode b_CarDesk_outcomeOfCall 41 = .ok (.laload, 1) := by decide +kernel
theorem d_CarDesk_outcomeOfCall_42 : decode b_CarDesk_outcomeOfCall 42 = .ok (.ladd, 1) := by decide +kernel
theorem d_CarDesk_outcomeOfCall_43 : decode b_CarDesk_outcomeOfCall 43 = .ok (.lreturn, 1) := by decide +kernel
theorem d_CarDesk_outcomeOfCall_44 : decode b_CarDesk_outcomeOfCall 44 = .ok (.aload_n 2, 1) := by decide +kernel
theorem d_CarDesk_outcomeOfCall_45 : decode b_CarDesk_outcomeOfCall 45 = .ok (.getfield 173, 3) := by decide +kernel
theorem d_CarDesk_outcomeOfCall_48 : decode b_CarDesk_outcomeOfCall 48 = .ok (.lreturn, 1) := by decide +kernel
theorem d_CarDesk_outcomeOfCall_49 : decode b_CarDesk_outcomeOfCall 49 = .ok (.aload_n 2, 1) := by decide +kernel
theorem d_CarDesk_outcomeOfCall_50 : decode b_CarDesk_outcomeOfCall 50 = .ok (.getfield 202, 3) := by decide +kernel
theorem d_CarDesk_outcomeOfCall_53 : decode b_CarDesk_outcomeOfCall 53 = .ok (.iconst 1, 1) := by decide +kernel
theorem d_CarDesk_outcomeOfCall_54 : decode b_CarDesk_outcomeOfCall 54 = .ok (.iadd, 1) := by decide +kernel
theorem d_CarDesk_outcomeOfCall_55 : decode b_CarDesk_outcomeOfCall 55 = .ok (.i2l, 1) := by decide +kernel
theorem d_CarDesk_outcomeOfCall_56 : decode b_CarDesk_outcomeOfCall 56 = .ok (.lreturn, 1) := by decide +kernel
theorem d_CarDesk_outcomeOfCall_57 : decode b_CarDesk_outcomeOfCall 57 = .ok (.aload_n 2, 1) := by decide +kernel
theorem d_CarDesk_outcomeOfCall_58 : decode b_CarDesk_outcomeOfCall 58 = .ok (.aload_n 0, 1) := by decide +kernel
theorem d_CarDesk_outcomeOfCall_59 : decode b_CarDesk_outcomeOfCall 59 = .ok (.iload_n 1, 1) := by decide +kernel
theorem d_CarDesk_outcomeOfCall_60 : decode b_CarDesk_outcomeOfCall 60 = .ok (.lload_n 3, 1) := by decide +kernel
theorem d_CarDesk_outcomeOfCall_61 : decode b_CarDesk_outcomeOfCall 61 = .ok (.invokevirtual 122, 3) := by decide +kernel
theorem d_CarDesk_outcomeOfCall_64 : decode b_CarDesk_outcomeOfCall 64 = .ok (.invokevirtual 205, 3) := by decide +kernel
theorem d_CarDesk_outcomeOfCall_67 : decode b_CarDesk_outcomeOfCall 67 = .ok (.i2l, 1) := by decide +kernel
theorem d_CarDesk_outcomeOfCall_68 : decode b_CarDesk_outcomeOfCall 68 = .ok (.lreturn, 1) := by decide +kernel

theorem d_CarDesk_changeByCall_0 : decode b_CarDesk_changeByCall 0 = .ok (.iload_n 1, 1) := by decide +kernel
theorem d_CarDesk_changeByCall_1 : decode b_CarDesk_changeByCall 1 = .ok (.bipush 6, 2) := by decide +kernel
theorem d_CarDesk_changeByCall_3 : decode b_CarDesk_changeByCall 3 = .ok (.idiv, 1) := by decide +kernel
theorem d_CarDesk_changeByCall_4 : decode b_CarDesk_changeByCall 4 = .ok (.istore 5, 2) := by decide +kernel
theorem d_CarDesk_changeByCall_6 : decode b_CarDesk_changeByCall 6 = .ok (.iload 5, 2) := by decide +kernel
theorem d_CarDesk_changeByCall_8 : decode b_CarDesk_changeByCall 8 = .ok (.iconst 1, 1) := by decide +kernel
theorem d_CarDesk_changeByCall_9 : decode b_CarDesk_changeByCall 9 = .ok (.if_icmp .ne 8, 3) := by decide +kernel
theorem d_CarDesk_changeByCall_12 : decode b_CarDesk_changeByCall 12 = .ok (.aload_n 2, 1) := by decide +kernel
theorem d_CarDesk_changeByCall_13 : decode b_CarDesk_changeByCall 13 = .ok (.lload_n 3, 1) := by decide +kernel
theorem d_CarDesk_changeByCall_14 : decode b_CarDesk_changeByCall 14 = .ok (.putfield 173, 3) := by decide +kernel
theorem d_CarDesk_changeByCall_17 : decode b_CarDesk_changeByCall 17 = .ok (.iload 5, 2) := by decide +kernel
theorem d_CarDesk_changeByCall_19 : decode b_CarDesk_changeByCall 19 = .ok (.iconst 2, 1) := by decide +kernel
theorem d_CarDesk_changeByCall_20 : decode b_CarDesk_changeByCall 20 = .ok (.if_icmp .ne 24, 3) := by decide +kernel
theorem d_CarDesk_changeByCall_23 : decode b_CarDesk_changeByCall 23 = .ok (.aload_n 2, 1) := by decide +kernel
theorem d_CarDesk_changeByCall_24 : decode b_CarDesk_changeByCall 24 = .ok (.aload_n 0, 1) := by decide +kernel
theorem d_CarDesk_changeByCall_25 : decode b_CarDesk_changeByCall 25 = .ok (.iload_n 1, 1) := by decide +kernel
theorem d_CarDesk_changeByCall_26 : decode b_CarDesk_changeByCall 26 = .ok (.aload_n 2, 1) := by decide +kernel
theorem d_CarDesk_changeByCall_27 : decode b_CarDesk_changeByCall 27 = .ok (.lload_n 3, 1) := by decide +kernel
theorem d_CarDesk_changeByCall_28 : decode b_CarDesk_changeByCall 28 = .ok (.invokevirtual 209, 3) := by decide +kernel
theorem d_CarDesk_changeByCall_31 : decode b_CarDesk_changeByCall 31 = .ok (.putfield 173, 3) := by decide +kernel
theorem d_CarDesk_changeByCall_34 : decode b_CarDesk_changeByCall 34 = .ok (.aload_n 2, 1) := by decide +kernel
theorem d_CarDesk_changeByCall_35 : decode b_CarDesk_changeByCall 35 = .ok (.dup, 1) := by decide +kernel
theorem d_CarDesk_changeByCall_36 : decode b_CarDesk_changeByCall 36 = .ok (.getfield 202, 3) := by decide +kernel
theorem d_CarDesk_changeByCall_39 : decode b_CarDesk_changeByCall 39 = .ok (.iconst 1, 1) := by decide +kernel
theorem d_CarDesk_changeByCall_40 : decode b_CarDesk_changeByCall 40 = .ok (.iadd, 1) := by decide +kernel
theorem d_CarDesk_changeByCall_41 : decode b_CarDesk_changeByCall 41 = .ok (.putfield 202, 3) := by decide +kernel
theorem d_CarDesk_changeByCall_44 : decode b_CarDesk_changeByCall 44 = .ok (.return_, 1) := by decide +kernel
end
section
theorem d_CarDesk_collect_0 : decode b_CarDesk_collect 0 = .ok (.aload_n 0, 1) := by decide +kernel
theorem d_CarDesk_collect_1 : decode b_CarDesk_collect 1 = .ok (.iload_n 1, 1) := by decide +kernel
theorem d_CarDesk_collect_2 : decode b_CarDesk_collect 2 = .ok (.invokevirtual 64, 3) := by decide +kernel
theorem d_CarDesk_collect_5 : decode b_CarDesk_collect 5 = .ok (.astore 4, 2) := by decide +kernel
theorem d_CarDesk_collect_7 : decode b_CarDesk_collect 7 = .ok (.aload 4, 2) := by decide +kernel
theorem d_CarDesk_collect_9 : decode b_CarDesk_collect 9 = .ok (.ifnonnull 9, 3) := by decide +kernel
theorem d_CarDesk_collect_12 : decode b_CarDesk_collect 12 = .ok (.aload_n 0, 1) := by decide +kernel
theorem d_CarDesk_collect_13 : decode b_CarDesk_collect 13 = .ok (.iconst (-1), 1) := by decide +kernel
theorem d_CarDesk_collect_14 : decode b_CarDesk_collect 14 = .ok (.invokevirtual 68, 3) := by decide +kernel
theorem d_CarDesk_collect_17 : decode b_CarDesk_collect 17 = .ok (.ireturn, 1) := by decide +kernel
theorem d_CarDesk_collect_18 : decode b_CarDesk_collect 18 = .ok (.lload_n 2, 1) := by decide +kernel
theorem d_CarDesk_collect_19 : decode b_CarDesk_collect 19 = .ok (.lconst 0, 1) := by decide +kernel
theorem d_CarDesk_collect_20 : decode b_CarDesk_collect 20 = .ok (.lcmp, 1) := by decide +kernel
theorem d_CarDesk_collect_21 : decode b_CarDesk_collect 21 = .ok (.ifCond .lt 14, 3) := by decide +kernel
theorem d_CarDesk_collect_24 : decode b_CarDesk_collect 24 = .ok (.lload_n 2, 1) := by decide +kernel
theorem d_CarDesk_collect_25 : decode b_CarDesk_collect 25 = .ok (.aload 4, 2) := by decide +kernel
theorem d_CarDesk_collect_27 : decode b_CarDesk_collect 27 = .ok (.getfield 72, 3) := by decide +kernel
theorem d_CarDesk_collect_30 : decode b_CarDesk_collect 30 = .ok (.i2l, 1) := by decide +kernel
theorem d_CarDesk_collect_31 : decode b_CarDesk_collect 31 = .ok (.lcmp, 1) := by decide +kernel
theorem d_CarDesk_collect_32 : decode b_CarDesk_collect 32 = .ok (.ifCond .le 10, 3) := by decide +kernel
theorem d_CarDesk_collect_35 : decode b_CarDesk_collect 35 = .ok (.aload_n 0, 1) := by decide +kernel
theorem d_CarDesk_collect_36 : decode b_CarDesk_collect 36 = .ok (.bipush (-2), 2) := by decide +kernel
theorem d_CarDesk_collect_38 : decode b_CarDesk_collect 38 = .ok (.invokevirtual 68, 3) := by decide +kernel
theorem d_CarDesk_collect_41 : decode b_CarDesk_collect 41 = .ok (.ireturn, 1) := by decide +kernel
theorem d_CarDesk_collect_42 : decode b_CarDesk_collect 42 = .ok (.aload 4, 2) := by decide +kernel
theorem d_CarDesk_collect_44 : decode b_CarDesk_collect 44 = .ok (.invokevirtual 75, 3) := by decide +kernel
theorem d_CarDesk_collect_47 : decode b_CarDesk_collect 47 = .ok (.ifCond .eq 10, 3) := by decide +kernel
theorem d_CarDesk_collect_50 : decode b_CarDesk_collect 50 = .ok (.aload_n 0, 1) := by decide +kernel
theorem d_CarDesk_collect_51 : decode b_CarDesk_collect 51 = .ok (.bipush (-4), 2) := by decide +kernel
theorem d_CarDesk_collect_53 : decode b_CarDesk_collect 53 = .ok (.invokevirtual 68, 3) := by decide +kernel
theorem d_CarDesk_collect_56 : decode b_CarDesk_collect 56 = .ok (.ireturn, 1) := by decide +kernel
theorem d_CarDesk_collect_57 : decode b_CarDesk_collect 57 = .ok (.aload 4, 2) := by decide +kernel
theorem d_CarDesk_collect_59 : decode b_CarDesk_collect 59 = .ok (.lload_n 2, 1) := by decide +kernel
theorem d_CarDesk_collect_60 : decode b_CarDesk_collect 60 = .ok (.l2i, 1) := by decide +kernel
theorem d_CarDesk_collect_61 : decode b_CarDesk_collect 61 = .ok (.invokevirtual 79, 3) := by decide +kernel
theorem d_CarDesk_collect_64 : decode b_CarDesk_collect 64 = .ok (.aload_n 0, 1) := by decide +kernel
theorem d_CarDesk_collect_65 : decode b_CarDesk_collect 65 = .ok (.dup, 1) := by decide +kernel
theorem d_CarDesk_collect_66 : decode b_CarDesk_collect 66 = .ok (.getfield 60, 3) := by decide +kernel
theorem d_CarDesk_collect_69 : decode b_CarDesk_collect 69 = .ok (.iconst 1, 1) := by decide +kernel
theorem d_CarDesk_collect_70 : decode b_CarDesk_collect 70 = .ok (.iadd, 1) := by decide +kernel
theorem d_CarDesk_collect_71 : decode b_CarDesk_collect 71 = .ok (.putfield 60, 3) := by decide +kernel
theorem d_CarDesk_collect_74 : decode b_CarDesk_collect 74 = .ok (.aload 4, 2) := by decide +kernel
theorem d_CarDesk_collect_76 : decode b_CarDesk_collect 76 = .ok (.getfield 82, 3) := by decide +kernel
theorem d_CarDesk_collect_79 : decode b_CarDesk_collect 79 = .ok (.ireturn, 1) := by decide +kernel

theorem d_CarDesk_answer_0 : decode b_CarDesk_answer 0 = .ok (.iload_n 1, 1) := by decide +kernel
theorem d_CarDesk_answer_1 : decode b_CarDesk_answer 1 = .ok (.invokestatic 85, 3) := by decide +kernel
theorem d_CarDesk_answer_4 : decode b_CarDesk_answer 4 = .ok (.ifCond .ne 9, 3) := by decide +kernel
theorem d_CarDesk_answer_7 : decode b_CarDesk_answer 7 = .ok (.aload_n 0, 1) := by decide +kernel
theorem d_CarDesk_answer_8 : decode b_CarDesk_answer 8 = .ok (.iconst (-1), 1) := by decide +kernel
theorem d_CarDesk_answer_9 : decode b_CarDesk_answer 9 = .ok (.invokevirtual 68, 3) := by decide +kernel
theorem d_CarDesk_answer_12 : decode b_CarDesk_answer 12 = .ok (.ireturn, 1) := by decide +kernel
theorem d_CarDesk_answer_13 : decode b_CarDesk_answer 13 = .ok (.lload_n 2, 1) := by decide +kernel
theorem d_CarDesk_answer_14 : decode b_CarDesk_answer 14 = .ok (.invokestatic 89, 3) := by decide +kernel
theorem d_CarDesk_answer_17 : decode b_CarDesk_answer 17 = .ok (.ifCond .ne 10, 3) := by decide +kernel
theorem d_CarDesk_answer_20 : decode b_CarDesk_answer 20 = .ok (.aload_n 0, 1) := by decide +kernel
theorem d_CarDesk_answer_21 : decode b_CarDesk_answer 21 = .ok (.bipush (-2), 2) := by decide +kernel
theorem d_CarDesk_answer_23 : decode b_CarDesk_answer 23 = .ok (.invokevirtual 68, 3) := by decide +kernel
theorem d_CarDesk_answer_26 : decode b_CarDesk_answer 26 = .ok (.ireturn, 1) := by decide +kernel
theorem d_CarDesk_answer_27 : decode b_CarDesk_answer 27 = .ok (.aload_n 0, 1) := by decide +kernel
theorem d_CarDesk_answer_28 : decode b_CarDesk_answer 28 = .ok (.getfield 30, 3) := by decide +kernel
theorem d_CarDesk_answer_31 : decode b_CarDesk_answer 31 = .ok (.iload_n 1, 1) := by decide +kernel
theorem d_CarDesk_answer_32 : decode b_CarDesk_answer 32 = .ok (.lload_n 2, 1) := by decide +kernel
theorem d_CarDesk_answer_33 : decode b_CarDesk_answer 33 = .ok (.lastore, 1) := by decide +kernel
theorem d_CarDesk_answer_34 : decode b_CarDesk_answer 34 = .ok (.aload_n 0, 1) := by decide +kernel
theorem d_CarDesk_answer_35 : decode b_CarDesk_answer 35 = .ok (.dup, 1) := by decide +kernel
theorem d_CarDesk_answer_36 : decode b_CarDesk_answer 36 = .ok (.getfield 60, 3) := by decide +kernel
theorem d_CarDesk_answer_39 : decode b_CarDesk_answer 39 = .ok (.iconst 1, 1) := by decide +kernel
theorem d_CarDesk_answer_40 : decode b_CarDesk_answer 40 = .ok (.iadd, 1) := by decide +kernel
theorem d_CarDesk_answer_41 : decode b_CarDesk_answer 41 = .ok (.putfield 60, 3) := by decide +kernel
theorem d_CarDesk_answer_44 : decode b_CarDesk_answer 44 = .ok (.iconst 1, 1) := by decide +kernel
theorem d_CarDesk_answer_45 : decode b_CarDesk_answer 45 = .ok (.ireturn, 1) := by decide +kernel

theorem d_CarDesk_fails_0 : decode b_CarDesk_fails 0 = .ok (.iload_n 1, 1) := by decide +kernel
theorem d_CarDesk_fails_1 : decode b_CarDesk_fails 1 = .ok (.invokestatic 85, 3) := by decide +kernel
theorem d_CarDesk_fails_4 : decode b_CarDesk_fails 4 = .ok (.ifCond .ne 9, 3) := by decide +kernel
theorem d_CarDesk_fails_7 : decode b_CarDesk_fails 7 = .ok (.aload_n 0, 1) := by decide +kernel
theorem d_CarDesk_fails_8 : decode b_CarDesk_fails 8 = .ok (.iconst (-1), 1) := by decide +kernel
theorem d_CarDesk_fails_9 : decode b_CarDesk_fails 9 = .ok (.invokevirtual 68, 3) := by decide +kernel
theorem d_CarDesk_fails_12 : decode b_CarDesk_fails 12 = .ok (.ireturn, 1) := by decide +kernel
theorem d_CarDesk_fails_13 : decode b_CarDesk_fails 13 = .ok (.iload_n 2, 1) := by decide +kernel
theorem d_CarDesk_fails_14 : decode b_CarDesk_fails 14 = .ok (.ifCond .lt 8, 3) := by decide +kernel
theorem d_CarDesk_fails_17 : decode b_CarDesk_fails 17 = .ok (.iload_n 2, 1) := by decide +kernel
theorem d_CarDesk_fails_18 : decode b_CarDesk_fails 18 = .ok (.iconst 4, 1) := by decide +kernel
theorem d_CarDesk_fails_19 : decode b_CarDesk_fails 19 = .ok (.if_icmp .le 10, 3) := by decide +kernel
theorem d_CarDesk_fails_22 : decode b_CarDesk_fails 22 = .ok (.aload_n 0, 1) := by decide +kernel
theorem d_CarDesk_fails_23 : decode b_CarDesk_fails 23 = .ok (.bipush (-2), 2) := by decide +kernel
theorem d_CarDesk_fails_25 : decode b_CarDesk_fails 25 = .ok (.invokevirtual 68, 3) := by decide +kernel
theorem d_CarDesk_fails_28 : decode b_CarDesk_fails 28 = .ok (.ireturn, 1) := by decide +kernel
theorem d_CarDesk_fails_29 : decode b_CarDesk_fails 29 = .ok (.aload_n 0, 1) := by decide +kernel
theorem d_CarDesk_fails_30 : decode b_CarDesk_fails 30 = .ok (.getfield 34, 3) := by decide +kernel
theorem d_CarDesk_fails_33 : decode b_CarDesk_fails 33 = .ok (.iload_n 1, 1) := by decide +kernel
theorem d_CarDesk_fails_34 : decode b_CarDesk_fails 34 = .ok (.iaload, 1) := by decide +kernel
theorem d_CarDesk_fails_35 : decode b_CarDesk_fails 35 = .ok (.istore_n 3, 1) := by decide +kernel
theorem d_CarDesk_fails_36 : decode b_CarDesk_fails 36 = .ok (.aload_n 0, 1) := by decide +kernel
theorem d_CarDesk_fails_37 : decode b_CarDesk_fails 37 = .ok (.getfield 34, 3) := by decide +kernel
theorem d_CarDesk_fails_40 : decode b_CarDesk_fails 40 = .ok (.iload_n 1, 1) := by decide +kernel
theorem d_CarDesk_fails_41 : decode b_CarDesk_fails 41 = .ok (.iload_n 2, 1) := by decide +kernel
theorem d_CarDesk_fails_42 : decode b_CarDesk_fails 42 = .ok (.iastore, 1) := by decide +kernel
theorem d_CarDesk_fails_43 : decode b_CarDesk_fails 43 = .ok (.aload_n 0, 1) := by decide +kernel
theorem d_CarDesk_fails_44 : decode b_CarDesk_fails 44 = .ok (.dup, 1) := by decide +kernel
theorem d_CarDesk_fails_45 : decode b_CarDesk_fails 45 = .ok (.getfield 60, 3) := by decide +kernel
theorem d_CarDesk_fails_48 : decode b_CarDesk_fails 48 = .ok (.iconst 1, 1) := by decide +kernel
theorem d_CarDesk_fails_49 : decode b_CarDesk_fails 49 = .ok (.iadd, 1) := by decide +kernel
theorem d_CarDesk_fails_50 : decode b_CarDesk_fails 50 = .ok (.putfield 60, 3) := by decide +kernel
theorem d_CarDesk_fails_53 : decode b_CarDesk_fails 53 = .ok (.iload_n 3, 1) := by decide +kernel
theorem d_CarDesk_fails_54 : decode b_CarDesk_fails 54 = .ok (.ireturn, 1) := by decide +kernel

theorem d_CarDesk_call_0 : decode b_CarDesk_call 0 = .ok (.aload_n 0, 1) := by decide +kernel
theorem d_CarDesk_call_1 : decode b_CarDesk_call 1 = .ok (.iload_n 1, 1) := by decide +kernel
theorem d_CarDesk_call_2 : decode b_CarDesk_call 2 = .ok (.iload_n 2, 1) := by decide +kernel
theorem d_CarDesk_call_3 : decode b_CarDesk_call 3 = .ok (.i2l, 1) := by decide +kernel
theorem d_CarDesk_call_4 : decode b_CarDesk_call 4 = .ok (.invokevirtual 122, 3) := by decide +kernel
theorem d_CarDesk_call_7 : decode b_CarDesk_call 7 = .ok (.astore 5, 2) := by decide +kernel
theorem d_CarDesk_call_9 : decode b_CarDesk_call 9 = .ok (.aload_n 0, 1) := by decide +kernel
theorem d_CarDesk_call_10 : decode b_CarDesk_call 10 = .ok (.iload_n 1, 1) := by decide +kernel
theorem d_CarDesk_call_11 : decode b_CarDesk_call 11 = .ok (.aload 5, 2) := by decide +kernel
theorem d_CarDesk_call_13 : decode b_CarDesk_call 13 = .ok (.lload_n 3, 1) := by decide +kernel
theorem d_CarDesk_call_14 : decode b_CarDesk_call 14 = .ok (.invokevirtual 126, 3) := by decide +kernel
theorem d_CarDesk_call_17 : decode b_CarDesk_call 17 = .ok (.istore 6, 2) := by decide +kernel
theorem d_CarDesk_call_19 : decode b_CarDesk_call 19 = .ok (.aload 5, 2) := by decide +kernel
theorem d_CarDesk_call_21 : decode b_CarDesk_call 21 = .ok (.ifnull 8, 3) := by decide +kernel
theorem d_CarDesk_call_24 : decode b_CarDesk_call 24 = .ok (.iload 6, 2) := by decide +kernel
theorem d_CarDesk_call_26 : decode b_CarDesk_call 26 = .ok (.ifCond .eq 11, 3) := by decide +kernel
theorem d_CarDesk_call_29 : decode b_CarDesk_call 29 = .ok (.aload_n 0, 1) := by decide +kernel
theorem d_CarDesk_call_30 : decode b_CarDesk_call 30 = .ok (.iload 6, 2) := by decide +kernel
theorem d_CarDesk_call_32 : decode b_CarDesk_call 32 = .ok (.invokevirtual 68, 3) := by decide +kernel
theorem d_CarDesk_call_35 : decode b_CarDesk_call 35 = .ok (.i2l, 1) := by decide +kernel
theorem d_CarDesk_call_36 : decode b_CarDesk_call 36 = .ok (.lreturn, 1) := by decide +kernel
theorem d_CarDesk_call_37 : decode b_CarDesk_call 37 = .ok (.aload_n 0, 1) := by decide +kernel
theorem d_CarDesk_call_38 : decode b_CarDesk_call 38 = .ok (.dup, 1) := by decide +kernel
theorem d_CarDesk_call_39 : decode b_CarDesk_call 39 = .ok (.getfield 60, 3) := by decide +kernel
theorem d_CarDesk_call_42 : decode b_CarDesk_call 42 = .ok (.iconst 1, 1) := by decide +kernel
theorem d_CarDesk_call_43 : decode b_CarDesk_call 43 = .ok (.iadd, 1) := by decide +kernel
theorem d_CarDesk_call_44 : decode b_CarDesk_call 44 = .ok (.putfield 60, 3) := by decide +kernel
theorem d_CarDesk_call_47 : decode b_CarDesk_call 47 = .ok (.aload_n 0, 1) := by decide +kernel
theorem d_CarDesk_call_48 : decode b_CarDesk_call 48 = .ok (.getfield 34, 3) := by decide +kernel
theorem d_CarDesk_call_51 : decode b_CarDesk_call 51 = .ok (.iload_n 1, 1) := by decide +kernel
theorem d_CarDesk_call_52 : decode b_CarDesk_call 52 = .ok (.iaload, 1) := by decide +kernel
theorem d_CarDesk_call_53 : decode b_CarDesk_call 53 = .ok (.istore 7, 2) := by decide +kernel
theorem d_CarDesk_call_55 : decode b_CarDesk_call 55 = .ok (.iload 7, 2) := by decide +kernel
theorem d_CarDesk_call_57 : decode b_CarDesk_call 57 = .ok (.ifCond .eq 18, 3) := by decide +kernel
theorem d_CarDesk_call_60 : decode b_CarDesk_call 60 = .ok (.aload_n 0, 1) := by decide +kernel
theorem d_CarDesk_call_61 : decode b_CarDesk_call 61 = .ok (.iload 7, 2) := by decide +kernel
theorem d_CarDesk_call_63 : decode b_CarDesk_call 63 = .ok (.iload_n 1, 1) := by decide +kernel
theorem d_CarDesk_call_64 : decode b_CarDesk_call 64 = .ok (.iload_n 2, 1) := by decide +kernel
theorem d_CarDesk_call_65 : decode b_CarDesk_call 65 = .ok (.invokevirtual 130, 3) := by decide +kernel
theorem d_CarDesk_call_68 : decode b_CarDesk_call 68 = .ok (.bipush (-100), 2) := by decide +kernel
theorem d_CarDesk_call_70 : decode b_CarDesk_call 70 = .ok (.iload 7, 2) := by decide +kernel
theorem d_CarDesk_call_72 : decode b_CarDesk_call 72 = .ok (.isub, 1) := by decide +kernel
theorem d_CarDesk_call_73 : decode b_CarDesk_call 73 = .ok (.i2l, 1) := by decide +kernel
theorem d_CarDesk_call_74 : decode b_CarDesk_call 74 = .ok (.lreturn, 1) := by decide +kernel
theorem d_CarDesk_call_75 : decode b_CarDesk_call 75 = .ok (.aload_n 0, 1) := by decide +kernel
theorem d_CarDesk_call_76 : decode b_CarDesk_call 76 = .ok (.dup, 1) := by decide +kernel
theorem d_CarDesk_call_77 : decode b_CarDesk_call 77 = .ok (.getfield 54, 3) := by decide +kernel
theorem d_CarDesk_call_80 : decode b_CarDesk_call 80 = .ok (.iconst 1, 1) := by decide +kernel
theorem d_CarDesk_call_81 : decode b_CarDesk_call 81 = .ok (.iadd, 1) := by decide +kernel
theorem d_CarDesk_call_82 : decode b_CarDesk_call 82 = .ok (.putfield 54, 3) := by decide +kernel
theorem d_CarDesk_call_85 : decode b_CarDesk_call 85 = .ok (.aload_n 0, 1) := by decide +kernel
theorem d_CarDesk_call_86 : decode b_CarDesk_call 86 = .ok (.iload_n 1, 1) := by decide +kernel
theorem d_CarDesk_call_87 : decode b_CarDesk_call 87 = .ok (.aload 5, 2) := by decide +kernel
theorem d_CarDesk_call_89 : decode b_CarDesk_call 89 = .ok (.lload_n 3, 1) := by decide +kernel
theorem d_CarDesk_call_90 : decode b_CarDesk_call 90 = .ok (.invokevirtual 134, 3) := by decide +kernel
theorem d_CarDesk_call_93 : decode b_CarDesk_call 93 = .ok (.lstore 8, 2) := by decide +kernel
theorem d_CarDesk_call_95 : decode b_CarDesk_call 95 = .ok (.aload_n 0, 1) := by decide +kernel
theorem d_CarDesk_call_96 : decode b_CarDesk_call 96 = .ok (.iload_n 1, 1) := by decide +kernel
theorem d_CarDesk_call_97 : decode b_CarDesk_call 97 = .ok (.aload 5, 2) := by decide +kernel
theorem d_CarDesk_call_99 : decode b_CarDesk_call 99 = .ok (.lload_n 3, 1) := by decide +kernel
theorem d_CarDesk_call_100 : decode b_CarDesk_call 100 = .ok (.invokevirtual 138, 3) := by decide +kernel
theorem d_CarDesk_call_103 : decode b_CarDesk_call 103 = .ok (.lload 8, 2) := by decide +kernel
theorem d_CarDesk_call_105 : decode b_CarDesk_call 105 = .ok (.lreturn, 1) := by decide +kernel

theorem d_CarDesk_told_0 : decode b_CarDesk_told 0 = .ok (.iload_n 1, 1) := by decide +kernel
theorem d_CarDesk_told_1 : decode b_CarDesk_told 1 = .ok (.tableswitch 123 0 10 #[59, 64, 69, 74, 79, 84, 89, 94, 99, 107, 115], 59) := by decide +kernel
theorem d_CarDesk_told_60 : decode b_CarDesk_told 60 = .ok (.aload_n 0, 1) := by decide +kernel
theorem d_CarDesk_told_61 : decode b_CarDesk_told 61 = .ok (.getfield 38, 3) := by decide +kernel
theorem d_CarDesk_told_64 : decode b_CarDesk_told 64 = .ok (.ireturn, 1) := by decide +kernel
theorem d_CarDesk_told_65 : decode b_CarDesk_told 65 = .ok (.aload_n 0, 1) := by decide +kernel
theorem d_CarDesk_told_66 : decode b_CarDesk_told 66 = .ok (.getfield 42, 3) := by decide +kernel
theorem d_CarDesk_told_69 : decode b_CarDesk_told 69 = .ok (.ireturn, 1) := by decide +kernel
theorem d_CarDesk_told_70 : decode b_CarDesk_told 70 = .ok (.aload_n 0, 1) := by decide +kernel
theorem d_CarDesk_told_71 : decode b_CarDesk_told 71 = .ok (.getfield 45, 3) := by decide +kernel
theorem d_CarDesk_told_74 : decode b_CarDesk_told 74 = .ok (.ireturn, 1) := by decide +kernel
theorem d_CarDesk_told_75 : decode b_CarDesk_told 75 = .ok (.aload_n 0, 1) := by decide +kernel
theorem d_CarDesk_told_76 : decode b_CarDesk_told 76 = .ok (.getfield 48, 3) := by decide +kernel
theorem d_CarDesk_told_79 : decode b_CarDesk_told 79 = .ok (.ireturn, 1) := by decide +kernel
theorem d_CarDesk_told_80 : decode b_CarDesk_told 80 = .ok (.aload_n 0, 1) := by decide +kernel
theorem d_CarDesk_told_81 : decode b_CarDesk_told 81 = .ok (.getfield 51, 3) := by decide +kernel
theorem d_CarDesk_told_84 : decode b_CarDesk_told 84 = .ok (.ireturn, 1) := by decide +kernel
theorem d_CarDesk_told_85 : decode b_CarDesk_told 85 = .ok (.aload_n 0, 1) := by decide +kernel
theorem d_CarDesk_told_86 : decode b_CarDesk_told 86 = .ok (.getfield 54, 3) := by decide +kernel
theorem d_CarDesk_told_89 : decode b_CarDesk_told 89 = .ok (.ireturn, 1) := by decide +kernel
theorem d_CarDesk_told_90 : decode b_CarDesk_told 90 = .ok (.aload_n 0, 1) := by decide +kernel
theorem d_CarDesk_told_91 : decode b_CarDesk_told 91 = .ok (.getfield 57, 3) := by decide +kernel
theorem d_CarDesk_told_94 : decode b_CarDesk_told 94 = .ok (.ireturn, 1) := by decide +kernel
theorem d_CarDesk_told_95 : decode b_CarDesk_told 95 = .ok (.aload_n 0, 1) := by decide +kernel
theorem d_CarDesk_told_96 : decode b_CarDesk_told 96 = .ok (.getfield 60, 3) := by decide +kernel
theorem d_CarDesk_told_99 : decode b_CarDesk_told 99 = .ok (.ireturn, 1) := by decide +kernel
theorem d_CarDesk_told_100 : decode b_CarDesk_told 100 = .ok (.aload_n 0, 1) := by decide +kernel
theorem d_CarDesk_told_101 : decode b_CarDesk_told 101 = .ok (.getfield 12, 3) := by decide +kernel
theorem d_CarDesk_told_104 : decode b_CarDesk_told 104 = .ok (.getfield 82, 3) := by decide +kernel
theorem d_CarDesk_told_107 : decode b_CarDesk_told 107 = .ok (.ireturn, 1) := by decide +kernel
theorem d_CarDesk_told_108 : decode b_CarDesk_told 108 = .ok (.aload_n 0, 1) := by decide +kernel
theorem d_CarDesk_told_109 : decode b_CarDesk_told 109 = .ok (.getfield 18, 3) := by decide +kernel
theorem d_CarDesk_told_112 : decode b_CarDesk_told 112 = .ok (.getfield 82, 3) := by decide +kernel
theorem d_CarDesk_told_115 : decode b_CarDesk_told 115 = .ok (.ireturn, 1) := by decide +kernel
theorem d_CarDesk_told_116 : decode b_CarDesk_told 116 = .ok (.aload_n 0, 1) := by decide +kernel
theorem d_CarDesk_told_117 : decode b_CarDesk_told 117 = .ok (.getfield 21, 3) := by decide +kernel
theorem d_CarDesk_told_120 : decode b_CarDesk_told 120 = .ok (.getfield 82, 3) := by decide +kernel
theorem d_CarDesk_told_123 : decode b_CarDesk_told 123 = .ok (.ireturn, 1) := by decide +kernel
theorem d_CarDesk_told_124 : decode b_CarDesk_told 124 = .ok (.bipush (-2), 2) := by decide +kernel
theorem d_CarDesk_told_126 : decode b_CarDesk_told 126 = .ok (.ireturn, 1) := by decide +kernel

theorem d_CarDesk_drop_0 : decode b_CarDesk_drop 0 = .ok (.aload_n 0, 1) := by decide +kernel
theorem d_CarDesk_drop_1 : decode b_CarDesk_drop 1 = .ok (.iload_n 1, 1) := by decide +kernel
theorem d_CarDesk_drop_2 : decode b_CarDesk_drop 2 = .ok (.i2l, 1) := by decide +kernel
theorem d_CarDesk_drop_3 : decode b_CarDesk_drop 3 = .ok (.invokevirtual 142, 3) := by decide +kernel
theorem d_CarDesk_drop_6 : decode b_CarDesk_drop 6 = .ok (.astore_n 2, 1) := by decide +kernel
theorem d_CarDesk_drop_7 : decode b_CarDesk_drop 7 = .ok (.aload_n 2, 1) := by decide +kernel
theorem d_CarDesk_drop_8 : decode b_CarDesk_drop 8 = .ok (.ifnull 10, 3) := by decide +kernel
theorem d_CarDesk_drop_11 : decode b_CarDesk_drop 11 = .ok (.aload_n 2, 1) := by decide +kernel
theorem d_CarDesk_drop_12 : decode b_CarDesk_drop 12 = .ok (.invokevirtual 146, 3) := by decide +kernel
theorem d_CarDesk_drop_15 : decode b_CarDesk_drop 15 = .ok (.ifCond .eq 15, 3) := by decide +kernel
theorem d_CarDesk_drop_18 : decode b_CarDesk_drop 18 = .ok (.aload_n 0, 1) := by decide +kernel
theorem d_CarDesk_drop_19 : decode b_CarDesk_drop 19 = .ok (.dup, 1) := by decide +kernel
theorem d_CarDesk_drop_20 : decode b_CarDesk_drop 20 = .ok (.getfield 38, 3) := by decide +kernel
theorem d_CarDesk_drop_23 : decode b_CarDesk_drop 23 = .ok (.iconst 1, 1) := by decide +kernel
theorem d_CarDesk_drop_24 : decode b_CarDesk_drop 24 = .ok (.iadd, 1) := by decide +kernel
theorem d_CarDesk_drop_25 : decode b_CarDesk_drop 25 = .ok (.putfield 38, 3) := by decide +kernel
theorem d_CarDesk_drop_28 : decode b_CarDesk_drop 28 = .ok (.iconst 0, 1) := by decide +kernel
theorem d_CarDesk_drop_29 : decode b_CarDesk_drop 29 = .ok (.ireturn, 1) := by decide +kernel
theorem d_CarDesk_drop_30 : decode b_CarDesk_drop 30 = .ok (.aload_n 2, 1) := by decide +kernel
theorem d_CarDesk_drop_31 : decode b_CarDesk_drop 31 = .ok (.invokevirtual 149, 3) := by decide +kernel
theorem d_CarDesk_drop_34 : decode b_CarDesk_drop 34 = .ok (.aload_n 0, 1) := by decide +kernel
theorem d_CarDesk_drop_35 : decode b_CarDesk_drop 35 = .ok (.dup, 1) := by decide +kernel
theorem d_CarDesk_drop_36 : decode b_CarDesk_drop 36 = .ok (.getfield 60, 3) := by decide +kernel
theorem d_CarDesk_drop_39 : decode b_CarDesk_drop 39 = .ok (.iconst 1, 1) := by decide +kernel
theorem d_CarDesk_drop_40 : decode b_CarDesk_drop 40 = .ok (.iadd, 1) := by decide +kernel
theorem d_CarDesk_drop_41 : decode b_CarDesk_drop 41 = .ok (.putfield 60, 3) := by decide +kernel
theorem d_CarDesk_drop_44 : decode b_CarDesk_drop 44 = .ok (.iconst 1, 1) := by decide +kernel
theorem d_CarDesk_drop_45 : decode b_CarDesk_drop 45 = .ok (.ireturn, 1) := by decide +kernel

theorem d_CarDesk_numbers_0 : decode b_CarDesk_numbers 0 = .ok (.iload_n 1, 1) := by decide +kernel
theorem d_CarDesk_numbers_1 : decode b_CarDesk_numbers 1 = .ok (.invokestatic 93, 3) := by decide +kernel
theorem d_CarDesk_numbers_4 : decode b_CarDesk_numbers 4 = .ok (.ifCond .eq 15, 3) := by decide +kernel
theorem d_CarDesk_numbers_7 : decode b_CarDesk_numbers 7 = .ok (.aload_n 0, 1) := by decide +kernel
theorem d_CarDesk_numbers_8 : decode b_CarDesk_numbers 8 = .ok (.getfield 26, 3) := by decide +kernel
theorem d_CarDesk_numbers_11 : decode b_CarDesk_numbers 11 = .ok (.iload_n 1, 1) := by decide +kernel
theorem d_CarDesk_numbers_12 : decode b_CarDesk_numbers 12 = .ok (.aaload, 1) := by decide +kernel
theorem d_CarDesk_numbers_13 : decode b_CarDesk_numbers 13 = .ok (.invokevirtual 152, 3) := by decide +kernel
theorem d_CarDesk_numbers_16 : decode b_CarDesk_numbers 16 = .ok (.goto 4, 3) := by decide +kernel
theorem d_CarDesk_numbers_19 : decode b_CarDesk_numbers 19 = .ok (.iconst 0, 1) := by decide +kernel
theorem d_CarDesk_numbers_20 : decode b_CarDesk_numbers 20 = .ok (.ireturn, 1) := by decide +kernel

theorem d_CarDesk_again_0 : decode b_CarDesk_again 0 = .ok (.aload_n 0, 1) := by decide +kernel
theorem d_CarDesk_again_1 : decode b_CarDesk_again 1 = .ok (.getfield 60, 3) := by decide +kernel
theorem d_CarDesk_again_4 : decode b_CarDesk_again 4 = .ok (.sipush 128, 3) := by decide +kernel
theorem d_CarDesk_again_7 : decode b_CarDesk_again 7 = .ok (.if_icmp .le 7, 3) := by decide +kernel
theorem d_CarDesk_again_10 : decode b_CarDesk_again 10 = .ok (.ldc2_w 156, 3) := by decide +kernel
theorem d_CarDesk_again_13 : decode b_CarDesk_again 13 = .ok (.lreturn, 1) := by decide +kernel
theorem d_CarDesk_again_14 : decode b_CarDesk_again 14 = .ok (.aload_n 0, 1) := by decide +kernel
theorem d_CarDesk_again_15 : decode b_CarDesk_again 15 = .ok (.iload_n 1, 1) := by decide +kernel
theorem d_CarDesk_again_16 : decode b_CarDesk_again 16 = .ok (.iload_n 2, 1) := by decide +kernel
theorem d_CarDesk_again_17 : decode b_CarDesk_again 17 = .ok (.i2l, 1) := by decide +kernel
theorem d_CarDesk_again_18 : decode b_CarDesk_again 18 = .ok (.invokevirtual 122, 3) := by decide +kernel
theorem d_CarDesk_again_21 : decode b_CarDesk_again 21 = .ok (.astore 5, 2) := by decide +kernel
theorem d_CarDesk_again_23 : decode b_CarDesk_again 23 = .ok (.aload_n 0, 1) := by decide +kernel
theorem d_CarDesk_again_24 : decode b_CarDesk_again 24 = .ok (.iload_n 1, 1) := by decide +kernel
theorem d_CarDesk_again_25 : decode b_CarDesk_again 25 = .ok (.aload 5, 2) := by decide +kernel
theorem d_CarDesk_again_27 : decode b_CarDesk_again 27 = .ok (.lload_n 3, 1) := by decide +kernel
theorem d_CarDesk_again_28 : decode b_CarDesk_again 28 = .ok (.invokevirtual 126, 3) := by decide +kernel
theorem d_CarDesk_again_31 : decode b_CarDesk_again 31 = .ok (.istore 6, 2) := by decide +kernel
theorem d_CarDesk_again_33 : decode b_CarDesk_again 33 = .ok (.aload 5, 2) := by decide +kernel
theorem d_CarDesk_again_35 : decode b_CarDesk_again 35 = .ok (.ifnull 8, 3) := by decide +kernel
theorem d_CarDesk_again_38 : decode b_CarDesk_again 38 = .ok (.iload 6, 2) := by decide +kernel
theorem d_CarDesk_again_40 : decode b_CarDesk_again 40 = .ok (.ifCond .eq 7, 3) := by decide +kernel
theorem d_CarDesk_again_43 : decode b_CarDesk_again 43 = .ok (.iload 6, 2) := by decide +kernel
theorem d_CarDesk_again_45 : decode b_CarDesk_again 45 = .ok (.i2l, 1) := by decide +kernel
theorem d_CarDesk_again_46 : decode b_CarDesk_again 46 = .ok (.lreturn, 1) := by decide +kernel
theorem d_CarDesk_again_47 : decode b_CarDesk_again 47 = .ok (.aload_n 0, 1) := by decide +kernel
theorem d_CarDesk_again_48 : decode b_CarDesk_again 48 = .ok (.getfield 34, 3) := by decide +kernel
theorem d_CarDesk_again_51 : decode b_CarDesk_again 51 = .ok (.iload_n 1, 1) := by decide +kernel
theorem d_CarDesk_again_52 : decode b_CarDesk_again 52 = .ok (.iaload, 1) := by decide +kernel
theorem d_CarDesk_again_53 : decode b_CarDesk_again 53 = .ok (.istore 7, 2) := by decide +kernel
theorem d_CarDesk_again_55 : decode b_CarDesk_again 55 = .ok (.iload 7, 2) := by decide +kernel
theorem d_CarDesk_again_57 : decode b_CarDesk_again 57 = .ok (.ifCond .eq 12, 3) := by decide +kernel
theorem d_CarDesk_again_60 : decode b_CarDesk_again 60 = .ok (.bipush (-100), 2) := by decide +kernel
theorem d_CarDesk_again_62 : decode b_CarDesk_again 62 = .ok (.iload 7, 2) := by decide +kernel
theorem d_CarDesk_again_64 : decode b_CarDesk_again 64 = .ok (.isub, 1) := by decide +kernel
theorem d_CarDesk_again_65 : decode b_CarDesk_again 65 = .ok (.i2l, 1) := by decide +kernel
theorem d_CarDesk_again_66 : decode b_CarDesk_again 66 = .ok (.goto 11, 3) := by decide +kernel
theorem d_CarDesk_again_69 : decode b_CarDesk_again 69 = .ok (.aload_n 0, 1) := by decide +kernel
theorem d_CarDesk_again_70 : decode b_CarDesk_again 70 = .ok (.iload_n 1, 1) := by decide +kernel
theorem d_CarDesk_again_71 : decode b_CarDesk_again 71 = .ok (.aload 5, 2) := by decide +kernel
theorem d_CarDesk_again_73 : decode b_CarDesk_again 73 = .ok (.lload_n 3, 1) := by decide +kernel
theorem d_CarDesk_again_74 : decode b_CarDesk_again 74 = .ok (.invokevirtual 134, 3) := by decide +kernel
theorem d_CarDesk_again_77 : decode b_CarDesk_again 77 = .ok (.lreturn, 1) := by decide +kernel
end
section
theorem d_CarDesk_make_0 : decode b_CarDesk_make 0 = .ok (.iload_n 1, 1) := by decide +kernel
theorem d_CarDesk_make_1 : decode b_CarDesk_make 1 = .ok (.invokestatic 93, 3) := by decide +kernel
theorem d_CarDesk_make_4 : decode b_CarDesk_make 4 = .ok (.ifCond .ne 9, 3) := by decide +kernel
theorem d_CarDesk_make_7 : decode b_CarDesk_make 7 = .ok (.aload_n 0, 1) := by decide +kernel
theorem d_CarDesk_make_8 : decode b_CarDesk_make 8 = .ok (.iconst (-1), 1) := by decide +kernel
theorem d_CarDesk_make_9 : decode b_CarDesk_make 9 = .ok (.invokevirtual 68, 3) := by decide +kernel
theorem d_CarDesk_make_12 : decode b_CarDesk_make 12 = .ok (.ireturn, 1) := by decide +kernel
theorem d_CarDesk_make_13 : decode b_CarDesk_make 13 = .ok (.aload_n 0, 1) := by decide +kernel
theorem d_CarDesk_make_14 : decode b_CarDesk_make 14 = .ok (.iload_n 1, 1) := by decide +kernel
theorem d_CarDesk_make_15 : decode b_CarDesk_make 15 = .ok (.invokevirtual 96, 3) := by decide +kernel
theorem d_CarDesk_make_18 : decode b_CarDesk_make 18 = .ok (.ifCond .ne 10, 3) := by decide +kernel
theorem d_CarDesk_make_21 : decode b_CarDesk_make 21 = .ok (.aload_n 0, 1) := by decide +kernel
theorem d_CarDesk_make_22 : decode b_CarDesk_make 22 = .ok (.bipush (-3), 2) := by decide +kernel
theorem d_CarDesk_make_24 : decode b_CarDesk_make 24 = .ok (.invokevirtual 68, 3) := by decide +kernel
theorem d_CarDesk_make_27 : decode b_CarDesk_make 27 = .ok (.ireturn, 1) := by decide +kernel
theorem d_CarDesk_make_28 : decode b_CarDesk_make 28 = .ok (.aload_n 0, 1) := by decide +kernel
theorem d_CarDesk_make_29 : decode b_CarDesk_make 29 = .ok (.getfield 26, 3) := by decide +kernel
theorem d_CarDesk_make_32 : decode b_CarDesk_make 32 = .ok (.iload_n 1, 1) := by decide +kernel
theorem d_CarDesk_make_33 : decode b_CarDesk_make 33 = .ok (.aaload, 1) := by decide +kernel
theorem d_CarDesk_make_34 : decode b_CarDesk_make 34 = .ok (.astore_n 2, 1) := by decide +kernel
theorem d_CarDesk_make_35 : decode b_CarDesk_make 35 = .ok (.aload_n 2, 1) := by decide +kernel
theorem d_CarDesk_make_36 : decode b_CarDesk_make 36 = .ok (.invokevirtual 99, 3) := by decide +kernel
theorem d_CarDesk_make_39 : decode b_CarDesk_make 39 = .ok (.ifCond .eq 10, 3) := by decide +kernel
theorem d_CarDesk_make_42 : decode b_CarDesk_make 42 = .ok (.aload_n 0, 1) := by decide +kernel
theorem d_CarDesk_make_43 : decode b_CarDesk_make 43 = .ok (.bipush (-4), 2) := by decide +kernel
theorem d_CarDesk_make_45 : decode b_CarDesk_make 45 = .ok (.invokevirtual 68, 3) := by decide +kernel
theorem d_CarDesk_make_48 : decode b_CarDesk_make 48 = .ok (.ireturn, 1) := by decide +kernel
theorem d_CarDesk_make_49 : decode b_CarDesk_make 49 = .ok (.aload_n 0, 1) := by decide +kernel
theorem d_CarDesk_make_50 : decode b_CarDesk_make 50 = .ok (.iload_n 1, 1) := by decide +kernel
theorem d_CarDesk_make_51 : decode b_CarDesk_make 51 = .ok (.invokevirtual 100, 3) := by decide +kernel
theorem d_CarDesk_make_54 : decode b_CarDesk_make 54 = .ok (.astore_n 3, 1) := by decide +kernel
theorem d_CarDesk_make_55 : decode b_CarDesk_make 55 = .ok (.aload_n 2, 1) := by decide +kernel
theorem d_CarDesk_make_56 : decode b_CarDesk_make 56 = .ok (.new 104, 3) := by decide +kernel
theorem d_CarDesk_make_59 : decode b_CarDesk_make 59 = .ok (.dup, 1) := by decide +kernel
theorem d_CarDesk_make_60 : decode b_CarDesk_make 60 = .ok (.aload_n 0, 1) := by decide +kernel
theorem d_CarDesk_make_61 : decode b_CarDesk_make 61 = .ok (.iload_n 1, 1) := by decide +kernel
theorem d_CarDesk_make_62 : decode b_CarDesk_make 62 = .ok (.aload_n 3, 1) := by decide +kernel
theorem d_CarDesk_make_63 : decode b_CarDesk_make 63 = .ok (.invokevirtual 106, 3) := by decide +kernel
theorem d_CarDesk_make_66 : decode b_CarDesk_make 66 = .ok (.aload_n 3, 1) := by decide +kernel
theorem d_CarDesk_make_67 : decode b_CarDesk_make 67 = .ok (.invokespecial 110, 3) := by decide +kernel
theorem d_CarDesk_make_70 : decode b_CarDesk_make 70 = .ok (.invokevirtual 113, 3) := by decide +kernel
theorem d_CarDesk_make_73 : decode b_CarDesk_make 73 = .ok (.aload_n 0, 1) := by decide +kernel
theorem d_CarDesk_make_74 : decode b_CarDesk_make 74 = .ok (.iload_n 1, 1) := by decide +kernel
theorem d_CarDesk_make_75 : decode b_CarDesk_make 75 = .ok (.invokevirtual 116, 3) := by decide +kernel
theorem d_CarDesk_make_78 : decode b_CarDesk_make 78 = .ok (.aload_n 0, 1) := by decide +kernel
theorem d_CarDesk_make_79 : decode b_CarDesk_make 79 = .ok (.dup, 1) := by decide +kernel
theorem d_CarDesk_make_80 : decode b_CarDesk_make 80 = .ok (.getfield 57, 3) := by decide +kernel
theorem d_CarDesk_make_83 : decode b_CarDesk_make 83 = .ok (.iconst 1, 1) := by decide +kernel
theorem d_CarDesk_make_84 : decode b_CarDesk_make 84 = .ok (.iadd, 1) := by decide +kernel
theorem d_CarDesk_make_85 : decode b_CarDesk_make 85 = .ok (.putfield 57, 3) := by decide +kernel
theorem d_CarDesk_make_88 : decode b_CarDesk_make 88 = .ok (.aload_n 0, 1) := by decide +kernel
theorem d_CarDesk_make_89 : decode b_CarDesk_make 89 = .ok (.dup, 1) := by decide +kernel
theorem d_CarDesk_make_90 : decode b_CarDesk_make 90 = .ok (.getfield 60, 3) := by decide +kernel
theorem d_CarDesk_make_93 : decode b_CarDesk_make 93 = .ok (.iconst 1, 1) := by decide +kernel
theorem d_CarDesk_make_94 : decode b_CarDesk_make 94 = .ok (.iadd, 1) := by decide +kernel
theorem d_CarDesk_make_95 : decode b_CarDesk_make 95 = .ok (.putfield 60, 3) := by decide +kernel
theorem d_CarDesk_make_98 : decode b_CarDesk_make 98 = .ok (.bipush 64, 2) := by decide +kernel
theorem d_CarDesk_make_100 : decode b_CarDesk_make 100 = .ok (.iload_n 1, 1) := by decide +kernel
theorem d_CarDesk_make_101 : decode b_CarDesk_make 101 = .ok (.imul, 1) := by decide +kernel
theorem d_CarDesk_make_102 : decode b_CarDesk_make 102 = .ok (.aload_n 2, 1) := by decide +kernel
theorem d_CarDesk_make_103 : decode b_CarDesk_make 103 = .ok (.getfield 119, 3) := by decide +kernel
theorem d_CarDesk_make_106 : decode b_CarDesk_make 106 = .ok (.iadd, 1) := by decide +kernel
theorem d_CarDesk_make_107 : decode b_CarDesk_make 107 = .ok (.ireturn, 1) := by decide +kernel
end
section
/-! MY FRAME: a world is a set of names (sort a, number b), their addresses ad a b, their cells ce a b. Every contract speaks of the WHOLE world: no cutting out and joining. -/
def cd_Wo (D : va_G) (b0 : Nat) (dm : Nat → Nat → Prop) (ad : Nat → Nat → Nat) (ce : Nat → Nat → va_E) (H : Heap) : Prop :=
  (∀ a b, dm a b → b0 ≤ ad a b ∧ va_at D classes (ad a b, ce a b) H) ∧ ∀ a b a' b', dm a b → dm a' b' → ad a b = ad a' b' → a = a' ∧ b = b'
abbrev cd_A (b0 : Nat) : Nat → Prop := fun q => b0 ≤ q
theorem cd_Wo.one {D : va_G} {b0 : Nat} {dm : Nat → Nat → Prop} {ad : Nat → Nat → Nat} {ce : Nat → Nat → va_E} {H : Heap} (h : cd_Wo D b0 dm ad ce H) {a b : Nat} (hd : dm a b) {x : va_E} (hx : ce a b = x) : va_P D classes [(ad a b, x)] H := by
  intro k q hk
  match k, hk with
  | 0, hk =>
    cases hk
    subst hx
    exact (h.1 a b hd).2
  | k + 1, hk => simp at hk
theorem cd_Wo.set {D : va_G} {b0 : Nat} {dm : Nat → Nat → Prop} {ad : Nat → Nat → Nat} {ce ce' : Nat → Nat → va_E} {H H1 : Heap} (h : cd_Wo D b0 dm ad ce H) {a b : Nat} (hd : dm a b) {e : va_E} (he : va_at D classes (ad a b, e) H1) (oq : ∀ q : Nat, q ≠ ad a b → H1[q]? = H[q]?) (h1 : ce' a b = e) (h2 : ∀ x y, dm x y → ¬ (x = a ∧ y = b) → ce' x y = ce x y) : cd_Wo D b0 dm ad ce' H1 := by
  refine ⟨fun x y hxy => ⟨(h.1 x y hxy).1, ?_⟩, h.2⟩
  by_cases hc : x = a ∧ y = b
  · obtain ⟨rfl, rfl⟩ := hc
    rw [h1]
    exact he
  · rw [h2 x y hxy hc]
    exact (h.1 x y hxy).2.kept (oq _ (fun q => hc (h.2 x y a b hxy hd q)))
theorem cd_Wo.new {D : va_G} {b0 : Nat} {dm dm' : Nat → Nat → Prop} {ad ad' : Nat → Nat → Nat} {ce ce' : Nat → Nat → va_E} {H H1 : Heap} (h : cd_Wo D b0 dm ad ce H) (hk : ∀ q : Nat, q < H.size → H1[q]? = H[q]?) {q : Nat} (hq : H.size ≤ q) (hb : b0 ≤ q) (a b : Nat) {e : va_E} (he : va_at D classes (q, e) H1) (h1 : ad' a b = q) (h2 : ce' a b = e) (h3 : ∀ x y, dm' x y → (x = a ∧ y = b) ∨ (dm x y ∧ ad' x y = ad x y ∧ ce' x y = ce x y)) : cd_Wo D b0 dm' ad' ce' H1 := by
  have lt : ∀ x y, dm x y → ad x y < H.size := fun x y hxy => (h.1 x y hxy).2.lt
  refine ⟨fun x y hxy => ?_, fun x y x' y' hxy hxy' he' => ?_⟩
  · rcases h3 x y hxy with ⟨rfl, rfl⟩ | ⟨g1, g2, g3⟩
    · rw [h1, h2]
      exact ⟨hb, he⟩
    · rw [g2, g3]
      exact ⟨(h.1 x y g1).1, (h.1 x y g1).2.kept (hk _ (lt x y g1))⟩
  · rcases h3 x y hxy with ⟨rfl, rfl⟩ | ⟨g1, g2, g3⟩ <;> rcases h3 x' y' hxy' with ⟨rfl, rfl⟩ | ⟨k1, k2, k3⟩
    · exact ⟨rfl, rfl⟩
    · rw [h1, k2] at he'
      have := lt x' y' k1
      omega
    · rw [h1, g2] at he'
      have := lt x y g1
      omega
    · rw [g2, k2] at he'
      exact h.2 x y x' y' g1 k1 he'
theorem cd_Wo.sub {D : va_G} {b0 : Nat} {dm dm' : Nat → Nat → Prop} {ad ad' : Nat → Nat → Nat} {ce ce' : Nat → Nat → va_E} {H : Heap} (h : cd_Wo D b0 dm ad ce H) (h3 : ∀ x y, dm' x y → dm x y ∧ ad' x y = ad x y ∧ ce' x y = ce x y) : cd_Wo D b0 dm' ad' ce' H := by
  refine ⟨fun x y hxy => ?_, fun x y x' y' hxy hxy' he' => ?_⟩
  · obtain ⟨g1, g2, g3⟩ := h3 x y hxy
    rw [g2, g3]
    exact h.1 x y g1
  · obtain ⟨g1, g2, g3⟩ := h3 x y hxy
    obtain ⟨k1, k2, k3⟩ := h3 x' y' hxy'
    rw [g2, k2] at he'
    exact h.2 x y x' y' g1 k1 he'
/-- the rows' own words: nest mates' links, arrays of references -/
def cd_isN : Cond → Bool
  | .fieldLinkNest .. => true
  | .methodLinkNest .. => true
  | _ => false
theorem cd_nest_ok : ∀ w ∈ cd_nest, cd_isN w = true := by decide +kernel
def cd_EV (D : va_G) (tys : List (ClassId × FieldType)) (U : State) : Prop := va_K D classes tys U ∧ (∀ w ∈ cd_nest, va_Nw w U) ∧ ∀ C ∈ cd_aos, va_AO C U
theorem cd_Nw_warm {w : Cond} (h : cd_isN w = true) {s U : State} (hW : s.WarmedH U.vm) (hZ : va_Nw w s) : va_Nw w U := by
  cases w <;> first | exact va_Nw.warmF hW hZ | exact va_Nw.warmM hW hZ | (simp [cd_isN] at h; done)
theorem cd_EV.warm {D : va_G} {tys : List (ClassId × FieldType)} {s U : State} (hW : s.WarmedH U.vm) (h : cd_EV D tys s) : cd_EV D tys U :=
  ⟨h.1.moved hW.alike, fun w hw => cd_Nw_warm (cd_nest_ok w hw) hW (h.2.1 w hw), fun C hC => (h.2.2 C hC).moved hW.alike⟩
theorem cd_isN_tab {w : Cond} (h : cd_isN w = true) : w.onTables = true := by
  cases w <;> first | rfl | (simp [cd_isN] at h; done)
theorem cd_EV.calling {D : va_G} {tys : List (ClassId × FieldType)} {U : State} (g : JFrame) (mk : MethodId) (a : Array Value) (h : cd_EV D tys U) : cd_EV D tys (U.calling g mk a) :=
  ⟨va_K.moved (u := U) (U := U.calling g mk a) (Vm.Alike.refl U.vm) h.1, fun w hw => va_Nw.same (u := U) (U := U.calling g mk a) (cd_isN_tab (cd_nest_ok w hw)) rfl (h.2.1 w hw), fun C hC => va_AO.moved (u := U) (U := U.calling g mk a) (Vm.Alike.refl U.vm) (h.2.2 C hC)⟩
/-- a contract over the whole world -/
abbrev cd_R : Type := Option Value → (Nat → Nat → Prop) → (Nat → Nat → Nat) → (Nat → Nat → va_E) → Prop
def cd_Q (D : va_G) (b0 : Nat) (Qr : cd_R) : Array Value → State → Outcome → State → Prop := fun _ st oc t =>
  (∃ (v : Option Value) (dm : Nat → Nat → Prop) (ad : Nat → Nat → Nat) (ce : Nat → Nat → va_E), oc = .returned v ∧ Qr v dm ad ce ∧ cd_Wo D b0 dm ad ce t.heap) ∧ va_F (cd_A b0) st t
def cd_P (D : va_G) (tys : List (ClassId × FieldType)) (b0 : Nat) (dm : Nat → Nat → Prop) (ad : Nat → Nat → Nat) (ce : Nat → Nat → va_E) : State → Prop := fun U => cd_EV D tys U ∧ b0 ≤ U.heap.size ∧ cd_Wo D b0 dm ad ce U.heap
def cd_Ct (l : Launch) (D : va_G) (tys : List (ClassId × FieldType)) (b0 : Nat) (y : MethodName) (ws : List Cond) (rm : Room) (av : List Value) (dm : Nat → Nat → Prop) (ad : Nat → Nat → Nat) (ce : Nat → Nat → va_E) (Qr : cd_R) (mc ms : Nat) : Prop :=
  Met l y ws rm (va_Pc av (cd_P D tys b0 dm ad ce)) (cd_Q D b0 Qr) mc ms (cd_A b0)
theorem cd_blind {D : va_G} {tys : List (ClassId × FieldType)} {b0 : Nat} {dm : Nat → Nat → Prop} {ad : Nat → Nat → Nat} {ce : Nat → Nat → va_E} {av : List Value} : FrameBlind (va_Pc av (cd_P D tys b0 dm ad ce)) := by
  intro a U g mk q
  obtain ⟨q0, q1, q2, q3⟩ := q
  exact ⟨q0, q1.calling g mk a, q2, q3⟩
theorem cd_Ct.of {l : Launch} {D : va_G} {tys : List (ClassId × FieldType)} {b0 : Nat} {y : MethodName} {rm : Room} {av : List Value} {dm : Nat → Nat → Prop} {ad : Nat → Nat → Nat} {ce : Nat → Nat → va_E} {Qr : cd_R} {mc ms : Nat} (cc : ByteArray) (maxL : Nat) (ret : Option FieldType) (hy : plainName y.cls = true) (hsl : Nat.ble (lg_sl av).length maxL = true)
    (body : ∀ (p : Program) (e : Env) (s : State) (m : MethodId) (below : List Frame) (meth : Method) (c : Code), p.tables.exec = Jvm.exec → c.code = cc → meth.sig.returnType = ret → c.maxLocals = maxL → s.vm.findClass y.cls = some m.cls → meth.locks = false → meth.name = y.name → (∀ w ∈ cd_WA, w.before av.toArray s = true) → cd_EV D tys s → b0 ≤ s.heap.size → cd_Wo D b0 dm ad ce s.heap → va_S (cd_A b0) s.heap s.heap [] → ∀ ls : Array Slot, lv_has ls maxL (lv_args 0 av) →
      W p l e rm s m av.toArray below meth c s.heap [] 0 0 (MQ below (cd_Q D b0 Qr) av.toArray s mc ms (cd_A b0)) (F0 m 0 ls [])) : cd_Ct l D tys b0 y (Cond.code y cc maxL ret :: cd_WA) rm av dm ad ce Qr mc ms := by
  refine Met.ofW (cc := cc) (maxL := maxL) (ret := ret) hy rfl ?_
  intro p e s m args below meth c s₁ B hml hv
  obtain ⟨rfl, hE, hb0, hW⟩ := hv
  have hts := atoms_spec (ws := Cond.code y cc maxL ret :: cd_WA) B.pre
  have hl := lv_entry av (n := maxL) (Nat.le_of_ble_eq_true hsl)
  rw [lg_entry_eq]
  generalize (lg_sl av ++ List.replicate (maxL - (lg_sl av).length) Slot.unset).toArray = ls at hl ⊢
  exact body p e s m below meth c B.exec B.bytes B.returns hml (findClass_of_methodNamed B.named) B.notSynchronized (name_of_methodNamed B.named B.method).1 (fun w hw => hts w (List.mem_cons_of_mem _ hw)) hE hb0 hW va_S.rf ls hl
/-- the words that all contracts share -/
theorem cd_WA_good : GoodIn lw_tbl cd_WA := fun w h => ⟨(List.mem_filter.mp h).1, good_of_word (List.mem_filter.mp h).2⟩
theorem cd_GA {c1 : Cond} (h : c1 ∈ cd_WA) : GoodIn cd_WA (c1 :: cd_WA) := fun w hw => by
  rcases List.mem_cons.mp hw with rfl | hw
  · exact ⟨h, (cd_WA_good w h).2⟩
  · exact ⟨hw, (cd_WA_good w hw).2⟩
theorem cd_GL {c1 : Cond} (h : c1 ∈ cd_WA) : GoodIn lw_tbl (c1 :: cd_WA) := fun w hw => by
  rcases List.mem_cons.mp hw with rfl | hw
  · exact cd_WA_good w h
  · exact cd_WA_good w hw
end
section
/-! MY ROWS: an instruction that touches the world -/
section CDR
variable {p : Program} {l : Launch} {e : Env} {R : Room} {s : State} {m : MethodId} {args : Array Value} {below : List Frame} {meth : Method} {c : Code} {H : Heap} {locs : List Loc} {cells slots : Nat} {Q : State → Prop}
variable {cc : ByteArray} {pc : Nat} {ls : Array Slot} {rest : List Value} {D : va_G} {b0 : Nat} {dm : Nat → Nat → Prop} {ad : Nat → Nat → Nat} {ce : Nat → Nat → va_E} {tys : List (ClassId × FieldType)}
theorem cd_get (hexec : p.tables.exec = Jvm.exec) (hb : c.code = cc) {own ref C : String} {T : u_T} {N ci index : Nat} {Ts : List Cond} (hts : ∀ w ∈ Ts, w.before args s = true) (hin : ∀ w ∈ u_ws C T N, w ∈ Ts) (hown : s.vm.findClass own = some m.cls) (hK : va_K D classes tys s) (hW : cd_Wo D b0 dm ad ce H) (a b : Nat) (hd : dm a b) {fs : List Value} (he : ce a b = .inr (ci, fs)) (hc : classes[ci]? = some (C, T, N)) (k : Nat) (hk : k < N) (hlink : Cond.fieldLink own index ref (T k).2.1 (T k).2.2.1 ∈ Ts) (hsame : (T k).1 = ref) {v : Value} (hv : fs[k]? = some v) (hdg : decode cc pc = .ok (.getfield index, 3))
    (kk : W p l e R s m args below meth c H locs cells slots Q (F0 m (pc + 3) ls (v :: rest))) : W p l e R s m args below meth c H locs cells slots Q (F0 m pc ls (.ref (ad a b) :: rest)) :=
  va_get hexec hb hts hin hown hK (hW.one hd he) 0 rfl hc k hk (hts _ hlink) (fun x h => by rw [← hsame]; exact h) hv hdg kk
theorem cd_getN (hexec : p.tables.exec = Jvm.exec) (hb : c.code = cc) {own ref C host : String} {T : u_T} {N ci index : Nat} {Ts : List Cond} (hts : ∀ w ∈ Ts, w.before args s = true) (hin : ∀ w ∈ u_ws C T N, w ∈ Ts) (hown : s.vm.findClass own = some m.cls) (hE : cd_EV D tys s) (hW : cd_Wo D b0 dm ad ce H) (a b : Nat) (hd : dm a b) {fs : List Value} (he : ce a b = .inr (ci, fs)) (hc : classes[ci]? = some (C, T, N)) (k : Nat) (hk : k < N) (hlink : Cond.fieldLinkNest own index ref (T k).2.1 (T k).2.2.1 host ∈ cd_nest) (hsame : (T k).1 = ref) {v : Value} (hv : fs[k]? = some v) (hdg : decode cc pc = .ok (.getfield index, 3))
    (kk : W p l e R s m args below meth c H locs cells slots Q (F0 m (pc + 3) ls (v :: rest))) : W p l e R s m args below meth c H locs cells slots Q (F0 m pc ls (.ref (ad a b) :: rest)) :=
  va_getN hexec hb hts hin hown hE.1 (hW.one hd he) 0 rfl hc k hk (va_Nw.use rfl (hE.2.1 _ hlink)) (fun x h => by rw [← hsame]; exact h) hv hdg kk
theorem cd_put (hexec : p.tables.exec = Jvm.exec) (hb : c.code = cc) {own ref C : String} {T : u_T} {N ci index : Nat} {Ts : List Cond} (hts : ∀ w ∈ Ts, w.before args s = true) (hin : ∀ w ∈ u_ws C T N, w ∈ Ts) (ty0 : Nat → FieldType) (hty : ∀ k, k < N → parseFieldDescriptor (T k).2.2.1 = some (ty0 k)) (hnm : ∀ a, a < N → ∀ b, b < N → a ≠ b → (T a).2.1 ≠ (T b).2.1) (hown : s.vm.findClass own = some m.cls) (hK : va_K D classes tys s) (hW : cd_Wo D b0 dm ad ce H) (hS : va_S (cd_A b0) s.heap H locs) (a b : Nat) (hd : dm a b) {fs : List Value} (he : ce a b = .inr (ci, fs)) (hc : classes[ci]? = some (C, T, N)) (k : Nat) (hk : k < N) (hlink : Cond.fieldLink own index ref (T k).2.1 (T k).2.2.1 ∈ Ts) (hsame : (T k).1 = ref) (hfin : (T k).2.2.2 = false) {v : Value} (hn : narrow (ty0 k) v = v) (hfit : fits (ty0 k) v = true) (hl : k < fs.length)
    (hdg : decode cc pc = .ok (.putfield index, 3)) (ce' : Nat → Nat → va_E) (h1 : ce' a b = .inr (ci, fs.set k v)) (h2 : ∀ x y, dm x y → ¬ (x = a ∧ y = b) → ce' x y = ce x y)
    (kk : ∀ (H1 : Heap) (locs1 : List Loc), cd_Wo D b0 dm ad ce' H1 → va_S (cd_A b0) s.heap H1 locs1 → W p l e R s m args below meth c H1 locs1 cells slots Q (F0 m (pc + 3) ls rest)) : W p l e R s m args below meth c H locs cells slots Q (F0 m pc ls (v :: .ref (ad a b) :: rest)) := by
  have hap := va_apart (own := own) hts hin ty0 hty hnm hK hc
  obtain ⟨r, q0, cell, q1, q2, q3, q4⟩ := (hW.one hd he) 0 _ rfl
  have hr : r = (C, T, N) := Option.some.inj (q0.symm.trans hc)
  subst hr
  obtain ⟨hSl, hfc, kC, hkC, hkind⟩ := hK.1 ci _ hc
  obtain ⟨cf, kf, fi, f, hi, hsl⟩ := hSl k hk
  have hlay := hts _ (hin _ (u_in_lay hk))
  unfold u_lay at hlay
  rw [if_neg (by rw [hfin]; decide)] at hlay
  have hst := (u_facts hfc hkC (u_lays hts hin hk) hi).1
  have h6 := u_store hfc hkC hkind hlay hi (hty k hk) hn hfit
  refine W.putK hexec hb (f := f) ⟨hown, hts _ hlink, ⟨_, _, _, by rw [← hsame]; exact hi⟩, hst⟩ (by rw [q2]; exact h6) q1 q3 (by rw [hsl]; exact k2_hasslot (q4 k hk)) rfl rfl hdg fun H' e1 e2 e3 => ?_
  rw [hsl] at e1 ⊢
  exact kk H' _ (hW.set hd (e := .inr (ci, fs.set k v)) ⟨_, hc, t_OB.to (V := updV (vp_V fs) k v) ⟨_, e1, q2, q3, t_set q4 hap hk v⟩ (fun j _ => vp_updV_set hl v j)⟩ e3 h1 h2) (hS.put e2 e3 (hW.1 a b hd).1)
theorem cd_putN (hexec : p.tables.exec = Jvm.exec) (hb : c.code = cc) {own ref C host : String} {T : u_T} {N ci index : Nat} {Ts : List Cond} (hts : ∀ w ∈ Ts, w.before args s = true) (hin : ∀ w ∈ u_ws C T N, w ∈ Ts) (ty0 : Nat → FieldType) (hty : ∀ k, k < N → parseFieldDescriptor (T k).2.2.1 = some (ty0 k)) (hnm : ∀ a, a < N → ∀ b, b < N → a ≠ b → (T a).2.1 ≠ (T b).2.1) (hown : s.vm.findClass own = some m.cls) (hE : cd_EV D tys s) (hW : cd_Wo D b0 dm ad ce H) (hS : va_S (cd_A b0) s.heap H locs) (a b : Nat) (hd : dm a b) {fs : List Value} (he : ce a b = .inr (ci, fs)) (hc : classes[ci]? = some (C, T, N)) (k : Nat) (hk : k < N) (hlink : Cond.fieldLinkNest own index ref (T k).2.1 (T k).2.2.1 host ∈ cd_nest) (hsame : (T k).1 = ref) (hfin : (T k).2.2.2 = false) {v : Value} (hn : narrow (ty0 k) v = v) (hfit : fits (ty0 k) v = true) (hl : k < fs.length)
    (hdg : decode cc pc = .ok (.putfield index, 3)) (ce' : Nat → Nat → va_E) (h1 : ce' a b = .inr (ci, fs.set k v)) (h2 : ∀ x y, dm x y → ¬ (x = a ∧ y = b) → ce' x y = ce x y)
    (kk : ∀ (H1 : Heap) (locs1 : List Loc), cd_Wo D b0 dm ad ce' H1 → va_S (cd_A b0) s.heap H1 locs1 → W p l e R s m args below meth c H1 locs1 cells slots Q (F0 m (pc + 3) ls rest)) : W p l e R s m args below meth c H locs cells slots Q (F0 m pc ls (v :: .ref (ad a b) :: rest)) := by
  have hK := hE.1
  have hap := va_apart (own := own) hts hin ty0 hty hnm hK hc
  obtain ⟨r, q0, cell, q1, q2, q3, q4⟩ := (hW.one hd he) 0 _ rfl
  have hr : r = (C, T, N) := Option.some.inj (q0.symm.trans hc)
  subst hr
  obtain ⟨hSl, hfc, kC, hkC, hkind⟩ := hK.1 ci _ hc
  obtain ⟨cf, kf, fi, f, hi, hsl⟩ := hSl k hk
  have hlay := hts _ (hin _ (u_in_lay hk))
  unfold u_lay at hlay
  rw [if_neg (by rw [hfin]; decide)] at hlay
  have hst := (u_facts hfc hkC (u_lays hts hin hk) hi).1
  have h6 := u_store hfc hkC hkind hlay hi (hty k hk) hn hfit
  refine va_WputK hexec hb (f := f) hown (va_Nw.use rfl (hE.2.1 _ hlink)) (by rw [← hsame]; exact hi) hst (by rw [q2]; exact h6) q1 q3 (by rw [hsl]; exact k2_hasslot (q4 k hk)) rfl rfl hdg fun H' e1 e2 e3 => ?_
  rw [hsl] at e1 ⊢
  exact kk H' _ (hW.set hd (e := .inr (ci, fs.set k v)) ⟨_, hc, t_OB.to (V := updV (vp_V fs) k v) ⟨_, e1, q2, q3, t_set q4 hap hk v⟩ (fun j _ => vp_updV_set hl v j)⟩ e3 h1 h2) (hS.put e2 e3 (hW.1 a b hd).1)
theorem cd_putF (hexec : p.tables.exec = Jvm.exec) (hb : c.code = cc) {own ref C : String} {T : u_T} {N ci index : Nat} {Ts : List Cond} (hts : ∀ w ∈ Ts, w.before args s = true) (hin : ∀ w ∈ u_ws C T N, w ∈ Ts) (ty0 : Nat → FieldType) (hty : ∀ k, k < N → parseFieldDescriptor (T k).2.2.1 = some (ty0 k)) (hnm : ∀ a, a < N → ∀ b, b < N → a ≠ b → (T a).2.1 ≠ (T b).2.1) (hown : s.vm.findClass own = some m.cls) (hK : va_K D classes tys s) (hW : cd_Wo D b0 dm ad ce H) (hS : va_S (cd_A b0) s.heap H locs) (a b : Nat) (hd : dm a b) {fs : List Value} (he : ce a b = .inr (ci, fs)) (hc : classes[ci]? = some (C, T, N)) (k : Nat) (hk : k < N) (hlink : Cond.fieldLink own index ref (T k).2.1 (T k).2.2.1 ∈ Ts) (hsame : (T k).1 = ref) (hfin : (T k).2.2.2 = true) (hin2 : meth.name = "<init>") (hdecl : (T k).1 = own) {v : Value} (hn : narrow (ty0 k) v = v) (hfit : fits (ty0 k) v = true) (hl : k < fs.length)
    (hdg : decode cc pc = .ok (.putfield index, 3)) (ce' : Nat → Nat → va_E) (h1 : ce' a b = .inr (ci, fs.set k v)) (h2 : ∀ x y, dm x y → ¬ (x = a ∧ y = b) → ce' x y = ce x y)
    (kk : ∀ (H1 : Heap) (locs1 : List Loc), cd_Wo D b0 dm ad ce' H1 → va_S (cd_A b0) s.heap H1 locs1 → W p l e R s m args below meth c H1 locs1 cells slots Q (F0 m (pc + 3) ls rest)) : W p l e R s m args below meth c H locs cells slots Q (F0 m pc ls (v :: .ref (ad a b) :: rest)) := by
  have hap := va_apart (own := own) hts hin ty0 hty hnm hK hc
  obtain ⟨r, q0, cell, q1, q2, q3, q4⟩ := (hW.one hd he) 0 _ rfl
  have hr : r = (C, T, N) := Option.some.inj (q0.symm.trans hc)
  subst hr
  obtain ⟨hSl, hfc, kC, hkC, hkind⟩ := hK.1 ci _ hc
  obtain ⟨cf, kf, fi, f, hi, hsl⟩ := hSl k hk
  have hlay := hts _ (hin _ (u_in_lay hk))
  unfold u_lay at hlay
  rw [if_pos hfin] at hlay
  have hst := (u_facts hfc hkC (u_lays hts hin hk) hi).1
  have hcf : m.cls = cf := by
    obtain ⟨_, _, c', _, _, _, -, -, hf', -, -, -, hown2, -⟩ := Cond.laysFinal_spec hlay
    have e1 : c' = cf := by have := hi.symm.trans hf'; simp at this; exact this.1.symm
    rw [hdecl] at hown2
    rw [← e1]; exact Option.some.inj (hown.symm.trans hown2)
  have h6 := u_fits hfc hkC hkind (Or.inr hlay) hi (hty k hk) hn hfit
  refine W.putFinK hexec hb hown (hts _ hlink) (by rw [← hsame]; exact hi) hst hcf hin2 (by rw [q2]; exact h6) q1 q3 (by rw [hsl]; exact k2_hasslot (q4 k hk)) rfl rfl hdg fun H' e1 e2 e3 => ?_
  rw [hsl] at e1 ⊢
  exact kk H' _ (hW.set hd (e := .inr (ci, fs.set k v)) ⟨_, hc, t_OB.to (V := updV (vp_V fs) k v) ⟨_, e1, q2, q3, t_set q4 hap hk v⟩ (fun j _ => vp_updV_set hl v j)⟩ e3 h1 h2) (hS.put e2 e3 (hW.1 a b hd).1)
theorem cd_iald (hexec : p.tables.exec = Jvm.exec) (hb : c.code = cc) (hK : va_K D classes tys s) (hW : cd_Wo D b0 dm ad ce H) (a b : Nat) (hd : dm a b) (t0 : Nat) {cA : ClassId} {n : Nat} {f : Nat → Int32} (he : ce a b = .inl (cA, n, .inl f)) (ht : tys[t0]? = some (cA, .int)) {i : Int32} (hin : vp_in i n) (hdg : decode cc pc = .ok (.iaload, 1))
    (kk : W p l e R s m args below meth c H locs cells slots Q (F0 m (pc + 1) ls (.int (f i.toNatClampNeg) :: rest))) : W p l e R s m args below meth c H locs cells slots Q (F0 m pc ls (.int i :: .ref (ad a b) :: rest)) :=
  va_iald hexec hb hK (hW.one hd he) 0 t0 rfl ht hin hdg kk
theorem cd_lald (hexec : p.tables.exec = Jvm.exec) (hb : c.code = cc) (hK : va_K D classes tys s) (hW : cd_Wo D b0 dm ad ce H) (a b : Nat) (hd : dm a b) (t0 : Nat) {cA : ClassId} {n : Nat} {f : Nat → Int64} (he : ce a b = .inl (cA, n, .inr (.inl f))) (ht : tys[t0]? = some (cA, .long)) {i : Int32} (hin : vp_in i n) (hdg : decode cc pc = .ok (.laload, 1))
    (kk : W p l e R s m args below meth c H locs cells slots Q (F0 m (pc + 1) ls (.long (f i.toNatClampNeg) :: rest))) : W p l e R s m args below meth c H locs cells slots Q (F0 m pc ls (.int i :: .ref (ad a b) :: rest)) :=
  va_lald hexec hb hK (hW.one hd he) 0 t0 rfl ht hin hdg kk
theorem cd_zald (hexec : p.tables.exec = Jvm.exec) (hb : c.code = cc) (hK : va_K D classes tys s) (hW : cd_Wo D b0 dm ad ce H) (a b : Nat) (hd : dm a b) (t0 : Nat) {cA : ClassId} {n : Nat} {f : Nat → Int32} (he : ce a b = .inl (cA, n, .inl f)) (ht : tys[t0]? = some (cA, .boolean)) {i : Int32} (hin : vp_in i n) (hdg : decode cc pc = .ok (.baload, 1))
    (kk : W p l e R s m args below meth c H locs cells slots Q (F0 m (pc + 1) ls (.int (f i.toNatClampNeg) :: rest))) : W p l e R s m args below meth c H locs cells slots Q (F0 m pc ls (.int i :: .ref (ad a b) :: rest)) :=
  va_zald hexec hb hK (hW.one hd he) 0 t0 rfl ht hin hdg kk
theorem cd_aald (hexec : p.tables.exec = Jvm.exec) (hb : c.code = cc) (hK : va_K D classes tys s) (hW : cd_Wo D b0 dm ad ce H) (a b : Nat) (hd : dm a b) (t0 : Nat) {cA : ClassId} {C : String} {n : Nat} {f : Nat → Option Nat} (he : ce a b = .inl (cA, n, .inr (.inr (.inr (.inr f))))) (ht : tys[t0]? = some (cA, .object C)) {i : Int32} (hin : vp_in i n) (hdg : decode cc pc = .ok (.aaload, 1))
    (kk : W p l e R s m args below meth c H locs cells slots Q (F0 m (pc + 1) ls (va_rf (f i.toNatClampNeg) :: rest))) : W p l e R s m args below meth c H locs cells slots Q (F0 m pc ls (.int i :: .ref (ad a b) :: rest)) :=
  va_aldq hexec hb hK (hW.one hd he) 0 t0 rfl ht hin hdg kk
theorem cd_alen (hexec : p.tables.exec = Jvm.exec) (hb : c.code = cc) (hK : va_K D classes tys s) (hW : cd_Wo D b0 dm ad ce H) (a b : Nat) (hd : dm a b) (t0 : Nat) {cA : ClassId} {ty : FieldType} {n : Nat} {f : Nat → Int32} (he : ce a b = .inl (cA, n, .inl f)) (ht : tys[t0]? = some (cA, ty)) (hdg : decode cc pc = .ok (.arraylength, 1))
    (kk : W p l e R s m args below meth c H locs cells slots Q (F0 m (pc + 1) ls (.int (Int32.ofNat n) :: rest))) : W p l e R s m args below meth c H locs cells slots Q (F0 m pc ls (.ref (ad a b) :: rest)) :=
  W.alen (n := Int32.ofNat n) hexec hb ((hW.one hd he) 0 _ rfl) ((hK.2 t0 _ ht).1 n (fun j => .int (f j))) (by rw [vp_cell_i, arrV_size] <;> rfl) rfl rfl hdg kk
theorem cd_iast (hexec : p.tables.exec = Jvm.exec) (hb : c.code = cc) (hK : va_K D classes tys s) (hW : cd_Wo D b0 dm ad ce H) (hS : va_S (cd_A b0) s.heap H locs) (a b : Nat) (hd : dm a b) (t0 : Nat) {cA : ClassId} {n : Nat} {f : Nat → Int32} (he : ce a b = .inl (cA, n, .inl f)) (ht : tys[t0]? = some (cA, .int)) {i x : Int32} (hin : vp_in i n) (hdg : decode cc pc = .ok (.iastore, 1))
    (ce' : Nat → Nat → va_E) (h1 : ce' a b = .inl (cA, n, .inl (upd f i.toNatClampNeg x))) (h2 : ∀ x y, dm x y → ¬ (x = a ∧ y = b) → ce' x y = ce x y)
    (kk : ∀ (H1 : Heap) (locs1 : List Loc), cd_Wo D b0 dm ad ce' H1 → va_S (cd_A b0) s.heap H1 locs1 → W p l e R s m args below meth c H1 locs1 cells slots Q (F0 m (pc + 1) ls rest)) : W p l e R s m args below meth c H locs cells slots Q (F0 m pc ls (.int x :: .int i :: .ref (ad a b) :: rest)) := by
  refine W.iast hexec hb ((hW.one hd he) 0 _ rfl) ((hK.2 t0 _ ht).1 n (fun j => .int (f j))) (fun q => by cases q) (by show ¬ (i < 0 ∨ (arrV _ _ _).slots.size ≤ _); rw [arrV_size]; exact hin) rfl rfl hdg fun H1 e z oq => ?_
  refine kk H1 _ (hW.set hd ?_ oq h1 h2) (hS.put z oq (hW.1 a b hd).1)
  show H1[ad a b]? = some (vp_cell _ _)
  rw [e]
  rw [vp_cell_i, vp_cell_i, arrV_store]
  congr 2
  funext q
  by_cases hq : q = i.toNatClampNeg
  · subst hq
    simp [updV, upd]
  · simp [updV, upd, hq]
theorem cd_last (hexec : p.tables.exec = Jvm.exec) (hb : c.code = cc) (hK : va_K D classes tys s) (hW : cd_Wo D b0 dm ad ce H) (hS : va_S (cd_A b0) s.heap H locs) (a b : Nat) (hd : dm a b) (t0 : Nat) {cA : ClassId} {n : Nat} {f : Nat → Int64} (he : ce a b = .inl (cA, n, .inr (.inl f))) (ht : tys[t0]? = some (cA, .long)) {i : Int32} {x : Int64} (hin : vp_in i n) (hdg : decode cc pc = .ok (.lastore, 1))
    (ce' : Nat → Nat → va_E) (h1 : ce' a b = .inl (cA, n, .inr (.inl (vp_updL f i.toNatClampNeg x)))) (h2 : ∀ x y, dm x y → ¬ (x = a ∧ y = b) → ce' x y = ce x y)
    (kk : ∀ (H1 : Heap) (locs1 : List Loc), cd_Wo D b0 dm ad ce' H1 → va_S (cd_A b0) s.heap H1 locs1 → W p l e R s m args below meth c H1 locs1 cells slots Q (F0 m (pc + 1) ls rest)) : W p l e R s m args below meth c H locs cells slots Q (F0 m pc ls (.long x :: .int i :: .ref (ad a b) :: rest)) := by
  refine W.last hexec hb ((hW.one hd he) 0 _ rfl) ((hK.2 t0 _ ht).1 n (fun j => .long (f j))) (fun q => by cases q) (by show ¬ (i < 0 ∨ (arrV _ _ _).slots.size ≤ _); rw [arrV_size]; exact hin) rfl rfl hdg fun H1 e z oq => ?_
  refine kk H1 _ (hW.set hd ?_ oq h1 h2) (hS.put z oq (hW.1 a b hd).1)
  show H1[ad a b]? = some (vp_cell _ _)
  rw [e]
  rw [vp_cell_l, vp_cell_l, arrV_store]
  congr 2
  funext q
  by_cases hq : q = i.toNatClampNeg
  · subst hq
    simp [updV, vp_updL]
  · simp [updV, vp_updL, hq]
theorem cd_zast (hexec : p.tables.exec = Jvm.exec) (hb : c.code = cc) (hK : va_K D classes tys s) (hW : cd_Wo D b0 dm ad ce H) (hS : va_S (cd_A b0) s.heap H locs) (a b : Nat) (hd : dm a b) (t0 : Nat) {cA : ClassId} {n : Nat} {f : Nat → Int32} (he : ce a b = .inl (cA, n, .inl f)) (ht : tys[t0]? = some (cA, .boolean)) {i x : Int32} (hin : vp_in i n) (hdg : decode cc pc = .ok (.bastore, 1))
    (ce' : Nat → Nat → va_E) (h1 : ce' a b = .inl (cA, n, .inl (upd f i.toNatClampNeg (vp_nar .boolean x)))) (h2 : ∀ x y, dm x y → ¬ (x = a ∧ y = b) → ce' x y = ce x y)
    (kk : ∀ (H1 : Heap) (locs1 : List Loc), cd_Wo D b0 dm ad ce' H1 → va_S (cd_A b0) s.heap H1 locs1 → W p l e R s m args below meth c H1 locs1 cells slots Q (F0 m (pc + 1) ls rest)) : W p l e R s m args below meth c H locs cells slots Q (F0 m pc ls (.int x :: .int i :: .ref (ad a b) :: rest)) := by
  refine W.zast hexec hb ((hW.one hd he) 0 _ rfl) ((hK.2 t0 _ ht).1 n (fun j => .int (f j))) (fun q => by cases q) (by show ¬ (i < 0 ∨ (arrV _ _ _).slots.size ≤ _); rw [arrV_size]; exact hin) rfl rfl hdg fun H1 e z oq => ?_
  refine kk H1 _ (hW.set hd ?_ oq h1 h2) (hS.put z oq (hW.1 a b hd).1)
  show H1[ad a b]? = some (vp_cell _ _)
  rw [e]
  rw [vp_cell_i, vp_cell_i, arrV_store]
  congr 2
  funext q
  by_cases hq : q = i.toNatClampNeg
  · subst hq
    simp [updV, upd, vp_nar]
    try rfl
  · simp [updV, upd, hq]
theorem cd_aast (hexec : p.tables.exec = Jvm.exec) (hb : c.code = cc) (hK : va_K D classes tys s) (hW : cd_Wo D b0 dm ad ce H) (hS : va_S (cd_A b0) s.heap H locs) (a b : Nat) (hd : dm a b) (t0 : Nat) (a2 b2 : Nat) (hd2 : dm a2 b2) (ci : Nat) {cA : ClassId} {r : vw_C} {n : Nat} {vs : List Value} {f : Nat → Option Nat} (he : ce a b = .inl (cA, n, .inr (.inr (.inr (.inr f))))) (ht : tys[t0]? = some (cA, .object r.1)) (hv : ce a2 b2 = .inr (ci, vs)) (hc : classes[ci]? = some r) {i : Int32} (hin : vp_in i n) (hdg : decode cc pc = .ok (.aastore, 1))
    (ce' : Nat → Nat → va_E) (h1 : ce' a b = .inl (cA, n, .inr (.inr (.inr (.inr (va_up f i.toNatClampNeg (some (ad a2 b2)))))))) (h2 : ∀ x y, dm x y → ¬ (x = a ∧ y = b) → ce' x y = ce x y)
    (kk : ∀ (H1 : Heap) (locs1 : List Loc), cd_Wo D b0 dm ad ce' H1 → va_S (cd_A b0) s.heap H1 locs1 → W p l e R s m args below meth c H1 locs1 cells slots Q (F0 m (pc + 1) ls rest)) : W p l e R s m args below meth c H locs cells slots Q (F0 m pc ls (.ref (ad a2 b2) :: .int i :: .ref (ad a b) :: rest)) := by
  have hlt : i.toNatClampNeg < n := Nat.not_le.mp fun q => hin (Or.inr q)
  have h0 : ¬ i < 0 := fun q => hin (Or.inl q)
  obtain ⟨r', hr', cellV, g1, g2, g3, -⟩ := (hW.one hd2 hv) 0 _ rfl
  have hcls := (hK.1 ci r hc).2
  obtain ⟨kA, comp, k1, k2, k3, -⟩ := (hK.2 t0 _ ht).2
  have hcomp : comp = D.1 ci := Option.some.inj (k3.symm.trans hcls.1)
  subst hcomp
  obtain ⟨kC, hkC, -⟩ := hcls.2
  refine W.aast hexec hb ((hW.one hd he) 0 _ rfl) (fun q h => by cases h) (fun h => by cases h) k1 k2 rfl hkC ⟨h0, by show _ < (arrV _ _ _).slots.size; rw [arrV_size]; exact hlt⟩ g1 (fun q h => by rw [g3] at h; cases h) (by rw [g2]; exact hkC) (by rw [g2]; exact va_assign hcls) rfl rfl hdg fun H1 e z oq => ?_
  refine kk H1 _ (hW.set hd ?_ oq h1 h2) (hS.put z oq (hW.1 a b hd).1)
  show H1[ad a b]? = some (vp_cell _ _)
  rw [e]
  rw [vp_cell_q, vp_cell_q, arrV_store]
  congr 2
  funext q
  by_cases hq : q = i.toNatClampNeg
  · subst hq
    simp [updV, va_up, va_rf]
  · simp [updV, va_up, hq]
/-- new objects and arrays: the address is some q that no name has; the world behind it is yours to write down -/
theorem cd_new (hexec : p.tables.exec = Jvm.exec) (hb : c.code = cc) {own C : String} {T : u_T} {N ci index : Nat} {Ts : List Cond} (hts : ∀ w ∈ Ts, w.before args s = true) (hin : ∀ w ∈ u_ws C T N, w ∈ Ts) (ty : Nat → FieldType) (hty : ∀ k, k < N → parseFieldDescriptor (T k).2.2.1 = some (ty k)) (hown : s.vm.findClass own = some m.cls) (hcl : Cond.classLink own index C ∈ Ts) (hinst : Cond.instantiable C N ∈ Ts) (hini : Cond.initialized C ∈ Ts)
    (hK : va_K D classes tys s) (hb0 : b0 ≤ s.heap.size) (hW : cd_Wo D b0 dm ad ce H) (hS : va_S (cd_A b0) s.heap H locs) (hc : classes[ci]? = some (C, T, N)) {fs : List Value} (hfs : ∀ j, j < N → defaultValue (ty j) = vp_V fs j) (hcells : cells + 1 ≤ R.cells) (hslots : slots + N ≤ R.slots) (hdg : decode cc pc = .ok (.new index, 3))
    (a b : Nat) (dm' : Nat → Nat → Prop) (ad' : Nat → Nat → Nat → Nat) (ce' : Nat → Nat → Nat → va_E) (h1 : ∀ q, ad' q a b = q) (h2 : ∀ q, ce' q a b = .inr (ci, fs)) (h3 : ∀ q x y, dm' x y → (x = a ∧ y = b) ∨ (dm x y ∧ ad' q x y = ad x y ∧ ce' q x y = ce x y))
    (kk : ∀ (q : Nat) (H1 : Heap), cd_Wo D b0 dm' (ad' q) (ce' q) H1 → va_S (cd_A b0) s.heap H1 locs → W p l e R s m args below meth c H1 locs (cells + 1) (slots + N) Q (F0 m (pc + 3) ls (.ref q :: rest))) : W p l e R s m args below meth c H locs cells slots Q (F0 m pc ls rest) := by
  have hKn := hK.1 ci _ hc
  refine W.newcK hexec hb hown (hts _ hcl) (hts _ hinst) (hts _ hini) rfl hdg hcells hslots hKn.2.1 rfl fun H1 kC hkC e1 z1 o1 => ?_
  have hbq : b0 ≤ H.size := Nat.le_trans hb0 hS.1
  refine kk H.size H1 (hW.new o1 (Nat.le_refl _) hbq a b (e := .inr (ci, fs)) ⟨_, hc, (u_born ty hts hin hKn hkC e1 hty).to hfs⟩ (h1 _) (h2 _) (h3 _)) ⟨Nat.le_trans hS.1 (by omega), fun x g1 g2 => (o1 x (Nat.lt_of_lt_of_le g1 hS.1)).trans (hS.2.1 x g1 g2), hS.2.2⟩
theorem cd_newa (hexec : p.tables.exec = Jvm.exec) (hb : c.code = cc) {atype : ArrayType} {Ts : List Cond} (hts : ∀ w ∈ Ts, w.before args s = true) {ty : FieldType} (harr : Cond.arrayClass ty ∈ Ts) (hty : newarray.typeOf atype = ty) (hK : va_K D classes tys s) (hb0 : b0 ≤ s.heap.size) (hW : cd_Wo D b0 dm ad ce H) (hS : va_S (cd_A b0) s.heap H locs) (t0 : Nat) {cA : ClassId} (ht : tys[t0]? = some (cA, ty)) (hnr : ∀ C, ty ≠ .object C)
    {n : Int32} {N' : Nat} {a0 : vp_A} (ha : ∀ cA : ClassId, vp_cell cA a0 = arrV cA N' (fun _ => defaultValue ty)) (hn : ¬ n < 0) (hN : n.toNatClampNeg = N') (hbytes : N' * componentBytes ty ≤ 536870912) (hcells : cells + 1 ≤ R.cells) (hslots : slots + N' ≤ R.slots) (hdg : decode cc pc = .ok (.newarray atype, 2))
    (a b : Nat) (dm' : Nat → Nat → Prop) (ad' : Nat → Nat → Nat → Nat) (ce' : Nat → Nat → Nat → va_E) (h1 : ∀ q, ad' q a b = q) (h2 : ∀ q, ce' q a b = .inl (cA, a0)) (h3 : ∀ q x y, dm' x y → (x = a ∧ y = b) ∨ (dm x y ∧ ad' q x y = ad x y ∧ ce' q x y = ce x y))
    (kk : ∀ (q : Nat) (H1 : Heap), cd_Wo D b0 dm' (ad' q) (ce' q) H1 → va_S (cd_A b0) s.heap H1 locs → W p l e R s m args below meth c H1 locs (cells + 1) (slots + N') Q (F0 m (pc + 2) ls (.ref q :: rest))) : W p l e R s m args below meth c H locs cells slots Q (F0 m pc ls (.int n :: rest)) := by
  subst hty
  refine va_newaK hexec hb (hts _ harr) rfl hdg rfl hn hN hbytes hcells hslots rfl fun H1 cA1 e1 z1 o1 hAr hNm => ?_
  have hbq : b0 ≤ H.size := Nat.le_trans hb0 hS.1
  have hcA : cA1 = cA := by
    have g := (hK.2 t0 _ ht).2
    cases atype <;> exact Option.some.inj (hNm.symm.trans g)
  subst hcA
  refine kk H.size H1 (hW.new o1 (Nat.le_refl _) hbq a b (e := .inl (cA1, a0)) ?_ (h1 _) (h2 _) (h3 _)) ⟨Nat.le_trans hS.1 (by omega), fun x g1 g2 => (o1 x (Nat.lt_of_lt_of_le g1 hS.1)).trans (hS.2.1 x g1 g2), hS.2.2⟩
  show H1[H.size]? = some (vp_cell _ _)
  rw [ha]
  exact e1
theorem cd_newq (hexec : p.tables.exec = Jvm.exec) (hb : c.code = cc) {own C : String} {index : Nat} {Ts : List Cond} (hts : ∀ w ∈ Ts, w.before args s = true) (hown : s.vm.findClass own = some m.cls) (hclink : Cond.classLink own index C ∈ Ts) (hE : cd_EV D tys s) (hover : C ∈ cd_aos) (hb0 : b0 ≤ s.heap.size) (hW : cd_Wo D b0 dm ad ce H) (hS : va_S (cd_A b0) s.heap H locs) (t0 : Nat) {cA : ClassId} (ht : tys[t0]? = some (cA, .object C))
    {n : Int32} {N' : Nat} (hn : ¬ n < 0) (hN : n.toNatClampNeg = N') (hbytes : N' * 4 ≤ 536870912) (hcells : cells + 1 ≤ R.cells) (hslots : slots + N' ≤ R.slots) (hdg : decode cc pc = .ok (.anewarray index, 3))
    (a b : Nat) (dm' : Nat → Nat → Prop) (ad' : Nat → Nat → Nat → Nat) (ce' : Nat → Nat → Nat → va_E) (h1 : ∀ q, ad' q a b = q) (h2 : ∀ q, ce' q a b = .inl (cA, N', .inr (.inr (.inr (.inr (fun _ => none)))))) (h3 : ∀ q x y, dm' x y → (x = a ∧ y = b) ∨ (dm x y ∧ ad' q x y = ad x y ∧ ce' q x y = ce x y))
    (kk : ∀ (q : Nat) (H1 : Heap), cd_Wo D b0 dm' (ad' q) (ce' q) H1 → va_S (cd_A b0) s.heap H1 locs → W p l e R s m args below meth c H1 locs (cells + 1) (slots + N') Q (F0 m (pc + 3) ls (.ref q :: rest))) : W p l e R s m args below meth c H locs cells slots Q (F0 m pc ls (.int n :: rest)) := by
  subst hN
  refine W.anew hexec hb hown (hts _ hclink) (va_AO.use (hE.2.2 C hover)) rfl hdg rfl hn hbytes hcells hslots fun cA1 kA comp f1 f2 f3 f4 => ?_
  generalize hH1 : H.push ({ cls := cA1, slots := Array.replicate n.toNatClampNeg .null, vm := .none } : Cell) = H1
  have z1 : H1.size = H.size + 1 := by rw [← hH1, Array.size_push]
  have e1 : H1[H.size]? = some (arrV cA1 n.toNatClampNeg (fun _ => .null)) := by rw [← hH1, Array.getElem?_push_size, ← arrV_new]
  have o1 : ∀ q : Nat, q < H.size → H1[q]? = H[q]? := fun q hq => by rw [← hH1, Array.getElem?_push, if_neg (Nat.ne_of_lt hq)]
  have hbq : b0 ≤ H.size := Nat.le_trans hb0 hS.1
  have hcA : cA1 = cA := by
    obtain ⟨kA', comp', _, _, _, g4⟩ := (hE.1.2 t0 _ ht).2
    exact Option.some.inj (f1.symm.trans g4)
  subst hcA
  refine kk H.size H1 (hW.new o1 (Nat.le_refl _) hbq a b (e := .inl (cA1, n.toNatClampNeg, .inr (.inr (.inr (.inr (fun _ => none)))))) ?_ (h1 _) (h2 _) (h3 _)) ⟨Nat.le_trans hS.1 (by omega), fun x g1 g2 => (o1 x (Nat.lt_of_lt_of_le g1 hS.1)).trans (hS.2.1 x g1 g2), hS.2.2⟩
  show H1[H.size]? = some (vp_cell _ _)
  rw [vp_cell_q]
  exact e1
/-! returns -/
variable {Qr : cd_R} {mc ms : Nat}
theorem cd_iret (hexec : p.tables.exec = Jvm.exec) (hb : c.code = cc) (hr : meth.sig.returnType = some .int) (hlocks : meth.locks = false) (hW : cd_Wo D b0 dm ad ce H) (hS : va_S (cd_A b0) s.heap H locs) {v : Int32} (hdg : decode cc pc = .ok (.ireturn, 1)) (hq : Qr (some (.int v)) dm ad ce) (hc : cells ≤ mc) (hs : slots ≤ ms) :
    W p l e R s m args below meth c H locs cells slots (MQ below (cd_Q D b0 Qr) args s mc ms (cd_A b0)) (F0 m pc ls [.int v]) :=
  W.widen hc hs (W.iret hexec hb hr (fun t ht _ => ⟨⟨_, dm, ad, ce, rfl, hq, by rw [ht]; exact hW⟩, hS.F ht⟩) hS.2.2 hdg hlocks)
theorem cd_zret (hexec : p.tables.exec = Jvm.exec) (hb : c.code = cc) (hr : meth.sig.returnType = some .boolean) (hlocks : meth.locks = false) (hW : cd_Wo D b0 dm ad ce H) (hS : va_S (cd_A b0) s.heap H locs) {v : Int32} (hdg : decode cc pc = .ok (.ireturn, 1)) (hn : narrow .boolean (.int v) = .int v) (hq : Qr (some (.int v)) dm ad ce) (hc : cells ≤ mc) (hs : slots ≤ ms) :
    W p l e R s m args below meth c H locs cells slots (MQ below (cd_Q D b0 Qr) args s mc ms (cd_A b0)) (F0 m pc ls [.int v]) :=
  W.widen hc hs (W.zret hexec hb hr hn (fun t ht _ => ⟨⟨_, dm, ad, ce, rfl, hq, by rw [ht]; exact hW⟩, hS.F ht⟩) hS.2.2 hdg hlocks)
theorem cd_lret (hexec : p.tables.exec = Jvm.exec) (hb : c.code = cc) (hr : meth.sig.returnType = some .long) (hlocks : meth.locks = false) (hW : cd_Wo D b0 dm ad ce H) (hS : va_S (cd_A b0) s.heap H locs) {v : Int64} (hdg : decode cc pc = .ok (.lreturn, 1)) (hq : Qr (some (.long v)) dm ad ce) (hc : cells ≤ mc) (hs : slots ≤ ms) :
    W p l e R s m args below meth c H locs cells slots (MQ below (cd_Q D b0 Qr) args s mc ms (cd_A b0)) (F0 m pc ls [.long v]) :=
  W.widen hc hs (W.lret hexec hb hr (fun t ht _ => ⟨⟨_, dm, ad, ce, rfl, hq, by rw [ht]; exact hW⟩, hS.F ht⟩) hS.2.2 hdg hlocks)
theorem cd_vret (hexec : p.tables.exec = Jvm.exec) (hb : c.code = cc) (hr : meth.sig.returnType = none) (hlocks : meth.locks = false) (hW : cd_Wo D b0 dm ad ce H) (hS : va_S (cd_A b0) s.heap H locs) (hdg : decode cc pc = .ok (.return_, 1)) (hq : Qr none dm ad ce) (hc : cells ≤ mc) (hs : slots ≤ ms) :
    W p l e R s m args below meth c H locs cells slots (MQ below (cd_Q D b0 Qr) args s mc ms (cd_A b0)) (F0 m pc ls []) :=
  W.widen hc hs (W.vret hexec hb hr (fun t ht _ => ⟨⟨_, dm, ad, ce, rfl, hq, by rw [ht]; exact hW⟩, hS.F ht⟩) hS.2.2 hdg hlocks)
theorem cd_aret (hexec : p.tables.exec = Jvm.exec) (hb : c.code = cc) {C : String} (hr : meth.sig.returnType = some (.object C)) (hlocks : meth.locks = false) (hW : cd_Wo D b0 dm ad ce H) (hS : va_S (cd_A b0) s.heap H locs) {v : Value} (hv : v = .null ∨ ∃ a, v = .ref a) (hdg : decode cc pc = .ok (.areturn, 1)) (hq : Qr (some v) dm ad ce) (hc : cells ≤ mc) (hs : slots ≤ ms) :
    W p l e R s m args below meth c H locs cells slots (MQ below (cd_Q D b0 Qr) args s mc ms (cd_A b0)) (F0 m pc ls [v]) :=
  W.widen hc hs (W.aret hexec hb hr (Or.inl ⟨C, rfl⟩) hv (fun t ht _ => ⟨⟨_, dm, ad, ce, rfl, hq, by rw [ht]; exact hW⟩, hS.F ht⟩) hS.2.2 hdg hlocks)
/-! calls -/
variable {a0 : Array Value} {st0 : List Value}
theorem cd_go (hS : va_S (cd_A b0) s.heap H locs) (hr : va_Run p l e R s m args below meth c H locs cells slots mc ms (F0 m pc ls st0) rest (cd_Q D b0 Qr a0) (cd_A b0))
    (kk : ∀ (v : Option Value) (dm' : Nat → Nat → Prop) (ad' : Nat → Nat → Nat) (ce' : Nat → Nat → va_E) (H1 : Heap) (locs1 : List Loc), Qr v dm' ad' ce' → cd_Wo D b0 dm' ad' ce' H1 → va_S (cd_A b0) s.heap H1 locs1 → W p l e R s m args below meth c H1 locs1 (cells + mc) (slots + ms) Q (F0 m (pc + 3) ls (v.toList ++ rest))) : W p l e R s m args below meth c H locs cells slots Q (F0 m pc ls st0) := by
  intro T hT X
  obtain ⟨v, st₀, t, T', L, h0, X', hL, e1, e2, ⟨⟨v', dm', ad', ce', hv, hp, hb⟩, hz, hk⟩, st⟩ := hr T hT X
  cases hv
  rw [h0] at hz hk
  obtain ⟨t2, a1, b1⟩ := kk v dm' ad' ce' T'.heap (locs ++ L) hp (by rw [e1]; exact hb)
    ⟨Nat.le_trans hS.1 (by rw [e1]; exact hz), fun q h1 h2 => by rw [e1, hk q (Nat.lt_of_lt_of_le h1 hS.1) h2]; exact hS.2.1 q h1 h2, fun q hq => by
      rcases List.mem_append.mp hq with h | h
      · exact hS.2.2 q h
      · exact hL q h⟩ T' rfl X'
  exact ⟨t2, st t2 a1, b1⟩
theorem cd_pre {av : List Value} (hE : cd_EV D tys s) (hb0 : b0 ≤ s.heap.size) (hW : cd_Wo D b0 dm ad ce H) (hS : va_S (cd_A b0) s.heap H locs) : ∀ U : State, U.heap = H → s.WarmedH U.vm → va_Pc av (cd_P D tys b0 dm ad ce) av.toArray U :=
  fun U hU hWm => ⟨rfl, hE.warm hWm, by rw [hU]; exact Nat.le_trans hb0 hS.1, by rw [hU]; exact hW⟩
variable {nL maxL n index ci : Nat} {own C host : String} {y : MethodName} {bytes : ByteArray} {ret : Option FieldType} {rm : Room} {As : List Value} {Ts : List Cond} {q : vw_C} {fs : List Value}
/-- virtual, by a link of the class's own -/
theorem cd_cV (S : CallFix p m c cc nL s args Ts own) (hG : GoodIn Ts (Cond.code y bytes maxL ret :: cd_WA)) (hE : cd_EV D tys s) (hb0 : b0 ≤ s.heap.size) (hW : cd_Wo D b0 dm ad ce H) (hS : va_S (cd_A b0) s.heap H locs) (a b : Nat) (hd : dm a b) (he : ce a b = .inr (ci, fs)) (hc : classes[ci]? = some q)
    (hM : cd_Ct l D tys b0 y (Cond.code y bytes maxL ret :: cd_WA) rm (.ref (ad a b) :: As) dm ad ce Qr mc ms) (hl : Cond.methodLink own index y ∈ Ts) (hin : Cond.instanceMethod y ∈ Ts) (hsel : Cond.selects q.1 y y ∈ Ts) (hini : Cond.initialized y.cls ∈ Ts)
    (hy : y.cls ≠ "java/lang/invoke/MethodHandle" ∧ y.cls ≠ "java/lang/invoke/VarHandle" ∧ (parseMethodDescriptor y.desc).map (fun d => d.parameters.length) = some n) (hrc : rm.cells = mc) (hrs : rm.slots = ms) (hR : rm.frames + 1 ≤ R.frames ∧ 8 + (maxL + 11) + rm.locals ≤ R.locals)
    (hn : As.length = n) (hsize : ls.size = nL) (hst : st0 = As.reverse ++ .ref (ad a b) :: rest) (hro : (rest.map fun v => v.category).sum ≤ 8) (hdg : decode cc pc = .ok (.invokevirtual index, 3)) (hf : cells + mc ≤ R.cells ∧ slots + ms ≤ R.slots)
    (kk : ∀ (v : Option Value) (dm' : Nat → Nat → Prop) (ad' : Nat → Nat → Nat) (ce' : Nat → Nat → va_E) (H1 : Heap) (locs1 : List Loc), Qr v dm' ad' ce' → cd_Wo D b0 dm' ad' ce' H1 → va_S (cd_A b0) s.heap H1 locs1 → W p l e R s m args below meth c H1 locs1 (cells + mc) (slots + ms) Q (F0 m (pc + 3) ls (v.toList ++ rest))) : W p l e R s m args below meth c H locs cells slots Q (F0 m pc ls st0) := by
  have ht := S.2.2.2.2
  refine cd_go hS (va_runV S hM ⟨callB_of n ht hG rfl hrc hrs (ht _ hini) (ht _ hl) hy hR, ht _ hin, ht _ hsel⟩ ⟨cd_blind, va_recv hE.1 (hW.one hd he) hc (q0 := 0) rfl, cd_pre hE hb0 hW hS⟩ rfl hn hsize hst (lv_room hro) hdg hf) kk
/-- virtual, a nest mate's -/
theorem cd_cVN (S : CallFix p m c cc nL s args Ts own) (hG : GoodIn Ts (Cond.code y bytes maxL ret :: cd_WA)) (hE : cd_EV D tys s) (hb0 : b0 ≤ s.heap.size) (hW : cd_Wo D b0 dm ad ce H) (hS : va_S (cd_A b0) s.heap H locs) (a b : Nat) (hd : dm a b) (he : ce a b = .inr (ci, fs)) (hc : classes[ci]? = some q)
    (hM : cd_Ct l D tys b0 y (Cond.code y bytes maxL ret :: cd_WA) rm (.ref (ad a b) :: As) dm ad ce Qr mc ms) (hl : Cond.methodLinkNest own index y host ∈ cd_nest) (hin : Cond.instanceMethod y ∈ Ts) (hsel : Cond.selects q.1 y y ∈ Ts) (hini : Cond.initialized y.cls ∈ Ts)
    (hy : y.cls ≠ "java/lang/invoke/MethodHandle" ∧ y.cls ≠ "java/lang/invoke/VarHandle" ∧ (parseMethodDescriptor y.desc).map (fun d => d.parameters.length) = some n) (hrc : rm.cells = mc) (hrs : rm.slots = ms) (hR : rm.frames + 1 ≤ R.frames ∧ 8 + (maxL + 11) + rm.locals ≤ R.locals)
    (hn : As.length = n) (hsize : ls.size = nL) (hst : st0 = As.reverse ++ .ref (ad a b) :: rest) (hro : (rest.map fun v => v.category).sum ≤ 8) (hdg : decode cc pc = .ok (.invokevirtual index, 3)) (hf : cells + mc ≤ R.cells ∧ slots + ms ≤ R.slots)
    (kk : ∀ (v : Option Value) (dm' : Nat → Nat → Prop) (ad' : Nat → Nat → Nat) (ce' : Nat → Nat → va_E) (H1 : Heap) (locs1 : List Loc), Qr v dm' ad' ce' → cd_Wo D b0 dm' ad' ce' H1 → va_S (cd_A b0) s.heap H1 locs1 → W p l e R s m args below meth c H1 locs1 (cells + mc) (slots + ms) Q (F0 m (pc + 3) ls (v.toList ++ rest))) : W p l e R s m args below meth c H locs cells slots Q (F0 m pc ls st0) := by
  have ht := S.2.2.2.2
  refine cd_go hS (va_runVN S hM ⟨va_cnB n ht hG rfl hrc hrs (hE.2.1 _ hl) (ht _ hini) hy hR, ht _ hin, ht _ hsel⟩ ⟨cd_blind, va_recv hE.1 (hW.one hd he) hc (q0 := 0) rfl, cd_pre hE hb0 hW hS⟩ rfl hn hsize hst (lv_room hro) hdg hf) kk
theorem cd_cS (S : CallFix p m c cc nL s args Ts own) (hG : GoodIn Ts (Cond.code y bytes maxL ret :: cd_WA)) (hE : cd_EV D tys s) (hb0 : b0 ≤ s.heap.size) (hW : cd_Wo D b0 dm ad ce H) (hS : va_S (cd_A b0) s.heap H locs)
    (hM : cd_Ct l D tys b0 y (Cond.code y bytes maxL ret :: cd_WA) rm As dm ad ce Qr mc ms) (hl : Cond.methodLink own index y ∈ Ts) (hin : Cond.static y ∈ Ts) (hini : Cond.initialized y.cls ∈ Ts)
    (hy : y.cls ≠ "java/lang/invoke/MethodHandle" ∧ y.cls ≠ "java/lang/invoke/VarHandle" ∧ (parseMethodDescriptor y.desc).map (fun d => d.parameters.length) = some n) (hrc : rm.cells = mc) (hrs : rm.slots = ms) (hR : rm.frames + 1 ≤ R.frames ∧ 8 + (maxL + 11) + rm.locals ≤ R.locals)
    (hn : As.length = n) (hsize : ls.size = nL) (hst : st0 = As.reverse ++ rest) (hro : (rest.map fun v => v.category).sum ≤ 8) (hdg : decode cc pc = .ok (.invokestatic index, 3)) (hf : cells + mc ≤ R.cells ∧ slots + ms ≤ R.slots)
    (kk : ∀ (v : Option Value) (dm' : Nat → Nat → Prop) (ad' : Nat → Nat → Nat) (ce' : Nat → Nat → va_E) (H1 : Heap) (locs1 : List Loc), Qr v dm' ad' ce' → cd_Wo D b0 dm' ad' ce' H1 → va_S (cd_A b0) s.heap H1 locs1 → W p l e R s m args below meth c H1 locs1 (cells + mc) (slots + ms) Q (F0 m (pc + 3) ls (v.toList ++ rest))) : W p l e R s m args below meth c H locs cells slots Q (F0 m pc ls st0) := by
  have ht := S.2.2.2.2
  refine cd_go hS (va_runS S hM ⟨callB_of n ht hG rfl hrc hrs (ht _ hini) (ht _ hl) hy hR, ht _ hin⟩ ⟨cd_blind, cd_pre hE hb0 hW hS⟩ rfl hn hsize hst (lv_room hro) hdg hf) kk
theorem cd_cI (S : CallFix p m c cc nL s args Ts own) (hG : GoodIn Ts (Cond.code y bytes maxL none :: cd_WA)) (hE : cd_EV D tys s) (hb0 : b0 ≤ s.heap.size) (hW : cd_Wo D b0 dm ad ce H) (hS : va_S (cd_A b0) s.heap H locs) (b : Nat)
    (hM : cd_Ct l D tys b0 y (Cond.code y bytes maxL none :: cd_WA) rm (.ref b :: As) dm ad ce Qr mc ms) (hl : Cond.methodLink own index y ∈ Ts) (hin : Cond.instanceMethod y ∈ Ts) (hini : Cond.initialized y.cls ∈ Ts) (hy1 : y.name = "<init>")
    (hy : y.cls ≠ "java/lang/invoke/MethodHandle" ∧ y.cls ≠ "java/lang/invoke/VarHandle" ∧ (parseMethodDescriptor y.desc).map (fun d => d.parameters.length) = some n) (hrc : rm.cells = mc) (hrs : rm.slots = ms) (hR : rm.frames + 1 ≤ R.frames ∧ 8 + (maxL + 11) + rm.locals ≤ R.locals)
    (hn : As.length = n) (hsize : ls.size = nL) (hst : st0 = As.reverse ++ .ref b :: rest) (hro : (rest.map fun v => v.category).sum ≤ 8) (hdg : decode cc pc = .ok (.invokespecial index, 3)) (hf : cells + mc ≤ R.cells ∧ slots + ms ≤ R.slots)
    (kk : ∀ (v : Option Value) (dm' : Nat → Nat → Prop) (ad' : Nat → Nat → Nat) (ce' : Nat → Nat → va_E) (H1 : Heap) (locs1 : List Loc), Qr v dm' ad' ce' → cd_Wo D b0 dm' ad' ce' H1 → va_S (cd_A b0) s.heap H1 locs1 → W p l e R s m args below meth c H1 locs1 (cells + mc) (slots + ms) Q (F0 m (pc + 3) ls (v.toList ++ rest))) : W p l e R s m args below meth c H locs cells slots Q (F0 m pc ls st0) := by
  have ht := S.2.2.2.2
  refine cd_go hS (va_runI S hM ⟨callB_of n ht hG rfl hrc hrs (ht _ hini) (ht _ hl) hy hR, hy1, ht _ hin⟩ ⟨cd_blind, cd_pre hE hb0 hW hS⟩ rfl hn hsize hst (lv_room hro) hdg hf) kk
theorem cd_cIN (S : CallFix p m c cc nL s args Ts own) (hG : GoodIn Ts (Cond.code y bytes maxL none :: cd_WA)) (hE : cd_EV D tys s) (hb0 : b0 ≤ s.heap.size) (hW : cd_Wo D b0 dm ad ce H) (hS : va_S (cd_A b0) s.heap H locs) (b : Nat)
    (hM : cd_Ct l D tys b0 y (Cond.code y bytes maxL none :: cd_WA) rm (.ref b :: As) dm ad ce Qr mc ms) (hl : Cond.methodLinkNest own index y host ∈ cd_nest) (hin : Cond.instanceMethod y ∈ Ts) (hini : Cond.initialized y.cls ∈ Ts) (hy1 : y.name = "<init>")
    (hy : y.cls ≠ "java/lang/invoke/MethodHandle" ∧ y.cls ≠ "java/lang/invoke/VarHandle" ∧ (parseMethodDescriptor y.desc).map (fun d => d.parameters.length) = some n) (hrc : rm.cells = mc) (hrs : rm.slots = ms) (hR : rm.frames + 1 ≤ R.frames ∧ 8 + (maxL + 11) + rm.locals ≤ R.locals)
    (hn : As.length = n) (hsize : ls.size = nL) (hst : st0 = As.reverse ++ .ref b :: rest) (hro : (rest.map fun v => v.category).sum ≤ 8) (hdg : decode cc pc = .ok (.invokespecial index, 3)) (hf : cells + mc ≤ R.cells ∧ slots + ms ≤ R.slots)
    (kk : ∀ (v : Option Value) (dm' : Nat → Nat → Prop) (ad' : Nat → Nat → Nat) (ce' : Nat → Nat → va_E) (H1 : Heap) (locs1 : List Loc), Qr v dm' ad' ce' → cd_Wo D b0 dm' ad' ce' H1 → va_S (cd_A b0) s.heap H1 locs1 → W p l e R s m args below meth c H1 locs1 (cells + mc) (slots + ms) Q (F0 m (pc + 3) ls (v.toList ++ rest))) : W p l e R s m args below meth c H locs cells slots Q (F0 m pc ls st0) := by
  have ht := S.2.2.2.2
  refine cd_go hS (va_runIN S hM ⟨va_cnB n ht hG rfl hrc hrs (hE.2.1 _ hl) (ht _ hini) hy hR, hy1, ht _ hin⟩ ⟨cd_blind, cd_pre hE hb0 hW hS⟩ rfl hn hsize hst (lv_room hro) hdg hf) kk
end CDR
end
section
/-! branches on longs, on the tests that a method answers, switches -/
section CDB
variable {p : Program} {l : Launch} {e : Env} {R : Room} {s : State} {m : MethodId} {args : Array Value} {below : List Frame} {meth : Method} {c : Code} {H : Heap} {locs : List Loc} {cells slots : Nat} {Q : State → Prop}
variable {cc : ByteArray} {pc : Nat} {ls : Array Slot} {rest : List Value} {x y : Int64} {off : Int} {tgt : Nat}
theorem cd_lc_lt (hx : p.tables.exec = Jvm.exec) (hb : c.code = cc) (d1 : decode cc pc = .ok (.lcmp, 1)) (d2 : decode cc (pc + 1) = .ok (.ifCond .lt off, 3)) (ht : ((pc + 1 : Nat) : Int) + off = (tgt : Int)) (kt : x < y → W p l e R s m args below meth c H locs cells slots Q (F0 m tgt ls rest)) (kf : ¬ x < y → W p l e R s m args below meth c H locs cells slots Q (F0 m (pc + 1 + 3) ls rest)) : W p l e R s m args below meth c H locs cells slots Q (F0 m pc ls (.long y :: .long x :: rest)) :=
  W.lcmp hx hb d1 (lv_if_lt hx hb d2 ht (fun h => kt ((lg_cmp_lt x y).mp h)) (fun h => kf (fun q => h ((lg_cmp_lt x y).mpr q))))
theorem cd_lc_ge (hx : p.tables.exec = Jvm.exec) (hb : c.code = cc) (d1 : decode cc pc = .ok (.lcmp, 1)) (d2 : decode cc (pc + 1) = .ok (.ifCond .ge off, 3)) (ht : ((pc + 1 : Nat) : Int) + off = (tgt : Int)) (kt : y ≤ x → W p l e R s m args below meth c H locs cells slots Q (F0 m tgt ls rest)) (kf : ¬ y ≤ x → W p l e R s m args below meth c H locs cells slots Q (F0 m (pc + 1 + 3) ls rest)) : W p l e R s m args below meth c H locs cells slots Q (F0 m pc ls (.long y :: .long x :: rest)) :=
  W.lcmp hx hb d1 (lv_if_ge hx hb d2 ht (fun h => kt ((lg_cmp_ge x y).mp h)) (fun h => kf (fun q => h ((lg_cmp_ge x y).mpr q))))
theorem cd_lc_le (hx : p.tables.exec = Jvm.exec) (hb : c.code = cc) (d1 : decode cc pc = .ok (.lcmp, 1)) (d2 : decode cc (pc + 1) = .ok (.ifCond .le off, 3)) (ht : ((pc + 1 : Nat) : Int) + off = (tgt : Int)) (kt : x ≤ y → W p l e R s m args below meth c H locs cells slots Q (F0 m tgt ls rest)) (kf : ¬ x ≤ y → W p l e R s m args below meth c H locs cells slots Q (F0 m (pc + 1 + 3) ls rest)) : W p l e R s m args below meth c H locs cells slots Q (F0 m pc ls (.long y :: .long x :: rest)) :=
  W.lcmp hx hb d1 (lv_if_le hx hb d2 ht (fun h => kt ((lg_cmp_le x y).mp h)) (fun h => kf (fun q => h ((lg_cmp_le x y).mpr q))))
theorem cd_lc_gt (hx : p.tables.exec = Jvm.exec) (hb : c.code = cc) (d1 : decode cc pc = .ok (.lcmp, 1)) (d2 : decode cc (pc + 1) = .ok (.ifCond .gt off, 3)) (ht : ((pc + 1 : Nat) : Int) + off = (tgt : Int)) (kt : y < x → W p l e R s m args below meth c H locs cells slots Q (F0 m tgt ls rest)) (kf : ¬ y < x → W p l e R s m args below meth c H locs cells slots Q (F0 m (pc + 1 + 3) ls rest)) : W p l e R s m args below meth c H locs cells slots Q (F0 m pc ls (.long y :: .long x :: rest)) :=
  W.lcmp hx hb d1 (lv_if_gt hx hb d2 ht (fun h => kt ((lg_cmp_gt x y).mp h)) (fun h => kf (fun q => h ((lg_cmp_gt x y).mpr q))))
theorem cd_lc_eq (hx : p.tables.exec = Jvm.exec) (hb : c.code = cc) (d1 : decode cc pc = .ok (.lcmp, 1)) (d2 : decode cc (pc + 1) = .ok (.ifCond .eq off, 3)) (ht : ((pc + 1 : Nat) : Int) + off = (tgt : Int)) (kt : x = y → W p l e R s m args below meth c H locs cells slots Q (F0 m tgt ls rest)) (kf : ¬ x = y → W p l e R s m args below meth c H locs cells slots Q (F0 m (pc + 1 + 3) ls rest)) : W p l e R s m args below meth c H locs cells slots Q (F0 m pc ls (.long y :: .long x :: rest)) :=
  W.lcmp hx hb d1 (lv_if_eq hx hb d2 ht (fun h => kt ((lg_cmp_eq x y).mp h)) (fun h => kf (fun q => h ((lg_cmp_eq x y).mpr q))))
theorem cd_lc_ne (hx : p.tables.exec = Jvm.exec) (hb : c.code = cc) (d1 : decode cc pc = .ok (.lcmp, 1)) (d2 : decode cc (pc + 1) = .ok (.ifCond .ne off, 3)) (ht : ((pc + 1 : Nat) : Int) + off = (tgt : Int)) (kt : ¬ x = y → W p l e R s m args below meth c H locs cells slots Q (F0 m tgt ls rest)) (kf : x = y → W p l e R s m args below meth c H locs cells slots Q (F0 m (pc + 1 + 3) ls rest)) : W p l e R s m args below meth c H locs cells slots Q (F0 m pc ls (.long y :: .long x :: rest)) :=
  W.lcmp hx hb d1 (lv_if_ne hx hb d2 ht (fun h => kt (fun q => h ((lg_cmp_eq x y).mpr q))) (fun h => kf ((lg_cmp_eq x y).mp h)))
end CDB
/-- an answer by cases of a thing that may be none -/
def cd_oc {α : Type} (o : Option Nat) (A : α) (B : Nat → α) : α := match o with
  | none => A
  | some j => B j
theorem cd_oc_n {α : Type} {o : Option Nat} {A : α} {B : Nat → α} (h : o = none) : cd_oc o A B = A := by rw [h]; rfl
theorem cd_oc_s {α : Type} {o : Option Nat} {A : α} {B : Nat → α} {j : Nat} (h : o = some j) : cd_oc o A B = B j := by rw [h]; rfl
theorem cd_ne {x : Int32} (k : Int32) (n : Int) (hk : k.toInt = n) (h : ¬ x = k) : x.toInt ≠ n := fun q => h (Int32.toInt_inj.mp (q.trans hk.symm))
section CDO
variable {p : Program} {l : Launch} {e : Env} {R : Room} {s : State} {m : MethodId} {args : Array Value} {below : List Frame} {meth : Method} {c : Code} {H : Heap} {locs : List Loc} {cells slots : Nat} {Q : State → Prop}
theorem cd_objI {cc : ByteArray} {pc : Nat} {ls : Array Slot} {rest : List Value} (hexec : p.tables.exec = Jvm.exec) (hb : c.code = cc) {own : String} (hown : s.vm.findClass own = some m.cls) {idx : Nat} (hlink : (Cond.methodLink own idx objectInit).before args s = true) (hinst : (Cond.instanceMethod objectInit).before args s = true) (hcode : (Cond.code objectInit ⟨#[0xb1]⟩ 1 none).before args s = true)
    (hsize : ls.size = c.maxLocals) {a : Addr} (hd : decode cc pc = .ok (.invokespecial idx, 3)) (hframes : 1 ≤ R.frames) (hlocals : 0 + (rest.map fun v => v.category).sum + 12 ≤ R.locals)
    (kk : W p l e R s m args below meth c H locs cells slots Q (F0 m (pc + 3) ls rest)) : W p l e R s m args below meth c H locs cells slots Q (F0 m pc ls (.ref a :: rest)) :=
  W.objInit hexec hb hown hlink hinst hcode rfl hsize rfl hd hframes (by show 2 * 0 + _ + 12 ≤ _; omega) kk
end CDO
end
section
/-! THE CLASS'S WORLD. ctr: refused, failed, lastFailure, lastFailedCall, lastFailedNumber, answered, thingsMade, noted; cnt, val: the trays; ans, fl; made, arr: the shelves (arr k i: the thing's number j); st, tu, us, th, src: the things; al: those that are made. Behind: the addresses, and what else the world holds (dr, cr). -/
abbrev cx_S : Type := (Nat → Int32) × (Nat → Nat) × (Nat → Nat → Int32) × (Nat → Int64) × (Nat → Int32) × (Nat → Nat) × (Nat → Nat → Option Nat) × (Nat → Int64) × (Nat → Int32) × (Nat → Int32) × (Nat → Int32) × (Nat → Option Nat) × (Nat → Prop)
abbrev cx_W : Type := cx_S × (Nat → Nat → Nat) × (Nat → Nat → Prop) × (Nat → Nat → va_E)
abbrev x_ctr (w : cx_W) : Nat → Int32 := w.1.1
abbrev x_cnt (w : cx_W) : Nat → Nat := w.1.2.1
abbrev x_val (w : cx_W) : Nat → Nat → Int32 := w.1.2.2.1
abbrev x_ans (w : cx_W) : Nat → Int64 := w.1.2.2.2.1
abbrev x_fl (w : cx_W) : Nat → Int32 := w.1.2.2.2.2.1
abbrev x_made (w : cx_W) : Nat → Nat := w.1.2.2.2.2.2.1
abbrev x_arr (w : cx_W) : Nat → Nat → Option Nat := w.1.2.2.2.2.2.2.1
abbrev x_st (w : cx_W) : Nat → Int64 := w.1.2.2.2.2.2.2.2.1
abbrev x_tu (w : cx_W) : Nat → Int32 := w.1.2.2.2.2.2.2.2.2.1
abbrev x_us (w : cx_W) : Nat → Int32 := w.1.2.2.2.2.2.2.2.2.2.1
abbrev x_th (w : cx_W) : Nat → Int32 := w.1.2.2.2.2.2.2.2.2.2.2.1
abbrev x_src (w : cx_W) : Nat → Option Nat := w.1.2.2.2.2.2.2.2.2.2.2.2.1
abbrev x_al (w : cx_W) : Nat → Prop := w.1.2.2.2.2.2.2.2.2.2.2.2.2
abbrev x_ad (w : cx_W) : Nat → Nat → Nat := w.2.1
abbrev x_dr (w : cx_W) : Nat → Nat → Prop := w.2.2.1
abbrev x_cr (w : cx_W) : Nat → Nat → va_E := w.2.2.2
abbrev u_ctr (w : cx_W) (i : Nat) (v : Int32) : cx_W := ((va_up w.1.1 i v, w.1.2), w.2)
abbrev u_cnt (w : cx_W) (i : Nat) (v : Nat) : cx_W := ((w.1.1, va_up w.1.2.1 i v, w.1.2.2), w.2)
abbrev u_val (w : cx_W) (t i : Nat) (v : Int32) : cx_W := ((w.1.1, w.1.2.1, va_up w.1.2.2.1 t (upd (w.1.2.2.1 t) i v), w.1.2.2.2), w.2)
abbrev u_ans (w : cx_W) (i : Nat) (v : Int64) : cx_W := ((w.1.1, w.1.2.1, w.1.2.2.1, vp_updL w.1.2.2.2.1 i v, w.1.2.2.2.2), w.2)
abbrev u_fl (w : cx_W) (i : Nat) (v : Int32) : cx_W := ((w.1.1, w.1.2.1, w.1.2.2.1, w.1.2.2.2.1, upd w.1.2.2.2.2.1 i v, w.1.2.2.2.2.2), w.2)
abbrev u_made (w : cx_W) (k : Nat) (v : Nat) : cx_W := ((w.1.1, w.1.2.1, w.1.2.2.1, w.1.2.2.2.1, w.1.2.2.2.2.1, va_up w.1.2.2.2.2.2.1 k v, w.1.2.2.2.2.2.2), w.2)
abbrev u_arr (w : cx_W) (k i : Nat) (v : Option Nat) : cx_W := ((w.1.1, w.1.2.1, w.1.2.2.1, w.1.2.2.2.1, w.1.2.2.2.2.1, w.1.2.2.2.2.2.1, va_up w.1.2.2.2.2.2.2.1 k (va_up (w.1.2.2.2.2.2.2.1 k) i v), w.1.2.2.2.2.2.2.2), w.2)
abbrev u_st (w : cx_W) (j : Nat) (v : Int64) : cx_W := ((w.1.1, w.1.2.1, w.1.2.2.1, w.1.2.2.2.1, w.1.2.2.2.2.1, w.1.2.2.2.2.2.1, w.1.2.2.2.2.2.2.1, va_up w.1.2.2.2.2.2.2.2.1 j v, w.1.2.2.2.2.2.2.2.2), w.2)
abbrev u_tu (w : cx_W) (j : Nat) (v : Int32) : cx_W := ((w.1.1, w.1.2.1, w.1.2.2.1, w.1.2.2.2.1, w.1.2.2.2.2.1, w.1.2.2.2.2.2.1, w.1.2.2.2.2.2.2.1, w.1.2.2.2.2.2.2.2.1, va_up w.1.2.2.2.2.2.2.2.2.1 j v, w.1.2.2.2.2.2.2.2.2.2), w.2)
abbrev u_us (w : cx_W) (j : Nat) (v : Int32) : cx_W := ((w.1.1, w.1.2.1, w.1.2.2.1, w.1.2.2.2.1, w.1.2.2.2.2.1, w.1.2.2.2.2.2.1, w.1.2.2.2.2.2.2.1, w.1.2.2.2.2.2.2.2.1, w.1.2.2.2.2.2.2.2.2.1, va_up w.1.2.2.2.2.2.2.2.2.2.1 j v, w.1.2.2.2.2.2.2.2.2.2.2), w.2)
abbrev u_th (w : cx_W) (j : Nat) (v : Int32) : cx_W := ((w.1.1, w.1.2.1, w.1.2.2.1, w.1.2.2.2.1, w.1.2.2.2.2.1, w.1.2.2.2.2.2.1, w.1.2.2.2.2.2.2.1, w.1.2.2.2.2.2.2.2.1, w.1.2.2.2.2.2.2.2.2.1, w.1.2.2.2.2.2.2.2.2.2.1, va_up w.1.2.2.2.2.2.2.2.2.2.2.1 j v, w.1.2.2.2.2.2.2.2.2.2.2.2), w.2)
abbrev u_src (w : cx_W) (j : Nat) (v : Option Nat) : cx_W := ((w.1.1, w.1.2.1, w.1.2.2.1, w.1.2.2.2.1, w.1.2.2.2.2.1, w.1.2.2.2.2.2.1, w.1.2.2.2.2.2.2.1, w.1.2.2.2.2.2.2.2.1, w.1.2.2.2.2.2.2.2.2.1, w.1.2.2.2.2.2.2.2.2.2.1, w.1.2.2.2.2.2.2.2.2.2.2.1, va_up w.1.2.2.2.2.2.2.2.2.2.2.2.1 j v, w.1.2.2.2.2.2.2.2.2.2.2.2.2), w.2)
def cx_most (b : Nat) : Int32 := if b = 0 then 127 else if b = 1 then 1 else 255
def cx_ce (dA : Nat → ClassId) (w : cx_W) : Nat → Nat → va_E := fun a b => match a with
  | 0 => .inr (0, [.ref (x_ad w 1 0), .ref (x_ad w 1 1), .ref (x_ad w 1 2), .ref (x_ad w 3 0), .ref (x_ad w 6 0), .ref (x_ad w 7 0), .int (x_ctr w 0), .int (x_ctr w 1), .int (x_ctr w 2), .int (x_ctr w 3), .int (x_ctr w 4), .int (x_ctr w 5), .int (x_ctr w 6), .int (x_ctr w 7)])
  | 1 => .inr (1, [.int (cx_most b), .ref (x_ad w 2 b), .int (nI (x_cnt w b))])
  | 2 => .inl (dA 0, 200, .inl (x_val w b))
  | 3 => .inl (dA 2, 6, .inr (.inr (.inr (.inr (fun k => some (x_ad w 4 k))))))
  | 4 => .inr (2, [.ref (x_ad w 5 b), .int (nI (x_made w b))])
  | 5 => .inl (dA 3, 20, .inr (.inr (.inr (.inr (fun i => (x_arr w b i).map (x_ad w 8))))))
  | 6 => .inl (dA 1, 24, .inr (.inl (x_ans w)))
  | 7 => .inl (dA 0, 24, .inl (x_fl w))
  | 8 => .inr (3, [va_rf ((x_src w b).map (x_ad w 8)), .long (x_st w b), .int (x_tu w b), .int (x_us w b), .int (x_th w b)])
  | a + 9 => x_cr w a b
def cx_dm (w : cx_W) : Nat → Nat → Prop := fun a b => match a with
  | 0 => b = 0
  | 1 => b < 3
  | 2 => b < 3
  | 3 => b = 0
  | 4 => b < 6
  | 5 => b < 6
  | 6 => b = 0
  | 7 => b = 0
  | 8 => x_al w b
  | a + 9 => x_dr w a b
abbrev cx_tys (dA : Nat → ClassId) : List (ClassId × FieldType) := [(dA 0, .int), (dA 1, .long), (dA 2, .object R_Shelf), (dA 3, .object R_Thing), (dA 4, .boolean)]
abbrev cx_Wo (D : va_G) (dA : Nat → ClassId) (b0 : Nat) (w : cx_W) (H : Heap) : Prop := cd_Wo D b0 (cx_dm w) (x_ad w) (cx_ce dA w) H
/-- what a method answers, and the world behind it -/
abbrev cx_R (dA : Nat → ClassId) (v0 : Option Value) (w0 : cx_W) : cd_R := fun v dm ad ce => v = v0 ∧ dm = cx_dm w0 ∧ ad = x_ad w0 ∧ ce = cx_ce dA w0
/-- what doesn't change when one thing does -/
theorem kp_ctr (dA : Nat → ClassId) (w : cx_W) (i : Nat) (v : Int32) : ∀ x y, cx_dm w x y → ¬ (x = 0 ∧ y = 0) → cx_ce dA (u_ctr w i v) x y = cx_ce dA w x y := fun x y hd hn => match x, hd, hn with
  | 0, hd, hn => absurd ⟨rfl, hd⟩ hn
  | 1, _, _ => rfl | 2, _, _ => rfl | 3, _, _ => rfl | 4, _, _ => rfl | 5, _, _ => rfl | 6, _, _ => rfl | 7, _, _ => rfl | 8, _, _ => rfl | _ + 9, _, _ => rfl
theorem kp_cnt (dA : Nat → ClassId) (w : cx_W) (t : Nat) (v : Nat) : ∀ x y, cx_dm w x y → ¬ (x = 1 ∧ y = t) → cx_ce dA (u_cnt w t v) x y = cx_ce dA w x y := fun x y hd hn => match x, hd, hn with
  | 1, _, hn => by
    have h : y ≠ t := fun q => hn ⟨rfl, q⟩
    simp [cx_ce, x_cnt, u_cnt, x_ad, va_up, h]
  | 0, _, _ => rfl | 2, _, _ => rfl | 3, _, _ => rfl | 4, _, _ => rfl | 5, _, _ => rfl | 6, _, _ => rfl | 7, _, _ => rfl | 8, _, _ => rfl | _ + 9, _, _ => rfl
theorem kp_val (dA : Nat → ClassId) (w : cx_W) (t i : Nat) (v : Int32) : ∀ x y, cx_dm w x y → ¬ (x = 2 ∧ y = t) → cx_ce dA (u_val w t i v) x y = cx_ce dA w x y := fun x y hd hn => match x, hd, hn with
  | 2, _, hn => by
    have h : y ≠ t := fun q => hn ⟨rfl, q⟩
    simp [cx_ce, x_val, u_val, x_ad, va_up, h]
  | 0, _, _ => rfl | 1, _, _ => rfl | 3, _, _ => rfl | 4, _, _ => rfl | 5, _, _ => rfl | 6, _, _ => rfl | 7, _, _ => rfl | 8, _, _ => rfl | _ + 9, _, _ => rfl
theorem kp_ans (dA : Nat → ClassId) (w : cx_W) (i : Nat) (v : Int64) : ∀ x y, cx_dm w x y → ¬ (x = 6 ∧ y = 0) → cx_ce dA (u_ans w i v) x y = cx_ce dA w x y := fun x y hd hn => match x, hd, hn with
  | 6, hd, hn => absurd ⟨rfl, hd⟩ hn
  | 0, _, _ => rfl | 1, _, _ => rfl | 2, _, _ => rfl | 3, _, _ => rfl | 4, _, _ => rfl | 5, _, _ => rfl | 7, _, _ => rfl | 8, _, _ => rfl | _ + 9, _, _ => rfl
theorem kp_fl (dA : Nat → ClassId) (w : cx_W) (i : Nat) (v : Int32) : ∀ x y, cx_dm w x y → ¬ (x = 7 ∧ y = 0) → cx_ce dA (u_fl w i v) x y = cx_ce dA w x y := fun x y hd hn => match x, hd, hn with
  | 7, hd, hn => absurd ⟨rfl, hd⟩ hn
  | 0, _, _ => rfl | 1, _, _ => rfl | 2, _, _ => rfl | 3, _, _ => rfl | 4, _, _ => rfl | 5, _, _ => rfl | 6, _, _ => rfl | 8, _, _ => rfl | _ + 9, _, _ => rfl
theorem kp_made (dA : Nat → ClassId) (w : cx_W) (k : Nat) (v : Nat) : ∀ x y, cx_dm w x y → ¬ (x = 4 ∧ y = k) → cx_ce dA (u_made w k v) x y = cx_ce dA w x y := fun x y hd hn => match x, hd, hn with
  | 4, _, hn => by
    have h : y ≠ k := fun q => hn ⟨rfl, q⟩
    simp [cx_ce, x_made, u_made, x_ad, va_up, h]
  | 0, _, _ => rfl | 1, _, _ => rfl | 2, _, _ => rfl | 3, _, _ => rfl | 5, _, _ => rfl | 6, _, _ => rfl | 7, _, _ => rfl | 8, _, _ => rfl | _ + 9, _, _ => rfl
theorem kp_arr (dA : Nat → ClassId) (w : cx_W) (k i : Nat) (v : Option Nat) : ∀ x y, cx_dm w x y → ¬ (x = 5 ∧ y = k) → cx_ce dA (u_arr w k i v) x y = cx_ce dA w x y := fun x y hd hn => match x, hd, hn with
  | 5, _, hn => by
    have h : y ≠ k := fun q => hn ⟨rfl, q⟩
    simp [cx_ce, x_arr, u_arr, x_ad, va_up, h]
  | 0, _, _ => rfl | 1, _, _ => rfl | 2, _, _ => rfl | 3, _, _ => rfl | 4, _, _ => rfl | 6, _, _ => rfl | 7, _, _ => rfl | 8, _, _ => rfl | _ + 9, _, _ => rfl
theorem kp_st (dA : Nat → ClassId) (w : cx_W) (j : Nat) (v : Int64) : ∀ x y, cx_dm w x y → ¬ (x = 8 ∧ y = j) → cx_ce dA (u_st w j v) x y = cx_ce dA w x y := fun x y hd hn => match x, hd, hn with
  | 8, _, hn => by
    have h : y ≠ j := fun q => hn ⟨rfl, q⟩
    simp [cx_ce, x_st, u_st, x_ad, va_up, h]
  | 0, _, _ => rfl | 1, _, _ => rfl | 2, _, _ => rfl | 3, _, _ => rfl | 4, _, _ => rfl | 5, _, _ => rfl | 6, _, _ => rfl | 7, _, _ => rfl | _ + 9, _, _ => rfl
theorem kp_tu (dA : Nat → ClassId) (w : cx_W) (j : Nat) (v : Int32) : ∀ x y, cx_dm w x y → ¬ (x = 8 ∧ y = j) → cx_ce dA (u_tu w j v) x y = cx_ce dA w x y := fun x y hd hn => match x, hd, hn with
  | 8, _, hn => by
    have h : y ≠ j := fun q => hn ⟨rfl, q⟩
    simp [cx_ce, x_tu, u_tu, x_ad, va_up, h]
  | 0, _, _ => rfl | 1, _, _ => rfl | 2, _, _ => rfl | 3, _, _ => rfl | 4, _, _ => rfl | 5, _, _ => rfl | 6, _, _ => rfl | 7, _, _ => rfl | _ + 9, _, _ => rfl
theorem kp_us (dA : Nat → ClassId) (w : cx_W) (j : Nat) (v : Int32) : ∀ x y, cx_dm w x y → ¬ (x = 8 ∧ y = j) → cx_ce dA (u_us w j v) x y = cx_ce dA w x y := fun x y hd hn => match x, hd, hn with
  | 8, _, hn => by
    have h : y ≠ j := fun q => hn ⟨rfl, q⟩
    simp [cx_ce, x_us, u_us, x_ad, va_up, h]
  | 0, _, _ => rfl | 1, _, _ => rfl | 2, _, _ => rfl | 3, _, _ => rfl | 4, _, _ => rfl | 5, _, _ => rfl | 6, _, _ => rfl | 7, _, _ => rfl | _ + 9, _, _ => rfl
theorem kp_th (dA : Nat → ClassId) (w : cx_W) (j : Nat) (v : Int32) : ∀ x y, cx_dm w x y → ¬ (x = 8 ∧ y = j) → cx_ce dA (u_th w j v) x y = cx_ce dA w x y := fun x y hd hn => match x, hd, hn with
  | 8, _, hn => by
    have h : y ≠ j := fun q => hn ⟨rfl, q⟩
    simp [cx_ce, x_th, u_th, x_ad, va_up, h]
  | 0, _, _ => rfl | 1, _, _ => rfl | 2, _, _ => rfl | 3, _, _ => rfl | 4, _, _ => rfl | 5, _, _ => rfl | 6, _, _ => rfl | 7, _, _ => rfl | _ + 9, _, _ => rfl
theorem kp_src (dA : Nat → ClassId) (w : cx_W) (j : Nat) (v : Option Nat) : ∀ x y, cx_dm w x y → ¬ (x = 8 ∧ y = j) → cx_ce dA (u_src w j v) x y = cx_ce dA w x y := fun x y hd hn => match x, hd, hn with
  | 8, _, hn => by
    have h : y ≠ j := fun q => hn ⟨rfl, q⟩
    simp [cx_ce, x_src, u_src, x_ad, va_up, h]
  | 0, _, _ => rfl | 1, _, _ => rfl | 2, _, _ => rfl | 3, _, _ => rfl | 4, _, _ => rfl | 5, _, _ => rfl | 6, _, _ => rfl | 7, _, _ => rfl | _ + 9, _, _ => rfl
/-- what the new cell is, where one part of the state changes -/
theorem nw_cnt (dA : Nat → ClassId) (w : cx_W) (t v : Nat) : cx_ce dA (u_cnt w t v) 1 t = .inr (1, [.int (cx_most t), .ref (x_ad w 2 t), .int (nI v)]) := by simp [cx_ce, x_cnt, u_cnt, x_ad, va_up]
theorem nw_val (dA : Nat → ClassId) (w : cx_W) (t i : Nat) (v : Int32) : cx_ce dA (u_val w t i v) 2 t = .inl (dA 0, 200, .inl (upd (x_val w t) i v)) := by simp [cx_ce, x_val, u_val, x_ad, va_up]
theorem nw_made (dA : Nat → ClassId) (w : cx_W) (k v : Nat) : cx_ce dA (u_made w k v) 4 k = .inr (2, [.ref (x_ad w 5 k), .int (nI v)]) := by simp [cx_ce, x_made, u_made, x_ad, va_up]
theorem nw_arr (dA : Nat → ClassId) (w : cx_W) (k i j : Nat) : cx_ce dA (u_arr w k i (some j)) 5 k = .inl (dA 3, 20, .inr (.inr (.inr (.inr (va_up (fun i => (x_arr w k i).map (x_ad w 8)) i (some (x_ad w 8 j))))))) := by
  have e : (fun q => (va_up (x_arr w) k (va_up (x_arr w k) i (some j)) k q).map (x_ad w 8)) = va_up (fun i => (x_arr w k i).map (x_ad w 8)) i (some (x_ad w 8 j)) := by
    funext q
    by_cases h : q = i <;> simp [va_up, h]
  show Sum.inl (dA 3, 20, Sum.inr (Sum.inr (Sum.inr (Sum.inr (fun q => (va_up (x_arr w) k (va_up (x_arr w k) i (some j)) k q).map (x_ad w 8)))))) = _
  rw [e]
theorem nw_st (dA : Nat → ClassId) (w : cx_W) (j : Nat) (v : Int64) : cx_ce dA (u_st w j v) 8 j = .inr (3, [va_rf ((x_src w j).map (x_ad w 8)), .long v, .int (x_tu w j), .int (x_us w j), .int (x_th w j)]) := by simp [cx_ce, x_st, u_st, x_ad, x_src, x_st, x_tu, x_us, x_th, va_up]
theorem nw_tu (dA : Nat → ClassId) (w : cx_W) (j : Nat) (v : Int32) : cx_ce dA (u_tu w j v) 8 j = .inr (3, [va_rf ((x_src w j).map (x_ad w 8)), .long (x_st w j), .int v, .int (x_us w j), .int (x_th w j)]) := by simp [cx_ce, x_tu, u_tu, x_ad, x_src, x_st, x_tu, x_us, x_th, va_up]
theorem nw_us (dA : Nat → ClassId) (w : cx_W) (j : Nat) (v : Int32) : cx_ce dA (u_us w j v) 8 j = .inr (3, [va_rf ((x_src w j).map (x_ad w 8)), .long (x_st w j), .int (x_tu w j), .int v, .int (x_th w j)]) := by simp [cx_ce, x_us, u_us, x_ad, x_src, x_st, x_tu, x_us, x_th, va_up]
theorem nw_th (dA : Nat → ClassId) (w : cx_W) (j : Nat) (v : Int32) : cx_ce dA (u_th w j v) 8 j = .inr (3, [va_rf ((x_src w j).map (x_ad w 8)), .long (x_st w j), .int (x_tu w j), .int (x_us w j), .int v]) := by simp [cx_ce, x_th, u_th, x_ad, x_src, x_st, x_tu, x_us, x_th, va_up]
theorem nw_src (dA : Nat → ClassId) (w : cx_W) (j : Nat) (v : Option Nat) : cx_ce dA (u_src w j v) 8 j = .inr (3, [va_rf (v.map (x_ad w 8)), .long (x_st w j), .int (x_tu w j), .int (x_us w j), .int (x_th w j)]) := by simp [cx_ce, x_src, u_src, x_ad, x_src, x_st, x_tu, x_us, x_th, va_up]
theorem to_ctr {D : va_G} {dA : Nat → ClassId} {b0 : Nat} {w : cx_W} {H : Heap} {i : Nat} {v : Int32} (h : cd_Wo D b0 (cx_dm w) (x_ad w) (cx_ce dA (u_ctr w i v)) H) : cx_Wo D dA b0 (u_ctr w i v) H := h
theorem to_cnt {D : va_G} {dA : Nat → ClassId} {b0 : Nat} {w : cx_W} {H : Heap} {i : Nat} {v : Nat} (h : cd_Wo D b0 (cx_dm w) (x_ad w) (cx_ce dA (u_cnt w i v)) H) : cx_Wo D dA b0 (u_cnt w i v) H := h
theorem to_val {D : va_G} {dA : Nat → ClassId} {b0 : Nat} {w : cx_W} {H : Heap} {t i : Nat} {v : Int32} (h : cd_Wo D b0 (cx_dm w) (x_ad w) (cx_ce dA (u_val w t i v)) H) : cx_Wo D dA b0 (u_val w t i v) H := h
theorem to_ans {D : va_G} {dA : Nat → ClassId} {b0 : Nat} {w : cx_W} {H : Heap} {i : Nat} {v : Int64} (h : cd_Wo D b0 (cx_dm w) (x_ad w) (cx_ce dA (u_ans w i v)) H) : cx_Wo D dA b0 (u_ans w i v) H := h
theorem to_fl {D : va_G} {dA : Nat → ClassId} {b0 : Nat} {w : cx_W} {H : Heap} {i : Nat} {v : Int32} (h : cd_Wo D b0 (cx_dm w) (x_ad w) (cx_ce dA (u_fl w i v)) H) : cx_Wo D dA b0 (u_fl w i v) H := h
theorem to_made {D : va_G} {dA : Nat → ClassId} {b0 : Nat} {w : cx_W} {H : Heap} {i : Nat} {v : Nat} (h : cd_Wo D b0 (cx_dm w) (x_ad w) (cx_ce dA (u_made w i v)) H) : cx_Wo D dA b0 (u_made w i v) H := h
theorem to_arr {D : va_G} {dA : Nat → ClassId} {b0 : Nat} {w : cx_W} {H : Heap} {k i : Nat} {v : Option Nat} (h : cd_Wo D b0 (cx_dm w) (x_ad w) (cx_ce dA (u_arr w k i v)) H) : cx_Wo D dA b0 (u_arr w k i v) H := h
theorem to_st {D : va_G} {dA : Nat → ClassId} {b0 : Nat} {w : cx_W} {H : Heap} {i : Nat} {v : Int64} (h : cd_Wo D b0 (cx_dm w) (x_ad w) (cx_ce dA (u_st w i v)) H) : cx_Wo D dA b0 (u_st w i v) H := h
theorem to_tu {D : va_G} {dA : Nat → ClassId} {b0 : Nat} {w : cx_W} {H : Heap} {i : Nat} {v : Int32} (h : cd_Wo D b0 (cx_dm w) (x_ad w) (cx_ce dA (u_tu w i v)) H) : cx_Wo D dA b0 (u_tu w i v) H := h
theorem to_us {D : va_G} {dA : Nat → ClassId} {b0 : Nat} {w : cx_W} {H : Heap} {i : Nat} {v : Int32} (h : cd_Wo D b0 (cx_dm w) (x_ad w) (cx_ce dA (u_us w i v)) H) : cx_Wo D dA b0 (u_us w i v) H := h
theorem to_th {D : va_G} {dA : Nat → ClassId} {b0 : Nat} {w : cx_W} {H : Heap} {i : Nat} {v : Int32} (h : cd_Wo D b0 (cx_dm w) (x_ad w) (cx_ce dA (u_th w i v)) H) : cx_Wo D dA b0 (u_th w i v) H := h
theorem to_src {D : va_G} {dA : Nat → ClassId} {b0 : Nat} {w : cx_W} {H : Heap} {i : Nat} {v : Option Nat} (h : cd_Wo D b0 (cx_dm w) (x_ad w) (cx_ce dA (u_src w i v)) H) : cx_Wo D dA b0 (u_src w i v) H := h
end
section
/-! calls whose answer and world are known -/
section CXC
variable {p : Program} {l : Launch} {e : Env} {R : Room} {s : State} {m : MethodId} {args : Array Value} {below : List Frame} {meth : Method} {c : Code} {H : Heap} {locs : List Loc} {cells slots : Nat} {Q : State → Prop}
variable {cc : ByteArray} {pc : Nat} {ls : Array Slot} {rest : List Value} {D : va_G} {b0 : Nat} {dA : Nat → ClassId} {w w0 : cx_W} {x0 : Value} {mc ms : Nat} {st0 : List Value}
variable {nL maxL n index ci : Nat} {own C host : String} {y : MethodName} {bytes : ByteArray} {ret : Option FieldType} {rm : Room} {As : List Value} {Ts : List Cond} {q : vw_C} {fs : List Value}
theorem cx_cV (S : CallFix p m c cc nL s args Ts own) (hG : GoodIn Ts (Cond.code y bytes maxL ret :: cd_WA)) (hE : cd_EV D (cx_tys dA) s) (hb0 : b0 ≤ s.heap.size) (hW : cx_Wo D dA b0 w H) (hS : va_S (cd_A b0) s.heap H locs) (a b : Nat) (hd : cx_dm w a b) (he : cx_ce dA w a b = .inr (ci, fs)) (hc : classes[ci]? = some q)
    (hM : cd_Ct l D (cx_tys dA) b0 y (Cond.code y bytes maxL ret :: cd_WA) rm (.ref (x_ad w a b) :: As) (cx_dm w) (x_ad w) (cx_ce dA w) (cx_R dA (some x0) w0) mc ms) (hl : Cond.methodLink own index y ∈ Ts) (hin : Cond.instanceMethod y ∈ Ts) (hsel : Cond.selects q.1 y y ∈ Ts) (hini : Cond.initialized y.cls ∈ Ts)
    (hy : y.cls ≠ "java/lang/invoke/MethodHandle" ∧ y.cls ≠ "java/lang/invoke/VarHandle" ∧ (parseMethodDescriptor y.desc).map (fun d => d.parameters.length) = some n) (hrc : rm.cells = mc) (hrs : rm.slots = ms) (hR : rm.frames + 1 ≤ R.frames ∧ 8 + (maxL + 11) + rm.locals ≤ R.locals)
    (hn : As.length = n) (hsize : ls.size = nL) (hst : st0 = As.reverse ++ .ref (x_ad w a b) :: rest) (hro : (rest.map fun v => v.category).sum ≤ 8) (hdg : decode cc pc = .ok (.invokevirtual index, 3)) (hf : cells + mc ≤ R.cells ∧ slots + ms ≤ R.slots)
    (kk : ∀ (H1 : Heap) (locs1 : List Loc), cx_Wo D dA b0 w0 H1 → va_S (cd_A b0) s.heap H1 locs1 → W p l e R s m args below meth c H1 locs1 (cells + mc) (slots + ms) Q (F0 m (pc + 3) ls (x0 :: rest))) : W p l e R s m args below meth c H locs cells slots Q (F0 m pc ls st0) :=
  cd_cV S hG hE hb0 hW hS a b hd he hc hM hl hin hsel hini hy hrc hrs hR hn hsize hst hro hdg hf (fun v dm ad ce H1 locs1 hQ hW hS => by obtain ⟨rfl, rfl, rfl, rfl⟩ := hQ; exact kk H1 locs1 hW hS)
theorem cx_cV0 (S : CallFix p m c cc nL s args Ts own) (hG : GoodIn Ts (Cond.code y bytes maxL ret :: cd_WA)) (hE : cd_EV D (cx_tys dA) s) (hb0 : b0 ≤ s.heap.size) (hW : cx_Wo D dA b0 w H) (hS : va_S (cd_A b0) s.heap H locs) (a b : Nat) (hd : cx_dm w a b) (he : cx_ce dA w a b = .inr (ci, fs)) (hc : classes[ci]? = some q)
    (hM : cd_Ct l D (cx_tys dA) b0 y (Cond.code y bytes maxL ret :: cd_WA) rm (.ref (x_ad w a b) :: As) (cx_dm w) (x_ad w) (cx_ce dA w) (cx_R dA none w0) mc ms) (hl : Cond.methodLink own index y ∈ Ts) (hin : Cond.instanceMethod y ∈ Ts) (hsel : Cond.selects q.1 y y ∈ Ts) (hini : Cond.initialized y.cls ∈ Ts)
    (hy : y.cls ≠ "java/lang/invoke/MethodHandle" ∧ y.cls ≠ "java/lang/invoke/VarHandle" ∧ (parseMethodDescriptor y.desc).map (fun d => d.parameters.length) = some n) (hrc : rm.cells = mc) (hrs : rm.slots = ms) (hR : rm.frames + 1 ≤ R.frames ∧ 8 + (maxL + 11) + rm.locals ≤ R.locals)
    (hn : As.length = n) (hsize : ls.size = nL) (hst : st0 = As.reverse ++ .ref (x_ad w a b) :: rest) (hro : (rest.map fun v => v.category).sum ≤ 8) (hdg : decode cc pc = .ok (.invokevirtual index, 3)) (hf : cells + mc ≤ R.cells ∧ slots + ms ≤ R.slots)
    (kk : ∀ (H1 : Heap) (locs1 : List Loc), cx_Wo D dA b0 w0 H1 → va_S (cd_A b0) s.heap H1 locs1 → W p l e R s m args below meth c H1 locs1 (cells + mc) (slots + ms) Q (F0 m (pc + 3) ls rest)) : W p l e R s m args below meth c H locs cells slots Q (F0 m pc ls st0) :=
  cd_cV S hG hE hb0 hW hS a b hd he hc hM hl hin hsel hini hy hrc hrs hR hn hsize hst hro hdg hf (fun v dm ad ce H1 locs1 hQ hW hS => by obtain ⟨rfl, rfl, rfl, rfl⟩ := hQ; exact kk H1 locs1 hW hS)
theorem cx_cVN (S : CallFix p m c cc nL s args Ts own) (hG : GoodIn Ts (Cond.code y bytes maxL ret :: cd_WA)) (hE : cd_EV D (cx_tys dA) s) (hb0 : b0 ≤ s.heap.size) (hW : cx_Wo D dA b0 w H) (hS : va_S (cd_A b0) s.heap H locs) (a b : Nat) (hd : cx_dm w a b) (he : cx_ce dA w a b = .inr (ci, fs)) (hc : classes[ci]? = some q)
    (hM : cd_Ct l D (cx_tys dA) b0 y (Cond.code y bytes maxL ret :: cd_WA) rm (.ref (x_ad w a b) :: As) (cx_dm w) (x_ad w) (cx_ce dA w) (cx_R dA (some x0) w0) mc ms) (hl : Cond.methodLinkNest own index y host ∈ cd_nest) (hin : Cond.instanceMethod y ∈ Ts) (hsel : Cond.selects q.1 y y ∈ Ts) (hini : Cond.initialized y.cls ∈ Ts)
    (hy : y.cls ≠ "java/lang/invoke/MethodHandle" ∧ y.cls ≠ "java/lang/invoke/VarHandle" ∧ (parseMethodDescriptor y.desc).map (fun d => d.parameters.length) = some n) (hrc : rm.cells = mc) (hrs : rm.slots = ms) (hR : rm.frames + 1 ≤ R.frames ∧ 8 + (maxL + 11) + rm.locals ≤ R.locals)
    (hn : As.length = n) (hsize : ls.size = nL) (hst : st0 = As.reverse ++ .ref (x_ad w a b) :: rest) (hro : (rest.map fun v => v.category).sum ≤ 8) (hdg : decode cc pc = .ok (.invokevirtual index, 3)) (hf : cells + mc ≤ R.cells ∧ slots + ms ≤ R.slots)
    (kk : ∀ (H1 : Heap) (locs1 : List Loc), cx_Wo D dA b0 w0 H1 → va_S (cd_A b0) s.heap H1 locs1 → W p l e R s m args below meth c H1 locs1 (cells + mc) (slots + ms) Q (F0 m (pc + 3) ls (x0 :: rest))) : W p l e R s m args below meth c H locs cells slots Q (F0 m pc ls st0) :=
  cd_cVN S hG hE hb0 hW hS a b hd he hc hM hl hin hsel hini hy hrc hrs hR hn hsize hst hro hdg hf (fun v dm ad ce H1 locs1 hQ hW hS => by obtain ⟨rfl, rfl, rfl, rfl⟩ := hQ; exact kk H1 locs1 hW hS)
theorem cx_cVN0 (S : CallFix p m c cc nL s args Ts own) (hG : GoodIn Ts (Cond.code y bytes maxL ret :: cd_WA)) (hE : cd_EV D (cx_tys dA) s) (hb0 : b0 ≤ s.heap.size) (hW : cx_Wo D dA b0 w H) (hS : va_S (cd_A b0) s.heap H locs) (a b : Nat) (hd : cx_dm w a b) (he : cx_ce dA w a b = .inr (ci, fs)) (hc : classes[ci]? = some q)
    (hM : cd_Ct l D (cx_tys dA) b0 y (Cond.code y bytes maxL ret :: cd_WA) rm (.ref (x_ad w a b) :: As) (cx_dm w) (x_ad w) (cx_ce dA w) (cx_R dA none w0) mc ms) (hl : Cond.methodLinkNest own index y host ∈ cd_nest) (hin : Cond.instanceMethod y ∈ Ts) (hsel : Cond.selects q.1 y y ∈ Ts) (hini : Cond.initialized y.cls ∈ Ts)
    (hy : y.cls ≠ "java/lang/invoke/MethodHandle" ∧ y.cls ≠ "java/lang/invoke/VarHandle" ∧ (parseMethodDescriptor y.desc).map (fun d => d.parameters.length) = some n) (hrc : rm.cells = mc) (hrs : rm.slots = ms) (hR : rm.frames + 1 ≤ R.frames ∧ 8 + (maxL + 11) + rm.locals ≤ R.locals)
    (hn : As.length = n) (hsize : ls.size = nL) (hst : st0 = As.reverse ++ .ref (x_ad w a b) :: rest) (hro : (rest.map fun v => v.category).sum ≤ 8) (hdg : decode cc pc = .ok (.invokevirtual index, 3)) (hf : cells + mc ≤ R.cells ∧ slots + ms ≤ R.slots)
    (kk : ∀ (H1 : Heap) (locs1 : List Loc), cx_Wo D dA b0 w0 H1 → va_S (cd_A b0) s.heap H1 locs1 → W p l e R s m args below meth c H1 locs1 (cells + mc) (slots + ms) Q (F0 m (pc + 3) ls rest)) : W p l e R s m args below meth c H locs cells slots Q (F0 m pc ls st0) :=
  cd_cVN S hG hE hb0 hW hS a b hd he hc hM hl hin hsel hini hy hrc hrs hR hn hsize hst hro hdg hf (fun v dm ad ce H1 locs1 hQ hW hS => by obtain ⟨rfl, rfl, rfl, rfl⟩ := hQ; exact kk H1 locs1 hW hS)
theorem cx_cS (S : CallFix p m c cc nL s args Ts own) (hG : GoodIn Ts (Cond.code y bytes maxL ret :: cd_WA)) (hE : cd_EV D (cx_tys dA) s) (hb0 : b0 ≤ s.heap.size) (hW : cx_Wo D dA b0 w H) (hS : va_S (cd_A b0) s.heap H locs)
    (hM : cd_Ct l D (cx_tys dA) b0 y (Cond.code y bytes maxL ret :: cd_WA) rm As (cx_dm w) (x_ad w) (cx_ce dA w) (cx_R dA (some x0) w0) mc ms) (hl : Cond.methodLink own index y ∈ Ts) (hin : Cond.static y ∈ Ts) (hini : Cond.initialized y.cls ∈ Ts)
    (hy : y.cls ≠ "java/lang/invoke/MethodHandle" ∧ y.cls ≠ "java/lang/invoke/VarHandle" ∧ (parseMethodDescriptor y.desc).map (fun d => d.parameters.length) = some n) (hrc : rm.cells = mc) (hrs : rm.slots = ms) (hR : rm.frames + 1 ≤ R.frames ∧ 8 + (maxL + 11) + rm.locals ≤ R.locals)
    (hn : As.length = n) (hsize : ls.size = nL) (hst : st0 = As.reverse ++ rest) (hro : (rest.map fun v => v.category).sum ≤ 8) (hdg : decode cc pc = .ok (.invokestatic index, 3)) (hf : cells + mc ≤ R.cells ∧ slots + ms ≤ R.slots)
    (kk : ∀ (H1 : Heap) (locs1 : List Loc), cx_Wo D dA b0 w0 H1 → va_S (cd_A b0) s.heap H1 locs1 → W p l e R s m args below meth c H1 locs1 (cells + mc) (slots + ms) Q (F0 m (pc + 3) ls (x0 :: rest))) : W p l e R s m args below meth c H locs cells slots Q (F0 m pc ls st0) :=
  cd_cS S hG hE hb0 hW hS hM hl hin hini hy hrc hrs hR hn hsize hst hro hdg hf (fun v dm ad ce H1 locs1 hQ hW hS => by obtain ⟨rfl, rfl, rfl, rfl⟩ := hQ; exact kk H1 locs1 hW hS)
theorem cx_cIN0 (S : CallFix p m c cc nL s args Ts own) (hG : GoodIn Ts (Cond.code y bytes maxL none :: cd_WA)) (hE : cd_EV D (cx_tys dA) s) (hb0 : b0 ≤ s.heap.size) (hW : cx_Wo D dA b0 w H) (hS : va_S (cd_A b0) s.heap H locs) (b : Nat)
    (hM : cd_Ct l D (cx_tys dA) b0 y (Cond.code y bytes maxL none :: cd_WA) rm (.ref b :: As) (cx_dm w) (x_ad w) (cx_ce dA w) (cx_R dA none w0) mc ms) (hl : Cond.methodLinkNest own index y host ∈ cd_nest) (hin : Cond.instanceMethod y ∈ Ts) (hini : Cond.initialized y.cls ∈ Ts) (hy1 : y.name = "<init>")
    (hy : y.cls ≠ "java/lang/invoke/MethodHandle" ∧ y.cls ≠ "java/lang/invoke/VarHandle" ∧ (parseMethodDescriptor y.desc).map (fun d => d.parameters.length) = some n) (hrc : rm.cells = mc) (hrs : rm.slots = ms) (hR : rm.frames + 1 ≤ R.frames ∧ 8 + (maxL + 11) + rm.locals ≤ R.locals)
    (hn : As.length = n) (hsize : ls.size = nL) (hst : st0 = As.reverse ++ .ref b :: rest) (hro : (rest.map fun v => v.category).sum ≤ 8) (hdg : decode cc pc = .ok (.invokespecial index, 3)) (hf : cells + mc ≤ R.cells ∧ slots + ms ≤ R.slots)
    (kk : ∀ (H1 : Heap) (locs1 : List Loc), cx_Wo D dA b0 w0 H1 → va_S (cd_A b0) s.heap H1 locs1 → W p l e R s m args below meth c H1 locs1 (cells + mc) (slots + ms) Q (F0 m (pc + 3) ls rest)) : W p l e R s m args below meth c H locs cells slots Q (F0 m pc ls st0) :=
  cd_cIN S hG hE hb0 hW hS b hM hl hin hini hy1 hy hrc hrs hR hn hsize hst hro hdg hf (fun v dm ad ce H1 locs1 hQ hW hS => by obtain ⟨rfl, rfl, rfl, rfl⟩ := hQ; exact kk H1 locs1 hW hS)
end CXC
/-- an index in range, out of two tests -/
theorem cd_in {x : Int32} {n : Nat} (N : Int32) (hN : N.toInt = n) (h0 : ¬ x < 0) (h1 : ¬ N ≤ x) : vp_in x n := by
  rw [vp_in_iff]
  rw [Int32.lt_iff_toInt_lt] at h0
  rw [Int32.le_iff_toInt_le] at h1
  have : (0 : Int32).toInt = 0 := by decide
  omega
/-- what every world of the class keeps -/
def cx_Iv (w : cx_W) : Prop := (∀ t, x_cnt w t ≤ 200) ∧ (∀ k, x_made w k ≤ 20) ∧ (∀ k i j, x_arr w k i = some j → x_al w j) ∧ ∀ j j', x_al w j → x_src w j = some j' → x_al w j'
/-- which things are made -/
def cx_Ia (w : cx_W) : Prop := ∀ j, x_al w j → ∃ k i, i < x_made w k ∧ j = 64 * k + i + 1
theorem cd_in2 {x : Int32} {n : Nat} (N : Int32) (hN : N.toInt = n) (h0 : ¬ x < 0) (h1 : x < N) : vp_in x n := by
  rw [vp_in_iff]
  rw [Int32.lt_iff_toInt_lt] at h0 h1
  have : (0 : Int32).toInt = 0 := by decide
  omega
theorem cd_vlt {x : Int32} {n : Nat} (h : vp_in x n) : x.toNatClampNeg < n := Nat.not_le.mp fun q => h (Or.inr q)
theorem cd_num {x : Int64} (h0 : ¬ x < 0) (h1 : x < 384) : ∃ k : Nat, k < 384 ∧ x = lN k ∧ x.toInt32 = nI k := by
  obtain ⟨k, hk, rfl⟩ := pk_lOf h0
  have h2 : lN k < lN 384 := h1
  exact ⟨k, (pk_lLT hk (by decide)).mp h2, rfl, lN_i k⟩
theorem cd_k64 {x : Int64} (h0 : ¬ x < 0) (h1 : x < 384) : vp_in (x.toInt32 / 64) 6 := by
  obtain ⟨k, hk, -, e⟩ := cd_num h0 h1
  rw [e, show (64 : Int32) = nI 64 from rfl, pk_div (by omega) (by decide) (by decide)]
  exact vp_in_nI (by omega) (by decide)
end
section
/-! a new thing of the class: its number is its NUMBER -/
def ad2 (ad : Nat → Nat → Nat) (a b q : Nat) : Nat → Nat → Nat := fun x y => if x = a ∧ y = b then q else ad x y
def nj (w : cx_W) (k : Nat) : Nat := 64 * k + x_made w k + 1
def f_newj (w : cx_W) (j q : Nat) : cx_W := ((w.1.1, w.1.2.1, w.1.2.2.1, w.1.2.2.2.1, w.1.2.2.2.2.1, w.1.2.2.2.2.2.1, w.1.2.2.2.2.2.2.1, va_up (x_st w) j 0, va_up (x_tu w) j 0, va_up (x_us w) j 0, va_up (x_th w) j 0, va_up (x_src w) j none, fun z => z = j ∨ x_al w z), (ad2 (x_ad w) 8 j q, w.2.2))
def f_mk1 (w : cx_W) (k q : Nat) : cx_W := f_newj w (nj w k) q
theorem nj_new {w : cx_W} (hI : cx_Iv w) (hJ : cx_Ia w) {k : Nat} (hm : x_made w k < 20) : ¬ x_al w (nj w k) := by
  intro h
  obtain ⟨k', i, h1, h2⟩ := hJ _ h
  have h3 := hI.2.1 k'
  unfold nj at h2
  have : k = k' := by omega
  subst this
  omega
theorem mk1_ad (w : cx_W) (k q : Nat) : x_ad (f_mk1 w k q) 8 (nj w k) = q := by simp [x_src, x_st, x_tu, x_us, x_th, x_ad, f_mk1, f_newj, ad2]
theorem mk1_ce (dA : Nat → ClassId) (w : cx_W) (k q : Nat) : cx_ce dA (f_mk1 w k q) 8 (nj w k) = .inr (3, [.null, .long 0, .int 0, .int 0, .int 0]) := by simp [cx_ce, x_src, x_st, x_tu, x_us, x_th, x_ad, f_mk1, f_newj, va_up, va_rf]
theorem mk1_old {w : cx_W} {k j : Nat} (hn : ¬ x_al w (nj w k)) (hj : x_al w j) (q : Nat) : x_ad w 8 j = x_ad (f_mk1 w k q) 8 j := by
  have h : j ≠ nj w k := fun e => hn (e ▸ hj)
  simp [x_src, x_st, x_tu, x_us, x_th, x_ad, f_mk1, f_newj, ad2, h]
theorem mk1_keep (dA : Nat → ClassId) {w : cx_W} (hI : cx_Iv w) {k : Nat} (hn : ¬ x_al w (nj w k)) (q : Nat) : ∀ x y, cx_dm (f_mk1 w k 0) x y → (x = 8 ∧ y = nj w k) ∨ (cx_dm w x y ∧ x_ad (f_mk1 w k q) x y = x_ad w x y ∧ cx_ce dA (f_mk1 w k q) x y = cx_ce dA w x y) := fun x y hd => match x, hd with
  | 0, hd => Or.inr ⟨hd, rfl, rfl⟩
  | 1, hd => Or.inr ⟨hd, rfl, rfl⟩
  | 2, hd => Or.inr ⟨hd, rfl, rfl⟩
  | 3, hd => Or.inr ⟨hd, rfl, rfl⟩
  | 4, hd => Or.inr ⟨hd, rfl, rfl⟩
  | 5, hd => Or.inr ⟨hd, rfl, by
      have e : (fun i => (x_arr w y i).map (x_ad (f_mk1 w k q) 8)) = fun i => (x_arr w y i).map (x_ad w 8) := by
        funext i
        cases ha : x_arr w y i with
        | none => rfl
        | some j => simp only [Option.map_some]; rw [mk1_old hn (hI.2.2.1 _ _ _ ha) q]
      show Sum.inl (dA 3, 20, Sum.inr (Sum.inr (Sum.inr (Sum.inr (fun i => (x_arr w y i).map (x_ad (f_mk1 w k q) 8)))))) = _
      rw [e]
      rfl⟩
  | 6, hd => Or.inr ⟨hd, rfl, rfl⟩
  | 7, hd => Or.inr ⟨hd, rfl, rfl⟩
  | 8, hd => by
      rcases (show y = nj w k ∨ x_al w y from hd) with h | h
      · exact Or.inl ⟨rfl, h⟩
      · refine Or.inr ⟨h, (mk1_old hn h q).symm, ?_⟩
        have hy : y ≠ nj w k := fun e => hn (e ▸ h)
        have e : (x_src w y).map (x_ad (f_mk1 w k q) 8) = (x_src w y).map (x_ad w 8) := by
          cases ha : x_src w y with
          | none => rfl
          | some j => simp only [Option.map_some]; rw [mk1_old hn (hI.2.2.2 _ _ h ha) q]
        have e1 : x_src (f_mk1 w k q) y = x_src w y := by simp [x_src, x_st, x_tu, x_us, x_th, x_ad, f_mk1, f_newj, va_up, hy]
        have e2 : x_st (f_mk1 w k q) y = x_st w y := by simp [x_src, x_st, x_tu, x_us, x_th, x_ad, f_mk1, f_newj, va_up, hy]
        have e3 : x_tu (f_mk1 w k q) y = x_tu w y := by simp [x_src, x_st, x_tu, x_us, x_th, x_ad, f_mk1, f_newj, va_up, hy]
        have e4 : x_us (f_mk1 w k q) y = x_us w y := by simp [x_src, x_st, x_tu, x_us, x_th, x_ad, f_mk1, f_newj, va_up, hy]
        have e5 : x_th (f_mk1 w k q) y = x_th w y := by simp [x_src, x_st, x_tu, x_us, x_th, x_ad, f_mk1, f_newj, va_up, hy]
        show Sum.inr (3, [va_rf ((x_src (f_mk1 w k q) y).map (x_ad (f_mk1 w k q) 8)), .long (x_st (f_mk1 w k q) y), .int (x_tu (f_mk1 w k q) y), .int (x_us (f_mk1 w k q) y), .int (x_th (f_mk1 w k q) y)]) = _
        rw [e1, e, e2, e3, e4, e5]
        rfl
  | _ + 9, hd => Or.inr ⟨hd, rfl, rfl⟩
theorem mk1_Iv {w : cx_W} (hI : cx_Iv w) {k : Nat} (q : Nat) : cx_Iv (f_mk1 w k q) := by
  refine ⟨hI.1, hI.2.1, fun a i j h => Or.inr (hI.2.2.1 a i j h), fun j j' hj h => ?_⟩
  by_cases he : j = nj w k
  · subst he
    simp [x_src, x_st, x_tu, x_us, x_th, x_ad, f_mk1, f_newj, va_up] at h
  · have h' : x_src w j = some j' := by
      have e : x_src (f_mk1 w k q) j = x_src w j := by simp [x_src, x_st, x_tu, x_us, x_th, x_ad, f_mk1, f_newj, va_up, he]
      rw [← e]
      exact h
    rcases (show j = nj w k ∨ x_al w j from hj) with h2 | h2
    · exact absurd h2 he
    · exact Or.inr (hI.2.2.2 _ _ h2 h')
/-- all that a thing holds, at once -/
def u_thing (w : cx_W) (j : Nat) (a : Int64) (b c d : Int32) (o : Option Nat) : cx_W := ((w.1.1, w.1.2.1, w.1.2.2.1, w.1.2.2.2.1, w.1.2.2.2.2.1, w.1.2.2.2.2.2.1, w.1.2.2.2.2.2.2.1, va_up (x_st w) j a, va_up (x_tu w) j b, va_up (x_us w) j c, va_up (x_th w) j d, va_up (x_src w) j o, w.1.2.2.2.2.2.2.2.2.2.2.2.2), w.2)
theorem nw_thing (dA : Nat → ClassId) (w : cx_W) (j : Nat) (a : Int64) (b c d : Int32) (o : Option Nat) : cx_ce dA (u_thing w j a b c d o) 8 j = .inr (3, [va_rf (o.map (x_ad w 8)), .long a, .int b, .int c, .int d]) := by simp [cx_ce, x_src, x_st, x_tu, x_us, x_th, x_ad, u_thing, va_up]
theorem kp_thing (dA : Nat → ClassId) (w : cx_W) (j : Nat) (a : Int64) (b c d : Int32) (o : Option Nat) : ∀ x y, cx_dm w x y → ¬ (x = 8 ∧ y = j) → cx_ce dA (u_thing w j a b c d o) x y = cx_ce dA w x y := fun x y hd hn => match x, hd, hn with
  | 8, _, hn => by
    have h : y ≠ j := fun q => hn ⟨rfl, q⟩
    simp [cx_ce, x_src, x_st, x_tu, x_us, x_th, x_ad, u_thing, va_up, h]
  | 0, _, _ => rfl | 1, _, _ => rfl | 2, _, _ => rfl | 3, _, _ => rfl | 4, _, _ => rfl | 5, _, _ => rfl | 6, _, _ => rfl | 7, _, _ => rfl | _ + 9, _, _ => rfl
theorem kp_thing2 (dA : Nat → ClassId) (w : cx_W) (j : Nat) (a : Int64) (b c d : Int32) (o : Option Nat) (a' : Int64) (b' c' d' : Int32) (o' : Option Nat) : ∀ x y, cx_dm (u_thing w j a' b' c' d' o') x y → ¬ (x = 8 ∧ y = j) → cx_ce dA (u_thing w j a b c d o) x y = cx_ce dA (u_thing w j a' b' c' d' o') x y := fun x y hd hn => (kp_thing dA w j a b c d o x y hd hn).trans (kp_thing dA w j a' b' c' d' o' x y hd hn).symm
theorem to_thing {D : va_G} {dA : Nat → ClassId} {b0 : Nat} {w : cx_W} {H : Heap} {j : Nat} {a : Int64} {b c d : Int32} {o : Option Nat} (h : cd_Wo D b0 (cx_dm w) (x_ad w) (cx_ce dA (u_thing w j a b c d o)) H) : cx_Wo D dA b0 (u_thing w j a b c d o) H := h
theorem to_thing2 {D : va_G} {dA : Nat → ClassId} {b0 : Nat} {w : cx_W} {H : Heap} {j : Nat} {a : Int64} {b c d : Int32} {o : Option Nat} {a' : Int64} {b' c' d' : Int32} {o' : Option Nat} (h : cd_Wo D b0 (cx_dm (u_thing w j a' b' c' d' o')) (x_ad (u_thing w j a' b' c' d' o')) (cx_ce dA (u_thing w j a b c d o)) H) : cx_Wo D dA b0 (u_thing w j a b c d o) H := h
theorem al_thing {w : cx_W} {j : Nat} {a : Int64} {b c d : Int32} {o : Option Nat} {q : Nat} (h : x_al w q) : cx_dm (u_thing w j a b c d o) 8 q := h
end
section
def f_Tray_isFull (w : cx_W) (t : Nat) : Int32 := if (nI (x_cnt w t)) < 200 then 0 else 1
set_option maxHeartbeats 4000000 in
set_option maxRecDepth 100000 in
theorem c_Tray_isFull (l : Launch) (D : va_G) (dA : Nat → ClassId) (b0 : Nat) (w : cx_W) (t : Nat) (h_t : t < 3) : cd_Ct l D (cx_tys dA) b0 y_Tray_isFull (.code y_Tray_isFull b_Tray_isFull 1 (some .boolean) :: cd_WA) { frames := 0, cells := 0, slots := 0, locals := 0 } [.ref (x_ad w 1 t)] (cx_dm w) (x_ad w) (cx_ce dA w) (cx_R dA (some (.int (f_Tray_isFull w t))) w) 0 0 := by
  refine cd_Ct.of b_Tray_isFull 1 (some .boolean) (by decide) rfl ?_
  intro p e s m below meth c hx hb hr hml hown hlocks hnm hA hE hb0 hW hS ls hl
  have hK := hE.1
  have hl : lv_has ls 1 [(0, .ref (x_ad w 1 t))] := hl
  refine lv_aload_n hx hb d_Tray_isFull_0 rfl (lv_at hl 0 rfl) ?_
  refine cd_get (ci := 1) (C := R_Tray) (T := F_Tray) (N := 3) (v := .int (nI (x_cnt w t))) hx hb hA i_Tray hown hK hW 1 t h_t rfl rfl 2 (by decide) mw_0 rfl rfl d_Tray_isFull_1 ?_
  refine lv_sipush (v := 200) hx hb d_Tray_isFull_4 (by decide) ?_
  refine lv_icmp_lt (tgt := 14) hx hb d_Tray_isFull_7 (by decide) (fun c_1 => ?_) (fun c_1 => ?_)
  · skip
    refine lv_iconst (v := 0) hx hb d_Tray_isFull_14 (by decide) ?_
    have hf : f_Tray_isFull w t = 0 := by
      simp only [f_Tray_isFull, if_pos c_1]
    exact cd_zret hx hb hr hlocks hW hS d_Tray_isFull_15 (by decide) ⟨by rw [hf], rfl, rfl, rfl⟩ (Nat.le_of_ble_eq_true rfl) (Nat.le_of_ble_eq_true rfl)
  · skip
    refine lv_iconst (v := 1) hx hb d_Tray_isFull_10 (by decide) ?_
    refine lv_goto (tgt := 15) hx hb d_Tray_isFull_11 (by decide) ?_
    have hf : f_Tray_isFull w t = 1 := by
      simp only [f_Tray_isFull, if_neg c_1]
    exact cd_zret hx hb hr hlocks hW hS d_Tray_isFull_15 (by decide) ⟨by rw [hf], rfl, rfl, rfl⟩ (Nat.le_of_ble_eq_true rfl) (Nat.le_of_ble_eq_true rfl)

def f_Tray_put (w : cx_W) (t : Nat) (v : Int32) : cx_W := u_cnt (u_val w t (x_cnt w t) v) t (x_cnt w t + 1)
set_option maxHeartbeats 4000000 in
set_option maxRecDepth 100000 in
theorem c_Tray_put (l : Launch) (D : va_G) (dA : Nat → ClassId) (b0 : Nat) (w : cx_W) (t : Nat) (v : Int32) (h_t : t < 3) (hc : x_cnt w t < 200) : cd_Ct l D (cx_tys dA) b0 y_Tray_put (.code y_Tray_put b_Tray_put 2 none :: cd_WA) { frames := 0, cells := 0, slots := 0, locals := 0 } [.ref (x_ad w 1 t), .int v] (cx_dm w) (x_ad w) (cx_ce dA w) (cx_R dA none (f_Tray_put w t v)) 0 0 := by
  refine cd_Ct.of b_Tray_put 2 none (by decide) rfl ?_
  intro p e s m below meth c hx hb hr hml hown hlocks hnm hA hE hb0 hW hS ls hl
  have hK := hE.1
  have hl : lv_has ls 2 [(0, .ref (x_ad w 1 t)), (1, .int v)] := hl
  refine lv_aload_n hx hb d_Tray_put_0 rfl (lv_at hl 0 rfl) ?_
  refine cd_get (ci := 1) (C := R_Tray) (T := F_Tray) (N := 3) (v := .int (nI (x_cnt w t))) hx hb hA i_Tray hown hK hW 1 t h_t rfl rfl 2 (by decide) mw_0 rfl rfl d_Tray_put_1 ?_
  refine lv_if_lt (tgt := 37) hx hb d_Tray_put_4 (by decide) (fun c_1 => ?_) (fun c_1 => ?_)
  · skip
    exact absurd c_1 (nI_pos (by omega))
  · skip
    refine lv_aload_n hx hb d_Tray_put_7 rfl (lv_at hl 0 rfl) ?_
    refine cd_get (ci := 1) (C := R_Tray) (T := F_Tray) (N := 3) (v := .int (nI (x_cnt w t))) hx hb hA i_Tray hown hK hW 1 t h_t rfl rfl 2 (by decide) mw_0 rfl rfl d_Tray_put_8 ?_
    refine lv_sipush (v := 200) hx hb d_Tray_put_11 (by decide) ?_
    refine lv_icmp_ge (tgt := 37) hx hb d_Tray_put_14 (by decide) (fun c_2 => ?_) (fun c_2 => ?_)
    · skip
      exact absurd c_2 (nI_ge (b := 200) hc (by decide))
    · skip
      refine lv_aload_n hx hb d_Tray_put_17 rfl (lv_at hl 0 rfl) ?_
      refine cd_get (ci := 1) (C := R_Tray) (T := F_Tray) (N := 3) (v := .ref (x_ad w 2 t)) hx hb hA i_Tray hown hK hW 1 t h_t rfl rfl 1 (by decide) mw_1 rfl rfl d_Tray_put_18 ?_
      refine lv_aload_n hx hb d_Tray_put_21 rfl (lv_at hl 0 rfl) ?_
      refine cd_get (ci := 1) (C := R_Tray) (T := F_Tray) (N := 3) (v := .int (nI (x_cnt w t))) hx hb hA i_Tray hown hK hW 1 t h_t rfl rfl 2 (by decide) mw_0 rfl rfl d_Tray_put_22 ?_
      refine lv_iload_n hx hb d_Tray_put_25 rfl (lv_at hl 1 rfl) ?_
      refine cd_iast hx hb hK hW hS 2 t h_t 0 rfl rfl (vp_in_nI hc (by decide)) d_Tray_put_26 (cx_ce dA (u_val w t (x_cnt w t) v)) (by rw [nw_val, nI_clamp (by omega)]) (kp_val dA w t (x_cnt w t) v) (fun H locs hW hS => ?_)
      have hW : cx_Wo D dA b0 (u_val w t (x_cnt w t) v) H := to_val hW
      refine lv_aload_n hx hb d_Tray_put_27 rfl (lv_at hl 0 rfl) ?_
      refine lv_dup hx hb d_Tray_put_28 rfl ?_
      refine cd_get (ci := 1) (C := R_Tray) (T := F_Tray) (N := 3) (v := .int (nI (x_cnt w t))) hx hb hA i_Tray hown hK hW 1 t h_t rfl rfl 2 (by decide) mw_0 rfl rfl d_Tray_put_29 ?_
      refine lv_iconst (v := 1) hx hb d_Tray_put_32 (by decide) ?_
      refine lv_iadd hx hb d_Tray_put_33 ?_
      refine cd_put (ci := 1) (C := R_Tray) (T := F_Tray) (N := 3) (v := .int ((nI (x_cnt w t)) + 1)) hx hb hA i_Tray t_Tray t_Tray_ok n_Tray hown hK hW hS 1 t h_t rfl rfl 2 (by decide) mw_0 rfl rfl rfl rfl (Nat.le_of_ble_eq_true rfl) d_Tray_put_34 (cx_ce dA (u_cnt (u_val w t (x_cnt w t) v) t (x_cnt w t + 1))) (by rw [nw_cnt, nI_succ]; rfl) (kp_cnt dA (u_val w t (x_cnt w t) v) t (x_cnt w t + 1)) (fun H locs hW hS => ?_)
      have hW : cx_Wo D dA b0 (u_cnt (u_val w t (x_cnt w t) v) t (x_cnt w t + 1)) H := to_cnt hW
      have hf : f_Tray_put w t v = (u_cnt (u_val w t (x_cnt w t) v) t (x_cnt w t + 1)) := by
        rfl
      exact cd_vret hx hb hr hlocks hW hS d_Tray_put_37 ⟨rfl, by rw [hf], by rw [hf], by rw [hf]⟩ (Nat.le_of_ble_eq_true rfl) (Nat.le_of_ble_eq_true rfl)

def f_Tray_empty (w : cx_W) (t : Nat) : cx_W := (u_cnt w t 0)
set_option maxHeartbeats 4000000 in
set_option maxRecDepth 100000 in
theorem c_Tray_empty (l : Launch) (D : va_G) (dA : Nat → ClassId) (b0 : Nat) (w : cx_W) (t : Nat) (h_t : t < 3) : cd_Ct l D (cx_tys dA) b0 y_Tray_empty (.code y_Tray_empty b_Tray_empty 1 none :: cd_WA) { frames := 0, cells := 0, slots := 0, locals := 0 } [.ref (x_ad w 1 t)] (cx_dm w) (x_ad w) (cx_ce dA w) (cx_R dA none (f_Tray_empty w t)) 0 0 := by
  refine cd_Ct.of b_Tray_empty 1 none (by decide) rfl ?_
  intro p e s m below meth c hx hb hr hml hown hlocks hnm hA hE hb0 hW hS ls hl
  have hK := hE.1
  have hl : lv_has ls 1 [(0, .ref (x_ad w 1 t))] := hl
  refine lv_aload_n hx hb d_Tray_empty_0 rfl (lv_at hl 0 rfl) ?_
  refine lv_iconst (v := 0) hx hb d_Tray_empty_1 (by decide) ?_
  refine cd_put (ci := 1) (C := R_Tray) (T := F_Tray) (N := 3) (v := .int 0) hx hb hA i_Tray t_Tray t_Tray_ok n_Tray hown hK hW hS 1 t h_t rfl rfl 2 (by decide) mw_0 rfl rfl rfl rfl (Nat.le_of_ble_eq_true rfl) d_Tray_empty_2 (cx_ce dA (u_cnt w t 0)) (by rw [nw_cnt, nI_0]; rfl) (kp_cnt dA w t 0) (fun H locs hW hS => ?_)
  have hW : cx_Wo D dA b0 (u_cnt w t 0) H := to_cnt hW
  have hf : f_Tray_empty w t = (u_cnt w t 0) := by
    rfl
  exact cd_vret hx hb hr hlocks hW hS d_Tray_empty_5 ⟨rfl, by rw [hf], by rw [hf], by rw [hf]⟩ (Nat.le_of_ble_eq_true rfl) (Nat.le_of_ble_eq_true rfl)

def f_hash_r (v : Nat → Int32) : Nat → Int64
  | 0 => 7
  | n + 1 => 31 * f_hash_r v n + (v n).toInt64
def f_Tray_hash (w : cx_W) (t : Nat) : Int64 := f_hash_r (x_val w t) (x_cnt w t)
set_option maxHeartbeats 4000000 in
set_option maxRecDepth 100000 in
theorem c_Tray_hash (l : Launch) (D : va_G) (dA : Nat → ClassId) (b0 : Nat) (w : cx_W) (t : Nat) (h_t : t < 3) (hI : cx_Iv w) : cd_Ct l D (cx_tys dA) b0 y_Tray_hash (.code y_Tray_hash b_Tray_hash 4 (some .long) :: cd_WA) { frames := 0, cells := 0, slots := 0, locals := 0 } [.ref (x_ad w 1 t)] (cx_dm w) (x_ad w) (cx_ce dA w) (cx_R dA (some (.long (f_Tray_hash w t))) w) 0 0 := by
  refine cd_Ct.of b_Tray_hash 4 (some .long) (by decide) rfl ?_
  intro p e s m below meth c hx hb hr hml hown hlocks hnm hA hE hb0 hW hS ls hl
  have hK := hE.1
  have hl : lv_has ls 4 [(0, .ref (x_ad w 1 t))] := hl
  have hc := hI.1 t
  have loop : ∀ (d n : Nat), x_cnt w t = n + d → ∀ (ls : Array Slot) (H : Heap) (locs : List Loc), cx_Wo D dA b0 w H → va_S (cd_A b0) s.heap H locs → lv_has ls 4 [(3, .int (nI n)), (1, .long (f_hash_r (x_val w t) n)), (0, .ref (x_ad w 1 t))] → W p l e { frames := 0, cells := 0, slots := 0, locals := 0 } s m ([.ref (x_ad w 1 t)] : List Value).toArray below meth c H locs 0 0 (MQ below (cd_Q D b0 (cx_R dA (some (.long (f_Tray_hash w t))) w)) ([.ref (x_ad w 1 t)] : List Value).toArray s 0 0 (cd_A b0)) (F0 m 6 ls []) := by
    intro d
    induction d with
    | zero =>
      intro n hn ls H locs hW hS hl
      have hn : x_cnt w t = n := hn
      refine lv_iload_n hx hb d_Tray_hash_6 rfl (lv_at hl 0 rfl) ?_
      refine lv_aload_n hx hb d_Tray_hash_7 rfl (lv_at hl 2 rfl) ?_
      refine cd_get (ci := 1) (C := R_Tray) (T := F_Tray) (N := 3) (v := .int (nI (x_cnt w t))) hx hb hA i_Tray hown hK hW 1 t h_t rfl rfl 2 (by decide) mw_0 rfl rfl d_Tray_hash_8 ?_
      refine lv_icmp_ge (tgt := 34) hx hb d_Tray_hash_11 (by decide) (fun c_1 => ?_) (fun c_1 => ?_)
      · skip
        refine lv_lload_n hx hb d_Tray_hash_34 rfl (lv_at hl 1 rfl) ?_
        have hf : f_Tray_hash w t = (f_hash_r (x_val w t) n) := by
          rw [f_Tray_hash, hn]
        exact cd_lret hx hb hr hlocks hW hS d_Tray_hash_35 ⟨by rw [hf], rfl, rfl, rfl⟩ (Nat.le_of_ble_eq_true rfl) (Nat.le_of_ble_eq_true rfl)
      · skip
        exact absurd (nI_le (by omega) (by omega)) c_1
    | succ d ih =>
      intro n hn ls H locs hW hS hl
      refine lv_iload_n hx hb d_Tray_hash_6 rfl (lv_at hl 0 rfl) ?_
      refine lv_aload_n hx hb d_Tray_hash_7 rfl (lv_at hl 2 rfl) ?_
      refine cd_get (ci := 1) (C := R_Tray) (T := F_Tray) (N := 3) (v := .int (nI (x_cnt w t))) hx hb hA i_Tray hown hK hW 1 t h_t rfl rfl 2 (by decide) mw_0 rfl rfl d_Tray_hash_8 ?_
      refine lv_icmp_ge (tgt := 34) hx hb d_Tray_hash_11 (by decide) (fun c_2 => ?_) (fun c_2 => ?_)
      · skip
        exact absurd c_2 (nI_ge (by omega) (by omega))
      · skip
        refine lv_ldc2 (v := 31) hx hb hown (hA _ mw_2) d_Tray_hash_14 ?_
        refine lv_lload_n hx hb d_Tray_hash_17 rfl (lv_at hl 1 rfl) ?_
        refine lv_lmul hx hb d_Tray_hash_18 ?_
        refine lv_aload_n hx hb d_Tray_hash_19 rfl (lv_at hl 2 rfl) ?_
        refine cd_get (ci := 1) (C := R_Tray) (T := F_Tray) (N := 3) (v := .ref (x_ad w 2 t)) hx hb hA i_Tray hown hK hW 1 t h_t rfl rfl 1 (by decide) mw_1 rfl rfl d_Tray_hash_20 ?_
        refine lv_iload_n hx hb d_Tray_hash_23 rfl (lv_at hl 0 rfl) ?_
        refine cd_iald hx hb hK hW 2 t h_t 0 rfl rfl (vp_in_nI (show n < 200 by omega) (by decide)) d_Tray_hash_24 ?_
        rw [nI_clamp (show n < 2 ^ 31 by omega)]
        refine lv_i2l hx hb d_Tray_hash_25 rfl ?_
        refine lv_ladd hx hb d_Tray_hash_26 ?_
        refine lv_lstore_n (lv' := [(1, .long ((31 * (f_hash_r (x_val w t) n)) + ((x_val w t n).toInt64))), (3, .int (nI n)), (0, .ref (x_ad w 1 t))]) hx hb d_Tray_hash_27 rfl hl (by decide) rfl (fun ls hl => ?_)
        refine lv_iinc (v := (nI (n + 1))) (lv' := [(3, .int (nI (n + 1))), (1, .long ((31 * (f_hash_r (x_val w t) n)) + ((x_val w t n).toInt64))), (0, .ref (x_ad w 1 t))]) hx hb d_Tray_hash_28 hl (k := 1) rfl (by rw [show Int32.ofInt 1 = 1 by decide]; exact nI_1 _) (by decide) rfl (fun ls hl => ?_)
        refine lv_goto (tgt := 6) hx hb d_Tray_hash_31 (by decide) ?_
        exact ih (n + 1) (by omega) ls _ _ hW hS (lv_sub hl [0, 1, 2] rfl)
  refine lv_ldc2 (v := 7) hx hb hown (hA _ mw_3) d_Tray_hash_0 ?_
  refine lv_lstore_n (lv' := [(1, .long 7), (0, .ref (x_ad w 1 t))]) hx hb d_Tray_hash_3 rfl hl (by decide) rfl (fun ls hl => ?_)
  refine lv_iconst (v := 0) hx hb d_Tray_hash_4 (by decide) ?_
  refine lv_istore_n (lv' := [(3, .int 0), (1, .long 7), (0, .ref (x_ad w 1 t))]) hx hb d_Tray_hash_5 rfl hl (by decide) rfl (fun ls hl => ?_)
  exact loop (x_cnt w t) 0 (by omega) ls _ _ hW hS (lv_sub hl [0, 1, 2] rfl)

def f_sum_r (v : Nat → Int32) : Nat → Int32
  | 0 => 0
  | n + 1 => f_sum_r v n + v n
def f_Tray_sum (w : cx_W) (t : Nat) : Int32 := f_sum_r (x_val w t) (x_cnt w t)
set_option maxHeartbeats 4000000 in
set_option maxRecDepth 100000 in
theorem c_Tray_sum (l : Launch) (D : va_G) (dA : Nat → ClassId) (b0 : Nat) (w : cx_W) (t : Nat) (h_t : t < 3) (hI : cx_Iv w) : cd_Ct l D (cx_tys dA) b0 y_Tray_sum (.code y_Tray_sum b_Tray_sum 3 (some .int) :: cd_WA) { frames := 0, cells := 0, slots := 0, locals := 0 } [.ref (x_ad w 1 t)] (cx_dm w) (x_ad w) (cx_ce dA w) (cx_R dA (some (.int (f_Tray_sum w t))) w) 0 0 := by
  refine cd_Ct.of b_Tray_sum 3 (some .int) (by decide) rfl ?_
  intro p e s m below meth c hx hb hr hml hown hlocks hnm hA hE hb0 hW hS ls hl
  have hK := hE.1
  have hl : lv_has ls 3 [(0, .ref (x_ad w 1 t))] := hl
  have hc := hI.1 t
  have loop : ∀ (d n : Nat), x_cnt w t = n + d → ∀ (ls : Array Slot) (H : Heap) (locs : List Loc), cx_Wo D dA b0 w H → va_S (cd_A b0) s.heap H locs → lv_has ls 3 [(2, .int (nI n)), (1, .int (f_sum_r (x_val w t) n)), (0, .ref (x_ad w 1 t))] → W p l e { frames := 0, cells := 0, slots := 0, locals := 0 } s m ([.ref (x_ad w 1 t)] : List Value).toArray below meth c H locs 0 0 (MQ below (cd_Q D b0 (cx_R dA (some (.int (f_Tray_sum w t))) w)) ([.ref (x_ad w 1 t)] : List Value).toArray s 0 0 (cd_A b0)) (F0 m 4 ls []) := by
    intro d
    induction d with
    | zero =>
      intro n hn ls H locs hW hS hl
      have hn : x_cnt w t = n := hn
      refine lv_iload_n hx hb d_Tray_sum_4 rfl (lv_at hl 0 rfl) ?_
      refine lv_aload_n hx hb d_Tray_sum_5 rfl (lv_at hl 2 rfl) ?_
      refine cd_get (ci := 1) (C := R_Tray) (T := F_Tray) (N := 3) (v := .int (nI (x_cnt w t))) hx hb hA i_Tray hown hK hW 1 t h_t rfl rfl 2 (by decide) mw_0 rfl rfl d_Tray_sum_6 ?_
      refine lv_icmp_ge (tgt := 27) hx hb d_Tray_sum_9 (by decide) (fun c_1 => ?_) (fun c_1 => ?_)
      · skip
        refine lv_iload_n hx hb d_Tray_sum_27 rfl (lv_at hl 1 rfl) ?_
        have hf : f_Tray_sum w t = (f_sum_r (x_val w t) n) := by
          rw [f_Tray_sum, hn]
        exact cd_iret hx hb hr hlocks hW hS d_Tray_sum_28 ⟨by rw [hf], rfl, rfl, rfl⟩ (Nat.le_of_ble_eq_true rfl) (Nat.le_of_ble_eq_true rfl)
      · skip
        exact absurd (nI_le (by omega) (by omega)) c_1
    | succ d ih =>
      intro n hn ls H locs hW hS hl
      refine lv_iload_n hx hb d_Tray_sum_4 rfl (lv_at hl 0 rfl) ?_
      refine lv_aload_n hx hb d_Tray_sum_5 rfl (lv_at hl 2 rfl) ?_
      refine cd_get (ci := 1) (C := R_Tray) (T := F_Tray) (N := 3) (v := .int (nI (x_cnt w t))) hx hb hA i_Tray hown hK hW 1 t h_t rfl rfl 2 (by decide) mw_0 rfl rfl d_Tray_sum_6 ?_
      refine lv_icmp_ge (tgt := 27) hx hb d_Tray_sum_9 (by decide) (fun c_2 => ?_) (fun c_2 => ?_)
      · skip
        exact absurd c_2 (nI_ge (by omega) (by omega))
      · skip
        refine lv_iload_n hx hb d_Tray_sum_12 rfl (lv_at hl 1 rfl) ?_
        refine lv_aload_n hx hb d_Tray_sum_13 rfl (lv_at hl 2 rfl) ?_
        refine cd_get (ci := 1) (C := R_Tray) (T := F_Tray) (N := 3) (v := .ref (x_ad w 2 t)) hx hb hA i_Tray hown hK hW 1 t h_t rfl rfl 1 (by decide) mw_1 rfl rfl d_Tray_sum_14 ?_
        refine lv_iload_n hx hb d_Tray_sum_17 rfl (lv_at hl 0 rfl) ?_
        refine cd_iald hx hb hK hW 2 t h_t 0 rfl rfl (vp_in_nI (show n < 200 by omega) (by decide)) d_Tray_sum_18 ?_
        rw [nI_clamp (show n < 2 ^ 31 by omega)]
        refine lv_iadd hx hb d_Tray_sum_19 ?_
        refine lv_istore_n (lv' := [(1, .int ((f_sum_r (x_val w t) n) + (x_val w t n))), (2, .int (nI n)), (0, .ref (x_ad w 1 t))]) hx hb d_Tray_sum_20 rfl hl (by decide) rfl (fun ls hl => ?_)
        refine lv_iinc (v := (nI (n + 1))) (lv' := [(2, .int (nI (n + 1))), (1, .int ((f_sum_r (x_val w t) n) + (x_val w t n))), (0, .ref (x_ad w 1 t))]) hx hb d_Tray_sum_21 hl (k := 1) rfl (by rw [show Int32.ofInt 1 = 1 by decide]; exact nI_1 _) (by decide) rfl (fun ls hl => ?_)
        refine lv_goto (tgt := 4) hx hb d_Tray_sum_24 (by decide) ?_
        exact ih (n + 1) (by omega) ls _ _ hW hS (lv_sub hl [0, 1, 2] rfl)
  refine lv_iconst (v := 0) hx hb d_Tray_sum_0 (by decide) ?_
  refine lv_istore_n (lv' := [(1, .int 0), (0, .ref (x_ad w 1 t))]) hx hb d_Tray_sum_1 rfl hl (by decide) rfl (fun ls hl => ?_)
  refine lv_iconst (v := 0) hx hb d_Tray_sum_2 (by decide) ?_
  refine lv_istore_n (lv' := [(2, .int 0), (1, .int 0), (0, .ref (x_ad w 1 t))]) hx hb d_Tray_sum_3 rfl hl (by decide) rfl (fun ls hl => ?_)
  exact loop (x_cnt w t) 0 (by omega) ls _ _ hW hS (lv_sub hl [0, 1, 2] rfl)

def f_ck_r (v : Nat → Int32) : Nat → Int32 × Int32
  | 0 => (1, 0)
  | n + 1 => (((f_ck_r v n).1 + v n) - ((f_ck_r v n).1 + v n) / 65521 * 65521, ((f_ck_r v n).2 + (((f_ck_r v n).1 + v n) - ((f_ck_r v n).1 + v n) / 65521 * 65521)) - ((f_ck_r v n).2 + (((f_ck_r v n).1 + v n) - ((f_ck_r v n).1 + v n) / 65521 * 65521)) / 65521 * 65521)
def f_Tray_checksum (w : cx_W) (t : Nat) : Int64 := 65536 * (f_ck_r (x_val w t) (x_cnt w t)).2.toInt64 + (f_ck_r (x_val w t) (x_cnt w t)).1.toInt64
set_option maxHeartbeats 4000000 in
set_option maxRecDepth 100000 in
theorem c_Tray_checksum (l : Launch) (D : va_G) (dA : Nat → ClassId) (b0 : Nat) (w : cx_W) (t : Nat) (h_t : t < 3) (hI : cx_Iv w) : cd_Ct l D (cx_tys dA) b0 y_Tray_checksum (.code y_Tray_checksum b_Tray_checksum 4 (some .long) :: cd_WA) { frames := 0, cells := 0, slots := 0, locals := 0 } [.ref (x_ad w 1 t)] (cx_dm w) (x_ad w) (cx_ce dA w) (cx_R dA (some (.long (f_Tray_checksum w t))) w) 0 0 := by
  refine cd_Ct.of b_Tray_checksum 4 (some .long) (by decide) rfl ?_
  intro p e s m below meth c hx hb hr hml hown hlocks hnm hA hE hb0 hW hS ls hl
  have hK := hE.1
  have hl : lv_has ls 4 [(0, .ref (x_ad w 1 t))] := hl
  have hc := hI.1 t
  have loop : ∀ (d n : Nat), x_cnt w t = n + d → ∀ (ls : Array Slot) (H : Heap) (locs : List Loc), cx_Wo D dA b0 w H → va_S (cd_A b0) s.heap H locs → lv_has ls 4 [(3, .int (nI n)), (2, .int ((f_ck_r (x_val w t) n).2)), (1, .int ((f_ck_r (x_val w t) n).1)), (0, .ref (x_ad w 1 t))] → W p l e { frames := 0, cells := 0, slots := 0, locals := 0 } s m ([.ref (x_ad w 1 t)] : List Value).toArray below meth c H locs 0 0 (MQ below (cd_Q D b0 (cx_R dA (some (.long (f_Tray_checksum w t))) w)) ([.ref (x_ad w 1 t)] : List Value).toArray s 0 0 (cd_A b0)) (F0 m 6 ls []) := by
    intro d
    induction d with
    | zero =>
      intro n hn ls H locs hW hS hl
      have hn : x_cnt w t = n := hn
      refine lv_iload_n hx hb d_Tray_checksum_6 rfl (lv_at hl 0 rfl) ?_
      refine lv_aload_n hx hb d_Tray_checksum_7 rfl (lv_at hl 3 rfl) ?_
      refine cd_get (ci := 1) (C := R_Tray) (T := F_Tray) (N := 3) (v := .int (nI (x_cnt w t))) hx hb hA i_Tray hown hK hW 1 t h_t rfl rfl 2 (by decide) mw_0 rfl rfl d_Tray_checksum_8 ?_
      refine lv_icmp_ge (tgt := 39) hx hb d_Tray_checksum_11 (by decide) (fun c_1 => ?_) (fun c_1 => ?_)
      · skip
        refine lv_ldc2 (v := 65536) hx hb hown (hA _ mw_4) d_Tray_checksum_39 ?_
        refine lv_iload_n hx hb d_Tray_checksum_42 rfl (lv_at hl 1 rfl) ?_
        refine lv_i2l hx hb d_Tray_checksum_43 rfl ?_
        refine lv_lmul hx hb d_Tray_checksum_44 ?_
        refine lv_iload_n hx hb d_Tray_checksum_45 rfl (lv_at hl 2 rfl) ?_
        refine lv_i2l hx hb d_Tray_checksum_46 rfl ?_
        refine lv_ladd hx hb d_Tray_checksum_47 ?_
        have hf : f_Tray_checksum w t = ((65536 * (((f_ck_r (x_val w t) n).2).toInt64)) + (((f_ck_r (x_val w t) n).1).toInt64)) := by
          rw [f_Tray_checksum, hn]
        exact cd_lret hx hb hr hlocks hW hS d_Tray_checksum_48 ⟨by rw [hf], rfl, rfl, rfl⟩ (Nat.le_of_ble_eq_true rfl) (Nat.le_of_ble_eq_true rfl)
      · skip
        exact absurd (nI_le (by omega) (by omega)) c_1
    | succ d ih =>
      intro n hn ls H locs hW hS hl
      refine lv_iload_n hx hb d_Tray_checksum_6 rfl (lv_at hl 0 rfl) ?_
      refine lv_aload_n hx hb d_Tray_checksum_7 rfl (lv_at hl 3 rfl) ?_
      refine cd_get (ci := 1) (C := R_Tray) (T := F_Tray) (N := 3) (v := .int (nI (x_cnt w t))) hx hb hA i_Tray hown hK hW 1 t h_t rfl rfl 2 (by decide) mw_0 rfl rfl d_Tray_checksum_8 ?_
      refine lv_icmp_ge (tgt := 39) hx hb d_Tray_checksum_11 (by decide) (fun c_2 => ?_) (fun c_2 => ?_)
      · skip
        exact absurd c_2 (nI_ge (by omega) (by omega))
      · skip
        refine lv_iload_n hx hb d_Tray_checksum_14 rfl (lv_at hl 2 rfl) ?_
        refine lv_aload_n hx hb d_Tray_checksum_15 rfl (lv_at hl 3 rfl) ?_
        refine cd_get (ci := 1) (C := R_Tray) (T := F_Tray) (N := 3) (v := .ref (x_ad w 2 t)) hx hb hA i_Tray hown hK hW 1 t h_t rfl rfl 1 (by decide) mw_1 rfl rfl d_Tray_checksum_16 ?_
        refine lv_iload_n hx hb d_Tray_checksum_19 rfl (lv_at hl 0 rfl) ?_
        refine cd_iald hx hb hK hW 2 t h_t 0 rfl rfl (vp_in_nI (show n < 200 by omega) (by decide)) d_Tray_checksum_20 ?_
        rw [nI_clamp (show n < 2 ^ 31 by omega)]
        refine lv_iadd hx hb d_Tray_checksum_21 ?_
        refine lv_ldc (v := 65521) hx hb hown (hA _ mw_5) d_Tray_checksum_22 ?_
        refine lv_irem hx hb d_Tray_checksum_24 (by decide) ?_
        refine lv_istore_n (lv' := [(1, .int ((((f_ck_r (x_val w t) n).1) + (x_val w t n)) - (((f_ck_r (x_val w t) n).1) + (x_val w t n)) / 65521 * 65521)), (3, .int (nI n)), (2, .int ((f_ck_r (x_val w t) n).2)), (0, .ref (x_ad w 1 t))]) hx hb d_Tray_checksum_25 rfl hl (by decide) rfl (fun ls hl => ?_)
        refine lv_iload_n hx hb d_Tray_checksum_26 rfl (lv_at hl 2 rfl) ?_
        refine lv_iload_n hx hb d_Tray_checksum_27 rfl (lv_at hl 0 rfl) ?_
        refine lv_iadd hx hb d_Tray_checksum_28 ?_
        refine lv_ldc (v := 65521) hx hb hown (hA _ mw_5) d_Tray_checksum_29 ?_
        refine lv_irem hx hb d_Tray_checksum_31 (by decide) ?_
        refine lv_istore_n (lv' := [(2, .int ((((f_ck_r (x_val w t) n).2) + ((((f_ck_r (x_val w t) n).1) + (x_val w t n)) - (((f_ck_r (x_val w t) n).1) + (x_val w t n)) / 65521 * 65521)) - (((f_ck_r (x_val w t) n).2) + ((((f_ck_r (x_val w t) n).1) + (x_val w t n)) - (((f_ck_r (x_val w t) n).1) + (x_val w t n)) / 65521 * 65521)) / 65521 * 65521)), (1, .int ((((f_ck_r (x_val w t) n).1) + (x_val w t n)) - (((f_ck_r (x_val w t) n).1) + (x_val w t n)) / 65521 * 65521)), (3, .int (nI n)), (0, .ref (x_ad w 1 t))]) hx hb d_Tray_checksum_32 rfl hl (by decide) rfl (fun ls hl => ?_)
        refine lv_iinc (v := (nI (n + 1))) (lv' := [(3, .int (nI (n + 1))), (2, .int ((((f_ck_r (x_val w t) n).2) + ((((f_ck_r (x_val w t) n).1) + (x_val w t n)) - (((f_ck_r (x_val w t) n).1) + (x_val w t n)) / 65521 * 65521)) - (((f_ck_r (x_val w t) n).2) + ((((f_ck_r (x_val w t) n).1) + (x_val w t n)) - (((f_ck_r (x_val w t) n).1) + (x_val w t n)) / 65521 * 65521)) / 65521 * 65521)), (1, .int ((((f_ck_r (x_val w t) n).1) + (x_val w t n)) - (((f_ck_r (x_val w t) n).1) + (x_val w t n)) / 65521 * 65521)), (0, .ref (x_ad w 1 t))]) hx hb d_Tray_checksum_33 hl (k := 2) rfl (by rw [show Int32.ofInt 1 = 1 by decide]; exact nI_1 _) (by decide) rfl (fun ls hl => ?_)
        refine lv_goto (tgt := 6) hx hb d_Tray_checksum_36 (by decide) ?_
        exact ih (n + 1) (by omega) ls _ _ hW hS (lv_sub hl [0, 1, 2, 3] rfl)
  refine lv_iconst (v := 1) hx hb d_Tray_checksum_0 (by decide) ?_
  refine lv_istore_n (lv' := [(1, .int 1), (0, .ref (x_ad w 1 t))]) hx hb d_Tray_checksum_1 rfl hl (by decide) rfl (fun ls hl => ?_)
  refine lv_iconst (v := 0) hx hb d_Tray_checksum_2 (by decide) ?_
  refine lv_istore_n (lv' := [(2, .int 0), (1, .int 1), (0, .ref (x_ad w 1 t))]) hx hb d_Tray_checksum_3 rfl hl (by decide) rfl (fun ls hl => ?_)
  refine lv_iconst (v := 0) hx hb d_Tray_checksum_4 (by decide) ?_
  refine lv_istore_n (lv' := [(3, .int 0), (2, .int 0), (1, .int 1), (0, .ref (x_ad w 1 t))]) hx hb d_Tray_checksum_5 rfl hl (by decide) rfl (fun ls hl => ?_)
  exact loop (x_cnt w t) 0 (by omega) ls _ _ hW hS (lv_sub hl [0, 1, 2, 3] rfl)

def f_ch_r (v : Nat → Int32) : Nat → Int32
  | 0 => 0
  | n + 1 => if v (n + 1) = v n then f_ch_r v n else f_ch_r v n + 1
def f_Tray_changes (w : cx_W) (t : Nat) : Int32 := f_ch_r (x_val w t) (x_cnt w t - 1)
set_option maxHeartbeats 4000000 in
set_option maxRecDepth 100000 in
theorem c_Tray_changes (l : Launch) (D : va_G) (dA : Nat → ClassId) (b0 : Nat) (w : cx_W) (t : Nat) (h_t : t < 3) (hI : cx_Iv w) : cd_Ct l D (cx_tys dA) b0 y_Tray_changes (.code y_Tray_changes b_Tray_changes 3 (some .int) :: cd_WA) { frames := 0, cells := 0, slots := 0, locals := 0 } [.ref (x_ad w 1 t)] (cx_dm w) (x_ad w) (cx_ce dA w) (cx_R dA (some (.int (f_Tray_changes w t))) w) 0 0 := by
  refine cd_Ct.of b_Tray_changes 3 (some .int) (by decide) rfl ?_
  intro p e s m below meth c hx hb hr hml hown hlocks hnm hA hE hb0 hW hS ls hl
  have hK := hE.1
  have hl : lv_has ls 3 [(0, .ref (x_ad w 1 t))] := hl
  have hc := hI.1 t
  have loop : ∀ (d n : Nat), x_cnt w t - 1 = n + d → ∀ (ls : Array Slot) (H : Heap) (locs : List Loc), cx_Wo D dA b0 w H → va_S (cd_A b0) s.heap H locs → lv_has ls 3 [(2, .int (nI (n + 1))), (1, .int (f_ch_r (x_val w t) n)), (0, .ref (x_ad w 1 t))] → W p l e { frames := 0, cells := 0, slots := 0, locals := 0 } s m ([.ref (x_ad w 1 t)] : List Value).toArray below meth c H locs 0 0 (MQ below (cd_Q D b0 (cx_R dA (some (.int (f_Tray_changes w t))) w)) ([.ref (x_ad w 1 t)] : List Value).toArray s 0 0 (cd_A b0)) (F0 m 4 ls []) := by
    intro d
    induction d with
    | zero =>
      intro n hn ls H locs hW hS hl
      have hn : x_cnt w t - 1 = n := hn
      refine lv_iload_n hx hb d_Tray_changes_4 rfl (lv_at hl 0 rfl) ?_
      refine lv_aload_n hx hb d_Tray_changes_5 rfl (lv_at hl 2 rfl) ?_
      refine cd_get (ci := 1) (C := R_Tray) (T := F_Tray) (N := 3) (v := .int (nI (x_cnt w t))) hx hb hA i_Tray hown hK hW 1 t h_t rfl rfl 2 (by decide) mw_0 rfl rfl d_Tray_changes_6 ?_
      refine lv_icmp_ge (tgt := 38) hx hb d_Tray_changes_9 (by decide) (fun c_1 => ?_) (fun c_1 => ?_)
      · skip
        refine lv_iload_n hx hb d_Tray_changes_38 rfl (lv_at hl 1 rfl) ?_
        have hf : f_Tray_changes w t = (f_ch_r (x_val w t) n) := by
          rw [f_Tray_changes, hn]
        exact cd_iret hx hb hr hlocks hW hS d_Tray_changes_39 ⟨by rw [hf], rfl, rfl, rfl⟩ (Nat.le_of_ble_eq_true rfl) (Nat.le_of_ble_eq_true rfl)
      · skip
        exact absurd (nI_le (by omega) (by omega)) c_1
    | succ d ih =>
      intro n hn ls H locs hW hS hl
      refine lv_iload_n hx hb d_Tray_changes_4 rfl (lv_at hl 0 rfl) ?_
      refine lv_aload_n hx hb d_Tray_changes_5 rfl (lv_at hl 2 rfl) ?_
      refine cd_get (ci := 1) (C := R_Tray) (T := F_Tray) (N := 3) (v := .int (nI (x_cnt w t))) hx hb hA i_Tray hown hK hW 1 t h_t rfl rfl 2 (by decide) mw_0 rfl rfl d_Tray_changes_6 ?_
      refine lv_icmp_ge (tgt := 38) hx hb d_Tray_changes_9 (by decide) (fun c_2 => ?_) (fun c_2 => ?_)
      · skip
        exact absurd c_2 (nI_ge (by omega) (by omega))
      · skip
        refine lv_aload_n hx hb d_Tray_changes_12 rfl (lv_at hl 2 rfl) ?_
        refine cd_get (ci := 1) (C := R_Tray) (T := F_Tray) (N := 3) (v := .ref (x_ad w 2 t)) hx hb hA i_Tray hown hK hW 1 t h_t rfl rfl 1 (by decide) mw_1 rfl rfl d_Tray_changes_13 ?_
        refine lv_iload_n hx hb d_Tray_changes_16 rfl (lv_at hl 0 rfl) ?_
        refine cd_iald hx hb hK hW 2 t h_t 0 rfl rfl (vp_in_nI (show n + 1 < 200 by omega) (by decide)) d_Tray_changes_17 ?_
        rw [nI_clamp (show n + 1 < 2 ^ 31 by omega)]
        refine lv_aload_n hx hb d_Tray_changes_18 rfl (lv_at hl 2 rfl) ?_
        refine cd_get (ci := 1) (C := R_Tray) (T := F_Tray) (N := 3) (v := .ref (x_ad w 2 t)) hx hb hA i_Tray hown hK hW 1 t h_t rfl rfl 1 (by decide) mw_1 rfl rfl d_Tray_changes_19 ?_
        refine lv_iload_n hx hb d_Tray_changes_22 rfl (lv_at hl 0 rfl) ?_
        refine lv_iconst (v := 1) hx hb d_Tray_changes_23 (by decide) ?_
        refine lv_isub hx hb d_Tray_changes_24 ?_
        refine cd_iald hx hb hK hW 2 t h_t 0 rfl rfl (by rw [nI_pred]; exact vp_in_nI (show n < 200 by omega) (by decide)) d_Tray_changes_25 ?_
        rw [nI_pred, nI_clamp (show n < 2 ^ 31 by omega)]
        refine lv_icmp_eq (tgt := 32) hx hb d_Tray_changes_26 (by decide) (fun c_3 => ?_) (fun c_3 => ?_)
        · skip
          have hch : f_ch_r (x_val w t) n = f_ch_r (x_val w t) (n + 1) := by simp only [f_ch_r, if_pos c_3]
          refine lv_iinc (v := (nI (n + 1 + 1))) (lv' := [(2, .int (nI (n + 1 + 1))), (1, .int (f_ch_r (x_val w t) n)), (0, .ref (x_ad w 1 t))]) hx hb d_Tray_changes_32 hl (k := 0) rfl (by rw [show Int32.ofInt 1 = 1 by decide]; exact nI_1 _) (by decide) rfl (fun ls hl => ?_)
          refine lv_goto (tgt := 4) hx hb d_Tray_changes_35 (by decide) ?_
          exact ih (n + 1) (by omega) ls _ _ hW hS (lv_sub hl [0, 1, 2] (by simp only [lv_pick, List.filterMap_cons, List.filterMap_nil, List.getElem?_cons_zero, List.getElem?_cons_succ, hch]))
        · skip
          have hch : f_ch_r (x_val w t) n + 1 = f_ch_r (x_val w t) (n + 1) := by simp only [f_ch_r, if_neg c_3]
          refine lv_iinc (v := ((f_ch_r (x_val w t) n) + 1)) (lv' := [(1, .int ((f_ch_r (x_val w t) n) + 1)), (2, .int (nI (n + 1))), (0, .ref (x_ad w 1 t))]) hx hb d_Tray_changes_29 hl (k := 1) rfl (by first | rfl | decide) (by decide) rfl (fun ls hl => ?_)
          refine lv_iinc (v := (nI (n + 1 + 1))) (lv' := [(2, .int (nI (n + 1 + 1))), (1, .int ((f_ch_r (x_val w t) n) + 1)), (0, .ref (x_ad w 1 t))]) hx hb d_Tray_changes_32 hl (k := 1) rfl (by rw [show Int32.ofInt 1 = 1 by decide]; exact nI_1 _) (by decide) rfl (fun ls hl => ?_)
          refine lv_goto (tgt := 4) hx hb d_Tray_changes_35 (by decide) ?_
          exact ih (n + 1) (by omega) ls _ _ hW hS (lv_sub hl [0, 1, 2] (by simp only [lv_pick, List.filterMap_cons, List.filterMap_nil, List.getElem?_cons_zero, List.getElem?_cons_succ, hch]))
  refine lv_iconst (v := 0) hx hb d_Tray_changes_0 (by decide) ?_
  refine lv_istore_n (lv' := [(1, .int 0), (0, .ref (x_ad w 1 t))]) hx hb d_Tray_changes_1 rfl hl (by decide) rfl (fun ls hl => ?_)
  refine lv_iconst (v := 1) hx hb d_Tray_changes_2 (by decide) ?_
  refine lv_istore_n (lv' := [(2, .int 1), (1, .int 0), (0, .ref (x_ad w 1 t))]) hx hb d_Tray_changes_3 rfl hl (by decide) rfl (fun ls hl => ?_)
  exact loop (x_cnt w t - 1) 0 (by omega) ls _ _ hW hS (lv_sub hl [0, 1, 2] rfl)
end
section
def f_Thing_isInUse (w : cx_W) (j : Nat) : Int32 := if (x_us w j) ≤ 0 then 0 else 1
set_option maxHeartbeats 4000000 in
set_option maxRecDepth 100000 in
theorem c_Thing_isInUse (l : Launch) (D : va_G) (dA : Nat → ClassId) (b0 : Nat) (w : cx_W) (j : Nat) (h_j : x_al w j) : cd_Ct l D (cx_tys dA) b0 y_Thing_isInUse (.code y_Thing_isInUse b_Thing_isInUse 1 (some .boolean) :: cd_WA) { frames := 0, cells := 0, slots := 0, locals := 0 } [.ref (x_ad w 8 j)] (cx_dm w) (x_ad w) (cx_ce dA w) (cx_R dA (some (.int (f_Thing_isInUse w j))) w) 0 0 := by
  refine cd_Ct.of b_Thing_isInUse 1 (some .boolean) (by decide) rfl ?_
  intro p e s m below meth c hx hb hr hml hown hlocks hnm hA hE hb0 hW hS ls hl
  have hK := hE.1
  have hl : lv_has ls 1 [(0, .ref (x_ad w 8 j))] := hl
  refine lv_aload_n hx hb d_Thing_isInUse_0 rfl (lv_at hl 0 rfl) ?_
  refine cd_get (ci := 3) (C := R_Thing) (T := F_Thing) (N := 5) (v := .int (x_us w j)) hx hb hA i_Thing hown hK hW 8 j h_j rfl rfl 3 (by decide) mw_6 rfl rfl d_Thing_isInUse_1 ?_
  refine lv_if_le (tgt := 11) hx hb d_Thing_isInUse_4 (by decide) (fun c_1 => ?_) (fun c_1 => ?_)
  · skip
    refine lv_iconst (v := 0) hx hb d_Thing_isInUse_11 (by decide) ?_
    have hf : f_Thing_isInUse w j = 0 := by
      simp only [f_Thing_isInUse, if_pos c_1]
    exact cd_zret hx hb hr hlocks hW hS d_Thing_isInUse_12 (by decide) ⟨by rw [hf], rfl, rfl, rfl⟩ (Nat.le_of_ble_eq_true rfl) (Nat.le_of_ble_eq_true rfl)
  · skip
    refine lv_iconst (v := 1) hx hb d_Thing_isInUse_7 (by decide) ?_
    refine lv_goto (tgt := 12) hx hb d_Thing_isInUse_8 (by decide) ?_
    have hf : f_Thing_isInUse w j = 1 := by
      simp only [f_Thing_isInUse, if_neg c_1]
    exact cd_zret hx hb hr hlocks hW hS d_Thing_isInUse_12 (by decide) ⟨by rw [hf], rfl, rfl, rfl⟩ (Nat.le_of_ble_eq_true rfl) (Nat.le_of_ble_eq_true rfl)

def f_Thing_stateOfSource (w : cx_W) (j : Nat) : Int64 := cd_oc (x_src w j) 0 (fun j_2 => (x_st w j_2))
set_option maxHeartbeats 4000000 in
set_option maxRecDepth 100000 in
theorem c_Thing_stateOfSource (l : Launch) (D : va_G) (dA : Nat → ClassId) (b0 : Nat) (w : cx_W) (j : Nat) (h_j : x_al w j) (hI : cx_Iv w) : cd_Ct l D (cx_tys dA) b0 y_Thing_stateOfSource (.code y_Thing_stateOfSource b_Thing_stateOfSource 1 (some .long) :: cd_WA) { frames := 0, cells := 0, slots := 0, locals := 0 } [.ref (x_ad w 8 j)] (cx_dm w) (x_ad w) (cx_ce dA w) (cx_R dA (some (.long (f_Thing_stateOfSource w j))) w) 0 0 := by
  refine cd_Ct.of b_Thing_stateOfSource 1 (some .long) (by decide) rfl ?_
  intro p e s m below meth c hx hb hr hml hown hlocks hnm hA hE hb0 hW hS ls hl
  have hK := hE.1
  have hl : lv_has ls 1 [(0, .ref (x_ad w 8 j))] := hl
  refine lv_aload_n hx hb d_Thing_stateOfSource_0 rfl (lv_at hl 0 rfl) ?_
  refine cd_get (ci := 3) (C := R_Thing) (T := F_Thing) (N := 5) (v := va_rf ((x_src w j).map (x_ad w 8))) hx hb hA i_Thing hown hK hW 8 j h_j rfl rfl 0 (by decide) mw_7 rfl rfl d_Thing_stateOfSource_1 ?_
  rcases ho_1 : (x_src w j) with _ | j_2
  · skip
    refine lv_ifnonnullN hx hb d_Thing_stateOfSource_4 ?_
    refine lv_lconst (v := 0) hx hb d_Thing_stateOfSource_7 (by decide) ?_
    refine lv_goto (tgt := 18) hx hb d_Thing_stateOfSource_8 (by decide) ?_
    have hf : f_Thing_stateOfSource w j = 0 := by
      simp only [f_Thing_stateOfSource, cd_oc_n ho_1]
    exact cd_lret hx hb hr hlocks hW hS d_Thing_stateOfSource_18 ⟨by rw [hf], rfl, rfl, rfl⟩ (Nat.le_of_ble_eq_true rfl) (Nat.le_of_ble_eq_true rfl)
  · skip
    have h_j_2 : x_al w j_2 := hI.2.2.2 _ _ h_j ho_1
    refine lv_ifnonnull (tgt := 11) hx hb d_Thing_stateOfSource_4 (by decide) ?_
    refine lv_aload_n hx hb d_Thing_stateOfSource_11 rfl (lv_at hl 0 rfl) ?_
    refine cd_get (ci := 3) (C := R_Thing) (T := F_Thing) (N := 5) (v := .ref (x_ad w 8 j_2)) hx hb hA i_Thing hown hK hW 8 j h_j rfl rfl 0 (by decide) mw_7 rfl (by show some (va_rf ((x_src w j).map (x_ad w 8))) = _; rw [ho_1]; rfl) d_Thing_stateOfSource_12 ?_
    refine cd_get (ci := 3) (C := R_Thing) (T := F_Thing) (N := 5) (v := .long (x_st w j_2)) hx hb hA i_Thing hown hK hW 8 j_2 h_j_2 rfl rfl 1 (by decide) mw_8 rfl rfl d_Thing_stateOfSource_15 ?_
    have hf : f_Thing_stateOfSource w j = (x_st w j_2) := by
      simp only [f_Thing_stateOfSource, cd_oc_s ho_1]
    exact cd_lret hx hb hr hlocks hW hS d_Thing_stateOfSource_18 ⟨by rw [hf], rfl, rfl, rfl⟩ (Nat.le_of_ble_eq_true rfl) (Nat.le_of_ble_eq_true rfl)

def f_lus (us : Nat → Int32) (o : Option Nat) : Nat → Int32 := cd_oc o us (fun j => va_up us j (us j - 1))
def f_Thing_leave (w : cx_W) (j : Nat) : cx_W := ((w.1.1, w.1.2.1, w.1.2.2.1, w.1.2.2.2.1, w.1.2.2.2.2.1, w.1.2.2.2.2.2.1, w.1.2.2.2.2.2.2.1, w.1.2.2.2.2.2.2.2.1, w.1.2.2.2.2.2.2.2.2.1, f_lus (x_us w) (x_src w j), va_up (x_th w) j 0, w.1.2.2.2.2.2.2.2.2.2.2.2), w.2)
set_option maxHeartbeats 4000000 in
set_option maxRecDepth 100000 in
theorem c_Thing_leave (l : Launch) (D : va_G) (dA : Nat → ClassId) (b0 : Nat) (w : cx_W) (j : Nat) (h_j : x_al w j) (hI : cx_Iv w) : cd_Ct l D (cx_tys dA) b0 y_Thing_leave (.code y_Thing_leave b_Thing_leave 1 none :: cd_WA) { frames := 0, cells := 0, slots := 0, locals := 0 } [.ref (x_ad w 8 j)] (cx_dm w) (x_ad w) (cx_ce dA w) (cx_R dA none (f_Thing_leave w j)) 0 0 := by
  refine cd_Ct.of b_Thing_leave 1 none (by decide) rfl ?_
  intro p e s m below meth c hx hb hr hml hown hlocks hnm hA hE hb0 hW hS ls hl
  have hK := hE.1
  have hl : lv_has ls 1 [(0, .ref (x_ad w 8 j))] := hl
  refine lv_aload_n hx hb d_Thing_leave_0 rfl (lv_at hl 0 rfl) ?_
  refine lv_iconst (v := 0) hx hb d_Thing_leave_1 (by decide) ?_
  refine cd_put (ci := 3) (C := R_Thing) (T := F_Thing) (N := 5) (v := .int 0) hx hb hA i_Thing t_Thing t_Thing_ok n_Thing hown hK hW hS 8 j h_j rfl rfl 4 (by decide) mw_9 rfl rfl rfl rfl (Nat.le_of_ble_eq_true rfl) d_Thing_leave_2 (cx_ce dA (u_th w j 0)) (nw_th ..) (kp_th dA w j 0) (fun H locs hW hS => ?_)
  have hW : cx_Wo D dA b0 (u_th w j 0) H := to_th hW
  refine lv_aload_n hx hb d_Thing_leave_5 rfl (lv_at hl 0 rfl) ?_
  refine cd_get (ci := 3) (C := R_Thing) (T := F_Thing) (N := 5) (v := va_rf ((x_src w j).map (x_ad w 8))) hx hb hA i_Thing hown hK hW 8 j h_j rfl rfl 0 (by decide) mw_7 rfl rfl d_Thing_leave_6 ?_
  rcases ho_1 : (x_src w j) with _ | j_2
  · skip
    refine lv_ifnullN (tgt := 25) hx hb d_Thing_leave_9 (by decide) ?_
    have hf : f_Thing_leave w j = (u_th w j 0) := by
      simp only [f_Thing_leave, cd_oc_n ho_1, f_lus]
    exact cd_vret hx hb hr hlocks hW hS d_Thing_leave_25 ⟨rfl, by rw [hf], by rw [hf], by rw [hf]⟩ (Nat.le_of_ble_eq_true rfl) (Nat.le_of_ble_eq_true rfl)
  · skip
    have h_j_2 : x_al w j_2 := hI.2.2.2 _ _ h_j ho_1
    refine lv_ifnull hx hb d_Thing_leave_9 ?_
    refine lv_aload_n hx hb d_Thing_leave_12 rfl (lv_at hl 0 rfl) ?_
    refine cd_get (ci := 3) (C := R_Thing) (T := F_Thing) (N := 5) (v := .ref (x_ad w 8 j_2)) hx hb hA i_Thing hown hK hW 8 j h_j rfl rfl 0 (by decide) mw_7 rfl (by show some (va_rf ((x_src w j).map (x_ad w 8))) = _; rw [ho_1]; rfl) d_Thing_leave_13 ?_
    refine lv_dup hx hb d_Thing_leave_16 rfl ?_
    refine cd_get (ci := 3) (C := R_Thing) (T := F_Thing) (N := 5) (v := .int (x_us w j_2)) hx hb hA i_Thing hown hK hW 8 j_2 h_j_2 rfl rfl 3 (by decide) mw_6 rfl rfl d_Thing_leave_17 ?_
    refine lv_iconst (v := 1) hx hb d_Thing_leave_20 (by decide) ?_
    refine lv_isub hx hb d_Thing_leave_21 ?_
    refine cd_put (ci := 3) (C := R_Thing) (T := F_Thing) (N := 5) (v := .int ((x_us w j_2) - 1)) hx hb hA i_Thing t_Thing t_Thing_ok n_Thing hown hK hW hS 8 j_2 h_j_2 rfl rfl 3 (by decide) mw_6 rfl rfl rfl rfl (Nat.le_of_ble_eq_true rfl) d_Thing_leave_22 (cx_ce dA (u_us (u_th w j 0) j_2 ((x_us w j_2) - 1))) (nw_us ..) (kp_us dA (u_th w j 0) j_2 ((x_us w j_2) - 1)) (fun H locs hW hS => ?_)
    have hW : cx_Wo D dA b0 (u_us (u_th w j 0) j_2 ((x_us w j_2) - 1)) H := to_us hW
    have hf : f_Thing_leave w j = (u_us (u_th w j 0) j_2 ((x_us w j_2) - 1)) := by
      simp only [f_Thing_leave, cd_oc_s ho_1, f_lus]
    exact cd_vret hx hb hr hlocks hW hS d_Thing_leave_25 ⟨rfl, by rw [hf], by rw [hf], by rw [hf]⟩ (Nat.le_of_ble_eq_true rfl) (Nat.le_of_ble_eq_true rfl)

def f_Thing_comparedWith (w : cx_W) (j : Nat) (o : Option Nat) : Int32 := cd_oc o 0 (fun j_2 => if (x_st w j_2) ≤ (x_st w j) then (if (x_st w j) = (x_st w j_2) then 1 else 2) else 0)
set_option maxHeartbeats 4000000 in
set_option maxRecDepth 100000 in
theorem c_Thing_comparedWith (l : Launch) (D : va_G) (dA : Nat → ClassId) (b0 : Nat) (w : cx_W) (j : Nat) (o : Option Nat) (h_j : x_al w j) (h_o : ∀ j, o = some j → x_al w j) : cd_Ct l D (cx_tys dA) b0 y_Thing_comparedWith (.code y_Thing_comparedWith b_Thing_comparedWith 2 (some .int) :: cd_WA) { frames := 0, cells := 0, slots := 0, locals := 0 } [.ref (x_ad w 8 j), va_rf (o.map (x_ad w 8))] (cx_dm w) (x_ad w) (cx_ce dA w) (cx_R dA (some (.int (f_Thing_comparedWith w j o))) w) 0 0 := by
  refine cd_Ct.of b_Thing_comparedWith 2 (some .int) (by decide) (by cases o <;> rfl) ?_
  intro p e s m below meth c hx hb hr hml hown hlocks hnm hA hE hb0 hW hS ls hl
  have hK := hE.1
  obtain ⟨o', eo⟩ : ∃ z, o = z := ⟨_, rfl⟩
  have hl : lv_has ls 2 [(0, .ref (x_ad w 8 j)), (1, va_rf (o'.map (x_ad w 8)))] := by
    rw [← eo]
    cases o <;> exact hl
  rcases ho_1 : o' with _ | j_2
  · skip
    rw [ho_1] at hl
    have ho_1 : o = none := eo.trans ho_1
    refine lv_aload_nN hx hb d_Thing_comparedWith_0 rfl (lv_at hl 1 rfl) ?_
    refine lv_ifnullN (tgt := 16) hx hb d_Thing_comparedWith_1 (by decide) ?_
    refine lv_iconst (v := 0) hx hb d_Thing_comparedWith_16 (by decide) ?_
    have hf : f_Thing_comparedWith w j o = 0 := by
      simp only [f_Thing_comparedWith, cd_oc_n ho_1]
    exact cd_iret hx hb hr hlocks hW hS d_Thing_comparedWith_17 ⟨by rw [hf], rfl, rfl, rfl⟩ (Nat.le_of_ble_eq_true rfl) (Nat.le_of_ble_eq_true rfl)
  · skip
    rw [ho_1] at hl
    have ho_1 : o = some j_2 := eo.trans ho_1
    have h_j_2 : x_al w j_2 := h_o _ ho_1
    refine lv_aload_n hx hb d_Thing_comparedWith_0 rfl (lv_at hl 1 rfl) ?_
    refine lv_ifnull hx hb d_Thing_comparedWith_1 ?_
    refine lv_aload_n hx hb d_Thing_comparedWith_4 rfl (lv_at hl 0 rfl) ?_
    refine cd_get (ci := 3) (C := R_Thing) (T := F_Thing) (N := 5) (v := .long (x_st w j)) hx hb hA i_Thing hown hK hW 8 j h_j rfl rfl 1 (by decide) mw_8 rfl rfl d_Thing_comparedWith_5 ?_
    refine lv_aload_n hx hb d_Thing_comparedWith_8 rfl (lv_at hl 1 rfl) ?_
    refine cd_get (ci := 3) (C := R_Thing) (T := F_Thing) (N := 5) (v := .long (x_st w j_2)) hx hb hA i_Thing hown hK hW 8 j_2 h_j_2 rfl rfl 1 (by decide) mw_8 rfl rfl d_Thing_comparedWith_9 ?_
    refine cd_lc_ge (tgt := 18) hx hb d_Thing_comparedWith_12 d_Thing_comparedWith_13 (by decide) (fun c_3 => ?_) (fun c_3 => ?_)
    · skip
      refine lv_aload_n hx hb d_Thing_comparedWith_18 rfl (lv_at hl 0 rfl) ?_
      refine cd_get (ci := 3) (C := R_Thing) (T := F_Thing) (N := 5) (v := .long (x_st w j)) hx hb hA i_Thing hown hK hW 8 j h_j rfl rfl 1 (by decide) mw_8 rfl rfl d_Thing_comparedWith_19 ?_
      refine lv_aload_n hx hb d_Thing_comparedWith_22 rfl (lv_at hl 1 rfl) ?_
      refine cd_get (ci := 3) (C := R_Thing) (T := F_Thing) (N := 5) (v := .long (x_st w j_2)) hx hb hA i_Thing hown hK hW 8 j_2 h_j_2 rfl rfl 1 (by decide) mw_8 rfl rfl d_Thing_comparedWith_23 ?_
      refine cd_lc_ne (tgt := 34) hx hb d_Thing_comparedWith_26 d_Thing_comparedWith_27 (by decide) (fun c_4 => ?_) (fun c_4 => ?_)
      · skip
        refine lv_iconst (v := 2) hx hb d_Thing_comparedWith_34 (by decide) ?_
        have hf : f_Thing_comparedWith w j o = 2 := by
          simp only [f_Thing_comparedWith, cd_oc_s ho_1, if_pos c_3, if_neg c_4]
        exact cd_iret hx hb hr hlocks hW hS d_Thing_comparedWith_35 ⟨by rw [hf], rfl, rfl, rfl⟩ (Nat.le_of_ble_eq_true rfl) (Nat.le_of_ble_eq_true rfl)
      · skip
        refine lv_iconst (v := 1) hx hb d_Thing_comparedWith_30 (by decide) ?_
        refine lv_goto (tgt := 35) hx hb d_Thing_comparedWith_31 (by decide) ?_
        have hf : f_Thing_comparedWith w j o = 1 := by
          simp only [f_Thing_comparedWith, cd_oc_s ho_1, if_pos c_3, if_pos c_4]
        exact cd_iret hx hb hr hlocks hW hS d_Thing_comparedWith_35 ⟨by rw [hf], rfl, rfl, rfl⟩ (Nat.le_of_ble_eq_true rfl) (Nat.le_of_ble_eq_true rfl)
    · skip
      refine lv_iconst (v := 0) hx hb d_Thing_comparedWith_16 (by decide) ?_
      have hf : f_Thing_comparedWith w j o = 0 := by
        simp only [f_Thing_comparedWith, cd_oc_s ho_1, if_neg c_3]
      exact cd_iret hx hb hr hlocks hW hS d_Thing_comparedWith_17 ⟨by rw [hf], rfl, rfl, rfl⟩ (Nat.le_of_ble_eq_true rfl) (Nat.le_of_ble_eq_true rfl)

def f_ius (us : Nat → Int32) (o : Option Nat) : Nat → Int32 := cd_oc o us (fun q => va_up us q (us q + 1))
def f_Thing_init (w : cx_W) (j : Nat) (v : Int64) (o : Option Nat) : cx_W := ((w.1.1, w.1.2.1, w.1.2.2.1, w.1.2.2.2.1, w.1.2.2.2.2.1, w.1.2.2.2.2.2.1, w.1.2.2.2.2.2.2.1, va_up (x_st w) j v, va_up (x_tu w) j 0, f_ius (va_up (x_us w) j 0) o, va_up (x_th w) j 1, va_up (x_src w) j o, w.1.2.2.2.2.2.2.2.2.2.2.2.2), w.2)
set_option maxHeartbeats 4000000 in
set_option maxRecDepth 100000 in
theorem c_Thing_init (l : Launch) (D : va_G) (dA : Nat → ClassId) (b0 : Nat) (w : cx_W) (j : Nat) (v : Int64) (o : Option Nat) (h_j : x_al w j) (h_o : ∀ j, o = some j → x_al w j) : cd_Ct l D (cx_tys dA) b0 y_Thing_init (.code y_Thing_init b_Thing_init 4 none :: cd_WA) { frames := 1, cells := 0, slots := 0, locals := 12 } [.ref (x_ad w 8 j), .long v, va_rf (o.map (x_ad w 8))] (cx_dm w) (x_ad w) (cx_ce dA w) (cx_R dA none (f_Thing_init w j v o)) 0 0 := by
  refine cd_Ct.of b_Thing_init 4 none (by decide) (by cases o <;> rfl) ?_
  intro p e s m below meth c hx hb hr hml hown hlocks hnm hA hE hb0 hW hS ls hl
  have hK := hE.1
  obtain ⟨o', eo⟩ : ∃ z, o = z := ⟨_, rfl⟩
  have hl : lv_has ls 4 [(0, .ref (x_ad w 8 j)), (1, .long v), (3, va_rf (o'.map (x_ad w 8)))] := by
    rw [← eo]
    cases o <;> exact hl
  refine lv_aload_n hx hb d_Thing_init_0 rfl (lv_at hl 0 rfl) ?_
  refine cd_objI hx hb hown (hA _ mw_17) (hA _ mw_18) (hA _ mw_19) (by rw [hml]; exact hl.1) d_Thing_init_1 (Nat.le_of_ble_eq_true rfl) (Nat.le_of_ble_eq_true rfl) ?_
  refine lv_aload_n hx hb d_Thing_init_4 rfl (lv_at hl 0 rfl) ?_
  refine lv_iconst (v := 0) hx hb d_Thing_init_5 (by decide) ?_
  refine cd_put (ci := 3) (C := R_Thing) (T := F_Thing) (N := 5) (v := .int 0) hx hb hA i_Thing t_Thing t_Thing_ok n_Thing hown hK hW hS 8 j h_j rfl rfl 2 (by decide) mw_20 rfl rfl rfl rfl (Nat.le_of_ble_eq_true rfl) d_Thing_init_6 (cx_ce dA (u_thing w j (x_st w j) 0 (x_us w j) (x_th w j) (x_src w j))) (nw_thing ..) (kp_thing dA w j _ _ _ _ _) (fun H locs hW hS => ?_)
  have hW : cx_Wo D dA b0 (u_thing w j (x_st w j) 0 (x_us w j) (x_th w j) (x_src w j)) H := to_thing hW
  refine lv_aload_n hx hb d_Thing_init_9 rfl (lv_at hl 0 rfl) ?_
  refine lv_iconst (v := 0) hx hb d_Thing_init_10 (by decide) ?_
  refine cd_put (ci := 3) (C := R_Thing) (T := F_Thing) (N := 5) (v := .int 0) hx hb hA i_Thing t_Thing t_Thing_ok n_Thing hown hK hW hS 8 j (al_thing h_j) (nw_thing ..) rfl 3 (by decide) mw_6 rfl rfl rfl rfl (Nat.le_of_ble_eq_true rfl) d_Thing_init_11 (cx_ce dA (u_thing w j (x_st w j) 0 0 (x_th w j) (x_src w j))) (nw_thing ..) (kp_thing2 dA w j _ _ _ _ _ _ _ _ _ _) (fun H locs hW hS => ?_)
  have hW : cx_Wo D dA b0 (u_thing w j (x_st w j) 0 0 (x_th w j) (x_src w j)) H := to_thing2 hW
  refine lv_aload_n hx hb d_Thing_init_14 rfl (lv_at hl 0 rfl) ?_
  refine lv_iconst (v := 1) hx hb d_Thing_init_15 (by decide) ?_
  refine cd_put (ci := 3) (C := R_Thing) (T := F_Thing) (N := 5) (v := .int 1) hx hb hA i_Thing t_Thing t_Thing_ok n_Thing hown hK hW hS 8 j (al_thing h_j) (nw_thing ..) rfl 4 (by decide) mw_9 rfl rfl rfl rfl (Nat.le_of_ble_eq_true rfl) d_Thing_init_16 (cx_ce dA (u_thing w j (x_st w j) 0 0 1 (x_src w j))) (nw_thing ..) (kp_thing2 dA w j _ _ _ _ _ _ _ _ _ _) (fun H locs hW hS => ?_)
  have hW : cx_Wo D dA b0 (u_thing w j (x_st w j) 0 0 1 (x_src w j)) H := to_thing2 hW
  refine lv_aload_n hx hb d_Thing_init_19 rfl (lv_at hl 0 rfl) ?_
  refine lv_lload_n hx hb d_Thing_init_20 rfl (lv_at hl 1 rfl) ?_
  refine cd_put (ci := 3) (C := R_Thing) (T := F_Thing) (N := 5) (v := .long v) hx hb hA i_Thing t_Thing t_Thing_ok n_Thing hown hK hW hS 8 j (al_thing h_j) (nw_thing ..) rfl 1 (by decide) mw_8 rfl rfl rfl rfl (Nat.le_of_ble_eq_true rfl) d_Thing_init_21 (cx_ce dA (u_thing w j v 0 0 1 (x_src w j))) (nw_thing ..) (kp_thing2 dA w j _ _ _ _ _ _ _ _ _ _) (fun H locs hW hS => ?_)
  have hW : cx_Wo D dA b0 (u_thing w j v 0 0 1 (x_src w j)) H := to_thing2 hW
  refine lv_aload_n hx hb d_Thing_init_24 rfl (lv_at hl 0 rfl) ?_
  rcases ho_1 : o' with _ | j_2
  · skip
    rw [ho_1] at hl
    have ho_1 : o = none := eo.trans ho_1
    refine lv_aload_nN hx hb d_Thing_init_25 rfl (lv_at hl 2 rfl) ?_
    refine cd_putF (ci := 3) (C := R_Thing) (T := F_Thing) (N := 5) (v := .null) hx hb hA i_Thing t_Thing t_Thing_ok n_Thing hown hK hW hS 8 j (al_thing h_j) (nw_thing ..) rfl 0 (by decide) mw_7 rfl rfl hnm rfl rfl rfl (Nat.le_of_ble_eq_true rfl) d_Thing_init_26 (cx_ce dA (u_thing w j v 0 0 1 none)) (nw_thing ..) (kp_thing2 dA w j _ _ _ _ _ _ _ _ _ _) (fun H locs hW hS => ?_)
    have hW : cx_Wo D dA b0 (u_thing w j v 0 0 1 none) H := to_thing2 hW
    refine lv_aload_nN hx hb d_Thing_init_29 rfl (lv_at hl 2 rfl) ?_
    refine lv_ifnullN (tgt := 43) hx hb d_Thing_init_30 (by decide) ?_
    have hf : f_Thing_init w j v o = (u_thing w j v 0 0 1 none) := by
      rw [ho_1]; rfl
    exact cd_vret hx hb hr hlocks hW hS d_Thing_init_43 ⟨rfl, by rw [hf], by rw [hf], by rw [hf]⟩ (Nat.le_of_ble_eq_true rfl) (Nat.le_of_ble_eq_true rfl)
  · skip
    rw [ho_1] at hl
    have ho_1 : o = some j_2 := eo.trans ho_1
    have h_j_2 : x_al w j_2 := h_o _ ho_1
    refine lv_aload_n hx hb d_Thing_init_25 rfl (lv_at hl 2 rfl) ?_
    refine cd_putF (ci := 3) (C := R_Thing) (T := F_Thing) (N := 5) (v := .ref (x_ad w 8 j_2)) hx hb hA i_Thing t_Thing t_Thing_ok n_Thing hown hK hW hS 8 j (al_thing h_j) (nw_thing ..) rfl 0 (by decide) mw_7 rfl rfl hnm rfl rfl rfl (Nat.le_of_ble_eq_true rfl) d_Thing_init_26 (cx_ce dA (u_thing w j v 0 0 1 (some j_2))) (nw_thing ..) (kp_thing2 dA w j _ _ _ _ _ _ _ _ _ _) (fun H locs hW hS => ?_)
    have hW : cx_Wo D dA b0 (u_thing w j v 0 0 1 (some j_2)) H := to_thing2 hW
    refine lv_aload_n hx hb d_Thing_init_29 rfl (lv_at hl 2 rfl) ?_
    refine lv_ifnull hx hb d_Thing_init_30 ?_
    refine lv_aload_n hx hb d_Thing_init_33 rfl (lv_at hl 2 rfl) ?_
    refine lv_dup hx hb d_Thing_init_34 rfl ?_
    refine cd_get (ci := 3) (C := R_Thing) (T := F_Thing) (N := 5) (v := .int (x_us (u_thing w j v 0 0 1 (some j_2)) j_2)) hx hb hA i_Thing hown hK hW 8 j_2 h_j_2 rfl rfl 3 (by decide) mw_6 rfl rfl d_Thing_init_35 ?_
    refine lv_iconst (v := 1) hx hb d_Thing_init_38 (by decide) ?_
    refine lv_iadd hx hb d_Thing_init_39 ?_
    refine cd_put (ci := 3) (C := R_Thing) (T := F_Thing) (N := 5) (v := .int ((x_us (u_thing w j v 0 0 1 (some j_2)) j_2) + 1)) hx hb hA i_Thing t_Thing t_Thing_ok n_Thing hown hK hW hS 8 j_2 h_j_2 rfl rfl 3 (by decide) mw_6 rfl rfl rfl rfl (Nat.le_of_ble_eq_true rfl) d_Thing_init_40 (cx_ce dA (u_us (u_thing w j v 0 0 1 (some j_2)) j_2 (x_us (u_thing w j v 0 0 1 (some j_2)) j_2 + 1))) (nw_us ..) (kp_us dA (u_thing w j v 0 0 1 (some j_2)) j_2 _) (fun H locs hW hS => ?_)
    have hW : cx_Wo D dA b0 (u_us (u_thing w j v 0 0 1 (some j_2)) j_2 (x_us (u_thing w j v 0 0 1 (some j_2)) j_2 + 1)) H := to_us hW
    have hf : f_Thing_init w j v o = (u_us (u_thing w j v 0 0 1 (some j_2)) j_2 (x_us (u_thing w j v 0 0 1 (some j_2)) j_2 + 1)) := by
      rw [ho_1]; rfl
    exact cd_vret hx hb hr hlocks hW hS d_Thing_init_43 ⟨rfl, by rw [hf], by rw [hf], by rw [hf]⟩ (Nat.le_of_ble_eq_true rfl) (Nat.le_of_ble_eq_true rfl)
end
section
def f_Shelf_isFull (w : cx_W) (k : Nat) : Int32 := if (nI (x_made w k)) < 20 then 0 else 1
set_option maxHeartbeats 4000000 in
set_option maxRecDepth 100000 in
theorem c_Shelf_isFull (l : Launch) (D : va_G) (dA : Nat → ClassId) (b0 : Nat) (w : cx_W) (k : Nat) (h_k : k < 6) : cd_Ct l D (cx_tys dA) b0 y_Shelf_isFull (.code y_Shelf_isFull b_Shelf_isFull 1 (some .boolean) :: cd_WA) { frames := 0, cells := 0, slots := 0, locals := 0 } [.ref (x_ad w 4 k)] (cx_dm w) (x_ad w) (cx_ce dA w) (cx_R dA (some (.int (f_Shelf_isFull w k))) w) 0 0 := by
  refine cd_Ct.of b_Shelf_isFull 1 (some .boolean) (by decide) rfl ?_
  intro p e s m below meth c hx hb hr hml hown hlocks hnm hA hE hb0 hW hS ls hl
  have hK := hE.1
  have hl : lv_has ls 1 [(0, .ref (x_ad w 4 k))] := hl
  refine lv_aload_n hx hb d_Shelf_isFull_0 rfl (lv_at hl 0 rfl) ?_
  refine cd_get (ci := 2) (C := R_Shelf) (T := F_Shelf) (N := 2) (v := .int (nI (x_made w k))) hx hb hA i_Shelf hown hK hW 4 k h_k rfl rfl 1 (by decide) mw_10 rfl rfl d_Shelf_isFull_1 ?_
  refine lv_bipush (v := 20) hx hb d_Shelf_isFull_4 (by decide) ?_
  refine lv_icmp_lt (tgt := 13) hx hb d_Shelf_isFull_6 (by decide) (fun c_1 => ?_) (fun c_1 => ?_)
  · skip
    refine lv_iconst (v := 0) hx hb d_Shelf_isFull_13 (by decide) ?_
    have hf : f_Shelf_isFull w k = 0 := by
      simp only [f_Shelf_isFull, if_pos c_1]
    exact cd_zret hx hb hr hlocks hW hS d_Shelf_isFull_14 (by decide) ⟨by rw [hf], rfl, rfl, rfl⟩ (Nat.le_of_ble_eq_true rfl) (Nat.le_of_ble_eq_true rfl)
  · skip
    refine lv_iconst (v := 1) hx hb d_Shelf_isFull_9 (by decide) ?_
    refine lv_goto (tgt := 14) hx hb d_Shelf_isFull_10 (by decide) ?_
    have hf : f_Shelf_isFull w k = 1 := by
      simp only [f_Shelf_isFull, if_neg c_1]
    exact cd_zret hx hb hr hlocks hW hS d_Shelf_isFull_14 (by decide) ⟨by rw [hf], rfl, rfl, rfl⟩ (Nat.le_of_ble_eq_true rfl) (Nat.le_of_ble_eq_true rfl)

def f_Shelf_put (w : cx_W) (k : Nat) (q : Nat) : cx_W := u_made (u_arr w k (x_made w k) (some q)) k (x_made w k + 1)
set_option maxHeartbeats 4000000 in
set_option maxRecDepth 100000 in
theorem c_Shelf_put (l : Launch) (D : va_G) (dA : Nat → ClassId) (b0 : Nat) (w : cx_W) (k : Nat) (q : Nat) (h_k : k < 6) (h_q : x_al w q) (hc : x_made w k < 20) : cd_Ct l D (cx_tys dA) b0 y_Shelf_put (.code y_Shelf_put b_Shelf_put 2 none :: cd_WA) { frames := 0, cells := 0, slots := 0, locals := 0 } [.ref (x_ad w 4 k), .ref (x_ad w 8 q)] (cx_dm w) (x_ad w) (cx_ce dA w) (cx_R dA none (f_Shelf_put w k q)) 0 0 := by
  refine cd_Ct.of b_Shelf_put 2 none (by decide) rfl ?_
  intro p e s m below meth c hx hb hr hml hown hlocks hnm hA hE hb0 hW hS ls hl
  have hK := hE.1
  have hl : lv_has ls 2 [(0, .ref (x_ad w 4 k)), (1, .ref (x_ad w 8 q))] := hl
  refine lv_aload_n hx hb d_Shelf_put_0 rfl (lv_at hl 0 rfl) ?_
  refine cd_get (ci := 2) (C := R_Shelf) (T := F_Shelf) (N := 2) (v := .int (nI (x_made w k))) hx hb hA i_Shelf hown hK hW 4 k h_k rfl rfl 1 (by decide) mw_10 rfl rfl d_Shelf_put_1 ?_
  refine lv_if_lt (tgt := 36) hx hb d_Shelf_put_4 (by decide) (fun c_1 => ?_) (fun c_1 => ?_)
  · skip
    exact absurd c_1 (nI_pos (by omega))
  · skip
    refine lv_aload_n hx hb d_Shelf_put_7 rfl (lv_at hl 0 rfl) ?_
    refine cd_get (ci := 2) (C := R_Shelf) (T := F_Shelf) (N := 2) (v := .int (nI (x_made w k))) hx hb hA i_Shelf hown hK hW 4 k h_k rfl rfl 1 (by decide) mw_10 rfl rfl d_Shelf_put_8 ?_
    refine lv_bipush (v := 20) hx hb d_Shelf_put_11 (by decide) ?_
    refine lv_icmp_ge (tgt := 36) hx hb d_Shelf_put_13 (by decide) (fun c_2 => ?_) (fun c_2 => ?_)
    · skip
      exact absurd c_2 (nI_ge (b := 20) hc (by decide))
    · skip
      refine lv_aload_n hx hb d_Shelf_put_16 rfl (lv_at hl 0 rfl) ?_
      refine cd_get (ci := 2) (C := R_Shelf) (T := F_Shelf) (N := 2) (v := .ref (x_ad w 5 k)) hx hb hA i_Shelf hown hK hW 4 k h_k rfl rfl 0 (by decide) mw_11 rfl rfl d_Shelf_put_17 ?_
      refine lv_aload_n hx hb d_Shelf_put_20 rfl (lv_at hl 0 rfl) ?_
      refine cd_get (ci := 2) (C := R_Shelf) (T := F_Shelf) (N := 2) (v := .int (nI (x_made w k))) hx hb hA i_Shelf hown hK hW 4 k h_k rfl rfl 1 (by decide) mw_10 rfl rfl d_Shelf_put_21 ?_
      refine lv_aload_n hx hb d_Shelf_put_24 rfl (lv_at hl 1 rfl) ?_
      refine cd_aast hx hb hK hW hS 5 k h_k 3 8 q h_q 3 rfl rfl rfl rfl (vp_in_nI hc (by decide)) d_Shelf_put_25 (cx_ce dA (u_arr w k (x_made w k) (some q))) (by rw [nw_arr, nI_clamp (by omega)]) (kp_arr dA w k (x_made w k) (some q)) (fun H locs hW hS => ?_)
      have hW : cx_Wo D dA b0 (u_arr w k (x_made w k) (some q)) H := to_arr hW
      refine lv_aload_n hx hb d_Shelf_put_26 rfl (lv_at hl 0 rfl) ?_
      refine lv_dup hx hb d_Shelf_put_27 rfl ?_
      refine cd_get (ci := 2) (C := R_Shelf) (T := F_Shelf) (N := 2) (v := .int (nI (x_made w k))) hx hb hA i_Shelf hown hK hW 4 k h_k rfl rfl 1 (by decide) mw_10 rfl rfl d_Shelf_put_28 ?_
      refine lv_iconst (v := 1) hx hb d_Shelf_put_31 (by decide) ?_
      refine lv_iadd hx hb d_Shelf_put_32 ?_
      refine cd_put (ci := 2) (C := R_Shelf) (T := F_Shelf) (N := 2) (v := .int ((nI (x_made w k)) + 1)) hx hb hA i_Shelf t_Shelf t_Shelf_ok n_Shelf hown hK hW hS 4 k h_k rfl rfl 1 (by decide) mw_10 rfl rfl rfl rfl (Nat.le_of_ble_eq_true rfl) d_Shelf_put_33 (cx_ce dA (u_made (u_arr w k (x_made w k) (some q)) k (x_made w k + 1))) (by rw [nw_made, nI_succ]; rfl) (kp_made dA (u_arr w k (x_made w k) (some q)) k (x_made w k + 1)) (fun H locs hW hS => ?_)
      have hW : cx_Wo D dA b0 (u_made (u_arr w k (x_made w k) (some q)) k (x_made w k + 1)) H := to_made hW
      have hf : f_Shelf_put w k q = (u_made (u_arr w k (x_made w k) (some q)) k (x_made w k + 1)) := by
        rfl
      exact cd_vret hx hb hr hlocks hW hS d_Shelf_put_36 ⟨rfl, by rw [hf], by rw [hf], by rw [hf]⟩ (Nat.le_of_ble_eq_true rfl) (Nat.le_of_ble_eq_true rfl)

def f_Shelf_at (w : cx_W) (k : Nat) (i : Int32) : Option Nat := if i < 0 then none else if i < 20 then (cd_oc (x_arr w k i.toNatClampNeg) none (fun j_4 => if (x_th w j_4) = 0 then none else some j_4)) else none
set_option maxHeartbeats 4000000 in
set_option maxRecDepth 100000 in
theorem c_Shelf_at (l : Launch) (D : va_G) (dA : Nat → ClassId) (b0 : Nat) (w : cx_W) (k : Nat) (i : Int32) (h_k : k < 6) (hI : cx_Iv w) : cd_Ct l D (cx_tys dA) b0 y_Shelf_at (.code y_Shelf_at b_Shelf_at 3 (some (.object "CarDesk$Thing")) :: cd_WA) { frames := 0, cells := 0, slots := 0, locals := 0 } [.ref (x_ad w 4 k), .int i] (cx_dm w) (x_ad w) (cx_ce dA w) (cx_R dA (some (va_rf ((f_Shelf_at w k i).map (x_ad w 8)))) w) 0 0 := by
  refine cd_Ct.of b_Shelf_at 3 (some (.object "CarDesk$Thing")) (by decide) rfl ?_
  intro p e s m below meth c hx hb hr hml hown hlocks hnm hA hE hb0 hW hS ls hl
  have hK := hE.1
  have hl : lv_has ls 3 [(0, .ref (x_ad w 4 k)), (1, .int i)] := hl
  refine lv_iload_n hx hb d_Shelf_at_0 rfl (lv_at hl 1 rfl) ?_
  refine lv_if_lt (tgt := 10) hx hb d_Shelf_at_1 (by decide) (fun c_1 => ?_) (fun c_1 => ?_)
  · skip
    refine lv_null hx hb d_Shelf_at_10 ?_
    have hf : f_Shelf_at w k i = none := by
      simp only [f_Shelf_at, if_pos c_1]
    exact cd_aret hx hb hr hlocks hW hS (Or.inl rfl) d_Shelf_at_11 ⟨by rw [hf]; rfl, rfl, rfl, rfl⟩ (Nat.le_of_ble_eq_true rfl) (Nat.le_of_ble_eq_true rfl)
  · skip
    refine lv_iload_n hx hb d_Shelf_at_4 rfl (lv_at hl 1 rfl) ?_
    refine lv_bipush (v := 20) hx hb d_Shelf_at_5 (by decide) ?_
    refine lv_icmp_lt (tgt := 12) hx hb d_Shelf_at_7 (by decide) (fun c_2 => ?_) (fun c_2 => ?_)
    · skip
      refine lv_aload_n hx hb d_Shelf_at_12 rfl (lv_at hl 0 rfl) ?_
      refine cd_get (ci := 2) (C := R_Shelf) (T := F_Shelf) (N := 2) (v := .ref (x_ad w 5 k)) hx hb hA i_Shelf hown hK hW 4 k h_k rfl rfl 0 (by decide) mw_11 rfl rfl d_Shelf_at_13 ?_
      refine lv_iload_n hx hb d_Shelf_at_16 rfl (lv_at hl 1 rfl) ?_
      refine cd_aald hx hb hK hW 5 k h_k 3 rfl rfl (cd_in2 20 (by decide) c_1 c_2) d_Shelf_at_17 ?_
      rcases ho_3 : (x_arr w k i.toNatClampNeg) with _ | j_4
      · skip
        refine lv_astore_nN (lv' := [(2, .null), (0, .ref (x_ad w 4 k)), (1, .int i)]) hx hb d_Shelf_at_18 rfl hl (by decide) rfl (fun ls hl => ?_)
        refine lv_aload_nN hx hb d_Shelf_at_19 rfl (lv_at hl 0 rfl) ?_
        refine lv_ifnullN (tgt := 34) hx hb d_Shelf_at_20 (by decide) ?_
        refine lv_null hx hb d_Shelf_at_34 ?_
        have hf : f_Shelf_at w k i = none := by
          simp only [f_Shelf_at, if_neg c_1, if_pos c_2, cd_oc_n ho_3]
        exact cd_aret hx hb hr hlocks hW hS (Or.inl rfl) d_Shelf_at_35 ⟨by rw [hf]; rfl, rfl, rfl, rfl⟩ (Nat.le_of_ble_eq_true rfl) (Nat.le_of_ble_eq_true rfl)
      · skip
        have h_j_4 : x_al w j_4 := hI.2.2.1 _ _ _ ho_3
        refine lv_astore_n (lv' := [(2, .ref (x_ad w 8 j_4)), (0, .ref (x_ad w 4 k)), (1, .int i)]) hx hb d_Shelf_at_18 rfl hl (by decide) rfl (fun ls hl => ?_)
        refine lv_aload_n hx hb d_Shelf_at_19 rfl (lv_at hl 0 rfl) ?_
        refine lv_ifnull hx hb d_Shelf_at_20 ?_
        refine lv_aload_n hx hb d_Shelf_at_23 rfl (lv_at hl 0 rfl) ?_
        refine cd_getN (ci := 3) (C := R_Thing) (T := F_Thing) (N := 5) (v := .int (x_th w j_4)) hx hb hA i_Thing hown hE hW 8 j_4 h_j_4 rfl rfl 4 (by decide) nn_0 rfl rfl d_Shelf_at_24 ?_
        refine lv_if_eq (tgt := 34) hx hb d_Shelf_at_27 (by decide) (fun c_5 => ?_) (fun c_5 => ?_)
        · skip
          refine lv_null hx hb d_Shelf_at_34 ?_
          have hf : f_Shelf_at w k i = none := by
            simp only [f_Shelf_at, if_neg c_1, if_pos c_2, cd_oc_s ho_3, if_pos c_5]
          exact cd_aret hx hb hr hlocks hW hS (Or.inl rfl) d_Shelf_at_35 ⟨by rw [hf]; rfl, rfl, rfl, rfl⟩ (Nat.le_of_ble_eq_true rfl) (Nat.le_of_ble_eq_true rfl)
        · skip
          refine lv_aload_n hx hb d_Shelf_at_30 rfl (lv_at hl 0 rfl) ?_
          refine lv_goto (tgt := 35) hx hb d_Shelf_at_31 (by decide) ?_
          have hf : f_Shelf_at w k i = some j_4 := by
            simp only [f_Shelf_at, if_neg c_1, if_pos c_2, cd_oc_s ho_3, if_neg c_5]
          exact cd_aret hx hb hr hlocks hW hS (Or.inr ⟨_, rfl⟩) d_Shelf_at_35 ⟨by rw [hf]; rfl, rfl, rfl, rfl⟩ (Nat.le_of_ble_eq_true rfl) (Nat.le_of_ble_eq_true rfl)
    · skip
      refine lv_null hx hb d_Shelf_at_10 ?_
      have hf : f_Shelf_at w k i = none := by
        simp only [f_Shelf_at, if_neg c_1, if_neg c_2]
      exact cd_aret hx hb hr hlocks hW hS (Or.inl rfl) d_Shelf_at_11 ⟨by rw [hf]; rfl, rfl, rfl, rfl⟩ (Nat.le_of_ble_eq_true rfl) (Nat.le_of_ble_eq_true rfl)
theorem al_Shelf_at {w : cx_W} (hI : cx_Iv w) {k : Nat} {i : Int32} {j : Nat} (h : f_Shelf_at w k i = some j) : x_al w j := by
  unfold f_Shelf_at at h
  split at h
  · cases h
  · split at h
    · cases ho : x_arr w k i.toNatClampNeg with
      | none => rw [cd_oc_n ho] at h; cases h
      | some q =>
        rw [cd_oc_s ho] at h
        split at h
        · cases h
        · cases h
          exact hI.2.2.1 _ _ _ ho
    · cases h

def f_ct_r (w : cx_W) (k : Nat) : Nat → Int32
  | 0 => 0
  | n + 1 => cd_oc (f_Shelf_at w k (nI n)) (f_ct_r w k n) (fun _ => f_ct_r w k n + 1)
def f_Shelf_countThere (w : cx_W) (k : Nat) : Int32 := f_ct_r w k 20
set_option maxHeartbeats 4000000 in
set_option maxRecDepth 100000 in
theorem c_Shelf_countThere (l : Launch) (D : va_G) (dA : Nat → ClassId) (b0 : Nat) (w : cx_W) (k : Nat) (h_k : k < 6) (hI : cx_Iv w) : cd_Ct l D (cx_tys dA) b0 y_Shelf_countThere (.code y_Shelf_countThere b_Shelf_countThere 3 (some .int) :: cd_WA) { frames := 1, cells := 0, slots := 0, locals := 22 } [.ref (x_ad w 4 k)] (cx_dm w) (x_ad w) (cx_ce dA w) (cx_R dA (some (.int (f_Shelf_countThere w k))) w) 0 0 := by
  refine cd_Ct.of b_Shelf_countThere 3 (some .int) (by decide) rfl ?_
  intro p e s m below meth c hx hb hr hml hown hlocks hnm hA hE hb0 hW hS ls hl
  have hK := hE.1
  have hl : lv_has ls 3 [(0, .ref (x_ad w 4 k))] := hl
  have loop : ∀ (d n : Nat), 20 = n + d → ∀ (ls : Array Slot) (H : Heap) (locs : List Loc), cx_Wo D dA b0 w H → va_S (cd_A b0) s.heap H locs → lv_has ls 3 [(2, .int (nI n)), (1, .int (f_ct_r w k n)), (0, .ref (x_ad w 4 k))] → W p l e { frames := 1, cells := 0, slots := 0, locals := 22 } s m ([.ref (x_ad w 4 k)] : List Value).toArray below meth c H locs 0 0 (MQ below (cd_Q D b0 (cx_R dA (some (.int (f_Shelf_countThere w k))) w)) ([.ref (x_ad w 4 k)] : List Value).toArray s 0 0 (cd_A b0)) (F0 m 4 ls []) := by
    intro d
    induction d with
    | zero =>
      intro n hn ls H locs hW hS hl
      have hn : 20 = n := hn
      refine lv_iload_n hx hb d_Shelf_countThere_4 rfl (lv_at hl 0 rfl) ?_
      refine lv_bipush (v := 20) hx hb d_Shelf_countThere_5 (by decide) ?_
      refine lv_icmp_ge (tgt := 27) hx hb d_Shelf_countThere_7 (by decide) (fun c_1 => ?_) (fun c_1 => ?_)
      · skip
        refine lv_iload_n hx hb d_Shelf_countThere_27 rfl (lv_at hl 1 rfl) ?_
        have hf : f_Shelf_countThere w k = (f_ct_r w k n) := by
          rw [f_Shelf_countThere, hn]
        exact cd_iret hx hb hr hlocks hW hS d_Shelf_countThere_28 ⟨by rw [hf], rfl, rfl, rfl⟩ (Nat.le_of_ble_eq_true rfl) (Nat.le_of_ble_eq_true rfl)
      · skip
        exact absurd (by rw [← hn]; decide) c_1
    | succ d ih =>
      intro n hn ls H locs hW hS hl
      refine lv_iload_n hx hb d_Shelf_countThere_4 rfl (lv_at hl 0 rfl) ?_
      refine lv_bipush (v := 20) hx hb d_Shelf_countThere_5 (by decide) ?_
      refine lv_icmp_ge (tgt := 27) hx hb d_Shelf_countThere_7 (by decide) (fun c_2 => ?_) (fun c_2 => ?_)
      · skip
        exact absurd c_2 (nI_ge (b := 20) (by omega) (by decide))
      · skip
        refine lv_aload_n hx hb d_Shelf_countThere_10 rfl (lv_at hl 2 rfl) ?_
        refine lv_iload_n hx hb d_Shelf_countThere_11 rfl (lv_at hl 0 rfl) ?_
        refine cx_cV (w0 := w) (x0 := va_rf ((f_Shelf_at w k (nI n)).map (x_ad w 8))) (rest := []) (n := 1) ⟨hx, hb, hml, hown, hA⟩ (cd_GA mw_12) hE hb0 hW hS 4 k h_k rfl rfl (c_Shelf_at l D dA b0 w k (nI n) h_k hI) mw_16 mw_14 mw_15 mw_13 (by decide +kernel) rfl rfl ⟨by decide, by decide⟩ rfl hl.1 rfl (Nat.le_of_ble_eq_true rfl) d_Shelf_countThere_12 ⟨by decide, by decide⟩ (fun H locs hW hS => ?_)
        rcases ho_3 : (f_Shelf_at w k (nI n)) with _ | j_4
        · skip
          refine lv_ifnullN (tgt := 21) hx hb d_Shelf_countThere_15 (by decide) ?_
          refine lv_iinc (v := (nI (n + 1))) (lv' := [(2, .int (nI (n + 1))), (1, .int (f_ct_r w k n)), (0, .ref (x_ad w 4 k))]) hx hb d_Shelf_countThere_21 hl (k := 0) rfl (by rw [show Int32.ofInt 1 = 1 by decide]; exact nI_1 _) (by decide) rfl (fun ls hl => ?_)
          refine lv_goto (tgt := 4) hx hb d_Shelf_countThere_24 (by decide) ?_
          exact ih (n + 1) (by omega) ls _ _ hW hS (lv_sub hl [0, 1, 2] (by simp only [lv_pick, List.filterMap_cons, List.filterMap_nil, List.getElem?_cons_zero, List.getElem?_cons_succ, f_ct_r, cd_oc_n ho_3]))
        · skip
          have h_j_4 : x_al w j_4 := al_Shelf_at hI ho_3
          refine lv_ifnull hx hb d_Shelf_countThere_15 ?_
          refine lv_iinc (v := ((f_ct_r w k n) + 1)) (lv' := [(1, .int ((f_ct_r w k n) + 1)), (2, .int (nI n)), (0, .ref (x_ad w 4 k))]) hx hb d_Shelf_countThere_18 hl (k := 1) rfl (by first | rfl | decide) (by decide) rfl (fun ls hl => ?_)
          refine lv_iinc (v := (nI (n + 1))) (lv' := [(2, .int (nI (n + 1))), (1, .int ((f_ct_r w k n) + 1)), (0, .ref (x_ad w 4 k))]) hx hb d_Shelf_countThere_21 hl (k := 1) rfl (by rw [show Int32.ofInt 1 = 1 by decide]; exact nI_1 _) (by decide) rfl (fun ls hl => ?_)
          refine lv_goto (tgt := 4) hx hb d_Shelf_countThere_24 (by decide) ?_
          exact ih (n + 1) (by omega) ls _ _ hW hS (lv_sub hl [0, 1, 2] (by simp only [lv_pick, List.filterMap_cons, List.filterMap_nil, List.getElem?_cons_zero, List.getElem?_cons_succ, f_ct_r, cd_oc_s ho_3]))
  refine lv_iconst (v := 0) hx hb d_Shelf_countThere_0 (by decide) ?_
  refine lv_istore_n (lv' := [(1, .int 0), (0, .ref (x_ad w 4 k))]) hx hb d_Shelf_countThere_1 rfl hl (by decide) rfl (fun ls hl => ?_)
  refine lv_iconst (v := 0) hx hb d_Shelf_countThere_2 (by decide) ?_
  refine lv_istore_n (lv' := [(2, .int 0), (1, .int 0), (0, .ref (x_ad w 4 k))]) hx hb d_Shelf_countThere_3 rfl hl (by decide) rfl (fun ls hl => ?_)
  exact loop 20 0 rfl ls _ _ hW hS (lv_sub hl [0, 1, 2] rfl)

def f_sm_r (w : cx_W) (k : Nat) : Nat → Int64
  | 0 => 0
  | n + 1 => cd_oc (f_Shelf_at w k (nI n)) (f_sm_r w k n) (fun j => f_sm_r w k n + x_st w j)
def f_Shelf_sumOfStates (w : cx_W) (k : Nat) : Int64 := f_sm_r w k 20
set_option maxHeartbeats 4000000 in
set_option maxRecDepth 100000 in
theorem c_Shelf_sumOfStates (l : Launch) (D : va_G) (dA : Nat → ClassId) (b0 : Nat) (w : cx_W) (k : Nat) (h_k : k < 6) (hI : cx_Iv w) : cd_Ct l D (cx_tys dA) b0 y_Shelf_sumOfStates (.code y_Shelf_sumOfStates b_Shelf_sumOfStates 5 (some .long) :: cd_WA) { frames := 1, cells := 0, slots := 0, locals := 22 } [.ref (x_ad w 4 k)] (cx_dm w) (x_ad w) (cx_ce dA w) (cx_R dA (some (.long (f_Shelf_sumOfStates w k))) w) 0 0 := by
  refine cd_Ct.of b_Shelf_sumOfStates 5 (some .long) (by decide) rfl ?_
  intro p e s m below meth c hx hb hr hml hown hlocks hnm hA hE hb0 hW hS ls hl
  have hK := hE.1
  have hl : lv_has ls 5 [(0, .ref (x_ad w 4 k))] := hl
  have loop : ∀ (d n : Nat), 20 = n + d → ∀ (ls : Array Slot) (H : Heap) (locs : List Loc), cx_Wo D dA b0 w H → va_S (cd_A b0) s.heap H locs → lv_has ls 5 [(3, .int (nI n)), (1, .long (f_sm_r w k n)), (0, .ref (x_ad w 4 k))] → W p l e { frames := 1, cells := 0, slots := 0, locals := 22 } s m ([.ref (x_ad w 4 k)] : List Value).toArray below meth c H locs 0 0 (MQ below (cd_Q D b0 (cx_R dA (some (.long (f_Shelf_sumOfStates w k))) w)) ([.ref (x_ad w 4 k)] : List Value).toArray s 0 0 (cd_A b0)) (F0 m 4 ls []) := by
    intro d
    induction d with
    | zero =>
      intro n hn ls H locs hW hS hl
      have hn : 20 = n := hn
      refine lv_iload_n hx hb d_Shelf_sumOfStates_4 rfl (lv_at hl 0 rfl) ?_
      refine lv_bipush (v := 20) hx hb d_Shelf_sumOfStates_5 (by decide) ?_
      refine lv_icmp_ge (tgt := 36) hx hb d_Shelf_sumOfStates_7 (by decide) (fun c_1 => ?_) (fun c_1 => ?_)
      · skip
        refine lv_lload_n hx hb d_Shelf_sumOfStates_36 rfl (lv_at hl 1 rfl) ?_
        have hf : f_Shelf_sumOfStates w k = (f_sm_r w k n) := by
          rw [f_Shelf_sumOfStates, hn]
        exact cd_lret hx hb hr hlocks hW hS d_Shelf_sumOfStates_37 ⟨by rw [hf], rfl, rfl, rfl⟩ (Nat.le_of_ble_eq_true rfl) (Nat.le_of_ble_eq_true rfl)
      · skip
        exact absurd (by rw [← hn]; decide) c_1
    | succ d ih =>
      intro n hn ls H locs hW hS hl
      refine lv_iload_n hx hb d_Shelf_sumOfStates_4 rfl (lv_at hl 0 rfl) ?_
      refine lv_bipush (v := 20) hx hb d_Shelf_sumOfStates_5 (by decide) ?_
      refine lv_icmp_ge (tgt := 36) hx hb d_Shelf_sumOfStates_7 (by decide) (fun c_2 => ?_) (fun c_2 => ?_)
      · skip
        exact absurd c_2 (nI_ge (b := 20) (by omega) (by decide))
      · skip
        refine lv_aload_n hx hb d_Shelf_sumOfStates_10 rfl (lv_at hl 2 rfl) ?_
        refine lv_iload_n hx hb d_Shelf_sumOfStates_11 rfl (lv_at hl 0 rfl) ?_
        refine cx_cV (w0 := w) (x0 := va_rf ((f_Shelf_at w k (nI n)).map (x_ad w 8))) (rest := []) (n := 1) ⟨hx, hb, hml, hown, hA⟩ (cd_GA mw_12) hE hb0 hW hS 4 k h_k rfl rfl (c_Shelf_at l D dA b0 w k (nI n) h_k hI) mw_16 mw_14 mw_15 mw_13 (by decide +kernel) rfl rfl ⟨by decide, by decide⟩ rfl hl.1 rfl (Nat.le_of_ble_eq_true rfl) d_Shelf_sumOfStates_12 ⟨by decide, by decide⟩ (fun H locs hW hS => ?_)
        rcases ho_3 : (f_Shelf_at w k (nI n)) with _ | j_4
        · skip
          refine lv_astoreN (lv' := [(4, .null), (3, .int (nI n)), (1, .long (f_sm_r w k n)), (0, .ref (x_ad w 4 k))]) hx hb d_Shelf_sumOfStates_15 hl (by decide) rfl (fun ls hl => ?_)
          refine lv_aloadN hx hb d_Shelf_sumOfStates_17 (lv_at hl 0 rfl) ?_
          refine lv_ifnullN (tgt := 30) hx hb d_Shelf_sumOfStates_19 (by decide) ?_
          refine lv_iinc (v := (nI (n + 1))) (lv' := [(3, .int (nI (n + 1))), (4, .null), (1, .long (f_sm_r w k n)), (0, .ref (x_ad w 4 k))]) hx hb d_Shelf_sumOfStates_30 hl (k := 1) rfl (by rw [show Int32.ofInt 1 = 1 by decide]; exact nI_1 _) (by decide) rfl (fun ls hl => ?_)
          refine lv_goto (tgt := 4) hx hb d_Shelf_sumOfStates_33 (by decide) ?_
          exact ih (n + 1) (by omega) ls _ _ hW hS (lv_sub hl [0, 2, 3] (by simp only [lv_pick, List.filterMap_cons, List.filterMap_nil, List.getElem?_cons_zero, List.getElem?_cons_succ, f_sm_r, cd_oc_n ho_3]))
        · skip
          have h_j_4 : x_al w j_4 := al_Shelf_at hI ho_3
          refine lv_astore (lv' := [(4, .ref (x_ad w 8 j_4)), (3, .int (nI n)), (1, .long (f_sm_r w k n)), (0, .ref (x_ad w 4 k))]) hx hb d_Shelf_sumOfStates_15 hl (by decide) rfl (fun ls hl => ?_)
          refine lv_aload hx hb d_Shelf_sumOfStates_17 (lv_at hl 0 rfl) ?_
          refine lv_ifnull hx hb d_Shelf_sumOfStates_19 ?_
          refine lv_lload_n hx hb d_Shelf_sumOfStates_22 rfl (lv_at hl 2 rfl) ?_
          refine lv_aload hx hb d_Shelf_sumOfStates_23 (lv_at hl 0 rfl) ?_
          refine cd_getN (ci := 3) (C := R_Thing) (T := F_Thing) (N := 5) (v := .long (x_st w j_4)) hx hb hA i_Thing hown hE hW 8 j_4 h_j_4 rfl rfl 1 (by decide) nn_1 rfl rfl d_Shelf_sumOfStates_25 ?_
          refine lv_ladd hx hb d_Shelf_sumOfStates_28 ?_
          refine lv_lstore_n (lv' := [(1, .long ((f_sm_r w k n) + (x_st w j_4))), (4, .ref (x_ad w 8 j_4)), (3, .int (nI n)), (0, .ref (x_ad w 4 k))]) hx hb d_Shelf_sumOfStates_29 rfl hl (by decide) rfl (fun ls hl => ?_)
          refine lv_iinc (v := (nI (n + 1))) (lv' := [(3, .int (nI (n + 1))), (1, .long ((f_sm_r w k n) + (x_st w j_4))), (4, .ref (x_ad w 8 j_4)), (0, .ref (x_ad w 4 k))]) hx hb d_Shelf_sumOfStates_30 hl (k := 2) rfl (by rw [show Int32.ofInt 1 = 1 by decide]; exact nI_1 _) (by decide) rfl (fun ls hl => ?_)
          refine lv_goto (tgt := 4) hx hb d_Shelf_sumOfStates_33 (by decide) ?_
          exact ih (n + 1) (by omega) ls _ _ hW hS (lv_sub hl [0, 1, 3] (by simp only [lv_pick, List.filterMap_cons, List.filterMap_nil, List.getElem?_cons_zero, List.getElem?_cons_succ, f_sm_r, cd_oc_s ho_3]))
  refine lv_lconst (v := 0) hx hb d_Shelf_sumOfStates_0 (by decide) ?_
  refine lv_lstore_n (lv' := [(1, .long 0), (0, .ref (x_ad w 4 k))]) hx hb d_Shelf_sumOfStates_1 rfl hl (by decide) rfl (fun ls hl => ?_)
  refine lv_iconst (v := 0) hx hb d_Shelf_sumOfStates_2 (by decide) ?_
  refine lv_istore_n (lv' := [(3, .int 0), (1, .long 0), (0, .ref (x_ad w 4 k))]) hx hb d_Shelf_sumOfStates_3 rfl hl (by decide) rfl (fun ls hl => ?_)
  exact loop 20 0 rfl ls _ _ hW hS (lv_sub hl [0, 1, 2] rfl)

def f_nw_r (w : cx_W) (k : Nat) : Nat → Option Nat
  | 0 => none
  | n + 1 => cd_oc (f_Shelf_at w k (nI n)) (f_nw_r w k n) (fun j => some j)
def f_Shelf_newest (w : cx_W) (k : Nat) : Option Nat := f_nw_r w k 20
set_option maxHeartbeats 4000000 in
set_option maxRecDepth 100000 in
theorem c_Shelf_newest (l : Launch) (D : va_G) (dA : Nat → ClassId) (b0 : Nat) (w : cx_W) (k : Nat) (h_k : k < 6) (hI : cx_Iv w) : cd_Ct l D (cx_tys dA) b0 y_Shelf_newest (.code y_Shelf_newest b_Shelf_newest 3 (some (.object "CarDesk$Thing")) :: cd_WA) { frames := 1, cells := 0, slots := 0, locals := 22 } [.ref (x_ad w 4 k)] (cx_dm w) (x_ad w) (cx_ce dA w) (cx_R dA (some (va_rf ((f_Shelf_newest w k).map (x_ad w 8)))) w) 0 0 := by
  refine cd_Ct.of b_Shelf_newest 3 (some (.object "CarDesk$Thing")) (by decide) rfl ?_
  intro p e s m below meth c hx hb hr hml hown hlocks hnm hA hE hb0 hW hS ls hl
  have hK := hE.1
  have hl : lv_has ls 3 [(0, .ref (x_ad w 4 k))] := hl
  have loop : ∀ (n : Nat), n ≤ 20 → f_Shelf_newest w k = f_nw_r w k n → ∀ (x : Int32), x = nI n + (-1) → ∀ (ls : Array Slot) (H : Heap) (locs : List Loc), cx_Wo D dA b0 w H → va_S (cd_A b0) s.heap H locs → lv_has ls 3 [(1, .int x), (0, .ref (x_ad w 4 k))] → W p l e { frames := 1, cells := 0, slots := 0, locals := 22 } s m ([.ref (x_ad w 4 k)] : List Value).toArray below meth c H locs 0 0 (MQ below (cd_Q D b0 (cx_R dA (some (va_rf ((f_Shelf_newest w k).map (x_ad w 8)))) w)) ([.ref (x_ad w 4 k)] : List Value).toArray s 0 0 (cd_A b0)) (F0 m 3 ls []) := by
    intro n
    induction n with
    | zero =>
      intro hn hf0 x hx0 ls H locs hW hS hl
      have hx0 : x = -1 := by rw [hx0]; decide
      subst hx0
      refine lv_iload_n hx hb d_Shelf_newest_3 rfl (lv_at hl 0 rfl) ?_
      refine lv_if_lt (tgt := 25) hx hb d_Shelf_newest_4 (by decide) (fun c_1 => ?_) (fun c_1 => ?_)
      · skip
        refine lv_null hx hb d_Shelf_newest_25 ?_
        have hf : f_Shelf_newest w k = none := by
          rw [hf0]; rfl
        exact cd_aret hx hb hr hlocks hW hS (Or.inl rfl) d_Shelf_newest_26 ⟨by rw [hf]; rfl, rfl, rfl, rfl⟩ (Nat.le_of_ble_eq_true rfl) (Nat.le_of_ble_eq_true rfl)
      · skip
        exact absurd (by decide) c_1
    | succ n ih =>
      intro hn hf0 x hx0 ls H locs hW hS hl
      have hx0 : x = nI n := by rw [hx0]; exact pk_m1 n
      subst hx0
      refine lv_iload_n hx hb d_Shelf_newest_3 rfl (lv_at hl 0 rfl) ?_
      refine lv_if_lt (tgt := 25) hx hb d_Shelf_newest_4 (by decide) (fun c_2 => ?_) (fun c_2 => ?_)
      · skip
        exact absurd c_2 (nI_pos (by omega))
      · skip
        refine lv_aload_n hx hb d_Shelf_newest_7 rfl (lv_at hl 1 rfl) ?_
        refine lv_iload_n hx hb d_Shelf_newest_8 rfl (lv_at hl 0 rfl) ?_
        refine cx_cV (w0 := w) (x0 := va_rf ((f_Shelf_at w k (nI n)).map (x_ad w 8))) (rest := []) (n := 1) ⟨hx, hb, hml, hown, hA⟩ (cd_GA mw_12) hE hb0 hW hS 4 k h_k rfl rfl (c_Shelf_at l D dA b0 w k (nI n) h_k hI) mw_16 mw_14 mw_15 mw_13 (by decide +kernel) rfl rfl ⟨by decide, by decide⟩ rfl hl.1 rfl (Nat.le_of_ble_eq_true rfl) d_Shelf_newest_9 ⟨by decide, by decide⟩ (fun H locs hW hS => ?_)
        rcases ho_3 : (f_Shelf_at w k (nI n)) with _ | j_4
        · skip
          refine lv_astore_nN (lv' := [(2, .null), (1, .int (nI n)), (0, .ref (x_ad w 4 k))]) hx hb d_Shelf_newest_12 rfl hl (by decide) rfl (fun ls hl => ?_)
          refine lv_aload_nN hx hb d_Shelf_newest_13 rfl (lv_at hl 0 rfl) ?_
          refine lv_ifnullN (tgt := 19) hx hb d_Shelf_newest_14 (by decide) ?_
          refine lv_iinc (v := (nI n + (-1))) (lv' := [(1, .int (nI n + (-1))), (2, .null), (0, .ref (x_ad w 4 k))]) hx hb d_Shelf_newest_19 hl (k := 1) rfl (by rw [show Int32.ofInt (-1) = -1 by decide]) (by decide) rfl (fun ls hl => ?_)
          refine lv_goto (tgt := 3) hx hb d_Shelf_newest_22 (by decide) ?_
          exact ih (by omega) (by rw [hf0]; simp only [f_nw_r, cd_oc_n ho_3]) _ rfl ls _ _ hW hS (lv_sub hl [0, 2] rfl)
        · skip
          have h_j_4 : x_al w j_4 := al_Shelf_at hI ho_3
          refine lv_astore_n (lv' := [(2, .ref (x_ad w 8 j_4)), (1, .int (nI n)), (0, .ref (x_ad w 4 k))]) hx hb d_Shelf_newest_12 rfl hl (by decide) rfl (fun ls hl => ?_)
          refine lv_aload_n hx hb d_Shelf_newest_13 rfl (lv_at hl 0 rfl) ?_
          refine lv_ifnull hx hb d_Shelf_newest_14 ?_
          refine lv_aload_n hx hb d_Shelf_newest_17 rfl (lv_at hl 0 rfl) ?_
          have hf : f_Shelf_newest w k = some j_4 := by
            rw [hf0]; simp only [f_nw_r, cd_oc_s ho_3]
          exact cd_aret hx hb hr hlocks hW hS (Or.inr ⟨_, rfl⟩) d_Shelf_newest_18 ⟨by rw [hf]; rfl, rfl, rfl, rfl⟩ (Nat.le_of_ble_eq_true rfl) (Nat.le_of_ble_eq_true rfl)
  refine lv_bipush (v := 19) hx hb d_Shelf_newest_0 (by decide) ?_
  refine lv_istore_n (lv' := [(1, .int 19), (0, .ref (x_ad w 4 k))]) hx hb d_Shelf_newest_2 rfl hl (by decide) rfl (fun ls hl => ?_)
  exact loop 20 (Nat.le_refl _) rfl 19 (by decide) ls _ _ hW hS (lv_sub hl [0, 1] rfl)
theorem al_nw_r {w : cx_W} (hI : cx_Iv w) {k : Nat} {j : Nat} : ∀ n, f_nw_r w k n = some j → x_al w j
  | 0, h => by cases h
  | n + 1, h => by
    simp only [f_nw_r] at h
    cases ho : f_Shelf_at w k (nI n) with
    | none => rw [cd_oc_n ho] at h; exact al_nw_r hI n h
    | some q => rw [cd_oc_s ho] at h; cases h; exact al_Shelf_at hI ho
theorem al_Shelf_newest {w : cx_W} (hI : cx_Iv w) {k : Nat} {j : Nat} (h : f_Shelf_newest w k = some j) : x_al w j := al_nw_r hI 20 h
end
section
def f_CarDesk_refuse (w : cx_W) (r : Int32) : Int32 × cx_W := (r, (u_ctr w 0 ((x_ctr w 0) + 1)))
set_option maxHeartbeats 4000000 in
set_option maxRecDepth 100000 in
theorem c_CarDesk_refuse (l : Launch) (D : va_G) (dA : Nat → ClassId) (b0 : Nat) (w : cx_W) (r : Int32) : cd_Ct l D (cx_tys dA) b0 y_CarDesk_refuse (.code y_CarDesk_refuse b_CarDesk_refuse 2 (some .int) :: cd_WA) { frames := 0, cells := 0, slots := 0, locals := 0 } [.ref (x_ad w 0 0), .int r] (cx_dm w) (x_ad w) (cx_ce dA w) (cx_R dA (some (.int (f_CarDesk_refuse w r).1)) (f_CarDesk_refuse w r).2) 0 0 := by
  refine cd_Ct.of b_CarDesk_refuse 2 (some .int) (by decide) rfl ?_
  intro p e s m below meth c hx hb hr hml hown hlocks hnm hA hE hb0 hW hS ls hl
  have hK := hE.1
  have hl : lv_has ls 2 [(0, .ref (x_ad w 0 0)), (1, .int r)] := hl
  refine lv_aload_n hx hb d_CarDesk_refuse_0 rfl (lv_at hl 0 rfl) ?_
  refine lv_dup hx hb d_CarDesk_refuse_1 rfl ?_
  refine cd_get (ci := 0) (C := R_CarDesk) (T := F_CarDesk) (N := 14) (v := .int (x_ctr w 0)) hx hb hA i_CarDesk hown hK hW 0 0 rfl rfl rfl 6 (by decide) mw_21 rfl rfl d_CarDesk_refuse_2 ?_
  refine lv_iconst (v := 1) hx hb d_CarDesk_refuse_5 (by decide) ?_
  refine lv_iadd hx hb d_CarDesk_refuse_6 ?_
  refine cd_put (ci := 0) (C := R_CarDesk) (T := F_CarDesk) (N := 14) (v := .int ((x_ctr w 0) + 1)) hx hb hA i_CarDesk t_CarDesk t_CarDesk_ok n_CarDesk hown hK hW hS 0 0 rfl rfl rfl 6 (by decide) mw_21 rfl rfl rfl rfl (Nat.le_of_ble_eq_true rfl) d_CarDesk_refuse_7 (cx_ce dA (u_ctr w 0 ((x_ctr w 0) + 1))) rfl (kp_ctr dA w 0 ((x_ctr w 0) + 1)) (fun H locs hW hS => ?_)
  have hW : cx_Wo D dA b0 (u_ctr w 0 ((x_ctr w 0) + 1)) H := to_ctr hW
  refine lv_iload_n hx hb d_CarDesk_refuse_10 rfl (lv_at hl 1 rfl) ?_
  have hf : f_CarDesk_refuse w r = (r, (u_ctr w 0 ((x_ctr w 0) + 1))) := by
    rfl
  exact cd_iret hx hb hr hlocks hW hS d_CarDesk_refuse_11 ⟨by rw [hf], by rw [hf], by rw [hf], by rw [hf]⟩ (Nat.le_of_ble_eq_true rfl) (Nat.le_of_ble_eq_true rfl)

def f_CarDesk_tellFailed (w : cx_W) (f : Int32) (n : Int32) (u : Int32) : cx_W := (u_ctr (u_ctr (u_ctr (u_ctr w 1 ((x_ctr w 1) + 1)) 2 f) 3 n) 4 u)
set_option maxHeartbeats 4000000 in
set_option maxRecDepth 100000 in
theorem c_CarDesk_tellFailed (l : Launch) (D : va_G) (dA : Nat → ClassId) (b0 : Nat) (w : cx_W) (f : Int32) (n : Int32) (u : Int32) : cd_Ct l D (cx_tys dA) b0 y_CarDesk_tellFailed (.code y_CarDesk_tellFailed b_CarDesk_tellFailed 4 none :: cd_WA) { frames := 0, cells := 0, slots := 0, locals := 0 } [.ref (x_ad w 0 0), .int f, .int n, .int u] (cx_dm w) (x_ad w) (cx_ce dA w) (cx_R dA none (f_CarDesk_tellFailed w f n u)) 0 0 := by
  refine cd_Ct.of b_CarDesk_tellFailed 4 none (by decide) rfl ?_
  intro p e s m below meth c hx hb hr hml hown hlocks hnm hA hE hb0 hW hS ls hl
  have hK := hE.1
  have hl : lv_has ls 4 [(0, .ref (x_ad w 0 0)), (1, .int f), (2, .int n), (3, .int u)] := hl
  refine lv_aload_n hx hb d_CarDesk_tellFailed_0 rfl (lv_at hl 0 rfl) ?_
  refine lv_dup hx hb d_CarDesk_tellFailed_1 rfl ?_
  refine cd_get (ci := 0) (C := R_CarDesk) (T := F_CarDesk) (N := 14) (v := .int (x_ctr w 1)) hx hb hA i_CarDesk hown hK hW 0 0 rfl rfl rfl 7 (by decide) mw_22 rfl rfl d_CarDesk_tellFailed_2 ?_
  refine lv_iconst (v := 1) hx hb d_CarDesk_tellFailed_5 (by decide) ?_
  refine lv_iadd hx hb d_CarDesk_tellFailed_6 ?_
  refine cd_put (ci := 0) (C := R_CarDesk) (T := F_CarDesk) (N := 14) (v := .int ((x_ctr w 1) + 1)) hx hb hA i_CarDesk t_CarDesk t_CarDesk_ok n_CarDesk hown hK hW hS 0 0 rfl rfl rfl 7 (by decide) mw_22 rfl rfl rfl rfl (Nat.le_of_ble_eq_true rfl) d_CarDesk_tellFailed_7 (cx_ce dA (u_ctr w 1 ((x_ctr w 1) + 1))) rfl (kp_ctr dA w 1 ((x_ctr w 1) + 1)) (fun H locs hW hS => ?_)
  have hW : cx_Wo D dA b0 (u_ctr w 1 ((x_ctr w 1) + 1)) H := to_ctr hW
  refine lv_aload_n hx hb d_CarDesk_tellFailed_10 rfl (lv_at hl 0 rfl) ?_
  refine lv_iload_n hx hb d_CarDesk_tellFailed_11 rfl (lv_at hl 1 rfl) ?_
  refine cd_put (ci := 0) (C := R_CarDesk) (T := F_CarDesk) (N := 14) (v := .int f) hx hb hA i_CarDesk t_CarDesk t_CarDesk_ok n_CarDesk hown hK hW hS 0 0 rfl rfl rfl 8 (by decide) mw_23 rfl rfl rfl rfl (Nat.le_of_ble_eq_true rfl) d_CarDesk_tellFailed_12 (cx_ce dA (u_ctr (u_ctr w 1 ((x_ctr w 1) + 1)) 2 f)) rfl (kp_ctr dA (u_ctr w 1 ((x_ctr w 1) + 1)) 2 f) (fun H locs hW hS => ?_)
  have hW : cx_Wo D dA b0 (u_ctr (u_ctr w 1 ((x_ctr w 1) + 1)) 2 f) H := to_ctr hW
  refine lv_aload_n hx hb d_CarDesk_tellFailed_15 rfl (lv_at hl 0 rfl) ?_
  refine lv_iload_n hx hb d_CarDesk_tellFailed_16 rfl (lv_at hl 2 rfl) ?_
  refine cd_put (ci := 0) (C := R_CarDesk) (T := F_CarDesk) (N := 14) (v := .int n) hx hb hA i_CarDesk t_CarDesk t_CarDesk_ok n_CarDesk hown hK hW hS 0 0 rfl rfl rfl 9 (by decide) mw_24 rfl rfl rfl rfl (Nat.le_of_ble_eq_true rfl) d_CarDesk_tellFailed_17 (cx_ce dA (u_ctr (u_ctr (u_ctr w 1 ((x_ctr w 1) + 1)) 2 f) 3 n)) rfl (kp_ctr dA (u_ctr (u_ctr w 1 ((x_ctr w 1) + 1)) 2 f) 3 n) (fun H locs hW hS => ?_)
  have hW : cx_Wo D dA b0 (u_ctr (u_ctr (u_ctr w 1 ((x_ctr w 1) + 1)) 2 f) 3 n) H := to_ctr hW
  refine lv_aload_n hx hb d_CarDesk_tellFailed_20 rfl (lv_at hl 0 rfl) ?_
  refine lv_iload_n hx hb d_CarDesk_tellFailed_21 rfl (lv_at hl 3 rfl) ?_
  refine cd_put (ci := 0) (C := R_CarDesk) (T := F_CarDesk) (N := 14) (v := .int u) hx hb hA i_CarDesk t_CarDesk t_CarDesk_ok n_CarDesk hown hK hW hS 0 0 rfl rfl rfl 10 (by decide) mw_25 rfl rfl rfl rfl (Nat.le_of_ble_eq_true rfl) d_CarDesk_tellFailed_22 (cx_ce dA (u_ctr (u_ctr (u_ctr (u_ctr w 1 ((x_ctr w 1) + 1)) 2 f) 3 n) 4 u)) rfl (kp_ctr dA (u_ctr (u_ctr (u_ctr w 1 ((x_ctr w 1) + 1)) 2 f) 3 n) 4 u) (fun H locs hW hS => ?_)
  have hW : cx_Wo D dA b0 (u_ctr (u_ctr (u_ctr (u_ctr w 1 ((x_ctr w 1) + 1)) 2 f) 3 n) 4 u) H := to_ctr hW
  have hf : f_CarDesk_tellFailed w f n u = (u_ctr (u_ctr (u_ctr (u_ctr w 1 ((x_ctr w 1) + 1)) 2 f) 3 n) 4 u) := by
    rfl
  exact cd_vret hx hb hr hlocks hW hS d_CarDesk_tellFailed_25 ⟨rfl, by rw [hf], by rw [hf], by rw [hf]⟩ (Nat.le_of_ble_eq_true rfl) (Nat.le_of_ble_eq_true rfl)

def f_CarDesk_isKind (x : Int32) : Int32 := if x < 0 then 0 else if 6 ≤ x then 0 else 1
set_option maxHeartbeats 4000000 in
set_option maxRecDepth 100000 in
theorem c_CarDesk_isKind (l : Launch) (D : va_G) (dA : Nat → ClassId) (b0 : Nat) (w : cx_W) (x : Int32) : cd_Ct l D (cx_tys dA) b0 y_CarDesk_isKind (.code y_CarDesk_isKind b_CarDesk_isKind 1 (some .boolean) :: cd_WA) { frames := 0, cells := 0, slots := 0, locals := 0 } [.int x] (cx_dm w) (x_ad w) (cx_ce dA w) (cx_R dA (some (.int (f_CarDesk_isKind x))) w) 0 0 := by
  refine cd_Ct.of b_CarDesk_isKind 1 (some .boolean) (by decide) rfl ?_
  intro p e s m below meth c hx hb hr hml hown hlocks hnm hA hE hb0 hW hS ls hl
  have hK := hE.1
  have hl : lv_has ls 1 [(0, .int x)] := hl
  refine lv_iload_n hx hb d_CarDesk_isKind_0 rfl (lv_at hl 0 rfl) ?_
  refine lv_if_lt (tgt := 14) hx hb d_CarDesk_isKind_1 (by decide) (fun c_1 => ?_) (fun c_1 => ?_)
  · skip
    refine lv_iconst (v := 0) hx hb d_CarDesk_isKind_14 (by decide) ?_
    have hf : f_CarDesk_isKind x = 0 := by
      simp only [f_CarDesk_isKind, if_pos c_1]
    exact cd_zret hx hb hr hlocks hW hS d_CarDesk_isKind_15 (by decide) ⟨by rw [hf], rfl, rfl, rfl⟩ (Nat.le_of_ble_eq_true rfl) (Nat.le_of_ble_eq_true rfl)
  · skip
    refine lv_iload_n hx hb d_CarDesk_isKind_4 rfl (lv_at hl 0 rfl) ?_
    refine lv_bipush (v := 6) hx hb d_CarDesk_isKind_5 (by decide) ?_
    refine lv_icmp_ge (tgt := 14) hx hb d_CarDesk_isKind_7 (by decide) (fun c_2 => ?_) (fun c_2 => ?_)
    · skip
      refine lv_iconst (v := 0) hx hb d_CarDesk_isKind_14 (by decide) ?_
      have hf : f_CarDesk_isKind x = 0 := by
        simp only [f_CarDesk_isKind, if_neg c_1, if_pos c_2]
      exact cd_zret hx hb hr hlocks hW hS d_CarDesk_isKind_15 (by decide) ⟨by rw [hf], rfl, rfl, rfl⟩ (Nat.le_of_ble_eq_true rfl) (Nat.le_of_ble_eq_true rfl)
    · skip
      refine lv_iconst (v := 1) hx hb d_CarDesk_isKind_10 (by decide) ?_
      refine lv_goto (tgt := 15) hx hb d_CarDesk_isKind_11 (by decide) ?_
      have hf : f_CarDesk_isKind x = 1 := by
        simp only [f_CarDesk_isKind, if_neg c_1, if_neg c_2]
      exact cd_zret hx hb hr hlocks hW hS d_CarDesk_isKind_15 (by decide) ⟨by rw [hf], rfl, rfl, rfl⟩ (Nat.le_of_ble_eq_true rfl) (Nat.le_of_ble_eq_true rfl)

def f_CarDesk_isCall (x : Int32) : Int32 := if x < 0 then 0 else if 24 ≤ x then 0 else 1
set_option maxHeartbeats 4000000 in
set_option maxRecDepth 100000 in
theorem c_CarDesk_isCall (l : Launch) (D : va_G) (dA : Nat → ClassId) (b0 : Nat) (w : cx_W) (x : Int32) : cd_Ct l D (cx_tys dA) b0 y_CarDesk_isCall (.code y_CarDesk_isCall b_CarDesk_isCall 1 (some .boolean) :: cd_WA) { frames := 0, cells := 0, slots := 0, locals := 0 } [.int x] (cx_dm w) (x_ad w) (cx_ce dA w) (cx_R dA (some (.int (f_CarDesk_isCall x))) w) 0 0 := by
  refine cd_Ct.of b_CarDesk_isCall 1 (some .boolean) (by decide) rfl ?_
  intro p e s m below meth c hx hb hr hml hown hlocks hnm hA hE hb0 hW hS ls hl
  have hK := hE.1
  have hl : lv_has ls 1 [(0, .int x)] := hl
  refine lv_iload_n hx hb d_CarDesk_isCall_0 rfl (lv_at hl 0 rfl) ?_
  refine lv_if_lt (tgt := 14) hx hb d_CarDesk_isCall_1 (by decide) (fun c_1 => ?_) (fun c_1 => ?_)
  · skip
    refine lv_iconst (v := 0) hx hb d_CarDesk_isCall_14 (by decide) ?_
    have hf : f_CarDesk_isCall x = 0 := by
      simp only [f_CarDesk_isCall, if_pos c_1]
    exact cd_zret hx hb hr hlocks hW hS d_CarDesk_isCall_15 (by decide) ⟨by rw [hf], rfl, rfl, rfl⟩ (Nat.le_of_ble_eq_true rfl) (Nat.le_of_ble_eq_true rfl)
  · skip
    refine lv_iload_n hx hb d_CarDesk_isCall_4 rfl (lv_at hl 0 rfl) ?_
    refine lv_bipush (v := 24) hx hb d_CarDesk_isCall_5 (by decide) ?_
    refine lv_icmp_ge (tgt := 14) hx hb d_CarDesk_isCall_7 (by decide) (fun c_2 => ?_) (fun c_2 => ?_)
    · skip
      refine lv_iconst (v := 0) hx hb d_CarDesk_isCall_14 (by decide) ?_
      have hf : f_CarDesk_isCall x = 0 := by
        simp only [f_CarDesk_isCall, if_neg c_1, if_pos c_2]
      exact cd_zret hx hb hr hlocks hW hS d_CarDesk_isCall_15 (by decide) ⟨by rw [hf], rfl, rfl, rfl⟩ (Nat.le_of_ble_eq_true rfl) (Nat.le_of_ble_eq_true rfl)
    · skip
      refine lv_iconst (v := 1) hx hb d_CarDesk_isCall_10 (by decide) ?_
      refine lv_goto (tgt := 15) hx hb d_CarDesk_isCall_11 (by decide) ?_
      have hf : f_CarDesk_isCall x = 1 := by
        simp only [f_CarDesk_isCall, if_neg c_1, if_neg c_2]
      exact cd_zret hx hb hr hlocks hW hS d_CarDesk_isCall_15 (by decide) ⟨by rw [hf], rfl, rfl, rfl⟩ (Nat.le_of_ble_eq_true rfl) (Nat.le_of_ble_eq_true rfl)

def f_CarDesk_isArgument (x : Int64) : Int32 := if x < (-1000000000) then 0 else if 1000000000 < x then 0 else 1
set_option maxHeartbeats 4000000 in
set_option maxRecDepth 100000 in
theorem c_CarDesk_isArgument (l : Launch) (D : va_G) (dA : Nat → ClassId) (b0 : Nat) (w : cx_W) (x : Int64) : cd_Ct l D (cx_tys dA) b0 y_CarDesk_isArgument (.code y_CarDesk_isArgument b_CarDesk_isArgument 2 (some .boolean) :: cd_WA) { frames := 0, cells := 0, slots := 0, locals := 0 } [.long x] (cx_dm w) (x_ad w) (cx_ce dA w) (cx_R dA (some (.int (f_CarDesk_isArgument x))) w) 0 0 := by
  refine cd_Ct.of b_CarDesk_isArgument 2 (some .boolean) (by decide) rfl ?_
  intro p e s m below meth c hx hb hr hml hown hlocks hnm hA hE hb0 hW hS ls hl
  have hK := hE.1
  have hl : lv_has ls 2 [(0, .long x)] := hl
  refine lv_lload_n hx hb d_CarDesk_isArgument_0 rfl (lv_at hl 0 rfl) ?_
  refine lv_ldc2 (v := (-1000000000)) hx hb hown (hA _ mw_26) d_CarDesk_isArgument_1 ?_
  refine cd_lc_lt (tgt := 20) hx hb d_CarDesk_isArgument_4 d_CarDesk_isArgument_5 (by decide) (fun c_1 => ?_) (fun c_1 => ?_)
  · skip
    refine lv_iconst (v := 0) hx hb d_CarDesk_isArgument_20 (by decide) ?_
    have hf : f_CarDesk_isArgument x = 0 := by
      simp only [f_CarDesk_isArgument, if_pos c_1]
    exact cd_zret hx hb hr hlocks hW hS d_CarDesk_isArgument_21 (by decide) ⟨by rw [hf], rfl, rfl, rfl⟩ (Nat.le_of_ble_eq_true rfl) (Nat.le_of_ble_eq_true rfl)
  · skip
    refine lv_lload_n hx hb d_CarDesk_isArgument_8 rfl (lv_at hl 0 rfl) ?_
    refine lv_ldc2 (v := 1000000000) hx hb hown (hA _ mw_27) d_CarDesk_isArgument_9 ?_
    refine cd_lc_gt (tgt := 20) hx hb d_CarDesk_isArgument_12 d_CarDesk_isArgument_13 (by decide) (fun c_2 => ?_) (fun c_2 => ?_)
    · skip
      refine lv_iconst (v := 0) hx hb d_CarDesk_isArgument_20 (by decide) ?_
      have hf : f_CarDesk_isArgument x = 0 := by
        simp only [f_CarDesk_isArgument, if_neg c_1, if_pos c_2]
      exact cd_zret hx hb hr hlocks hW hS d_CarDesk_isArgument_21 (by decide) ⟨by rw [hf], rfl, rfl, rfl⟩ (Nat.le_of_ble_eq_true rfl) (Nat.le_of_ble_eq_true rfl)
    · skip
      refine lv_iconst (v := 1) hx hb d_CarDesk_isArgument_16 (by decide) ?_
      refine lv_goto (tgt := 21) hx hb d_CarDesk_isArgument_17 (by decide) ?_
      have hf : f_CarDesk_isArgument x = 1 := by
        simp only [f_CarDesk_isArgument, if_neg c_1, if_neg c_2]
      exact cd_zret hx hb hr hlocks hW hS d_CarDesk_isArgument_21 (by decide) ⟨by rw [hf], rfl, rfl, rfl⟩ (Nat.le_of_ble_eq_true rfl) (Nat.le_of_ble_eq_true rfl)

def f_CarDesk_turnedLeft (x : Int64) (y : Int32) : Int64 := ((x <<< (y.toInt64 &&& 63)) ||| ((x.toUInt64 >>> ((64 - y).toInt64.toUInt64 &&& Int64.toUInt64 63)).toInt64))
set_option maxHeartbeats 4000000 in
set_option maxRecDepth 100000 in
theorem c_CarDesk_turnedLeft (l : Launch) (D : va_G) (dA : Nat → ClassId) (b0 : Nat) (w : cx_W) (x : Int64) (y : Int32) : cd_Ct l D (cx_tys dA) b0 y_CarDesk_turnedLeft (.code y_CarDesk_turnedLeft b_CarDesk_turnedLeft 3 (some .long) :: cd_WA) { frames := 0, cells := 0, slots := 0, locals := 0 } [.long x, .int y] (cx_dm w) (x_ad w) (cx_ce dA w) (cx_R dA (some (.long (f_CarDesk_turnedLeft x y))) w) 0 0 := by
  refine cd_Ct.of b_CarDesk_turnedLeft 3 (some .long) (by decide) rfl ?_
  intro p e s m below meth c hx hb hr hml hown hlocks hnm hA hE hb0 hW hS ls hl
  have hK := hE.1
  have hl : lv_has ls 3 [(0, .long x), (2, .int y)] := hl
  refine lv_lload_n hx hb d_CarDesk_turnedLeft_0 rfl (lv_at hl 0 rfl) ?_
  refine lv_iload_n hx hb d_CarDesk_turnedLeft_1 rfl (lv_at hl 1 rfl) ?_
  refine lv_lshl hx hb d_CarDesk_turnedLeft_2 rfl ?_
  refine lv_lload_n hx hb d_CarDesk_turnedLeft_3 rfl (lv_at hl 0 rfl) ?_
  refine lv_bipush (v := 64) hx hb d_CarDesk_turnedLeft_4 (by decide) ?_
  refine lv_iload_n hx hb d_CarDesk_turnedLeft_6 rfl (lv_at hl 1 rfl) ?_
  refine lv_isub hx hb d_CarDesk_turnedLeft_7 ?_
  refine lv_lushr hx hb d_CarDesk_turnedLeft_8 rfl ?_
  refine lv_lor hx hb d_CarDesk_turnedLeft_9 ?_
  have hf : f_CarDesk_turnedLeft x y = ((x <<< (y.toInt64 &&& 63)) ||| ((x.toUInt64 >>> ((64 - y).toInt64.toUInt64 &&& Int64.toUInt64 63)).toInt64)) := by
    rfl
  exact cd_lret hx hb hr hlocks hW hS d_CarDesk_turnedLeft_10 ⟨by rw [hf], rfl, rfl, rfl⟩ (Nat.le_of_ble_eq_true rfl) (Nat.le_of_ble_eq_true rfl)

def f_CarDesk_trayOfSort (x : Int32) : Option Nat := if x = 0 then (some 0) else if x = 1 then (some 1) else if x = 2 then (some 2) else none
set_option maxHeartbeats 4000000 in
set_option maxRecDepth 100000 in
theorem c_CarDesk_trayOfSort (l : Launch) (D : va_G) (dA : Nat → ClassId) (b0 : Nat) (w : cx_W) (x : Int32) : cd_Ct l D (cx_tys dA) b0 y_CarDesk_trayOfSort (.code y_CarDesk_trayOfSort b_CarDesk_trayOfSort 2 (some (.object "CarDesk$Tray")) :: cd_WA) { frames := 0, cells := 0, slots := 0, locals := 0 } [.ref (x_ad w 0 0), .int x] (cx_dm w) (x_ad w) (cx_ce dA w) (cx_R dA (some (va_rf ((f_CarDesk_trayOfSort x).map (x_ad w 1)))) w) 0 0 := by
  refine cd_Ct.of b_CarDesk_trayOfSort 2 (some (.object "CarDesk$Tray")) (by decide) rfl ?_
  intro p e s m below meth c hx hb hr hml hown hlocks hnm hA hE hb0 hW hS ls hl
  have hK := hE.1
  have hl : lv_has ls 2 [(0, .ref (x_ad w 0 0)), (1, .int x)] := hl
  refine lv_iload_n hx hb d_CarDesk_trayOfSort_0 rfl (lv_at hl 1 rfl) ?_
  refine lv_topi (fun z_1 ez_1 => ?_)
  by_cases h_2 : z_1 = 0
  · skip
    subst h_2
    have c_3 : x = 0 := ez_1.symm
    refine lv_tableIn (tgt := 28) (off := 27) hx hb d_CarDesk_trayOfSort_1 (by decide) (by decide) (by decide) (by decide) ?_
    refine lv_aload_n hx hb d_CarDesk_trayOfSort_28 rfl (lv_at hl 0 rfl) ?_
    refine cd_get (ci := 0) (C := R_CarDesk) (T := F_CarDesk) (N := 14) (v := .ref (x_ad w 1 0)) hx hb hA i_CarDesk hown hK hW 0 0 rfl rfl rfl 0 (by decide) mw_28 rfl rfl d_CarDesk_trayOfSort_29 ?_
    have hf : f_CarDesk_trayOfSort x = some 0 := by
      simp only [f_CarDesk_trayOfSort, if_pos c_3]
    exact cd_aret hx hb hr hlocks hW hS (Or.inr ⟨_, rfl⟩) d_CarDesk_trayOfSort_32 ⟨by rw [hf]; rfl, rfl, rfl, rfl⟩ (Nat.le_of_ble_eq_true rfl) (Nat.le_of_ble_eq_true rfl)
  · skip
    have c_4 : ¬ x = 0 := fun q => h_2 (ez_1.trans q)
    by_cases h_5 : z_1 = 1
    · skip
      subst h_5
      have c_6 : x = 1 := ez_1.symm
      refine lv_tableIn (tgt := 33) (off := 32) hx hb d_CarDesk_trayOfSort_1 (by decide) (by decide) (by decide) (by decide) ?_
      refine lv_aload_n hx hb d_CarDesk_trayOfSort_33 rfl (lv_at hl 0 rfl) ?_
      refine cd_get (ci := 0) (C := R_CarDesk) (T := F_CarDesk) (N := 14) (v := .ref (x_ad w 1 1)) hx hb hA i_CarDesk hown hK hW 0 0 rfl rfl rfl 1 (by decide) mw_29 rfl rfl d_CarDesk_trayOfSort_34 ?_
      have hf : f_CarDesk_trayOfSort x = some 1 := by
        simp only [f_CarDesk_trayOfSort, if_neg c_4, if_pos c_6]
      exact cd_aret hx hb hr hlocks hW hS (Or.inr ⟨_, rfl⟩) d_CarDesk_trayOfSort_37 ⟨by rw [hf]; rfl, rfl, rfl, rfl⟩ (Nat.le_of_ble_eq_true rfl) (Nat.le_of_ble_eq_true rfl)
    · skip
      have c_7 : ¬ x = 1 := fun q => h_5 (ez_1.trans q)
      by_cases h_8 : z_1 = 2
      · skip
        subst h_8
        have c_9 : x = 2 := ez_1.symm
        refine lv_tableIn (tgt := 38) (off := 37) hx hb d_CarDesk_trayOfSort_1 (by decide) (by decide) (by decide) (by decide) ?_
        refine lv_aload_n hx hb d_CarDesk_trayOfSort_38 rfl (lv_at hl 0 rfl) ?_
        refine cd_get (ci := 0) (C := R_CarDesk) (T := F_CarDesk) (N := 14) (v := .ref (x_ad w 1 2)) hx hb hA i_CarDesk hown hK hW 0 0 rfl rfl rfl 2 (by decide) mw_30 rfl rfl d_CarDesk_trayOfSort_39 ?_
        have hf : f_CarDesk_trayOfSort x = some 2 := by
          simp only [f_CarDesk_trayOfSort, if_neg c_4, if_neg c_7, if_pos c_9]
        exact cd_aret hx hb hr hlocks hW hS (Or.inr ⟨_, rfl⟩) d_CarDesk_trayOfSort_42 ⟨by rw [hf]; rfl, rfl, rfl, rfl⟩ (Nat.le_of_ble_eq_true rfl) (Nat.le_of_ble_eq_true rfl)
      · skip
        have c_10 : ¬ x = 2 := fun q => h_8 (ez_1.trans q)
        refine lv_tableOut (tgt := 43) hx hb d_CarDesk_trayOfSort_1 (by have g0 := cd_ne 0 0 (by decide) h_2; have g1 := cd_ne 1 1 (by decide) h_5; have g2 := cd_ne 2 2 (by decide) h_8; omega) (by decide) ?_
        refine lv_null hx hb d_CarDesk_trayOfSort_43 ?_
        have hf : f_CarDesk_trayOfSort x = none := by
          simp only [f_CarDesk_trayOfSort, if_neg c_4, if_neg c_7, if_neg c_10]
        exact cd_aret hx hb hr hlocks hW hS (Or.inl rfl) d_CarDesk_trayOfSort_44 ⟨by rw [hf]; rfl, rfl, rfl, rfl⟩ (Nat.le_of_ble_eq_true rfl) (Nat.le_of_ble_eq_true rfl)
theorem lt_trayOfSort {x : Int32} {t : Nat} (h : f_CarDesk_trayOfSort x = some t) : t < 3 := by
  unfold f_CarDesk_trayOfSort at h
  repeat' split at h
  all_goals first | (cases h; done) | (cases h; decide)

def f_CarDesk_trayOfKind (x : Int32) : Option Nat := if x = 0 then (some 0) else if x = 2 then (some 1) else if x = 4 then (some 2) else none
set_option maxHeartbeats 4000000 in
set_option maxRecDepth 100000 in
theorem c_CarDesk_trayOfKind (l : Launch) (D : va_G) (dA : Nat → ClassId) (b0 : Nat) (w : cx_W) (x : Int32) : cd_Ct l D (cx_tys dA) b0 y_CarDesk_trayOfKind (.code y_CarDesk_trayOfKind b_CarDesk_trayOfKind 2 (some (.object "CarDesk$Tray")) :: cd_WA) { frames := 0, cells := 0, slots := 0, locals := 0 } [.ref (x_ad w 0 0), .int x] (cx_dm w) (x_ad w) (cx_ce dA w) (cx_R dA (some (va_rf ((f_CarDesk_trayOfKind x).map (x_ad w 1)))) w) 0 0 := by
  refine cd_Ct.of b_CarDesk_trayOfKind 2 (some (.object "CarDesk$Tray")) (by decide) rfl ?_
  intro p e s m below meth c hx hb hr hml hown hlocks hnm hA hE hb0 hW hS ls hl
  have hK := hE.1
  have hl : lv_has ls 2 [(0, .ref (x_ad w 0 0)), (1, .int x)] := hl
  refine lv_iload_n hx hb d_CarDesk_trayOfKind_0 rfl (lv_at hl 1 rfl) ?_
  refine lv_topi (fun z_1 ez_1 => ?_)
  by_cases h_2 : z_1 = 0
  · skip
    subst h_2
    have c_3 : x = 0 := ez_1.symm
    refine lv_tableIn (tgt := 36) (off := 35) hx hb d_CarDesk_trayOfKind_1 (by decide) (by decide) (by decide) (by decide) ?_
    refine lv_aload_n hx hb d_CarDesk_trayOfKind_36 rfl (lv_at hl 0 rfl) ?_
    refine cd_get (ci := 0) (C := R_CarDesk) (T := F_CarDesk) (N := 14) (v := .ref (x_ad w 1 0)) hx hb hA i_CarDesk hown hK hW 0 0 rfl rfl rfl 0 (by decide) mw_28 rfl rfl d_CarDesk_trayOfKind_37 ?_
    have hf : f_CarDesk_trayOfKind x = some 0 := by
      simp only [f_CarDesk_trayOfKind, if_pos c_3]
    exact cd_aret hx hb hr hlocks hW hS (Or.inr ⟨_, rfl⟩) d_CarDesk_trayOfKind_40 ⟨by rw [hf]; rfl, rfl, rfl, rfl⟩ (Nat.le_of_ble_eq_true rfl) (Nat.le_of_ble_eq_true rfl)
  · skip
    have c_4 : ¬ x = 0 := fun q => h_2 (ez_1.trans q)
    by_cases h_5 : z_1 = 2
    · skip
      subst h_5
      have c_6 : x = 2 := ez_1.symm
      refine lv_tableIn (tgt := 41) (off := 40) hx hb d_CarDesk_trayOfKind_1 (by decide) (by decide) (by decide) (by decide) ?_
      refine lv_aload_n hx hb d_CarDesk_trayOfKind_41 rfl (lv_at hl 0 rfl) ?_
      refine cd_get (ci := 0) (C := R_CarDesk) (T := F_CarDesk) (N := 14) (v := .ref (x_ad w 1 1)) hx hb hA i_CarDesk hown hK hW 0 0 rfl rfl rfl 1 (by decide) mw_29 rfl rfl d_CarDesk_trayOfKind_42 ?_
      have hf : f_CarDesk_trayOfKind x = some 1 := by
        simp only [f_CarDesk_trayOfKind, if_neg c_4, if_pos c_6]
      exact cd_aret hx hb hr hlocks hW hS (Or.inr ⟨_, rfl⟩) d_CarDesk_trayOfKind_45 ⟨by rw [hf]; rfl, rfl, rfl, rfl⟩ (Nat.le_of_ble_eq_true rfl) (Nat.le_of_ble_eq_true rfl)
    · skip
      have c_7 : ¬ x = 2 := fun q => h_5 (ez_1.trans q)
      by_cases h_8 : z_1 = 4
      · skip
        subst h_8
        have c_9 : x = 4 := ez_1.symm
        refine lv_tableIn (tgt := 46) (off := 45) hx hb d_CarDesk_trayOfKind_1 (by decide) (by decide) (by decide) (by decide) ?_
        refine lv_aload_n hx hb d_CarDesk_trayOfKind_46 rfl (lv_at hl 0 rfl) ?_
        refine cd_get (ci := 0) (C := R_CarDesk) (T := F_CarDesk) (N := 14) (v := .ref (x_ad w 1 2)) hx hb hA i_CarDesk hown hK hW 0 0 rfl rfl rfl 2 (by decide) mw_30 rfl rfl d_CarDesk_trayOfKind_47 ?_
        have hf : f_CarDesk_trayOfKind x = some 2 := by
          simp only [f_CarDesk_trayOfKind, if_neg c_4, if_neg c_7, if_pos c_9]
        exact cd_aret hx hb hr hlocks hW hS (Or.inr ⟨_, rfl⟩) d_CarDesk_trayOfKind_50 ⟨by rw [hf]; rfl, rfl, rfl, rfl⟩ (Nat.le_of_ble_eq_true rfl) (Nat.le_of_ble_eq_true rfl)
      · skip
        have c_10 : ¬ x = 4 := fun q => h_8 (ez_1.trans q)
        by_cases h_11 : z_1 = 1
        · skip
          subst h_11
          refine lv_tableIn (tgt := 51) (off := 50) hx hb d_CarDesk_trayOfKind_1 (by decide) (by decide) (by decide) (by decide) ?_
          refine lv_null hx hb d_CarDesk_trayOfKind_51 ?_
          have hf : f_CarDesk_trayOfKind x = none := by
            simp only [f_CarDesk_trayOfKind, if_neg c_4, if_neg c_7, if_neg c_10]
          exact cd_aret hx hb hr hlocks hW hS (Or.inl rfl) d_CarDesk_trayOfKind_52 ⟨by rw [hf]; rfl, rfl, rfl, rfl⟩ (Nat.le_of_ble_eq_true rfl) (Nat.le_of_ble_eq_true rfl)
        · skip
          by_cases h_12 : z_1 = 3
          · skip
            subst h_12
            refine lv_tableIn (tgt := 51) (off := 50) hx hb d_CarDesk_trayOfKind_1 (by decide) (by decide) (by decide) (by decide) ?_
            refine lv_null hx hb d_CarDesk_trayOfKind_51 ?_
            have hf : f_CarDesk_trayOfKind x = none := by
              simp only [f_CarDesk_trayOfKind, if_neg c_4, if_neg c_7, if_neg c_10]
            exact cd_aret hx hb hr hlocks hW hS (Or.inl rfl) d_CarDesk_trayOfKind_52 ⟨by rw [hf]; rfl, rfl, rfl, rfl⟩ (Nat.le_of_ble_eq_true rfl) (Nat.le_of_ble_eq_true rfl)
          · skip
            refine lv_tableOut (tgt := 51) hx hb d_CarDesk_trayOfKind_1 (by have g0 := cd_ne 0 0 (by decide) h_2; have g1 := cd_ne 2 2 (by decide) h_5; have g2 := cd_ne 4 4 (by decide) h_8; have g3 := cd_ne 1 1 (by decide) h_11; have g4 := cd_ne 3 3 (by decide) h_12; omega) (by decide) ?_
            refine lv_null hx hb d_CarDesk_trayOfKind_51 ?_
            have hf : f_CarDesk_trayOfKind x = none := by
              simp only [f_CarDesk_trayOfKind, if_neg c_4, if_neg c_7, if_neg c_10]
            exact cd_aret hx hb hr hlocks hW hS (Or.inl rfl) d_CarDesk_trayOfKind_52 ⟨by rw [hf]; rfl, rfl, rfl, rfl⟩ (Nat.le_of_ble_eq_true rfl) (Nat.le_of_ble_eq_true rfl)
theorem lt_trayOfKind {x : Int32} {t : Nat} (h : f_CarDesk_trayOfKind x = some t) : t < 3 := by
  unfold f_CarDesk_trayOfKind at h
  repeat' split at h
  all_goals first | (cases h; done) | (cases h; decide)

def f_CarDesk_canBeMade (w : cx_W) (x : Int32) : Int32 := cd_oc (f_CarDesk_trayOfKind x) (if x = 1 then (cd_oc (f_Shelf_newest w 0) 0 (fun j_7 => 1)) else cd_oc (f_Shelf_newest w 1) 0 (fun j_5 => 1)) (fun j_2 => if (nI (x_cnt w j_2)) ≤ 0 then 0 else 1)
set_option maxHeartbeats 4000000 in
set_option maxRecDepth 100000 in
theorem c_CarDesk_canBeMade (l : Launch) (D : va_G) (dA : Nat → ClassId) (b0 : Nat) (w : cx_W) (x : Int32) (hI : cx_Iv w) : cd_Ct l D (cx_tys dA) b0 y_CarDesk_canBeMade (.code y_CarDesk_canBeMade b_CarDesk_canBeMade 4 (some .boolean) :: cd_WA) { frames := 2, cells := 0, slots := 0, locals := 44 } [.ref (x_ad w 0 0), .int x] (cx_dm w) (x_ad w) (cx_ce dA w) (cx_R dA (some (.int (f_CarDesk_canBeMade w x))) w) 0 0 := by
  refine cd_Ct.of b_CarDesk_canBeMade 4 (some .boolean) (by decide) rfl ?_
  intro p e s m below meth c hx hb hr hml hown hlocks hnm hA hE hb0 hW hS ls hl
  have hK := hE.1
  have hl : lv_has ls 4 [(0, .ref (x_ad w 0 0)), (1, .int x)] := hl
  refine lv_aload_n hx hb d_CarDesk_canBeMade_0 rfl (lv_at hl 0 rfl) ?_
  refine lv_iload_n hx hb d_CarDesk_canBeMade_1 rfl (lv_at hl 1 rfl) ?_
  refine cx_cV (w0 := w) (x0 := va_rf ((f_CarDesk_trayOfKind x).map (x_ad w 1))) (rest := []) (n := 1) ⟨hx, hb, hml, hown, hA⟩ (cd_GA mw_31) hE hb0 hW hS 0 0 rfl rfl rfl (c_CarDesk_trayOfKind l D dA b0 w x) mw_35 mw_33 mw_34 mw_32 (by decide +kernel) rfl rfl ⟨by decide, by decide⟩ rfl hl.1 rfl (Nat.le_of_ble_eq_true rfl) d_CarDesk_canBeMade_2 ⟨by decide, by decide⟩ (fun H locs hW hS => ?_)
  rcases ho_1 : (f_CarDesk_trayOfKind x) with _ | j_2
  · skip
    refine lv_astore_nN (lv' := [(2, .null), (0, .ref (x_ad w 0 0)), (1, .int x)]) hx hb d_CarDesk_canBeMade_5 rfl hl (by decide) rfl (fun ls hl => ?_)
    refine lv_aload_nN hx hb d_CarDesk_canBeMade_6 rfl (lv_at hl 0 rfl) ?_
    refine lv_ifnullN (tgt := 23) hx hb d_CarDesk_canBeMade_7 (by decide) ?_
    refine lv_iload_n hx hb d_CarDesk_canBeMade_23 rfl (lv_at hl 2 rfl) ?_
    refine lv_iconst (v := 1) hx hb d_CarDesk_canBeMade_24 (by decide) ?_
    refine lv_icmp_ne (tgt := 32) hx hb d_CarDesk_canBeMade_25 (by decide) (fun c_3 => ?_) (fun c_3 => ?_)
    · skip
      refine lv_iconst (v := 1) hx hb d_CarDesk_canBeMade_32 (by decide) ?_
      refine lv_istore_n (lv' := [(3, .int 1), (2, .null), (0, .ref (x_ad w 0 0)), (1, .int x)]) hx hb d_CarDesk_canBeMade_33 rfl hl (by decide) rfl (fun ls hl => ?_)
      refine lv_aload_n hx hb d_CarDesk_canBeMade_34 rfl (lv_at hl 2 rfl) ?_
      refine cd_get (ci := 0) (C := R_CarDesk) (T := F_CarDesk) (N := 14) (v := .ref (x_ad w 3 0)) hx hb hA i_CarDesk hown hK hW 0 0 rfl rfl rfl 3 (by decide) mw_36 rfl rfl d_CarDesk_canBeMade_35 ?_
      refine lv_iload_n hx hb d_CarDesk_canBeMade_38 rfl (lv_at hl 0 rfl) ?_
      refine cd_aald hx hb hK hW 3 0 rfl 2 rfl rfl (by first | exact vp_in_nI (n := 0) (by decide) (by decide) | exact vp_in_nI (n := 1) (by decide) (by decide)) d_CarDesk_canBeMade_39 ?_
      refine cx_cVN (w0 := w) (x0 := va_rf ((f_Shelf_newest w 1).map (x_ad w 8))) (rest := []) (n := 0) ⟨hx, hb, hml, hown, hA⟩ (cd_GA mw_37) hE hb0 hW hS 4 1 (show (1 : Nat) < 6 from by decide) rfl rfl (c_Shelf_newest l D dA b0 w 1 (show (1 : Nat) < 6 from by decide) hI) nn_2 mw_38 mw_39 mw_13 (by decide +kernel) rfl rfl ⟨by decide, by decide⟩ rfl hl.1 rfl (Nat.le_of_ble_eq_true rfl) d_CarDesk_canBeMade_40 ⟨by decide, by decide⟩ (fun H locs hW hS => ?_)
      rcases ho_4 : (f_Shelf_newest w 1) with _ | j_5
      · skip
        refine lv_ifnullN (tgt := 50) hx hb d_CarDesk_canBeMade_43 (by decide) ?_
        refine lv_iconst (v := 0) hx hb d_CarDesk_canBeMade_50 (by decide) ?_
        have hf : f_CarDesk_canBeMade w x = 0 := by
          simp only [f_CarDesk_canBeMade, cd_oc_n ho_1, if_neg c_3, cd_oc_n ho_4]
        exact cd_zret hx hb hr hlocks hW hS d_CarDesk_canBeMade_51 (by decide) ⟨by rw [hf], rfl, rfl, rfl⟩ (Nat.le_of_ble_eq_true rfl) (Nat.le_of_ble_eq_true rfl)
      · skip
        have h_j_5 : x_al w j_5 := al_Shelf_newest hI ho_4
        refine lv_ifnull hx hb d_CarDesk_canBeMade_43 ?_
        refine lv_iconst (v := 1) hx hb d_CarDesk_canBeMade_46 (by decide) ?_
        refine lv_goto (tgt := 51) hx hb d_CarDesk_canBeMade_47 (by decide) ?_
        have hf : f_CarDesk_canBeMade w x = 1 := by
          simp only [f_CarDesk_canBeMade, cd_oc_n ho_1, if_neg c_3, cd_oc_s ho_4]
        exact cd_zret hx hb hr hlocks hW hS d_CarDesk_canBeMade_51 (by decide) ⟨by rw [hf], rfl, rfl, rfl⟩ (Nat.le_of_ble_eq_true rfl) (Nat.le_of_ble_eq_true rfl)
    · skip
      refine lv_iconst (v := 0) hx hb d_CarDesk_canBeMade_28 (by decide) ?_
      refine lv_goto (tgt := 33) hx hb d_CarDesk_canBeMade_29 (by decide) ?_
      refine lv_istore_n (lv' := [(3, .int 0), (2, .null), (0, .ref (x_ad w 0 0)), (1, .int x)]) hx hb d_CarDesk_canBeMade_33 rfl hl (by decide) rfl (fun ls hl => ?_)
      refine lv_aload_n hx hb d_CarDesk_canBeMade_34 rfl (lv_at hl 2 rfl) ?_
      refine cd_get (ci := 0) (C := R_CarDesk) (T := F_CarDesk) (N := 14) (v := .ref (x_ad w 3 0)) hx hb hA i_CarDesk hown hK hW 0 0 rfl rfl rfl 3 (by decide) mw_36 rfl rfl d_CarDesk_canBeMade_35 ?_
      refine lv_iload_n hx hb d_CarDesk_canBeMade_38 rfl (lv_at hl 0 rfl) ?_
      refine cd_aald hx hb hK hW 3 0 rfl 2 rfl rfl (by first | exact vp_in_nI (n := 0) (by decide) (by decide) | exact vp_in_nI (n := 1) (by decide) (by decide)) d_CarDesk_canBeMade_39 ?_
      refine cx_cVN (w0 := w) (x0 := va_rf ((f_Shelf_newest w 0).map (x_ad w 8))) (rest := []) (n := 0) ⟨hx, hb, hml, hown, hA⟩ (cd_GA mw_37) hE hb0 hW hS 4 0 (show (0 : Nat) < 6 from by decide) rfl rfl (c_Shelf_newest l D dA b0 w 0 (show (0 : Nat) < 6 from by decide) hI) nn_2 mw_38 mw_39 mw_13 (by decide +kernel) rfl rfl ⟨by decide, by decide⟩ rfl hl.1 rfl (Nat.le_of_ble_eq_true rfl) d_CarDesk_canBeMade_40 ⟨by decide, by decide⟩ (fun H locs hW hS => ?_)
      rcases ho_6 : (f_Shelf_newest w 0) with _ | j_7
      · skip
        refine lv_ifnullN (tgt := 50) hx hb d_CarDesk_canBeMade_43 (by decide) ?_
        refine lv_iconst (v := 0) hx hb d_CarDesk_canBeMade_50 (by decide) ?_
        have hf : f_CarDesk_canBeMade w x = 0 := by
          simp only [f_CarDesk_canBeMade, cd_oc_n ho_1, if_pos c_3, cd_oc_n ho_6]
        exact cd_zret hx hb hr hlocks hW hS d_CarDesk_canBeMade_51 (by decide) ⟨by rw [hf], rfl, rfl, rfl⟩ (Nat.le_of_ble_eq_true rfl) (Nat.le_of_ble_eq_true rfl)
      · skip
        have h_j_7 : x_al w j_7 := al_Shelf_newest hI ho_6
        refine lv_ifnull hx hb d_CarDesk_canBeMade_43 ?_
        refine lv_iconst (v := 1) hx hb d_CarDesk_canBeMade_46 (by decide) ?_
        refine lv_goto (tgt := 51) hx hb d_CarDesk_canBeMade_47 (by decide) ?_
        have hf : f_CarDesk_canBeMade w x = 1 := by
          simp only [f_CarDesk_canBeMade, cd_oc_n ho_1, if_pos c_3, cd_oc_s ho_6]
        exact cd_zret hx hb hr hlocks hW hS d_CarDesk_canBeMade_51 (by decide) ⟨by rw [hf], rfl, rfl, rfl⟩ (Nat.le_of_ble_eq_true rfl) (Nat.le_of_ble_eq_true rfl)
  · skip
    have h_j_2 : j_2 < 3 := lt_trayOfKind ho_1
    refine lv_astore_n (lv' := [(2, .ref (x_ad w 1 j_2)), (0, .ref (x_ad w 0 0)), (1, .int x)]) hx hb d_CarDesk_canBeMade_5 rfl hl (by decide) rfl (fun ls hl => ?_)
    refine lv_aload_n hx hb d_CarDesk_canBeMade_6 rfl (lv_at hl 0 rfl) ?_
    refine lv_ifnull hx hb d_CarDesk_canBeMade_7 ?_
    refine lv_aload_n hx hb d_CarDesk_canBeMade_10 rfl (lv_at hl 0 rfl) ?_
    refine cd_getN (ci := 1) (C := R_Tray) (T := F_Tray) (N := 3) (v := .int (nI (x_cnt w j_2))) hx hb hA i_Tray hown hE hW 1 j_2 h_j_2 rfl rfl 2 (by decide) nn_3 rfl rfl d_CarDesk_canBeMade_11 ?_
    refine lv_if_le (tgt := 21) hx hb d_CarDesk_canBeMade_14 (by decide) (fun c_8 => ?_) (fun c_8 => ?_)
    · skip
      refine lv_iconst (v := 0) hx hb d_CarDesk_canBeMade_21 (by decide) ?_
      have hf : f_CarDesk_canBeMade w x = 0 := by
        simp only [f_CarDesk_canBeMade, cd_oc_s ho_1, if_pos c_8]
      exact cd_zret hx hb hr hlocks hW hS d_CarDesk_canBeMade_22 (by decide) ⟨by rw [hf], rfl, rfl, rfl⟩ (Nat.le_of_ble_eq_true rfl) (Nat.le_of_ble_eq_true rfl)
    · skip
      refine lv_iconst (v := 1) hx hb d_CarDesk_canBeMade_17 (by decide) ?_
      refine lv_goto (tgt := 22) hx hb d_CarDesk_canBeMade_18 (by decide) ?_
      have hf : f_CarDesk_canBeMade w x = 1 := by
        simp only [f_CarDesk_canBeMade, cd_oc_s ho_1, if_neg c_8]
      exact cd_zret hx hb hr hlocks hW hS d_CarDesk_canBeMade_22 (by decide) ⟨by rw [hf], rfl, rfl, rfl⟩ (Nat.le_of_ble_eq_true rfl) (Nat.le_of_ble_eq_true rfl)

def f_CarDesk_sourceOf (w : cx_W) (x : Int32) : Option Nat := if x = 1 then (f_Shelf_newest w 0) else if x = 3 then (f_Shelf_newest w 1) else none
set_option maxHeartbeats 4000000 in
set_option maxRecDepth 100000 in
theorem c_CarDesk_sourceOf (l : Launch) (D : va_G) (dA : Nat → ClassId) (b0 : Nat) (w : cx_W) (x : Int32) (hI : cx_Iv w) : cd_Ct l D (cx_tys dA) b0 y_CarDesk_sourceOf (.code y_CarDesk_sourceOf b_CarDesk_sourceOf 2 (some (.object "CarDesk$Thing")) :: cd_WA) { frames := 2, cells := 0, slots := 0, locals := 44 } [.ref (x_ad w 0 0), .int x] (cx_dm w) (x_ad w) (cx_ce dA w) (cx_R dA (some (va_rf ((f_CarDesk_sourceOf w x).map (x_ad w 8)))) w) 0 0 := by
  refine cd_Ct.of b_CarDesk_sourceOf 2 (some (.object "CarDesk$Thing")) (by decide) rfl ?_
  intro p e s m below meth c hx hb hr hml hown hlocks hnm hA hE hb0 hW hS ls hl
  have hK := hE.1
  have hl : lv_has ls 2 [(0, .ref (x_ad w 0 0)), (1, .int x)] := hl
  refine lv_iload_n hx hb d_CarDesk_sourceOf_0 rfl (lv_at hl 1 rfl) ?_
  refine lv_topi (fun z_1 ez_1 => ?_)
  by_cases h_2 : z_1 = 1
  · skip
    subst h_2
    have c_3 : x = 1 := ez_1.symm
    refine lv_lookup (tgt := 28) (off := 27) hx hb d_CarDesk_sourceOf_1 (by decide) (by decide) (by decide) ?_
    refine lv_aload_n hx hb d_CarDesk_sourceOf_28 rfl (lv_at hl 0 rfl) ?_
    refine cd_get (ci := 0) (C := R_CarDesk) (T := F_CarDesk) (N := 14) (v := .ref (x_ad w 3 0)) hx hb hA i_CarDesk hown hK hW 0 0 rfl rfl rfl 3 (by decide) mw_36 rfl rfl d_CarDesk_sourceOf_29 ?_
    refine lv_iconst (v := 0) hx hb d_CarDesk_sourceOf_32 (by decide) ?_
    refine cd_aald hx hb hK hW 3 0 rfl 2 rfl rfl (vp_in_nI (n := 0) (by decide) (by decide)) d_CarDesk_sourceOf_33 ?_
    rw [show ((0 : Int32)).toNatClampNeg = 0 by decide]
    refine cx_cVN (w0 := w) (x0 := va_rf ((f_Shelf_newest w 0).map (x_ad w 8))) (rest := []) (n := 0) ⟨hx, hb, hml, hown, hA⟩ (cd_GA mw_37) hE hb0 hW hS 4 0 (show (0 : Nat) < 6 from by decide) rfl rfl (c_Shelf_newest l D dA b0 w 0 (show (0 : Nat) < 6 from by decide) hI) nn_2 mw_38 mw_39 mw_13 (by decide +kernel) rfl rfl ⟨by decide, by decide⟩ rfl hl.1 rfl (Nat.le_of_ble_eq_true rfl) d_CarDesk_sourceOf_34 ⟨by decide, by decide⟩ (fun H locs hW hS => ?_)
    have hf : f_CarDesk_sourceOf w x = (f_Shelf_newest w 0) := by
      simp only [f_CarDesk_sourceOf, if_pos c_3]
    exact cd_aret hx hb hr hlocks hW hS (va_rf_or _) d_CarDesk_sourceOf_37 ⟨by rw [hf], rfl, rfl, rfl⟩ (Nat.le_of_ble_eq_true rfl) (Nat.le_of_ble_eq_true rfl)
  · skip
    have c_4 : ¬ x = 1 := fun q => h_2 (ez_1.trans q)
    by_cases h_5 : z_1 = 3
    · skip
      subst h_5
      have c_6 : x = 3 := ez_1.symm
      refine lv_lookup (tgt := 38) (off := 37) hx hb d_CarDesk_sourceOf_1 (by decide) (by decide) (by decide) ?_
      refine lv_aload_n hx hb d_CarDesk_sourceOf_38 rfl (lv_at hl 0 rfl) ?_
      refine cd_get (ci := 0) (C := R_CarDesk) (T := F_CarDesk) (N := 14) (v := .ref (x_ad w 3 0)) hx hb hA i_CarDesk hown hK hW 0 0 rfl rfl rfl 3 (by decide) mw_36 rfl rfl d_CarDesk_sourceOf_39 ?_
      refine lv_iconst (v := 1) hx hb d_CarDesk_sourceOf_42 (by decide) ?_
      refine cd_aald hx hb hK hW 3 0 rfl 2 rfl rfl (vp_in_nI (n := 1) (by decide) (by decide)) d_CarDesk_sourceOf_43 ?_
      rw [show ((1 : Int32)).toNatClampNeg = 1 by decide]
      refine cx_cVN (w0 := w) (x0 := va_rf ((f_Shelf_newest w 1).map (x_ad w 8))) (rest := []) (n := 0) ⟨hx, hb, hml, hown, hA⟩ (cd_GA mw_37) hE hb0 hW hS 4 1 (show (1 : Nat) < 6 from by decide) rfl rfl (c_Shelf_newest l D dA b0 w 1 (show (1 : Nat) < 6 from by decide) hI) nn_2 mw_38 mw_39 mw_13 (by decide +kernel) rfl rfl ⟨by decide, by decide⟩ rfl hl.1 rfl (Nat.le_of_ble_eq_true rfl) d_CarDesk_sourceOf_44 ⟨by decide, by decide⟩ (fun H locs hW hS => ?_)
      have hf : f_CarDesk_sourceOf w x = (f_Shelf_newest w 1) := by
        simp only [f_CarDesk_sourceOf, if_neg c_4, if_pos c_6]
      exact cd_aret hx hb hr hlocks hW hS (va_rf_or _) d_CarDesk_sourceOf_47 ⟨by rw [hf], rfl, rfl, rfl⟩ (Nat.le_of_ble_eq_true rfl) (Nat.le_of_ble_eq_true rfl)
    · skip
      have c_7 : ¬ x = 3 := fun q => h_5 (ez_1.trans q)
      refine lv_lookup (tgt := 48) (off := 47) hx hb d_CarDesk_sourceOf_1 (by decide) (by first | (rw [lv_osw h_2 (by decide), lv_osw h_5 (by decide)]; rfl) | (show Op.lookupswitch.offset [(1, 27), (3, 37)] 47 _ = _; rw [lv_osw h_2 (by decide), lv_osw h_5 (by decide)]; rfl)) (by decide) ?_
      refine lv_null hx hb d_CarDesk_sourceOf_48 ?_
      have hf : f_CarDesk_sourceOf w x = none := by
        simp only [f_CarDesk_sourceOf, if_neg c_4, if_neg c_7]
      exact cd_aret hx hb hr hlocks hW hS (Or.inl rfl) d_CarDesk_sourceOf_49 ⟨by rw [hf]; rfl, rfl, rfl, rfl⟩ (Nat.le_of_ble_eq_true rfl) (Nat.le_of_ble_eq_true rfl)
theorem al_sourceOf {w : cx_W} (hI : cx_Iv w) {x : Int32} {j : Nat} (h : f_CarDesk_sourceOf w x = some j) : x_al w j := by
  unfold f_CarDesk_sourceOf at h
  repeat' split at h
  all_goals first | (cases h; done) | exact al_Shelf_newest hI h
end
section
def f_CarDesk_firstState (w : cx_W) (x : Int32) (o : Option Nat) : Int64 := if x = 0 then (f_Tray_hash w 0) else if x = 1 then (cd_oc o 0 (fun j_8 => (x_st w j_8))) else if x = 2 then ((1000 * ((f_Tray_sum w 1).toInt64)) + ((f_Tray_changes w 1).toInt64)) else if x = 3 then 0 else if x = 4 then (f_Tray_checksum w 2) else (f_Shelf_countThere w 1).toInt64
set_option maxHeartbeats 4000000 in
set_option maxRecDepth 100000 in
theorem c_CarDesk_firstState (l : Launch) (D : va_G) (dA : Nat → ClassId) (b0 : Nat) (w : cx_W) (x : Int32) (o : Option Nat) (hI : cx_Iv w) (h_o : ∀ j, o = some j → x_al w j) : cd_Ct l D (cx_tys dA) b0 y_CarDesk_firstState (.code y_CarDesk_firstState b_CarDesk_firstState 3 (some .long) :: cd_WA) { frames := 2, cells := 0, slots := 0, locals := 44 } [.ref (x_ad w 0 0), .int x, va_rf (o.map (x_ad w 8))] (cx_dm w) (x_ad w) (cx_ce dA w) (cx_R dA (some (.long (f_CarDesk_firstState w x o))) w) 0 0 := by
  refine cd_Ct.of b_CarDesk_firstState 3 (some .long) (by decide) (by cases o <;> rfl) ?_
  intro p e s m below meth c hx hb hr hml hown hlocks hnm hA hE hb0 hW hS ls hl
  have hK := hE.1
  obtain ⟨o', eo⟩ : ∃ z, o = z := ⟨_, rfl⟩
  have hl : lv_has ls 3 [(0, .ref (x_ad w 0 0)), (1, .int x), (2, va_rf (o'.map (x_ad w 8)))] := by
    rw [← eo]
    cases o <;> exact hl
  refine lv_iload_n hx hb d_CarDesk_firstState_0 rfl (lv_at hl 1 rfl) ?_
  refine lv_topi (fun z_1 ez_1 => ?_)
  by_cases h_2 : z_1 = 0
  · skip
    subst h_2
    have c_3 : x = 0 := ez_1.symm
    refine lv_tableIn (tgt := 36) (off := 35) hx hb d_CarDesk_firstState_1 (by decide) (by decide) (by decide) (by decide) ?_
    refine lv_aload_n hx hb d_CarDesk_firstState_36 rfl (lv_at hl 0 rfl) ?_
    refine cd_get (ci := 0) (C := R_CarDesk) (T := F_CarDesk) (N := 14) (v := .ref (x_ad w 1 0)) hx hb hA i_CarDesk hown hK hW 0 0 rfl rfl rfl 0 (by decide) mw_28 rfl rfl d_CarDesk_firstState_37 ?_
    refine cx_cVN (w0 := w) (x0 := .long (f_Tray_hash w 0)) (rest := []) (n := 0) ⟨hx, hb, hml, hown, hA⟩ (cd_GA mw_40) hE hb0 hW hS 1 0 (show (0 : Nat) < 3 from by decide) rfl rfl (c_Tray_hash l D dA b0 w 0 (show (0 : Nat) < 3 from by decide) hI) nn_4 mw_42 mw_43 mw_41 (by decide +kernel) rfl rfl ⟨by decide, by decide⟩ rfl hl.1 rfl (Nat.le_of_ble_eq_true rfl) d_CarDesk_firstState_40 ⟨by decide, by decide⟩ (fun H locs hW hS => ?_)
    have hf : f_CarDesk_firstState w x o = (f_Tray_hash w 0) := by
      simp only [f_CarDesk_firstState, if_pos c_3]
    exact cd_lret hx hb hr hlocks hW hS d_CarDesk_firstState_43 ⟨by rw [hf], rfl, rfl, rfl⟩ (Nat.le_of_ble_eq_true rfl) (Nat.le_of_ble_eq_true rfl)
  · skip
    have c_4 : ¬ x = 0 := fun q => h_2 (ez_1.trans q)
    by_cases h_5 : z_1 = 1
    · skip
      subst h_5
      have c_6 : x = 1 := ez_1.symm
      refine lv_tableIn (tgt := 44) (off := 43) hx hb d_CarDesk_firstState_1 (by decide) (by decide) (by decide) (by decide) ?_
      rcases ho_7 : o' with _ | j_8
      · skip
        rw [ho_7] at hl
        have ho_7 : o = none := eo.trans ho_7
        refine lv_aload_nN hx hb d_CarDesk_firstState_44 rfl (lv_at hl 2 rfl) ?_
        refine lv_ifnonnullN hx hb d_CarDesk_firstState_45 ?_
        refine lv_lconst (v := 0) hx hb d_CarDesk_firstState_48 (by decide) ?_
        refine lv_goto (tgt := 56) hx hb d_CarDesk_firstState_49 (by decide) ?_
        have hf : f_CarDesk_firstState w x o = 0 := by
          simp only [f_CarDesk_firstState, if_neg c_4, if_pos c_6, cd_oc_n ho_7]
        exact cd_lret hx hb hr hlocks hW hS d_CarDesk_firstState_56 ⟨by rw [hf], rfl, rfl, rfl⟩ (Nat.le_of_ble_eq_true rfl) (Nat.le_of_ble_eq_true rfl)
      · skip
        rw [ho_7] at hl
        have ho_7 : o = some j_8 := eo.trans ho_7
        have h_j_8 : x_al w j_8 := h_o _ ho_7
        refine lv_aload_n hx hb d_CarDesk_firstState_44 rfl (lv_at hl 2 rfl) ?_
        refine lv_ifnonnull (tgt := 52) hx hb d_CarDesk_firstState_45 (by decide) ?_
        refine lv_aload_n hx hb d_CarDesk_firstState_52 rfl (lv_at hl 2 rfl) ?_
        refine cd_getN (ci := 3) (C := R_Thing) (T := F_Thing) (N := 5) (v := .long (x_st w j_8)) hx hb hA i_Thing hown hE hW 8 j_8 h_j_8 rfl rfl 1 (by decide) nn_5 rfl rfl d_CarDesk_firstState_53 ?_
        have hf : f_CarDesk_firstState w x o = (x_st w j_8) := by
          simp only [f_CarDesk_firstState, if_neg c_4, if_pos c_6, cd_oc_s ho_7]
        exact cd_lret hx hb hr hlocks hW hS d_CarDesk_firstState_56 ⟨by rw [hf], rfl, rfl, rfl⟩ (Nat.le_of_ble_eq_true rfl) (Nat.le_of_ble_eq_true rfl)
    · skip
      have c_9 : ¬ x = 1 := fun q => h_5 (ez_1.trans q)
      by_cases h_10 : z_1 = 2
      · skip
        subst h_10
        have c_11 : x = 2 := ez_1.symm
        refine lv_tableIn (tgt := 57) (off := 56) hx hb d_CarDesk_firstState_1 (by decide) (by decide) (by decide) (by decide) ?_
        refine lv_ldc2 (v := 1000) hx hb hown (hA _ mw_44) d_CarDesk_firstState_57 ?_
        refine lv_aload_n hx hb d_CarDesk_firstState_60 rfl (lv_at hl 0 rfl) ?_
        refine cd_get (ci := 0) (C := R_CarDesk) (T := F_CarDesk) (N := 14) (v := .ref (x_ad w 1 1)) hx hb hA i_CarDesk hown hK hW 0 0 rfl rfl rfl 1 (by decide) mw_29 rfl rfl d_CarDesk_firstState_61 ?_
        refine cx_cVN (w0 := w) (x0 := .int (f_Tray_sum w 1)) (rest := [.long 1000]) (n := 0) ⟨hx, hb, hml, hown, hA⟩ (cd_GA mw_45) hE hb0 hW hS 1 1 (show (1 : Nat) < 3 from by decide) rfl rfl (c_Tray_sum l D dA b0 w 1 (show (1 : Nat) < 3 from by decide) hI) nn_6 mw_46 mw_47 mw_41 (by decide +kernel) rfl rfl ⟨by decide, by decide⟩ rfl hl.1 rfl (Nat.le_of_ble_eq_true rfl) d_CarDesk_firstState_64 ⟨by decide, by decide⟩ (fun H locs hW hS => ?_)
        refine lv_i2l hx hb d_CarDesk_firstState_67 rfl ?_
        refine lv_lmul hx hb d_CarDesk_firstState_68 ?_
        refine lv_aload_n hx hb d_CarDesk_firstState_69 rfl (lv_at hl 0 rfl) ?_
        refine cd_get (ci := 0) (C := R_CarDesk) (T := F_CarDesk) (N := 14) (v := .ref (x_ad w 1 1)) hx hb hA i_CarDesk hown hK hW 0 0 rfl rfl rfl 1 (by decide) mw_29 rfl rfl d_CarDesk_firstState_70 ?_
        refine cx_cVN (w0 := w) (x0 := .int (f_Tray_changes w 1)) (rest := [.long (1000 * ((f_Tray_sum w 1).toInt64))]) (n := 0) ⟨hx, hb, hml, hown, hA⟩ (cd_GA mw_48) hE hb0 hW hS 1 1 (show (1 : Nat) < 3 from by decide) rfl rfl (c_Tray_changes l D dA b0 w 1 (show (1 : Nat) < 3 from by decide) hI) nn_7 mw_49 mw_50 mw_41 (by decide +kernel) rfl rfl ⟨by decide, by decide⟩ rfl hl.1 rfl (Nat.le_of_ble_eq_true rfl) d_CarDesk_firstState_73 ⟨by decide, by decide⟩ (fun H locs hW hS => ?_)
        refine lv_i2l hx hb d_CarDesk_firstState_76 rfl ?_
        refine lv_ladd hx hb d_CarDesk_firstState_77 ?_
        have hf : f_CarDesk_firstState w x o = ((1000 * ((f_Tray_sum w 1).toInt64)) + ((f_Tray_changes w 1).toInt64)) := by
          simp only [f_CarDesk_firstState, if_neg c_4, if_neg c_9, if_pos c_11]
        exact cd_lret hx hb hr hlocks hW hS d_CarDesk_firstState_78 ⟨by rw [hf], rfl, rfl, rfl⟩ (Nat.le_of_ble_eq_true rfl) (Nat.le_of_ble_eq_true rfl)
      · skip
        have c_12 : ¬ x = 2 := fun q => h_10 (ez_1.trans q)
        by_cases h_13 : z_1 = 3
        · skip
          subst h_13
          have c_14 : x = 3 := ez_1.symm
          refine lv_tableIn (tgt := 79) (off := 78) hx hb d_CarDesk_firstState_1 (by decide) (by decide) (by decide) (by decide) ?_
          refine lv_lconst (v := 0) hx hb d_CarDesk_firstState_79 (by decide) ?_
          have hf : f_CarDesk_firstState w x o = 0 := by
            simp only [f_CarDesk_firstState, if_neg c_4, if_neg c_9, if_neg c_12, if_pos c_14]
          exact cd_lret hx hb hr hlocks hW hS d_CarDesk_firstState_80 ⟨by rw [hf], rfl, rfl, rfl⟩ (Nat.le_of_ble_eq_true rfl) (Nat.le_of_ble_eq_true rfl)
        · skip
          have c_15 : ¬ x = 3 := fun q => h_13 (ez_1.trans q)
          by_cases h_16 : z_1 = 4
          · skip
            subst h_16
            have c_17 : x = 4 := ez_1.symm
            refine lv_tableIn (tgt := 81) (off := 80) hx hb d_CarDesk_firstState_1 (by decide) (by decide) (by decide) (by decide) ?_
            refine lv_aload_n hx hb d_CarDesk_firstState_81 rfl (lv_at hl 0 rfl) ?_
            refine cd_get (ci := 0) (C := R_CarDesk) (T := F_CarDesk) (N := 14) (v := .ref (x_ad w 1 2)) hx hb hA i_CarDesk hown hK hW 0 0 rfl rfl rfl 2 (by decide) mw_30 rfl rfl d_CarDesk_firstState_82 ?_
            refine cx_cVN (w0 := w) (x0 := .long (f_Tray_checksum w 2)) (rest := []) (n := 0) ⟨hx, hb, hml, hown, hA⟩ (cd_GA mw_51) hE hb0 hW hS 1 2 (show (2 : Nat) < 3 from by decide) rfl rfl (c_Tray_checksum l D dA b0 w 2 (show (2 : Nat) < 3 from by decide) hI) nn_8 mw_52 mw_53 mw_41 (by decide +kernel) rfl rfl ⟨by decide, by decide⟩ rfl hl.1 rfl (Nat.le_of_ble_eq_true rfl) d_CarDesk_firstState_85 ⟨by decide, by decide⟩ (fun H locs hW hS => ?_)
            have hf : f_CarDesk_firstState w x o = (f_Tray_checksum w 2) := by
              simp only [f_CarDesk_firstState, if_neg c_4, if_neg c_9, if_neg c_12, if_neg c_15, if_pos c_17]
            exact cd_lret hx hb hr hlocks hW hS d_CarDesk_firstState_88 ⟨by rw [hf], rfl, rfl, rfl⟩ (Nat.le_of_ble_eq_true rfl) (Nat.le_of_ble_eq_true rfl)
          · skip
            have c_18 : ¬ x = 4 := fun q => h_16 (ez_1.trans q)
            refine lv_tableOut (tgt := 89) hx hb d_CarDesk_firstState_1 (by have g0 := cd_ne 0 0 (by decide) h_2; have g1 := cd_ne 1 1 (by decide) h_5; have g2 := cd_ne 2 2 (by decide) h_10; have g3 := cd_ne 3 3 (by decide) h_13; have g4 := cd_ne 4 4 (by decide) h_16; omega) (by decide) ?_
            refine lv_aload_n hx hb d_CarDesk_firstState_89 rfl (lv_at hl 0 rfl) ?_
            refine cd_get (ci := 0) (C := R_CarDesk) (T := F_CarDesk) (N := 14) (v := .ref (x_ad w 3 0)) hx hb hA i_CarDesk hown hK hW 0 0 rfl rfl rfl 3 (by decide) mw_36 rfl rfl d_CarDesk_firstState_90 ?_
            refine lv_iconst (v := 1) hx hb d_CarDesk_firstState_93 (by decide) ?_
            refine cd_aald hx hb hK hW 3 0 rfl 2 rfl rfl (vp_in_nI (n := 1) (by decide) (by decide)) d_CarDesk_firstState_94 ?_
            rw [show ((1 : Int32)).toNatClampNeg = 1 by decide]
            refine cx_cVN (w0 := w) (x0 := .int (f_Shelf_countThere w 1)) (rest := []) (n := 0) ⟨hx, hb, hml, hown, hA⟩ (cd_GA mw_54) hE hb0 hW hS 4 1 (show (1 : Nat) < 6 from by decide) rfl rfl (c_Shelf_countThere l D dA b0 w 1 (show (1 : Nat) < 6 from by decide) hI) nn_9 mw_55 mw_56 mw_13 (by decide +kernel) rfl rfl ⟨by decide, by decide⟩ rfl hl.1 rfl (Nat.le_of_ble_eq_true rfl) d_CarDesk_firstState_95 ⟨by decide, by decide⟩ (fun H locs hW hS => ?_)
            refine lv_i2l hx hb d_CarDesk_firstState_98 rfl ?_
            have hf : f_CarDesk_firstState w x o = (f_Shelf_countThere w 1).toInt64 := by
              simp only [f_CarDesk_firstState, if_neg c_4, if_neg c_9, if_neg c_12, if_neg c_15, if_neg c_18]
            exact cd_lret hx hb hr hlocks hW hS d_CarDesk_firstState_99 ⟨by rw [hf], rfl, rfl, rfl⟩ (Nat.le_of_ble_eq_true rfl) (Nat.le_of_ble_eq_true rfl)

def f_ecn (c : Nat → Nat) (o : Option Nat) : Nat → Nat := cd_oc o c (fun t => va_up c t 0)
def f_CarDesk_emptyTrayOf (w : cx_W) (x : Int32) : cx_W := ((w.1.1, f_ecn (x_cnt w) (f_CarDesk_trayOfKind x), w.1.2.2), w.2)
set_option maxHeartbeats 4000000 in
set_option maxRecDepth 100000 in
theorem c_CarDesk_emptyTrayOf (l : Launch) (D : va_G) (dA : Nat → ClassId) (b0 : Nat) (w : cx_W) (x : Int32) : cd_Ct l D (cx_tys dA) b0 y_CarDesk_emptyTrayOf (.code y_CarDesk_emptyTrayOf b_CarDesk_emptyTrayOf 3 none :: cd_WA) { frames := 1, cells := 0, slots := 0, locals := 21 } [.ref (x_ad w 0 0), .int x] (cx_dm w) (x_ad w) (cx_ce dA w) (cx_R dA none (f_CarDesk_emptyTrayOf w x)) 0 0 := by
  refine cd_Ct.of b_CarDesk_emptyTrayOf 3 none (by decide) rfl ?_
  intro p e s m below meth c hx hb hr hml hown hlocks hnm hA hE hb0 hW hS ls hl
  have hK := hE.1
  have hl : lv_has ls 3 [(0, .ref (x_ad w 0 0)), (1, .int x)] := hl
  refine lv_aload_n hx hb d_CarDesk_emptyTrayOf_0 rfl (lv_at hl 0 rfl) ?_
  refine lv_iload_n hx hb d_CarDesk_emptyTrayOf_1 rfl (lv_at hl 1 rfl) ?_
  refine cx_cV (w0 := w) (x0 := va_rf ((f_CarDesk_trayOfKind x).map (x_ad w 1))) (rest := []) (n := 1) ⟨hx, hb, hml, hown, hA⟩ (cd_GA mw_31) hE hb0 hW hS 0 0 rfl rfl rfl (c_CarDesk_trayOfKind l D dA b0 w x) mw_35 mw_33 mw_34 mw_32 (by decide +kernel) rfl rfl ⟨by decide, by decide⟩ rfl hl.1 rfl (Nat.le_of_ble_eq_true rfl) d_CarDesk_emptyTrayOf_2 ⟨by decide, by decide⟩ (fun H locs hW hS => ?_)
  rcases ho_1 : (f_CarDesk_trayOfKind x) with _ | j_2
  · skip
    refine lv_astore_nN (lv' := [(2, .null), (0, .ref (x_ad w 0 0)), (1, .int x)]) hx hb d_CarDesk_emptyTrayOf_5 rfl hl (by decide) rfl (fun ls hl => ?_)
    refine lv_aload_nN hx hb d_CarDesk_emptyTrayOf_6 rfl (lv_at hl 0 rfl) ?_
    refine lv_ifnullN (tgt := 14) hx hb d_CarDesk_emptyTrayOf_7 (by decide) ?_
    have hf : f_CarDesk_emptyTrayOf w x = w := by
      simp only [f_CarDesk_emptyTrayOf, cd_oc_n ho_1, f_ecn, f_Tray_empty]
    exact cd_vret hx hb hr hlocks hW hS d_CarDesk_emptyTrayOf_14 ⟨rfl, by rw [hf], by rw [hf], by rw [hf]⟩ (Nat.le_of_ble_eq_true rfl) (Nat.le_of_ble_eq_true rfl)
  · skip
    have h_j_2 : j_2 < 3 := lt_trayOfKind ho_1
    refine lv_astore_n (lv' := [(2, .ref (x_ad w 1 j_2)), (0, .ref (x_ad w 0 0)), (1, .int x)]) hx hb d_CarDesk_emptyTrayOf_5 rfl hl (by decide) rfl (fun ls hl => ?_)
    refine lv_aload_n hx hb d_CarDesk_emptyTrayOf_6 rfl (lv_at hl 0 rfl) ?_
    refine lv_ifnull hx hb d_CarDesk_emptyTrayOf_7 ?_
    refine lv_aload_n hx hb d_CarDesk_emptyTrayOf_10 rfl (lv_at hl 0 rfl) ?_
    refine cx_cVN0 (w0 := (f_Tray_empty w j_2)) (rest := []) (n := 0) ⟨hx, hb, hml, hown, hA⟩ (cd_GA mw_57) hE hb0 hW hS 1 j_2 h_j_2 rfl rfl (c_Tray_empty l D dA b0 w j_2 h_j_2) nn_10 mw_58 mw_59 mw_41 (by decide +kernel) rfl rfl ⟨by decide, by decide⟩ rfl hl.1 rfl (Nat.le_of_ble_eq_true rfl) d_CarDesk_emptyTrayOf_11 ⟨by decide, by decide⟩ (fun H locs hW hS => ?_)
    have hf : f_CarDesk_emptyTrayOf w x = (f_Tray_empty w j_2) := by
      simp only [f_CarDesk_emptyTrayOf, cd_oc_s ho_1, f_ecn, f_Tray_empty]
    exact cd_vret hx hb hr hlocks hW hS d_CarDesk_emptyTrayOf_14 ⟨rfl, by rw [hf], by rw [hf], by rw [hf]⟩ (Nat.le_of_ble_eq_true rfl) (Nat.le_of_ble_eq_true rfl)

def f_CarDesk_thingOf (w : cx_W) (x : Int64) : Option Nat := if x < 0 then none else if x < 384 then (f_Shelf_at w ((x.toInt32 / 64).toNatClampNeg) ((x.toInt32 - x.toInt32 / 64 * 64) - 1)) else none
set_option maxHeartbeats 4000000 in
set_option maxRecDepth 100000 in
theorem c_CarDesk_thingOf (l : Launch) (D : va_G) (dA : Nat → ClassId) (b0 : Nat) (w : cx_W) (x : Int64) (hI : cx_Iv w) : cd_Ct l D (cx_tys dA) b0 y_CarDesk_thingOf (.code y_CarDesk_thingOf b_CarDesk_thingOf 4 (some (.object "CarDesk$Thing")) :: cd_WA) { frames := 1, cells := 0, slots := 0, locals := 22 } [.ref (x_ad w 0 0), .long x] (cx_dm w) (x_ad w) (cx_ce dA w) (cx_R dA (some (va_rf ((f_CarDesk_thingOf w x).map (x_ad w 8)))) w) 0 0 := by
  refine cd_Ct.of b_CarDesk_thingOf 4 (some (.object "CarDesk$Thing")) (by decide) rfl ?_
  intro p e s m below meth c hx hb hr hml hown hlocks hnm hA hE hb0 hW hS ls hl
  have hK := hE.1
  have hl : lv_has ls 4 [(0, .ref (x_ad w 0 0)), (1, .long x)] := hl
  refine lv_lload_n hx hb d_CarDesk_thingOf_0 rfl (lv_at hl 1 rfl) ?_
  refine lv_lconst (v := 0) hx hb d_CarDesk_thingOf_1 (by decide) ?_
  refine cd_lc_lt (tgt := 14) hx hb d_CarDesk_thingOf_2 d_CarDesk_thingOf_3 (by decide) (fun c_1 => ?_) (fun c_1 => ?_)
  · skip
    refine lv_null hx hb d_CarDesk_thingOf_14 ?_
    have hf : f_CarDesk_thingOf w x = none := by
      simp only [f_CarDesk_thingOf, if_pos c_1]
    exact cd_aret hx hb hr hlocks hW hS (Or.inl rfl) d_CarDesk_thingOf_15 ⟨by rw [hf]; rfl, rfl, rfl, rfl⟩ (Nat.le_of_ble_eq_true rfl) (Nat.le_of_ble_eq_true rfl)
  · skip
    refine lv_lload_n hx hb d_CarDesk_thingOf_6 rfl (lv_at hl 1 rfl) ?_
    refine lv_ldc2 (v := 384) hx hb hown (hA _ mw_60) d_CarDesk_thingOf_7 ?_
    refine cd_lc_lt (tgt := 16) hx hb d_CarDesk_thingOf_10 d_CarDesk_thingOf_11 (by decide) (fun c_2 => ?_) (fun c_2 => ?_)
    · skip
      refine lv_lload_n hx hb d_CarDesk_thingOf_16 rfl (lv_at hl 1 rfl) ?_
      refine lv_l2i hx hb d_CarDesk_thingOf_17 rfl ?_
      refine lv_istore_n (lv' := [(3, .int x.toInt32), (0, .ref (x_ad w 0 0)), (1, .long x)]) hx hb d_CarDesk_thingOf_18 rfl hl (by decide) rfl (fun ls hl => ?_)
      refine lv_aload_n hx hb d_CarDesk_thingOf_19 rfl (lv_at hl 1 rfl) ?_
      refine cd_get (ci := 0) (C := R_CarDesk) (T := F_CarDesk) (N := 14) (v := .ref (x_ad w 3 0)) hx hb hA i_CarDesk hown hK hW 0 0 rfl rfl rfl 3 (by decide) mw_36 rfl rfl d_CarDesk_thingOf_20 ?_
      refine lv_iload_n hx hb d_CarDesk_thingOf_23 rfl (lv_at hl 0 rfl) ?_
      refine lv_bipush (v := 64) hx hb d_CarDesk_thingOf_24 (by decide) ?_
      refine lv_idiv hx hb d_CarDesk_thingOf_26 (by decide) ?_
      refine cd_aald hx hb hK hW 3 0 rfl 2 rfl rfl (cd_k64 c_1 c_2) d_CarDesk_thingOf_27 ?_
      refine lv_iload_n hx hb d_CarDesk_thingOf_28 rfl (lv_at hl 0 rfl) ?_
      refine lv_bipush (v := 64) hx hb d_CarDesk_thingOf_29 (by decide) ?_
      refine lv_irem hx hb d_CarDesk_thingOf_31 (by decide) ?_
      refine lv_iconst (v := 1) hx hb d_CarDesk_thingOf_32 (by decide) ?_
      refine lv_isub hx hb d_CarDesk_thingOf_33 ?_
      refine cx_cVN (w0 := w) (x0 := va_rf ((f_Shelf_at w ((x.toInt32 / 64).toNatClampNeg) ((x.toInt32 - x.toInt32 / 64 * 64) - 1)).map (x_ad w 8))) (rest := []) (n := 1) ⟨hx, hb, hml, hown, hA⟩ (cd_GA mw_12) hE hb0 hW hS 4 ((x.toInt32 / 64).toNatClampNeg) (cd_vlt (cd_k64 c_1 c_2)) rfl rfl (c_Shelf_at l D dA b0 w ((x.toInt32 / 64).toNatClampNeg) ((x.toInt32 - x.toInt32 / 64 * 64) - 1) (cd_vlt (cd_k64 c_1 c_2)) hI) nn_11 mw_14 mw_15 mw_13 (by decide +kernel) rfl rfl ⟨by decide, by decide⟩ rfl hl.1 rfl (Nat.le_of_ble_eq_true rfl) d_CarDesk_thingOf_34 ⟨by decide, by decide⟩ (fun H locs hW hS => ?_)
      have hf : f_CarDesk_thingOf w x = (f_Shelf_at w ((x.toInt32 / 64).toNatClampNeg) ((x.toInt32 - x.toInt32 / 64 * 64) - 1)) := by
        simp only [f_CarDesk_thingOf, if_neg c_1, if_pos c_2]
      exact cd_aret hx hb hr hlocks hW hS (va_rf_or _) d_CarDesk_thingOf_37 ⟨by rw [hf], rfl, rfl, rfl⟩ (Nat.le_of_ble_eq_true rfl) (Nat.le_of_ble_eq_true rfl)
    · skip
      refine lv_null hx hb d_CarDesk_thingOf_14 ?_
      have hf : f_CarDesk_thingOf w x = none := by
        simp only [f_CarDesk_thingOf, if_neg c_1, if_neg c_2]
      exact cd_aret hx hb hr hlocks hW hS (Or.inl rfl) d_CarDesk_thingOf_15 ⟨by rw [hf]; rfl, rfl, rfl, rfl⟩ (Nat.le_of_ble_eq_true rfl) (Nat.le_of_ble_eq_true rfl)
theorem al_thingOf {w : cx_W} (hI : cx_Iv w) {x : Int64} {j : Nat} (h : f_CarDesk_thingOf w x = some j) : x_al w j := by
  unfold f_CarDesk_thingOf at h
  repeat' split at h
  all_goals first | (cases h; done) | exact al_Shelf_at hI h

def f_CarDesk_thingForCall (w : cx_W) (x : Int32) (y : Int64) : Option Nat := if (f_CarDesk_isCall x) = 0 then none else if (y / 64) = (x - x / 6 * 6).toInt64 then (f_CarDesk_thingOf w y) else none
set_option maxHeartbeats 4000000 in
set_option maxRecDepth 100000 in
theorem c_CarDesk_thingForCall (l : Launch) (D : va_G) (dA : Nat → ClassId) (b0 : Nat) (w : cx_W) (x : Int32) (y : Int64) (hI : cx_Iv w) : cd_Ct l D (cx_tys dA) b0 y_CarDesk_thingForCall (.code y_CarDesk_thingForCall b_CarDesk_thingForCall 4 (some (.object "CarDesk$Thing")) :: cd_WA) { frames := 2, cells := 0, slots := 0, locals := 45 } [.ref (x_ad w 0 0), .int x, .long y] (cx_dm w) (x_ad w) (cx_ce dA w) (cx_R dA (some (va_rf ((f_CarDesk_thingForCall w x y).map (x_ad w 8)))) w) 0 0 := by
  refine cd_Ct.of b_CarDesk_thingForCall 4 (some (.object "CarDesk$Thing")) (by decide) rfl ?_
  intro p e s m below meth c hx hb hr hml hown hlocks hnm hA hE hb0 hW hS ls hl
  have hK := hE.1
  have hl : lv_has ls 4 [(0, .ref (x_ad w 0 0)), (1, .int x), (2, .long y)] := hl
  refine lv_iload_n hx hb d_CarDesk_thingForCall_0 rfl (lv_at hl 1 rfl) ?_
  refine cx_cS (w0 := w) (x0 := .int (f_CarDesk_isCall x)) (rest := []) (n := 1) ⟨hx, hb, hml, hown, hA⟩ (cd_GA mw_61) hE hb0 hW hS (c_CarDesk_isCall l D dA b0 w x) mw_63 mw_62 mw_32 (by decide +kernel) rfl rfl ⟨by decide, by decide⟩ rfl hl.1 rfl (Nat.le_of_ble_eq_true rfl) d_CarDesk_thingForCall_1 ⟨by decide, by decide⟩ (fun H locs hW hS => ?_)
  refine lv_if_eq (tgt := 21) hx hb d_CarDesk_thingForCall_4 (by decide) (fun c_1 => ?_) (fun c_1 => ?_)
  · skip
    refine lv_null hx hb d_CarDesk_thingForCall_21 ?_
    have hf : f_CarDesk_thingForCall w x y = none := by
      simp only [f_CarDesk_thingForCall, if_pos c_1]
    exact cd_aret hx hb hr hlocks hW hS (Or.inl rfl) d_CarDesk_thingForCall_22 ⟨by rw [hf]; rfl, rfl, rfl, rfl⟩ (Nat.le_of_ble_eq_true rfl) (Nat.le_of_ble_eq_true rfl)
  · skip
    refine lv_lload_n hx hb d_CarDesk_thingForCall_7 rfl (lv_at hl 2 rfl) ?_
    refine lv_ldc2 (v := 64) hx hb hown (hA _ mw_64) d_CarDesk_thingForCall_8 ?_
    refine lv_ldiv hx hb d_CarDesk_thingForCall_11 (by decide) ?_
    refine lv_iload_n hx hb d_CarDesk_thingForCall_12 rfl (lv_at hl 1 rfl) ?_
    refine lv_bipush (v := 6) hx hb d_CarDesk_thingForCall_13 (by decide) ?_
    refine lv_irem hx hb d_CarDesk_thingForCall_15 (by decide) ?_
    refine lv_i2l hx hb d_CarDesk_thingForCall_16 rfl ?_
    refine cd_lc_eq (tgt := 23) hx hb d_CarDesk_thingForCall_17 d_CarDesk_thingForCall_18 (by decide) (fun c_2 => ?_) (fun c_2 => ?_)
    · skip
      refine lv_aload_n hx hb d_CarDesk_thingForCall_23 rfl (lv_at hl 0 rfl) ?_
      refine lv_lload_n hx hb d_CarDesk_thingForCall_24 rfl (lv_at hl 2 rfl) ?_
      refine cx_cV (w0 := w) (x0 := va_rf ((f_CarDesk_thingOf w y).map (x_ad w 8))) (rest := []) (n := 1) ⟨hx, hb, hml, hown, hA⟩ (cd_GA mw_65) hE hb0 hW hS 0 0 rfl rfl rfl (c_CarDesk_thingOf l D dA b0 w y hI) mw_68 mw_66 mw_67 mw_32 (by decide +kernel) rfl rfl ⟨by decide, by decide⟩ rfl hl.1 rfl (Nat.le_of_ble_eq_true rfl) d_CarDesk_thingForCall_25 ⟨by decide, by decide⟩ (fun H locs hW hS => ?_)
      have hf : f_CarDesk_thingForCall w x y = (f_CarDesk_thingOf w y) := by
        simp only [f_CarDesk_thingForCall, if_neg c_1, if_pos c_2]
      exact cd_aret hx hb hr hlocks hW hS (va_rf_or _) d_CarDesk_thingForCall_28 ⟨by rw [hf], rfl, rfl, rfl⟩ (Nat.le_of_ble_eq_true rfl) (Nat.le_of_ble_eq_true rfl)
    · skip
      refine lv_null hx hb d_CarDesk_thingForCall_21 ?_
      have hf : f_CarDesk_thingForCall w x y = none := by
        simp only [f_CarDesk_thingForCall, if_neg c_1, if_neg c_2]
      exact cd_aret hx hb hr hlocks hW hS (Or.inl rfl) d_CarDesk_thingForCall_22 ⟨by rw [hf]; rfl, rfl, rfl, rfl⟩ (Nat.le_of_ble_eq_true rfl) (Nat.le_of_ble_eq_true rfl)
theorem al_thingForCall {w : cx_W} (hI : cx_Iv w) {x : Int32} {y : Int64} {j : Nat} (h : f_CarDesk_thingForCall w x y = some j) : x_al w j := by
  unfold f_CarDesk_thingForCall at h
  repeat' split at h
  all_goals first | (cases h; done) | exact al_thingOf hI h
theorem cd_call {x : Int32} (h : ¬ f_CarDesk_isCall x = 0) : vp_in x 24 := by
  unfold f_CarDesk_isCall at h
  split at h
  · exact absurd rfl h
  · split at h
    · exact absurd rfl h
    · exact cd_in 24 (by decide) ‹_› ‹_›
theorem cd_kind {x : Int32} (h : ¬ f_CarDesk_isKind x = 0) : vp_in x 6 := by
  unfold f_CarDesk_isKind at h
  split at h
  · exact absurd rfl h
  · split at h
    · exact absurd rfl h
    · exact cd_in 6 (by decide) ‹_› ‹_›
theorem in_thingForCall {w : cx_W} {x : Int32} {y : Int64} {j : Nat} (h : f_CarDesk_thingForCall w x y = some j) : vp_in x 24 := by
  unfold f_CarDesk_thingForCall at h
  split at h
  · cases h
  · exact cd_call ‹_›
theorem lt_full {w : cx_W} {t : Nat} (hI : cx_Iv w) (h : f_Tray_isFull w t = 0) : x_cnt w t < 200 := by
  have h1 := hI.1 t
  unfold f_Tray_isFull at h
  split at h
  · rename_i hlt
    exact (nI_ltI (b := 200) (by omega) (by decide)).mp hlt
  · exact absurd h (by decide)
theorem lt_shelf {w : cx_W} {k : Nat} (hI : cx_Iv w) (h : f_Shelf_isFull w k = 0) : x_made w k < 20 := by
  have h1 := hI.2.1 k
  unfold f_Shelf_isFull at h
  split at h
  · rename_i hlt
    exact (nI_ltI (b := 20) (by omega) (by decide)).mp hlt
  · exact absurd h (by decide)
end
section
def f_CarDesk_refusalOfStep (w : cx_W) (x : Int32) (q : Nat) : Int32 := if x = 0 then (if (f_Thing_isInUse w q) = 0 then (if (x_tu w q) < 50 then 0 else (-4)) else (-3)) else if (x_tu w q) < 50 then 0 else (-4)
set_option maxHeartbeats 4000000 in
set_option maxRecDepth 100000 in
theorem c_CarDesk_refusalOfStep (l : Launch) (D : va_G) (dA : Nat → ClassId) (b0 : Nat) (w : cx_W) (x : Int32) (q : Nat) (h_q : x_al w q) : cd_Ct l D (cx_tys dA) b0 y_CarDesk_refusalOfStep (.code y_CarDesk_refusalOfStep b_CarDesk_refusalOfStep 2 (some .int) :: cd_WA) { frames := 1, cells := 0, slots := 0, locals := 20 } [.int x, .ref (x_ad w 8 q)] (cx_dm w) (x_ad w) (cx_ce dA w) (cx_R dA (some (.int (f_CarDesk_refusalOfStep w x q))) w) 0 0 := by
  refine cd_Ct.of b_CarDesk_refusalOfStep 2 (some .int) (by decide) rfl ?_
  intro p e s m below meth c hx hb hr hml hown hlocks hnm hA hE hb0 hW hS ls hl
  have hK := hE.1
  have hl : lv_has ls 2 [(0, .int x), (1, .ref (x_ad w 8 q))] := hl
  refine lv_iload_n hx hb d_CarDesk_refusalOfStep_0 rfl (lv_at hl 0 rfl) ?_
  refine lv_if_ne (tgt := 14) hx hb d_CarDesk_refusalOfStep_1 (by decide) (fun c_1 => ?_) (fun c_1 => ?_)
  · skip
    refine lv_aload_n hx hb d_CarDesk_refusalOfStep_14 rfl (lv_at hl 1 rfl) ?_
    refine cd_getN (ci := 3) (C := R_Thing) (T := F_Thing) (N := 5) (v := .int (x_tu w q)) hx hb hA i_Thing hown hE hW 8 q h_q rfl rfl 2 (by decide) nn_12 rfl rfl d_CarDesk_refusalOfStep_15 ?_
    refine lv_bipush (v := 50) hx hb d_CarDesk_refusalOfStep_18 (by decide) ?_
    refine lv_icmp_lt (tgt := 28) hx hb d_CarDesk_refusalOfStep_20 (by decide) (fun c_2 => ?_) (fun c_2 => ?_)
    · skip
      refine lv_iconst (v := 0) hx hb d_CarDesk_refusalOfStep_28 (by decide) ?_
      have hf : f_CarDesk_refusalOfStep w x q = 0 := by
        simp only [f_CarDesk_refusalOfStep, if_neg c_1, if_pos c_2]
      exact cd_iret hx hb hr hlocks hW hS d_CarDesk_refusalOfStep_29 ⟨by rw [hf], rfl, rfl, rfl⟩ (Nat.le_of_ble_eq_true rfl) (Nat.le_of_ble_eq_true rfl)
    · skip
      refine lv_bipush (v := (-4)) hx hb d_CarDesk_refusalOfStep_23 (by decide) ?_
      refine lv_goto (tgt := 29) hx hb d_CarDesk_refusalOfStep_25 (by decide) ?_
      have hf : f_CarDesk_refusalOfStep w x q = (-4) := by
        simp only [f_CarDesk_refusalOfStep, if_neg c_1, if_neg c_2]
      exact cd_iret hx hb hr hlocks hW hS d_CarDesk_refusalOfStep_29 ⟨by rw [hf], rfl, rfl, rfl⟩ (Nat.le_of_ble_eq_true rfl) (Nat.le_of_ble_eq_true rfl)
  · skip
    refine lv_aload_n hx hb d_CarDesk_refusalOfStep_4 rfl (lv_at hl 1 rfl) ?_
    refine cx_cVN (w0 := w) (x0 := .int (f_Thing_isInUse w q)) (rest := []) (n := 0) ⟨hx, hb, hml, hown, hA⟩ (cd_GA mw_69) hE hb0 hW hS 8 q h_q rfl rfl (c_Thing_isInUse l D dA b0 w q h_q) nn_13 mw_71 mw_72 mw_70 (by decide +kernel) rfl rfl ⟨by decide, by decide⟩ rfl hl.1 rfl (Nat.le_of_ble_eq_true rfl) d_CarDesk_refusalOfStep_5 ⟨by decide, by decide⟩ (fun H locs hW hS => ?_)
    refine lv_if_eq (tgt := 14) hx hb d_CarDesk_refusalOfStep_8 (by decide) (fun c_3 => ?_) (fun c_3 => ?_)
    · skip
      refine lv_aload_n hx hb d_CarDesk_refusalOfStep_14 rfl (lv_at hl 1 rfl) ?_
      refine cd_getN (ci := 3) (C := R_Thing) (T := F_Thing) (N := 5) (v := .int (x_tu w q)) hx hb hA i_Thing hown hE hW 8 q h_q rfl rfl 2 (by decide) nn_12 rfl rfl d_CarDesk_refusalOfStep_15 ?_
      refine lv_bipush (v := 50) hx hb d_CarDesk_refusalOfStep_18 (by decide) ?_
      refine lv_icmp_lt (tgt := 28) hx hb d_CarDesk_refusalOfStep_20 (by decide) (fun c_4 => ?_) (fun c_4 => ?_)
      · skip
        refine lv_iconst (v := 0) hx hb d_CarDesk_refusalOfStep_28 (by decide) ?_
        have hf : f_CarDesk_refusalOfStep w x q = 0 := by
          simp only [f_CarDesk_refusalOfStep, if_pos c_1, if_pos c_3, if_pos c_4]
        exact cd_iret hx hb hr hlocks hW hS d_CarDesk_refusalOfStep_29 ⟨by rw [hf], rfl, rfl, rfl⟩ (Nat.le_of_ble_eq_true rfl) (Nat.le_of_ble_eq_true rfl)
      · skip
        refine lv_bipush (v := (-4)) hx hb d_CarDesk_refusalOfStep_23 (by decide) ?_
        refine lv_goto (tgt := 29) hx hb d_CarDesk_refusalOfStep_25 (by decide) ?_
        have hf : f_CarDesk_refusalOfStep w x q = (-4) := by
          simp only [f_CarDesk_refusalOfStep, if_pos c_1, if_pos c_3, if_neg c_4]
        exact cd_iret hx hb hr hlocks hW hS d_CarDesk_refusalOfStep_29 ⟨by rw [hf], rfl, rfl, rfl⟩ (Nat.le_of_ble_eq_true rfl) (Nat.le_of_ble_eq_true rfl)
    · skip
      refine lv_bipush (v := (-3)) hx hb d_CarDesk_refusalOfStep_11 (by decide) ?_
      have hf : f_CarDesk_refusalOfStep w x q = (-3) := by
        simp only [f_CarDesk_refusalOfStep, if_pos c_1, if_neg c_3]
      exact cd_iret hx hb hr hlocks hW hS d_CarDesk_refusalOfStep_13 ⟨by rw [hf], rfl, rfl, rfl⟩ (Nat.le_of_ble_eq_true rfl) (Nat.le_of_ble_eq_true rfl)

def f_CarDesk_refusalOfCall (w : cx_W) (x : Int32) (o : Option Nat) (y : Int64) : Int32 := cd_oc o (-1) (fun j_2 => if (x / 6) = 3 then (cd_oc (f_CarDesk_thingForCall w x y) (-1) (fun j_7 => if (f_CarDesk_isArgument y) = 0 then (-2) else if (x / 6) = 2 then (f_CarDesk_refusalOfStep w (x - x / 6 * 6) j_2) else 0)) else if (f_CarDesk_isArgument y) = 0 then (-2) else if (x / 6) = 2 then (f_CarDesk_refusalOfStep w (x - x / 6 * 6) j_2) else 0)
set_option maxHeartbeats 4000000 in
set_option maxRecDepth 100000 in
theorem c_CarDesk_refusalOfCall (l : Launch) (D : va_G) (dA : Nat → ClassId) (b0 : Nat) (w : cx_W) (x : Int32) (o : Option Nat) (y : Int64) (hI : cx_Iv w) (h_o : ∀ j, o = some j → x_al w j) : cd_Ct l D (cx_tys dA) b0 y_CarDesk_refusalOfCall (.code y_CarDesk_refusalOfCall b_CarDesk_refusalOfCall 6 (some .int) :: cd_WA) { frames := 3, cells := 0, slots := 0, locals := 68 } [.ref (x_ad w 0 0), .int x, va_rf (o.map (x_ad w 8)), .long y] (cx_dm w) (x_ad w) (cx_ce dA w) (cx_R dA (some (.int (f_CarDesk_refusalOfCall w x o y))) w) 0 0 := by
  refine cd_Ct.of b_CarDesk_refusalOfCall 6 (some .int) (by decide) (by cases o <;> rfl) ?_
  intro p e s m below meth c hx hb hr hml hown hlocks hnm hA hE hb0 hW hS ls hl
  have hK := hE.1
  obtain ⟨o', eo⟩ : ∃ z, o = z := ⟨_, rfl⟩
  have hl : lv_has ls 6 [(0, .ref (x_ad w 0 0)), (1, .int x), (2, va_rf (o'.map (x_ad w 8))), (3, .long y)] := by
    rw [← eo]
    cases o <;> exact hl
  rcases ho_1 : o' with _ | j_2
  · skip
    rw [ho_1] at hl
    have ho_1 : o = none := eo.trans ho_1
    refine lv_aload_nN hx hb d_CarDesk_refusalOfCall_0 rfl (lv_at hl 2 rfl) ?_
    refine lv_ifnonnullN hx hb d_CarDesk_refusalOfCall_1 ?_
    refine lv_iconst (v := (-1)) hx hb d_CarDesk_refusalOfCall_4 (by decide) ?_
    have hf : f_CarDesk_refusalOfCall w x o y = (-1) := by
      simp only [f_CarDesk_refusalOfCall, cd_oc_n ho_1]
    exact cd_iret hx hb hr hlocks hW hS d_CarDesk_refusalOfCall_5 ⟨by rw [hf], rfl, rfl, rfl⟩ (Nat.le_of_ble_eq_true rfl) (Nat.le_of_ble_eq_true rfl)
  · skip
    rw [ho_1] at hl
    have ho_1 : o = some j_2 := eo.trans ho_1
    have h_j_2 : x_al w j_2 := h_o _ ho_1
    refine lv_aload_n hx hb d_CarDesk_refusalOfCall_0 rfl (lv_at hl 2 rfl) ?_
    refine lv_ifnonnull (tgt := 6) hx hb d_CarDesk_refusalOfCall_1 (by decide) ?_
    refine lv_iload_n hx hb d_CarDesk_refusalOfCall_6 rfl (lv_at hl 1 rfl) ?_
    refine lv_bipush (v := 6) hx hb d_CarDesk_refusalOfCall_7 (by decide) ?_
    refine lv_idiv hx hb d_CarDesk_refusalOfCall_9 (by decide) ?_
    refine lv_istore (lv' := [(5, .int (x / 6)), (0, .ref (x_ad w 0 0)), (1, .int x), (2, .ref (x_ad w 8 j_2)), (3, .long y)]) hx hb d_CarDesk_refusalOfCall_10 hl (by decide) rfl (fun ls hl => ?_)
    refine lv_iload hx hb d_CarDesk_refusalOfCall_12 (lv_at hl 0 rfl) ?_
    refine lv_iconst (v := 3) hx hb d_CarDesk_refusalOfCall_14 (by decide) ?_
    refine lv_icmp_ne (tgt := 29) hx hb d_CarDesk_refusalOfCall_15 (by decide) (fun c_3 => ?_) (fun c_3 => ?_)
    · skip
      refine lv_lload_n hx hb d_CarDesk_refusalOfCall_29 rfl (lv_at hl 4 rfl) ?_
      refine cx_cS (w0 := w) (x0 := .int (f_CarDesk_isArgument y)) (rest := []) (n := 1) ⟨hx, hb, hml, hown, hA⟩ (cd_GA mw_73) hE hb0 hW hS (c_CarDesk_isArgument l D dA b0 w y) mw_75 mw_74 mw_32 (by decide +kernel) rfl rfl ⟨by decide, by decide⟩ rfl hl.1 rfl (Nat.le_of_ble_eq_true rfl) d_CarDesk_refusalOfCall_30 ⟨by decide, by decide⟩ (fun H locs hW hS => ?_)
      refine lv_if_ne (tgt := 39) hx hb d_CarDesk_refusalOfCall_33 (by decide) (fun c_4 => ?_) (fun c_4 => ?_)
      · skip
        refine lv_iload hx hb d_CarDesk_refusalOfCall_39 (lv_at hl 0 rfl) ?_
        refine lv_iconst (v := 2) hx hb d_CarDesk_refusalOfCall_41 (by decide) ?_
        refine lv_icmp_ne (tgt := 56) hx hb d_CarDesk_refusalOfCall_42 (by decide) (fun c_5 => ?_) (fun c_5 => ?_)
        · skip
          refine lv_iconst (v := 0) hx hb d_CarDesk_refusalOfCall_56 (by decide) ?_
          have hf : f_CarDesk_refusalOfCall w x o y = 0 := by
            simp only [f_CarDesk_refusalOfCall, cd_oc_s ho_1, if_neg c_3, if_neg c_4, if_neg c_5]
          exact cd_iret hx hb hr hlocks hW hS d_CarDesk_refusalOfCall_57 ⟨by rw [hf], rfl, rfl, rfl⟩ (Nat.le_of_ble_eq_true rfl) (Nat.le_of_ble_eq_true rfl)
        · skip
          refine lv_iload_n hx hb d_CarDesk_refusalOfCall_45 rfl (lv_at hl 2 rfl) ?_
          refine lv_bipush (v := 6) hx hb d_CarDesk_refusalOfCall_46 (by decide) ?_
          refine lv_irem hx hb d_CarDesk_refusalOfCall_48 (by decide) ?_
          refine lv_aload_n hx hb d_CarDesk_refusalOfCall_49 rfl (lv_at hl 3 rfl) ?_
          refine cx_cS (w0 := w) (x0 := .int (f_CarDesk_refusalOfStep w (x - x / 6 * 6) j_2)) (rest := []) (n := 2) ⟨hx, hb, hml, hown, hA⟩ (cd_GA mw_76) hE hb0 hW hS (c_CarDesk_refusalOfStep l D dA b0 w (x - x / 6 * 6) j_2 h_j_2) mw_78 mw_77 mw_32 (by decide +kernel) rfl rfl ⟨by decide, by decide⟩ rfl hl.1 rfl (Nat.le_of_ble_eq_true rfl) d_CarDesk_refusalOfCall_50 ⟨by decide, by decide⟩ (fun H locs hW hS => ?_)
          refine lv_goto (tgt := 57) hx hb d_CarDesk_refusalOfCall_53 (by decide) ?_
          have hf : f_CarDesk_refusalOfCall w x o y = (f_CarDesk_refusalOfStep w (x - x / 6 * 6) j_2) := by
            simp only [f_CarDesk_refusalOfCall, cd_oc_s ho_1, if_neg c_3, if_neg c_4, if_pos c_5]
          exact cd_iret hx hb hr hlocks hW hS d_CarDesk_refusalOfCall_57 ⟨by rw [hf], rfl, rfl, rfl⟩ (Nat.le_of_ble_eq_true rfl) (Nat.le_of_ble_eq_true rfl)
      · skip
        refine lv_bipush (v := (-2)) hx hb d_CarDesk_refusalOfCall_36 (by decide) ?_
        have hf : f_CarDesk_refusalOfCall w x o y = (-2) := by
          simp only [f_CarDesk_refusalOfCall, cd_oc_s ho_1, if_neg c_3, if_pos c_4]
        exact cd_iret hx hb hr hlocks hW hS d_CarDesk_refusalOfCall_38 ⟨by rw [hf], rfl, rfl, rfl⟩ (Nat.le_of_ble_eq_true rfl) (Nat.le_of_ble_eq_true rfl)
    · skip
      refine lv_aload_n hx hb d_CarDesk_refusalOfCall_18 rfl (lv_at hl 1 rfl) ?_
      refine lv_iload_n hx hb d_CarDesk_refusalOfCall_19 rfl (lv_at hl 2 rfl) ?_
      refine lv_lload_n hx hb d_CarDesk_refusalOfCall_20 rfl (lv_at hl 4 rfl) ?_
      refine cx_cV (w0 := w) (x0 := va_rf ((f_CarDesk_thingForCall w x y).map (x_ad w 8))) (rest := []) (n := 2) ⟨hx, hb, hml, hown, hA⟩ (cd_GA mw_79) hE hb0 hW hS 0 0 rfl rfl rfl (c_CarDesk_thingForCall l D dA b0 w x y hI) mw_82 mw_80 mw_81 mw_32 (by decide +kernel) rfl rfl ⟨by decide, by decide⟩ rfl hl.1 rfl (Nat.le_of_ble_eq_true rfl) d_CarDesk_refusalOfCall_21 ⟨by decide, by decide⟩ (fun H locs hW hS => ?_)
      rcases ho_6 : (f_CarDesk_thingForCall w x y) with _ | j_7
      · skip
        refine lv_ifnonnullN hx hb d_CarDesk_refusalOfCall_24 ?_
        refine lv_iconst (v := (-1)) hx hb d_CarDesk_refusalOfCall_27 (by decide) ?_
        have hf : f_CarDesk_refusalOfCall w x o y = (-1) := by
          simp only [f_CarDesk_refusalOfCall, cd_oc_s ho_1, if_pos c_3, cd_oc_n ho_6]
        exact cd_iret hx hb hr hlocks hW hS d_CarDesk_refusalOfCall_28 ⟨by rw [hf], rfl, rfl, rfl⟩ (Nat.le_of_ble_eq_true rfl) (Nat.le_of_ble_eq_true rfl)
      · skip
        have h_j_7 : x_al w j_7 := al_thingForCall hI ho_6
        refine lv_ifnonnull (tgt := 29) hx hb d_CarDesk_refusalOfCall_24 (by decide) ?_
        refine lv_lload_n hx hb d_CarDesk_refusalOfCall_29 rfl (lv_at hl 4 rfl) ?_
        refine cx_cS (w0 := w) (x0 := .int (f_CarDesk_isArgument y)) (rest := []) (n := 1) ⟨hx, hb, hml, hown, hA⟩ (cd_GA mw_73) hE hb0 hW hS (c_CarDesk_isArgument l D dA b0 w y) mw_75 mw_74 mw_32 (by decide +kernel) rfl rfl ⟨by decide, by decide⟩ rfl hl.1 rfl (Nat.le_of_ble_eq_true rfl) d_CarDesk_refusalOfCall_30 ⟨by decide, by decide⟩ (fun H locs hW hS => ?_)
        refine lv_if_ne (tgt := 39) hx hb d_CarDesk_refusalOfCall_33 (by decide) (fun c_8 => ?_) (fun c_8 => ?_)
        · skip
          refine lv_iload hx hb d_CarDesk_refusalOfCall_39 (lv_at hl 0 rfl) ?_
          refine lv_iconst (v := 2) hx hb d_CarDesk_refusalOfCall_41 (by decide) ?_
          refine lv_icmp_ne (tgt := 56) hx hb d_CarDesk_refusalOfCall_42 (by decide) (fun c_9 => ?_) (fun c_9 => ?_)
          · skip
            refine lv_iconst (v := 0) hx hb d_CarDesk_refusalOfCall_56 (by decide) ?_
            have hf : f_CarDesk_refusalOfCall w x o y = 0 := by
              simp only [f_CarDesk_refusalOfCall, cd_oc_s ho_1, if_pos c_3, cd_oc_s ho_6, if_neg c_8, if_neg c_9]
            exact cd_iret hx hb hr hlocks hW hS d_CarDesk_refusalOfCall_57 ⟨by rw [hf], rfl, rfl, rfl⟩ (Nat.le_of_ble_eq_true rfl) (Nat.le_of_ble_eq_true rfl)
          · skip
            refine lv_iload_n hx hb d_CarDesk_refusalOfCall_45 rfl (lv_at hl 2 rfl) ?_
            refine lv_bipush (v := 6) hx hb d_CarDesk_refusalOfCall_46 (by decide) ?_
            refine lv_irem hx hb d_CarDesk_refusalOfCall_48 (by decide) ?_
            refine lv_aload_n hx hb d_CarDesk_refusalOfCall_49 rfl (lv_at hl 3 rfl) ?_
            refine cx_cS (w0 := w) (x0 := .int (f_CarDesk_refusalOfStep w (x - x / 6 * 6) j_2)) (rest := []) (n := 2) ⟨hx, hb, hml, hown, hA⟩ (cd_GA mw_76) hE hb0 hW hS (c_CarDesk_refusalOfStep l D dA b0 w (x - x / 6 * 6) j_2 h_j_2) mw_78 mw_77 mw_32 (by decide +kernel) rfl rfl ⟨by decide, by decide⟩ rfl hl.1 rfl (Nat.le_of_ble_eq_true rfl) d_CarDesk_refusalOfCall_50 ⟨by decide, by decide⟩ (fun H locs hW hS => ?_)
            refine lv_goto (tgt := 57) hx hb d_CarDesk_refusalOfCall_53 (by decide) ?_
            have hf : f_CarDesk_refusalOfCall w x o y = (f_CarDesk_refusalOfStep w (x - x / 6 * 6) j_2) := by
              simp only [f_CarDesk_refusalOfCall, cd_oc_s ho_1, if_pos c_3, cd_oc_s ho_6, if_neg c_8, if_pos c_9]
            exact cd_iret hx hb hr hlocks hW hS d_CarDesk_refusalOfCall_57 ⟨by rw [hf], rfl, rfl, rfl⟩ (Nat.le_of_ble_eq_true rfl) (Nat.le_of_ble_eq_true rfl)
        · skip
          refine lv_bipush (v := (-2)) hx hb d_CarDesk_refusalOfCall_36 (by decide) ?_
          have hf : f_CarDesk_refusalOfCall w x o y = (-2) := by
            simp only [f_CarDesk_refusalOfCall, cd_oc_s ho_1, if_pos c_3, cd_oc_s ho_6, if_pos c_8]
          exact cd_iret hx hb hr hlocks hW hS d_CarDesk_refusalOfCall_38 ⟨by rw [hf], rfl, rfl, rfl⟩ (Nat.le_of_ble_eq_true rfl) (Nat.le_of_ble_eq_true rfl)

def f_CarDesk_steppedState (w : cx_W) (x : Int32) (q : Nat) (y : Int64) : Int64 := if (x - x / 6 * 6) = 0 then ((x_st w q) ^^^ y) else if (x - x / 6 * 6) = 1 then (((31 * (x_st w q)) + y) + (x_ans w x.toNatClampNeg)) else if (x - x / 6 * 6) = 2 then (f_CarDesk_turnedLeft (x_st w q) ((y &&& 63).toInt32)) else if (x - x / 6 * 6) = 3 then (((x_st w q) + (f_Thing_stateOfSource w q)) + y) else if (x - x / 6 * 6) = 4 then ((x_st w q) + (y * (x_ans w x.toNatClampNeg))) else ((f_Shelf_sumOfStates w 1) + y)
set_option maxHeartbeats 4000000 in
set_option maxRecDepth 100000 in
theorem c_CarDesk_steppedState (l : Launch) (D : va_G) (dA : Nat → ClassId) (b0 : Nat) (w : cx_W) (x : Int32) (q : Nat) (y : Int64) (hI : cx_Iv w) (h_q : x_al w q) (hcl : vp_in x 24) : cd_Ct l D (cx_tys dA) b0 y_CarDesk_steppedState (.code y_CarDesk_steppedState b_CarDesk_steppedState 5 (some .long) :: cd_WA) { frames := 2, cells := 0, slots := 0, locals := 46 } [.ref (x_ad w 0 0), .int x, .ref (x_ad w 8 q), .long y] (cx_dm w) (x_ad w) (cx_ce dA w) (cx_R dA (some (.long (f_CarDesk_steppedState w x q y))) w) 0 0 := by
  refine cd_Ct.of b_CarDesk_steppedState 5 (some .long) (by decide) rfl ?_
  intro p e s m below meth c hx hb hr hml hown hlocks hnm hA hE hb0 hW hS ls hl
  have hK := hE.1
  have hl : lv_has ls 5 [(0, .ref (x_ad w 0 0)), (1, .int x), (2, .ref (x_ad w 8 q)), (3, .long y)] := hl
  refine lv_iload_n hx hb d_CarDesk_steppedState_0 rfl (lv_at hl 1 rfl) ?_
  refine lv_bipush (v := 6) hx hb d_CarDesk_steppedState_1 (by decide) ?_
  refine lv_irem hx hb d_CarDesk_steppedState_3 (by decide) ?_
  refine lv_topi (fun z_1 ez_1 => ?_)
  by_cases h_2 : z_1 = 0
  · skip
    subst h_2
    have c_3 : (x - x / 6 * 6) = 0 := ez_1.symm
    refine lv_tableIn (tgt := 40) (off := 36) hx hb d_CarDesk_steppedState_4 (by decide) (by decide) (by decide) (by decide) ?_
    refine lv_aload_n hx hb d_CarDesk_steppedState_40 rfl (lv_at hl 2 rfl) ?_
    refine cd_getN (ci := 3) (C := R_Thing) (T := F_Thing) (N := 5) (v := .long (x_st w q)) hx hb hA i_Thing hown hE hW 8 q h_q rfl rfl 1 (by decide) nn_5 rfl rfl d_CarDesk_steppedState_41 ?_
    refine lv_lload_n hx hb d_CarDesk_steppedState_44 rfl (lv_at hl 3 rfl) ?_
    refine lv_lxor hx hb d_CarDesk_steppedState_45 ?_
    have hf : f_CarDesk_steppedState w x q y = ((x_st w q) ^^^ y) := by
      simp only [f_CarDesk_steppedState, if_pos c_3]
    exact cd_lret hx hb hr hlocks hW hS d_CarDesk_steppedState_46 ⟨by rw [hf], rfl, rfl, rfl⟩ (Nat.le_of_ble_eq_true rfl) (Nat.le_of_ble_eq_true rfl)
  · skip
    have c_4 : ¬ (x - x / 6 * 6) = 0 := fun q => h_2 (ez_1.trans q)
    by_cases h_5 : z_1 = 1
    · skip
      subst h_5
      have c_6 : (x - x / 6 * 6) = 1 := ez_1.symm
      refine lv_tableIn (tgt := 47) (off := 43) hx hb d_CarDesk_steppedState_4 (by decide) (by decide) (by decide) (by decide) ?_
      refine lv_ldc2 (v := 31) hx hb hown (hA _ mw_83) d_CarDesk_steppedState_47 ?_
      refine lv_aload_n hx hb d_CarDesk_steppedState_50 rfl (lv_at hl 2 rfl) ?_
      refine cd_getN (ci := 3) (C := R_Thing) (T := F_Thing) (N := 5) (v := .long (x_st w q)) hx hb hA i_Thing hown hE hW 8 q h_q rfl rfl 1 (by decide) nn_5 rfl rfl d_CarDesk_steppedState_51 ?_
      refine lv_lmul hx hb d_CarDesk_steppedState_54 ?_
      refine lv_lload_n hx hb d_CarDesk_steppedState_55 rfl (lv_at hl 3 rfl) ?_
      refine lv_ladd hx hb d_CarDesk_steppedState_56 ?_
      refine lv_aload_n hx hb d_CarDesk_steppedState_57 rfl (lv_at hl 0 rfl) ?_
      refine cd_get (ci := 0) (C := R_CarDesk) (T := F_CarDesk) (N := 14) (v := .ref (x_ad w 6 0)) hx hb hA i_CarDesk hown hK hW 0 0 rfl rfl rfl 4 (by decide) mw_84 rfl rfl d_CarDesk_steppedState_58 ?_
      refine lv_iload_n hx hb d_CarDesk_steppedState_61 rfl (lv_at hl 1 rfl) ?_
      refine cd_lald hx hb hK hW 6 0 rfl 1 rfl rfl hcl d_CarDesk_steppedState_62 ?_
      refine lv_ladd hx hb d_CarDesk_steppedState_63 ?_
      have hf : f_CarDesk_steppedState w x q y = (((31 * (x_st w q)) + y) + (x_ans w x.toNatClampNeg)) := by
        simp only [f_CarDesk_steppedState, if_neg c_4, if_pos c_6]
      exact cd_lret hx hb hr hlocks hW hS d_CarDesk_steppedState_64 ⟨by rw [hf], rfl, rfl, rfl⟩ (Nat.le_of_ble_eq_true rfl) (Nat.le_of_ble_eq_true rfl)
    · skip
      have c_7 : ¬ (x - x / 6 * 6) = 1 := fun q => h_5 (ez_1.trans q)
      by_cases h_8 : z_1 = 2
      · skip
        subst h_8
        have c_9 : (x - x / 6 * 6) = 2 := ez_1.symm
        refine lv_tableIn (tgt := 65) (off := 61) hx hb d_CarDesk_steppedState_4 (by decide) (by decide) (by decide) (by decide) ?_
        refine lv_aload_n hx hb d_CarDesk_steppedState_65 rfl (lv_at hl 2 rfl) ?_
        refine cd_getN (ci := 3) (C := R_Thing) (T := F_Thing) (N := 5) (v := .long (x_st w q)) hx hb hA i_Thing hown hE hW 8 q h_q rfl rfl 1 (by decide) nn_5 rfl rfl d_CarDesk_steppedState_66 ?_
        refine lv_lload_n hx hb d_CarDesk_steppedState_69 rfl (lv_at hl 3 rfl) ?_
        refine lv_ldc2 (v := 63) hx hb hown (hA _ mw_85) d_CarDesk_steppedState_70 ?_
        refine lv_land hx hb d_CarDesk_steppedState_73 ?_
        refine lv_l2i hx hb d_CarDesk_steppedState_74 rfl ?_
        refine cx_cS (w0 := w) (x0 := .long (f_CarDesk_turnedLeft (x_st w q) ((y &&& 63).toInt32))) (rest := []) (n := 2) ⟨hx, hb, hml, hown, hA⟩ (cd_GA mw_86) hE hb0 hW hS (c_CarDesk_turnedLeft l D dA b0 w (x_st w q) ((y &&& 63).toInt32)) mw_88 mw_87 mw_32 (by decide +kernel) rfl rfl ⟨by decide, by decide⟩ rfl hl.1 rfl (Nat.le_of_ble_eq_true rfl) d_CarDesk_steppedState_75 ⟨by decide, by decide⟩ (fun H locs hW hS => ?_)
        have hf : f_CarDesk_steppedState w x q y = (f_CarDesk_turnedLeft (x_st w q) ((y &&& 63).toInt32)) := by
          simp only [f_CarDesk_steppedState, if_neg c_4, if_neg c_7, if_pos c_9]
        exact cd_lret hx hb hr hlocks hW hS d_CarDesk_steppedState_78 ⟨by rw [hf], rfl, rfl, rfl⟩ (Nat.le_of_ble_eq_true rfl) (Nat.le_of_ble_eq_true rfl)
      · skip
        have c_10 : ¬ (x - x / 6 * 6) = 2 := fun q => h_8 (ez_1.trans q)
        by_cases h_11 : z_1 = 3
        · skip
          subst h_11
          have c_12 : (x - x / 6 * 6) = 3 := ez_1.symm
          refine lv_tableIn (tgt := 79) (off := 75) hx hb d_CarDesk_steppedState_4 (by decide) (by decide) (by decide) (by decide) ?_
          refine lv_aload_n hx hb d_CarDesk_steppedState_79 rfl (lv_at hl 2 rfl) ?_
          refine cd_getN (ci := 3) (C := R_Thing) (T := F_Thing) (N := 5) (v := .long (x_st w q)) hx hb hA i_Thing hown hE hW 8 q h_q rfl rfl 1 (by decide) nn_5 rfl rfl d_CarDesk_steppedState_80 ?_
          refine lv_aload_n hx hb d_CarDesk_steppedState_83 rfl (lv_at hl 2 rfl) ?_
          refine cx_cVN (w0 := w) (x0 := .long (f_Thing_stateOfSource w q)) (rest := [.long (x_st w q)]) (n := 0) ⟨hx, hb, hml, hown, hA⟩ (cd_GA mw_89) hE hb0 hW hS 8 q h_q rfl rfl (c_Thing_stateOfSource l D dA b0 w q h_q hI) nn_14 mw_90 mw_91 mw_70 (by decide +kernel) rfl rfl ⟨by decide, by decide⟩ rfl hl.1 rfl (Nat.le_of_ble_eq_true rfl) d_CarDesk_steppedState_84 ⟨by decide, by decide⟩ (fun H locs hW hS => ?_)
          refine lv_ladd hx hb d_CarDesk_steppedState_87 ?_
          refine lv_lload_n hx hb d_CarDesk_steppedState_88 rfl (lv_at hl 3 rfl) ?_
          refine lv_ladd hx hb d_CarDesk_steppedState_89 ?_
          have hf : f_CarDesk_steppedState w x q y = (((x_st w q) + (f_Thing_stateOfSource w q)) + y) := by
            simp only [f_CarDesk_steppedState, if_neg c_4, if_neg c_7, if_neg c_10, if_pos c_12]
          exact cd_lret hx hb hr hlocks hW hS d_CarDesk_steppedState_90 ⟨by rw [hf], rfl, rfl, rfl⟩ (Nat.le_of_ble_eq_true rfl) (Nat.le_of_ble_eq_true rfl)
        · skip
          have c_13 : ¬ (x - x / 6 * 6) = 3 := fun q => h_11 (ez_1.trans q)
          by_cases h_14 : z_1 = 4
          · skip
            subst h_14
            have c_15 : (x - x / 6 * 6) = 4 := ez_1.symm
            refine lv_tableIn (tgt := 91) (off := 87) hx hb d_CarDesk_steppedState_4 (by decide) (by decide) (by decide) (by decide) ?_
            refine lv_aload_n hx hb d_CarDesk_steppedState_91 rfl (lv_at hl 2 rfl) ?_
            refine cd_getN (ci := 3) (C := R_Thing) (T := F_Thing) (N := 5) (v := .long (x_st w q)) hx hb hA i_Thing hown hE hW 8 q h_q rfl rfl 1 (by decide) nn_5 rfl rfl d_CarDesk_steppedState_92 ?_
            refine lv_lload_n hx hb d_CarDesk_steppedState_95 rfl (lv_at hl 3 rfl) ?_
            refine lv_aload_n hx hb d_CarDesk_steppedState_96 rfl (lv_at hl 0 rfl) ?_
            refine cd_get (ci := 0) (C := R_CarDesk) (T := F_CarDesk) (N := 14) (v := .ref (x_ad w 6 0)) hx hb hA i_CarDesk hown hK hW 0 0 rfl rfl rfl 4 (by decide) mw_84 rfl rfl d_CarDesk_steppedState_97 ?_
            refine lv_iload_n hx hb d_CarDesk_steppedState_100 rfl (lv_at hl 1 rfl) ?_
            refine cd_lald hx hb hK hW 6 0 rfl 1 rfl rfl hcl d_CarDesk_steppedState_101 ?_
            refine lv_lmul hx hb d_CarDesk_steppedState_102 ?_
            refine lv_ladd hx hb d_CarDesk_steppedState_103 ?_
            have hf : f_CarDesk_steppedState w x q y = ((x_st w q) + (y * (x_ans w x.toNatClampNeg))) := by
              simp only [f_CarDesk_steppedState, if_neg c_4, if_neg c_7, if_neg c_10, if_neg c_13, if_pos c_15]
            exact cd_lret hx hb hr hlocks hW hS d_CarDesk_steppedState_104 ⟨by rw [hf], rfl, rfl, rfl⟩ (Nat.le_of_ble_eq_true rfl) (Nat.le_of_ble_eq_true rfl)
          · skip
            have c_16 : ¬ (x - x / 6 * 6) = 4 := fun q => h_14 (ez_1.trans q)
            refine lv_tableOut (tgt := 105) hx hb d_CarDesk_steppedState_4 (by have g0 := cd_ne 0 0 (by decide) h_2; have g1 := cd_ne 1 1 (by decide) h_5; have g2 := cd_ne 2 2 (by decide) h_8; have g3 := cd_ne 3 3 (by decide) h_11; have g4 := cd_ne 4 4 (by decide) h_14; omega) (by decide) ?_
            refine lv_aload_n hx hb d_CarDesk_steppedState_105 rfl (lv_at hl 0 rfl) ?_
            refine cd_get (ci := 0) (C := R_CarDesk) (T := F_CarDesk) (N := 14) (v := .ref (x_ad w 3 0)) hx hb hA i_CarDesk hown hK hW 0 0 rfl rfl rfl 3 (by decide) mw_36 rfl rfl d_CarDesk_steppedState_106 ?_
            refine lv_iconst (v := 1) hx hb d_CarDesk_steppedState_109 (by decide) ?_
            refine cd_aald hx hb hK hW 3 0 rfl 2 rfl rfl (vp_in_nI (n := 1) (by decide) (by decide)) d_CarDesk_steppedState_110 ?_
            rw [show ((1 : Int32)).toNatClampNeg = 1 by decide]
            refine cx_cVN (w0 := w) (x0 := .long (f_Shelf_sumOfStates w 1)) (rest := []) (n := 0) ⟨hx, hb, hml, hown, hA⟩ (cd_GA mw_92) hE hb0 hW hS 4 1 (show (1 : Nat) < 6 from by decide) rfl rfl (c_Shelf_sumOfStates l D dA b0 w 1 (show (1 : Nat) < 6 from by decide) hI) nn_15 mw_93 mw_94 mw_13 (by decide +kernel) rfl rfl ⟨by decide, by decide⟩ rfl hl.1 rfl (Nat.le_of_ble_eq_true rfl) d_CarDesk_steppedState_111 ⟨by decide, by decide⟩ (fun H locs hW hS => ?_)
            refine lv_lload_n hx hb d_CarDesk_steppedState_114 rfl (lv_at hl 3 rfl) ?_
            refine lv_ladd hx hb d_CarDesk_steppedState_115 ?_
            have hf : f_CarDesk_steppedState w x q y = ((f_Shelf_sumOfStates w 1) + y) := by
              simp only [f_CarDesk_steppedState, if_neg c_4, if_neg c_7, if_neg c_10, if_neg c_13, if_neg c_16]
            exact cd_lret hx hb hr hlocks hW hS d_CarDesk_steppedState_116 ⟨by rw [hf], rfl, rfl, rfl⟩ (Nat.le_of_ble_eq_true rfl) (Nat.le_of_ble_eq_true rfl)

def f_CarDesk_outcomeOfCall (w : cx_W) (x : Int32) (q : Nat) (y : Int64) : Int64 := if (x / 6) = 0 then ((x_st w q) + (x_ans w x.toNatClampNeg)) else if (x / 6) = 1 then (x_st w q) else if (x / 6) = 2 then (((x_tu w q) + 1).toInt64) else cd_oc (f_CarDesk_thingForCall w x y) ((f_Thing_comparedWith w q none).toInt64) (fun j_12 => (f_Thing_comparedWith w q (some j_12)).toInt64)
set_option maxHeartbeats 4000000 in
set_option maxRecDepth 100000 in
theorem c_CarDesk_outcomeOfCall (l : Launch) (D : va_G) (dA : Nat → ClassId) (b0 : Nat) (w : cx_W) (x : Int32) (q : Nat) (y : Int64) (hI : cx_Iv w) (h_q : x_al w q) (hcl : vp_in x 24) : cd_Ct l D (cx_tys dA) b0 y_CarDesk_outcomeOfCall (.code y_CarDesk_outcomeOfCall b_CarDesk_outcomeOfCall 5 (some .long) :: cd_WA) { frames := 3, cells := 0, slots := 0, locals := 68 } [.ref (x_ad w 0 0), .int x, .ref (x_ad w 8 q), .long y] (cx_dm w) (x_ad w) (cx_ce dA w) (cx_R dA (some (.long (f_CarDesk_outcomeOfCall w x q y))) w) 0 0 := by
  refine cd_Ct.of b_CarDesk_outcomeOfCall 5 (some .long) (by decide) rfl ?_
  intro p e s m below meth c hx hb hr hml hown hlocks hnm hA hE hb0 hW hS ls hl
  have hK := hE.1
  have hl : lv_has ls 5 [(0, .ref (x_ad w 0 0)), (1, .int x), (2, .ref (x_ad w 8 q)), (3, .long y)] := hl
  refine lv_iload_n hx hb d_CarDesk_outcomeOfCall_0 rfl (lv_at hl 1 rfl) ?_
  refine lv_bipush (v := 6) hx hb d_CarDesk_outcomeOfCall_1 (by decide) ?_
  refine lv_idiv hx hb d_CarDesk_outcomeOfCall_3 (by decide) ?_
  refine lv_topi (fun z_1 ez_1 => ?_)
  by_cases h_2 : z_1 = 0
  · skip
    subst h_2
    have c_3 : (x / 6) = 0 := ez_1.symm
    refine lv_tableIn (tgt := 32) (off := 28) hx hb d_CarDesk_outcomeOfCall_4 (by decide) (by decide) (by decide) (by decide) ?_
    refine lv_aload_n hx hb d_CarDesk_outcomeOfCall_32 rfl (lv_at hl 2 rfl) ?_
    refine cd_getN (ci := 3) (C := R_Thing) (T := F_Thing) (N := 5) (v := .long (x_st w q)) hx hb hA i_Thing hown hE hW 8 q h_q rfl rfl 1 (by decide) nn_5 rfl rfl d_CarDesk_outcomeOfCall_33 ?_
    refine lv_aload_n hx hb d_CarDesk_outcomeOfCall_36 rfl (lv_at hl 0 rfl) ?_
    refine cd_get (ci := 0) (C := R_CarDesk) (T := F_CarDesk) (N := 14) (v := .ref (x_ad w 6 0)) hx hb hA i_CarDesk hown hK hW 0 0 rfl rfl rfl 4 (by decide) mw_84 rfl rfl d_CarDesk_outcomeOfCall_37 ?_
    refine lv_iload_n hx hb d_CarDesk_outcomeOfCall_40 rfl (lv_at hl 1 rfl) ?_
    refine cd_lald hx hb hK hW 6 0 rfl 1 rfl rfl hcl d_CarDesk_outcomeOfCall_41 ?_
    refine lv_ladd hx hb d_CarDesk_outcomeOfCall_42 ?_
    have hf : f_CarDesk_outcomeOfCall w x q y = ((x_st w q) + (x_ans w x.toNatClampNeg)) := by
      simp only [f_CarDesk_outcomeOfCall, if_pos c_3]
    exact cd_lret hx hb hr hlocks hW hS d_CarDesk_outcomeOfCall_43 ⟨by rw [hf], rfl, rfl, rfl⟩ (Nat.le_of_ble_eq_true rfl) (Nat.le_of_ble_eq_true rfl)
  · skip
    have c_4 : ¬ (x / 6) = 0 := fun q => h_2 (ez_1.trans q)
    by_cases h_5 : z_1 = 1
    · skip
      subst h_5
      have c_6 : (x / 6) = 1 := ez_1.symm
      refine lv_tableIn (tgt := 44) (off := 40) hx hb d_CarDesk_outcomeOfCall_4 (by decide) (by decide) (by decide) (by decide) ?_
      refine lv_aload_n hx hb d_CarDesk_outcomeOfCall_44 rfl (lv_at hl 2 rfl) ?_
      refine cd_getN (ci := 3) (C := R_Thing) (T := F_Thing) (N := 5) (v := .long (x_st w q)) hx hb hA i_Thing hown hE hW 8 q h_q rfl rfl 1 (by decide) nn_5 rfl rfl d_CarDesk_outcomeOfCall_45 ?_
      have hf : f_CarDesk_outcomeOfCall w x q y = (x_st w q) := by
        simp only [f_CarDesk_outcomeOfCall, if_neg c_4, if_pos c_6]
      exact cd_lret hx hb hr hlocks hW hS d_CarDesk_outcomeOfCall_48 ⟨by rw [hf], rfl, rfl, rfl⟩ (Nat.le_of_ble_eq_true rfl) (Nat.le_of_ble_eq_true rfl)
    · skip
      have c_7 : ¬ (x / 6) = 1 := fun q => h_5 (ez_1.trans q)
      by_cases h_8 : z_1 = 2
      · skip
        subst h_8
        have c_9 : (x / 6) = 2 := ez_1.symm
        refine lv_tableIn (tgt := 49) (off := 45) hx hb d_CarDesk_outcomeOfCall_4 (by decide) (by decide) (by decide) (by decide) ?_
        refine lv_aload_n hx hb d_CarDesk_outcomeOfCall_49 rfl (lv_at hl 2 rfl) ?_
        refine cd_getN (ci := 3) (C := R_Thing) (T := F_Thing) (N := 5) (v := .int (x_tu w q)) hx hb hA i_Thing hown hE hW 8 q h_q rfl rfl 2 (by decide) nn_12 rfl rfl d_CarDesk_outcomeOfCall_50 ?_
        refine lv_iconst (v := 1) hx hb d_CarDesk_outcomeOfCall_53 (by decide) ?_
        refine lv_iadd hx hb d_CarDesk_outcomeOfCall_54 ?_
        refine lv_i2l hx hb d_CarDesk_outcomeOfCall_55 rfl ?_
        have hf : f_CarDesk_outcomeOfCall w x q y = ((x_tu w q) + 1).toInt64 := by
          simp only [f_CarDesk_outcomeOfCall, if_neg c_4, if_neg c_7, if_pos c_9]
        exact cd_lret hx hb hr hlocks hW hS d_CarDesk_outcomeOfCall_56 ⟨by rw [hf], rfl, rfl, rfl⟩ (Nat.le_of_ble_eq_true rfl) (Nat.le_of_ble_eq_true rfl)
      · skip
        have c_10 : ¬ (x / 6) = 2 := fun q => h_8 (ez_1.trans q)
        refine lv_tableOut (tgt := 57) hx hb d_CarDesk_outcomeOfCall_4 (by have g0 := cd_ne 0 0 (by decide) h_2; have g1 := cd_ne 1 1 (by decide) h_5; have g2 := cd_ne 2 2 (by decide) h_8; omega) (by decide) ?_
        refine lv_aload_n hx hb d_CarDesk_outcomeOfCall_57 rfl (lv_at hl 2 rfl) ?_
        refine lv_aload_n hx hb d_CarDesk_outcomeOfCall_58 rfl (lv_at hl 0 rfl) ?_
        refine lv_iload_n hx hb d_CarDesk_outcomeOfCall_59 rfl (lv_at hl 1 rfl) ?_
        refine lv_lload_n hx hb d_CarDesk_outcomeOfCall_60 rfl (lv_at hl 3 rfl) ?_
        refine cx_cV (w0 := w) (x0 := va_rf ((f_CarDesk_thingForCall w x y).map (x_ad w 8))) (rest := [.ref (x_ad w 8 q)]) (n := 2) ⟨hx, hb, hml, hown, hA⟩ (cd_GA mw_79) hE hb0 hW hS 0 0 rfl rfl rfl (c_CarDesk_thingForCall l D dA b0 w x y hI) mw_82 mw_80 mw_81 mw_32 (by decide +kernel) rfl rfl ⟨by decide, by decide⟩ rfl hl.1 rfl (Nat.le_of_ble_eq_true rfl) d_CarDesk_outcomeOfCall_61 ⟨by decide, by decide⟩ (fun H locs hW hS => ?_)
        rcases ho_11 : (f_CarDesk_thingForCall w x y) with _ | j_12
        · skip
          refine cx_cVN (w0 := w) (x0 := .int (f_Thing_comparedWith w q none)) (rest := []) (n := 1) ⟨hx, hb, hml, hown, hA⟩ (cd_GA mw_95) hE hb0 hW hS 8 q h_q rfl rfl (c_Thing_comparedWith l D dA b0 w q none h_q (fun _ h => nomatch h)) nn_16 mw_96 mw_97 mw_70 (by decide +kernel) rfl rfl ⟨by decide, by decide⟩ rfl hl.1 rfl (Nat.le_of_ble_eq_true rfl) d_CarDesk_outcomeOfCall_64 ⟨by decide, by decide⟩ (fun H locs hW hS => ?_)
          refine lv_i2l hx hb d_CarDesk_outcomeOfCall_67 rfl ?_
          have hf : f_CarDesk_outcomeOfCall w x q y = (f_Thing_comparedWith w q none).toInt64 := by
            simp only [f_CarDesk_outcomeOfCall, if_neg c_4, if_neg c_7, if_neg c_10, cd_oc_n ho_11]
          exact cd_lret hx hb hr hlocks hW hS d_CarDesk_outcomeOfCall_68 ⟨by rw [hf], rfl, rfl, rfl⟩ (Nat.le_of_ble_eq_true rfl) (Nat.le_of_ble_eq_true rfl)
        · skip
          have h_j_12 : x_al w j_12 := al_thingForCall hI ho_11
          refine cx_cVN (w0 := w) (x0 := .int (f_Thing_comparedWith w q (some j_12))) (rest := []) (n := 1) ⟨hx, hb, hml, hown, hA⟩ (cd_GA mw_95) hE hb0 hW hS 8 q h_q rfl rfl (c_Thing_comparedWith l D dA b0 w q (some j_12) h_q (fun _ h => by cases h; exact h_j_12)) nn_16 mw_96 mw_97 mw_70 (by decide +kernel) rfl rfl ⟨by decide, by decide⟩ rfl hl.1 rfl (Nat.le_of_ble_eq_true rfl) d_CarDesk_outcomeOfCall_64 ⟨by decide, by decide⟩ (fun H locs hW hS => ?_)
          refine lv_i2l hx hb d_CarDesk_outcomeOfCall_67 rfl ?_
          have hf : f_CarDesk_outcomeOfCall w x q y = (f_Thing_comparedWith w q (some j_12)).toInt64 := by
            simp only [f_CarDesk_outcomeOfCall, if_neg c_4, if_neg c_7, if_neg c_10, cd_oc_s ho_11]
          exact cd_lret hx hb hr hlocks hW hS d_CarDesk_outcomeOfCall_68 ⟨by rw [hf], rfl, rfl, rfl⟩ (Nat.le_of_ble_eq_true rfl) (Nat.le_of_ble_eq_true rfl)

def f_CarDesk_changeByCall (w : cx_W) (x : Int32) (q : Nat) (y : Int64) : cx_W := if (x / 6) = 1 then (if (x / 6) = 2 then (u_tu (u_st (u_st w q y) q (f_CarDesk_steppedState (u_st w q y) x q y)) q ((x_tu w q) + 1)) else (u_st w q y)) else if (x / 6) = 2 then (u_tu (u_st w q (f_CarDesk_steppedState w x q y)) q ((x_tu w q) + 1)) else w
set_option maxHeartbeats 4000000 in
set_option maxRecDepth 100000 in
theorem c_CarDesk_changeByCall (l : Launch) (D : va_G) (dA : Nat → ClassId) (b0 : Nat) (w : cx_W) (x : Int32) (q : Nat) (y : Int64) (hI : cx_Iv w) (h_q : x_al w q) (hcl : vp_in x 24) : cd_Ct l D (cx_tys dA) b0 y_CarDesk_changeByCall (.code y_CarDesk_changeByCall b_CarDesk_changeByCall 6 none :: cd_WA) { frames := 3, cells := 0, slots := 0, locals := 70 } [.ref (x_ad w 0 0), .int x, .ref (x_ad w 8 q), .long y] (cx_dm w) (x_ad w) (cx_ce dA w) (cx_R dA none (f_CarDesk_changeByCall w x q y)) 0 0 := by
  refine cd_Ct.of b_CarDesk_changeByCall 6 none (by decide) rfl ?_
  intro p e s m below meth c hx hb hr hml hown hlocks hnm hA hE hb0 hW hS ls hl
  have hK := hE.1
  have hl : lv_has ls 6 [(0, .ref (x_ad w 0 0)), (1, .int x), (2, .ref (x_ad w 8 q)), (3, .long y)] := hl
  refine lv_iload_n hx hb d_CarDesk_changeByCall_0 rfl (lv_at hl 1 rfl) ?_
  refine lv_bipush (v := 6) hx hb d_CarDesk_changeByCall_1 (by decide) ?_
  refine lv_idiv hx hb d_CarDesk_changeByCall_3 (by decide) ?_
  refine lv_istore (lv' := [(5, .int (x / 6)), (0, .ref (x_ad w 0 0)), (1, .int x), (2, .ref (x_ad w 8 q)), (3, .long y)]) hx hb d_CarDesk_changeByCall_4 hl (by decide) rfl (fun ls hl => ?_)
  refine lv_iload hx hb d_CarDesk_changeByCall_6 (lv_at hl 0 rfl) ?_
  refine lv_iconst (v := 1) hx hb d_CarDesk_changeByCall_8 (by decide) ?_
  refine lv_icmp_ne (tgt := 17) hx hb d_CarDesk_changeByCall_9 (by decide) (fun c_1 => ?_) (fun c_1 => ?_)
  · skip
    refine lv_iload hx hb d_CarDesk_changeByCall_17 (lv_at hl 0 rfl) ?_
    refine lv_iconst (v := 2) hx hb d_CarDesk_changeByCall_19 (by decide) ?_
    refine lv_icmp_ne (tgt := 44) hx hb d_CarDesk_changeByCall_20 (by decide) (fun c_2 => ?_) (fun c_2 => ?_)
    · skip
      have hf : f_CarDesk_changeByCall w x q y = w := by
        simp only [f_CarDesk_changeByCall, if_neg c_1, if_neg c_2]
      exact cd_vret hx hb hr hlocks hW hS d_CarDesk_changeByCall_44 ⟨rfl, by rw [hf], by rw [hf], by rw [hf]⟩ (Nat.le_of_ble_eq_true rfl) (Nat.le_of_ble_eq_true rfl)
    · skip
      refine lv_aload_n hx hb d_CarDesk_changeByCall_23 rfl (lv_at hl 3 rfl) ?_
      refine lv_aload_n hx hb d_CarDesk_changeByCall_24 rfl (lv_at hl 1 rfl) ?_
      refine lv_iload_n hx hb d_CarDesk_changeByCall_25 rfl (lv_at hl 2 rfl) ?_
      refine lv_aload_n hx hb d_CarDesk_changeByCall_26 rfl (lv_at hl 3 rfl) ?_
      refine lv_lload_n hx hb d_CarDesk_changeByCall_27 rfl (lv_at hl 4 rfl) ?_
      refine cx_cV (w0 := w) (x0 := .long (f_CarDesk_steppedState w x q y)) (rest := [.ref (x_ad w 8 q)]) (n := 3) ⟨hx, hb, hml, hown, hA⟩ (cd_GA mw_98) hE hb0 hW hS 0 0 rfl rfl rfl (c_CarDesk_steppedState l D dA b0 w x q y hI h_q hcl) mw_101 mw_99 mw_100 mw_32 (by decide +kernel) rfl rfl ⟨by decide, by decide⟩ rfl hl.1 rfl (Nat.le_of_ble_eq_true rfl) d_CarDesk_changeByCall_28 ⟨by decide, by decide⟩ (fun H locs hW hS => ?_)
      refine cd_putN (ci := 3) (C := R_Thing) (T := F_Thing) (N := 5) (v := .long (f_CarDesk_steppedState w x q y)) hx hb hA i_Thing t_Thing t_Thing_ok n_Thing hown hE hW hS 8 q h_q rfl rfl 1 (by decide) nn_5 rfl rfl rfl rfl (Nat.le_of_ble_eq_true rfl) d_CarDesk_changeByCall_31 (cx_ce dA (u_st w q (f_CarDesk_steppedState w x q y))) (nw_st ..) (kp_st dA w q (f_CarDesk_steppedState w x q y)) (fun H locs hW hS => ?_)
      have hW : cx_Wo D dA b0 (u_st w q (f_CarDesk_steppedState w x q y)) H := to_st hW
      refine lv_aload_n hx hb d_CarDesk_changeByCall_34 rfl (lv_at hl 3 rfl) ?_
      refine lv_dup hx hb d_CarDesk_changeByCall_35 rfl ?_
      refine cd_getN (ci := 3) (C := R_Thing) (T := F_Thing) (N := 5) (v := .int (x_tu w q)) hx hb hA i_Thing hown hE hW 8 q h_q rfl rfl 2 (by decide) nn_12 rfl rfl d_CarDesk_changeByCall_36 ?_
      refine lv_iconst (v := 1) hx hb d_CarDesk_changeByCall_39 (by decide) ?_
      refine lv_iadd hx hb d_CarDesk_changeByCall_40 ?_
      refine cd_putN (ci := 3) (C := R_Thing) (T := F_Thing) (N := 5) (v := .int ((x_tu w q) + 1)) hx hb hA i_Thing t_Thing t_Thing_ok n_Thing hown hE hW hS 8 q h_q rfl rfl 2 (by decide) nn_12 rfl rfl rfl rfl (Nat.le_of_ble_eq_true rfl) d_CarDesk_changeByCall_41 (cx_ce dA (u_tu (u_st w q (f_CarDesk_steppedState w x q y)) q ((x_tu w q) + 1))) (nw_tu ..) (kp_tu dA (u_st w q (f_CarDesk_steppedState w x q y)) q ((x_tu w q) + 1)) (fun H locs hW hS => ?_)
      have hW : cx_Wo D dA b0 (u_tu (u_st w q (f_CarDesk_steppedState w x q y)) q ((x_tu w q) + 1)) H := to_tu hW
      have hf : f_CarDesk_changeByCall w x q y = (u_tu (u_st w q (f_CarDesk_steppedState w x q y)) q ((x_tu w q) + 1)) := by
        simp only [f_CarDesk_changeByCall, if_neg c_1, if_pos c_2]
      exact cd_vret hx hb hr hlocks hW hS d_CarDesk_changeByCall_44 ⟨rfl, by rw [hf], by rw [hf], by rw [hf]⟩ (Nat.le_of_ble_eq_true rfl) (Nat.le_of_ble_eq_true rfl)
  · skip
    refine lv_aload_n hx hb d_CarDesk_changeByCall_12 rfl (lv_at hl 3 rfl) ?_
    refine lv_lload_n hx hb d_CarDesk_changeByCall_13 rfl (lv_at hl 4 rfl) ?_
    refine cd_putN (ci := 3) (C := R_Thing) (T := F_Thing) (N := 5) (v := .long y) hx hb hA i_Thing t_Thing t_Thing_ok n_Thing hown hE hW hS 8 q h_q rfl rfl 1 (by decide) nn_5 rfl rfl rfl rfl (Nat.le_of_ble_eq_true rfl) d_CarDesk_changeByCall_14 (cx_ce dA (u_st w q y)) (nw_st ..) (kp_st dA w q y) (fun H locs hW hS => ?_)
    have hW : cx_Wo D dA b0 (u_st w q y) H := to_st hW
    refine lv_iload hx hb d_CarDesk_changeByCall_17 (lv_at hl 0 rfl) ?_
    refine lv_iconst (v := 2) hx hb d_CarDesk_changeByCall_19 (by decide) ?_
    refine lv_icmp_ne (tgt := 44) hx hb d_CarDesk_changeByCall_20 (by decide) (fun c_3 => ?_) (fun c_3 => ?_)
    · skip
      have hf : f_CarDesk_changeByCall w x q y = (u_st w q y) := by
        simp only [f_CarDesk_changeByCall, if_pos c_1, if_neg c_3]
      exact cd_vret hx hb hr hlocks hW hS d_CarDesk_changeByCall_44 ⟨rfl, by rw [hf], by rw [hf], by rw [hf]⟩ (Nat.le_of_ble_eq_true rfl) (Nat.le_of_ble_eq_true rfl)
    · skip
      refine lv_aload_n hx hb d_CarDesk_changeByCall_23 rfl (lv_at hl 3 rfl) ?_
      refine lv_aload_n hx hb d_CarDesk_changeByCall_24 rfl (lv_at hl 1 rfl) ?_
      refine lv_iload_n hx hb d_CarDesk_changeByCall_25 rfl (lv_at hl 2 rfl) ?_
      refine lv_aload_n hx hb d_CarDesk_changeByCall_26 rfl (lv_at hl 3 rfl) ?_
      refine lv_lload_n hx hb d_CarDesk_changeByCall_27 rfl (lv_at hl 4 rfl) ?_
      refine cx_cV (w0 := (u_st w q y)) (x0 := .long (f_CarDesk_steppedState (u_st w q y) x q y)) (rest := [.ref (x_ad w 8 q)]) (n := 3) ⟨hx, hb, hml, hown, hA⟩ (cd_GA mw_98) hE hb0 hW hS 0 0 rfl rfl rfl (c_CarDesk_steppedState l D dA b0 (u_st w q y) x q y hI h_q hcl) mw_101 mw_99 mw_100 mw_32 (by decide +kernel) rfl rfl ⟨by decide, by decide⟩ rfl hl.1 rfl (Nat.le_of_ble_eq_true rfl) d_CarDesk_changeByCall_28 ⟨by decide, by decide⟩ (fun H locs hW hS => ?_)
      refine cd_putN (ci := 3) (C := R_Thing) (T := F_Thing) (N := 5) (v := .long (f_CarDesk_steppedState (u_st w q y) x q y)) hx hb hA i_Thing t_Thing t_Thing_ok n_Thing hown hE hW hS 8 q h_q rfl rfl 1 (by decide) nn_5 rfl rfl rfl rfl (Nat.le_of_ble_eq_true rfl) d_CarDesk_changeByCall_31 (cx_ce dA (u_st (u_st w q y) q (f_CarDesk_steppedState (u_st w q y) x q y))) (nw_st ..) (kp_st dA (u_st w q y) q (f_CarDesk_steppedState (u_st w q y) x q y)) (fun H locs hW hS => ?_)
      have hW : cx_Wo D dA b0 (u_st (u_st w q y) q (f_CarDesk_steppedState (u_st w q y) x q y)) H := to_st hW
      refine lv_aload_n hx hb d_CarDesk_changeByCall_34 rfl (lv_at hl 3 rfl) ?_
      refine lv_dup hx hb d_CarDesk_changeByCall_35 rfl ?_
      refine cd_getN (ci := 3) (C := R_Thing) (T := F_Thing) (N := 5) (v := .int (x_tu w q)) hx hb hA i_Thing hown hE hW 8 q h_q rfl rfl 2 (by decide) nn_12 rfl rfl d_CarDesk_changeByCall_36 ?_
      refine lv_iconst (v := 1) hx hb d_CarDesk_changeByCall_39 (by decide) ?_
      refine lv_iadd hx hb d_CarDesk_changeByCall_40 ?_
      refine cd_putN (ci := 3) (C := R_Thing) (T := F_Thing) (N := 5) (v := .int ((x_tu w q) + 1)) hx hb hA i_Thing t_Thing t_Thing_ok n_Thing hown hE hW hS 8 q h_q rfl rfl 2 (by decide) nn_12 rfl rfl rfl rfl (Nat.le_of_ble_eq_true rfl) d_CarDesk_changeByCall_41 (cx_ce dA (u_tu (u_st (u_st w q y) q (f_CarDesk_steppedState (u_st w q y) x q y)) q ((x_tu w q) + 1))) (nw_tu ..) (kp_tu dA (u_st (u_st w q y) q (f_CarDesk_steppedState (u_st w q y) x q y)) q ((x_tu w q) + 1)) (fun H locs hW hS => ?_)
      have hW : cx_Wo D dA b0 (u_tu (u_st (u_st w q y) q (f_CarDesk_steppedState (u_st w q y) x q y)) q ((x_tu w q) + 1)) H := to_tu hW
      have hf : f_CarDesk_changeByCall w x q y = (u_tu (u_st (u_st w q y) q (f_CarDesk_steppedState (u_st w q y) x q y)) q ((x_tu w q) + 1)) := by
        simp only [f_CarDesk_changeByCall, if_pos c_1, if_pos c_3]
      exact cd_vret hx hb hr hlocks hW hS d_CarDesk_changeByCall_44 ⟨rfl, by rw [hf], by rw [hf], by rw [hf]⟩ (Nat.le_of_ble_eq_true rfl) (Nat.le_of_ble_eq_true rfl)
end
section
def f_CarDesk_collect (w : cx_W) (x : Int32) (y : Int64) : Int32 × cx_W := cd_oc (f_CarDesk_trayOfSort x) ((f_CarDesk_refuse w (-1)).1, (f_CarDesk_refuse w (-1)).2) (fun j_2 => if y < 0 then ((f_CarDesk_refuse w (-2)).1, (f_CarDesk_refuse w (-2)).2) else if y ≤ (cx_most j_2).toInt64 then (if (f_Tray_isFull w j_2) = 0 then ((nI (x_cnt (f_Tray_put w j_2 y.toInt32) j_2)), (u_ctr (f_Tray_put w j_2 y.toInt32) 7 ((x_ctr (f_Tray_put w j_2 y.toInt32) 7) + 1))) else ((f_CarDesk_refuse w (-4)).1, (f_CarDesk_refuse w (-4)).2)) else ((f_CarDesk_refuse w (-2)).1, (f_CarDesk_refuse w (-2)).2))
set_option maxHeartbeats 4000000 in
set_option maxRecDepth 100000 in
theorem c_CarDesk_collect (l : Launch) (D : va_G) (dA : Nat → ClassId) (b0 : Nat) (w : cx_W) (x : Int32) (y : Int64) (hI : cx_Iv w) : cd_Ct l D (cx_tys dA) b0 y_CarDesk_collect (.code y_CarDesk_collect b_CarDesk_collect 5 (some .int) :: cd_WA) { frames := 1, cells := 0, slots := 0, locals := 21 } [.ref (x_ad w 0 0), .int x, .long y] (cx_dm w) (x_ad w) (cx_ce dA w) (cx_R dA (some (.int (f_CarDesk_collect w x y).1)) (f_CarDesk_collect w x y).2) 0 0 := by
  refine cd_Ct.of b_CarDesk_collect 5 (some .int) (by decide) rfl ?_
  intro p e s m below meth c hx hb hr hml hown hlocks hnm hA hE hb0 hW hS ls hl
  have hK := hE.1
  have hl : lv_has ls 5 [(0, .ref (x_ad w 0 0)), (1, .int x), (2, .long y)] := hl
  refine lv_aload_n hx hb d_CarDesk_collect_0 rfl (lv_at hl 0 rfl) ?_
  refine lv_iload_n hx hb d_CarDesk_collect_1 rfl (lv_at hl 1 rfl) ?_
  refine cx_cV (w0 := w) (x0 := va_rf ((f_CarDesk_trayOfSort x).map (x_ad w 1))) (rest := []) (n := 1) ⟨hx, hb, hml, hown, hA⟩ (cd_GA mw_102) hE hb0 hW hS 0 0 rfl rfl rfl (c_CarDesk_trayOfSort l D dA b0 w x) mw_105 mw_103 mw_104 mw_32 (by decide +kernel) rfl rfl ⟨by decide, by decide⟩ rfl hl.1 rfl (Nat.le_of_ble_eq_true rfl) d_CarDesk_collect_2 ⟨by decide, by decide⟩ (fun H locs hW hS => ?_)
  rcases ho_1 : (f_CarDesk_trayOfSort x) with _ | j_2
  · skip
    refine lv_astoreN (lv' := [(4, .null), (0, .ref (x_ad w 0 0)), (1, .int x), (2, .long y)]) hx hb d_CarDesk_collect_5 hl (by decide) rfl (fun ls hl => ?_)
    refine lv_aloadN hx hb d_CarDesk_collect_7 (lv_at hl 0 rfl) ?_
    refine lv_ifnonnullN hx hb d_CarDesk_collect_9 ?_
    refine lv_aload_n hx hb d_CarDesk_collect_12 rfl (lv_at hl 1 rfl) ?_
    refine lv_iconst (v := (-1)) hx hb d_CarDesk_collect_13 (by decide) ?_
    refine cx_cV (w0 := (f_CarDesk_refuse w (-1)).2) (x0 := .int ((f_CarDesk_refuse w (-1)).1)) (rest := []) (n := 1) ⟨hx, hb, hml, hown, hA⟩ (cd_GA mw_106) hE hb0 hW hS 0 0 rfl rfl rfl (c_CarDesk_refuse l D dA b0 w (-1)) mw_109 mw_107 mw_108 mw_32 (by decide +kernel) rfl rfl ⟨by decide, by decide⟩ rfl hl.1 rfl (Nat.le_of_ble_eq_true rfl) d_CarDesk_collect_14 ⟨by decide, by decide⟩ (fun H locs hW hS => ?_)
    have hf : f_CarDesk_collect w x y = ((f_CarDesk_refuse w (-1)).1, (f_CarDesk_refuse w (-1)).2) := by
      simp only [f_CarDesk_collect, cd_oc_n ho_1]
    exact cd_iret hx hb hr hlocks hW hS d_CarDesk_collect_17 ⟨by rw [hf], by rw [hf], by rw [hf], by rw [hf]⟩ (Nat.le_of_ble_eq_true rfl) (Nat.le_of_ble_eq_true rfl)
  · skip
    have h_j_2 : j_2 < 3 := lt_trayOfSort ho_1
    refine lv_astore (lv' := [(4, .ref (x_ad w 1 j_2)), (0, .ref (x_ad w 0 0)), (1, .int x), (2, .long y)]) hx hb d_CarDesk_collect_5 hl (by decide) rfl (fun ls hl => ?_)
    refine lv_aload hx hb d_CarDesk_collect_7 (lv_at hl 0 rfl) ?_
    refine lv_ifnonnull (tgt := 18) hx hb d_CarDesk_collect_9 (by decide) ?_
    refine lv_lload_n hx hb d_CarDesk_collect_18 rfl (lv_at hl 3 rfl) ?_
    refine lv_lconst (v := 0) hx hb d_CarDesk_collect_19 (by decide) ?_
    refine cd_lc_lt (tgt := 35) hx hb d_CarDesk_collect_20 d_CarDesk_collect_21 (by decide) (fun c_3 => ?_) (fun c_3 => ?_)
    · skip
      refine lv_aload_n hx hb d_CarDesk_collect_35 rfl (lv_at hl 1 rfl) ?_
      refine lv_bipush (v := (-2)) hx hb d_CarDesk_collect_36 (by decide) ?_
      refine cx_cV (w0 := (f_CarDesk_refuse w (-2)).2) (x0 := .int ((f_CarDesk_refuse w (-2)).1)) (rest := []) (n := 1) ⟨hx, hb, hml, hown, hA⟩ (cd_GA mw_106) hE hb0 hW hS 0 0 rfl rfl rfl (c_CarDesk_refuse l D dA b0 w (-2)) mw_109 mw_107 mw_108 mw_32 (by decide +kernel) rfl rfl ⟨by decide, by decide⟩ rfl hl.1 rfl (Nat.le_of_ble_eq_true rfl) d_CarDesk_collect_38 ⟨by decide, by decide⟩ (fun H locs hW hS => ?_)
      have hf : f_CarDesk_collect w x y = ((f_CarDesk_refuse w (-2)).1, (f_CarDesk_refuse w (-2)).2) := by
        simp only [f_CarDesk_collect, cd_oc_s ho_1, if_pos c_3]
      exact cd_iret hx hb hr hlocks hW hS d_CarDesk_collect_41 ⟨by rw [hf], by rw [hf], by rw [hf], by rw [hf]⟩ (Nat.le_of_ble_eq_true rfl) (Nat.le_of_ble_eq_true rfl)
    · skip
      refine lv_lload_n hx hb d_CarDesk_collect_24 rfl (lv_at hl 3 rfl) ?_
      refine lv_aload hx hb d_CarDesk_collect_25 (lv_at hl 0 rfl) ?_
      refine cd_getN (ci := 1) (C := R_Tray) (T := F_Tray) (N := 3) (v := .int (cx_most j_2)) hx hb hA i_Tray hown hE hW 1 j_2 h_j_2 rfl rfl 0 (by decide) nn_17 rfl rfl d_CarDesk_collect_27 ?_
      refine lv_i2l hx hb d_CarDesk_collect_30 rfl ?_
      refine cd_lc_le (tgt := 42) hx hb d_CarDesk_collect_31 d_CarDesk_collect_32 (by decide) (fun c_4 => ?_) (fun c_4 => ?_)
      · skip
        refine lv_aload hx hb d_CarDesk_collect_42 (lv_at hl 0 rfl) ?_
        refine cx_cVN (w0 := w) (x0 := .int (f_Tray_isFull w j_2)) (rest := []) (n := 0) ⟨hx, hb, hml, hown, hA⟩ (cd_GA mw_110) hE hb0 hW hS 1 j_2 h_j_2 rfl rfl (c_Tray_isFull l D dA b0 w j_2 h_j_2) nn_18 mw_111 mw_112 mw_41 (by decide +kernel) rfl rfl ⟨by decide, by decide⟩ rfl hl.1 rfl (Nat.le_of_ble_eq_true rfl) d_CarDesk_collect_44 ⟨by decide, by decide⟩ (fun H locs hW hS => ?_)
        refine lv_if_eq (tgt := 57) hx hb d_CarDesk_collect_47 (by decide) (fun c_5 => ?_) (fun c_5 => ?_)
        · skip
          refine lv_aload hx hb d_CarDesk_collect_57 (lv_at hl 0 rfl) ?_
          refine lv_lload_n hx hb d_CarDesk_collect_59 rfl (lv_at hl 3 rfl) ?_
          refine lv_l2i hx hb d_CarDesk_collect_60 rfl ?_
          refine cx_cVN0 (w0 := (f_Tray_put w j_2 y.toInt32)) (rest := []) (n := 1) ⟨hx, hb, hml, hown, hA⟩ (cd_GA mw_113) hE hb0 hW hS 1 j_2 h_j_2 rfl rfl (c_Tray_put l D dA b0 w j_2 y.toInt32 h_j_2 (lt_full hI c_5)) nn_19 mw_114 mw_115 mw_41 (by decide +kernel) rfl rfl ⟨by decide, by decide⟩ rfl hl.1 rfl (Nat.le_of_ble_eq_true rfl) d_CarDesk_collect_61 ⟨by decide, by decide⟩ (fun H locs hW hS => ?_)
          refine lv_aload_n hx hb d_CarDesk_collect_64 rfl (lv_at hl 1 rfl) ?_
          refine lv_dup hx hb d_CarDesk_collect_65 rfl ?_
          refine cd_get (ci := 0) (C := R_CarDesk) (T := F_CarDesk) (N := 14) (v := .int (x_ctr (f_Tray_put w j_2 y.toInt32) 7)) hx hb hA i_CarDesk hown hK hW 0 0 rfl rfl rfl 13 (by decide) mw_116 rfl rfl d_CarDesk_collect_66 ?_
          refine lv_iconst (v := 1) hx hb d_CarDesk_collect_69 (by decide) ?_
          refine lv_iadd hx hb d_CarDesk_collect_70 ?_
          refine cd_put (ci := 0) (C := R_CarDesk) (T := F_CarDesk) (N := 14) (v := .int ((x_ctr (f_Tray_put w j_2 y.toInt32) 7) + 1)) hx hb hA i_CarDesk t_CarDesk t_CarDesk_ok n_CarDesk hown hK hW hS 0 0 rfl rfl rfl 13 (by decide) mw_116 rfl rfl rfl rfl (Nat.le_of_ble_eq_true rfl) d_CarDesk_collect_71 (cx_ce dA (u_ctr (f_Tray_put w j_2 y.toInt32) 7 ((x_ctr (f_Tray_put w j_2 y.toInt32) 7) + 1))) rfl (kp_ctr dA (f_Tray_put w j_2 y.toInt32) 7 ((x_ctr (f_Tray_put w j_2 y.toInt32) 7) + 1)) (fun H locs hW hS => ?_)
          have hW : cx_Wo D dA b0 (u_ctr (f_Tray_put w j_2 y.toInt32) 7 ((x_ctr (f_Tray_put w j_2 y.toInt32) 7) + 1)) H := to_ctr hW
          refine lv_aload hx hb d_CarDesk_collect_74 (lv_at hl 0 rfl) ?_
          refine cd_getN (ci := 1) (C := R_Tray) (T := F_Tray) (N := 3) (v := .int (nI (x_cnt (f_Tray_put w j_2 y.toInt32) j_2))) hx hb hA i_Tray hown hE hW 1 j_2 h_j_2 rfl rfl 2 (by decide) nn_3 rfl rfl d_CarDesk_collect_76 ?_
          have hf : f_CarDesk_collect w x y = ((nI (x_cnt (f_Tray_put w j_2 y.toInt32) j_2)), (u_ctr (f_Tray_put w j_2 y.toInt32) 7 ((x_ctr (f_Tray_put w j_2 y.toInt32) 7) + 1))) := by
            simp only [f_CarDesk_collect, cd_oc_s ho_1, if_neg c_3, if_pos c_4, if_pos c_5]
          exact cd_iret hx hb hr hlocks hW hS d_CarDesk_collect_79 ⟨by rw [hf], by rw [hf], by rw [hf], by rw [hf]⟩ (Nat.le_of_ble_eq_true rfl) (Nat.le_of_ble_eq_true rfl)
        · skip
          refine lv_aload_n hx hb d_CarDesk_collect_50 rfl (lv_at hl 1 rfl) ?_
          refine lv_bipush (v := (-4)) hx hb d_CarDesk_collect_51 (by decide) ?_
          refine cx_cV (w0 := (f_CarDesk_refuse w (-4)).2) (x0 := .int ((f_CarDesk_refuse w (-4)).1)) (rest := []) (n := 1) ⟨hx, hb, hml, hown, hA⟩ (cd_GA mw_106) hE hb0 hW hS 0 0 rfl rfl rfl (c_CarDesk_refuse l D dA b0 w (-4)) mw_109 mw_107 mw_108 mw_32 (by decide +kernel) rfl rfl ⟨by decide, by decide⟩ rfl hl.1 rfl (Nat.le_of_ble_eq_true rfl) d_CarDesk_collect_53 ⟨by decide, by decide⟩ (fun H locs hW hS => ?_)
          have hf : f_CarDesk_collect w x y = ((f_CarDesk_refuse w (-4)).1, (f_CarDesk_refuse w (-4)).2) := by
            simp only [f_CarDesk_collect, cd_oc_s ho_1, if_neg c_3, if_pos c_4, if_neg c_5]
          exact cd_iret hx hb hr hlocks hW hS d_CarDesk_collect_56 ⟨by rw [hf], by rw [hf], by rw [hf], by rw [hf]⟩ (Nat.le_of_ble_eq_true rfl) (Nat.le_of_ble_eq_true rfl)
      · skip
        refine lv_aload_n hx hb d_CarDesk_collect_35 rfl (lv_at hl 1 rfl) ?_
        refine lv_bipush (v := (-2)) hx hb d_CarDesk_collect_36 (by decide) ?_
        refine cx_cV (w0 := (f_CarDesk_refuse w (-2)).2) (x0 := .int ((f_CarDesk_refuse w (-2)).1)) (rest := []) (n := 1) ⟨hx, hb, hml, hown, hA⟩ (cd_GA mw_106) hE hb0 hW hS 0 0 rfl rfl rfl (c_CarDesk_refuse l D dA b0 w (-2)) mw_109 mw_107 mw_108 mw_32 (by decide +kernel) rfl rfl ⟨by decide, by decide⟩ rfl hl.1 rfl (Nat.le_of_ble_eq_true rfl) d_CarDesk_collect_38 ⟨by decide, by decide⟩ (fun H locs hW hS => ?_)
        have hf : f_CarDesk_collect w x y = ((f_CarDesk_refuse w (-2)).1, (f_CarDesk_refuse w (-2)).2) := by
          simp only [f_CarDesk_collect, cd_oc_s ho_1, if_neg c_3, if_neg c_4]
        exact cd_iret hx hb hr hlocks hW hS d_CarDesk_collect_41 ⟨by rw [hf], by rw [hf], by rw [hf], by rw [hf]⟩ (Nat.le_of_ble_eq_true rfl) (Nat.le_of_ble_eq_true rfl)

def f_CarDesk_answer (w : cx_W) (x : Int32) (y : Int64) : Int32 × cx_W := if (f_CarDesk_isCall x) = 0 then ((f_CarDesk_refuse w (-1)).1, (f_CarDesk_refuse w (-1)).2) else if (f_CarDesk_isArgument y) = 0 then ((f_CarDesk_refuse w (-2)).1, (f_CarDesk_refuse w (-2)).2) else (1, (u_ctr (u_ans w x.toNatClampNeg y) 7 ((x_ctr w 7) + 1)))
set_option maxHeartbeats 4000000 in
set_option maxRecDepth 100000 in
theorem c_CarDesk_answer (l : Launch) (D : va_G) (dA : Nat → ClassId) (b0 : Nat) (w : cx_W) (x : Int32) (y : Int64) : cd_Ct l D (cx_tys dA) b0 y_CarDesk_answer (.code y_CarDesk_answer b_CarDesk_answer 4 (some .int) :: cd_WA) { frames := 1, cells := 0, slots := 0, locals := 21 } [.ref (x_ad w 0 0), .int x, .long y] (cx_dm w) (x_ad w) (cx_ce dA w) (cx_R dA (some (.int (f_CarDesk_answer w x y).1)) (f_CarDesk_answer w x y).2) 0 0 := by
  refine cd_Ct.of b_CarDesk_answer 4 (some .int) (by decide) rfl ?_
  intro p e s m below meth c hx hb hr hml hown hlocks hnm hA hE hb0 hW hS ls hl
  have hK := hE.1
  have hl : lv_has ls 4 [(0, .ref (x_ad w 0 0)), (1, .int x), (2, .long y)] := hl
  refine lv_iload_n hx hb d_CarDesk_answer_0 rfl (lv_at hl 1 rfl) ?_
  refine cx_cS (w0 := w) (x0 := .int (f_CarDesk_isCall x)) (rest := []) (n := 1) ⟨hx, hb, hml, hown, hA⟩ (cd_GA mw_61) hE hb0 hW hS (c_CarDesk_isCall l D dA b0 w x) mw_63 mw_62 mw_32 (by decide +kernel) rfl rfl ⟨by decide, by decide⟩ rfl hl.1 rfl (Nat.le_of_ble_eq_true rfl) d_CarDesk_answer_1 ⟨by decide, by decide⟩ (fun H locs hW hS => ?_)
  refine lv_if_ne (tgt := 13) hx hb d_CarDesk_answer_4 (by decide) (fun c_1 => ?_) (fun c_1 => ?_)
  · skip
    refine lv_lload_n hx hb d_CarDesk_answer_13 rfl (lv_at hl 2 rfl) ?_
    refine cx_cS (w0 := w) (x0 := .int (f_CarDesk_isArgument y)) (rest := []) (n := 1) ⟨hx, hb, hml, hown, hA⟩ (cd_GA mw_73) hE hb0 hW hS (c_CarDesk_isArgument l D dA b0 w y) mw_75 mw_74 mw_32 (by decide +kernel) rfl rfl ⟨by decide, by decide⟩ rfl hl.1 rfl (Nat.le_of_ble_eq_true rfl) d_CarDesk_answer_14 ⟨by decide, by decide⟩ (fun H locs hW hS => ?_)
    refine lv_if_ne (tgt := 27) hx hb d_CarDesk_answer_17 (by decide) (fun c_2 => ?_) (fun c_2 => ?_)
    · skip
      refine lv_aload_n hx hb d_CarDesk_answer_27 rfl (lv_at hl 0 rfl) ?_
      refine cd_get (ci := 0) (C := R_CarDesk) (T := F_CarDesk) (N := 14) (v := .ref (x_ad w 6 0)) hx hb hA i_CarDesk hown hK hW 0 0 rfl rfl rfl 4 (by decide) mw_84 rfl rfl d_CarDesk_answer_28 ?_
      refine lv_iload_n hx hb d_CarDesk_answer_31 rfl (lv_at hl 1 rfl) ?_
      refine lv_lload_n hx hb d_CarDesk_answer_32 rfl (lv_at hl 2 rfl) ?_
      refine cd_last hx hb hK hW hS 6 0 rfl 1 rfl rfl (cd_call c_1) d_CarDesk_answer_33 (cx_ce dA (u_ans w x.toNatClampNeg y)) rfl (kp_ans dA w x.toNatClampNeg y) (fun H locs hW hS => ?_)
      have hW : cx_Wo D dA b0 (u_ans w x.toNatClampNeg y) H := to_ans hW
      refine lv_aload_n hx hb d_CarDesk_answer_34 rfl (lv_at hl 0 rfl) ?_
      refine lv_dup hx hb d_CarDesk_answer_35 rfl ?_
      refine cd_get (ci := 0) (C := R_CarDesk) (T := F_CarDesk) (N := 14) (v := .int (x_ctr w 7)) hx hb hA i_CarDesk hown hK hW 0 0 rfl rfl rfl 13 (by decide) mw_116 rfl rfl d_CarDesk_answer_36 ?_
      refine lv_iconst (v := 1) hx hb d_CarDesk_answer_39 (by decide) ?_
      refine lv_iadd hx hb d_CarDesk_answer_40 ?_
      refine cd_put (ci := 0) (C := R_CarDesk) (T := F_CarDesk) (N := 14) (v := .int ((x_ctr w 7) + 1)) hx hb hA i_CarDesk t_CarDesk t_CarDesk_ok n_CarDesk hown hK hW hS 0 0 rfl rfl rfl 13 (by decide) mw_116 rfl rfl rfl rfl (Nat.le_of_ble_eq_true rfl) d_CarDesk_answer_41 (cx_ce dA (u_ctr (u_ans w x.toNatClampNeg y) 7 ((x_ctr w 7) + 1))) rfl (kp_ctr dA (u_ans w x.toNatClampNeg y) 7 ((x_ctr w 7) + 1)) (fun H locs hW hS => ?_)
      have hW : cx_Wo D dA b0 (u_ctr (u_ans w x.toNatClampNeg y) 7 ((x_ctr w 7) + 1)) H := to_ctr hW
      refine lv_iconst (v := 1) hx hb d_CarDesk_answer_44 (by decide) ?_
      have hf : f_CarDesk_answer w x y = (1, (u_ctr (u_ans w x.toNatClampNeg y) 7 ((x_ctr w 7) + 1))) := by
        simp only [f_CarDesk_answer, if_neg c_1, if_neg c_2]
      exact cd_iret hx hb hr hlocks hW hS d_CarDesk_answer_45 ⟨by rw [hf], by rw [hf], by rw [hf], by rw [hf]⟩ (Nat.le_of_ble_eq_true rfl) (Nat.le_of_ble_eq_true rfl)
    · skip
      refine lv_aload_n hx hb d_CarDesk_answer_20 rfl (lv_at hl 0 rfl) ?_
      refine lv_bipush (v := (-2)) hx hb d_CarDesk_answer_21 (by decide) ?_
      refine cx_cV (w0 := (f_CarDesk_refuse w (-2)).2) (x0 := .int ((f_CarDesk_refuse w (-2)).1)) (rest := []) (n := 1) ⟨hx, hb, hml, hown, hA⟩ (cd_GA mw_106) hE hb0 hW hS 0 0 rfl rfl rfl (c_CarDesk_refuse l D dA b0 w (-2)) mw_109 mw_107 mw_108 mw_32 (by decide +kernel) rfl rfl ⟨by decide, by decide⟩ rfl hl.1 rfl (Nat.le_of_ble_eq_true rfl) d_CarDesk_answer_23 ⟨by decide, by decide⟩ (fun H locs hW hS => ?_)
      have hf : f_CarDesk_answer w x y = ((f_CarDesk_refuse w (-2)).1, (f_CarDesk_refuse w (-2)).2) := by
        simp only [f_CarDesk_answer, if_neg c_1, if_pos c_2]
      exact cd_iret hx hb hr hlocks hW hS d_CarDesk_answer_26 ⟨by rw [hf], by rw [hf], by rw [hf], by rw [hf]⟩ (Nat.le_of_ble_eq_true rfl) (Nat.le_of_ble_eq_true rfl)
  · skip
    refine lv_aload_n hx hb d_CarDesk_answer_7 rfl (lv_at hl 0 rfl) ?_
    refine lv_iconst (v := (-1)) hx hb d_CarDesk_answer_8 (by decide) ?_
    refine cx_cV (w0 := (f_CarDesk_refuse w (-1)).2) (x0 := .int ((f_CarDesk_refuse w (-1)).1)) (rest := []) (n := 1) ⟨hx, hb, hml, hown, hA⟩ (cd_GA mw_106) hE hb0 hW hS 0 0 rfl rfl rfl (c_CarDesk_refuse l D dA b0 w (-1)) mw_109 mw_107 mw_108 mw_32 (by decide +kernel) rfl rfl ⟨by decide, by decide⟩ rfl hl.1 rfl (Nat.le_of_ble_eq_true rfl) d_CarDesk_answer_9 ⟨by decide, by decide⟩ (fun H locs hW hS => ?_)
    have hf : f_CarDesk_answer w x y = ((f_CarDesk_refuse w (-1)).1, (f_CarDesk_refuse w (-1)).2) := by
      simp only [f_CarDesk_answer, if_pos c_1]
    exact cd_iret hx hb hr hlocks hW hS d_CarDesk_answer_12 ⟨by rw [hf], by rw [hf], by rw [hf], by rw [hf]⟩ (Nat.le_of_ble_eq_true rfl) (Nat.le_of_ble_eq_true rfl)

def f_CarDesk_fails (w : cx_W) (x : Int32) (y : Int32) : Int32 × cx_W := if (f_CarDesk_isCall x) = 0 then ((f_CarDesk_refuse w (-1)).1, (f_CarDesk_refuse w (-1)).2) else if y < 0 then ((f_CarDesk_refuse w (-2)).1, (f_CarDesk_refuse w (-2)).2) else if y ≤ 4 then ((x_fl w x.toNatClampNeg), (u_ctr (u_fl w x.toNatClampNeg y) 7 ((x_ctr w 7) + 1))) else ((f_CarDesk_refuse w (-2)).1, (f_CarDesk_refuse w (-2)).2)
set_option maxHeartbeats 4000000 in
set_option maxRecDepth 100000 in
theorem c_CarDesk_fails (l : Launch) (D : va_G) (dA : Nat → ClassId) (b0 : Nat) (w : cx_W) (x : Int32) (y : Int32) : cd_Ct l D (cx_tys dA) b0 y_CarDesk_fails (.code y_CarDesk_fails b_CarDesk_fails 4 (some .int) :: cd_WA) { frames := 1, cells := 0, slots := 0, locals := 21 } [.ref (x_ad w 0 0), .int x, .int y] (cx_dm w) (x_ad w) (cx_ce dA w) (cx_R dA (some (.int (f_CarDesk_fails w x y).1)) (f_CarDesk_fails w x y).2) 0 0 := by
  refine cd_Ct.of b_CarDesk_fails 4 (some .int) (by decide) rfl ?_
  intro p e s m below meth c hx hb hr hml hown hlocks hnm hA hE hb0 hW hS ls hl
  have hK := hE.1
  have hl : lv_has ls 4 [(0, .ref (x_ad w 0 0)), (1, .int x), (2, .int y)] := hl
  refine lv_iload_n hx hb d_CarDesk_fails_0 rfl (lv_at hl 1 rfl) ?_
  refine cx_cS (w0 := w) (x0 := .int (f_CarDesk_isCall x)) (rest := []) (n := 1) ⟨hx, hb, hml, hown, hA⟩ (cd_GA mw_61) hE hb0 hW hS (c_CarDesk_isCall l D dA b0 w x) mw_63 mw_62 mw_32 (by decide +kernel) rfl rfl ⟨by decide, by decide⟩ rfl hl.1 rfl (Nat.le_of_ble_eq_true rfl) d_CarDesk_fails_1 ⟨by decide, by decide⟩ (fun H locs hW hS => ?_)
  refine lv_if_ne (tgt := 13) hx hb d_CarDesk_fails_4 (by decide) (fun c_1 => ?_) (fun c_1 => ?_)
  · skip
    refine lv_iload_n hx hb d_CarDesk_fails_13 rfl (lv_at hl 2 rfl) ?_
    refine lv_if_lt (tgt := 22) hx hb d_CarDesk_fails_14 (by decide) (fun c_2 => ?_) (fun c_2 => ?_)
    · skip
      refine lv_aload_n hx hb d_CarDesk_fails_22 rfl (lv_at hl 0 rfl) ?_
      refine lv_bipush (v := (-2)) hx hb d_CarDesk_fails_23 (by decide) ?_
      refine cx_cV (w0 := (f_CarDesk_refuse w (-2)).2) (x0 := .int ((f_CarDesk_refuse w (-2)).1)) (rest := []) (n := 1) ⟨hx, hb, hml, hown, hA⟩ (cd_GA mw_106) hE hb0 hW hS 0 0 rfl rfl rfl (c_CarDesk_refuse l D dA b0 w (-2)) mw_109 mw_107 mw_108 mw_32 (by decide +kernel) rfl rfl ⟨by decide, by decide⟩ rfl hl.1 rfl (Nat.le_of_ble_eq_true rfl) d_CarDesk_fails_25 ⟨by decide, by decide⟩ (fun H locs hW hS => ?_)
      have hf : f_CarDesk_fails w x y = ((f_CarDesk_refuse w (-2)).1, (f_CarDesk_refuse w (-2)).2) := by
        simp only [f_CarDesk_fails, if_neg c_1, if_pos c_2]
      exact cd_iret hx hb hr hlocks hW hS d_CarDesk_fails_28 ⟨by rw [hf], by rw [hf], by rw [hf], by rw [hf]⟩ (Nat.le_of_ble_eq_true rfl) (Nat.le_of_ble_eq_true rfl)
    · skip
      refine lv_iload_n hx hb d_CarDesk_fails_17 rfl (lv_at hl 2 rfl) ?_
      refine lv_iconst (v := 4) hx hb d_CarDesk_fails_18 (by decide) ?_
      refine lv_icmp_le (tgt := 29) hx hb d_CarDesk_fails_19 (by decide) (fun c_3 => ?_) (fun c_3 => ?_)
      · skip
        refine lv_aload_n hx hb d_CarDesk_fails_29 rfl (lv_at hl 0 rfl) ?_
        refine cd_get (ci := 0) (C := R_CarDesk) (T := F_CarDesk) (N := 14) (v := .ref (x_ad w 7 0)) hx hb hA i_CarDesk hown hK hW 0 0 rfl rfl rfl 5 (by decide) mw_117 rfl rfl d_CarDesk_fails_30 ?_
        refine lv_iload_n hx hb d_CarDesk_fails_33 rfl (lv_at hl 1 rfl) ?_
        refine cd_iald hx hb hK hW 7 0 rfl 0 rfl rfl (cd_call c_1) d_CarDesk_fails_34 ?_
        refine lv_istore_n (lv' := [(3, .int (x_fl w x.toNatClampNeg)), (0, .ref (x_ad w 0 0)), (1, .int x), (2, .int y)]) hx hb d_CarDesk_fails_35 rfl hl (by decide) rfl (fun ls hl => ?_)
        refine lv_aload_n hx hb d_CarDesk_fails_36 rfl (lv_at hl 1 rfl) ?_
        refine cd_get (ci := 0) (C := R_CarDesk) (T := F_CarDesk) (N := 14) (v := .ref (x_ad w 7 0)) hx hb hA i_CarDesk hown hK hW 0 0 rfl rfl rfl 5 (by decide) mw_117 rfl rfl d_CarDesk_fails_37 ?_
        refine lv_iload_n hx hb d_CarDesk_fails_40 rfl (lv_at hl 2 rfl) ?_
        refine lv_iload_n hx hb d_CarDesk_fails_41 rfl (lv_at hl 3 rfl) ?_
        refine cd_iast hx hb hK hW hS 7 0 rfl 0 rfl rfl (cd_call c_1) d_CarDesk_fails_42 (cx_ce dA (u_fl w x.toNatClampNeg y)) rfl (kp_fl dA w x.toNatClampNeg y) (fun H locs hW hS => ?_)
        have hW : cx_Wo D dA b0 (u_fl w x.toNatClampNeg y) H := to_fl hW
        refine lv_aload_n hx hb d_CarDesk_fails_43 rfl (lv_at hl 1 rfl) ?_
        refine lv_dup hx hb d_CarDesk_fails_44 rfl ?_
        refine cd_get (ci := 0) (C := R_CarDesk) (T := F_CarDesk) (N := 14) (v := .int (x_ctr w 7)) hx hb hA i_CarDesk hown hK hW 0 0 rfl rfl rfl 13 (by decide) mw_116 rfl rfl d_CarDesk_fails_45 ?_
        refine lv_iconst (v := 1) hx hb d_CarDesk_fails_48 (by decide) ?_
        refine lv_iadd hx hb d_CarDesk_fails_49 ?_
        refine cd_put (ci := 0) (C := R_CarDesk) (T := F_CarDesk) (N := 14) (v := .int ((x_ctr w 7) + 1)) hx hb hA i_CarDesk t_CarDesk t_CarDesk_ok n_CarDesk hown hK hW hS 0 0 rfl rfl rfl 13 (by decide) mw_116 rfl rfl rfl rfl (Nat.le_of_ble_eq_true rfl) d_CarDesk_fails_50 (cx_ce dA (u_ctr (u_fl w x.toNatClampNeg y) 7 ((x_ctr w 7) + 1))) rfl (kp_ctr dA (u_fl w x.toNatClampNeg y) 7 ((x_ctr w 7) + 1)) (fun H locs hW hS => ?_)
        have hW : cx_Wo D dA b0 (u_ctr (u_fl w x.toNatClampNeg y) 7 ((x_ctr w 7) + 1)) H := to_ctr hW
        refine lv_iload_n hx hb d_CarDesk_fails_53 rfl (lv_at hl 0 rfl) ?_
        have hf : f_CarDesk_fails w x y = ((x_fl w x.toNatClampNeg), (u_ctr (u_fl w x.toNatClampNeg y) 7 ((x_ctr w 7) + 1))) := by
          simp only [f_CarDesk_fails, if_neg c_1, if_neg c_2, if_pos c_3]
        exact cd_iret hx hb hr hlocks hW hS d_CarDesk_fails_54 ⟨by rw [hf], by rw [hf], by rw [hf], by rw [hf]⟩ (Nat.le_of_ble_eq_true rfl) (Nat.le_of_ble_eq_true rfl)
      · skip
        refine lv_aload_n hx hb d_CarDesk_fails_22 rfl (lv_at hl 0 rfl) ?_
        refine lv_bipush (v := (-2)) hx hb d_CarDesk_fails_23 (by decide) ?_
        refine cx_cV (w0 := (f_CarDesk_refuse w (-2)).2) (x0 := .int ((f_CarDesk_refuse w (-2)).1)) (rest := []) (n := 1) ⟨hx, hb, hml, hown, hA⟩ (cd_GA mw_106) hE hb0 hW hS 0 0 rfl rfl rfl (c_CarDesk_refuse l D dA b0 w (-2)) mw_109 mw_107 mw_108 mw_32 (by decide +kernel) rfl rfl ⟨by decide, by decide⟩ rfl hl.1 rfl (Nat.le_of_ble_eq_true rfl) d_CarDesk_fails_25 ⟨by decide, by decide⟩ (fun H locs hW hS => ?_)
        have hf : f_CarDesk_fails w x y = ((f_CarDesk_refuse w (-2)).1, (f_CarDesk_refuse w (-2)).2) := by
          simp only [f_CarDesk_fails, if_neg c_1, if_neg c_2, if_neg c_3]
        exact cd_iret hx hb hr hlocks hW hS d_CarDesk_fails_28 ⟨by rw [hf], by rw [hf], by rw [hf], by rw [hf]⟩ (Nat.le_of_ble_eq_true rfl) (Nat.le_of_ble_eq_true rfl)
  · skip
    refine lv_aload_n hx hb d_CarDesk_fails_7 rfl (lv_at hl 0 rfl) ?_
    refine lv_iconst (v := (-1)) hx hb d_CarDesk_fails_8 (by decide) ?_
    refine cx_cV (w0 := (f_CarDesk_refuse w (-1)).2) (x0 := .int ((f_CarDesk_refuse w (-1)).1)) (rest := []) (n := 1) ⟨hx, hb, hml, hown, hA⟩ (cd_GA mw_106) hE hb0 hW hS 0 0 rfl rfl rfl (c_CarDesk_refuse l D dA b0 w (-1)) mw_109 mw_107 mw_108 mw_32 (by decide +kernel) rfl rfl ⟨by decide, by decide⟩ rfl hl.1 rfl (Nat.le_of_ble_eq_true rfl) d_CarDesk_fails_9 ⟨by decide, by decide⟩ (fun H locs hW hS => ?_)
    have hf : f_CarDesk_fails w x y = ((f_CarDesk_refuse w (-1)).1, (f_CarDesk_refuse w (-1)).2) := by
      simp only [f_CarDesk_fails, if_pos c_1]
    exact cd_iret hx hb hr hlocks hW hS d_CarDesk_fails_12 ⟨by rw [hf], by rw [hf], by rw [hf], by rw [hf]⟩ (Nat.le_of_ble_eq_true rfl) (Nat.le_of_ble_eq_true rfl)

def f_CarDesk_call (w : cx_W) (x : Int32) (n : Int32) (y : Int64) : Int64 × cx_W := cd_oc (f_CarDesk_thingForCall w x n.toInt64) (((f_CarDesk_refuse w (f_CarDesk_refusalOfCall w x none y)).1).toInt64, (f_CarDesk_refuse w (f_CarDesk_refusalOfCall w x none y)).2) (fun j_2 => if (f_CarDesk_refusalOfCall w x (some j_2) y) = 0 then (if (x_fl w x.toNatClampNeg) = 0 then ((f_CarDesk_outcomeOfCall (u_ctr (u_ctr w 7 ((x_ctr w 7) + 1)) 5 ((x_ctr w 5) + 1)) x j_2 y), (f_CarDesk_changeByCall (u_ctr (u_ctr w 7 ((x_ctr w 7) + 1)) 5 ((x_ctr w 5) + 1)) x j_2 y)) else (((-100) - (x_fl w x.toNatClampNeg)).toInt64, (f_CarDesk_tellFailed (u_ctr w 7 ((x_ctr w 7) + 1)) (x_fl w x.toNatClampNeg) x n))) else (((f_CarDesk_refuse w (f_CarDesk_refusalOfCall w x (some j_2) y)).1).toInt64, (f_CarDesk_refuse w (f_CarDesk_refusalOfCall w x (some j_2) y)).2))
set_option maxHeartbeats 4000000 in
set_option maxRecDepth 100000 in
theorem c_CarDesk_call (l : Launch) (D : va_G) (dA : Nat → ClassId) (b0 : Nat) (w : cx_W) (x : Int32) (n : Int32) (y : Int64) (hI : cx_Iv w) : cd_Ct l D (cx_tys dA) b0 y_CarDesk_call (.code y_CarDesk_call b_CarDesk_call 10 (some .long) :: cd_WA) { frames := 4, cells := 0, slots := 0, locals := 95 } [.ref (x_ad w 0 0), .int x, .int n, .long y] (cx_dm w) (x_ad w) (cx_ce dA w) (cx_R dA (some (.long (f_CarDesk_call w x n y).1)) (f_CarDesk_call w x n y).2) 0 0 := by
  refine cd_Ct.of b_CarDesk_call 10 (some .long) (by decide) rfl ?_
  intro p e s m below meth c hx hb hr hml hown hlocks hnm hA hE hb0 hW hS ls hl
  have hK := hE.1
  have hl : lv_has ls 10 [(0, .ref (x_ad w 0 0)), (1, .int x), (2, .int n), (3, .long y)] := hl
  refine lv_aload_n hx hb d_CarDesk_call_0 rfl (lv_at hl 0 rfl) ?_
  refine lv_iload_n hx hb d_CarDesk_call_1 rfl (lv_at hl 1 rfl) ?_
  refine lv_iload_n hx hb d_CarDesk_call_2 rfl (lv_at hl 2 rfl) ?_
  refine lv_i2l hx hb d_CarDesk_call_3 rfl ?_
  refine cx_cV (w0 := w) (x0 := va_rf ((f_CarDesk_thingForCall w x n.toInt64).map (x_ad w 8))) (rest := []) (n := 2) ⟨hx, hb, hml, hown, hA⟩ (cd_GA mw_79) hE hb0 hW hS 0 0 rfl rfl rfl (c_CarDesk_thingForCall l D dA b0 w x n.toInt64 hI) mw_82 mw_80 mw_81 mw_32 (by decide +kernel) rfl rfl ⟨by decide, by decide⟩ rfl hl.1 rfl (Nat.le_of_ble_eq_true rfl) d_CarDesk_call_4 ⟨by decide, by decide⟩ (fun H locs hW hS => ?_)
  rcases ho_1 : (f_CarDesk_thingForCall w x n.toInt64) with _ | j_2
  · skip
    refine lv_astoreN (lv' := [(5, .null), (0, .ref (x_ad w 0 0)), (1, .int x), (2, .int n), (3, .long y)]) hx hb d_CarDesk_call_7 hl (by decide) rfl (fun ls hl => ?_)
    refine lv_aload_n hx hb d_CarDesk_call_9 rfl (lv_at hl 1 rfl) ?_
    refine lv_iload_n hx hb d_CarDesk_call_10 rfl (lv_at hl 2 rfl) ?_
    refine lv_aloadN hx hb d_CarDesk_call_11 (lv_at hl 0 rfl) ?_
    refine lv_lload_n hx hb d_CarDesk_call_13 rfl (lv_at hl 4 rfl) ?_
    refine cx_cV (w0 := w) (x0 := .int (f_CarDesk_refusalOfCall w x none y)) (rest := []) (n := 3) ⟨hx, hb, hml, hown, hA⟩ (cd_GA mw_118) hE hb0 hW hS 0 0 rfl rfl rfl (c_CarDesk_refusalOfCall l D dA b0 w x none y hI (fun _ h => nomatch h)) mw_121 mw_119 mw_120 mw_32 (by decide +kernel) rfl rfl ⟨by decide, by decide⟩ rfl hl.1 rfl (Nat.le_of_ble_eq_true rfl) d_CarDesk_call_14 ⟨by decide, by decide⟩ (fun H locs hW hS => ?_)
    refine lv_istore (lv' := [(6, .int (f_CarDesk_refusalOfCall w x none y)), (5, .null), (0, .ref (x_ad w 0 0)), (1, .int x), (2, .int n), (3, .long y)]) hx hb d_CarDesk_call_17 hl (by decide) rfl (fun ls hl => ?_)
    refine lv_aloadN hx hb d_CarDesk_call_19 (lv_at hl 1 rfl) ?_
    refine lv_ifnullN (tgt := 29) hx hb d_CarDesk_call_21 (by decide) ?_
    refine lv_aload_n hx hb d_CarDesk_call_29 rfl (lv_at hl 2 rfl) ?_
    refine lv_iload hx hb d_CarDesk_call_30 (lv_at hl 0 rfl) ?_
    refine cx_cV (w0 := (f_CarDesk_refuse w (f_CarDesk_refusalOfCall w x none y)).2) (x0 := .int ((f_CarDesk_refuse w (f_CarDesk_refusalOfCall w x none y)).1)) (rest := []) (n := 1) ⟨hx, hb, hml, hown, hA⟩ (cd_GA mw_106) hE hb0 hW hS 0 0 rfl rfl rfl (c_CarDesk_refuse l D dA b0 w (f_CarDesk_refusalOfCall w x none y)) mw_109 mw_107 mw_108 mw_32 (by decide +kernel) rfl rfl ⟨by decide, by decide⟩ rfl hl.1 rfl (Nat.le_of_ble_eq_true rfl) d_CarDesk_call_32 ⟨by decide, by decide⟩ (fun H locs hW hS => ?_)
    refine lv_i2l hx hb d_CarDesk_call_35 rfl ?_
    have hf : f_CarDesk_call w x n y = (((f_CarDesk_refuse w (f_CarDesk_refusalOfCall w x none y)).1).toInt64, (f_CarDesk_refuse w (f_CarDesk_refusalOfCall w x none y)).2) := by
      simp only [f_CarDesk_call, cd_oc_n ho_1]
    exact cd_lret hx hb hr hlocks hW hS d_CarDesk_call_36 ⟨by rw [hf], by rw [hf], by rw [hf], by rw [hf]⟩ (Nat.le_of_ble_eq_true rfl) (Nat.le_of_ble_eq_true rfl)
  · skip
    have h_j_2 : x_al w j_2 := al_thingForCall hI ho_1
    refine lv_astore (lv' := [(5, .ref (x_ad w 8 j_2)), (0, .ref (x_ad w 0 0)), (1, .int x), (2, .int n), (3, .long y)]) hx hb d_CarDesk_call_7 hl (by decide) rfl (fun ls hl => ?_)
    refine lv_aload_n hx hb d_CarDesk_call_9 rfl (lv_at hl 1 rfl) ?_
    refine lv_iload_n hx hb d_CarDesk_call_10 rfl (lv_at hl 2 rfl) ?_
    refine lv_aload hx hb d_CarDesk_call_11 (lv_at hl 0 rfl) ?_
    refine lv_lload_n hx hb d_CarDesk_call_13 rfl (lv_at hl 4 rfl) ?_
    refine cx_cV (w0 := w) (x0 := .int (f_CarDesk_refusalOfCall w x (some j_2) y)) (rest := []) (n := 3) ⟨hx, hb, hml, hown, hA⟩ (cd_GA mw_118) hE hb0 hW hS 0 0 rfl rfl rfl (c_CarDesk_refusalOfCall l D dA b0 w x (some j_2) y hI (fun _ h => by cases h; exact h_j_2)) mw_121 mw_119 mw_120 mw_32 (by decide +kernel) rfl rfl ⟨by decide, by decide⟩ rfl hl.1 rfl (Nat.le_of_ble_eq_true rfl) d_CarDesk_call_14 ⟨by decide, by decide⟩ (fun H locs hW hS => ?_)
    refine lv_istore (lv' := [(6, .int (f_CarDesk_refusalOfCall w x (some j_2) y)), (5, .ref (x_ad w 8 j_2)), (0, .ref (x_ad w 0 0)), (1, .int x), (2, .int n), (3, .long y)]) hx hb d_CarDesk_call_17 hl (by decide) rfl (fun ls hl => ?_)
    refine lv_aload hx hb d_CarDesk_call_19 (lv_at hl 1 rfl) ?_
    refine lv_ifnull hx hb d_CarDesk_call_21 ?_
    refine lv_iload hx hb d_CarDesk_call_24 (lv_at hl 0 rfl) ?_
    refine lv_if_eq (tgt := 37) hx hb d_CarDesk_call_26 (by decide) (fun c_3 => ?_) (fun c_3 => ?_)
    · skip
      refine lv_aload_n hx hb d_CarDesk_call_37 rfl (lv_at hl 2 rfl) ?_
      refine lv_dup hx hb d_CarDesk_call_38 rfl ?_
      refine cd_get (ci := 0) (C := R_CarDesk) (T := F_CarDesk) (N := 14) (v := .int (x_ctr w 7)) hx hb hA i_CarDesk hown hK hW 0 0 rfl rfl rfl 13 (by decide) mw_116 rfl rfl d_CarDesk_call_39 ?_
      refine lv_iconst (v := 1) hx hb d_CarDesk_call_42 (by decide) ?_
      refine lv_iadd hx hb d_CarDesk_call_43 ?_
      refine cd_put (ci := 0) (C := R_CarDesk) (T := F_CarDesk) (N := 14) (v := .int ((x_ctr w 7) + 1)) hx hb hA i_CarDesk t_CarDesk t_CarDesk_ok n_CarDesk hown hK hW hS 0 0 rfl rfl rfl 13 (by decide) mw_116 rfl rfl rfl rfl (Nat.le_of_ble_eq_true rfl) d_CarDesk_call_44 (cx_ce dA (u_ctr w 7 ((x_ctr w 7) + 1))) rfl (kp_ctr dA w 7 ((x_ctr w 7) + 1)) (fun H locs hW hS => ?_)
      have hW : cx_Wo D dA b0 (u_ctr w 7 ((x_ctr w 7) + 1)) H := to_ctr hW
      refine lv_aload_n hx hb d_CarDesk_call_47 rfl (lv_at hl 2 rfl) ?_
      refine cd_get (ci := 0) (C := R_CarDesk) (T := F_CarDesk) (N := 14) (v := .ref (x_ad w 7 0)) hx hb hA i_CarDesk hown hK hW 0 0 rfl rfl rfl 5 (by decide) mw_117 rfl rfl d_CarDesk_call_48 ?_
      refine lv_iload_n hx hb d_CarDesk_call_51 rfl (lv_at hl 3 rfl) ?_
      refine cd_iald hx hb hK hW 7 0 rfl 0 rfl rfl (in_thingForCall ho_1) d_CarDesk_call_52 ?_
      refine lv_istore (lv' := [(7, .int (x_fl w x.toNatClampNeg)), (6, .int (f_CarDesk_refusalOfCall w x (some j_2) y)), (5, .ref (x_ad w 8 j_2)), (0, .ref (x_ad w 0 0)), (1, .int x), (2, .int n), (3, .long y)]) hx hb d_CarDesk_call_53 hl (by decide) rfl (fun ls hl => ?_)
      refine lv_iload hx hb d_CarDesk_call_55 (lv_at hl 0 rfl) ?_
      refine lv_if_eq (tgt := 75) hx hb d_CarDesk_call_57 (by decide) (fun c_4 => ?_) (fun c_4 => ?_)
      · skip
        refine lv_aload_n hx hb d_CarDesk_call_75 rfl (lv_at hl 3 rfl) ?_
        refine lv_dup hx hb d_CarDesk_call_76 rfl ?_
        refine cd_get (ci := 0) (C := R_CarDesk) (T := F_CarDesk) (N := 14) (v := .int (x_ctr w 5)) hx hb hA i_CarDesk hown hK hW 0 0 rfl rfl rfl 11 (by decide) mw_122 rfl rfl d_CarDesk_call_77 ?_
        refine lv_iconst (v := 1) hx hb d_CarDesk_call_80 (by decide) ?_
        refine lv_iadd hx hb d_CarDesk_call_81 ?_
        refine cd_put (ci := 0) (C := R_CarDesk) (T := F_CarDesk) (N := 14) (v := .int ((x_ctr w 5) + 1)) hx hb hA i_CarDesk t_CarDesk t_CarDesk_ok n_CarDesk hown hK hW hS 0 0 rfl rfl rfl 11 (by decide) mw_122 rfl rfl rfl rfl (Nat.le_of_ble_eq_true rfl) d_CarDesk_call_82 (cx_ce dA (u_ctr (u_ctr w 7 ((x_ctr w 7) + 1)) 5 ((x_ctr w 5) + 1))) rfl (kp_ctr dA (u_ctr w 7 ((x_ctr w 7) + 1)) 5 ((x_ctr w 5) + 1)) (fun H locs hW hS => ?_)
        have hW : cx_Wo D dA b0 (u_ctr (u_ctr w 7 ((x_ctr w 7) + 1)) 5 ((x_ctr w 5) + 1)) H := to_ctr hW
        refine lv_aload_n hx hb d_CarDesk_call_85 rfl (lv_at hl 3 rfl) ?_
        refine lv_iload_n hx hb d_CarDesk_call_86 rfl (lv_at hl 4 rfl) ?_
        refine lv_aload hx hb d_CarDesk_call_87 (lv_at hl 2 rfl) ?_
        refine lv_lload_n hx hb d_CarDesk_call_89 rfl (lv_at hl 6 rfl) ?_
        refine cx_cV (w0 := (u_ctr (u_ctr w 7 ((x_ctr w 7) + 1)) 5 ((x_ctr w 5) + 1))) (x0 := .long (f_CarDesk_outcomeOfCall (u_ctr (u_ctr w 7 ((x_ctr w 7) + 1)) 5 ((x_ctr w 5) + 1)) x j_2 y)) (rest := []) (n := 3) ⟨hx, hb, hml, hown, hA⟩ (cd_GA mw_123) hE hb0 hW hS 0 0 rfl rfl rfl (c_CarDesk_outcomeOfCall l D dA b0 (u_ctr (u_ctr w 7 ((x_ctr w 7) + 1)) 5 ((x_ctr w 5) + 1)) x j_2 y hI h_j_2 (in_thingForCall ho_1)) mw_126 mw_124 mw_125 mw_32 (by decide +kernel) rfl rfl ⟨by decide, by decide⟩ rfl hl.1 rfl (Nat.le_of_ble_eq_true rfl) d_CarDesk_call_90 ⟨by decide, by decide⟩ (fun H locs hW hS => ?_)
        refine lv_lstore (lv' := [(8, .long (f_CarDesk_outcomeOfCall (u_ctr (u_ctr w 7 ((x_ctr w 7) + 1)) 5 ((x_ctr w 5) + 1)) x j_2 y)), (7, .int (x_fl w x.toNatClampNeg)), (6, .int (f_CarDesk_refusalOfCall w x (some j_2) y)), (5, .ref (x_ad w 8 j_2)), (0, .ref (x_ad w 0 0)), (1, .int x), (2, .int n), (3, .long y)]) hx hb d_CarDesk_call_93 hl (by decide) rfl (fun ls hl => ?_)
        refine lv_aload_n hx hb d_CarDesk_call_95 rfl (lv_at hl 4 rfl) ?_
        refine lv_iload_n hx hb d_CarDesk_call_96 rfl (lv_at hl 5 rfl) ?_
        refine lv_aload hx hb d_CarDesk_call_97 (lv_at hl 3 rfl) ?_
        refine lv_lload_n hx hb d_CarDesk_call_99 rfl (lv_at hl 7 rfl) ?_
        refine cx_cV0 (w0 := (f_CarDesk_changeByCall (u_ctr (u_ctr w 7 ((x_ctr w 7) + 1)) 5 ((x_ctr w 5) + 1)) x j_2 y)) (rest := []) (n := 3) ⟨hx, hb, hml, hown, hA⟩ (cd_GA mw_127) hE hb0 hW hS 0 0 rfl rfl rfl (c_CarDesk_changeByCall l D dA b0 (u_ctr (u_ctr w 7 ((x_ctr w 7) + 1)) 5 ((x_ctr w 5) + 1)) x j_2 y hI h_j_2 (in_thingForCall ho_1)) mw_130 mw_128 mw_129 mw_32 (by decide +kernel) rfl rfl ⟨by decide, by decide⟩ rfl hl.1 rfl (Nat.le_of_ble_eq_true rfl) d_CarDesk_call_100 ⟨by decide, by decide⟩ (fun H locs hW hS => ?_)
        refine lv_lload hx hb d_CarDesk_call_103 (lv_at hl 0 rfl) ?_
        have hf : f_CarDesk_call w x n y = ((f_CarDesk_outcomeOfCall (u_ctr (u_ctr w 7 ((x_ctr w 7) + 1)) 5 ((x_ctr w 5) + 1)) x j_2 y), (f_CarDesk_changeByCall (u_ctr (u_ctr w 7 ((x_ctr w 7) + 1)) 5 ((x_ctr w 5) + 1)) x j_2 y)) := by
          simp only [f_CarDesk_call, cd_oc_s ho_1, if_pos c_3, if_pos c_4]
        exact cd_lret hx hb hr hlocks hW hS d_CarDesk_call_105 ⟨by rw [hf], by rw [hf], by rw [hf], by rw [hf]⟩ (Nat.le_of_ble_eq_true rfl) (Nat.le_of_ble_eq_true rfl)
      · skip
        refine lv_aload_n hx hb d_CarDesk_call_60 rfl (lv_at hl 3 rfl) ?_
        refine lv_iload hx hb d_CarDesk_call_61 (lv_at hl 0 rfl) ?_
        refine lv_iload_n hx hb d_CarDesk_call_63 rfl (lv_at hl 4 rfl) ?_
        refine lv_iload_n hx hb d_CarDesk_call_64 rfl (lv_at hl 5 rfl) ?_
        refine cx_cV0 (w0 := (f_CarDesk_tellFailed (u_ctr w 7 ((x_ctr w 7) + 1)) (x_fl w x.toNatClampNeg) x n)) (rest := []) (n := 3) ⟨hx, hb, hml, hown, hA⟩ (cd_GA mw_131) hE hb0 hW hS 0 0 rfl rfl rfl (c_CarDesk_tellFailed l D dA b0 (u_ctr w 7 ((x_ctr w 7) + 1)) (x_fl w x.toNatClampNeg) x n) mw_134 mw_132 mw_133 mw_32 (by decide +kernel) rfl rfl ⟨by decide, by decide⟩ rfl hl.1 rfl (Nat.le_of_ble_eq_true rfl) d_CarDesk_call_65 ⟨by decide, by decide⟩ (fun H locs hW hS => ?_)
        refine lv_bipush (v := (-100)) hx hb d_CarDesk_call_68 (by decide) ?_
        refine lv_iload hx hb d_CarDesk_call_70 (lv_at hl 0 rfl) ?_
        refine lv_isub hx hb d_CarDesk_call_72 ?_
        refine lv_i2l hx hb d_CarDesk_call_73 rfl ?_
        have hf : f_CarDesk_call w x n y = (((-100) - (x_fl w x.toNatClampNeg)).toInt64, (f_CarDesk_tellFailed (u_ctr w 7 ((x_ctr w 7) + 1)) (x_fl w x.toNatClampNeg) x n)) := by
          simp only [f_CarDesk_call, cd_oc_s ho_1, if_pos c_3, if_neg c_4]
        exact cd_lret hx hb hr hlocks hW hS d_CarDesk_call_74 ⟨by rw [hf], by rw [hf], by rw [hf], by rw [hf]⟩ (Nat.le_of_ble_eq_true rfl) (Nat.le_of_ble_eq_true rfl)
    · skip
      refine lv_aload_n hx hb d_CarDesk_call_29 rfl (lv_at hl 2 rfl) ?_
      refine lv_iload hx hb d_CarDesk_call_30 (lv_at hl 0 rfl) ?_
      refine cx_cV (w0 := (f_CarDesk_refuse w (f_CarDesk_refusalOfCall w x (some j_2) y)).2) (x0 := .int ((f_CarDesk_refuse w (f_CarDesk_refusalOfCall w x (some j_2) y)).1)) (rest := []) (n := 1) ⟨hx, hb, hml, hown, hA⟩ (cd_GA mw_106) hE hb0 hW hS 0 0 rfl rfl rfl (c_CarDesk_refuse l D dA b0 w (f_CarDesk_refusalOfCall w x (some j_2) y)) mw_109 mw_107 mw_108 mw_32 (by decide +kernel) rfl rfl ⟨by decide, by decide⟩ rfl hl.1 rfl (Nat.le_of_ble_eq_true rfl) d_CarDesk_call_32 ⟨by decide, by decide⟩ (fun H locs hW hS => ?_)
      refine lv_i2l hx hb d_CarDesk_call_35 rfl ?_
      have hf : f_CarDesk_call w x n y = (((f_CarDesk_refuse w (f_CarDesk_refusalOfCall w x (some j_2) y)).1).toInt64, (f_CarDesk_refuse w (f_CarDesk_refusalOfCall w x (some j_2) y)).2) := by
        simp only [f_CarDesk_call, cd_oc_s ho_1, if_neg c_3]
      exact cd_lret hx hb hr hlocks hW hS d_CarDesk_call_36 ⟨by rw [hf], by rw [hf], by rw [hf], by rw [hf]⟩ (Nat.le_of_ble_eq_true rfl) (Nat.le_of_ble_eq_true rfl)

def f_CarDesk_told (w : cx_W) (x : Int32) : Int32 := if x = 0 then (x_ctr w 0) else if x = 1 then (x_ctr w 1) else if x = 2 then (x_ctr w 2) else if x = 3 then (x_ctr w 3) else if x = 4 then (x_ctr w 4) else if x = 5 then (x_ctr w 5) else if x = 6 then (x_ctr w 6) else if x = 7 then (x_ctr w 7) else if x = 8 then (nI (x_cnt w 0)) else if x = 9 then (nI (x_cnt w 1)) else if x = 10 then (nI (x_cnt w 2)) else (-2)
set_option maxHeartbeats 4000000 in
set_option maxRecDepth 100000 in
theorem c_CarDesk_told (l : Launch) (D : va_G) (dA : Nat → ClassId) (b0 : Nat) (w : cx_W) (x : Int32) : cd_Ct l D (cx_tys dA) b0 y_CarDesk_told (.code y_CarDesk_told b_CarDesk_told 2 (some .int) :: cd_WA) { frames := 0, cells := 0, slots := 0, locals := 0 } [.ref (x_ad w 0 0), .int x] (cx_dm w) (x_ad w) (cx_ce dA w) (cx_R dA (some (.int (f_CarDesk_told w x))) w) 0 0 := by
  refine cd_Ct.of b_CarDesk_told 2 (some .int) (by decide) rfl ?_
  intro p e s m below meth c hx hb hr hml hown hlocks hnm hA hE hb0 hW hS ls hl
  have hK := hE.1
  have hl : lv_has ls 2 [(0, .ref (x_ad w 0 0)), (1, .int x)] := hl
  refine lv_iload_n hx hb d_CarDesk_told_0 rfl (lv_at hl 1 rfl) ?_
  refine lv_topi (fun z_1 ez_1 => ?_)
  by_cases h_2 : z_1 = 0
  · skip
    subst h_2
    have c_3 : x = 0 := ez_1.symm
    refine lv_tableIn (tgt := 60) (off := 59) hx hb d_CarDesk_told_1 (by decide) (by decide) (by decide) (by decide) ?_
    refine lv_aload_n hx hb d_CarDesk_told_60 rfl (lv_at hl 0 rfl) ?_
    refine cd_get (ci := 0) (C := R_CarDesk) (T := F_CarDesk) (N := 14) (v := .int (x_ctr w 0)) hx hb hA i_CarDesk hown hK hW 0 0 rfl rfl rfl 6 (by decide) mw_21 rfl rfl d_CarDesk_told_61 ?_
    have hf : f_CarDesk_told w x = (x_ctr w 0) := by
      simp only [f_CarDesk_told, if_pos c_3]
    exact cd_iret hx hb hr hlocks hW hS d_CarDesk_told_64 ⟨by rw [hf], rfl, rfl, rfl⟩ (Nat.le_of_ble_eq_true rfl) (Nat.le_of_ble_eq_true rfl)
  · skip
    have c_4 : ¬ x = 0 := fun q => h_2 (ez_1.trans q)
    by_cases h_5 : z_1 = 1
    · skip
      subst h_5
      have c_6 : x = 1 := ez_1.symm
      refine lv_tableIn (tgt := 65) (off := 64) hx hb d_CarDesk_told_1 (by decide) (by decide) (by decide) (by decide) ?_
      refine lv_aload_n hx hb d_CarDesk_told_65 rfl (lv_at hl 0 rfl) ?_
      refine cd_get (ci := 0) (C := R_CarDesk) (T := F_CarDesk) (N := 14) (v := .int (x_ctr w 1)) hx hb hA i_CarDesk hown hK hW 0 0 rfl rfl rfl 7 (by decide) mw_22 rfl rfl d_CarDesk_told_66 ?_
      have hf : f_CarDesk_told w x = (x_ctr w 1) := by
        simp only [f_CarDesk_told, if_neg c_4, if_pos c_6]
      exact cd_iret hx hb hr hlocks hW hS d_CarDesk_told_69 ⟨by rw [hf], rfl, rfl, rfl⟩ (Nat.le_of_ble_eq_true rfl) (Nat.le_of_ble_eq_true rfl)
    · skip
      have c_7 : ¬ x = 1 := fun q => h_5 (ez_1.trans q)
      by_cases h_8 : z_1 = 2
      · skip
        subst h_8
        have c_9 : x = 2 := ez_1.symm
        refine lv_tableIn (tgt := 70) (off := 69) hx hb d_CarDesk_told_1 (by decide) (by decide) (by decide) (by decide) ?_
        refine lv_aload_n hx hb d_CarDesk_told_70 rfl (lv_at hl 0 rfl) ?_
        refine cd_get (ci := 0) (C := R_CarDesk) (T := F_CarDesk) (N := 14) (v := .int (x_ctr w 2)) hx hb hA i_CarDesk hown hK hW 0 0 rfl rfl rfl 8 (by decide) mw_23 rfl rfl d_CarDesk_told_71 ?_
        have hf : f_CarDesk_told w x = (x_ctr w 2) := by
          simp only [f_CarDesk_told, if_neg c_4, if_neg c_7, if_pos c_9]
        exact cd_iret hx hb hr hlocks hW hS d_CarDesk_told_74 ⟨by rw [hf], rfl, rfl, rfl⟩ (Nat.le_of_ble_eq_true rfl) (Nat.le_of_ble_eq_true rfl)
      · skip
        have c_10 : ¬ x = 2 := fun q => h_8 (ez_1.trans q)
        by_cases h_11 : z_1 = 3
        · skip
          subst h_11
          have c_12 : x = 3 := ez_1.symm
          refine lv_tableIn (tgt := 75) (off := 74) hx hb d_CarDesk_told_1 (by decide) (by decide) (by decide) (by decide) ?_
          refine lv_aload_n hx hb d_CarDesk_told_75 rfl (lv_at hl 0 rfl) ?_
          refine cd_get (ci := 0) (C := R_CarDesk) (T := F_CarDesk) (N := 14) (v := .int (x_ctr w 3)) hx hb hA i_CarDesk hown hK hW 0 0 rfl rfl rfl 9 (by decide) mw_24 rfl rfl d_CarDesk_told_76 ?_
          have hf : f_CarDesk_told w x = (x_ctr w 3) := by
            simp only [f_CarDesk_told, if_neg c_4, if_neg c_7, if_neg c_10, if_pos c_12]
          exact cd_iret hx hb hr hlocks hW hS d_CarDesk_told_79 ⟨by rw [hf], rfl, rfl, rfl⟩ (Nat.le_of_ble_eq_true rfl) (Nat.le_of_ble_eq_true rfl)
        · skip
          have c_13 : ¬ x = 3 := fun q => h_11 (ez_1.trans q)
          by_cases h_14 : z_1 = 4
          · skip
            subst h_14
            have c_15 : x = 4 := ez_1.symm
            refine lv_tableIn (tgt := 80) (off := 79) hx hb d_CarDesk_told_1 (by decide) (by decide) (by decide) (by decide) ?_
            refine lv_aload_n hx hb d_CarDesk_told_80 rfl (lv_at hl 0 rfl) ?_
            refine cd_get (ci := 0) (C := R_CarDesk) (T := F_CarDesk) (N := 14) (v := .int (x_ctr w 4)) hx hb hA i_CarDesk hown hK hW 0 0 rfl rfl rfl 10 (by decide) mw_25 rfl rfl d_CarDesk_told_81 ?_
            have hf : f_CarDesk_told w x = (x_ctr w 4) := by
              simp only [f_CarDesk_told, if_neg c_4, if_neg c_7, if_neg c_10, if_neg c_13, if_pos c_15]
            exact cd_iret hx hb hr hlocks hW hS d_CarDesk_told_84 ⟨by rw [hf], rfl, rfl, rfl⟩ (Nat.le_of_ble_eq_true rfl) (Nat.le_of_ble_eq_true rfl)
          · skip
            have c_16 : ¬ x = 4 := fun q => h_14 (ez_1.trans q)
            by_cases h_17 : z_1 = 5
            · skip
              subst h_17
              have c_18 : x = 5 := ez_1.symm
              refine lv_tableIn (tgt := 85) (off := 84) hx hb d_CarDesk_told_1 (by decide) (by decide) (by decide) (by decide) ?_
              refine lv_aload_n hx hb d_CarDesk_told_85 rfl (lv_at hl 0 rfl) ?_
              refine cd_get (ci := 0) (C := R_CarDesk) (T := F_CarDesk) (N := 14) (v := .int (x_ctr w 5)) hx hb hA i_CarDesk hown hK hW 0 0 rfl rfl rfl 11 (by decide) mw_122 rfl rfl d_CarDesk_told_86 ?_
              have hf : f_CarDesk_told w x = (x_ctr w 5) := by
                simp only [f_CarDesk_told, if_neg c_4, if_neg c_7, if_neg c_10, if_neg c_13, if_neg c_16, if_pos c_18]
              exact cd_iret hx hb hr hlocks hW hS d_CarDesk_told_89 ⟨by rw [hf], rfl, rfl, rfl⟩ (Nat.le_of_ble_eq_true rfl) (Nat.le_of_ble_eq_true rfl)
            · skip
              have c_19 : ¬ x = 5 := fun q => h_17 (ez_1.trans q)
              by_cases h_20 : z_1 = 6
              · skip
                subst h_20
                have c_21 : x = 6 := ez_1.symm
                refine lv_tableIn (tgt := 90) (off := 89) hx hb d_CarDesk_told_1 (by decide) (by decide) (by decide) (by decide) ?_
                refine lv_aload_n hx hb d_CarDesk_told_90 rfl (lv_at hl 0 rfl) ?_
                refine cd_get (ci := 0) (C := R_CarDesk) (T := F_CarDesk) (N := 14) (v := .int (x_ctr w 6)) hx hb hA i_CarDesk hown hK hW 0 0 rfl rfl rfl 12 (by decide) mw_135 rfl rfl d_CarDesk_told_91 ?_
                have hf : f_CarDesk_told w x = (x_ctr w 6) := by
                  simp only [f_CarDesk_told, if_neg c_4, if_neg c_7, if_neg c_10, if_neg c_13, if_neg c_16, if_neg c_19, if_pos c_21]
                exact cd_iret hx hb hr hlocks hW hS d_CarDesk_told_94 ⟨by rw [hf], rfl, rfl, rfl⟩ (Nat.le_of_ble_eq_true rfl) (Nat.le_of_ble_eq_true rfl)
              · skip
                have c_22 : ¬ x = 6 := fun q => h_20 (ez_1.trans q)
                by_cases h_23 : z_1 = 7
                · skip
                  subst h_23
                  have c_24 : x = 7 := ez_1.symm
                  refine lv_tableIn (tgt := 95) (off := 94) hx hb d_CarDesk_told_1 (by decide) (by decide) (by decide) (by decide) ?_
                  refine lv_aload_n hx hb d_CarDesk_told_95 rfl (lv_at hl 0 rfl) ?_
                  refine cd_get (ci := 0) (C := R_CarDesk) (T := F_CarDesk) (N := 14) (v := .int (x_ctr w 7)) hx hb hA i_CarDesk hown hK hW 0 0 rfl rfl rfl 13 (by decide) mw_116 rfl rfl d_CarDesk_told_96 ?_
                  have hf : f_CarDesk_told w x = (x_ctr w 7) := by
                    simp only [f_CarDesk_told, if_neg c_4, if_neg c_7, if_neg c_10, if_neg c_13, if_neg c_16, if_neg c_19, if_neg c_22, if_pos c_24]
                  exact cd_iret hx hb hr hlocks hW hS d_CarDesk_told_99 ⟨by rw [hf], rfl, rfl, rfl⟩ (Nat.le_of_ble_eq_true rfl) (Nat.le_of_ble_eq_true rfl)
                · skip
                  have c_25 : ¬ x = 7 := fun q => h_23 (ez_1.trans q)
                  by_cases h_26 : z_1 = 8
                  · skip
                    subst h_26
                    have c_27 : x = 8 := ez_1.symm
                    refine lv_tableIn (tgt := 100) (off := 99) hx hb d_CarDesk_told_1 (by decide) (by decide) (by decide) (by decide) ?_
                    refine lv_aload_n hx hb d_CarDesk_told_100 rfl (lv_at hl 0 rfl) ?_
                    refine cd_get (ci := 0) (C := R_CarDesk) (T := F_CarDesk) (N := 14) (v := .ref (x_ad w 1 0)) hx hb hA i_CarDesk hown hK hW 0 0 rfl rfl rfl 0 (by decide) mw_28 rfl rfl d_CarDesk_told_101 ?_
                    refine cd_getN (ci := 1) (C := R_Tray) (T := F_Tray) (N := 3) (v := .int (nI (x_cnt w 0))) hx hb hA i_Tray hown hE hW 1 0 (show (0 : Nat) < 3 from by decide) rfl rfl 2 (by decide) nn_3 rfl rfl d_CarDesk_told_104 ?_
                    have hf : f_CarDesk_told w x = (nI (x_cnt w 0)) := by
                      simp only [f_CarDesk_told, if_neg c_4, if_neg c_7, if_neg c_10, if_neg c_13, if_neg c_16, if_neg c_19, if_neg c_22, if_neg c_25, if_pos c_27]
                    exact cd_iret hx hb hr hlocks hW hS d_CarDesk_told_107 ⟨by rw [hf], rfl, rfl, rfl⟩ (Nat.le_of_ble_eq_true rfl) (Nat.le_of_ble_eq_true rfl)
                  · skip
                    have c_28 : ¬ x = 8 := fun q => h_26 (ez_1.trans q)
                    by_cases h_29 : z_1 = 9
                    · skip
                      subst h_29
                      have c_30 : x = 9 := ez_1.symm
                      refine lv_tableIn (tgt := 108) (off := 107) hx hb d_CarDesk_told_1 (by decide) (by decide) (by decide) (by decide) ?_
                      refine lv_aload_n hx hb d_CarDesk_told_108 rfl (lv_at hl 0 rfl) ?_
                      refine cd_get (ci := 0) (C := R_CarDesk) (T := F_CarDesk) (N := 14) (v := .ref (x_ad w 1 1)) hx hb hA i_CarDesk hown hK hW 0 0 rfl rfl rfl 1 (by decide) mw_29 rfl rfl d_CarDesk_told_109 ?_
                      refine cd_getN (ci := 1) (C := R_Tray) (T := F_Tray) (N := 3) (v := .int (nI (x_cnt w 1))) hx hb hA i_Tray hown hE hW 1 1 (show (1 : Nat) < 3 from by decide) rfl rfl 2 (by decide) nn_3 rfl rfl d_CarDesk_told_112 ?_
                      have hf : f_CarDesk_told w x = (nI (x_cnt w 1)) := by
                        simp only [f_CarDesk_told, if_neg c_4, if_neg c_7, if_neg c_10, if_neg c_13, if_neg c_16, if_neg c_19, if_neg c_22, if_neg c_25, if_neg c_28, if_pos c_30]
                      exact cd_iret hx hb hr hlocks hW hS d_CarDesk_told_115 ⟨by rw [hf], rfl, rfl, rfl⟩ (Nat.le_of_ble_eq_true rfl) (Nat.le_of_ble_eq_true rfl)
                    · skip
                      have c_31 : ¬ x = 9 := fun q => h_29 (ez_1.trans q)
                      by_cases h_32 : z_1 = 10
                      · skip
                        subst h_32
                        have c_33 : x = 10 := ez_1.symm
                        refine lv_tableIn (tgt := 116) (off := 115) hx hb d_CarDesk_told_1 (by decide) (by decide) (by decide) (by decide) ?_
                        refine lv_aload_n hx hb d_CarDesk_told_116 rfl (lv_at hl 0 rfl) ?_
                        refine cd_get (ci := 0) (C := R_CarDesk) (T := F_CarDesk) (N := 14) (v := .ref (x_ad w 1 2)) hx hb hA i_CarDesk hown hK hW 0 0 rfl rfl rfl 2 (by decide) mw_30 rfl rfl d_CarDesk_told_117 ?_
                        refine cd_getN (ci := 1) (C := R_Tray) (T := F_Tray) (N := 3) (v := .int (nI (x_cnt w 2))) hx hb hA i_Tray hown hE hW 1 2 (show (2 : Nat) < 3 from by decide) rfl rfl 2 (by decide) nn_3 rfl rfl d_CarDesk_told_120 ?_
                        have hf : f_CarDesk_told w x = (nI (x_cnt w 2)) := by
                          simp only [f_CarDesk_told, if_neg c_4, if_neg c_7, if_neg c_10, if_neg c_13, if_neg c_16, if_neg c_19, if_neg c_22, if_neg c_25, if_neg c_28, if_neg c_31, if_pos c_33]
                        exact cd_iret hx hb hr hlocks hW hS d_CarDesk_told_123 ⟨by rw [hf], rfl, rfl, rfl⟩ (Nat.le_of_ble_eq_true rfl) (Nat.le_of_ble_eq_true rfl)
                      · skip
                        have c_34 : ¬ x = 10 := fun q => h_32 (ez_1.trans q)
                        refine lv_tableOut (tgt := 124) hx hb d_CarDesk_told_1 (by have g0 := cd_ne 0 0 (by decide) h_2; have g1 := cd_ne 1 1 (by decide) h_5; have g2 := cd_ne 2 2 (by decide) h_8; have g3 := cd_ne 3 3 (by decide) h_11; have g4 := cd_ne 4 4 (by decide) h_14; have g5 := cd_ne 5 5 (by decide) h_17; have g6 := cd_ne 6 6 (by decide) h_20; have g7 := cd_ne 7 7 (by decide) h_23; have g8 := cd_ne 8 8 (by decide) h_26; have g9 := cd_ne 9 9 (by decide) h_29; have g10 := cd_ne 10 10 (by decide) h_32; omega) (by decide) ?_
                        refine lv_bipush (v := (-2)) hx hb d_CarDesk_told_124 (by decide) ?_
                        have hf : f_CarDesk_told w x = (-2) := by
                          simp only [f_CarDesk_told, if_neg c_4, if_neg c_7, if_neg c_10, if_neg c_13, if_neg c_16, if_neg c_19, if_neg c_22, if_neg c_25, if_neg c_28, if_neg c_31, if_neg c_34]
                        exact cd_iret hx hb hr hlocks hW hS d_CarDesk_told_126 ⟨by rw [hf], rfl, rfl, rfl⟩ (Nat.le_of_ble_eq_true rfl) (Nat.le_of_ble_eq_true rfl)

def f_CarDesk_drop (w : cx_W) (x : Int32) : Int32 × cx_W := cd_oc (f_CarDesk_thingOf w x.toInt64) (0, (u_ctr w 0 ((x_ctr w 0) + 1))) (fun j_2 => if (f_Thing_isInUse w j_2) = 0 then (1, (u_ctr (f_Thing_leave w j_2) 7 ((x_ctr (f_Thing_leave w j_2) 7) + 1))) else (0, (u_ctr w 0 ((x_ctr w 0) + 1))))
set_option maxHeartbeats 4000000 in
set_option maxRecDepth 100000 in
theorem c_CarDesk_drop (l : Launch) (D : va_G) (dA : Nat → ClassId) (b0 : Nat) (w : cx_W) (x : Int32) (hI : cx_Iv w) : cd_Ct l D (cx_tys dA) b0 y_CarDesk_drop (.code y_CarDesk_drop b_CarDesk_drop 3 (some .boolean) :: cd_WA) { frames := 2, cells := 0, slots := 0, locals := 45 } [.ref (x_ad w 0 0), .int x] (cx_dm w) (x_ad w) (cx_ce dA w) (cx_R dA (some (.int (f_CarDesk_drop w x).1)) (f_CarDesk_drop w x).2) 0 0 := by
  refine cd_Ct.of b_CarDesk_drop 3 (some .boolean) (by decide) rfl ?_
  intro p e s m below meth c hx hb hr hml hown hlocks hnm hA hE hb0 hW hS ls hl
  have hK := hE.1
  have hl : lv_has ls 3 [(0, .ref (x_ad w 0 0)), (1, .int x)] := hl
  refine lv_aload_n hx hb d_CarDesk_drop_0 rfl (lv_at hl 0 rfl) ?_
  refine lv_iload_n hx hb d_CarDesk_drop_1 rfl (lv_at hl 1 rfl) ?_
  refine lv_i2l hx hb d_CarDesk_drop_2 rfl ?_
  refine cx_cV (w0 := w) (x0 := va_rf ((f_CarDesk_thingOf w x.toInt64).map (x_ad w 8))) (rest := []) (n := 1) ⟨hx, hb, hml, hown, hA⟩ (cd_GA mw_65) hE hb0 hW hS 0 0 rfl rfl rfl (c_CarDesk_thingOf l D dA b0 w x.toInt64 hI) mw_68 mw_66 mw_67 mw_32 (by decide +kernel) rfl rfl ⟨by decide, by decide⟩ rfl hl.1 rfl (Nat.le_of_ble_eq_true rfl) d_CarDesk_drop_3 ⟨by decide, by decide⟩ (fun H locs hW hS => ?_)
  rcases ho_1 : (f_CarDesk_thingOf w x.toInt64) with _ | j_2
  · skip
    refine lv_astore_nN (lv' := [(2, .null), (0, .ref (x_ad w 0 0)), (1, .int x)]) hx hb d_CarDesk_drop_6 rfl hl (by decide) rfl (fun ls hl => ?_)
    refine lv_aload_nN hx hb d_CarDesk_drop_7 rfl (lv_at hl 0 rfl) ?_
    refine lv_ifnullN (tgt := 18) hx hb d_CarDesk_drop_8 (by decide) ?_
    refine lv_aload_n hx hb d_CarDesk_drop_18 rfl (lv_at hl 1 rfl) ?_
    refine lv_dup hx hb d_CarDesk_drop_19 rfl ?_
    refine cd_get (ci := 0) (C := R_CarDesk) (T := F_CarDesk) (N := 14) (v := .int (x_ctr w 0)) hx hb hA i_CarDesk hown hK hW 0 0 rfl rfl rfl 6 (by decide) mw_21 rfl rfl d_CarDesk_drop_20 ?_
    refine lv_iconst (v := 1) hx hb d_CarDesk_drop_23 (by decide) ?_
    refine lv_iadd hx hb d_CarDesk_drop_24 ?_
    refine cd_put (ci := 0) (C := R_CarDesk) (T := F_CarDesk) (N := 14) (v := .int ((x_ctr w 0) + 1)) hx hb hA i_CarDesk t_CarDesk t_CarDesk_ok n_CarDesk hown hK hW hS 0 0 rfl rfl rfl 6 (by decide) mw_21 rfl rfl rfl rfl (Nat.le_of_ble_eq_true rfl) d_CarDesk_drop_25 (cx_ce dA (u_ctr w 0 ((x_ctr w 0) + 1))) rfl (kp_ctr dA w 0 ((x_ctr w 0) + 1)) (fun H locs hW hS => ?_)
    have hW : cx_Wo D dA b0 (u_ctr w 0 ((x_ctr w 0) + 1)) H := to_ctr hW
    refine lv_iconst (v := 0) hx hb d_CarDesk_drop_28 (by decide) ?_
    have hf : f_CarDesk_drop w x = (0, (u_ctr w 0 ((x_ctr w 0) + 1))) := by
      simp only [f_CarDesk_drop, cd_oc_n ho_1]
    exact cd_zret hx hb hr hlocks hW hS d_CarDesk_drop_29 (by decide) ⟨by rw [hf], by rw [hf], by rw [hf], by rw [hf]⟩ (Nat.le_of_ble_eq_true rfl) (Nat.le_of_ble_eq_true rfl)
  · skip
    have h_j_2 : x_al w j_2 := al_thingOf hI ho_1
    refine lv_astore_n (lv' := [(2, .ref (x_ad w 8 j_2)), (0, .ref (x_ad w 0 0)), (1, .int x)]) hx hb d_CarDesk_drop_6 rfl hl (by decide) rfl (fun ls hl => ?_)
    refine lv_aload_n hx hb d_CarDesk_drop_7 rfl (lv_at hl 0 rfl) ?_
    refine lv_ifnull hx hb d_CarDesk_drop_8 ?_
    refine lv_aload_n hx hb d_CarDesk_drop_11 rfl (lv_at hl 0 rfl) ?_
    refine cx_cVN (w0 := w) (x0 := .int (f_Thing_isInUse w j_2)) (rest := []) (n := 0) ⟨hx, hb, hml, hown, hA⟩ (cd_GA mw_69) hE hb0 hW hS 8 j_2 h_j_2 rfl rfl (c_Thing_isInUse l D dA b0 w j_2 h_j_2) nn_13 mw_71 mw_72 mw_70 (by decide +kernel) rfl rfl ⟨by decide, by decide⟩ rfl hl.1 rfl (Nat.le_of_ble_eq_true rfl) d_CarDesk_drop_12 ⟨by decide, by decide⟩ (fun H locs hW hS => ?_)
    refine lv_if_eq (tgt := 30) hx hb d_CarDesk_drop_15 (by decide) (fun c_3 => ?_) (fun c_3 => ?_)
    · skip
      refine lv_aload_n hx hb d_CarDesk_drop_30 rfl (lv_at hl 0 rfl) ?_
      refine cx_cVN0 (w0 := (f_Thing_leave w j_2)) (rest := []) (n := 0) ⟨hx, hb, hml, hown, hA⟩ (cd_GA mw_136) hE hb0 hW hS 8 j_2 h_j_2 rfl rfl (c_Thing_leave l D dA b0 w j_2 h_j_2 hI) nn_20 mw_137 mw_138 mw_70 (by decide +kernel) rfl rfl ⟨by decide, by decide⟩ rfl hl.1 rfl (Nat.le_of_ble_eq_true rfl) d_CarDesk_drop_31 ⟨by decide, by decide⟩ (fun H locs hW hS => ?_)
      refine lv_aload_n hx hb d_CarDesk_drop_34 rfl (lv_at hl 1 rfl) ?_
      refine lv_dup hx hb d_CarDesk_drop_35 rfl ?_
      refine cd_get (ci := 0) (C := R_CarDesk) (T := F_CarDesk) (N := 14) (v := .int (x_ctr (f_Thing_leave w j_2) 7)) hx hb hA i_CarDesk hown hK hW 0 0 rfl rfl rfl 13 (by decide) mw_116 rfl rfl d_CarDesk_drop_36 ?_
      refine lv_iconst (v := 1) hx hb d_CarDesk_drop_39 (by decide) ?_
      refine lv_iadd hx hb d_CarDesk_drop_40 ?_
      refine cd_put (ci := 0) (C := R_CarDesk) (T := F_CarDesk) (N := 14) (v := .int ((x_ctr (f_Thing_leave w j_2) 7) + 1)) hx hb hA i_CarDesk t_CarDesk t_CarDesk_ok n_CarDesk hown hK hW hS 0 0 rfl rfl rfl 13 (by decide) mw_116 rfl rfl rfl rfl (Nat.le_of_ble_eq_true rfl) d_CarDesk_drop_41 (cx_ce dA (u_ctr (f_Thing_leave w j_2) 7 ((x_ctr (f_Thing_leave w j_2) 7) + 1))) rfl (kp_ctr dA (f_Thing_leave w j_2) 7 ((x_ctr (f_Thing_leave w j_2) 7) + 1)) (fun H locs hW hS => ?_)
      have hW : cx_Wo D dA b0 (u_ctr (f_Thing_leave w j_2) 7 ((x_ctr (f_Thing_leave w j_2) 7) + 1)) H := to_ctr hW
      refine lv_iconst (v := 1) hx hb d_CarDesk_drop_44 (by decide) ?_
      have hf : f_CarDesk_drop w x = (1, (u_ctr (f_Thing_leave w j_2) 7 ((x_ctr (f_Thing_leave w j_2) 7) + 1))) := by
        simp only [f_CarDesk_drop, cd_oc_s ho_1, if_pos c_3]
      exact cd_zret hx hb hr hlocks hW hS d_CarDesk_drop_45 (by decide) ⟨by rw [hf], by rw [hf], by rw [hf], by rw [hf]⟩ (Nat.le_of_ble_eq_true rfl) (Nat.le_of_ble_eq_true rfl)
    · skip
      refine lv_aload_n hx hb d_CarDesk_drop_18 rfl (lv_at hl 1 rfl) ?_
      refine lv_dup hx hb d_CarDesk_drop_19 rfl ?_
      refine cd_get (ci := 0) (C := R_CarDesk) (T := F_CarDesk) (N := 14) (v := .int (x_ctr w 0)) hx hb hA i_CarDesk hown hK hW 0 0 rfl rfl rfl 6 (by decide) mw_21 rfl rfl d_CarDesk_drop_20 ?_
      refine lv_iconst (v := 1) hx hb d_CarDesk_drop_23 (by decide) ?_
      refine lv_iadd hx hb d_CarDesk_drop_24 ?_
      refine cd_put (ci := 0) (C := R_CarDesk) (T := F_CarDesk) (N := 14) (v := .int ((x_ctr w 0) + 1)) hx hb hA i_CarDesk t_CarDesk t_CarDesk_ok n_CarDesk hown hK hW hS 0 0 rfl rfl rfl 6 (by decide) mw_21 rfl rfl rfl rfl (Nat.le_of_ble_eq_true rfl) d_CarDesk_drop_25 (cx_ce dA (u_ctr w 0 ((x_ctr w 0) + 1))) rfl (kp_ctr dA w 0 ((x_ctr w 0) + 1)) (fun H locs hW hS => ?_)
      have hW : cx_Wo D dA b0 (u_ctr w 0 ((x_ctr w 0) + 1)) H := to_ctr hW
      refine lv_iconst (v := 0) hx hb d_CarDesk_drop_28 (by decide) ?_
      have hf : f_CarDesk_drop w x = (0, (u_ctr w 0 ((x_ctr w 0) + 1))) := by
        simp only [f_CarDesk_drop, cd_oc_s ho_1, if_neg c_3]
      exact cd_zret hx hb hr hlocks hW hS d_CarDesk_drop_29 (by decide) ⟨by rw [hf], by rw [hf], by rw [hf], by rw [hf]⟩ (Nat.le_of_ble_eq_true rfl) (Nat.le_of_ble_eq_true rfl)

def f_CarDesk_numbers (w : cx_W) (x : Int32) : Int32 := if (f_CarDesk_isKind x) = 0 then 0 else (f_Shelf_countThere w x.toNatClampNeg)
set_option maxHeartbeats 4000000 in
set_option maxRecDepth 100000 in
theorem c_CarDesk_numbers (l : Launch) (D : va_G) (dA : Nat → ClassId) (b0 : Nat) (w : cx_W) (x : Int32) (hI : cx_Iv w) : cd_Ct l D (cx_tys dA) b0 y_CarDesk_numbers (.code y_CarDesk_numbers b_CarDesk_numbers 2 (some .int) :: cd_WA) { frames := 2, cells := 0, slots := 0, locals := 44 } [.ref (x_ad w 0 0), .int x] (cx_dm w) (x_ad w) (cx_ce dA w) (cx_R dA (some (.int (f_CarDesk_numbers w x))) w) 0 0 := by
  refine cd_Ct.of b_CarDesk_numbers 2 (some .int) (by decide) rfl ?_
  intro p e s m below meth c hx hb hr hml hown hlocks hnm hA hE hb0 hW hS ls hl
  have hK := hE.1
  have hl : lv_has ls 2 [(0, .ref (x_ad w 0 0)), (1, .int x)] := hl
  refine lv_iload_n hx hb d_CarDesk_numbers_0 rfl (lv_at hl 1 rfl) ?_
  refine cx_cS (w0 := w) (x0 := .int (f_CarDesk_isKind x)) (rest := []) (n := 1) ⟨hx, hb, hml, hown, hA⟩ (cd_GA mw_139) hE hb0 hW hS (c_CarDesk_isKind l D dA b0 w x) mw_141 mw_140 mw_32 (by decide +kernel) rfl rfl ⟨by decide, by decide⟩ rfl hl.1 rfl (Nat.le_of_ble_eq_true rfl) d_CarDesk_numbers_1 ⟨by decide, by decide⟩ (fun H locs hW hS => ?_)
  refine lv_if_eq (tgt := 19) hx hb d_CarDesk_numbers_4 (by decide) (fun c_1 => ?_) (fun c_1 => ?_)
  · skip
    refine lv_iconst (v := 0) hx hb d_CarDesk_numbers_19 (by decide) ?_
    have hf : f_CarDesk_numbers w x = 0 := by
      simp only [f_CarDesk_numbers, if_pos c_1]
    exact cd_iret hx hb hr hlocks hW hS d_CarDesk_numbers_20 ⟨by rw [hf], rfl, rfl, rfl⟩ (Nat.le_of_ble_eq_true rfl) (Nat.le_of_ble_eq_true rfl)
  · skip
    refine lv_aload_n hx hb d_CarDesk_numbers_7 rfl (lv_at hl 0 rfl) ?_
    refine cd_get (ci := 0) (C := R_CarDesk) (T := F_CarDesk) (N := 14) (v := .ref (x_ad w 3 0)) hx hb hA i_CarDesk hown hK hW 0 0 rfl rfl rfl 3 (by decide) mw_36 rfl rfl d_CarDesk_numbers_8 ?_
    refine lv_iload_n hx hb d_CarDesk_numbers_11 rfl (lv_at hl 1 rfl) ?_
    refine cd_aald hx hb hK hW 3 0 rfl 2 rfl rfl (cd_kind c_1) d_CarDesk_numbers_12 ?_
    refine cx_cVN (w0 := w) (x0 := .int (f_Shelf_countThere w x.toNatClampNeg)) (rest := []) (n := 0) ⟨hx, hb, hml, hown, hA⟩ (cd_GA mw_54) hE hb0 hW hS 4 x.toNatClampNeg (cd_vlt (cd_kind c_1)) rfl rfl (c_Shelf_countThere l D dA b0 w x.toNatClampNeg (cd_vlt (cd_kind c_1)) hI) nn_9 mw_55 mw_56 mw_13 (by decide +kernel) rfl rfl ⟨by decide, by decide⟩ rfl hl.1 rfl (Nat.le_of_ble_eq_true rfl) d_CarDesk_numbers_13 ⟨by decide, by decide⟩ (fun H locs hW hS => ?_)
    refine lv_goto (tgt := 20) hx hb d_CarDesk_numbers_16 (by decide) ?_
    have hf : f_CarDesk_numbers w x = (f_Shelf_countThere w x.toNatClampNeg) := by
      simp only [f_CarDesk_numbers, if_neg c_1]
    exact cd_iret hx hb hr hlocks hW hS d_CarDesk_numbers_20 ⟨by rw [hf], rfl, rfl, rfl⟩ (Nat.le_of_ble_eq_true rfl) (Nat.le_of_ble_eq_true rfl)

def f_CarDesk_again (w : cx_W) (x : Int32) (n : Int32) (y : Int64) : Int64 := if (x_ctr w 7) ≤ 128 then (cd_oc (f_CarDesk_thingForCall w x n.toInt64) ((f_CarDesk_refusalOfCall w x none y).toInt64) (fun j_3 => if (f_CarDesk_refusalOfCall w x (some j_3) y) = 0 then (if (x_fl w x.toNatClampNeg) = 0 then (f_CarDesk_outcomeOfCall w x j_3 y) else ((-100) - (x_fl w x.toNatClampNeg)).toInt64) else (f_CarDesk_refusalOfCall w x (some j_3) y).toInt64)) else (-4)
set_option maxHeartbeats 4000000 in
set_option maxRecDepth 100000 in
theorem c_CarDesk_again (l : Launch) (D : va_G) (dA : Nat → ClassId) (b0 : Nat) (w : cx_W) (x : Int32) (n : Int32) (y : Int64) (hI : cx_Iv w) : cd_Ct l D (cx_tys dA) b0 y_CarDesk_again (.code y_CarDesk_again b_CarDesk_again 8 (some .long) :: cd_WA) { frames := 4, cells := 0, slots := 0, locals := 93 } [.ref (x_ad w 0 0), .int x, .int n, .long y] (cx_dm w) (x_ad w) (cx_ce dA w) (cx_R dA (some (.long (f_CarDesk_again w x n y))) w) 0 0 := by
  refine cd_Ct.of b_CarDesk_again 8 (some .long) (by decide) rfl ?_
  intro p e s m below meth c hx hb hr hml hown hlocks hnm hA hE hb0 hW hS ls hl
  have hK := hE.1
  have hl : lv_has ls 8 [(0, .ref (x_ad w 0 0)), (1, .int x), (2, .int n), (3, .long y)] := hl
  refine lv_aload_n hx hb d_CarDesk_again_0 rfl (lv_at hl 0 rfl) ?_
  refine cd_get (ci := 0) (C := R_CarDesk) (T := F_CarDesk) (N := 14) (v := .int (x_ctr w 7)) hx hb hA i_CarDesk hown hK hW 0 0 rfl rfl rfl 13 (by decide) mw_116 rfl rfl d_CarDesk_again_1 ?_
  refine lv_sipush (v := 128) hx hb d_CarDesk_again_4 (by decide) ?_
  refine lv_icmp_le (tgt := 14) hx hb d_CarDesk_again_7 (by decide) (fun c_1 => ?_) (fun c_1 => ?_)
  · skip
    refine lv_aload_n hx hb d_CarDesk_again_14 rfl (lv_at hl 0 rfl) ?_
    refine lv_iload_n hx hb d_CarDesk_again_15 rfl (lv_at hl 1 rfl) ?_
    refine lv_iload_n hx hb d_CarDesk_again_16 rfl (lv_at hl 2 rfl) ?_
    refine lv_i2l hx hb d_CarDesk_again_17 rfl ?_
    refine cx_cV (w0 := w) (x0 := va_rf ((f_CarDesk_thingForCall w x n.toInt64).map (x_ad w 8))) (rest := []) (n := 2) ⟨hx, hb, hml, hown, hA⟩ (cd_GA mw_79) hE hb0 hW hS 0 0 rfl rfl rfl (c_CarDesk_thingForCall l D dA b0 w x n.toInt64 hI) mw_82 mw_80 mw_81 mw_32 (by decide +kernel) rfl rfl ⟨by decide, by decide⟩ rfl hl.1 rfl (Nat.le_of_ble_eq_true rfl) d_CarDesk_again_18 ⟨by decide, by decide⟩ (fun H locs hW hS => ?_)
    rcases ho_2 : (f_CarDesk_thingForCall w x n.toInt64) with _ | j_3
    · skip
      refine lv_astoreN (lv' := [(5, .null), (0, .ref (x_ad w 0 0)), (1, .int x), (2, .int n), (3, .long y)]) hx hb d_CarDesk_again_21 hl (by decide) rfl (fun ls hl => ?_)
      refine lv_aload_n hx hb d_CarDesk_again_23 rfl (lv_at hl 1 rfl) ?_
      refine lv_iload_n hx hb d_CarDesk_again_24 rfl (lv_at hl 2 rfl) ?_
      refine lv_aloadN hx hb d_CarDesk_again_25 (lv_at hl 0 rfl) ?_
      refine lv_lload_n hx hb d_CarDesk_again_27 rfl (lv_at hl 4 rfl) ?_
      refine cx_cV (w0 := w) (x0 := .int (f_CarDesk_refusalOfCall w x none y)) (rest := []) (n := 3) ⟨hx, hb, hml, hown, hA⟩ (cd_GA mw_118) hE hb0 hW hS 0 0 rfl rfl rfl (c_CarDesk_refusalOfCall l D dA b0 w x none y hI (fun _ h => nomatch h)) mw_121 mw_119 mw_120 mw_32 (by decide +kernel) rfl rfl ⟨by decide, by decide⟩ rfl hl.1 rfl (Nat.le_of_ble_eq_true rfl) d_CarDesk_again_28 ⟨by decide, by decide⟩ (fun H locs hW hS => ?_)
      refine lv_istore (lv' := [(6, .int (f_CarDesk_refusalOfCall w x none y)), (5, .null), (0, .ref (x_ad w 0 0)), (1, .int x), (2, .int n), (3, .long y)]) hx hb d_CarDesk_again_31 hl (by decide) rfl (fun ls hl => ?_)
      refine lv_aloadN hx hb d_CarDesk_again_33 (lv_at hl 1 rfl) ?_
      refine lv_ifnullN (tgt := 43) hx hb d_CarDesk_again_35 (by decide) ?_
      refine lv_iload hx hb d_CarDesk_again_43 (lv_at hl 0 rfl) ?_
      refine lv_i2l hx hb d_CarDesk_again_45 rfl ?_
      have hf : f_CarDesk_again w x n y = (f_CarDesk_refusalOfCall w x none y).toInt64 := by
        simp only [f_CarDesk_again, if_pos c_1, cd_oc_n ho_2]
      exact cd_lret hx hb hr hlocks hW hS d_CarDesk_again_46 ⟨by rw [hf], rfl, rfl, rfl⟩ (Nat.le_of_ble_eq_true rfl) (Nat.le_of_ble_eq_true rfl)
    · skip
      have h_j_3 : x_al w j_3 := al_thingForCall hI ho_2
      refine lv_astore (lv' := [(5, .ref (x_ad w 8 j_3)), (0, .ref (x_ad w 0 0)), (1, .int x), (2, .int n), (3, .long y)]) hx hb d_CarDesk_again_21 hl (by decide) rfl (fun ls hl => ?_)
      refine lv_aload_n hx hb d_CarDesk_again_23 rfl (lv_at hl 1 rfl) ?_
      refine lv_iload_n hx hb d_CarDesk_again_24 rfl (lv_at hl 2 rfl) ?_
      refine lv_aload hx hb d_CarDesk_again_25 (lv_at hl 0 rfl) ?_
      refine lv_lload_n hx hb d_CarDesk_again_27 rfl (lv_at hl 4 rfl) ?_
      refine cx_cV (w0 := w) (x0 := .int (f_CarDesk_refusalOfCall w x (some j_3) y)) (rest := []) (n := 3) ⟨hx, hb, hml, hown, hA⟩ (cd_GA mw_118) hE hb0 hW hS 0 0 rfl rfl rfl (c_CarDesk_refusalOfCall l D dA b0 w x (some j_3) y hI (fun _ h => by cases h; exact h_j_3)) mw_121 mw_119 mw_120 mw_32 (by decide +kernel) rfl rfl ⟨by decide, by decide⟩ rfl hl.1 rfl (Nat.le_of_ble_eq_true rfl) d_CarDesk_again_28 ⟨by decide, by decide⟩ (fun H locs hW hS => ?_)
      refine lv_istore (lv' := [(6, .int (f_CarDesk_refusalOfCall w x (some j_3) y)), (5, .ref (x_ad w 8 j_3)), (0, .ref (x_ad w 0 0)), (1, .int x), (2, .int n), (3, .long y)]) hx hb d_CarDesk_again_31 hl (by decide) rfl (fun ls hl => ?_)
      refine lv_aload hx hb d_CarDesk_again_33 (lv_at hl 1 rfl) ?_
      refine lv_ifnull hx hb d_CarDesk_again_35 ?_
      refine lv_iload hx hb d_CarDesk_again_38 (lv_at hl 0 rfl) ?_
      refine lv_if_eq (tgt := 47) hx hb d_CarDesk_again_40 (by decide) (fun c_4 => ?_) (fun c_4 => ?_)
      · skip
        refine lv_aload_n hx hb d_CarDesk_again_47 rfl (lv_at hl 2 rfl) ?_
        refine cd_get (ci := 0) (C := R_CarDesk) (T := F_CarDesk) (N := 14) (v := .ref (x_ad w 7 0)) hx hb hA i_CarDesk hown hK hW 0 0 rfl rfl rfl 5 (by decide) mw_117 rfl rfl d_CarDesk_again_48 ?_
        refine lv_iload_n hx hb d_CarDesk_again_51 rfl (lv_at hl 3 rfl) ?_
        refine cd_iald hx hb hK hW 7 0 rfl 0 rfl rfl (in_thingForCall ho_2) d_CarDesk_again_52 ?_
        refine lv_istore (lv' := [(7, .int (x_fl w x.toNatClampNeg)), (6, .int (f_CarDesk_refusalOfCall w x (some j_3) y)), (5, .ref (x_ad w 8 j_3)), (0, .ref (x_ad w 0 0)), (1, .int x), (2, .int n), (3, .long y)]) hx hb d_CarDesk_again_53 hl (by decide) rfl (fun ls hl => ?_)
        refine lv_iload hx hb d_CarDesk_again_55 (lv_at hl 0 rfl) ?_
        refine lv_if_eq (tgt := 69) hx hb d_CarDesk_again_57 (by decide) (fun c_5 => ?_) (fun c_5 => ?_)
        · skip
          refine lv_aload_n hx hb d_CarDesk_again_69 rfl (lv_at hl 3 rfl) ?_
          refine lv_iload_n hx hb d_CarDesk_again_70 rfl (lv_at hl 4 rfl) ?_
          refine lv_aload hx hb d_CarDesk_again_71 (lv_at hl 2 rfl) ?_
          refine lv_lload_n hx hb d_CarDesk_again_73 rfl (lv_at hl 6 rfl) ?_
          refine cx_cV (w0 := w) (x0 := .long (f_CarDesk_outcomeOfCall w x j_3 y)) (rest := []) (n := 3) ⟨hx, hb, hml, hown, hA⟩ (cd_GA mw_123) hE hb0 hW hS 0 0 rfl rfl rfl (c_CarDesk_outcomeOfCall l D dA b0 w x j_3 y hI h_j_3 (in_thingForCall ho_2)) mw_126 mw_124 mw_125 mw_32 (by decide +kernel) rfl rfl ⟨by decide, by decide⟩ rfl hl.1 rfl (Nat.le_of_ble_eq_true rfl) d_CarDesk_again_74 ⟨by decide, by decide⟩ (fun H locs hW hS => ?_)
          have hf : f_CarDesk_again w x n y = (f_CarDesk_outcomeOfCall w x j_3 y) := by
            simp only [f_CarDesk_again, if_pos c_1, cd_oc_s ho_2, if_pos c_4, if_pos c_5]
          exact cd_lret hx hb hr hlocks hW hS d_CarDesk_again_77 ⟨by rw [hf], rfl, rfl, rfl⟩ (Nat.le_of_ble_eq_true rfl) (Nat.le_of_ble_eq_true rfl)
        · skip
          refine lv_bipush (v := (-100)) hx hb d_CarDesk_again_60 (by decide) ?_
          refine lv_iload hx hb d_CarDesk_again_62 (lv_at hl 0 rfl) ?_
          refine lv_isub hx hb d_CarDesk_again_64 ?_
          refine lv_i2l hx hb d_CarDesk_again_65 rfl ?_
          refine lv_goto (tgt := 77) hx hb d_CarDesk_again_66 (by decide) ?_
          have hf : f_CarDesk_again w x n y = ((-100) - (x_fl w x.toNatClampNeg)).toInt64 := by
            simp only [f_CarDesk_again, if_pos c_1, cd_oc_s ho_2, if_pos c_4, if_neg c_5]
          exact cd_lret hx hb hr hlocks hW hS d_CarDesk_again_77 ⟨by rw [hf], rfl, rfl, rfl⟩ (Nat.le_of_ble_eq_true rfl) (Nat.le_of_ble_eq_true rfl)
      · skip
        refine lv_iload hx hb d_CarDesk_again_43 (lv_at hl 0 rfl) ?_
        refine lv_i2l hx hb d_CarDesk_again_45 rfl ?_
        have hf : f_CarDesk_again w x n y = (f_CarDesk_refusalOfCall w x (some j_3) y).toInt64 := by
          simp only [f_CarDesk_again, if_pos c_1, cd_oc_s ho_2, if_neg c_4]
        exact cd_lret hx hb hr hlocks hW hS d_CarDesk_again_46 ⟨by rw [hf], rfl, rfl, rfl⟩ (Nat.le_of_ble_eq_true rfl) (Nat.le_of_ble_eq_true rfl)
  · skip
    refine lv_ldc2 (v := (-4)) hx hb hown (hA _ mw_142) d_CarDesk_again_10 ?_
    have hf : f_CarDesk_again w x n y = (-4) := by
      simp only [f_CarDesk_again, if_neg c_1]
    exact cd_lret hx hb hr hlocks hW hS d_CarDesk_again_13 ⟨by rw [hf], rfl, rfl, rfl⟩ (Nat.le_of_ble_eq_true rfl) (Nat.le_of_ble_eq_true rfl)
end
section
def f_mkw (w : cx_W) (x : Int32) (q : Nat) (o : Option Nat) : cx_W := f_CarDesk_emptyTrayOf (f_Shelf_put (f_Thing_init (f_mk1 w x.toNatClampNeg q) (nj w x.toNatClampNeg) (f_CarDesk_firstState (f_mk1 w x.toNatClampNeg q) x o) o) x.toNatClampNeg (nj w x.toNatClampNeg)) x
def f_CarDesk_make (w : cx_W) (x : Int32) (q : Nat) : Int32 × cx_W := if (f_CarDesk_isKind x) = 0 then ((f_CarDesk_refuse w (-1)).1, (f_CarDesk_refuse w (-1)).2) else if (f_CarDesk_canBeMade w x) = 0 then ((f_CarDesk_refuse w (-3)).1, (f_CarDesk_refuse w (-3)).2) else if (f_Shelf_isFull w x.toNatClampNeg) = 0 then ((64 * x) + (nI (x_made (f_mkw w x q (f_CarDesk_sourceOf w x)) x.toNatClampNeg)), (u_ctr (u_ctr (f_mkw w x q (f_CarDesk_sourceOf w x)) 6 ((x_ctr (f_mkw w x q (f_CarDesk_sourceOf w x)) 6) + 1)) 7 ((x_ctr (f_mkw w x q (f_CarDesk_sourceOf w x)) 7) + 1))) else ((f_CarDesk_refuse w (-4)).1, (f_CarDesk_refuse w (-4)).2)
set_option maxHeartbeats 4000000 in
set_option maxRecDepth 100000 in
theorem c_CarDesk_make (l : Launch) (D : va_G) (dA : Nat → ClassId) (b0 : Nat) (w : cx_W) (x : Int32) (hI : cx_Iv w) (hJ : cx_Ia w) : cd_Ct l D (cx_tys dA) b0 y_CarDesk_make (.code y_CarDesk_make b_CarDesk_make 4 (some .int) :: cd_WA) { frames := 3, cells := 1, slots := 5, locals := 67 } [.ref (x_ad w 0 0), .int x] (cx_dm w) (x_ad w) (cx_ce dA w) (fun v dm ad ce => ∃ q : Nat, v = some (.int (f_CarDesk_make w x q).1) ∧ dm = cx_dm (f_CarDesk_make w x q).2 ∧ ad = x_ad (f_CarDesk_make w x q).2 ∧ ce = cx_ce dA (f_CarDesk_make w x q).2) 1 5 := by
  refine cd_Ct.of b_CarDesk_make 4 (some .int) (by decide) rfl ?_
  intro p e s m below meth c hx hb hr hml hown hlocks hnm hA hE hb0 hW hS ls hl
  have hK := hE.1
  have hl : lv_has ls 4 [(0, .ref (x_ad w 0 0)), (1, .int x)] := hl
  refine lv_iload_n hx hb d_CarDesk_make_0 rfl (lv_at hl 1 rfl) ?_
  refine cx_cS (w0 := w) (x0 := .int (f_CarDesk_isKind x)) (rest := []) (n := 1) ⟨hx, hb, hml, hown, hA⟩ (cd_GA mw_139) hE hb0 hW hS (c_CarDesk_isKind l D dA b0 w x) mw_141 mw_140 mw_32 (by decide +kernel) rfl rfl ⟨by decide, by decide⟩ rfl hl.1 rfl (Nat.le_of_ble_eq_true rfl) d_CarDesk_make_1 ⟨by decide, by decide⟩ (fun H locs hW hS => ?_)
  refine lv_if_ne (tgt := 13) hx hb d_CarDesk_make_4 (by decide) (fun c_1 => ?_) (fun c_1 => ?_)
  · skip
    refine lv_aload_n hx hb d_CarDesk_make_13 rfl (lv_at hl 0 rfl) ?_
    refine lv_iload_n hx hb d_CarDesk_make_14 rfl (lv_at hl 1 rfl) ?_
    refine cx_cV (w0 := w) (x0 := .int (f_CarDesk_canBeMade w x)) (rest := []) (n := 1) ⟨hx, hb, hml, hown, hA⟩ (cd_GA mw_143) hE hb0 hW hS 0 0 rfl rfl rfl (c_CarDesk_canBeMade l D dA b0 w x hI) mw_146 mw_144 mw_145 mw_32 (by decide +kernel) rfl rfl ⟨by decide, by decide⟩ rfl hl.1 rfl (Nat.le_of_ble_eq_true rfl) d_CarDesk_make_15 ⟨by decide, by decide⟩ (fun H locs hW hS => ?_)
    refine lv_if_ne (tgt := 28) hx hb d_CarDesk_make_18 (by decide) (fun c_2 => ?_) (fun c_2 => ?_)
    · skip
      refine lv_aload_n hx hb d_CarDesk_make_28 rfl (lv_at hl 0 rfl) ?_
      refine cd_get (ci := 0) (C := R_CarDesk) (T := F_CarDesk) (N := 14) (v := .ref (x_ad w 3 0)) hx hb hA i_CarDesk hown hK hW 0 0 rfl rfl rfl 3 (by decide) mw_36 rfl rfl d_CarDesk_make_29 ?_
      refine lv_iload_n hx hb d_CarDesk_make_32 rfl (lv_at hl 1 rfl) ?_
      refine cd_aald hx hb hK hW 3 0 rfl 2 rfl rfl (cd_kind c_1) d_CarDesk_make_33 ?_
      refine lv_astore_n (lv' := [(2, .ref (x_ad w 4 x.toNatClampNeg)), (0, .ref (x_ad w 0 0)), (1, .int x)]) hx hb d_CarDesk_make_34 rfl hl (by decide) rfl (fun ls hl => ?_)
      refine lv_aload_n hx hb d_CarDesk_make_35 rfl (lv_at hl 0 rfl) ?_
      refine cx_cVN (w0 := w) (x0 := .int (f_Shelf_isFull w x.toNatClampNeg)) (rest := []) (n := 0) ⟨hx, hb, hml, hown, hA⟩ (cd_GA mw_147) hE hb0 hW hS 4 x.toNatClampNeg (cd_vlt (cd_kind c_1)) rfl rfl (c_Shelf_isFull l D dA b0 w x.toNatClampNeg (cd_vlt (cd_kind c_1))) nn_21 mw_148 mw_149 mw_13 (by decide +kernel) rfl rfl ⟨by decide, by decide⟩ rfl hl.1 rfl (Nat.le_of_ble_eq_true rfl) d_CarDesk_make_36 ⟨by decide, by decide⟩ (fun H locs hW hS => ?_)
      refine lv_if_eq (tgt := 49) hx hb d_CarDesk_make_39 (by decide) (fun c_3 => ?_) (fun c_3 => ?_)
      · skip
        refine lv_aload_n hx hb d_CarDesk_make_49 rfl (lv_at hl 1 rfl) ?_
        refine lv_iload_n hx hb d_CarDesk_make_50 rfl (lv_at hl 2 rfl) ?_
        refine cx_cV (w0 := w) (x0 := va_rf ((f_CarDesk_sourceOf w x).map (x_ad w 8))) (rest := []) (n := 1) ⟨hx, hb, hml, hown, hA⟩ (cd_GA mw_150) hE hb0 hW hS 0 0 rfl rfl rfl (c_CarDesk_sourceOf l D dA b0 w x hI) mw_153 mw_151 mw_152 mw_32 (by decide +kernel) rfl rfl ⟨by decide, by decide⟩ rfl hl.1 rfl (Nat.le_of_ble_eq_true rfl) d_CarDesk_make_51 ⟨by decide, by decide⟩ (fun H locs hW hS => ?_)
        rcases ho_4 : (f_CarDesk_sourceOf w x) with _ | j_5
        · skip
          refine lv_astore_nN (lv' := [(3, .null), (2, .ref (x_ad w 4 x.toNatClampNeg)), (0, .ref (x_ad w 0 0)), (1, .int x)]) hx hb d_CarDesk_make_54 rfl hl (by decide) rfl (fun ls hl => ?_)
          refine lv_aload_n hx hb d_CarDesk_make_55 rfl (lv_at hl 1 rfl) ?_
          refine cd_new (ci := 3) (C := R_Thing) (T := F_Thing) (N := 5) (fs := [.null, .long 0, .int 0, .int 0, .int 0]) hx hb hA i_Thing t_Thing t_Thing_ok hown mw_154 mw_155 mw_70 hK hb0 hW hS rfl (fun j hj => by rcases (show j = 0 ∨ j = 1 ∨ j = 2 ∨ j = 3 ∨ j = 4 by omega) with rfl | rfl | rfl | rfl | rfl <;> rfl) (by decide) (by decide) d_CarDesk_make_56 8 (nj w x.toNatClampNeg) (cx_dm (f_mk1 w x.toNatClampNeg 0)) (fun q => x_ad (f_mk1 w x.toNatClampNeg q)) (fun q => cx_ce dA (f_mk1 w x.toNatClampNeg q)) (fun q => mk1_ad w x.toNatClampNeg q) (fun q => mk1_ce dA w x.toNatClampNeg q) (fun q a b => mk1_keep dA hI (nj_new hI hJ (lt_shelf hI c_3)) q a b) (fun q H hW hS => ?_)
          have hW : cx_Wo D dA b0 (f_mk1 w x.toNatClampNeg q) H := hW
          have hI1 : cx_Iv (f_mk1 w x.toNatClampNeg q) := mk1_Iv hI q
          rw [← mk1_ad w x.toNatClampNeg q]
          have hl : lv_has ls 4 [(3, .null), (2, .ref (x_ad (f_mk1 w x.toNatClampNeg q) 4 x.toNatClampNeg)), (0, .ref (x_ad (f_mk1 w x.toNatClampNeg q) 0 0)), (1, .int x)] := hl
          refine lv_dup hx hb d_CarDesk_make_59 rfl ?_
          refine lv_aload_n hx hb d_CarDesk_make_60 rfl (lv_at hl 2 rfl) ?_
          refine lv_iload_n hx hb d_CarDesk_make_61 rfl (lv_at hl 3 rfl) ?_
          refine lv_aload_nN hx hb d_CarDesk_make_62 rfl (lv_at hl 0 rfl) ?_
          refine cx_cV (w0 := (f_mk1 w x.toNatClampNeg q)) (x0 := .long (f_CarDesk_firstState (f_mk1 w x.toNatClampNeg q) x none)) (rest := [.ref (x_ad (f_mk1 w x.toNatClampNeg q) 8 (nj w x.toNatClampNeg)), .ref (x_ad (f_mk1 w x.toNatClampNeg q) 8 (nj w x.toNatClampNeg)), .ref (x_ad (f_mk1 w x.toNatClampNeg q) 4 x.toNatClampNeg)]) (n := 2) ⟨hx, hb, hml, hown, hA⟩ (cd_GA mw_156) hE hb0 hW hS 0 0 rfl rfl rfl (c_CarDesk_firstState l D dA b0 (f_mk1 w x.toNatClampNeg q) x none hI1 (fun _ h => nomatch h)) mw_159 mw_157 mw_158 mw_32 (by decide +kernel) rfl rfl ⟨by decide, by decide⟩ rfl hl.1 rfl (Nat.le_of_ble_eq_true rfl) d_CarDesk_make_63 ⟨by decide, by decide⟩ (fun H locs hW hS => ?_)
          refine lv_aload_nN hx hb d_CarDesk_make_66 rfl (lv_at hl 0 rfl) ?_
          refine cx_cIN0 (w0 := (f_Thing_init (f_mk1 w x.toNatClampNeg q) (nj w x.toNatClampNeg) (f_CarDesk_firstState (f_mk1 w x.toNatClampNeg q) x none) none)) (rest := [.ref (x_ad (f_mk1 w x.toNatClampNeg q) 8 (nj w x.toNatClampNeg)), .ref (x_ad (f_mk1 w x.toNatClampNeg q) 4 x.toNatClampNeg)]) (n := 2) ⟨hx, hb, hml, hown, hA⟩ (cd_GA mw_160) hE hb0 hW hS (x_ad (f_mk1 w x.toNatClampNeg q) 8 (nj w x.toNatClampNeg)) (c_Thing_init l D dA b0 (f_mk1 w x.toNatClampNeg q) (nj w x.toNatClampNeg) (f_CarDesk_firstState (f_mk1 w x.toNatClampNeg q) x none) none (Or.inl rfl) (fun _ h => nomatch h)) nn_22 mw_161 mw_70 rfl (by decide +kernel) rfl rfl ⟨by decide, by decide⟩ rfl hl.1 rfl (Nat.le_of_ble_eq_true rfl) d_CarDesk_make_67 ⟨by decide, by decide⟩ (fun H locs hW hS => ?_)
          refine cx_cVN0 (w0 := (f_Shelf_put (f_Thing_init (f_mk1 w x.toNatClampNeg q) (nj w x.toNatClampNeg) (f_CarDesk_firstState (f_mk1 w x.toNatClampNeg q) x none) none) x.toNatClampNeg (nj w x.toNatClampNeg))) (rest := []) (n := 1) ⟨hx, hb, hml, hown, hA⟩ (cd_GA mw_162) hE hb0 hW hS 4 x.toNatClampNeg (cd_vlt (cd_kind c_1)) rfl rfl (c_Shelf_put l D dA b0 (f_Thing_init (f_mk1 w x.toNatClampNeg q) (nj w x.toNatClampNeg) (f_CarDesk_firstState (f_mk1 w x.toNatClampNeg q) x none) none) x.toNatClampNeg (nj w x.toNatClampNeg) (cd_vlt (cd_kind c_1)) (Or.inl rfl) (show x_made w x.toNatClampNeg < 20 from lt_shelf hI c_3)) nn_23 mw_163 mw_164 mw_13 (by decide +kernel) rfl rfl ⟨by decide, by decide⟩ rfl hl.1 rfl (Nat.le_of_ble_eq_true rfl) d_CarDesk_make_70 ⟨by decide, by decide⟩ (fun H locs hW hS => ?_)
          refine lv_aload_n hx hb d_CarDesk_make_73 rfl (lv_at hl 2 rfl) ?_
          refine lv_iload_n hx hb d_CarDesk_make_74 rfl (lv_at hl 3 rfl) ?_
          refine cx_cV0 (w0 := (f_CarDesk_emptyTrayOf (f_Shelf_put (f_Thing_init (f_mk1 w x.toNatClampNeg q) (nj w x.toNatClampNeg) (f_CarDesk_firstState (f_mk1 w x.toNatClampNeg q) x none) none) x.toNatClampNeg (nj w x.toNatClampNeg)) x)) (rest := []) (n := 1) ⟨hx, hb, hml, hown, hA⟩ (cd_GA mw_165) hE hb0 hW hS 0 0 rfl rfl rfl (c_CarDesk_emptyTrayOf l D dA b0 (f_Shelf_put (f_Thing_init (f_mk1 w x.toNatClampNeg q) (nj w x.toNatClampNeg) (f_CarDesk_firstState (f_mk1 w x.toNatClampNeg q) x none) none) x.toNatClampNeg (nj w x.toNatClampNeg)) x) mw_168 mw_166 mw_167 mw_32 (by decide +kernel) rfl rfl ⟨by decide, by decide⟩ rfl hl.1 rfl (Nat.le_of_ble_eq_true rfl) d_CarDesk_make_75 ⟨by decide, by decide⟩ (fun H locs hW hS => ?_)
          refine lv_aload_n hx hb d_CarDesk_make_78 rfl (lv_at hl 2 rfl) ?_
          refine lv_dup hx hb d_CarDesk_make_79 rfl ?_
          refine cd_get (ci := 0) (C := R_CarDesk) (T := F_CarDesk) (N := 14) (v := .int (x_ctr (f_CarDesk_emptyTrayOf (f_Shelf_put (f_Thing_init (f_mk1 w x.toNatClampNeg q) (nj w x.toNatClampNeg) (f_CarDesk_firstState (f_mk1 w x.toNatClampNeg q) x none) none) x.toNatClampNeg (nj w x.toNatClampNeg)) x) 6)) hx hb hA i_CarDesk hown hK hW 0 0 rfl rfl rfl 12 (by decide) mw_135 rfl rfl d_CarDesk_make_80 ?_
          refine lv_iconst (v := 1) hx hb d_CarDesk_make_83 (by decide) ?_
          refine lv_iadd hx hb d_CarDesk_make_84 ?_
          refine cd_put (ci := 0) (C := R_CarDesk) (T := F_CarDesk) (N := 14) (v := .int ((x_ctr (f_CarDesk_emptyTrayOf (f_Shelf_put (f_Thing_init (f_mk1 w x.toNatClampNeg q) (nj w x.toNatClampNeg) (f_CarDesk_firstState (f_mk1 w x.toNatClampNeg q) x none) none) x.toNatClampNeg (nj w x.toNatClampNeg)) x) 6) + 1)) hx hb hA i_CarDesk t_CarDesk t_CarDesk_ok n_CarDesk hown hK hW hS 0 0 rfl rfl rfl 12 (by decide) mw_135 rfl rfl rfl rfl (Nat.le_of_ble_eq_true rfl) d_CarDesk_make_85 (cx_ce dA (u_ctr (f_CarDesk_emptyTrayOf (f_Shelf_put (f_Thing_init (f_mk1 w x.toNatClampNeg q) (nj w x.toNatClampNeg) (f_CarDesk_firstState (f_mk1 w x.toNatClampNeg q) x none) none) x.toNatClampNeg (nj w x.toNatClampNeg)) x) 6 ((x_ctr (f_CarDesk_emptyTrayOf (f_Shelf_put (f_Thing_init (f_mk1 w x.toNatClampNeg q) (nj w x.toNatClampNeg) (f_CarDesk_firstState (f_mk1 w x.toNatClampNeg q) x none) none) x.toNatClampNeg (nj w x.toNatClampNeg)) x) 6) + 1))) rfl (kp_ctr dA (f_CarDesk_emptyTrayOf (f_Shelf_put (f_Thing_init (f_mk1 w x.toNatClampNeg q) (nj w x.toNatClampNeg) (f_CarDesk_firstState (f_mk1 w x.toNatClampNeg q) x none) none) x.toNatClampNeg (nj w x.toNatClampNeg)) x) 6 ((x_ctr (f_CarDesk_emptyTrayOf (f_Shelf_put (f_Thing_init (f_mk1 w x.toNatClampNeg q) (nj w x.toNatClampNeg) (f_CarDesk_firstState (f_mk1 w x.toNatClampNeg q) x none) none) x.toNatClampNeg (nj w x.toNatClampNeg)) x) 6) + 1)) (fun H locs hW hS => ?_)
          have hW : cx_Wo D dA b0 (u_ctr (f_CarDesk_emptyTrayOf (f_Shelf_put (f_Thing_init (f_mk1 w x.toNatClampNeg q) (nj w x.toNatClampNeg) (f_CarDesk_firstState (f_mk1 w x.toNatClampNeg q) x none) none) x.toNatClampNeg (nj w x.toNatClampNeg)) x) 6 ((x_ctr (f_CarDesk_emptyTrayOf (f_Shelf_put (f_Thing_init (f_mk1 w x.toNatClampNeg q) (nj w x.toNatClampNeg) (f_CarDesk_firstState (f_mk1 w x.toNatClampNeg q) x none) none) x.toNatClampNeg (nj w x.toNatClampNeg)) x) 6) + 1)) H := to_ctr hW
          refine lv_aload_n hx hb d_CarDesk_make_88 rfl (lv_at hl 2 rfl) ?_
          refine lv_dup hx hb d_CarDesk_make_89 rfl ?_
          refine cd_get (ci := 0) (C := R_CarDesk) (T := F_CarDesk) (N := 14) (v := .int (x_ctr (f_CarDesk_emptyTrayOf (f_Shelf_put (f_Thing_init (f_mk1 w x.toNatClampNeg q) (nj w x.toNatClampNeg) (f_CarDesk_firstState (f_mk1 w x.toNatClampNeg q) x none) none) x.toNatClampNeg (nj w x.toNatClampNeg)) x) 7)) hx hb hA i_CarDesk hown hK hW 0 0 rfl rfl rfl 13 (by decide) mw_116 rfl rfl d_CarDesk_make_90 ?_
          refine lv_iconst (v := 1) hx hb d_CarDesk_make_93 (by decide) ?_
          refine lv_iadd hx hb d_CarDesk_make_94 ?_
          refine cd_put (ci := 0) (C := R_CarDesk) (T := F_CarDesk) (N := 14) (v := .int ((x_ctr (f_CarDesk_emptyTrayOf (f_Shelf_put (f_Thing_init (f_mk1 w x.toNatClampNeg q) (nj w x.toNatClampNeg) (f_CarDesk_firstState (f_mk1 w x.toNatClampNeg q) x none) none) x.toNatClampNeg (nj w x.toNatClampNeg)) x) 7) + 1)) hx hb hA i_CarDesk t_CarDesk t_CarDesk_ok n_CarDesk hown hK hW hS 0 0 rfl rfl rfl 13 (by decide) mw_116 rfl rfl rfl rfl (Nat.le_of_ble_eq_true rfl) d_CarDesk_make_95 (cx_ce dA (u_ctr (u_ctr (f_CarDesk_emptyTrayOf (f_Shelf_put (f_Thing_init (f_mk1 w x.toNatClampNeg q) (nj w x.toNatClampNeg) (f_CarDesk_firstState (f_mk1 w x.toNatClampNeg q) x none) none) x.toNatClampNeg (nj w x.toNatClampNeg)) x) 6 ((x_ctr (f_CarDesk_emptyTrayOf (f_Shelf_put (f_Thing_init (f_mk1 w x.toNatClampNeg q) (nj w x.toNatClampNeg) (f_CarDesk_firstState (f_mk1 w x.toNatClampNeg q) x none) none) x.toNatClampNeg (nj w x.toNatClampNeg)) x) 6) + 1)) 7 ((x_ctr (f_CarDesk_emptyTrayOf (f_Shelf_put (f_Thing_init (f_mk1 w x.toNatClampNeg q) (nj w x.toNatClampNeg) (f_CarDesk_firstState (f_mk1 w x.toNatClampNeg q) x none) none) x.toNatClampNeg (nj w x.toNatClampNeg)) x) 7) + 1))) rfl (kp_ctr dA (u_ctr (f_CarDesk_emptyTrayOf (f_Shelf_put (f_Thing_init (f_mk1 w x.toNatClampNeg q) (nj w x.toNatClampNeg) (f_CarDesk_firstState (f_mk1 w x.toNatClampNeg q) x none) none) x.toNatClampNeg (nj w x.toNatClampNeg)) x) 6 ((x_ctr (f_CarDesk_emptyTrayOf (f_Shelf_put (f_Thing_init (f_mk1 w x.toNatClampNeg q) (nj w x.toNatClampNeg) (f_CarDesk_firstState (f_mk1 w x.toNatClampNeg q) x none) none) x.toNatClampNeg (nj w x.toNatClampNeg)) x) 6) + 1)) 7 ((x_ctr (f_CarDesk_emptyTrayOf (f_Shelf_put (f_Thing_init (f_mk1 w x.toNatClampNeg q) (nj w x.toNatClampNeg) (f_CarDesk_firstState (f_mk1 w x.toNatClampNeg q) x none) none) x.toNatClampNeg (nj w x.toNatClampNeg)) x) 7) + 1)) (fun H locs hW hS => ?_)
          have hW : cx_Wo D dA b0 (u_ctr (u_ctr (f_CarDesk_emptyTrayOf (f_Shelf_put (f_Thing_init (f_mk1 w x.toNatClampNeg q) (nj w x.toNatClampNeg) (f_CarDesk_firstState (f_mk1 w x.toNatClampNeg q) x none) none) x.toNatClampNeg (nj w x.toNatClampNeg)) x) 6 ((x_ctr (f_CarDesk_emptyTrayOf (f_Shelf_put (f_Thing_init (f_mk1 w x.toNatClampNeg q) (nj w x.toNatClampNeg) (f_CarDesk_firstState (f_mk1 w x.toNatClampNeg q) x none) none) x.toNatClampNeg (nj w x.toNatClampNeg)) x) 6) + 1)) 7 ((x_ctr (f_CarDesk_emptyTrayOf (f_Shelf_put (f_Thing_init (f_mk1 w x.toNatClampNeg q) (nj w x.toNatClampNeg) (f_CarDesk_firstState (f_mk1 w x.toNatClampNeg q) x none) none) x.toNatClampNeg (nj w x.toNatClampNeg)) x) 7) + 1)) H := to_ctr hW
          refine lv_bipush (v := 64) hx hb d_CarDesk_make_98 (by decide) ?_
          refine lv_iload_n hx hb d_CarDesk_make_100 rfl (lv_at hl 3 rfl) ?_
          refine lv_imul hx hb d_CarDesk_make_101 ?_
          refine lv_aload_n hx hb d_CarDesk_make_102 rfl (lv_at hl 1 rfl) ?_
          refine cd_getN (ci := 2) (C := R_Shelf) (T := F_Shelf) (N := 2) (v := .int (nI (x_made (f_CarDesk_emptyTrayOf (f_Shelf_put (f_Thing_init (f_mk1 w x.toNatClampNeg q) (nj w x.toNatClampNeg) (f_CarDesk_firstState (f_mk1 w x.toNatClampNeg q) x none) none) x.toNatClampNeg (nj w x.toNatClampNeg)) x) x.toNatClampNeg))) hx hb hA i_Shelf hown hE hW 4 x.toNatClampNeg (cd_vlt (cd_kind c_1)) rfl rfl 1 (by decide) nn_24 rfl rfl d_CarDesk_make_103 ?_
          refine lv_iadd hx hb d_CarDesk_make_106 ?_
          have hf : f_CarDesk_make w x q = (((64 * x) + (nI (x_made (f_CarDesk_emptyTrayOf (f_Shelf_put (f_Thing_init (f_mk1 w x.toNatClampNeg q) (nj w x.toNatClampNeg) (f_CarDesk_firstState (f_mk1 w x.toNatClampNeg q) x none) none) x.toNatClampNeg (nj w x.toNatClampNeg)) x) x.toNatClampNeg))), (u_ctr (u_ctr (f_CarDesk_emptyTrayOf (f_Shelf_put (f_Thing_init (f_mk1 w x.toNatClampNeg q) (nj w x.toNatClampNeg) (f_CarDesk_firstState (f_mk1 w x.toNatClampNeg q) x none) none) x.toNatClampNeg (nj w x.toNatClampNeg)) x) 6 ((x_ctr (f_CarDesk_emptyTrayOf (f_Shelf_put (f_Thing_init (f_mk1 w x.toNatClampNeg q) (nj w x.toNatClampNeg) (f_CarDesk_firstState (f_mk1 w x.toNatClampNeg q) x none) none) x.toNatClampNeg (nj w x.toNatClampNeg)) x) 6) + 1)) 7 ((x_ctr (f_CarDesk_emptyTrayOf (f_Shelf_put (f_Thing_init (f_mk1 w x.toNatClampNeg q) (nj w x.toNatClampNeg) (f_CarDesk_firstState (f_mk1 w x.toNatClampNeg q) x none) none) x.toNatClampNeg (nj w x.toNatClampNeg)) x) 7) + 1))) := by
            simp only [f_CarDesk_make, if_neg c_1, if_neg c_2, if_pos c_3, cd_oc_n ho_4, f_mkw, ho_4]
          exact cd_iret hx hb hr hlocks hW hS d_CarDesk_make_107 ⟨q, by rw [hf], by rw [hf], by rw [hf], by rw [hf]⟩ (Nat.le_of_ble_eq_true rfl) (Nat.le_of_ble_eq_true rfl)
        · skip
          have h_j_5 : x_al w j_5 := al_sourceOf hI ho_4
          refine lv_astore_n (lv' := [(3, .ref (x_ad w 8 j_5)), (2, .ref (x_ad w 4 x.toNatClampNeg)), (0, .ref (x_ad w 0 0)), (1, .int x)]) hx hb d_CarDesk_make_54 rfl hl (by decide) rfl (fun ls hl => ?_)
          refine lv_aload_n hx hb d_CarDesk_make_55 rfl (lv_at hl 1 rfl) ?_
          refine cd_new (ci := 3) (C := R_Thing) (T := F_Thing) (N := 5) (fs := [.null, .long 0, .int 0, .int 0, .int 0]) hx hb hA i_Thing t_Thing t_Thing_ok hown mw_154 mw_155 mw_70 hK hb0 hW hS rfl (fun j hj => by rcases (show j = 0 ∨ j = 1 ∨ j = 2 ∨ j = 3 ∨ j = 4 by omega) with rfl | rfl | rfl | rfl | rfl <;> rfl) (by decide) (by decide) d_CarDesk_make_56 8 (nj w x.toNatClampNeg) (cx_dm (f_mk1 w x.toNatClampNeg 0)) (fun q => x_ad (f_mk1 w x.toNatClampNeg q)) (fun q => cx_ce dA (f_mk1 w x.toNatClampNeg q)) (fun q => mk1_ad w x.toNatClampNeg q) (fun q => mk1_ce dA w x.toNatClampNeg q) (fun q a b => mk1_keep dA hI (nj_new hI hJ (lt_shelf hI c_3)) q a b) (fun q H hW hS => ?_)
          have hW : cx_Wo D dA b0 (f_mk1 w x.toNatClampNeg q) H := hW
          have hI1 : cx_Iv (f_mk1 w x.toNatClampNeg q) := mk1_Iv hI q
          rw [← mk1_ad w x.toNatClampNeg q]
          have ea : x_ad w 8 j_5 = x_ad (f_mk1 w x.toNatClampNeg q) 8 j_5 := mk1_old (nj_new hI hJ (lt_shelf hI c_3)) h_j_5 q
          rw [ea] at hl
          have hl : lv_has ls 4 [(3, .ref (x_ad (f_mk1 w x.toNatClampNeg q) 8 j_5)), (2, .ref (x_ad (f_mk1 w x.toNatClampNeg q) 4 x.toNatClampNeg)), (0, .ref (x_ad (f_mk1 w x.toNatClampNeg q) 0 0)), (1, .int x)] := hl
          refine lv_dup hx hb d_CarDesk_make_59 rfl ?_
          refine lv_aload_n hx hb d_CarDesk_make_60 rfl (lv_at hl 2 rfl) ?_
          refine lv_iload_n hx hb d_CarDesk_make_61 rfl (lv_at hl 3 rfl) ?_
          refine lv_aload_n hx hb d_CarDesk_make_62 rfl (lv_at hl 0 rfl) ?_
          refine cx_cV (w0 := (f_mk1 w x.toNatClampNeg q)) (x0 := .long (f_CarDesk_firstState (f_mk1 w x.toNatClampNeg q) x (some j_5))) (rest := [.ref (x_ad (f_mk1 w x.toNatClampNeg q) 8 (nj w x.toNatClampNeg)), .ref (x_ad (f_mk1 w x.toNatClampNeg q) 8 (nj w x.toNatClampNeg)), .ref (x_ad (f_mk1 w x.toNatClampNeg q) 4 x.toNatClampNeg)]) (n := 2) ⟨hx, hb, hml, hown, hA⟩ (cd_GA mw_156) hE hb0 hW hS 0 0 rfl rfl rfl (c_CarDesk_firstState l D dA b0 (f_mk1 w x.toNatClampNeg q) x (some j_5) hI1 (fun _ h => by cases h; exact (Or.inr h_j_5))) mw_159 mw_157 mw_158 mw_32 (by decide +kernel) rfl rfl ⟨by decide, by decide⟩ rfl hl.1 rfl (Nat.le_of_ble_eq_true rfl) d_CarDesk_make_63 ⟨by decide, by decide⟩ (fun H locs hW hS => ?_)
          refine lv_aload_n hx hb d_CarDesk_make_66 rfl (lv_at hl 0 rfl) ?_
          refine cx_cIN0 (w0 := (f_Thing_init (f_mk1 w x.toNatClampNeg q) (nj w x.toNatClampNeg) (f_CarDesk_firstState (f_mk1 w x.toNatClampNeg q) x (some j_5)) (some j_5))) (rest := [.ref (x_ad (f_mk1 w x.toNatClampNeg q) 8 (nj w x.toNatClampNeg)), .ref (x_ad (f_mk1 w x.toNatClampNeg q) 4 x.toNatClampNeg)]) (n := 2) ⟨hx, hb, hml, hown, hA⟩ (cd_GA mw_160) hE hb0 hW hS (x_ad (f_mk1 w x.toNatClampNeg q) 8 (nj w x.toNatClampNeg)) (c_Thing_init l D dA b0 (f_mk1 w x.toNatClampNeg q) (nj w x.toNatClampNeg) (f_CarDesk_firstState (f_mk1 w x.toNatClampNeg q) x (some j_5)) (some j_5) (Or.inl rfl) (fun _ h => by cases h; exact (Or.inr h_j_5))) nn_22 mw_161 mw_70 rfl (by decide +kernel) rfl rfl ⟨by decide, by decide⟩ rfl hl.1 rfl (Nat.le_of_ble_eq_true rfl) d_CarDesk_make_67 ⟨by decide, by decide⟩ (fun H locs hW hS => ?_)
          refine cx_cVN0 (w0 := (f_Shelf_put (f_Thing_init (f_mk1 w x.toNatClampNeg q) (nj w x.toNatClampNeg) (f_CarDesk_firstState (f_mk1 w x.toNatClampNeg q) x (some j_5)) (some j_5)) x.toNatClampNeg (nj w x.toNatClampNeg))) (rest := []) (n := 1) ⟨hx, hb, hml, hown, hA⟩ (cd_GA mw_162) hE hb0 hW hS 4 x.toNatClampNeg (cd_vlt (cd_kind c_1)) rfl rfl (c_Shelf_put l D dA b0 (f_Thing_init (f_mk1 w x.toNatClampNeg q) (nj w x.toNatClampNeg) (f_CarDesk_firstState (f_mk1 w x.toNatClampNeg q) x (some j_5)) (some j_5)) x.toNatClampNeg (nj w x.toNatClampNeg) (cd_vlt (cd_kind c_1)) (Or.inl rfl) (show x_made w x.toNatClampNeg < 20 from lt_shelf hI c_3)) nn_23 mw_163 mw_164 mw_13 (by decide +kernel) rfl rfl ⟨by decide, by decide⟩ rfl hl.1 rfl (Nat.le_of_ble_eq_true rfl) d_CarDesk_make_70 ⟨by decide, by decide⟩ (fun H locs hW hS => ?_)
          refine lv_aload_n hx hb d_CarDesk_make_73 rfl (lv_at hl 2 rfl) ?_
          refine lv_iload_n hx hb d_CarDesk_make_74 rfl (lv_at hl 3 rfl) ?_
          refine cx_cV0 (w0 := (f_CarDesk_emptyTrayOf (f_Shelf_put (f_Thing_init (f_mk1 w x.toNatClampNeg q) (nj w x.toNatClampNeg) (f_CarDesk_firstState (f_mk1 w x.toNatClampNeg q) x (some j_5)) (some j_5)) x.toNatClampNeg (nj w x.toNatClampNeg)) x)) (rest := []) (n := 1) ⟨hx, hb, hml, hown, hA⟩ (cd_GA mw_165) hE hb0 hW hS 0 0 rfl rfl rfl (c_CarDesk_emptyTrayOf l D dA b0 (f_Shelf_put (f_Thing_init (f_mk1 w x.toNatClampNeg q) (nj w x.toNatClampNeg) (f_CarDesk_firstState (f_mk1 w x.toNatClampNeg q) x (some j_5)) (some j_5)) x.toNatClampNeg (nj w x.toNatClampNeg)) x) mw_168 mw_166 mw_167 mw_32 (by decide +kernel) rfl rfl ⟨by decide, by decide⟩ rfl hl.1 rfl (Nat.le_of_ble_eq_true rfl) d_CarDesk_make_75 ⟨by decide, by decide⟩ (fun H locs hW hS => ?_)
          refine lv_aload_n hx hb d_CarDesk_make_78 rfl (lv_at hl 2 rfl) ?_
          refine lv_dup hx hb d_CarDesk_make_79 rfl ?_
          refine cd_get (ci := 0) (C := R_CarDesk) (T := F_CarDesk) (N := 14) (v := .int (x_ctr (f_CarDesk_emptyTrayOf (f_Shelf_put (f_Thing_init (f_mk1 w x.toNatClampNeg q) (nj w x.toNatClampNeg) (f_CarDesk_firstState (f_mk1 w x.toNatClampNeg q) x (some j_5)) (some j_5)) x.toNatClampNeg (nj w x.toNatClampNeg)) x) 6)) hx hb hA i_CarDesk hown hK hW 0 0 rfl rfl rfl 12 (by decide) mw_135 rfl rfl d_CarDesk_make_80 ?_
          refine lv_iconst (v := 1) hx hb d_CarDesk_make_83 (by decide) ?_
          refine lv_iadd hx hb d_CarDesk_make_84 ?_
          refine cd_put (ci := 0) (C := R_CarDesk) (T := F_CarDesk) (N := 14) (v := .int ((x_ctr (f_CarDesk_emptyTrayOf (f_Shelf_put (f_Thing_init (f_mk1 w x.toNatClampNeg q) (nj w x.toNatClampNeg) (f_CarDesk_firstState (f_mk1 w x.toNatClampNeg q) x (some j_5)) (some j_5)) x.toNatClampNeg (nj w x.toNatClampNeg)) x) 6) + 1)) hx hb hA i_CarDesk t_CarDesk t_CarDesk_ok n_CarDesk hown hK hW hS 0 0 rfl rfl rfl 12 (by decide) mw_135 rfl rfl rfl rfl (Nat.le_of_ble_eq_true rfl) d_CarDesk_make_85 (cx_ce dA (u_ctr (f_CarDesk_emptyTrayOf (f_Shelf_put (f_Thing_init (f_mk1 w x.toNatClampNeg q) (nj w x.toNatClampNeg) (f_CarDesk_firstState (f_mk1 w x.toNatClampNeg q) x (some j_5)) (some j_5)) x.toNatClampNeg (nj w x.toNatClampNeg)) x) 6 ((x_ctr (f_CarDesk_emptyTrayOf (f_Shelf_put (f_Thing_init (f_mk1 w x.toNatClampNeg q) (nj w x.toNatClampNeg) (f_CarDesk_firstState (f_mk1 w x.toNatClampNeg q) x (some j_5)) (some j_5)) x.toNatClampNeg (nj w x.toNatClampNeg)) x) 6) + 1))) rfl (kp_ctr dA (f_CarDesk_emptyTrayOf (f_Shelf_put (f_Thing_init (f_mk1 w x.toNatClampNeg q) (nj w x.toNatClampNeg) (f_CarDesk_firstState (f_mk1 w x.toNatClampNeg q) x (some j_5)) (some j_5)) x.toNatClampNeg (nj w x.toNatClampNeg)) x) 6 ((x_ctr (f_CarDesk_emptyTrayOf (f_Shelf_put (f_Thing_init (f_mk1 w x.toNatClampNeg q) (nj w x.toNatClampNeg) (f_CarDesk_firstState (f_mk1 w x.toNatClampNeg q) x (some j_5)) (some j_5)) x.toNatClampNeg (nj w x.toNatClampNeg)) x) 6) + 1)) (fun H locs hW hS => ?_)
          have hW : cx_Wo D dA b0 (u_ctr (f_CarDesk_emptyTrayOf (f_Shelf_put (f_Thing_init (f_mk1 w x.toNatClampNeg q) (nj w x.toNatClampNeg) (f_CarDesk_firstState (f_mk1 w x.toNatClampNeg q) x (some j_5)) (some j_5)) x.toNatClampNeg (nj w x.toNatClampNeg)) x) 6 ((x_ctr (f_CarDesk_emptyTrayOf (f_Shelf_put (f_Thing_init (f_mk1 w x.toNatClampNeg q) (nj w x.toNatClampNeg) (f_CarDesk_firstState (f_mk1 w x.toNatClampNeg q) x (some j_5)) (some j_5)) x.toNatClampNeg (nj w x.toNatClampNeg)) x) 6) + 1)) H := to_ctr hW
          refine lv_aload_n hx hb d_CarDesk_make_88 rfl (lv_at hl 2 rfl) ?_
          refine lv_dup hx hb d_CarDesk_make_89 rfl ?_
          refine cd_get (ci := 0) (C := R_CarDesk) (T := F_CarDesk) (N := 14) (v := .int (x_ctr (f_CarDesk_emptyTrayOf (f_Shelf_put (f_Thing_init (f_mk1 w x.toNatClampNeg q) (nj w x.toNatClampNeg) (f_CarDesk_firstState (f_mk1 w x.toNatClampNeg q) x (some j_5)) (some j_5)) x.toNatClampNeg (nj w x.toNatClampNeg)) x) 7)) hx hb hA i_CarDesk hown hK hW 0 0 rfl rfl rfl 13 (by decide) mw_116 rfl rfl d_CarDesk_make_90 ?_
          refine lv_iconst (v := 1) hx hb d_CarDesk_make_93 (by decide) ?_
          refine lv_iadd hx hb d_CarDesk_make_94 ?_
          refine cd_put (ci := 0) (C := R_CarDesk) (T := F_CarDesk) (N := 14) (v := .int ((x_ctr (f_CarDesk_emptyTrayOf (f_Shelf_put (f_Thing_init (f_mk1 w x.toNatClampNeg q) (nj w x.toNatClampNeg) (f_CarDesk_firstState (f_mk1 w x.toNatClampNeg q) x (some j_5)) (some j_5)) x.toNatClampNeg (nj w x.toNatClampNeg)) x) 7) + 1)) hx hb hA i_CarDesk t_CarDesk t_CarDesk_ok n_CarDesk hown hK hW hS 0 0 rfl rfl rfl 13 (by decide) mw_116 rfl rfl rfl rfl (Nat.le_of_ble_eq_true rfl) d_CarDesk_make_95 (cx_ce dA (u_ctr (u_ctr (f_CarDesk_emptyTrayOf (f_Shelf_put (f_Thing_init (f_mk1 w x.toNatClampNeg q) (nj w x.toNatClampNeg) (f_CarDesk_firstState (f_mk1 w x.toNatClampNeg q) x (some j_5)) (some j_5)) x.toNatClampNeg (nj w x.toNatClampNeg)) x) 6 ((x_ctr (f_CarDesk_emptyTrayOf (f_Shelf_put (f_Thing_init (f_mk1 w x.toNatClampNeg q) (nj w x.toNatClampNeg) (f_CarDesk_firstState (f_mk1 w x.toNatClampNeg q) x (some j_5)) (some j_5)) x.toNatClampNeg (nj w x.toNatClampNeg)) x) 6) + 1)) 7 ((x_ctr (f_CarDesk_emptyTrayOf (f_Shelf_put (f_Thing_init (f_mk1 w x.toNatClampNeg q) (nj w x.toNatClampNeg) (f_CarDesk_firstState (f_mk1 w x.toNatClampNeg q) x (some j_5)) (some j_5)) x.toNatClampNeg (nj w x.toNatClampNeg)) x) 7) + 1))) rfl (kp_ctr dA (u_ctr (f_CarDesk_emptyTrayOf (f_Shelf_put (f_Thing_init (f_mk1 w x.toNatClampNeg q) (nj w x.toNatClampNeg) (f_CarDesk_firstState (f_mk1 w x.toNatClampNeg q) x (some j_5)) (some j_5)) x.toNatClampNeg (nj w x.toNatClampNeg)) x) 6 ((x_ctr (f_CarDesk_emptyTrayOf (f_Shelf_put (f_Thing_init (f_mk1 w x.toNatClampNeg q) (nj w x.toNatClampNeg) (f_CarDesk_firstState (f_mk1 w x.toNatClampNeg q) x (some j_5)) (some j_5)) x.toNatClampNeg (nj w x.toNatClampNeg)) x) 6) + 1)) 7 ((x_ctr (f_CarDesk_emptyTrayOf (f_Shelf_put (f_Thing_init (f_mk1 w x.toNatClampNeg q) (nj w x.toNatClampNeg) (f_CarDesk_firstState (f_mk1 w x.toNatClampNeg q) x (some j_5)) (some j_5)) x.toNatClampNeg (nj w x.toNatClampNeg)) x) 7) + 1)) (fun H locs hW hS => ?_)
          have hW : cx_Wo D dA b0 (u_ctr (u_ctr (f_CarDesk_emptyTrayOf (f_Shelf_put (f_Thing_init (f_mk1 w x.toNatClampNeg q) (nj w x.toNatClampNeg) (f_CarDesk_firstState (f_mk1 w x.toNatClampNeg q) x (some j_5)) (some j_5)) x.toNatClampNeg (nj w x.toNatClampNeg)) x) 6 ((x_ctr (f_CarDesk_emptyTrayOf (f_Shelf_put (f_Thing_init (f_mk1 w x.toNatClampNeg q) (nj w x.toNatClampNeg) (f_CarDesk_firstState (f_mk1 w x.toNatClampNeg q) x (some j_5)) (some j_5)) x.toNatClampNeg (nj w x.toNatClampNeg)) x) 6) + 1)) 7 ((x_ctr (f_CarDesk_emptyTrayOf (f_Shelf_put (f_Thing_init (f_mk1 w x.toNatClampNeg q) (nj w x.toNatClampNeg) (f_CarDesk_firstState (f_mk1 w x.toNatClampNeg q) x (some j_5)) (some j_5)) x.toNatClampNeg (nj w x.toNatClampNeg)) x) 7) + 1)) H := to_ctr hW
          refine lv_bipush (v := 64) hx hb d_CarDesk_make_98 (by decide) ?_
          refine lv_iload_n hx hb d_CarDesk_make_100 rfl (lv_at hl 3 rfl) ?_
          refine lv_imul hx hb d_CarDesk_make_101 ?_
          refine lv_aload_n hx hb d_CarDesk_make_102 rfl (lv_at hl 1 rfl) ?_
          refine cd_getN (ci := 2) (C := R_Shelf) (T := F_Shelf) (N := 2) (v := .int (nI (x_made (f_CarDesk_emptyTrayOf (f_Shelf_put (f_Thing_init (f_mk1 w x.toNatClampNeg q) (nj w x.toNatClampNeg) (f_CarDesk_firstState (f_mk1 w x.toNatClampNeg q) x (some j_5)) (some j_5)) x.toNatClampNeg (nj w x.toNatClampNeg)) x) x.toNatClampNeg))) hx hb hA i_Shelf hown hE hW 4 x.toNatClampNeg (cd_vlt (cd_kind c_1)) rfl rfl 1 (by decide) nn_24 rfl rfl d_CarDesk_make_103 ?_
          refine lv_iadd hx hb d_CarDesk_make_106 ?_
          have hf : f_CarDesk_make w x q = (((64 * x) + (nI (x_made (f_CarDesk_emptyTrayOf (f_Shelf_put (f_Thing_init (f_mk1 w x.toNatClampNeg q) (nj w x.toNatClampNeg) (f_CarDesk_firstState (f_mk1 w x.toNatClampNeg q) x (some j_5)) (some j_5)) x.toNatClampNeg (nj w x.toNatClampNeg)) x) x.toNatClampNeg))), (u_ctr (u_ctr (f_CarDesk_emptyTrayOf (f_Shelf_put (f_Thing_init (f_mk1 w x.toNatClampNeg q) (nj w x.toNatClampNeg) (f_CarDesk_firstState (f_mk1 w x.toNatClampNeg q) x (some j_5)) (some j_5)) x.toNatClampNeg (nj w x.toNatClampNeg)) x) 6 ((x_ctr (f_CarDesk_emptyTrayOf (f_Shelf_put (f_Thing_init (f_mk1 w x.toNatClampNeg q) (nj w x.toNatClampNeg) (f_CarDesk_firstState (f_mk1 w x.toNatClampNeg q) x (some j_5)) (some j_5)) x.toNatClampNeg (nj w x.toNatClampNeg)) x) 6) + 1)) 7 ((x_ctr (f_CarDesk_emptyTrayOf (f_Shelf_put (f_Thing_init (f_mk1 w x.toNatClampNeg q) (nj w x.toNatClampNeg) (f_CarDesk_firstState (f_mk1 w x.toNatClampNeg q) x (some j_5)) (some j_5)) x.toNatClampNeg (nj w x.toNatClampNeg)) x) 7) + 1))) := by
            simp only [f_CarDesk_make, if_neg c_1, if_neg c_2, if_pos c_3, cd_oc_s ho_4, f_mkw, ho_4]
          exact cd_iret hx hb hr hlocks hW hS d_CarDesk_make_107 ⟨q, by rw [hf], by rw [hf], by rw [hf], by rw [hf]⟩ (Nat.le_of_ble_eq_true rfl) (Nat.le_of_ble_eq_true rfl)
      · skip
        refine lv_aload_n hx hb d_CarDesk_make_42 rfl (lv_at hl 1 rfl) ?_
        refine lv_bipush (v := (-4)) hx hb d_CarDesk_make_43 (by decide) ?_
        refine cx_cV (w0 := (f_CarDesk_refuse w (-4)).2) (x0 := .int ((f_CarDesk_refuse w (-4)).1)) (rest := []) (n := 1) ⟨hx, hb, hml, hown, hA⟩ (cd_GA mw_106) hE hb0 hW hS 0 0 rfl rfl rfl (c_CarDesk_refuse l D dA b0 w (-4)) mw_109 mw_107 mw_108 mw_32 (by decide +kernel) rfl rfl ⟨by decide, by decide⟩ rfl hl.1 rfl (Nat.le_of_ble_eq_true rfl) d_CarDesk_make_45 ⟨by decide, by decide⟩ (fun H locs hW hS => ?_)
        have hf : f_CarDesk_make w x 0 = ((f_CarDesk_refuse w (-4)).1, (f_CarDesk_refuse w (-4)).2) := by
          simp only [f_CarDesk_make, if_neg c_1, if_neg c_2, if_neg c_3]
        exact cd_iret hx hb hr hlocks hW hS d_CarDesk_make_48 ⟨0, by rw [hf], by rw [hf], by rw [hf], by rw [hf]⟩ (Nat.le_of_ble_eq_true rfl) (Nat.le_of_ble_eq_true rfl)
    · skip
      refine lv_aload_n hx hb d_CarDesk_make_21 rfl (lv_at hl 0 rfl) ?_
      refine lv_bipush (v := (-3)) hx hb d_CarDesk_make_22 (by decide) ?_
      refine cx_cV (w0 := (f_CarDesk_refuse w (-3)).2) (x0 := .int ((f_CarDesk_refuse w (-3)).1)) (rest := []) (n := 1) ⟨hx, hb, hml, hown, hA⟩ (cd_GA mw_106) hE hb0 hW hS 0 0 rfl rfl rfl (c_CarDesk_refuse l D dA b0 w (-3)) mw_109 mw_107 mw_108 mw_32 (by decide +kernel) rfl rfl ⟨by decide, by decide⟩ rfl hl.1 rfl (Nat.le_of_ble_eq_true rfl) d_CarDesk_make_24 ⟨by decide, by decide⟩ (fun H locs hW hS => ?_)
      have hf : f_CarDesk_make w x 0 = ((f_CarDesk_refuse w (-3)).1, (f_CarDesk_refuse w (-3)).2) := by
        simp only [f_CarDesk_make, if_neg c_1, if_pos c_2]
      exact cd_iret hx hb hr hlocks hW hS d_CarDesk_make_27 ⟨0, by rw [hf], by rw [hf], by rw [hf], by rw [hf]⟩ (Nat.le_of_ble_eq_true rfl) (Nat.le_of_ble_eq_true rfl)
  · skip
    refine lv_aload_n hx hb d_CarDesk_make_7 rfl (lv_at hl 0 rfl) ?_
    refine lv_iconst (v := (-1)) hx hb d_CarDesk_make_8 (by decide) ?_
    refine cx_cV (w0 := (f_CarDesk_refuse w (-1)).2) (x0 := .int ((f_CarDesk_refuse w (-1)).1)) (rest := []) (n := 1) ⟨hx, hb, hml, hown, hA⟩ (cd_GA mw_106) hE hb0 hW hS 0 0 rfl rfl rfl (c_CarDesk_refuse l D dA b0 w (-1)) mw_109 mw_107 mw_108 mw_32 (by decide +kernel) rfl rfl ⟨by decide, by decide⟩ rfl hl.1 rfl (Nat.le_of_ble_eq_true rfl) d_CarDesk_make_9 ⟨by decide, by decide⟩ (fun H locs hW hS => ?_)
    have hf : f_CarDesk_make w x 0 = ((f_CarDesk_refuse w (-1)).1, (f_CarDesk_refuse w (-1)).2) := by
      simp only [f_CarDesk_make, if_pos c_1]
    exact cd_iret hx hb hr hlocks hW hS d_CarDesk_make_12 ⟨0, by rw [hf], by rw [hf], by rw [hf], by rw [hf]⟩ (Nat.le_of_ble_eq_true rfl) (Nat.le_of_ble_eq_true rfl)
end
section
/-! THE REFERENCE'S WORLD: its object is (9, 0), its arrays (10, 0 .. 10). mc: code, refused, failed, lastFailure, lastCall, lastNumber, answered, things, noted; mi, ml: what its arrays hold. Behind: the addresses, and what else the world holds. -/
abbrev cm_S : Type := (Nat → Int32) × (Nat → Nat → Int32) × (Nat → Nat → Int64)
abbrev cm_W : Type := cm_S × (Nat → Nat → Nat) × (Nat → Nat → Prop) × (Nat → Nat → va_E)
abbrev x_mc (w : cm_W) : Nat → Int32 := w.1.1
abbrev x_mi (w : cm_W) : Nat → Nat → Int32 := w.1.2.1
abbrev x_ml (w : cm_W) : Nat → Nat → Int64 := w.1.2.2
abbrev m_ad (w : cm_W) : Nat → Nat → Nat := w.2.1
abbrev m_dr (w : cm_W) : Nat → Nat → Prop := w.2.2.1
abbrev m_cr (w : cm_W) : Nat → Nat → va_E := w.2.2.2
abbrev u_mc (w : cm_W) (i : Nat) (v : Int32) : cm_W := ((va_up w.1.1 i v, w.1.2), w.2)
abbrev u_mi (w : cm_W) (b i : Nat) (v : Int32) : cm_W := ((w.1.1, va_up w.1.2.1 b (upd (w.1.2.1 b) i v), w.1.2.2), w.2)
abbrev u_ml (w : cm_W) (b i : Nat) (v : Int64) : cm_W := ((w.1.1, w.1.2.1, va_up w.1.2.2 b (vp_updL (w.1.2.2 b) i v)), w.2)
def cm_ar (dA : Nat → ClassId) (w : cm_W) (b : Nat) : va_E := match b with
  | 0 => .inl (dA 0, 200, .inl (x_mi w 0))
  | 1 => .inl (dA 0, 200, .inl (x_mi w 1))
  | 2 => .inl (dA 0, 200, .inl (x_mi w 2))
  | 3 => .inl (dA 0, 3, .inl (x_mi w 3))
  | 4 => .inl (dA 1, 24, .inr (.inl (x_ml w 4)))
  | 5 => .inl (dA 0, 24, .inl (x_mi w 5))
  | 6 => .inl (dA 4, 384, .inl (x_mi w 6))
  | 7 => .inl (dA 1, 384, .inr (.inl (x_ml w 7)))
  | 8 => .inl (dA 0, 384, .inl (x_mi w 8))
  | 9 => .inl (dA 0, 384, .inl (x_mi w 9))
  | _ => .inl (dA 0, 6, .inl (x_mi w 10))
def cm_ce (dA : Nat → ClassId) (w : cm_W) : Nat → Nat → va_E := fun a b => match a with
  | 9 => .inr (4, [.int (x_mc w 0), .ref (m_ad w 10 0), .ref (m_ad w 10 1), .ref (m_ad w 10 2), .ref (m_ad w 10 3), .ref (m_ad w 10 4), .ref (m_ad w 10 5), .ref (m_ad w 10 6), .ref (m_ad w 10 7), .ref (m_ad w 10 8), .ref (m_ad w 10 9), .ref (m_ad w 10 10), .int (x_mc w 1), .int (x_mc w 2), .int (x_mc w 3), .int (x_mc w 4), .int (x_mc w 5), .int (x_mc w 6), .int (x_mc w 7), .int (x_mc w 8)])
  | 10 => cm_ar dA w b
  | a => m_cr w a b
def cm_dm (w : cm_W) : Nat → Nat → Prop := fun a b => match a with
  | 9 => b = 0
  | 10 => b < 11
  | a => m_dr w a b
abbrev cm_Wo (D : va_G) (dA : Nat → ClassId) (b0 : Nat) (w : cm_W) (H : Heap) : Prop := cd_Wo D b0 (cm_dm w) (m_ad w) (cm_ce dA w) H
abbrev cm_R (dA : Nat → ClassId) (v0 : Option Value) (w0 : cm_W) : cd_R := fun v dm ad ce => v = v0 ∧ dm = cm_dm w0 ∧ ad = m_ad w0 ∧ ce = cm_ce dA w0
theorem to_mc {D : va_G} {dA : Nat → ClassId} {b0 : Nat} {w : cm_W} {H : Heap} {i : Nat} {v : Int32} (h : cd_Wo D b0 (cm_dm w) (m_ad w) (cm_ce dA (u_mc w i v)) H) : cm_Wo D dA b0 (u_mc w i v) H := h
theorem to_mi {D : va_G} {dA : Nat → ClassId} {b0 : Nat} {w : cm_W} {H : Heap} {b i : Nat} {v : Int32} (h : cd_Wo D b0 (cm_dm w) (m_ad w) (cm_ce dA (u_mi w b i v)) H) : cm_Wo D dA b0 (u_mi w b i v) H := h
theorem to_ml {D : va_G} {dA : Nat → ClassId} {b0 : Nat} {w : cm_W} {H : Heap} {b i : Nat} {v : Int64} (h : cd_Wo D b0 (cm_dm w) (m_ad w) (cm_ce dA (u_ml w b i v)) H) : cm_Wo D dA b0 (u_ml w b i v) H := h
theorem kp_cm (dA : Nat → ClassId) (w w' : cm_W) (h9 : cm_ce dA w' 9 0 = cm_ce dA w 9 0) (h10 : ∀ b, b < 11 → cm_ar dA w' b = cm_ar dA w b) (hr : m_cr w' = m_cr w) : ∀ x y, cm_dm w x y → cm_ce dA w' x y = cm_ce dA w x y := fun x y hd => by
  by_cases h1 : x = 9
  · subst h1
    have hy : y = 0 := hd
    rw [hy]
    exact h9
  · by_cases h2 : x = 10
    · subst h2
      exact h10 y hd
    · have e : ∀ z : cm_W, cm_ce dA z x y = m_cr z x y := fun z => by
        unfold cm_ce
        split <;> first | (exfalso; omega) | rfl
      rw [e, e, hr]
theorem kp_mc (dA : Nat → ClassId) (w : cm_W) (i : Nat) (v : Int32) : ∀ x y, cm_dm w x y → ¬ (x = 9 ∧ y = 0) → cm_ce dA (u_mc w i v) x y = cm_ce dA w x y := fun x y hd hn => by
  by_cases h1 : x = 9
  · subst h1
    have hy : y = 0 := hd
    exact absurd ⟨rfl, hy⟩ hn
  · by_cases h2 : x = 10
    · subst h2
      rfl
    · have e : ∀ z : cm_W, cm_ce dA z x y = m_cr z x y := fun z => by
        unfold cm_ce
        split <;> first | (exfalso; omega) | rfl
      rw [e, e]
theorem ar_mi (dA : Nat → ClassId) (w : cm_W) (b i : Nat) (v : Int32) (y : Nat) (hy : y < 11) (h : y ≠ b) : cm_ar dA (u_mi w b i v) y = cm_ar dA w y := by
  have e : ∀ q, q ≠ b → x_mi (u_mi w b i v) q = x_mi w q := fun q hq => by simp [x_mi, va_up, hq]
  rcases (show y = 0 ∨ y = 1 ∨ y = 2 ∨ y = 3 ∨ y = 4 ∨ y = 5 ∨ y = 6 ∨ y = 7 ∨ y = 8 ∨ y = 9 ∨ y = 10 by omega) with rfl | rfl | rfl | rfl | rfl | rfl | rfl | rfl | rfl | rfl | rfl <;> simp only [cm_ar, e _ h]
theorem ar_ml (dA : Nat → ClassId) (w : cm_W) (b i : Nat) (v : Int64) (y : Nat) (hy : y < 11) (h : y ≠ b) : cm_ar dA (u_ml w b i v) y = cm_ar dA w y := by
  have e : ∀ q, q ≠ b → x_ml (u_ml w b i v) q = x_ml w q := fun q hq => by simp [x_ml, va_up, hq]
  rcases (show y = 0 ∨ y = 1 ∨ y = 2 ∨ y = 3 ∨ y = 4 ∨ y = 5 ∨ y = 6 ∨ y = 7 ∨ y = 8 ∨ y = 9 ∨ y = 10 by omega) with rfl | rfl | rfl | rfl | rfl | rfl | rfl | rfl | rfl | rfl | rfl <;> simp only [cm_ar, e _ h]
theorem kp_mi (dA : Nat → ClassId) (w : cm_W) (b i : Nat) (v : Int32) : ∀ x y, cm_dm w x y → ¬ (x = 10 ∧ y = b) → cm_ce dA (u_mi w b i v) x y = cm_ce dA w x y := fun x y hd hn => by
  by_cases h1 : x = 9
  · subst h1
    rfl
  · by_cases h2 : x = 10
    · subst h2
      exact ar_mi dA w b i v y hd (fun q => hn ⟨rfl, q⟩)
    · have e : ∀ z : cm_W, cm_ce dA z x y = m_cr z x y := fun z => by
        unfold cm_ce
        split <;> first | (exfalso; omega) | rfl
      rw [e, e]
theorem kp_ml (dA : Nat → ClassId) (w : cm_W) (b i : Nat) (v : Int64) : ∀ x y, cm_dm w x y → ¬ (x = 10 ∧ y = b) → cm_ce dA (u_ml w b i v) x y = cm_ce dA w x y := fun x y hd hn => by
  by_cases h1 : x = 9
  · subst h1
    rfl
  · by_cases h2 : x = 10
    · subst h2
      exact ar_ml dA w b i v y hd (fun q => hn ⟨rfl, q⟩)
    · have e : ∀ z : cm_W, cm_ce dA z x y = m_cr z x y := fun z => by
        unfold cm_ce
        split <;> first | (exfalso; omega) | rfl
      rw [e, e]
end
section
/-! calls over the reference's world -/
section CMC
variable {p : Program} {l : Launch} {e : Env} {R : Room} {s : State} {m : MethodId} {args : Array Value} {below : List Frame} {meth : Method} {c : Code} {H : Heap} {locs : List Loc} {cells slots : Nat} {Q : State → Prop}
variable {cc : ByteArray} {pc : Nat} {ls : Array Slot} {rest : List Value} {D : va_G} {b0 : Nat} {dA : Nat → ClassId} {w w0 : cm_W} {x0 : Value} {mc ms : Nat} {st0 : List Value}
variable {nL maxL n index ci : Nat} {own C host : String} {y : MethodName} {bytes : ByteArray} {ret : Option FieldType} {rm : Room} {As : List Value} {Ts : List Cond} {q : vw_C} {fs : List Value}
theorem cm_cV (S : CallFix p m c cc nL s args Ts own) (hG : GoodIn Ts (Cond.code y bytes maxL ret :: cd_WA)) (hE : cd_EV D (cx_tys dA) s) (hb0 : b0 ≤ s.heap.size) (hW : cm_Wo D dA b0 w H) (hS : va_S (cd_A b0) s.heap H locs) (a b : Nat) (hd : cm_dm w a b) (he : cm_ce dA w a b = .inr (ci, fs)) (hc : classes[ci]? = some q)
    (hM : cd_Ct l D (cx_tys dA) b0 y (Cond.code y bytes maxL ret :: cd_WA) rm (.ref (m_ad w a b) :: As) (cm_dm w) (m_ad w) (cm_ce dA w) (cm_R dA (some x0) w0) mc ms) (hl : Cond.methodLink own index y ∈ Ts) (hin : Cond.instanceMethod y ∈ Ts) (hsel : Cond.selects q.1 y y ∈ Ts) (hini : Cond.initialized y.cls ∈ Ts)
    (hy : y.cls ≠ "java/lang/invoke/MethodHandle" ∧ y.cls ≠ "java/lang/invoke/VarHandle" ∧ (parseMethodDescriptor y.desc).map (fun d => d.parameters.length) = some n) (hrc : rm.cells = mc) (hrs : rm.slots = ms) (hR : rm.frames + 1 ≤ R.frames ∧ 8 + (maxL + 11) + rm.locals ≤ R.locals)
    (hn : As.length = n) (hsize : ls.size = nL) (hst : st0 = As.reverse ++ .ref (m_ad w a b) :: rest) (hro : (rest.map fun v => v.category).sum ≤ 8) (hdg : decode cc pc = .ok (.invokevirtual index, 3)) (hf : cells + mc ≤ R.cells ∧ slots + ms ≤ R.slots)
    (kk : ∀ (H1 : Heap) (locs1 : List Loc), cm_Wo D dA b0 w0 H1 → va_S (cd_A b0) s.heap H1 locs1 → W p l e R s m args below meth c H1 locs1 (cells + mc) (slots + ms) Q (F0 m (pc + 3) ls (x0 :: rest))) : W p l e R s m args below meth c H locs cells slots Q (F0 m pc ls st0) :=
  cd_cV S hG hE hb0 hW hS a b hd he hc hM hl hin hsel hini hy hrc hrs hR hn hsize hst hro hdg hf (fun v dm ad ce H1 locs1 hQ hW hS => by obtain ⟨rfl, rfl, rfl, rfl⟩ := hQ; exact kk H1 locs1 hW hS)
theorem cm_cV0 (S : CallFix p m c cc nL s args Ts own) (hG : GoodIn Ts (Cond.code y bytes maxL ret :: cd_WA)) (hE : cd_EV D (cx_tys dA) s) (hb0 : b0 ≤ s.heap.size) (hW : cm_Wo D dA b0 w H) (hS : va_S (cd_A b0) s.heap H locs) (a b : Nat) (hd : cm_dm w a b) (he : cm_ce dA w a b = .inr (ci, fs)) (hc : classes[ci]? = some q)
    (hM : cd_Ct l D (cx_tys dA) b0 y (Cond.code y bytes maxL ret :: cd_WA) rm (.ref (m_ad w a b) :: As) (cm_dm w) (m_ad w) (cm_ce dA w) (cm_R dA none w0) mc ms) (hl : Cond.methodLink own index y ∈ Ts) (hin : Cond.instanceMethod y ∈ Ts) (hsel : Cond.selects q.1 y y ∈ Ts) (hini : Cond.initialized y.cls ∈ Ts)
    (hy : y.cls ≠ "java/lang/invoke/MethodHandle" ∧ y.cls ≠ "java/lang/invoke/VarHandle" ∧ (parseMethodDescriptor y.desc).map (fun d => d.parameters.length) = some n) (hrc : rm.cells = mc) (hrs : rm.slots = ms) (hR : rm.frames + 1 ≤ R.frames ∧ 8 + (maxL + 11) + rm.locals ≤ R.locals)
    (hn : As.length = n) (hsize : ls.size = nL) (hst : st0 = As.reverse ++ .ref (m_ad w a b) :: rest) (hro : (rest.map fun v => v.category).sum ≤ 8) (hdg : decode cc pc = .ok (.invokevirtual index, 3)) (hf : cells + mc ≤ R.cells ∧ slots + ms ≤ R.slots)
    (kk : ∀ (H1 : Heap) (locs1 : List Loc), cm_Wo D dA b0 w0 H1 → va_S (cd_A b0) s.heap H1 locs1 → W p l e R s m args below meth c H1 locs1 (cells + mc) (slots + ms) Q (F0 m (pc + 3) ls rest)) : W p l e R s m args below meth c H locs cells slots Q (F0 m pc ls st0) :=
  cd_cV S hG hE hb0 hW hS a b hd he hc hM hl hin hsel hini hy hrc hrs hR hn hsize hst hro hdg hf (fun v dm ad ce H1 locs1 hQ hW hS => by obtain ⟨rfl, rfl, rfl, rfl⟩ := hQ; exact kk H1 locs1 hW hS)
theorem cm_cVN (S : CallFix p m c cc nL s args Ts own) (hG : GoodIn Ts (Cond.code y bytes maxL ret :: cd_WA)) (hE : cd_EV D (cx_tys dA) s) (hb0 : b0 ≤ s.heap.size) (hW : cm_Wo D dA b0 w H) (hS : va_S (cd_A b0) s.heap H locs) (a b : Nat) (hd : cm_dm w a b) (he : cm_ce dA w a b = .inr (ci, fs)) (hc : classes[ci]? = some q)
    (hM : cd_Ct l D (cx_tys dA) b0 y (Cond.code y bytes maxL ret :: cd_WA) rm (.ref (m_ad w a b) :: As) (cm_dm w) (m_ad w) (cm_ce dA w) (cm_R dA (some x0) w0) mc ms) (hl : Cond.methodLinkNest own index y host ∈ cd_nest) (hin : Cond.instanceMethod y ∈ Ts) (hsel : Cond.selects q.1 y y ∈ Ts) (hini : Cond.initialized y.cls ∈ Ts)
    (hy : y.cls ≠ "java/lang/invoke/MethodHandle" ∧ y.cls ≠ "java/lang/invoke/VarHandle" ∧ (parseMethodDescriptor y.desc).map (fun d => d.parameters.length) = some n) (hrc : rm.cells = mc) (hrs : rm.slots = ms) (hR : rm.frames + 1 ≤ R.frames ∧ 8 + (maxL + 11) + rm.locals ≤ R.locals)
    (hn : As.length = n) (hsize : ls.size = nL) (hst : st0 = As.reverse ++ .ref (m_ad w a b) :: rest) (hro : (rest.map fun v => v.category).sum ≤ 8) (hdg : decode cc pc = .ok (.invokevirtual index, 3)) (hf : cells + mc ≤ R.cells ∧ slots + ms ≤ R.slots)
    (kk : ∀ (H1 : Heap) (locs1 : List Loc), cm_Wo D dA b0 w0 H1 → va_S (cd_A b0) s.heap H1 locs1 → W p l e R s m args below meth c H1 locs1 (cells + mc) (slots + ms) Q (F0 m (pc + 3) ls (x0 :: rest))) : W p l e R s m args below meth c H locs cells slots Q (F0 m pc ls st0) :=
  cd_cVN S hG hE hb0 hW hS a b hd he hc hM hl hin hsel hini hy hrc hrs hR hn hsize hst hro hdg hf (fun v dm ad ce H1 locs1 hQ hW hS => by obtain ⟨rfl, rfl, rfl, rfl⟩ := hQ; exact kk H1 locs1 hW hS)
theorem cm_cVN0 (S : CallFix p m c cc nL s args Ts own) (hG : GoodIn Ts (Cond.code y bytes maxL ret :: cd_WA)) (hE : cd_EV D (cx_tys dA) s) (hb0 : b0 ≤ s.heap.size) (hW : cm_Wo D dA b0 w H) (hS : va_S (cd_A b0) s.heap H locs) (a b : Nat) (hd : cm_dm w a b) (he : cm_ce dA w a b = .inr (ci, fs)) (hc : classes[ci]? = some q)
    (hM : cd_Ct l D (cx_tys dA) b0 y (Cond.code y bytes maxL ret :: cd_WA) rm (.ref (m_ad w a b) :: As) (cm_dm w) (m_ad w) (cm_ce dA w) (cm_R dA none w0) mc ms) (hl : Cond.methodLinkNest own index y host ∈ cd_nest) (hin : Cond.instanceMethod y ∈ Ts) (hsel : Cond.selects q.1 y y ∈ Ts) (hini : Cond.initialized y.cls ∈ Ts)
    (hy : y.cls ≠ "java/lang/invoke/MethodHandle" ∧ y.cls ≠ "java/lang/invoke/VarHandle" ∧ (parseMethodDescriptor y.desc).map (fun d => d.parameters.length) = some n) (hrc : rm.cells = mc) (hrs : rm.slots = ms) (hR : rm.frames + 1 ≤ R.frames ∧ 8 + (maxL + 11) + rm.locals ≤ R.locals)
    (hn : As.length = n) (hsize : ls.size = nL) (hst : st0 = As.reverse ++ .ref (m_ad w a b) :: rest) (hro : (rest.map fun v => v.category).sum ≤ 8) (hdg : decode cc pc = .ok (.invokevirtual index, 3)) (hf : cells + mc ≤ R.cells ∧ slots + ms ≤ R.slots)
    (kk : ∀ (H1 : Heap) (locs1 : List Loc), cm_Wo D dA b0 w0 H1 → va_S (cd_A b0) s.heap H1 locs1 → W p l e R s m args below meth c H1 locs1 (cells + mc) (slots + ms) Q (F0 m (pc + 3) ls rest)) : W p l e R s m args below meth c H locs cells slots Q (F0 m pc ls st0) :=
  cd_cVN S hG hE hb0 hW hS a b hd he hc hM hl hin hsel hini hy hrc hrs hR hn hsize hst hro hdg hf (fun v dm ad ce H1 locs1 hQ hW hS => by obtain ⟨rfl, rfl, rfl, rfl⟩ := hQ; exact kk H1 locs1 hW hS)
theorem cm_cS (S : CallFix p m c cc nL s args Ts own) (hG : GoodIn Ts (Cond.code y bytes maxL ret :: cd_WA)) (hE : cd_EV D (cx_tys dA) s) (hb0 : b0 ≤ s.heap.size) (hW : cm_Wo D dA b0 w H) (hS : va_S (cd_A b0) s.heap H locs)
    (hM : cd_Ct l D (cx_tys dA) b0 y (Cond.code y bytes maxL ret :: cd_WA) rm As (cm_dm w) (m_ad w) (cm_ce dA w) (cm_R dA (some x0) w0) mc ms) (hl : Cond.methodLink own index y ∈ Ts) (hin : Cond.static y ∈ Ts) (hini : Cond.initialized y.cls ∈ Ts)
    (hy : y.cls ≠ "java/lang/invoke/MethodHandle" ∧ y.cls ≠ "java/lang/invoke/VarHandle" ∧ (parseMethodDescriptor y.desc).map (fun d => d.parameters.length) = some n) (hrc : rm.cells = mc) (hrs : rm.slots = ms) (hR : rm.frames + 1 ≤ R.frames ∧ 8 + (maxL + 11) + rm.locals ≤ R.locals)
    (hn : As.length = n) (hsize : ls.size = nL) (hst : st0 = As.reverse ++ rest) (hro : (rest.map fun v => v.category).sum ≤ 8) (hdg : decode cc pc = .ok (.invokestatic index, 3)) (hf : cells + mc ≤ R.cells ∧ slots + ms ≤ R.slots)
    (kk : ∀ (H1 : Heap) (locs1 : List Loc), cm_Wo D dA b0 w0 H1 → va_S (cd_A b0) s.heap H1 locs1 → W p l e R s m args below meth c H1 locs1 (cells + mc) (slots + ms) Q (F0 m (pc + 3) ls (x0 :: rest))) : W p l e R s m args below meth c H locs cells slots Q (F0 m pc ls st0) :=
  cd_cS S hG hE hb0 hW hS hM hl hin hini hy hrc hrs hR hn hsize hst hro hdg hf (fun v dm ad ce H1 locs1 hQ hW hS => by obtain ⟨rfl, rfl, rfl, rfl⟩ := hQ; exact kk H1 locs1 hW hS)
theorem cm_cIN0 (S : CallFix p m c cc nL s args Ts own) (hG : GoodIn Ts (Cond.code y bytes maxL none :: cd_WA)) (hE : cd_EV D (cx_tys dA) s) (hb0 : b0 ≤ s.heap.size) (hW : cm_Wo D dA b0 w H) (hS : va_S (cd_A b0) s.heap H locs) (b : Nat)
    (hM : cd_Ct l D (cx_tys dA) b0 y (Cond.code y bytes maxL none :: cd_WA) rm (.ref b :: As) (cm_dm w) (m_ad w) (cm_ce dA w) (cm_R dA none w0) mc ms) (hl : Cond.methodLinkNest own index y host ∈ cd_nest) (hin : Cond.instanceMethod y ∈ Ts) (hini : Cond.initialized y.cls ∈ Ts) (hy1 : y.name = "<init>")
    (hy : y.cls ≠ "java/lang/invoke/MethodHandle" ∧ y.cls ≠ "java/lang/invoke/VarHandle" ∧ (parseMethodDescriptor y.desc).map (fun d => d.parameters.length) = some n) (hrc : rm.cells = mc) (hrs : rm.slots = ms) (hR : rm.frames + 1 ≤ R.frames ∧ 8 + (maxL + 11) + rm.locals ≤ R.locals)
    (hn : As.length = n) (hsize : ls.size = nL) (hst : st0 = As.reverse ++ .ref b :: rest) (hro : (rest.map fun v => v.category).sum ≤ 8) (hdg : decode cc pc = .ok (.invokespecial index, 3)) (hf : cells + mc ≤ R.cells ∧ slots + ms ≤ R.slots)
    (kk : ∀ (H1 : Heap) (locs1 : List Loc), cm_Wo D dA b0 w0 H1 → va_S (cd_A b0) s.heap H1 locs1 → W p l e R s m args below meth c H1 locs1 (cells + mc) (slots + ms) Q (F0 m (pc + 3) ls rest)) : W p l e R s m args below meth c H locs cells slots Q (F0 m pc ls st0) :=
  cd_cIN S hG hE hb0 hW hS b hM hl hin hini hy1 hy hrc hrs hR hn hsize hst hro hdg hf (fun v dm ad ce H1 locs1 hQ hW hS => by obtain ⟨rfl, rfl, rfl, rfl⟩ := hQ; exact kk H1 locs1 hW hS)
end CMC

theorem cm_in23 {x : Int32} (h0 : ¬ x < 0) (h1 : ¬ 23 < x) : vp_in x 24 := by
  rw [vp_in_iff]
  rw [Int32.lt_iff_toInt_lt] at h0 h1
  have : (0 : Int32).toInt = 0 := by decide
  have : (23 : Int32).toInt = 23 := by decide
  omega
theorem cm_in23' {x : Int32} (h0 : ¬ x < 0) (h1 : x ≤ 23) : vp_in x 24 := by
  rw [vp_in_iff]
  rw [Int32.lt_iff_toInt_lt] at h0
  rw [Int32.le_iff_toInt_le] at h1
  have : (0 : Int32).toInt = 0 := by decide
  have : (23 : Int32).toInt = 23 := by decide
  omega
theorem cm_rem6 {x : Int32} (h : vp_in x 24) : vp_in (x - x / 6 * 6) 6 := by
  obtain ⟨j, hj, rfl⟩ := vp_in_of h (by decide)
  rw [show (6 : Int32) = nI 6 from rfl, pk_rem (by omega) (by decide) (by decide)]
  exact vp_in_nI (Nat.mod_lt _ (by decide)) (by decide)
theorem cm_e64 {k : Nat} (hk : k < 6) : (64 : Int64) * (nI k).toInt64 = lN (64 * k) := by
  rw [nI_l (by omega), show (64 : Int64) = lN 64 from rfl, lN_mul]
theorem cm_num {y : Int64} {c : Int32} (hc : vp_in c 6) (h0 : ¬ y ≤ 64 * c.toInt64) (h1 : ¬ 64 * c.toInt64 + 64 ≤ y) : ∃ k n : Nat, k < 6 ∧ c = nI k ∧ 64 * k < n ∧ n < 64 * k + 64 ∧ y = lN n := by
  obtain ⟨k, hk, rfl⟩ := vp_in_of hc (by decide)
  rw [cm_e64 hk] at h0 h1
  have hy0 : ¬ y < 0 := fun q => h0 (by
    rw [Int64.lt_iff_toInt_lt] at q
    rw [Int64.le_iff_toInt_le, pk_lT (by omega)]
    have : (0 : Int64).toInt = 0 := by decide
    omega)
  obtain ⟨n, hn, rfl⟩ := pk_lOf hy0
  rw [show (64 : Int64) = lN 64 from rfl, lN_add] at h1
  rw [pk_lLE hn (by omega)] at h0
  rw [pk_lLE (by omega) hn] at h1
  exact ⟨k, n, hk, rfl, by omega, by omega, rfl⟩
theorem cm_isT {y : Int64} {c : Int32} (hc : vp_in c 6) (h0 : ¬ y ≤ 64 * c.toInt64) (h1 : ¬ 64 * c.toInt64 + 64 ≤ y) : vp_in y.toInt32 384 := by
  obtain ⟨k, n, hk, -, h2, h3, rfl⟩ := cm_num hc h0 h1
  rw [lN_i]
  exact vp_in_nI (by omega) (by decide)
end
