-- ===== PART A: goes FIRST, ahead of the names: the tables' words, and 'selects' of the private methods out of them =====
/-- a private method of a class that the tables say can be made, by its rows of tables_1 -/
def lw_okq (q : MethodName × Nat) : Prop := (q.1.cls ≠ "java/lang/invoke/MethodHandle" ∧ q.1.cls ≠ "java/lang/invoke/VarHandle") ∧ Cond.instantiable q.1.cls q.2 ∈ tables_1 ∧ Cond.privateMethod q.1 ∈ tables_1 ∧ Cond.instanceMethod q.1 ∈ tables_1
theorem lw_p0 : lw_okq (⟨"BorrowStacks", "performAllocate", "(I)I"⟩, 10) := ⟨⟨by decide +kernel, by decide +kernel⟩, List.mem_of_getElem? (i := 9) (by decide +kernel), List.mem_of_getElem? (i := 101) (by decide +kernel), List.mem_of_getElem? (i := 102) (by decide +kernel)⟩
theorem lw_p1 : lw_okq (⟨"BorrowStacks", "addPointer", "(LBorrowStacks$Allocation;I)I"⟩, 10) := ⟨⟨by decide +kernel, by decide +kernel⟩, List.mem_of_getElem? (i := 9) (by decide +kernel), List.mem_of_getElem? (i := 151) (by decide +kernel), List.mem_of_getElem? (i := 152) (by decide +kernel)⟩
theorem lw_p2 : lw_okq (⟨"BorrowStacks", "counted", "(I)I"⟩, 10) := ⟨⟨by decide +kernel, by decide +kernel⟩, List.mem_of_getElem? (i := 9) (by decide +kernel), List.mem_of_getElem? (i := 169) (by decide +kernel), List.mem_of_getElem? (i := 170) (by decide +kernel)⟩
theorem lw_p3 : lw_okq (⟨"BorrowStacks", "performRead", "(II)I"⟩, 10) := ⟨⟨by decide +kernel, by decide +kernel⟩, List.mem_of_getElem? (i := 9) (by decide +kernel), List.mem_of_getElem? (i := 177) (by decide +kernel), List.mem_of_getElem? (i := 178) (by decide +kernel)⟩
theorem lw_p4 : lw_okq (⟨"BorrowStacks", "pointerAt", "(I)LBorrowStacks$Pointer;"⟩, 10) := ⟨⟨by decide +kernel, by decide +kernel⟩, List.mem_of_getElem? (i := 9) (by decide +kernel), List.mem_of_getElem? (i := 181) (by decide +kernel), List.mem_of_getElem? (i := 182) (by decide +kernel)⟩
theorem lw_p5 : lw_okq (⟨"BorrowStacks", "violated", "(II)I"⟩, 10) := ⟨⟨by decide +kernel, by decide +kernel⟩, List.mem_of_getElem? (i := 9) (by decide +kernel), List.mem_of_getElem? (i := 192) (by decide +kernel), List.mem_of_getElem? (i := 193) (by decide +kernel)⟩
theorem lw_p6 : lw_okq (⟨"BorrowStacks", "performWrite", "(III)I"⟩, 10) := ⟨⟨by decide +kernel, by decide +kernel⟩, List.mem_of_getElem? (i := 9) (by decide +kernel), List.mem_of_getElem? (i := 216) (by decide +kernel), List.mem_of_getElem? (i := 217) (by decide +kernel)⟩
theorem lw_p7 : lw_okq (⟨"BorrowStacks", "performReborrow", "(IIIII)I"⟩, 10) := ⟨⟨by decide +kernel, by decide +kernel⟩, List.mem_of_getElem? (i := 9) (by decide +kernel), List.mem_of_getElem? (i := 244) (by decide +kernel), List.mem_of_getElem? (i := 245) (by decide +kernel)⟩
theorem lw_p8 : lw_okq (⟨"BorrowStacks", "performFree", "(I)I"⟩, 10) := ⟨⟨by decide +kernel, by decide +kernel⟩, List.mem_of_getElem? (i := 9) (by decide +kernel), List.mem_of_getElem? (i := 276) (by decide +kernel), List.mem_of_getElem? (i := 277) (by decide +kernel)⟩
theorem lw_p9 : lw_okq (⟨"BorrowStacks", "performEnter", "()I"⟩, 10) := ⟨⟨by decide +kernel, by decide +kernel⟩, List.mem_of_getElem? (i := 9) (by decide +kernel), List.mem_of_getElem? (i := 296) (by decide +kernel), List.mem_of_getElem? (i := 297) (by decide +kernel)⟩
theorem lw_p10 : lw_okq (⟨"BorrowStacks", "performLeave", "()I"⟩, 10) := ⟨⟨by decide +kernel, by decide +kernel⟩, List.mem_of_getElem? (i := 9) (by decide +kernel), List.mem_of_getElem? (i := 308) (by decide +kernel), List.mem_of_getElem? (i := 309) (by decide +kernel)⟩
theorem lw_p11 : lw_okq (⟨"BorrowStacks", "cellAt", "(II)LBorrowStacks$Cell;"⟩, 10) := ⟨⟨by decide +kernel, by decide +kernel⟩, List.mem_of_getElem? (i := 9) (by decide +kernel), List.mem_of_getElem? (i := 337) (by decide +kernel), List.mem_of_getElem? (i := 338) (by decide +kernel)⟩
theorem lw_p12 : lw_okq (⟨"BorrowStacks", "allocationAt", "(I)LBorrowStacks$Allocation;"⟩, 10) := ⟨⟨by decide +kernel, by decide +kernel⟩, List.mem_of_getElem? (i := 9) (by decide +kernel), List.mem_of_getElem? (i := 341) (by decide +kernel), List.mem_of_getElem? (i := 342) (by decide +kernel)⟩
theorem lw_p13 : lw_okq (⟨"BorrowStacks$Script", "skipSpaces", "()V"⟩, 6) := ⟨⟨by decide +kernel, by decide +kernel⟩, List.mem_of_getElem? (i := 39) (by decide +kernel), List.mem_of_getElem? (i := 430) (by decide +kernel), List.mem_of_getElem? (i := 431) (by decide +kernel)⟩
theorem lw_p14 : lw_okq (⟨"BorrowStacks$Script", "parseCommand", "()Z"⟩, 6) := ⟨⟨by decide +kernel, by decide +kernel⟩, List.mem_of_getElem? (i := 39) (by decide +kernel), List.mem_of_getElem? (i := 434) (by decide +kernel), List.mem_of_getElem? (i := 435) (by decide +kernel)⟩
theorem lw_p15 : lw_okq (⟨"BorrowStacks$Script", "byteHere", "()I"⟩, 6) := ⟨⟨by decide +kernel, by decide +kernel⟩, List.mem_of_getElem? (i := 39) (by decide +kernel), List.mem_of_getElem? (i := 438) (by decide +kernel), List.mem_of_getElem? (i := 439) (by decide +kernel)⟩
def lw_privs_1 : List (MethodName × Nat) := [(⟨"BorrowStacks", "performAllocate", "(I)I"⟩, 10), (⟨"BorrowStacks", "addPointer", "(LBorrowStacks$Allocation;I)I"⟩, 10), (⟨"BorrowStacks", "counted", "(I)I"⟩, 10), (⟨"BorrowStacks", "performRead", "(II)I"⟩, 10), (⟨"BorrowStacks", "pointerAt", "(I)LBorrowStacks$Pointer;"⟩, 10), (⟨"BorrowStacks", "violated", "(II)I"⟩, 10), (⟨"BorrowStacks", "performWrite", "(III)I"⟩, 10), (⟨"BorrowStacks", "performReborrow", "(IIIII)I"⟩, 10), (⟨"BorrowStacks", "performFree", "(I)I"⟩, 10), (⟨"BorrowStacks", "performEnter", "()I"⟩, 10), (⟨"BorrowStacks", "performLeave", "()I"⟩, 10), (⟨"BorrowStacks", "cellAt", "(II)LBorrowStacks$Cell;"⟩, 10), (⟨"BorrowStacks", "allocationAt", "(I)LBorrowStacks$Allocation;"⟩, 10), (⟨"BorrowStacks$Script", "skipSpaces", "()V"⟩, 6), (⟨"BorrowStacks$Script", "parseCommand", "()Z"⟩, 6), (⟨"BorrowStacks$Script", "byteHere", "()I"⟩, 6)]
theorem lw_r1 : ∀ q ∈ lw_privs_1, lw_okq q := List.forall_mem_cons.mpr ⟨lw_p0, List.forall_mem_cons.mpr ⟨lw_p1, List.forall_mem_cons.mpr ⟨lw_p2, List.forall_mem_cons.mpr ⟨lw_p3, List.forall_mem_cons.mpr ⟨lw_p4, List.forall_mem_cons.mpr ⟨lw_p5, List.forall_mem_cons.mpr ⟨lw_p6, List.forall_mem_cons.mpr ⟨lw_p7, List.forall_mem_cons.mpr ⟨lw_p8, List.forall_mem_cons.mpr ⟨lw_p9, List.forall_mem_cons.mpr ⟨lw_p10, List.forall_mem_cons.mpr ⟨lw_p11, List.forall_mem_cons.mpr ⟨lw_p12, List.forall_mem_cons.mpr ⟨lw_p13, List.forall_mem_cons.mpr ⟨lw_p14, List.forall_mem_cons.mpr ⟨lw_p15, fun _ h => absurd h List.not_mem_nil⟩⟩⟩⟩⟩⟩⟩⟩⟩⟩⟩⟩⟩⟩⟩⟩
theorem lw_p16 : lw_okq (⟨"BorrowStacks$Script", "parseArgument", "(I)Z"⟩, 6) := ⟨⟨by decide +kernel, by decide +kernel⟩, List.mem_of_getElem? (i := 39) (by decide +kernel), List.mem_of_getElem? (i := 445) (by decide +kernel), List.mem_of_getElem? (i := 446) (by decide +kernel)⟩
theorem lw_p17 : lw_okq (⟨"BorrowStacks$Script", "isDigitHere", "()Z"⟩, 6) := ⟨⟨by decide +kernel, by decide +kernel⟩, List.mem_of_getElem? (i := 39) (by decide +kernel), List.mem_of_getElem? (i := 449) (by decide +kernel), List.mem_of_getElem? (i := 450) (by decide +kernel)⟩
theorem lw_p18 : lw_okq (⟨"BorrowStacks", "performCommand", "(I)I"⟩, 10) := ⟨⟨by decide +kernel, by decide +kernel⟩, List.mem_of_getElem? (i := 9) (by decide +kernel), List.mem_of_getElem? (i := 453) (by decide +kernel), List.mem_of_getElem? (i := 454) (by decide +kernel)⟩
theorem lw_p19 : lw_okq (⟨"BorrowStacksModel", "error", "(I)I"⟩, 24) := ⟨⟨by decide +kernel, by decide +kernel⟩, List.mem_of_getElem? (i := 492) (by decide +kernel), List.mem_of_getElem? (i := 579) (by decide +kernel), List.mem_of_getElem? (i := 580) (by decide +kernel)⟩
theorem lw_p20 : lw_okq (⟨"BorrowStacksModel", "newPointer", "(II)I"⟩, 24) := ⟨⟨by decide +kernel, by decide +kernel⟩, List.mem_of_getElem? (i := 492) (by decide +kernel), List.mem_of_getElem? (i := 583) (by decide +kernel), List.mem_of_getElem? (i := 584) (by decide +kernel)⟩
theorem lw_p21 : lw_okq (⟨"BorrowStacksModel", "insert", "(IIIII)V"⟩, 24) := ⟨⟨by decide +kernel, by decide +kernel⟩, List.mem_of_getElem? (i := 492) (by decide +kernel), List.mem_of_getElem? (i := 587) (by decide +kernel), List.mem_of_getElem? (i := 588) (by decide +kernel)⟩
theorem lw_p22 : lw_okq (⟨"BorrowStacksModel", "isCell", "(II)Z"⟩, 24) := ⟨⟨by decide +kernel, by decide +kernel⟩, List.mem_of_getElem? (i := 492) (by decide +kernel), List.mem_of_getElem? (i := 595) (by decide +kernel), List.mem_of_getElem? (i := 596) (by decide +kernel)⟩
theorem lw_p23 : lw_okq (⟨"BorrowStacksModel", "isPointer", "(I)Z"⟩, 24) := ⟨⟨by decide +kernel, by decide +kernel⟩, List.mem_of_getElem? (i := 492) (by decide +kernel), List.mem_of_getElem? (i := 599) (by decide +kernel), List.mem_of_getElem? (i := 600) (by decide +kernel)⟩
theorem lw_p24 : lw_okq (⟨"BorrowStacksModel", "readKind", "(II)I"⟩, 24) := ⟨⟨by decide +kernel, by decide +kernel⟩, List.mem_of_getElem? (i := 492) (by decide +kernel), List.mem_of_getElem? (i := 603) (by decide +kernel), List.mem_of_getElem? (i := 604) (by decide +kernel)⟩
theorem lw_p25 : lw_okq (⟨"BorrowStacksModel", "cellOf", "(II)I"⟩, 24) := ⟨⟨by decide +kernel, by decide +kernel⟩, List.mem_of_getElem? (i := 492) (by decide +kernel), List.mem_of_getElem? (i := 607) (by decide +kernel), List.mem_of_getElem? (i := 608) (by decide +kernel)⟩
theorem lw_p26 : lw_okq (⟨"BorrowStacksModel", "granting", "(IIZ)I"⟩, 24) := ⟨⟨by decide +kernel, by decide +kernel⟩, List.mem_of_getElem? (i := 492) (by decide +kernel), List.mem_of_getElem? (i := 611) (by decide +kernel), List.mem_of_getElem? (i := 612) (by decide +kernel)⟩
theorem lw_p27 : lw_okq (⟨"BorrowStacksModel", "isGuarded", "(IIZ)Z"⟩, 24) := ⟨⟨by decide +kernel, by decide +kernel⟩, List.mem_of_getElem? (i := 492) (by decide +kernel), List.mem_of_getElem? (i := 615) (by decide +kernel), List.mem_of_getElem? (i := 616) (by decide +kernel)⟩
theorem lw_p28 : lw_okq (⟨"BorrowStacksModel", "violate", "(II)I"⟩, 24) := ⟨⟨by decide +kernel, by decide +kernel⟩, List.mem_of_getElem? (i := 492) (by decide +kernel), List.mem_of_getElem? (i := 619) (by decide +kernel), List.mem_of_getElem? (i := 620) (by decide +kernel)⟩
theorem lw_p29 : lw_okq (⟨"BorrowStacksModel", "doRead", "(II)V"⟩, 24) := ⟨⟨by decide +kernel, by decide +kernel⟩, List.mem_of_getElem? (i := 492) (by decide +kernel), List.mem_of_getElem? (i := 623) (by decide +kernel), List.mem_of_getElem? (i := 624) (by decide +kernel)⟩
theorem lw_p30 : lw_okq (⟨"BorrowStacksModel", "writeKind", "(II)I"⟩, 24) := ⟨⟨by decide +kernel, by decide +kernel⟩, List.mem_of_getElem? (i := 492) (by decide +kernel), List.mem_of_getElem? (i := 631) (by decide +kernel), List.mem_of_getElem? (i := 632) (by decide +kernel)⟩
theorem lw_p31 : lw_okq (⟨"BorrowStacksModel", "above", "(II)I"⟩, 24) := ⟨⟨by decide +kernel, by decide +kernel⟩, List.mem_of_getElem? (i := 492) (by decide +kernel), List.mem_of_getElem? (i := 635) (by decide +kernel), List.mem_of_getElem? (i := 636) (by decide +kernel)⟩
def lw_privs_2 : List (MethodName × Nat) := [(⟨"BorrowStacks$Script", "parseArgument", "(I)Z"⟩, 6), (⟨"BorrowStacks$Script", "isDigitHere", "()Z"⟩, 6), (⟨"BorrowStacks", "performCommand", "(I)I"⟩, 10), (⟨"BorrowStacksModel", "error", "(I)I"⟩, 24), (⟨"BorrowStacksModel", "newPointer", "(II)I"⟩, 24), (⟨"BorrowStacksModel", "insert", "(IIIII)V"⟩, 24), (⟨"BorrowStacksModel", "isCell", "(II)Z"⟩, 24), (⟨"BorrowStacksModel", "isPointer", "(I)Z"⟩, 24), (⟨"BorrowStacksModel", "readKind", "(II)I"⟩, 24), (⟨"BorrowStacksModel", "cellOf", "(II)I"⟩, 24), (⟨"BorrowStacksModel", "granting", "(IIZ)I"⟩, 24), (⟨"BorrowStacksModel", "isGuarded", "(IIZ)Z"⟩, 24), (⟨"BorrowStacksModel", "violate", "(II)I"⟩, 24), (⟨"BorrowStacksModel", "doRead", "(II)V"⟩, 24), (⟨"BorrowStacksModel", "writeKind", "(II)I"⟩, 24), (⟨"BorrowStacksModel", "above", "(II)I"⟩, 24)]
theorem lw_r2 : ∀ q ∈ lw_privs_2, lw_okq q := List.forall_mem_cons.mpr ⟨lw_p16, List.forall_mem_cons.mpr ⟨lw_p17, List.forall_mem_cons.mpr ⟨lw_p18, List.forall_mem_cons.mpr ⟨lw_p19, List.forall_mem_cons.mpr ⟨lw_p20, List.forall_mem_cons.mpr ⟨lw_p21, List.forall_mem_cons.mpr ⟨lw_p22, List.forall_mem_cons.mpr ⟨lw_p23, List.forall_mem_cons.mpr ⟨lw_p24, List.forall_mem_cons.mpr ⟨lw_p25, List.forall_mem_cons.mpr ⟨lw_p26, List.forall_mem_cons.mpr ⟨lw_p27, List.forall_mem_cons.mpr ⟨lw_p28, List.forall_mem_cons.mpr ⟨lw_p29, List.forall_mem_cons.mpr ⟨lw_p30, List.forall_mem_cons.mpr ⟨lw_p31, fun _ h => absurd h List.not_mem_nil⟩⟩⟩⟩⟩⟩⟩⟩⟩⟩⟩⟩⟩⟩⟩⟩
theorem lw_p32 : lw_okq (⟨"BorrowStacksModel", "doWrite", "(II)V"⟩, 24) := ⟨⟨by decide +kernel, by decide +kernel⟩, List.mem_of_getElem? (i := 492) (by decide +kernel), List.mem_of_getElem? (i := 639) (by decide +kernel), List.mem_of_getElem? (i := 640) (by decide +kernel)⟩
theorem lw_p33 : lw_okq (⟨"BorrowStacksModel", "reborrowKind", "(III)I"⟩, 24) := ⟨⟨by decide +kernel, by decide +kernel⟩, List.mem_of_getElem? (i := 492) (by decide +kernel), List.mem_of_getElem? (i := 647) (by decide +kernel), List.mem_of_getElem? (i := 648) (by decide +kernel)⟩
theorem lw_p34 : lw_okq (⟨"BorrowStacksModel", "rawKind", "(II)I"⟩, 24) := ⟨⟨by decide +kernel, by decide +kernel⟩, List.mem_of_getElem? (i := 492) (by decide +kernel), List.mem_of_getElem? (i := 651) (by decide +kernel), List.mem_of_getElem? (i := 652) (by decide +kernel)⟩
theorem lw_p35 : lw_okq (⟨"BorrowStacksModel", "sizeBy", "(III)I"⟩, 24) := ⟨⟨by decide +kernel, by decide +kernel⟩, List.mem_of_getElem? (i := 492) (by decide +kernel), List.mem_of_getElem? (i := 655) (by decide +kernel), List.mem_of_getElem? (i := 656) (by decide +kernel)⟩
theorem lw_p36 : lw_okq (⟨"BorrowStacksModel", "put", "(IIII)V"⟩, 24) := ⟨⟨by decide +kernel, by decide +kernel⟩, List.mem_of_getElem? (i := 492) (by decide +kernel), List.mem_of_getElem? (i := 659) (by decide +kernel), List.mem_of_getElem? (i := 660) (by decide +kernel)⟩
theorem lw_p37 : lw_okq (⟨"BorrowStacksModel", "freeKind", "(II)I"⟩, 24) := ⟨⟨by decide +kernel, by decide +kernel⟩, List.mem_of_getElem? (i := 492) (by decide +kernel), List.mem_of_getElem? (i := 667) (by decide +kernel), List.mem_of_getElem? (i := 668) (by decide +kernel)⟩
theorem lw_p38 : lw_okq (⟨"BorrowStacksModel", "isCellOf", "(II)Z"⟩, 24) := ⟨⟨by decide +kernel, by decide +kernel⟩, List.mem_of_getElem? (i := 492) (by decide +kernel), List.mem_of_getElem? (i := 699) (by decide +kernel), List.mem_of_getElem? (i := 700) (by decide +kernel)⟩
theorem lw_p39 : lw_okq (⟨"BorrowStacksModel", "isAllocation", "(I)Z"⟩, 24) := ⟨⟨by decide +kernel, by decide +kernel⟩, List.mem_of_getElem? (i := 492) (by decide +kernel), List.mem_of_getElem? (i := 703) (by decide +kernel), List.mem_of_getElem? (i := 704) (by decide +kernel)⟩
theorem lw_p40 : lw_okq (⟨"BorrowStacksModel", "placeOf", "(III)I"⟩, 24) := ⟨⟨by decide +kernel, by decide +kernel⟩, List.mem_of_getElem? (i := 492) (by decide +kernel), List.mem_of_getElem? (i := 711) (by decide +kernel), List.mem_of_getElem? (i := 712) (by decide +kernel)⟩
theorem lw_p41 : lw_okq (⟨"BorrowStacksModel", "liveOf", "(I)I"⟩, 24) := ⟨⟨by decide +kernel, by decide +kernel⟩, List.mem_of_getElem? (i := 492) (by decide +kernel), List.mem_of_getElem? (i := 735) (by decide +kernel), List.mem_of_getElem? (i := 736) (by decide +kernel)⟩
theorem lw_p42 : lw_okq (⟨"BorrowStacksModel", "isRead", "()Z"⟩, 24) := ⟨⟨by decide +kernel, by decide +kernel⟩, List.mem_of_getElem? (i := 492) (by decide +kernel), List.mem_of_getElem? (i := 779) (by decide +kernel), List.mem_of_getElem? (i := 780) (by decide +kernel)⟩
theorem lw_p43 : lw_okq (⟨"BorrowStacksModel", "blanks", "()V"⟩, 24) := ⟨⟨by decide +kernel, by decide +kernel⟩, List.mem_of_getElem? (i := 492) (by decide +kernel), List.mem_of_getElem? (i := 783) (by decide +kernel), List.mem_of_getElem? (i := 784) (by decide +kernel)⟩
theorem lw_p44 : lw_okq (⟨"BorrowStacksModel", "isAt", "(II)Z"⟩, 24) := ⟨⟨by decide +kernel, by decide +kernel⟩, List.mem_of_getElem? (i := 492) (by decide +kernel), List.mem_of_getElem? (i := 787) (by decide +kernel), List.mem_of_getElem? (i := 788) (by decide +kernel)⟩
theorem lw_p45 : lw_okq (⟨"BorrowStacksModel", "takesCommand", "()Z"⟩, 24) := ⟨⟨by decide +kernel, by decide +kernel⟩, List.mem_of_getElem? (i := 492) (by decide +kernel), List.mem_of_getElem? (i := 791) (by decide +kernel), List.mem_of_getElem? (i := 792) (by decide +kernel)⟩
theorem lw_p46 : lw_okq (⟨"BorrowStacksModel", "takesNumber", "(I)Z"⟩, 24) := ⟨⟨by decide +kernel, by decide +kernel⟩, List.mem_of_getElem? (i := 492) (by decide +kernel), List.mem_of_getElem? (i := 798) (by decide +kernel), List.mem_of_getElem? (i := 799) (by decide +kernel)⟩
theorem lw_p47 : lw_okq (⟨"BorrowStacksModel", "executeAll", "()I"⟩, 24) := ⟨⟨by decide +kernel, by decide +kernel⟩, List.mem_of_getElem? (i := 492) (by decide +kernel), List.mem_of_getElem? (i := 802) (by decide +kernel), List.mem_of_getElem? (i := 803) (by decide +kernel)⟩
def lw_privs_3 : List (MethodName × Nat) := [(⟨"BorrowStacksModel", "doWrite", "(II)V"⟩, 24), (⟨"BorrowStacksModel", "reborrowKind", "(III)I"⟩, 24), (⟨"BorrowStacksModel", "rawKind", "(II)I"⟩, 24), (⟨"BorrowStacksModel", "sizeBy", "(III)I"⟩, 24), (⟨"BorrowStacksModel", "put", "(IIII)V"⟩, 24), (⟨"BorrowStacksModel", "freeKind", "(II)I"⟩, 24), (⟨"BorrowStacksModel", "isCellOf", "(II)Z"⟩, 24), (⟨"BorrowStacksModel", "isAllocation", "(I)Z"⟩, 24), (⟨"BorrowStacksModel", "placeOf", "(III)I"⟩, 24), (⟨"BorrowStacksModel", "liveOf", "(I)I"⟩, 24), (⟨"BorrowStacksModel", "isRead", "()Z"⟩, 24), (⟨"BorrowStacksModel", "blanks", "()V"⟩, 24), (⟨"BorrowStacksModel", "isAt", "(II)Z"⟩, 24), (⟨"BorrowStacksModel", "takesCommand", "()Z"⟩, 24), (⟨"BorrowStacksModel", "takesNumber", "(I)Z"⟩, 24), (⟨"BorrowStacksModel", "executeAll", "()I"⟩, 24)]
theorem lw_r3 : ∀ q ∈ lw_privs_3, lw_okq q := List.forall_mem_cons.mpr ⟨lw_p32, List.forall_mem_cons.mpr ⟨lw_p33, List.forall_mem_cons.mpr ⟨lw_p34, List.forall_mem_cons.mpr ⟨lw_p35, List.forall_mem_cons.mpr ⟨lw_p36, List.forall_mem_cons.mpr ⟨lw_p37, List.forall_mem_cons.mpr ⟨lw_p38, List.forall_mem_cons.mpr ⟨lw_p39, List.forall_mem_cons.mpr ⟨lw_p40, List.forall_mem_cons.mpr ⟨lw_p41, List.forall_mem_cons.mpr ⟨lw_p42, List.forall_mem_cons.mpr ⟨lw_p43, List.forall_mem_cons.mpr ⟨lw_p44, List.forall_mem_cons.mpr ⟨lw_p45, List.forall_mem_cons.mpr ⟨lw_p46, List.forall_mem_cons.mpr ⟨lw_p47, fun _ h => absurd h List.not_mem_nil⟩⟩⟩⟩⟩⟩⟩⟩⟩⟩⟩⟩⟩⟩⟩⟩
theorem lw_p48 : lw_okq (⟨"BorrowStacksModel", "execute", "(I)I"⟩, 24) := ⟨⟨by decide +kernel, by decide +kernel⟩, List.mem_of_getElem? (i := 492) (by decide +kernel), List.mem_of_getElem? (i := 806) (by decide +kernel), List.mem_of_getElem? (i := 807) (by decide +kernel)⟩
theorem lw_p49 : lw_okq (⟨"BorrowStacksModel", "mix", "(J)V"⟩, 24) := ⟨⟨by decide +kernel, by decide +kernel⟩, List.mem_of_getElem? (i := 492) (by decide +kernel), List.mem_of_getElem? (i := 822) (by decide +kernel), List.mem_of_getElem? (i := 823) (by decide +kernel)⟩
theorem lw_p50 : lw_okq (⟨"BorrowStacksModel", "mixCell", "(I)V"⟩, 24) := ⟨⟨by decide +kernel, by decide +kernel⟩, List.mem_of_getElem? (i := 492) (by decide +kernel), List.mem_of_getElem? (i := 827) (by decide +kernel), List.mem_of_getElem? (i := 828) (by decide +kernel)⟩
def lw_privs_4 : List (MethodName × Nat) := [(⟨"BorrowStacksModel", "execute", "(I)I"⟩, 24), (⟨"BorrowStacksModel", "mix", "(J)V"⟩, 24), (⟨"BorrowStacksModel", "mixCell", "(I)V"⟩, 24)]
theorem lw_r4 : ∀ q ∈ lw_privs_4, lw_okq q := List.forall_mem_cons.mpr ⟨lw_p48, List.forall_mem_cons.mpr ⟨lw_p49, List.forall_mem_cons.mpr ⟨lw_p50, fun _ h => absurd h List.not_mem_nil⟩⟩⟩
def lw_privs : List (MethodName × Nat) := lw_privs_1 ++ (lw_privs_2 ++ (lw_privs_3 ++ (lw_privs_4)))
def lw_tbl : List Cond := k2_sels lw_privs ++ tables_1
theorem lw_privs_ok : ∀ q ∈ lw_privs, lw_okq q := by
  show ∀ q ∈ lw_privs_1 ++ (lw_privs_2 ++ (lw_privs_3 ++ (lw_privs_4))), lw_okq q
  exact List.forall_mem_append.mpr ⟨lw_r1, List.forall_mem_append.mpr ⟨lw_r2, List.forall_mem_append.mpr ⟨lw_r3, lw_r4⟩⟩⟩
/-! ===== BEGIN words of one list among another's, by their places ===== -/
theorem goodIn_r {big : List Cond} (ws : List Cond) (ps : List Nat) (hp : ws = ps.filterMap (fun i => big[i]?)) (h : ws.all goodWord = true) : GoodIn big ws := by
  intro w hw
  have h1 := List.all_eq_true.mp h w hw
  rw [hp] at hw
  obtain ⟨i, -, hi⟩ := List.mem_filterMap.mp hw
  have hm : w ∈ big := by first | exact List.mem_of_getElem? hi | exact List.getElem?_mem hi
  exact ⟨hm, good_of_word h1⟩
theorem goodIn_app {big a b : List Cond} (ha : GoodIn big a) (hb : GoodIn big b) : GoodIn big (a ++ b) := fun w h => (List.mem_append.mp h).elim (ha w) (hb w)
theorem goodIn_ca {big a b : List Cond} {c : Cond} (ha : GoodIn big (c :: a)) (hb : GoodIn big b) : GoodIn big (c :: (a ++ b)) := fun w h => (List.mem_cons.mp h).elim (fun e => ha w (List.mem_cons.mpr (Or.inl e))) (fun h => (List.mem_append.mp h).elim (fun h => ha w (List.mem_cons.mpr (Or.inr h))) (hb w))
theorem goodIn_sub {big ws : List Cond} (hm : ∀ w ∈ ws, w ∈ big) (h : ws.all goodWord = true) : GoodIn big ws := fun w hw => ⟨hm w hw, good_of_word (List.all_eq_true.mp h w hw)⟩
/-! ===== END ===== -/

/-! ===== BEGIN printed: names, fields, word lists, decode rows ===== -/
def RX0 : String := "BorrowStacks$Allocation"
def TX0 : u_T := fun k => match k with
  | 0 => ("BorrowStacks$Allocation", "number", "I", true)
  | 1 => ("BorrowStacks$Allocation", "cells", "[LBorrowStacks$Cell;", true)
  | _ => ("BorrowStacks$Allocation", "freed", "Z", false)
def tyX0 : Nat → FieldType := fun k => match k with
  | 0 => .int
  | 1 => .array (.object "BorrowStacks$Cell")
  | _ => .boolean
abbrev wsX00 : List Cond := u_ws RX0 TX0 3
theorem nmX0 : ∀ a, a < 3 → ∀ b, b < 3 → a ≠ b → (TX0 a).2.1 ≠ (TX0 b).2.1 := by decide +kernel
theorem tyX0_ok : ∀ k, k < 3 → parseFieldDescriptor (TX0 k).2.2.1 = some (tyX0 k) := by decide +kernel
abbrev cX0_init : ByteArray := prog_2_method_1_code
def yX0_init : MethodName := ⟨RX0, "<init>", "(III)V"⟩
abbrev cX0_hasRange : ByteArray := prog_2_method_2_code
def yX0_hasRange : MethodName := ⟨RX0, "hasRange", "(II)Z"⟩
abbrev cX0_freeViolation : ByteArray := prog_2_method_3_code
def yX0_freeViolation : MethodName := ⟨RX0, "freeViolation", "(ILBorrowStacks$Calls;)I"⟩
abbrev cX0_firstCellAgainstFree : ByteArray := prog_2_method_4_code
def yX0_firstCellAgainstFree : MethodName := ⟨RX0, "firstCellAgainstFree", "(ILBorrowStacks$Calls;)I"⟩
abbrev cX0_cellsAliveFor : ByteArray := prog_2_method_5_code
def yX0_cellsAliveFor : MethodName := ⟨RX0, "cellsAliveFor", "(I)I"⟩
abbrev cX0_mixedInto : ByteArray := prog_2_method_6_code
def yX0_mixedInto : MethodName := ⟨RX0, "mixedInto", "(JLBorrowStacks$Calls;)J"⟩
def RX1 : String := "BorrowStacks$Calls"
def TX1 : u_T := fun k => match k with
  | 0 => ("BorrowStacks$Calls", "serials", "[I", true)
  | 1 => ("BorrowStacks$Calls", "depth", "I", false)
  | _ => ("BorrowStacks$Calls", "latestSerial", "I", false)
def tyX1 : Nat → FieldType := fun k => match k with
  | 0 => .array .int
  | 1 => .int
  | _ => .int
abbrev wsX10 : List Cond := u_ws RX1 TX1 3
theorem nmX1 : ∀ a, a < 3 → ∀ b, b < 3 → a ≠ b → (TX1 a).2.1 ≠ (TX1 b).2.1 := by decide +kernel
theorem tyX1_ok : ∀ k, k < 3 → parseFieldDescriptor (TX1 k).2.2.1 = some (tyX1 k) := by decide +kernel
abbrev cX1_init : ByteArray := prog_3_method_1_code
def yX1_init : MethodName := ⟨RX1, "<init>", "()V"⟩
abbrev cX1_enter : ByteArray := prog_3_method_2_code
def yX1_enter : MethodName := ⟨RX1, "enter", "()Z"⟩
abbrev cX1_leave : ByteArray := prog_3_method_3_code
def yX1_leave : MethodName := ⟨RX1, "leave", "()Z"⟩
abbrev cX1_innermost : ByteArray := prog_3_method_4_code
def yX1_innermost : MethodName := ⟨RX1, "innermost", "()I"⟩
abbrev cX1_isActive : ByteArray := prog_3_method_5_code
def yX1_isActive : MethodName := ⟨RX1, "isActive", "(I)Z"⟩
def RX2 : String := "BorrowStacks$Cell"
def TX2 : u_T := fun k => match k with
  | 0 => ("BorrowStacks$Cell", "tags", "[I", true)
  | 1 => ("BorrowStacks$Cell", "permissions", "[I", true)
  | 2 => ("BorrowStacks$Cell", "protectors", "[I", true)
  | 3 => ("BorrowStacks$Cell", "size", "I", false)
  | _ => ("BorrowStacks$Cell", "value", "I", false)
def tyX2 : Nat → FieldType := fun k => match k with
  | 0 => .array .int
  | 1 => .array .int
  | 2 => .array .int
  | 3 => .int
  | _ => .int
abbrev wsX20 : List Cond := u_ws RX2 TX2 5
theorem nmX2 : ∀ a, a < 5 → ∀ b, b < 5 → a ≠ b → (TX2 a).2.1 ≠ (TX2 b).2.1 := by decide +kernel
theorem tyX2_ok : ∀ k, k < 5 → parseFieldDescriptor (TX2 k).2.2.1 = some (tyX2 k) := by decide +kernel
abbrev cX2_init : ByteArray := prog_4_method_1_code
def yX2_init : MethodName := ⟨RX2, "<init>", "(I)V"⟩
abbrev cX2_hasItem : ByteArray := prog_4_method_2_code
def yX2_hasItem : MethodName := ⟨RX2, "hasItem", "(I)Z"⟩
abbrev cX2_grantOfRead : ByteArray := prog_4_method_3_code
def yX2_grantOfRead : MethodName := ⟨RX2, "grantOfRead", "(I)I"⟩
abbrev cX2_grantOfWrite : ByteArray := prog_4_method_4_code
def yX2_grantOfWrite : MethodName := ⟨RX2, "grantOfWrite", "(I)I"⟩
abbrev cX2_keptByWrite : ByteArray := prog_4_method_5_code
def yX2_keptByWrite : MethodName := ⟨RX2, "keptByWrite", "(I)I"⟩
abbrev cX2_readViolation : ByteArray := prog_4_method_6_code
def yX2_readViolation : MethodName := ⟨RX2, "readViolation", "(ILBorrowStacks$Calls;)I"⟩
abbrev cX2_writeViolation : ByteArray := prog_4_method_7_code
def yX2_writeViolation : MethodName := ⟨RX2, "writeViolation", "(ILBorrowStacks$Calls;)I"⟩
abbrev cX2_freeViolation : ByteArray := prog_4_method_8_code
def yX2_freeViolation : MethodName := ⟨RX2, "freeViolation", "(ILBorrowStacks$Calls;)I"⟩
abbrev cX2_reborrowViolation : ByteArray := prog_4_method_9_code
def yX2_reborrowViolation : MethodName := ⟨RX2, "reborrowViolation", "(IILBorrowStacks$Calls;)I"⟩
abbrev cX2_hasProtectedFrom : ByteArray := prog_4_method_10_code
def yX2_hasProtectedFrom : MethodName := ⟨RX2, "hasProtectedFrom", "(ILBorrowStacks$Calls;)Z"⟩
abbrev cX2_hasRoomToReborrow : ByteArray := prog_4_method_11_code
def yX2_hasRoomToReborrow : MethodName := ⟨RX2, "hasRoomToReborrow", "(II)Z"⟩
abbrev cX2_applyRead : ByteArray := prog_4_method_12_code
def yX2_applyRead : MethodName := ⟨RX2, "applyRead", "(I)V"⟩
abbrev cX2_applyWrite : ByteArray := prog_4_method_13_code
def yX2_applyWrite : MethodName := ⟨RX2, "applyWrite", "(I)V"⟩
abbrev cX2_applyReborrow : ByteArray := prog_4_method_14_code
def yX2_applyReborrow : MethodName := ⟨RX2, "applyReborrow", "(IIII)V"⟩
abbrev cX2_insertItem : ByteArray := prog_4_method_15_code
def yX2_insertItem : MethodName := ⟨RX2, "insertItem", "(IIII)V"⟩
abbrev cX2_mixedInto : ByteArray := prog_4_method_16_code
def yX2_mixedInto : MethodName := ⟨RX2, "mixedInto", "(JLBorrowStacks$Calls;)J"⟩
def RX3 : String := "BorrowStacks$Pointer"
def TX3 : u_T := fun k => match k with
  | 0 => ("BorrowStacks$Pointer", "home", "LBorrowStacks$Allocation;", true)
  | _ => ("BorrowStacks$Pointer", "origin", "I", true)
def tyX3 : Nat → FieldType := fun k => match k with
  | 0 => .object "BorrowStacks$Allocation"
  | _ => .int
abbrev wsX30 : List Cond := u_ws RX3 TX3 2
theorem nmX3 : ∀ a, a < 2 → ∀ b, b < 2 → a ≠ b → (TX3 a).2.1 ≠ (TX3 b).2.1 := by decide +kernel
theorem tyX3_ok : ∀ k, k < 2 → parseFieldDescriptor (TX3 k).2.2.1 = some (tyX3 k) := by decide +kernel
abbrev cX3_init : ByteArray := prog_5_method_1_code
def yX3_init : MethodName := ⟨RX3, "<init>", "(LBorrowStacks$Allocation;I)V"⟩
def RX4 : String := "BorrowStacks$Script"
def TX4 : u_T := fun k => match k with
  | 0 => ("BorrowStacks$Script", "text", "[I", true)
  | 1 => ("BorrowStacks$Script", "length", "I", false)
  | 2 => ("BorrowStacks$Script", "letters", "[I", true)
  | 3 => ("BorrowStacks$Script", "arguments", "[I", true)
  | 4 => ("BorrowStacks$Script", "commandTotal", "I", false)
  | _ => ("BorrowStacks$Script", "position", "I", false)
def tyX4 : Nat → FieldType := fun k => match k with
  | 0 => .array .int
  | 1 => .int
  | 2 => .array .int
  | 3 => .array .int
  | 4 => .int
  | _ => .int
abbrev wsX40 : List Cond := u_ws RX4 TX4 6
theorem nmX4 : ∀ a, a < 6 → ∀ b, b < 6 → a ≠ b → (TX4 a).2.1 ≠ (TX4 b).2.1 := by decide +kernel
theorem tyX4_ok : ∀ k, k < 6 → parseFieldDescriptor (TX4 k).2.2.1 = some (tyX4 k) := by decide +kernel
abbrev cX4_init : ByteArray := prog_6_method_1_code
def yX4_init : MethodName := ⟨RX4, "<init>", "()V"⟩
abbrev cX4_addByte : ByteArray := prog_6_method_2_code
def yX4_addByte : MethodName := ⟨RX4, "addByte", "(I)Z"⟩
abbrev cX4_letter : ByteArray := prog_6_method_3_code
def yX4_letter : MethodName := ⟨RX4, "letter", "(I)I"⟩
abbrev cX4_argument : ByteArray := prog_6_method_4_code
def yX4_argument : MethodName := ⟨RX4, "argument", "(II)I"⟩
abbrev cX4_parse : ByteArray := prog_6_method_5_code
def yX4_parse : MethodName := ⟨RX4, "parse", "()I"⟩
abbrev cX4_parseCommand : ByteArray := prog_6_method_6_code
def yX4_parseCommand : MethodName := ⟨RX4, "parseCommand", "()Z"⟩
abbrev cX4_parseArgument : ByteArray := prog_6_method_7_code
def yX4_parseArgument : MethodName := ⟨RX4, "parseArgument", "(I)Z"⟩
abbrev cX4_skipSpaces : ByteArray := prog_6_method_8_code
def yX4_skipSpaces : MethodName := ⟨RX4, "skipSpaces", "()V"⟩
abbrev cX4_byteHere : ByteArray := prog_6_method_9_code
def yX4_byteHere : MethodName := ⟨RX4, "byteHere", "()I"⟩
abbrev cX4_isDigitHere : ByteArray := prog_6_method_10_code
def yX4_isDigitHere : MethodName := ⟨RX4, "isDigitHere", "()Z"⟩
abbrev cX4_argumentsOf : ByteArray := prog_6_method_11_code
def yX4_argumentsOf : MethodName := ⟨RX4, "argumentsOf", "(I)I"⟩
def RX5 : String := "BorrowStacks"
def TX5 : u_T := fun k => match k with
  | 0 => ("BorrowStacks", "allocations", "[LBorrowStacks$Allocation;", true)
  | 1 => ("BorrowStacks", "allocationTotal", "I", false)
  | 2 => ("BorrowStacks", "pointers", "[LBorrowStacks$Pointer;", true)
  | 3 => ("BorrowStacks", "pointerTotal", "I", false)
  | 4 => ("BorrowStacks", "calls", "LBorrowStacks$Calls;", true)
  | 5 => ("BorrowStacks", "script", "LBorrowStacks$Script;", true)
  | 6 => ("BorrowStacks", "errors", "[I", true)
  | 7 => ("BorrowStacks", "violations", "I", false)
  | 8 => ("BorrowStacks", "latestKind", "I", false)
  | _ => ("BorrowStacks", "latestCell", "I", false)
def tyX5 : Nat → FieldType := fun k => match k with
  | 0 => .array (.object "BorrowStacks$Allocation")
  | 1 => .int
  | 2 => .array (.object "BorrowStacks$Pointer")
  | 3 => .int
  | 4 => .object "BorrowStacks$Calls"
  | 5 => .object "BorrowStacks$Script"
  | 6 => .array .int
  | 7 => .int
  | 8 => .int
  | _ => .int
abbrev wsX50 : List Cond := u_ws RX5 TX5 10
theorem nmX5 : ∀ a, a < 10 → ∀ b, b < 10 → a ≠ b → (TX5 a).2.1 ≠ (TX5 b).2.1 := by decide +kernel
theorem tyX5_ok : ∀ k, k < 10 → parseFieldDescriptor (TX5 k).2.2.1 = some (tyX5 k) := by decide +kernel
abbrev cX5_init : ByteArray := prog_1_method_1_code
def yX5_init : MethodName := ⟨RX5, "<init>", "()V"⟩
abbrev cX5_allocate : ByteArray := prog_1_method_2_code
def yX5_allocate : MethodName := ⟨RX5, "allocate", "(I)I"⟩
abbrev cX5_read : ByteArray := prog_1_method_3_code
def yX5_read : MethodName := ⟨RX5, "read", "(II)I"⟩
abbrev cX5_write : ByteArray := prog_1_method_4_code
def yX5_write : MethodName := ⟨RX5, "write", "(III)I"⟩
abbrev cX5_reborrow : ByteArray := prog_1_method_5_code
def yX5_reborrow : MethodName := ⟨RX5, "reborrow", "(IIIII)I"⟩
abbrev cX5_free : ByteArray := prog_1_method_6_code
def yX5_free : MethodName := ⟨RX5, "free", "(I)I"⟩
abbrev cX5_enterCall : ByteArray := prog_1_method_7_code
def yX5_enterCall : MethodName := ⟨RX5, "enterCall", "()I"⟩
abbrev cX5_leaveCall : ByteArray := prog_1_method_8_code
def yX5_leaveCall : MethodName := ⟨RX5, "leaveCall", "()I"⟩
abbrev cX5_checkRead : ByteArray := prog_1_method_9_code
def yX5_checkRead : MethodName := ⟨RX5, "checkRead", "(II)I"⟩
abbrev cX5_checkWrite : ByteArray := prog_1_method_10_code
def yX5_checkWrite : MethodName := ⟨RX5, "checkWrite", "(II)I"⟩
abbrev cX5_checkFree : ByteArray := prog_1_method_11_code
def yX5_checkFree : MethodName := ⟨RX5, "checkFree", "(I)I"⟩
abbrev cX5_removedByWrite : ByteArray := prog_1_method_12_code
def yX5_removedByWrite : MethodName := ⟨RX5, "removedByWrite", "(II)I"⟩
abbrev cX5_stackSize : ByteArray := prog_1_method_13_code
def yX5_stackSize : MethodName := ⟨RX5, "stackSize", "(II)I"⟩
abbrev cX5_itemTag : ByteArray := prog_1_method_14_code
def yX5_itemTag : MethodName := ⟨RX5, "itemTag", "(III)I"⟩
abbrev cX5_itemPermission : ByteArray := prog_1_method_15_code
def yX5_itemPermission : MethodName := ⟨RX5, "itemPermission", "(III)I"⟩
abbrev cX5_itemProtected : ByteArray := prog_1_method_16_code
def yX5_itemProtected : MethodName := ⟨RX5, "itemProtected", "(III)I"⟩
abbrev cX5_allocationOf : ByteArray := prog_1_method_17_code
def yX5_allocationOf : MethodName := ⟨RX5, "allocationOf", "(I)I"⟩
abbrev cX5_parent : ByteArray := prog_1_method_18_code
def yX5_parent : MethodName := ⟨RX5, "parent", "(I)I"⟩
abbrev cX5_liveCells : ByteArray := prog_1_method_19_code
def yX5_liveCells : MethodName := ⟨RX5, "liveCells", "(I)I"⟩
abbrev cX5_isFreed : ByteArray := prog_1_method_20_code
def yX5_isFreed : MethodName := ⟨RX5, "isFreed", "(I)I"⟩
abbrev cX5_pointerCount : ByteArray := prog_1_method_21_code
def yX5_pointerCount : MethodName := ⟨RX5, "pointerCount", "()I"⟩
abbrev cX5_callDepth : ByteArray := prog_1_method_22_code
def yX5_callDepth : MethodName := ⟨RX5, "callDepth", "()I"⟩
abbrev cX5_violationCount : ByteArray := prog_1_method_23_code
def yX5_violationCount : MethodName := ⟨RX5, "violationCount", "()I"⟩
abbrev cX5_violationKind : ByteArray := prog_1_method_24_code
def yX5_violationKind : MethodName := ⟨RX5, "violationKind", "()I"⟩
abbrev cX5_violationCell : ByteArray := prog_1_method_25_code
def yX5_violationCell : MethodName := ⟨RX5, "violationCell", "()I"⟩
abbrev cX5_errorCount : ByteArray := prog_1_method_26_code
def yX5_errorCount : MethodName := ⟨RX5, "errorCount", "(I)I"⟩
abbrev cX5_append : ByteArray := prog_1_method_27_code
def yX5_append : MethodName := ⟨RX5, "append", "(I)I"⟩
abbrev cX5_clearText : ByteArray := prog_1_method_28_code
def yX5_clearText : MethodName := ⟨RX5, "clearText", "()I"⟩
abbrev cX5_runScript : ByteArray := prog_1_method_29_code
def yX5_runScript : MethodName := ⟨RX5, "runScript", "()I"⟩
abbrev cX5_digest : ByteArray := prog_1_method_30_code
def yX5_digest : MethodName := ⟨RX5, "digest", "()J"⟩
abbrev cX5_performAllocate : ByteArray := prog_1_method_31_code
def yX5_performAllocate : MethodName := ⟨RX5, "performAllocate", "(I)I"⟩
abbrev cX5_performRead : ByteArray := prog_1_method_32_code
def yX5_performRead : MethodName := ⟨RX5, "performRead", "(II)I"⟩
abbrev cX5_performWrite : ByteArray := prog_1_method_33_code
def yX5_performWrite : MethodName := ⟨RX5, "performWrite", "(III)I"⟩
abbrev cX5_performReborrow : ByteArray := prog_1_method_34_code
def yX5_performReborrow : MethodName := ⟨RX5, "performReborrow", "(IIIII)I"⟩
abbrev cX5_performFree : ByteArray := prog_1_method_35_code
def yX5_performFree : MethodName := ⟨RX5, "performFree", "(I)I"⟩
abbrev cX5_performEnter : ByteArray := prog_1_method_36_code
def yX5_performEnter : MethodName := ⟨RX5, "performEnter", "()I"⟩
abbrev cX5_performLeave : ByteArray := prog_1_method_37_code
def yX5_performLeave : MethodName := ⟨RX5, "performLeave", "()I"⟩
abbrev cX5_performCommand : ByteArray := prog_1_method_38_code
def yX5_performCommand : MethodName := ⟨RX5, "performCommand", "(I)I"⟩
abbrev cX5_counted : ByteArray := prog_1_method_39_code
def yX5_counted : MethodName := ⟨RX5, "counted", "(I)I"⟩
abbrev cX5_violated : ByteArray := prog_1_method_40_code
def yX5_violated : MethodName := ⟨RX5, "violated", "(II)I"⟩
abbrev cX5_addPointer : ByteArray := prog_1_method_41_code
def yX5_addPointer : MethodName := ⟨RX5, "addPointer", "(LBorrowStacks$Allocation;I)I"⟩
abbrev cX5_pointerAt : ByteArray := prog_1_method_42_code
def yX5_pointerAt : MethodName := ⟨RX5, "pointerAt", "(I)LBorrowStacks$Pointer;"⟩
abbrev cX5_allocationAt : ByteArray := prog_1_method_43_code
def yX5_allocationAt : MethodName := ⟨RX5, "allocationAt", "(I)LBorrowStacks$Allocation;"⟩
abbrev cX5_cellAt : ByteArray := prog_1_method_44_code
def yX5_cellAt : MethodName := ⟨RX5, "cellAt", "(II)LBorrowStacks$Cell;"⟩
abbrev cX5_cellThrough : ByteArray := prog_1_method_45_code
def yX5_cellThrough : MethodName := ⟨RX5, "cellThrough", "(LBorrowStacks$Pointer;I)LBorrowStacks$Cell;"⟩
abbrev cX5_isFailure : ByteArray := prog_1_method_46_code
def yX5_isFailure : MethodName := ⟨RX5, "isFailure", "(I)Z"⟩
abbrev cX5_asNumber : ByteArray := prog_1_method_47_code
def yX5_asNumber : MethodName := ⟨RX5, "asNumber", "(Z)I"⟩
abbrev cX5_mixed : ByteArray := prog_1_method_48_code
def yX5_mixed : MethodName := ⟨RX5, "mixed", "(JJ)J"⟩
def RX6 : String := "BorrowStacksModel"
def TX6 : u_T := fun k => match k with
  | 0 => ("BorrowStacksModel", "allocations", "I", false)
  | 1 => ("BorrowStacksModel", "cells", "[I", true)
  | 2 => ("BorrowStacksModel", "freed", "[Z", true)
  | 3 => ("BorrowStacksModel", "values", "[I", true)
  | 4 => ("BorrowStacksModel", "sizes", "[I", true)
  | 5 => ("BorrowStacksModel", "tags", "[I", true)
  | 6 => ("BorrowStacksModel", "permissions", "[I", true)
  | 7 => ("BorrowStacksModel", "guards", "[I", true)
  | 8 => ("BorrowStacksModel", "pointers", "I", false)
  | 9 => ("BorrowStacksModel", "owner", "[I", true)
  | 10 => ("BorrowStacksModel", "parents", "[I", true)
  | 11 => ("BorrowStacksModel", "depth", "I", false)
  | 12 => ("BorrowStacksModel", "violations", "I", false)
  | 13 => ("BorrowStacksModel", "lastKind", "I", false)
  | 14 => ("BorrowStacksModel", "lastCell", "I", false)
  | 15 => ("BorrowStacksModel", "errors", "[I", true)
  | 16 => ("BorrowStacksModel", "isScript", "Z", false)
  | 17 => ("BorrowStacksModel", "text", "[I", true)
  | 18 => ("BorrowStacksModel", "length", "I", false)
  | 19 => ("BorrowStacksModel", "letters", "[I", true)
  | 20 => ("BorrowStacksModel", "numbers", "[I", true)
  | 21 => ("BorrowStacksModel", "commands", "I", false)
  | 22 => ("BorrowStacksModel", "at", "I", false)
  | _ => ("BorrowStacksModel", "hash", "J", false)
def tyX6 : Nat → FieldType := fun k => match k with
  | 0 => .int
  | 1 => .array .int
  | 2 => .array .boolean
  | 3 => .array .int
  | 4 => .array .int
  | 5 => .array .int
  | 6 => .array .int
  | 7 => .array .int
  | 8 => .int
  | 9 => .array .int
  | 10 => .array .int
  | 11 => .int
  | 12 => .int
  | 13 => .int
  | 14 => .int
  | 15 => .array .int
  | 16 => .boolean
  | 17 => .array .int
  | 18 => .int
  | 19 => .array .int
  | 20 => .array .int
  | 21 => .int
  | 22 => .int
  | _ => .long
abbrev wsX60 : List Cond := u_ws RX6 TX6 24
theorem nmX6 : ∀ a, a < 24 → ∀ b, b < 24 → a ≠ b → (TX6 a).2.1 ≠ (TX6 b).2.1 := by decide +kernel
theorem tyX6_ok : ∀ k, k < 24 → parseFieldDescriptor (TX6 k).2.2.1 = some (tyX6 k) := by decide +kernel
abbrev cX6_init : ByteArray := prog_8_method_1_code
def yX6_init : MethodName := ⟨RX6, "<init>", "()V"⟩
abbrev cX6_in : ByteArray := prog_8_method_3_code
def yX6_in : MethodName := ⟨RX6, "in", "(III)Z"⟩
abbrev cX6_error : ByteArray := prog_8_method_4_code
def yX6_error : MethodName := ⟨RX6, "error", "(I)I"⟩
abbrev cX6_violate : ByteArray := prog_8_method_5_code
def yX6_violate : MethodName := ⟨RX6, "violate", "(II)I"⟩
abbrev cX6_isPointer : ByteArray := prog_8_method_6_code
def yX6_isPointer : MethodName := ⟨RX6, "isPointer", "(I)Z"⟩
abbrev cX6_isCell : ByteArray := prog_8_method_7_code
def yX6_isCell : MethodName := ⟨RX6, "isCell", "(II)Z"⟩
abbrev cX6_cellOf : ByteArray := prog_8_method_8_code
def yX6_cellOf : MethodName := ⟨RX6, "cellOf", "(II)I"⟩
abbrev cX6_granting : ByteArray := prog_8_method_9_code
def yX6_granting : MethodName := ⟨RX6, "granting", "(IIZ)I"⟩
abbrev cX6_above : ByteArray := prog_8_method_10_code
def yX6_above : MethodName := ⟨RX6, "above", "(II)I"⟩
abbrev cX6_isGuarded : ByteArray := prog_8_method_11_code
def yX6_isGuarded : MethodName := ⟨RX6, "isGuarded", "(IIZ)Z"⟩
abbrev cX6_readKind : ByteArray := prog_8_method_12_code
def yX6_readKind : MethodName := ⟨RX6, "readKind", "(II)I"⟩
abbrev cX6_writeKind : ByteArray := prog_8_method_13_code
def yX6_writeKind : MethodName := ⟨RX6, "writeKind", "(II)I"⟩
abbrev cX6_rawKind : ByteArray := prog_8_method_14_code
def yX6_rawKind : MethodName := ⟨RX6, "rawKind", "(II)I"⟩
abbrev cX6_freeKind : ByteArray := prog_8_method_15_code
def yX6_freeKind : MethodName := ⟨RX6, "freeKind", "(II)I"⟩
abbrev cX6_doRead : ByteArray := prog_8_method_16_code
def yX6_doRead : MethodName := ⟨RX6, "doRead", "(II)V"⟩
abbrev cX6_doWrite : ByteArray := prog_8_method_17_code
def yX6_doWrite : MethodName := ⟨RX6, "doWrite", "(II)V"⟩
abbrev cX6_insert : ByteArray := prog_8_method_18_code
def yX6_insert : MethodName := ⟨RX6, "insert", "(IIIII)V"⟩
abbrev cX6_newPointer : ByteArray := prog_8_method_19_code
def yX6_newPointer : MethodName := ⟨RX6, "newPointer", "(II)I"⟩
abbrev cX6_allocate : ByteArray := prog_8_method_20_code
def yX6_allocate : MethodName := ⟨RX6, "allocate", "(I)I"⟩
abbrev cX6_read : ByteArray := prog_8_method_21_code
def yX6_read : MethodName := ⟨RX6, "read", "(II)I"⟩
abbrev cX6_write : ByteArray := prog_8_method_22_code
def yX6_write : MethodName := ⟨RX6, "write", "(III)I"⟩
abbrev cX6_reborrowKind : ByteArray := prog_8_method_23_code
def yX6_reborrowKind : MethodName := ⟨RX6, "reborrowKind", "(III)I"⟩
abbrev cX6_sizeBy : ByteArray := prog_8_method_24_code
def yX6_sizeBy : MethodName := ⟨RX6, "sizeBy", "(III)I"⟩
abbrev cX6_put : ByteArray := prog_8_method_25_code
def yX6_put : MethodName := ⟨RX6, "put", "(IIII)V"⟩
abbrev cX6_reborrow : ByteArray := prog_8_method_26_code
def yX6_reborrow : MethodName := ⟨RX6, "reborrow", "(IIIII)I"⟩
abbrev cX6_free : ByteArray := prog_8_method_27_code
def yX6_free : MethodName := ⟨RX6, "free", "(I)I"⟩
abbrev cX6_enterCall : ByteArray := prog_8_method_28_code
def yX6_enterCall : MethodName := ⟨RX6, "enterCall", "()I"⟩
abbrev cX6_leaveCall : ByteArray := prog_8_method_29_code
def yX6_leaveCall : MethodName := ⟨RX6, "leaveCall", "()I"⟩
abbrev cX6_checkRead : ByteArray := prog_8_method_30_code
def yX6_checkRead : MethodName := ⟨RX6, "checkRead", "(II)I"⟩
abbrev cX6_checkWrite : ByteArray := prog_8_method_31_code
def yX6_checkWrite : MethodName := ⟨RX6, "checkWrite", "(II)I"⟩
abbrev cX6_checkFree : ByteArray := prog_8_method_32_code
def yX6_checkFree : MethodName := ⟨RX6, "checkFree", "(I)I"⟩
abbrev cX6_removedByWrite : ByteArray := prog_8_method_33_code
def yX6_removedByWrite : MethodName := ⟨RX6, "removedByWrite", "(II)I"⟩
abbrev cX6_isAllocation : ByteArray := prog_8_method_34_code
def yX6_isAllocation : MethodName := ⟨RX6, "isAllocation", "(I)Z"⟩
abbrev cX6_isCellOf : ByteArray := prog_8_method_35_code
def yX6_isCellOf : MethodName := ⟨RX6, "isCellOf", "(II)Z"⟩
abbrev cX6_placeOf : ByteArray := prog_8_method_36_code
def yX6_placeOf : MethodName := ⟨RX6, "placeOf", "(III)I"⟩
abbrev cX6_stackSize : ByteArray := prog_8_method_37_code
def yX6_stackSize : MethodName := ⟨RX6, "stackSize", "(II)I"⟩
abbrev cX6_itemTag : ByteArray := prog_8_method_38_code
def yX6_itemTag : MethodName := ⟨RX6, "itemTag", "(III)I"⟩
abbrev cX6_itemPermission : ByteArray := prog_8_method_39_code
def yX6_itemPermission : MethodName := ⟨RX6, "itemPermission", "(III)I"⟩
abbrev cX6_itemProtected : ByteArray := prog_8_method_40_code
def yX6_itemProtected : MethodName := ⟨RX6, "itemProtected", "(III)I"⟩
abbrev cX6_allocationOf : ByteArray := prog_8_method_41_code
def yX6_allocationOf : MethodName := ⟨RX6, "allocationOf", "(I)I"⟩
abbrev cX6_parent : ByteArray := prog_8_method_42_code
def yX6_parent : MethodName := ⟨RX6, "parent", "(I)I"⟩
abbrev cX6_liveOf : ByteArray := prog_8_method_43_code
def yX6_liveOf : MethodName := ⟨RX6, "liveOf", "(I)I"⟩
abbrev cX6_liveCells : ByteArray := prog_8_method_44_code
def yX6_liveCells : MethodName := ⟨RX6, "liveCells", "(I)I"⟩
abbrev cX6_isFreed : ByteArray := prog_8_method_45_code
def yX6_isFreed : MethodName := ⟨RX6, "isFreed", "(I)I"⟩
abbrev cX6_pointerCount : ByteArray := prog_8_method_46_code
def yX6_pointerCount : MethodName := ⟨RX6, "pointerCount", "()I"⟩
abbrev cX6_callDepth : ByteArray := prog_8_method_47_code
def yX6_callDepth : MethodName := ⟨RX6, "callDepth", "()I"⟩
abbrev cX6_violationCount : ByteArray := prog_8_method_48_code
def yX6_violationCount : MethodName := ⟨RX6, "violationCount", "()I"⟩
abbrev cX6_violationKind : ByteArray := prog_8_method_49_code
def yX6_violationKind : MethodName := ⟨RX6, "violationKind", "()I"⟩
abbrev cX6_violationCell : ByteArray := prog_8_method_50_code
def yX6_violationCell : MethodName := ⟨RX6, "violationCell", "()I"⟩
abbrev cX6_errorCount : ByteArray := prog_8_method_51_code
def yX6_errorCount : MethodName := ⟨RX6, "errorCount", "(I)I"⟩
abbrev cX6_append : ByteArray := prog_8_method_52_code
def yX6_append : MethodName := ⟨RX6, "append", "(I)I"⟩
abbrev cX6_clearText : ByteArray := prog_8_method_53_code
def yX6_clearText : MethodName := ⟨RX6, "clearText", "()I"⟩
abbrev cX6_isAt : ByteArray := prog_8_method_54_code
def yX6_isAt : MethodName := ⟨RX6, "isAt", "(II)Z"⟩
abbrev cX6_blanks : ByteArray := prog_8_method_55_code
def yX6_blanks : MethodName := ⟨RX6, "blanks", "()V"⟩
abbrev cX6_manyOf : ByteArray := prog_8_method_56_code
def yX6_manyOf : MethodName := ⟨RX6, "manyOf", "(I)I"⟩
abbrev cX6_takesNumber : ByteArray := prog_8_method_57_code
def yX6_takesNumber : MethodName := ⟨RX6, "takesNumber", "(I)Z"⟩
abbrev cX6_takesCommand : ByteArray := prog_8_method_58_code
def yX6_takesCommand : MethodName := ⟨RX6, "takesCommand", "()Z"⟩
abbrev cX6_isRead : ByteArray := prog_8_method_59_code
def yX6_isRead : MethodName := ⟨RX6, "isRead", "()Z"⟩
abbrev cX6_execute : ByteArray := prog_8_method_60_code
def yX6_execute : MethodName := ⟨RX6, "execute", "(I)I"⟩
abbrev cX6_executeAll : ByteArray := prog_8_method_61_code
def yX6_executeAll : MethodName := ⟨RX6, "executeAll", "()I"⟩
abbrev cX6_runScript : ByteArray := prog_8_method_62_code
def yX6_runScript : MethodName := ⟨RX6, "runScript", "()I"⟩
abbrev cX6_mix : ByteArray := prog_8_method_63_code
def yX6_mix : MethodName := ⟨RX6, "mix", "(J)V"⟩
abbrev cX6_mixCell : ByteArray := prog_8_method_64_code
def yX6_mixCell : MethodName := ⟨RX6, "mixCell", "(I)V"⟩
abbrev cX6_digest : ByteArray := prog_8_method_65_code
def yX6_digest : MethodName := ⟨RX6, "digest", "()J"⟩
def RL : String := "BorrowStacksLaw"
abbrev cL_law : ByteArray := code
def yL_law : MethodName := ⟨RL, "law", "([I)Z"⟩
abbrev vwCl : List vw_C := [(RX0, TX0, 3), (RX1, TX1, 3), (RX2, TX2, 5), (RX3, TX3, 2), (RX4, TX4, 6), (RX5, TX5, 10), (RX6, TX6, 24)]
