section
-- ===== PART A: goes FIRST, ahead of the names: the tables' words, and 'selects' of the private methods out of them =====
/-- a private method of a class that the tables say can be made, by its rows of tables_1 -/
def lw_okq (q : MethodName × Nat) : Prop := (q.1.cls ≠ "java/lang/invoke/MethodHandle" ∧ q.1.cls ≠ "java/lang/invoke/VarHandle") ∧ Cond.instantiable q.1.cls q.2 ∈ tables_1 ∧ Cond.privateMethod q.1 ∈ tables_1 ∧ Cond.instanceMethod q.1 ∈ tables_1
theorem lw_p0 : lw_okq (⟨"BorrowStacks", "performAllocate", "(I)I"⟩, 10) := ⟨⟨by decide +kernel, by decide +kernel⟩, List.mem_of_getElem? (i := 9) (by decide +kernel), List.mem_of_getElem? (i := 102) (by decide +kernel), List.mem_of_getElem? (i := 103) (by decide +kernel)⟩
theorem lw_p1 : lw_okq (⟨"BorrowStacks", "addPointer", "(LBorrowStacks$Allocation;I)I"⟩, 10) := ⟨⟨by decide +kernel, by decide +kernel⟩, List.mem_of_getElem? (i := 9) (by decide +kernel), List.mem_of_getElem? (i := 152) (by decide +kernel), List.mem_of_getElem? (i := 153) (by decide +kernel)⟩
theorem lw_p2 : lw_okq (⟨"BorrowStacks", "counted", "(I)I"⟩, 10) := ⟨⟨by decide +kernel, by decide +kernel⟩, List.mem_of_getElem? (i := 9) (by decide +kernel), List.mem_of_getElem? (i := 170) (by decide +kernel), List.mem_of_getElem? (i := 171) (by decide +kernel)⟩
theorem lw_p3 : lw_okq (⟨"BorrowStacks", "performRead", "(II)I"⟩, 10) := ⟨⟨by decide +kernel, by decide +kernel⟩, List.mem_of_getElem? (i := 9) (by decide +kernel), List.mem_of_getElem? (i := 178) (by decide +kernel), List.mem_of_getElem? (i := 179) (by decide +kernel)⟩
theorem lw_p4 : lw_okq (⟨"BorrowStacks", "pointerAt", "(I)LBorrowStacks$Pointer;"⟩, 10) := ⟨⟨by decide +kernel, by decide +kernel⟩, List.mem_of_getElem? (i := 9) (by decide +kernel), List.mem_of_getElem? (i := 182) (by decide +kernel), List.mem_of_getElem? (i := 183) (by decide +kernel)⟩
theorem lw_p5 : lw_okq (⟨"BorrowStacks", "violated", "(II)I"⟩, 10) := ⟨⟨by decide +kernel, by decide +kernel⟩, List.mem_of_getElem? (i := 9) (by decide +kernel), List.mem_of_getElem? (i := 193) (by decide +kernel), List.mem_of_getElem? (i := 194) (by decide +kernel)⟩
theorem lw_p6 : lw_okq (⟨"BorrowStacks", "performWrite", "(III)I"⟩, 10) := ⟨⟨by decide +kernel, by decide +kernel⟩, List.mem_of_getElem? (i := 9) (by decide +kernel), List.mem_of_getElem? (i := 217) (by decide +kernel), List.mem_of_getElem? (i := 218) (by decide +kernel)⟩
theorem lw_p7 : lw_okq (⟨"BorrowStacks", "performReborrow", "(IIIII)I"⟩, 10) := ⟨⟨by decide +kernel, by decide +kernel⟩, List.mem_of_getElem? (i := 9) (by decide +kernel), List.mem_of_getElem? (i := 245) (by decide +kernel), List.mem_of_getElem? (i := 246) (by decide +kernel)⟩
theorem lw_p8 : lw_okq (⟨"BorrowStacks", "performFree", "(I)I"⟩, 10) := ⟨⟨by decide +kernel, by decide +kernel⟩, List.mem_of_getElem? (i := 9) (by decide +kernel), List.mem_of_getElem? (i := 277) (by decide +kernel), List.mem_of_getElem? (i := 278) (by decide +kernel)⟩
theorem lw_p9 : lw_okq (⟨"BorrowStacks", "performEnter", "()I"⟩, 10) := ⟨⟨by decide +kernel, by decide +kernel⟩, List.mem_of_getElem? (i := 9) (by decide +kernel), List.mem_of_getElem? (i := 294) (by decide +kernel), List.mem_of_getElem? (i := 295) (by decide +kernel)⟩
theorem lw_p10 : lw_okq (⟨"BorrowStacks", "performLeave", "()I"⟩, 10) := ⟨⟨by decide +kernel, by decide +kernel⟩, List.mem_of_getElem? (i := 9) (by decide +kernel), List.mem_of_getElem? (i := 306) (by decide +kernel), List.mem_of_getElem? (i := 307) (by decide +kernel)⟩
theorem lw_p11 : lw_okq (⟨"BorrowStacks", "cellAt", "(II)LBorrowStacks$Cell;"⟩, 10) := ⟨⟨by decide +kernel, by decide +kernel⟩, List.mem_of_getElem? (i := 9) (by decide +kernel), List.mem_of_getElem? (i := 335) (by decide +kernel), List.mem_of_getElem? (i := 336) (by decide +kernel)⟩
theorem lw_p12 : lw_okq (⟨"BorrowStacks", "allocationAt", "(I)LBorrowStacks$Allocation;"⟩, 10) := ⟨⟨by decide +kernel, by decide +kernel⟩, List.mem_of_getElem? (i := 9) (by decide +kernel), List.mem_of_getElem? (i := 339) (by decide +kernel), List.mem_of_getElem? (i := 340) (by decide +kernel)⟩
theorem lw_p13 : lw_okq (⟨"BorrowStacks$Script", "skipSpaces", "()V"⟩, 6) := ⟨⟨by decide +kernel, by decide +kernel⟩, List.mem_of_getElem? (i := 39) (by decide +kernel), List.mem_of_getElem? (i := 428) (by decide +kernel), List.mem_of_getElem? (i := 429) (by decide +kernel)⟩
theorem lw_p14 : lw_okq (⟨"BorrowStacks$Script", "parseCommand", "()Z"⟩, 6) := ⟨⟨by decide +kernel, by decide +kernel⟩, List.mem_of_getElem? (i := 39) (by decide +kernel), List.mem_of_getElem? (i := 432) (by decide +kernel), List.mem_of_getElem? (i := 433) (by decide +kernel)⟩
theorem lw_p15 : lw_okq (⟨"BorrowStacks$Script", "byteHere", "()I"⟩, 6) := ⟨⟨by decide +kernel, by decide +kernel⟩, List.mem_of_getElem? (i := 39) (by decide +kernel), List.mem_of_getElem? (i := 436) (by decide +kernel), List.mem_of_getElem? (i := 437) (by decide +kernel)⟩
def lw_privs_1 : List (MethodName × Nat) := [(⟨"BorrowStacks", "performAllocate", "(I)I"⟩, 10), (⟨"BorrowStacks", "addPointer", "(LBorrowStacks$Allocation;I)I"⟩, 10), (⟨"BorrowStacks", "counted", "(I)I"⟩, 10), (⟨"BorrowStacks", "performRead", "(II)I"⟩, 10), (⟨"BorrowStacks", "pointerAt", "(I)LBorrowStacks$Pointer;"⟩, 10), (⟨"BorrowStacks", "violated", "(II)I"⟩, 10), (⟨"BorrowStacks", "performWrite", "(III)I"⟩, 10), (⟨"BorrowStacks", "performReborrow", "(IIIII)I"⟩, 10), (⟨"BorrowStacks", "performFree", "(I)I"⟩, 10), (⟨"BorrowStacks", "performEnter", "()I"⟩, 10), (⟨"BorrowStacks", "performLeave", "()I"⟩, 10), (⟨"BorrowStacks", "cellAt", "(II)LBorrowStacks$Cell;"⟩, 10), (⟨"BorrowStacks", "allocationAt", "(I)LBorrowStacks$Allocation;"⟩, 10), (⟨"BorrowStacks$Script", "skipSpaces", "()V"⟩, 6), (⟨"BorrowStacks$Script", "parseCommand", "()Z"⟩, 6), (⟨"BorrowStacks$Script", "byteHere", "()I"⟩, 6)]
theorem lw_r1 : ∀ q ∈ lw_privs_1, lw_okq q := List.forall_mem_cons.mpr ⟨lw_p0, List.forall_mem_cons.mpr ⟨lw_p1, List.forall_mem_cons.mpr ⟨lw_p2, List.forall_mem_cons.mpr ⟨lw_p3, List.forall_mem_cons.mpr ⟨lw_p4, List.forall_mem_cons.mpr ⟨lw_p5, List.forall_mem_cons.mpr ⟨lw_p6, List.forall_mem_cons.mpr ⟨lw_p7, List.forall_mem_cons.mpr ⟨lw_p8, List.forall_mem_cons.mpr ⟨lw_p9, List.forall_mem_cons.mpr ⟨lw_p10, List.forall_mem_cons.mpr ⟨lw_p11, List.forall_mem_cons.mpr ⟨lw_p12, List.forall_mem_cons.mpr ⟨lw_p13, List.forall_mem_cons.mpr ⟨lw_p14, List.forall_mem_cons.mpr ⟨lw_p15, fun _ h => absurd h List.not_mem_nil⟩⟩⟩⟩⟩⟩⟩⟩⟩⟩⟩⟩⟩⟩⟩⟩
theorem lw_p16 : lw_okq (⟨"BorrowStacks$Script", "parseArgument", "(I)Z"⟩, 6) := ⟨⟨by decide +kernel, by decide +kernel⟩, List.mem_of_getElem? (i := 39) (by decide +kernel), List.mem_of_getElem? (i := 443) (by decide +kernel), List.mem_of_getElem? (i := 444) (by decide +kernel)⟩
theorem lw_p17 : lw_okq (⟨"BorrowStacks$Script", "isDigitHere", "()Z"⟩, 6) := ⟨⟨by decide +kernel, by decide +kernel⟩, List.mem_of_getElem? (i := 39) (by decide +kernel), List.mem_of_getElem? (i := 447) (by decide +kernel), List.mem_of_getElem? (i := 448) (by decide +kernel)⟩
theorem lw_p18 : lw_okq (⟨"BorrowStacks", "performCommand", "(I)I"⟩, 10) := ⟨⟨by decide +kernel, by decide +kernel⟩, List.mem_of_getElem? (i := 9) (by decide +kernel), List.mem_of_getElem? (i := 451) (by decide +kernel), List.mem_of_getElem? (i := 452) (by decide +kernel)⟩
theorem lw_p19 : lw_okq (⟨"BorrowStacksModel", "error", "(I)I"⟩, 24) := ⟨⟨by decide +kernel, by decide +kernel⟩, List.mem_of_getElem? (i := 483) (by decide +kernel), List.mem_of_getElem? (i := 570) (by decide +kernel), List.mem_of_getElem? (i := 571) (by decide +kernel)⟩
theorem lw_p20 : lw_okq (⟨"BorrowStacksModel", "newPointer", "(II)I"⟩, 24) := ⟨⟨by decide +kernel, by decide +kernel⟩, List.mem_of_getElem? (i := 483) (by decide +kernel), List.mem_of_getElem? (i := 574) (by decide +kernel), List.mem_of_getElem? (i := 575) (by decide +kernel)⟩
theorem lw_p21 : lw_okq (⟨"BorrowStacksModel", "insert", "(IIIII)V"⟩, 24) := ⟨⟨by decide +kernel, by decide +kernel⟩, List.mem_of_getElem? (i := 483) (by decide +kernel), List.mem_of_getElem? (i := 578) (by decide +kernel), List.mem_of_getElem? (i := 579) (by decide +kernel)⟩
theorem lw_p22 : lw_okq (⟨"BorrowStacksModel", "isCell", "(II)Z"⟩, 24) := ⟨⟨by decide +kernel, by decide +kernel⟩, List.mem_of_getElem? (i := 483) (by decide +kernel), List.mem_of_getElem? (i := 586) (by decide +kernel), List.mem_of_getElem? (i := 587) (by decide +kernel)⟩
theorem lw_p23 : lw_okq (⟨"BorrowStacksModel", "isPointer", "(I)Z"⟩, 24) := ⟨⟨by decide +kernel, by decide +kernel⟩, List.mem_of_getElem? (i := 483) (by decide +kernel), List.mem_of_getElem? (i := 590) (by decide +kernel), List.mem_of_getElem? (i := 591) (by decide +kernel)⟩
theorem lw_p24 : lw_okq (⟨"BorrowStacksModel", "readKind", "(II)I"⟩, 24) := ⟨⟨by decide +kernel, by decide +kernel⟩, List.mem_of_getElem? (i := 483) (by decide +kernel), List.mem_of_getElem? (i := 594) (by decide +kernel), List.mem_of_getElem? (i := 595) (by decide +kernel)⟩
theorem lw_p25 : lw_okq (⟨"BorrowStacksModel", "cellOf", "(II)I"⟩, 24) := ⟨⟨by decide +kernel, by decide +kernel⟩, List.mem_of_getElem? (i := 483) (by decide +kernel), List.mem_of_getElem? (i := 598) (by decide +kernel), List.mem_of_getElem? (i := 599) (by decide +kernel)⟩
theorem lw_p26 : lw_okq (⟨"BorrowStacksModel", "granting", "(IIZ)I"⟩, 24) := ⟨⟨by decide +kernel, by decide +kernel⟩, List.mem_of_getElem? (i := 483) (by decide +kernel), List.mem_of_getElem? (i := 602) (by decide +kernel), List.mem_of_getElem? (i := 603) (by decide +kernel)⟩
theorem lw_p27 : lw_okq (⟨"BorrowStacksModel", "isGuarded", "(IIZ)Z"⟩, 24) := ⟨⟨by decide +kernel, by decide +kernel⟩, List.mem_of_getElem? (i := 483) (by decide +kernel), List.mem_of_getElem? (i := 606) (by decide +kernel), List.mem_of_getElem? (i := 607) (by decide +kernel)⟩
theorem lw_p28 : lw_okq (⟨"BorrowStacksModel", "violate", "(II)I"⟩, 24) := ⟨⟨by decide +kernel, by decide +kernel⟩, List.mem_of_getElem? (i := 483) (by decide +kernel), List.mem_of_getElem? (i := 610) (by decide +kernel), List.mem_of_getElem? (i := 611) (by decide +kernel)⟩
theorem lw_p29 : lw_okq (⟨"BorrowStacksModel", "doRead", "(II)V"⟩, 24) := ⟨⟨by decide +kernel, by decide +kernel⟩, List.mem_of_getElem? (i := 483) (by decide +kernel), List.mem_of_getElem? (i := 614) (by decide +kernel), List.mem_of_getElem? (i := 615) (by decide +kernel)⟩
theorem lw_p30 : lw_okq (⟨"BorrowStacksModel", "writeKind", "(II)I"⟩, 24) := ⟨⟨by decide +kernel, by decide +kernel⟩, List.mem_of_getElem? (i := 483) (by decide +kernel), List.mem_of_getElem? (i := 622) (by decide +kernel), List.mem_of_getElem? (i := 623) (by decide +kernel)⟩
theorem lw_p31 : lw_okq (⟨"BorrowStacksModel", "above", "(II)I"⟩, 24) := ⟨⟨by decide +kernel, by decide +kernel⟩, List.mem_of_getElem? (i := 483) (by decide +kernel), List.mem_of_getElem? (i := 626) (by decide +kernel), List.mem_of_getElem? (i := 627) (by decide +kernel)⟩
def lw_privs_2 : List (MethodName × Nat) := [(⟨"BorrowStacks$Script", "parseArgument", "(I)Z"⟩, 6), (⟨"BorrowStacks$Script", "isDigitHere", "()Z"⟩, 6), (⟨"BorrowStacks", "performCommand", "(I)I"⟩, 10), (⟨"BorrowStacksModel", "error", "(I)I"⟩, 24), (⟨"BorrowStacksModel", "newPointer", "(II)I"⟩, 24), (⟨"BorrowStacksModel", "insert", "(IIIII)V"⟩, 24), (⟨"BorrowStacksModel", "isCell", "(II)Z"⟩, 24), (⟨"BorrowStacksModel", "isPointer", "(I)Z"⟩, 24), (⟨"BorrowStacksModel", "readKind", "(II)I"⟩, 24), (⟨"BorrowStacksModel", "cellOf", "(II)I"⟩, 24), (⟨"BorrowStacksModel", "granting", "(IIZ)I"⟩, 24), (⟨"BorrowStacksModel", "isGuarded", "(IIZ)Z"⟩, 24), (⟨"BorrowStacksModel", "violate", "(II)I"⟩, 24), (⟨"BorrowStacksModel", "doRead", "(II)V"⟩, 24), (⟨"BorrowStacksModel", "writeKind", "(II)I"⟩, 24), (⟨"BorrowStacksModel", "above", "(II)I"⟩, 24)]
theorem lw_r2 : ∀ q ∈ lw_privs_2, lw_okq q := List.forall_mem_cons.mpr ⟨lw_p16, List.forall_mem_cons.mpr ⟨lw_p17, List.forall_mem_cons.mpr ⟨lw_p18, List.forall_mem_cons.mpr ⟨lw_p19, List.forall_mem_cons.mpr ⟨lw_p20, List.forall_mem_cons.mpr ⟨lw_p21, List.forall_mem_cons.mpr ⟨lw_p22, List.forall_mem_cons.mpr ⟨lw_p23, List.forall_mem_cons.mpr ⟨lw_p24, List.forall_mem_cons.mpr ⟨lw_p25, List.forall_mem_cons.mpr ⟨lw_p26, List.forall_mem_cons.mpr ⟨lw_p27, List.forall_mem_cons.mpr ⟨lw_p28, List.forall_mem_cons.mpr ⟨lw_p29, List.forall_mem_cons.mpr ⟨lw_p30, List.forall_mem_cons.mpr ⟨lw_p31, fun _ h => absurd h List.not_mem_nil⟩⟩⟩⟩⟩⟩⟩⟩⟩⟩⟩⟩⟩⟩⟩⟩
theorem lw_p32 : lw_okq (⟨"BorrowStacksModel", "doWrite", "(II)V"⟩, 24) := ⟨⟨by decide +kernel, by decide +kernel⟩, List.mem_of_getElem? (i := 483) (by decide +kernel), List.mem_of_getElem? (i := 630) (by decide +kernel), List.mem_of_getElem? (i := 631) (by decide +kernel)⟩
theorem lw_p33 : lw_okq (⟨"BorrowStacksModel", "reborrowKind", "(III)I"⟩, 24) := ⟨⟨by decide +kernel, by decide +kernel⟩, List.mem_of_getElem? (i := 483) (by decide +kernel), List.mem_of_getElem? (i := 638) (by decide +kernel), List.mem_of_getElem? (i := 639) (by decide +kernel)⟩
theorem lw_p34 : lw_okq (⟨"BorrowStacksModel", "rawKind", "(II)I"⟩, 24) := ⟨⟨by decide +kernel, by decide +kernel⟩, List.mem_of_getElem? (i := 483) (by decide +kernel), List.mem_of_getElem? (i := 642) (by decide +kernel), List.mem_of_getElem? (i := 643) (by decide +kernel)⟩
theorem lw_p35 : lw_okq (⟨"BorrowStacksModel", "sizeBy", "(III)I"⟩, 24) := ⟨⟨by decide +kernel, by decide +kernel⟩, List.mem_of_getElem? (i := 483) (by decide +kernel), List.mem_of_getElem? (i := 646) (by decide +kernel), List.mem_of_getElem? (i := 647) (by decide +kernel)⟩
theorem lw_p36 : lw_okq (⟨"BorrowStacksModel", "put", "(IIII)V"⟩, 24) := ⟨⟨by decide +kernel, by decide +kernel⟩, List.mem_of_getElem? (i := 483) (by decide +kernel), List.mem_of_getElem? (i := 650) (by decide +kernel), List.mem_of_getElem? (i := 651) (by decide +kernel)⟩
theorem lw_p37 : lw_okq (⟨"BorrowStacksModel", "freeKind", "(II)I"⟩, 24) := ⟨⟨by decide +kernel, by decide +kernel⟩, List.mem_of_getElem? (i := 483) (by decide +kernel), List.mem_of_getElem? (i := 658) (by decide +kernel), List.mem_of_getElem? (i := 659) (by decide +kernel)⟩
theorem lw_p38 : lw_okq (⟨"BorrowStacksModel", "isCellOf", "(II)Z"⟩, 24) := ⟨⟨by decide +kernel, by decide +kernel⟩, List.mem_of_getElem? (i := 483) (by decide +kernel), List.mem_of_getElem? (i := 690) (by decide +kernel), List.mem_of_getElem? (i := 691) (by decide +kernel)⟩
theorem lw_p39 : lw_okq (⟨"BorrowStacksModel", "isAllocation", "(I)Z"⟩, 24) := ⟨⟨by decide +kernel, by decide +kernel⟩, List.mem_of_getElem? (i := 483) (by decide +kernel), List.mem_of_getElem? (i := 694) (by decide +kernel), List.mem_of_getElem? (i := 695) (by decide +kernel)⟩
theorem lw_p40 : lw_okq (⟨"BorrowStacksModel", "placeOf", "(III)I"⟩, 24) := ⟨⟨by decide +kernel, by decide +kernel⟩, List.mem_of_getElem? (i := 483) (by decide +kernel), List.mem_of_getElem? (i := 702) (by decide +kernel), List.mem_of_getElem? (i := 703) (by decide +kernel)⟩
theorem lw_p41 : lw_okq (⟨"BorrowStacksModel", "liveOf", "(I)I"⟩, 24) := ⟨⟨by decide +kernel, by decide +kernel⟩, List.mem_of_getElem? (i := 483) (by decide +kernel), List.mem_of_getElem? (i := 726) (by decide +kernel), List.mem_of_getElem? (i := 727) (by decide +kernel)⟩
theorem lw_p42 : lw_okq (⟨"BorrowStacksModel", "isRead", "()Z"⟩, 24) := ⟨⟨by decide +kernel, by decide +kernel⟩, List.mem_of_getElem? (i := 483) (by decide +kernel), List.mem_of_getElem? (i := 770) (by decide +kernel), List.mem_of_getElem? (i := 771) (by decide +kernel)⟩
theorem lw_p43 : lw_okq (⟨"BorrowStacksModel", "blanks", "()V"⟩, 24) := ⟨⟨by decide +kernel, by decide +kernel⟩, List.mem_of_getElem? (i := 483) (by decide +kernel), List.mem_of_getElem? (i := 774) (by decide +kernel), List.mem_of_getElem? (i := 775) (by decide +kernel)⟩
theorem lw_p44 : lw_okq (⟨"BorrowStacksModel", "isAt", "(II)Z"⟩, 24) := ⟨⟨by decide +kernel, by decide +kernel⟩, List.mem_of_getElem? (i := 483) (by decide +kernel), List.mem_of_getElem? (i := 778) (by decide +kernel), List.mem_of_getElem? (i := 779) (by decide +kernel)⟩
theorem lw_p45 : lw_okq (⟨"BorrowStacksModel", "takesCommand", "()Z"⟩, 24) := ⟨⟨by decide +kernel, by decide +kernel⟩, List.mem_of_getElem? (i := 483) (by decide +kernel), List.mem_of_getElem? (i := 782) (by decide +kernel), List.mem_of_getElem? (i := 783) (by decide +kernel)⟩
theorem lw_p46 : lw_okq (⟨"BorrowStacksModel", "takesNumber", "(I)Z"⟩, 24) := ⟨⟨by decide +kernel, by decide +kernel⟩, List.mem_of_getElem? (i := 483) (by decide +kernel), List.mem_of_getElem? (i := 789) (by decide +kernel), List.mem_of_getElem? (i := 790) (by decide +kernel)⟩
theorem lw_p47 : lw_okq (⟨"BorrowStacksModel", "executeAll", "()I"⟩, 24) := ⟨⟨by decide +kernel, by decide +kernel⟩, List.mem_of_getElem? (i := 483) (by decide +kernel), List.mem_of_getElem? (i := 793) (by decide +kernel), List.mem_of_getElem? (i := 794) (by decide +kernel)⟩
def lw_privs_3 : List (MethodName × Nat) := [(⟨"BorrowStacksModel", "doWrite", "(II)V"⟩, 24), (⟨"BorrowStacksModel", "reborrowKind", "(III)I"⟩, 24), (⟨"BorrowStacksModel", "rawKind", "(II)I"⟩, 24), (⟨"BorrowStacksModel", "sizeBy", "(III)I"⟩, 24), (⟨"BorrowStacksModel", "put", "(IIII)V"⟩, 24), (⟨"BorrowStacksModel", "freeKind", "(II)I"⟩, 24), (⟨"BorrowStacksModel", "isCellOf", "(II)Z"⟩, 24), (⟨"BorrowStacksModel", "isAllocation", "(I)Z"⟩, 24), (⟨"BorrowStacksModel", "placeOf", "(III)I"⟩, 24), (⟨"BorrowStacksModel", "liveOf", "(I)I"⟩, 24), (⟨"BorrowStacksModel", "isRead", "()Z"⟩, 24), (⟨"BorrowStacksModel", "blanks", "()V"⟩, 24), (⟨"BorrowStacksModel", "isAt", "(II)Z"⟩, 24), (⟨"BorrowStacksModel", "takesCommand", "()Z"⟩, 24), (⟨"BorrowStacksModel", "takesNumber", "(I)Z"⟩, 24), (⟨"BorrowStacksModel", "executeAll", "()I"⟩, 24)]
theorem lw_r3 : ∀ q ∈ lw_privs_3, lw_okq q := List.forall_mem_cons.mpr ⟨lw_p32, List.forall_mem_cons.mpr ⟨lw_p33, List.forall_mem_cons.mpr ⟨lw_p34, List.forall_mem_cons.mpr ⟨lw_p35, List.forall_mem_cons.mpr ⟨lw_p36, List.forall_mem_cons.mpr ⟨lw_p37, List.forall_mem_cons.mpr ⟨lw_p38, List.forall_mem_cons.mpr ⟨lw_p39, List.forall_mem_cons.mpr ⟨lw_p40, List.forall_mem_cons.mpr ⟨lw_p41, List.forall_mem_cons.mpr ⟨lw_p42, List.forall_mem_cons.mpr ⟨lw_p43, List.forall_mem_cons.mpr ⟨lw_p44, List.forall_mem_cons.mpr ⟨lw_p45, List.forall_mem_cons.mpr ⟨lw_p46, List.forall_mem_cons.mpr ⟨lw_p47, fun _ h => absurd h List.not_mem_nil⟩⟩⟩⟩⟩⟩⟩⟩⟩⟩⟩⟩⟩⟩⟩⟩
theorem lw_p48 : lw_okq (⟨"BorrowStacksModel", "execute", "(I)I"⟩, 24) := ⟨⟨by decide +kernel, by decide +kernel⟩, List.mem_of_getElem? (i := 483) (by decide +kernel), List.mem_of_getElem? (i := 797) (by decide +kernel), List.mem_of_getElem? (i := 798) (by decide +kernel)⟩
theorem lw_p49 : lw_okq (⟨"BorrowStacksModel", "mix", "(J)V"⟩, 24) := ⟨⟨by decide +kernel, by decide +kernel⟩, List.mem_of_getElem? (i := 483) (by decide +kernel), List.mem_of_getElem? (i := 813) (by decide +kernel), List.mem_of_getElem? (i := 814) (by decide +kernel)⟩
theorem lw_p50 : lw_okq (⟨"BorrowStacksModel", "mixCell", "(I)V"⟩, 24) := ⟨⟨by decide +kernel, by decide +kernel⟩, List.mem_of_getElem? (i := 483) (by decide +kernel), List.mem_of_getElem? (i := 818) (by decide +kernel), List.mem_of_getElem? (i := 819) (by decide +kernel)⟩
def lw_privs_4 : List (MethodName × Nat) := [(⟨"BorrowStacksModel", "execute", "(I)I"⟩, 24), (⟨"BorrowStacksModel", "mix", "(J)V"⟩, 24), (⟨"BorrowStacksModel", "mixCell", "(I)V"⟩, 24)]
theorem lw_r4 : ∀ q ∈ lw_privs_4, lw_okq q := List.forall_mem_cons.mpr ⟨lw_p48, List.forall_mem_cons.mpr ⟨lw_p49, List.forall_mem_cons.mpr ⟨lw_p50, fun _ h => absurd h List.not_mem_nil⟩⟩⟩
def lw_privs : List (MethodName × Nat) := lw_privs_1 ++ (lw_privs_2 ++ (lw_privs_3 ++ (lw_privs_4)))
def lw_tbl : List Cond := k2_sels lw_privs ++ tables_1
theorem lw_privs_ok : ∀ q ∈ lw_privs, lw_okq q := by
  show ∀ q ∈ lw_privs_1 ++ (lw_privs_2 ++ (lw_privs_3 ++ (lw_privs_4))), lw_okq q
  exact List.forall_mem_append.mpr ⟨lw_r1, List.forall_mem_append.mpr ⟨lw_r2, List.forall_mem_append.mpr ⟨lw_r3, lw_r4⟩⟩⟩
/-! ===== BEGIN words of one list among another's, by their places ===== -/
theorem goodIn_r {big : List Cond} (ws : List Cond) (ps : List Nat) (hp : ws = ps.filterMap (fun i => big[i]?)) (h : ws.all goodWord = true) : GoodIn big ws := by
  intro w hw
  have h1 := List.all_eq_true.mp h w hw
  rw [hp] at hw
  obtain ⟨i, -, hi⟩ := List.mem_filterMap.mp hw
  have hm : w ∈ big := by first | exact List.mem_of_getElem? hi | exact List.getElem?_mem hi
  exact ⟨hm, good_of_word h1⟩
theorem goodIn_app {big a b : List Cond} (ha : GoodIn big a) (hb : GoodIn big b) : GoodIn big (a ++ b) := fun w h => (List.mem_append.mp h).elim (ha w) (hb w)
theorem goodIn_ca {big a b : List Cond} {c : Cond} (ha : GoodIn big (c :: a)) (hb : GoodIn big b) : GoodIn big (c :: (a ++ b)) := fun w h => (List.mem_cons.mp h).elim (fun e => ha w (List.mem_cons.mpr (Or.inl e))) (fun h => (List.mem_append.mp h).elim (fun h => ha w (List.mem_cons.mpr (Or.inr h))) (hb w))
theorem goodIn_sub {big ws : List Cond} (hm : ∀ w ∈ ws, w ∈ big) (h : ws.all goodWord = true) : GoodIn big ws := fun w hw => ⟨hm w hw, good_of_word (List.all_eq_true.mp h w hw)⟩
/-! ===== END ===== -/

/-! ===== BEGIN printed: names, fields, word lists, decode rows ===== -/
def RX0 : String := "BorrowStacks$Allocation"
def TX0 : u_T := fun k => match k with
  | 0 => ("BorrowStacks$Allocation", "number", "I", true)
  | 1 => ("BorrowStacks$Allocation", "cells", "[LBorrowStacks$Cell;", true)
  | _ => ("BorrowStacks$Allocation", "freed", "Z", false)
def tyX0 : Nat → FieldType := fun k => match k with
  | 0 => .int
  | 1 => .array (.object "BorrowStacks$Cell")
  | _ => .boolean
abbrev wsX00 : List Cond := u_ws RX0 TX0 3
theorem nmX0 : ∀ a, a < 3 → ∀ b, b < 3 → a ≠ b → (TX0 a).2.1 ≠ (TX0 b).2.1 := by decide +kernel
theorem tyX0_ok : ∀ k, k < 3 → parseFieldDescriptor (TX0 k).2.2.1 = some (tyX0 k) := by decide +kernel
abbrev cX0_init : ByteArray := prog_2_method_1_code
def yX0_init : MethodName := ⟨RX0, "<init>", "(III)V"⟩
abbrev cX0_hasRange : ByteArray := prog_2_method_2_code
def yX0_hasRange : MethodName := ⟨RX0, "hasRange", "(II)Z"⟩
abbrev cX0_firstCellAgainstFree : ByteArray := prog_2_method_3_code
def yX0_firstCellAgainstFree : MethodName := ⟨RX0, "firstCellAgainstFree", "(ILBorrowStacks$Calls;)I"⟩
abbrev cX0_cellsAliveFor : ByteArray := prog_2_method_4_code
def yX0_cellsAliveFor : MethodName := ⟨RX0, "cellsAliveFor", "(I)I"⟩
abbrev cX0_mixedInto : ByteArray := prog_2_method_5_code
def yX0_mixedInto : MethodName := ⟨RX0, "mixedInto", "(JLBorrowStacks$Calls;)J"⟩
def RX1 : String := "BorrowStacks$Calls"
def TX1 : u_T := fun k => match k with
  | 0 => ("BorrowStacks$Calls", "serials", "[I", true)
  | 1 => ("BorrowStacks$Calls", "depth", "I", false)
  | _ => ("BorrowStacks$Calls", "latestSerial", "I", false)
def tyX1 : Nat → FieldType := fun k => match k with
  | 0 => .array .int
  | 1 => .int
  | _ => .int
abbrev wsX10 : List Cond := u_ws RX1 TX1 3
theorem nmX1 : ∀ a, a < 3 → ∀ b, b < 3 → a ≠ b → (TX1 a).2.1 ≠ (TX1 b).2.1 := by decide +kernel
theorem tyX1_ok : ∀ k, k < 3 → parseFieldDescriptor (TX1 k).2.2.1 = some (tyX1 k) := by decide +kernel
abbrev cX1_init : ByteArray := prog_3_method_1_code
def yX1_init : MethodName := ⟨RX1, "<init>", "()V"⟩
abbrev cX1_enter : ByteArray := prog_3_method_2_code
def yX1_enter : MethodName := ⟨RX1, "enter", "()Z"⟩
abbrev cX1_leave : ByteArray := prog_3_method_3_code
def yX1_leave : MethodName := ⟨RX1, "leave", "()Z"⟩
abbrev cX1_innermost : ByteArray := prog_3_method_4_code
def yX1_innermost : MethodName := ⟨RX1, "innermost", "()I"⟩
abbrev cX1_isActive : ByteArray := prog_3_method_5_code
def yX1_isActive : MethodName := ⟨RX1, "isActive", "(I)Z"⟩
def RX2 : String := "BorrowStacks$Cell"
def TX2 : u_T := fun k => match k with
  | 0 => ("BorrowStacks$Cell", "tags", "[I", true)
  | 1 => ("BorrowStacks$Cell", "permissions", "[I", true)
  | 2 => ("BorrowStacks$Cell", "protectors", "[I", true)
  | 3 => ("BorrowStacks$Cell", "size", "I", false)
  | _ => ("BorrowStacks$Cell", "value", "I", false)
def tyX2 : Nat → FieldType := fun k => match k with
  | 0 => .array .int
  | 1 => .array .int
  | 2 => .array .int
  | 3 => .int
  | _ => .int
abbrev wsX20 : List Cond := u_ws RX2 TX2 5
theorem nmX2 : ∀ a, a < 5 → ∀ b, b < 5 → a ≠ b → (TX2 a).2.1 ≠ (TX2 b).2.1 := by decide +kernel
theorem tyX2_ok : ∀ k, k < 5 → parseFieldDescriptor (TX2 k).2.2.1 = some (tyX2 k) := by decide +kernel
abbrev cX2_init : ByteArray := prog_4_method_1_code
def yX2_init : MethodName := ⟨RX2, "<init>", "(I)V"⟩
abbrev cX2_hasItem : ByteArray := prog_4_method_2_code
def yX2_hasItem : MethodName := ⟨RX2, "hasItem", "(I)Z"⟩
abbrev cX2_grantOfRead : ByteArray := prog_4_method_3_code
def yX2_grantOfRead : MethodName := ⟨RX2, "grantOfRead", "(I)I"⟩
abbrev cX2_grantOfWrite : ByteArray := prog_4_method_4_code
def yX2_grantOfWrite : MethodName := ⟨RX2, "grantOfWrite", "(I)I"⟩
abbrev cX2_keptByWrite : ByteArray := prog_4_method_5_code
def yX2_keptByWrite : MethodName := ⟨RX2, "keptByWrite", "(I)I"⟩
abbrev cX2_readViolation : ByteArray := prog_4_method_6_code
def yX2_readViolation : MethodName := ⟨RX2, "readViolation", "(ILBorrowStacks$Calls;)I"⟩
abbrev cX2_writeViolation : ByteArray := prog_4_method_7_code
def yX2_writeViolation : MethodName := ⟨RX2, "writeViolation", "(ILBorrowStacks$Calls;)I"⟩
abbrev cX2_freeViolation : ByteArray := prog_4_method_8_code
def yX2_freeViolation : MethodName := ⟨RX2, "freeViolation", "(ILBorrowStacks$Calls;)I"⟩
abbrev cX2_reborrowViolation : ByteArray := prog_4_method_9_code
def yX2_reborrowViolation : MethodName := ⟨RX2, "reborrowViolation", "(IILBorrowStacks$Calls;)I"⟩
abbrev cX2_hasProtectedFrom : ByteArray := prog_4_method_10_code
def yX2_hasProtectedFrom : MethodName := ⟨RX2, "hasProtectedFrom", "(ILBorrowStacks$Calls;)Z"⟩
abbrev cX2_hasRoomToReborrow : ByteArray := prog_4_method_11_code
def yX2_hasRoomToReborrow : MethodName := ⟨RX2, "hasRoomToReborrow", "(II)Z"⟩
abbrev cX2_applyRead : ByteArray := prog_4_method_12_code
def yX2_applyRead : MethodName := ⟨RX2, "applyRead", "(I)V"⟩
abbrev cX2_applyWrite : ByteArray := prog_4_method_13_code
def yX2_applyWrite : MethodName := ⟨RX2, "applyWrite", "(I)V"⟩
abbrev cX2_applyReborrow : ByteArray := prog_4_method_14_code
def yX2_applyReborrow : MethodName := ⟨RX2, "applyReborrow", "(IIII)V"⟩
abbrev cX2_insertItem : ByteArray := prog_4_method_15_code
def yX2_insertItem : MethodName := ⟨RX2, "insertItem", "(IIII)V"⟩
abbrev cX2_mixedInto : ByteArray := prog_4_method_16_code
def yX2_mixedInto : MethodName := ⟨RX2, "mixedInto", "(JLBorrowStacks$Calls;)J"⟩
def RX3 : String := "BorrowStacks$Pointer"
def TX3 : u_T := fun k => match k with
  | 0 => ("BorrowStacks$Pointer", "home", "LBorrowStacks$Allocation;", true)
  | _ => ("BorrowStacks$Pointer", "origin", "I", true)
def tyX3 : Nat → FieldType := fun k => match k with
  | 0 => .object "BorrowStacks$Allocation"
  | _ => .int
abbrev wsX30 : List Cond := u_ws RX3 TX3 2
theorem nmX3 : ∀ a, a < 2 → ∀ b, b < 2 → a ≠ b → (TX3 a).2.1 ≠ (TX3 b).2.1 := by decide +kernel
theorem tyX3_ok : ∀ k, k < 2 → parseFieldDescriptor (TX3 k).2.2.1 = some (tyX3 k) := by decide +kernel
abbrev cX3_init : ByteArray := prog_5_method_1_code
def yX3_init : MethodName := ⟨RX3, "<init>", "(LBorrowStacks$Allocation;I)V"⟩
def RX4 : String := "BorrowStacks$Script"
def TX4 : u_T := fun k => match k with
  | 0 => ("BorrowStacks$Script", "text", "[I", true)
  | 1 => ("BorrowStacks$Script", "length", "I", false)
  | 2 => ("BorrowStacks$Script", "letters", "[I", true)
  | 3 => ("BorrowStacks$Script", "arguments", "[I", true)
  | 4 => ("BorrowStacks$Script", "commandTotal", "I", false)
  | _ => ("BorrowStacks$Script", "position", "I", false)
def tyX4 : Nat → FieldType := fun k => match k with
  | 0 => .array .int
  | 1 => .int
  | 2 => .array .int
  | 3 => .array .int
  | 4 => .int
  | _ => .int
abbrev wsX40 : List Cond := u_ws RX4 TX4 6
theorem nmX4 : ∀ a, a < 6 → ∀ b, b < 6 → a ≠ b → (TX4 a).2.1 ≠ (TX4 b).2.1 := by decide +kernel
theorem tyX4_ok : ∀ k, k < 6 → parseFieldDescriptor (TX4 k).2.2.1 = some (tyX4 k) := by decide +kernel
abbrev cX4_init : ByteArray := prog_6_method_1_code
def yX4_init : MethodName := ⟨RX4, "<init>", "()V"⟩
abbrev cX4_addByte : ByteArray := prog_6_method_2_code
def yX4_addByte : MethodName := ⟨RX4, "addByte", "(I)Z"⟩
abbrev cX4_argument : ByteArray := prog_6_method_3_code
def yX4_argument : MethodName := ⟨RX4, "argument", "(II)I"⟩
abbrev cX4_parse : ByteArray := prog_6_method_4_code
def yX4_parse : MethodName := ⟨RX4, "parse", "()I"⟩
abbrev cX4_parseCommand : ByteArray := prog_6_method_5_code
def yX4_parseCommand : MethodName := ⟨RX4, "parseCommand", "()Z"⟩
abbrev cX4_parseArgument : ByteArray := prog_6_method_6_code
def yX4_parseArgument : MethodName := ⟨RX4, "parseArgument", "(I)Z"⟩
abbrev cX4_skipSpaces : ByteArray := prog_6_method_7_code
def yX4_skipSpaces : MethodName := ⟨RX4, "skipSpaces", "()V"⟩
abbrev cX4_byteHere : ByteArray := prog_6_method_8_code
def yX4_byteHere : MethodName := ⟨RX4, "byteHere", "()I"⟩
abbrev cX4_isDigitHere : ByteArray := prog_6_method_9_code
def yX4_isDigitHere : MethodName := ⟨RX4, "isDigitHere", "()Z"⟩
abbrev cX4_argumentsOf : ByteArray := prog_6_method_10_code
def yX4_argumentsOf : MethodName := ⟨RX4, "argumentsOf", "(I)I"⟩
def RX5 : String := "BorrowStacks"
def TX5 : u_T := fun k => match k with
  | 0 => ("BorrowStacks", "allocations", "[LBorrowStacks$Allocation;", true)
  | 1 => ("BorrowStacks", "allocationTotal", "I", false)
  | 2 => ("BorrowStacks", "pointers", "[LBorrowStacks$Pointer;", true)
  | 3 => ("BorrowStacks", "pointerTotal", "I", false)
  | 4 => ("BorrowStacks", "calls", "LBorrowStacks$Calls;", true)
  | 5 => ("BorrowStacks", "script", "LBorrowStacks$Script;", true)
  | 6 => ("BorrowStacks", "errors", "[I", true)
  | 7 => ("BorrowStacks", "violations", "I", false)
  | 8 => ("BorrowStacks", "latestKind", "I", false)
  | _ => ("BorrowStacks", "latestCell", "I", false)
def tyX5 : Nat → FieldType := fun k => match k with
  | 0 => .array (.object "BorrowStacks$Allocation")
  | 1 => .int
  | 2 => .array (.object "BorrowStacks$Pointer")
  | 3 => .int
  | 4 => .object "BorrowStacks$Calls"
  | 5 => .object "BorrowStacks$Script"
  | 6 => .array .int
  | 7 => .int
  | 8 => .int
  | _ => .int
abbrev wsX50 : List Cond := u_ws RX5 TX5 10
theorem nmX5 : ∀ a, a < 10 → ∀ b, b < 10 → a ≠ b → (TX5 a).2.1 ≠ (TX5 b).2.1 := by decide +kernel
theorem tyX5_ok : ∀ k, k < 10 → parseFieldDescriptor (TX5 k).2.2.1 = some (tyX5 k) := by decide +kernel
abbrev cX5_init : ByteArray := prog_1_method_1_code
def yX5_init : MethodName := ⟨RX5, "<init>", "()V"⟩
abbrev cX5_allocate : ByteArray := prog_1_method_2_code
def yX5_allocate : MethodName := ⟨RX5, "allocate", "(I)I"⟩
abbrev cX5_read : ByteArray := prog_1_method_3_code
def yX5_read : MethodName := ⟨RX5, "read", "(II)I"⟩
abbrev cX5_write : ByteArray := prog_1_method_4_code
def yX5_write : MethodName := ⟨RX5, "write", "(III)I"⟩
abbrev cX5_reborrow : ByteArray := prog_1_method_5_code
def yX5_reborrow : MethodName := ⟨RX5, "reborrow", "(IIIII)I"⟩
abbrev cX5_free : ByteArray := prog_1_method_6_code
def yX5_free : MethodName := ⟨RX5, "free", "(I)I"⟩
abbrev cX5_enterCall : ByteArray := prog_1_method_7_code
def yX5_enterCall : MethodName := ⟨RX5, "enterCall", "()I"⟩
abbrev cX5_leaveCall : ByteArray := prog_1_method_8_code
def yX5_leaveCall : MethodName := ⟨RX5, "leaveCall", "()I"⟩
abbrev cX5_checkRead : ByteArray := prog_1_method_9_code
def yX5_checkRead : MethodName := ⟨RX5, "checkRead", "(II)I"⟩
abbrev cX5_checkWrite : ByteArray := prog_1_method_10_code
def yX5_checkWrite : MethodName := ⟨RX5, "checkWrite", "(II)I"⟩
abbrev cX5_checkFree : ByteArray := prog_1_method_11_code
def yX5_checkFree : MethodName := ⟨RX5, "checkFree", "(I)I"⟩
abbrev cX5_removedByWrite : ByteArray := prog_1_method_12_code
def yX5_removedByWrite : MethodName := ⟨RX5, "removedByWrite", "(II)I"⟩
abbrev cX5_stackSize : ByteArray := prog_1_method_13_code
def yX5_stackSize : MethodName := ⟨RX5, "stackSize", "(II)I"⟩
abbrev cX5_itemTag : ByteArray := prog_1_method_14_code
def yX5_itemTag : MethodName := ⟨RX5, "itemTag", "(III)I"⟩
abbrev cX5_itemPermission : ByteArray := prog_1_method_15_code
def yX5_itemPermission : MethodName := ⟨RX5, "itemPermission", "(III)I"⟩
abbrev cX5_itemProtected : ByteArray := prog_1_method_16_code
def yX5_itemProtected : MethodName := ⟨RX5, "itemProtected", "(III)I"⟩
abbrev cX5_allocationOf : ByteArray := prog_1_method_17_code
def yX5_allocationOf : MethodName := ⟨RX5, "allocationOf", "(I)I"⟩
abbrev cX5_parent : ByteArray := prog_1_method_18_code
def yX5_parent : MethodName := ⟨RX5, "parent", "(I)I"⟩
abbrev cX5_liveCells : ByteArray := prog_1_method_19_code
def yX5_liveCells : MethodName := ⟨RX5, "liveCells", "(I)I"⟩
abbrev cX5_isFreed : ByteArray := prog_1_method_20_code
def yX5_isFreed : MethodName := ⟨RX5, "isFreed", "(I)I"⟩
abbrev cX5_pointerCount : ByteArray := prog_1_method_21_code
def yX5_pointerCount : MethodName := ⟨RX5, "pointerCount", "()I"⟩
abbrev cX5_callDepth : ByteArray := prog_1_method_22_code
def yX5_callDepth : MethodName := ⟨RX5, "callDepth", "()I"⟩
abbrev cX5_violationCount : ByteArray := prog_1_method_23_code
def yX5_violationCount : MethodName := ⟨RX5, "violationCount", "()I"⟩
abbrev cX5_violationKind : ByteArray := prog_1_method_24_code
def yX5_violationKind : MethodName := ⟨RX5, "violationKind", "()I"⟩
abbrev cX5_violationCell : ByteArray := prog_1_method_25_code
def yX5_violationCell : MethodName := ⟨RX5, "violationCell", "()I"⟩
abbrev cX5_errorCount : ByteArray := prog_1_method_26_code
def yX5_errorCount : MethodName := ⟨RX5, "errorCount", "(I)I"⟩
abbrev cX5_append : ByteArray := prog_1_method_27_code
def yX5_append : MethodName := ⟨RX5, "append", "(I)I"⟩
abbrev cX5_clearText : ByteArray := prog_1_method_28_code
def yX5_clearText : MethodName := ⟨RX5, "clearText", "()I"⟩
abbrev cX5_runScript : ByteArray := prog_1_method_29_code
def yX5_runScript : MethodName := ⟨RX5, "runScript", "()I"⟩
abbrev cX5_digest : ByteArray := prog_1_method_30_code
def yX5_digest : MethodName := ⟨RX5, "digest", "()J"⟩
abbrev cX5_performAllocate : ByteArray := prog_1_method_31_code
def yX5_performAllocate : MethodName := ⟨RX5, "performAllocate", "(I)I"⟩
abbrev cX5_performRead : ByteArray := prog_1_method_32_code
def yX5_performRead : MethodName := ⟨RX5, "performRead", "(II)I"⟩
abbrev cX5_performWrite : ByteArray := prog_1_method_33_code
def yX5_performWrite : MethodName := ⟨RX5, "performWrite", "(III)I"⟩
abbrev cX5_performReborrow : ByteArray := prog_1_method_34_code
def yX5_performReborrow : MethodName := ⟨RX5, "performReborrow", "(IIIII)I"⟩
abbrev cX5_performFree : ByteArray := prog_1_method_35_code
def yX5_performFree : MethodName := ⟨RX5, "performFree", "(I)I"⟩
abbrev cX5_performEnter : ByteArray := prog_1_method_36_code
def yX5_performEnter : MethodName := ⟨RX5, "performEnter", "()I"⟩
abbrev cX5_performLeave : ByteArray := prog_1_method_37_code
def yX5_performLeave : MethodName := ⟨RX5, "performLeave", "()I"⟩
abbrev cX5_performCommand : ByteArray := prog_1_method_38_code
def yX5_performCommand : MethodName := ⟨RX5, "performCommand", "(I)I"⟩
abbrev cX5_counted : ByteArray := prog_1_method_39_code
def yX5_counted : MethodName := ⟨RX5, "counted", "(I)I"⟩
abbrev cX5_violated : ByteArray := prog_1_method_40_code
def yX5_violated : MethodName := ⟨RX5, "violated", "(II)I"⟩
abbrev cX5_addPointer : ByteArray := prog_1_method_41_code
def yX5_addPointer : MethodName := ⟨RX5, "addPointer", "(LBorrowStacks$Allocation;I)I"⟩
abbrev cX5_pointerAt : ByteArray := prog_1_method_42_code
def yX5_pointerAt : MethodName := ⟨RX5, "pointerAt", "(I)LBorrowStacks$Pointer;"⟩
abbrev cX5_allocationAt : ByteArray := prog_1_method_43_code
def yX5_allocationAt : MethodName := ⟨RX5, "allocationAt", "(I)LBorrowStacks$Allocation;"⟩
abbrev cX5_cellAt : ByteArray := prog_1_method_44_code
def yX5_cellAt : MethodName := ⟨RX5, "cellAt", "(II)LBorrowStacks$Cell;"⟩
abbrev cX5_cellThrough : ByteArray := prog_1_method_45_code
def yX5_cellThrough : MethodName := ⟨RX5, "cellThrough", "(LBorrowStacks$Pointer;I)LBorrowStacks$Cell;"⟩
abbrev cX5_isFailure : ByteArray := prog_1_method_46_code
def yX5_isFailure : MethodName := ⟨RX5, "isFailure", "(I)Z"⟩
abbrev cX5_asNumber : ByteArray := prog_1_method_47_code
def yX5_asNumber : MethodName := ⟨RX5, "asNumber", "(Z)I"⟩
abbrev cX5_mixed : ByteArray := prog_1_method_48_code
def yX5_mixed : MethodName := ⟨RX5, "mixed", "(JJ)J"⟩
def RX6 : String := "BorrowStacksModel"
def TX6 : u_T := fun k => match k with
  | 0 => ("BorrowStacksModel", "allocations", "I", false)
  | 1 => ("BorrowStacksModel", "cells", "[I", true)
  | 2 => ("BorrowStacksModel", "freed", "[Z", true)
  | 3 => ("BorrowStacksModel", "values", "[I", true)
  | 4 => ("BorrowStacksModel", "sizes", "[I", true)
  | 5 => ("BorrowStacksModel", "tags", "[I", true)
  | 6 => ("BorrowStacksModel", "permissions", "[I", true)
  | 7 => ("BorrowStacksModel", "guards", "[I", true)
  | 8 => ("BorrowStacksModel", "pointers", "I", false)
  | 9 => ("BorrowStacksModel", "owner", "[I", true)
  | 10 => ("BorrowStacksModel", "parents", "[I", true)
  | 11 => ("BorrowStacksModel", "depth", "I", false)
  | 12 => ("BorrowStacksModel", "violations", "I", false)
  | 13 => ("BorrowStacksModel", "lastKind", "I", false)
  | 14 => ("BorrowStacksModel", "lastCell", "I", false)
  | 15 => ("BorrowStacksModel", "errors", "[I", true)
  | 16 => ("BorrowStacksModel", "isScript", "Z", false)
  | 17 => ("BorrowStacksModel", "text", "[I", true)
  | 18 => ("BorrowStacksModel", "length", "I", false)
  | 19 => ("BorrowStacksModel", "letters", "[I", true)
  | 20 => ("BorrowStacksModel", "numbers", "[I", true)
  | 21 => ("BorrowStacksModel", "commands", "I", false)
  | 22 => ("BorrowStacksModel", "at", "I", false)
  | _ => ("BorrowStacksModel", "hash", "J", false)
def tyX6 : Nat → FieldType := fun k => match k with
  | 0 => .int
  | 1 => .array .int
  | 2 => .array .boolean
  | 3 => .array .int
  | 4 => .array .int
  | 5 => .array .int
  | 6 => .array .int
  | 7 => .array .int
  | 8 => .int
  | 9 => .array .int
  | 10 => .array .int
  | 11 => .int
  | 12 => .int
  | 13 => .int
  | 14 => .int
  | 15 => .array .int
  | 16 => .boolean
  | 17 => .array .int
  | 18 => .int
  | 19 => .array .int
  | 20 => .array .int
  | 21 => .int
  | 22 => .int
  | _ => .long
abbrev wsX60 : List Cond := u_ws RX6 TX6 24
theorem nmX6 : ∀ a, a < 24 → ∀ b, b < 24 → a ≠ b → (TX6 a).2.1 ≠ (TX6 b).2.1 := by decide +kernel
theorem tyX6_ok : ∀ k, k < 24 → parseFieldDescriptor (TX6 k).2.2.1 = some (tyX6 k) := by decide +kernel
abbrev cX6_init : ByteArray := prog_8_method_1_code
def yX6_init : MethodName := ⟨RX6, "<init>", "()V"⟩
abbrev cX6_in : ByteArray := prog_8_method_3_code
def yX6_in : MethodName := ⟨RX6, "in", "(III)Z"⟩
abbrev cX6_error : ByteArray := prog_8_method_4_code
def yX6_error : MethodName := ⟨RX6, "error", "(I)I"⟩
abbrev cX6_violate : ByteArray := prog_8_method_5_code
def yX6_violate : MethodName := ⟨RX6, "violate", "(II)I"⟩
abbrev cX6_isPointer : ByteArray := prog_8_method_6_code
def yX6_isPointer : MethodName := ⟨RX6, "isPointer", "(I)Z"⟩
abbrev cX6_isCell : ByteArray := prog_8_method_7_code
def yX6_isCell : MethodName := ⟨RX6, "isCell", "(II)Z"⟩
abbrev cX6_cellOf : ByteArray := prog_8_method_8_code
def yX6_cellOf : MethodName := ⟨RX6, "cellOf", "(II)I"⟩
abbrev cX6_granting : ByteArray := prog_8_method_9_code
def yX6_granting : MethodName := ⟨RX6, "granting", "(IIZ)I"⟩
abbrev cX6_above : ByteArray := prog_8_method_10_code
def yX6_above : MethodName := ⟨RX6, "above", "(II)I"⟩
abbrev cX6_isGuarded : ByteArray := prog_8_method_11_code
def yX6_isGuarded : MethodName := ⟨RX6, "isGuarded", "(IIZ)Z"⟩
abbrev cX6_readKind : ByteArray := prog_8_method_12_code
def yX6_readKind : MethodName := ⟨RX6, "readKind", "(II)I"⟩
abbrev cX6_writeKind : ByteArray := prog_8_method_13_code
def yX6_writeKind : MethodName := ⟨RX6, "writeKind", "(II)I"⟩
abbrev cX6_rawKind : ByteArray := prog_8_method_14_code
def yX6_rawKind : MethodName := ⟨RX6, "rawKind", "(II)I"⟩
abbrev cX6_freeKind : ByteArray := prog_8_method_15_code
def yX6_freeKind : MethodName := ⟨RX6, "freeKind", "(II)I"⟩
abbrev cX6_doRead : ByteArray := prog_8_method_16_code
def yX6_doRead : MethodName := ⟨RX6, "doRead", "(II)V"⟩
abbrev cX6_doWrite : ByteArray := prog_8_method_17_code
def yX6_doWrite : MethodName := ⟨RX6, "doWrite", "(II)V"⟩
abbrev cX6_insert : ByteArray := prog_8_method_18_code
def yX6_insert : MethodName := ⟨RX6, "insert", "(IIIII)V"⟩
abbrev cX6_newPointer : ByteArray := prog_8_method_19_code
def yX6_newPointer : MethodName := ⟨RX6, "newPointer", "(II)I"⟩
abbrev cX6_allocate : ByteArray := prog_8_method_20_code
def yX6_allocate : MethodName := ⟨RX6, "allocate", "(I)I"⟩
abbrev cX6_read : ByteArray := prog_8_method_21_code
def yX6_read : MethodName := ⟨RX6, "read", "(II)I"⟩
abbrev cX6_write : ByteArray := prog_8_method_22_code
def yX6_write : MethodName := ⟨RX6, "write", "(III)I"⟩
abbrev cX6_reborrowKind : ByteArray := prog_8_method_23_code
def yX6_reborrowKind : MethodName := ⟨RX6, "reborrowKind", "(III)I"⟩
abbrev cX6_sizeBy : ByteArray := prog_8_method_24_code
def yX6_sizeBy : MethodName := ⟨RX6, "sizeBy", "(III)I"⟩
abbrev cX6_put : ByteArray := prog_8_method_25_code
def yX6_put : MethodName := ⟨RX6, "put", "(IIII)V"⟩
abbrev cX6_reborrow : ByteArray := prog_8_method_26_code
def yX6_reborrow : MethodName := ⟨RX6, "reborrow", "(IIIII)I"⟩
abbrev cX6_free : ByteArray := prog_8_method_27_code
def yX6_free : MethodName := ⟨RX6, "free", "(I)I"⟩
abbrev cX6_enterCall : ByteArray := prog_8_method_28_code
def yX6_enterCall : MethodName := ⟨RX6, "enterCall", "()I"⟩
abbrev cX6_leaveCall : ByteArray := prog_8_method_29_code
def yX6_leaveCall : MethodName := ⟨RX6, "leaveCall", "()I"⟩
abbrev cX6_checkRead : ByteArray := prog_8_method_30_code
def yX6_checkRead : MethodName := ⟨RX6, "checkRead", "(II)I"⟩
abbrev cX6_checkWrite : ByteArray := prog_8_method_31_code
def yX6_checkWrite : MethodName := ⟨RX6, "checkWrite", "(II)I"⟩
abbrev cX6_checkFree : ByteArray := prog_8_method_32_code
def yX6_checkFree : MethodName := ⟨RX6, "checkFree", "(I)I"⟩
abbrev cX6_removedByWrite : ByteArray := prog_8_method_33_code
def yX6_removedByWrite : MethodName := ⟨RX6, "removedByWrite", "(II)I"⟩
abbrev cX6_isAllocation : ByteArray := prog_8_method_34_code
def yX6_isAllocation : MethodName := ⟨RX6, "isAllocation", "(I)Z"⟩
abbrev cX6_isCellOf : ByteArray := prog_8_method_35_code
def yX6_isCellOf : MethodName := ⟨RX6, "isCellOf", "(II)Z"⟩
abbrev cX6_placeOf : ByteArray := prog_8_method_36_code
def yX6_placeOf : MethodName := ⟨RX6, "placeOf", "(III)I"⟩
abbrev cX6_stackSize : ByteArray := prog_8_method_37_code
def yX6_stackSize : MethodName := ⟨RX6, "stackSize", "(II)I"⟩
abbrev cX6_itemTag : ByteArray := prog_8_method_38_code
def yX6_itemTag : MethodName := ⟨RX6, "itemTag", "(III)I"⟩
abbrev cX6_itemPermission : ByteArray := prog_8_method_39_code
def yX6_itemPermission : MethodName := ⟨RX6, "itemPermission", "(III)I"⟩
abbrev cX6_itemProtected : ByteArray := prog_8_method_40_code
def yX6_itemProtected : MethodName := ⟨RX6, "itemProtected", "(III)I"⟩
abbrev cX6_allocationOf : ByteArray := prog_8_method_41_code
def yX6_allocationOf : MethodName := ⟨RX6, "allocationOf", "(I)I"⟩
abbrev cX6_parent : ByteArray := prog_8_method_42_code
def yX6_parent : MethodName := ⟨RX6, "parent", "(I)I"⟩
abbrev cX6_liveOf : ByteArray := prog_8_method_43_code
def yX6_liveOf : MethodName := ⟨RX6, "liveOf", "(I)I"⟩
abbrev cX6_liveCells : ByteArray := prog_8_method_44_code
def yX6_liveCells : MethodName := ⟨RX6, "liveCells", "(I)I"⟩
abbrev cX6_isFreed : ByteArray := prog_8_method_45_code
def yX6_isFreed : MethodName := ⟨RX6, "isFreed", "(I)I"⟩
abbrev cX6_pointerCount : ByteArray := prog_8_method_46_code
def yX6_pointerCount : MethodName := ⟨RX6, "pointerCount", "()I"⟩
abbrev cX6_callDepth : ByteArray := prog_8_method_47_code
def yX6_callDepth : MethodName := ⟨RX6, "callDepth", "()I"⟩
abbrev cX6_violationCount : ByteArray := prog_8_method_48_code
def yX6_violationCount : MethodName := ⟨RX6, "violationCount", "()I"⟩
abbrev cX6_violationKind : ByteArray := prog_8_method_49_code
def yX6_violationKind : MethodName := ⟨RX6, "violationKind", "()I"⟩
abbrev cX6_violationCell : ByteArray := prog_8_method_50_code
def yX6_violationCell : MethodName := ⟨RX6, "violationCell", "()I"⟩
abbrev cX6_errorCount : ByteArray := prog_8_method_51_code
def yX6_errorCount : MethodName := ⟨RX6, "errorCount", "(I)I"⟩
abbrev cX6_append : ByteArray := prog_8_method_52_code
def yX6_append : MethodName := ⟨RX6, "append", "(I)I"⟩
abbrev cX6_clearText : ByteArray := prog_8_method_53_code
def yX6_clearText : MethodName := ⟨RX6, "clearText", "()I"⟩
abbrev cX6_isAt : ByteArray := prog_8_method_54_code
def yX6_isAt : MethodName := ⟨RX6, "isAt", "(II)Z"⟩
abbrev cX6_blanks : ByteArray := prog_8_method_55_code
def yX6_blanks : MethodName := ⟨RX6, "blanks", "()V"⟩
abbrev cX6_manyOf : ByteArray := prog_8_method_56_code
def yX6_manyOf : MethodName := ⟨RX6, "manyOf", "(I)I"⟩
abbrev cX6_takesNumber : ByteArray := prog_8_method_57_code
def yX6_takesNumber : MethodName := ⟨RX6, "takesNumber", "(I)Z"⟩
abbrev cX6_takesCommand : ByteArray := prog_8_method_58_code
def yX6_takesCommand : MethodName := ⟨RX6, "takesCommand", "()Z"⟩
abbrev cX6_isRead : ByteArray := prog_8_method_59_code
def yX6_isRead : MethodName := ⟨RX6, "isRead", "()Z"⟩
abbrev cX6_execute : ByteArray := prog_8_method_60_code
def yX6_execute : MethodName := ⟨RX6, "execute", "(I)I"⟩
abbrev cX6_executeAll : ByteArray := prog_8_method_61_code
def yX6_executeAll : MethodName := ⟨RX6, "executeAll", "()I"⟩
abbrev cX6_runScript : ByteArray := prog_8_method_62_code
def yX6_runScript : MethodName := ⟨RX6, "runScript", "()I"⟩
abbrev cX6_mix : ByteArray := prog_8_method_63_code
def yX6_mix : MethodName := ⟨RX6, "mix", "(J)V"⟩
abbrev cX6_mixCell : ByteArray := prog_8_method_64_code
def yX6_mixCell : MethodName := ⟨RX6, "mixCell", "(I)V"⟩
abbrev cX6_digest : ByteArray := prog_8_method_65_code
def yX6_digest : MethodName := ⟨RX6, "digest", "()J"⟩
def RL : String := "BorrowStacksLaw"
abbrev cL_law : ByteArray := code
def yL_law : MethodName := ⟨RL, "law", "([I)Z"⟩
abbrev vwCl : List vw_C := [(RX0, TX0, 3), (RX1, TX1, 3), (RX2, TX2, 5), (RX3, TX3, 2), (RX4, TX4, 6), (RX5, TX5, 10), (RX6, TX6, 24)]
end
section
theorem dX0_init_0 : decode cX0_init 0 = .ok (.aload_n 0, 1) := by decide +kernel
theorem dX0_init_1 : decode cX0_init 1 = .ok (.invokespecial 3, 3) := by decide +kernel
theorem dX0_init_4 : decode cX0_init 4 = .ok (.aload_n 0, 1) := by decide +kernel
theorem dX0_init_5 : decode cX0_init 5 = .ok (.iload_n 1, 1) := by decide +kernel
theorem dX0_init_6 : decode cX0_init 6 = .ok (.putfield 9, 3) := by decide +kernel
theorem dX0_init_9 : decode cX0_init 9 = .ok (.aload_n 0, 1) := by decide +kernel
theorem dX0_init_10 : decode cX0_init 10 = .ok (.iload_n 2, 1) := by decide +kernel
theorem dX0_init_11 : decode cX0_init 11 = .ok (.anewarray 15, 3) := by decide +kernel
theorem dX0_init_14 : decode cX0_init 14 = .ok (.putfield 17, 3) := by decide +kernel
theorem dX0_init_17 : decode cX0_init 17 = .ok (.iconst 0, 1) := by decide +kernel
theorem dX0_init_18 : decode cX0_init 18 = .ok (.istore 4, 2) := by decide +kernel
theorem dX0_init_20 : decode cX0_init 20 = .ok (.iload 4, 2) := by decide +kernel
theorem dX0_init_22 : decode cX0_init 22 = .ok (.iload_n 2, 1) := by decide +kernel
theorem dX0_init_23 : decode cX0_init 23 = .ok (.if_icmp .ge 24, 3) := by decide +kernel
theorem dX0_init_26 : decode cX0_init 26 = .ok (.aload_n 0, 1) := by decide +kernel
theorem dX0_init_27 : decode cX0_init 27 = .ok (.getfield 17, 3) := by decide +kernel
theorem dX0_init_30 : decode cX0_init 30 = .ok (.iload 4, 2) := by decide +kernel
theorem dX0_init_32 : decode cX0_init 32 = .ok (.new 15, 3) := by decide +kernel
theorem dX0_init_35 : decode cX0_init 35 = .ok (.dup, 1) := by decide +kernel
theorem dX0_init_36 : decode cX0_init 36 = .ok (.iload_n 3, 1) := by decide +kernel
theorem dX0_init_37 : decode cX0_init 37 = .ok (.invokespecial 21, 3) := by decide +kernel
theorem dX0_init_40 : decode cX0_init 40 = .ok (.aastore, 1) := by decide +kernel
theorem dX0_init_41 : decode cX0_init 41 = .ok (.iinc 4 1, 3) := by decide +kernel
theorem dX0_init_44 : decode cX0_init 44 = .ok (.goto (-24), 3) := by decide +kernel
theorem dX0_init_47 : decode cX0_init 47 = .ok (.return_, 1) := by decide +kernel
theorem dX0_hasRange_0 : decode cX0_hasRange 0 = .ok (.iload_n 1, 1) := by decide +kernel
theorem dX0_hasRange_1 : decode cX0_hasRange 1 = .ok (.ifCond .lt 32, 3) := by decide +kernel
theorem dX0_hasRange_4 : decode cX0_hasRange 4 = .ok (.iload_n 1, 1) := by decide +kernel
theorem dX0_hasRange_5 : decode cX0_hasRange 5 = .ok (.aload_n 0, 1) := by decide +kernel
theorem dX0_hasRange_6 : decode cX0_hasRange 6 = .ok (.getfield 17, 3) := by decide +kernel
theorem dX0_hasRange_9 : decode cX0_hasRange 9 = .ok (.arraylength, 1) := by decide +kernel
theorem dX0_hasRange_10 : decode cX0_hasRange 10 = .ok (.if_icmp .ge 23, 3) := by decide +kernel
theorem dX0_hasRange_13 : decode cX0_hasRange 13 = .ok (.iload_n 2, 1) := by decide +kernel
theorem dX0_hasRange_14 : decode cX0_hasRange 14 = .ok (.iconst 1, 1) := by decide +kernel
theorem dX0_hasRange_15 : decode cX0_hasRange 15 = .ok (.if_icmp .lt 18, 3) := by decide +kernel
theorem dX0_hasRange_18 : decode cX0_hasRange 18 = .ok (.iload_n 2, 1) := by decide +kernel
theorem dX0_hasRange_19 : decode cX0_hasRange 19 = .ok (.aload_n 0, 1) := by decide +kernel
theorem dX0_hasRange_20 : decode cX0_hasRange 20 = .ok (.getfield 17, 3) := by decide +kernel
theorem dX0_hasRange_23 : decode cX0_hasRange 23 = .ok (.arraylength, 1) := by decide +kernel
theorem dX0_hasRange_24 : decode cX0_hasRange 24 = .ok (.iload_n 1, 1) := by decide +kernel
theorem dX0_hasRange_25 : decode cX0_hasRange 25 = .ok (.isub, 1) := by decide +kernel
theorem dX0_hasRange_26 : decode cX0_hasRange 26 = .ok (.if_icmp .gt 7, 3) := by decide +kernel
theorem dX0_hasRange_29 : decode cX0_hasRange 29 = .ok (.iconst 1, 1) := by decide +kernel
theorem dX0_hasRange_30 : decode cX0_hasRange 30 = .ok (.goto 4, 3) := by decide +kernel
theorem dX0_hasRange_33 : decode cX0_hasRange 33 = .ok (.iconst 0, 1) := by decide +kernel
theorem dX0_hasRange_34 : decode cX0_hasRange 34 = .ok (.ireturn, 1) := by decide +kernel
theorem dX0_firstCellAgainstFree_0 : decode cX0_firstCellAgainstFree 0 = .ok (.iconst 0, 1) := by decide +kernel
theorem dX0_firstCellAgainstFree_1 : decode cX0_firstCellAgainstFree 1 = .ok (.istore_n 3, 1) := by decide +kernel
theorem dX0_firstCellAgainstFree_2 : decode cX0_firstCellAgainstFree 2 = .ok (.iload_n 3, 1) := by decide +kernel
theorem dX0_firstCellAgainstFree_3 : decode cX0_firstCellAgainstFree 3 = .ok (.aload_n 0, 1) := by decide +kernel
theorem dX0_firstCellAgainstFree_4 : decode cX0_firstCellAgainstFree 4 = .ok (.getfield 17, 3) := by decide +kernel
theorem dX0_firstCellAgainstFree_7 : decode cX0_firstCellAgainstFree 7 = .ok (.arraylength, 1) := by decide +kernel
theorem dX0_firstCellAgainstFree_8 : decode cX0_firstCellAgainstFree 8 = .ok (.if_icmp .ge 25, 3) := by decide +kernel
theorem dX0_firstCellAgainstFree_11 : decode cX0_firstCellAgainstFree 11 = .ok (.aload_n 0, 1) := by decide +kernel
theorem dX0_firstCellAgainstFree_12 : decode cX0_firstCellAgainstFree 12 = .ok (.getfield 17, 3) := by decide +kernel
theorem dX0_firstCellAgainstFree_15 : decode cX0_firstCellAgainstFree 15 = .ok (.iload_n 3, 1) := by decide +kernel
theorem dX0_firstCellAgainstFree_16 : decode cX0_firstCellAgainstFree 16 = .ok (.aaload, 1) := by decide +kernel
theorem dX0_firstCellAgainstFree_17 : decode cX0_firstCellAgainstFree 17 = .ok (.iload_n 1, 1) := by decide +kernel
theorem dX0_firstCellAgainstFree_18 : decode cX0_firstCellAgainstFree 18 = .ok (.aload_n 2, 1) := by decide +kernel
theorem dX0_firstCellAgainstFree_19 : decode cX0_firstCellAgainstFree 19 = .ok (.invokevirtual 24, 3) := by decide +kernel
theorem dX0_firstCellAgainstFree_22 : decode cX0_firstCellAgainstFree 22 = .ok (.ifCond .eq 5, 3) := by decide +kernel
theorem dX0_firstCellAgainstFree_25 : decode cX0_firstCellAgainstFree 25 = .ok (.iload_n 3, 1) := by decide +kernel
theorem dX0_firstCellAgainstFree_26 : decode cX0_firstCellAgainstFree 26 = .ok (.ireturn, 1) := by decide +kernel
theorem dX0_firstCellAgainstFree_27 : decode cX0_firstCellAgainstFree 27 = .ok (.iinc 3 1, 3) := by decide +kernel
theorem dX0_firstCellAgainstFree_30 : decode cX0_firstCellAgainstFree 30 = .ok (.goto (-28), 3) := by decide +kernel
theorem dX0_firstCellAgainstFree_33 : decode cX0_firstCellAgainstFree 33 = .ok (.iconst (-1), 1) := by decide +kernel
theorem dX0_firstCellAgainstFree_34 : decode cX0_firstCellAgainstFree 34 = .ok (.ireturn, 1) := by decide +kernel
theorem dX0_cellsAliveFor_0 : decode cX0_cellsAliveFor 0 = .ok (.aload_n 0, 1) := by decide +kernel
theorem dX0_cellsAliveFor_1 : decode cX0_cellsAliveFor 1 = .ok (.getfield 28, 3) := by decide +kernel
theorem dX0_cellsAliveFor_4 : decode cX0_cellsAliveFor 4 = .ok (.ifCond .eq 5, 3) := by decide +kernel
theorem dX0_cellsAliveFor_7 : decode cX0_cellsAliveFor 7 = .ok (.iconst 0, 1) := by decide +kernel
theorem dX0_cellsAliveFor_8 : decode cX0_cellsAliveFor 8 = .ok (.ireturn, 1) := by decide +kernel
theorem dX0_cellsAliveFor_9 : decode cX0_cellsAliveFor 9 = .ok (.iconst 0, 1) := by decide +kernel
theorem dX0_cellsAliveFor_10 : decode cX0_cellsAliveFor 10 = .ok (.istore_n 2, 1) := by decide +kernel
theorem dX0_cellsAliveFor_11 : decode cX0_cellsAliveFor 11 = .ok (.iconst 0, 1) := by decide +kernel
theorem dX0_cellsAliveFor_12 : decode cX0_cellsAliveFor 12 = .ok (.istore_n 3, 1) := by decide +kernel
theorem dX0_cellsAliveFor_13 : decode cX0_cellsAliveFor 13 = .ok (.iload_n 3, 1) := by decide +kernel
theorem dX0_cellsAliveFor_14 : decode cX0_cellsAliveFor 14 = .ok (.aload_n 0, 1) := by decide +kernel
theorem dX0_cellsAliveFor_15 : decode cX0_cellsAliveFor 15 = .ok (.getfield 17, 3) := by decide +kernel
theorem dX0_cellsAliveFor_18 : decode cX0_cellsAliveFor 18 = .ok (.arraylength, 1) := by decide +kernel
theorem dX0_cellsAliveFor_19 : decode cX0_cellsAliveFor 19 = .ok (.if_icmp .ge 26, 3) := by decide +kernel
theorem dX0_cellsAliveFor_22 : decode cX0_cellsAliveFor 22 = .ok (.aload_n 0, 1) := by decide +kernel
theorem dX0_cellsAliveFor_23 : decode cX0_cellsAliveFor 23 = .ok (.getfield 17, 3) := by decide +kernel
theorem dX0_cellsAliveFor_26 : decode cX0_cellsAliveFor 26 = .ok (.iload_n 3, 1) := by decide +kernel
theorem dX0_cellsAliveFor_27 : decode cX0_cellsAliveFor 27 = .ok (.aaload, 1) := by decide +kernel
theorem dX0_cellsAliveFor_28 : decode cX0_cellsAliveFor 28 = .ok (.iload_n 1, 1) := by decide +kernel
theorem dX0_cellsAliveFor_29 : decode cX0_cellsAliveFor 29 = .ok (.invokevirtual 32, 3) := by decide +kernel
theorem dX0_cellsAliveFor_32 : decode cX0_cellsAliveFor 32 = .ok (.iconst (-1), 1) := by decide +kernel
theorem dX0_cellsAliveFor_33 : decode cX0_cellsAliveFor 33 = .ok (.if_icmp .eq 6, 3) := by decide +kernel
theorem dX0_cellsAliveFor_36 : decode cX0_cellsAliveFor 36 = .ok (.iinc 2 1, 3) := by decide +kernel
theorem dX0_cellsAliveFor_39 : decode cX0_cellsAliveFor 39 = .ok (.iinc 3 1, 3) := by decide +kernel
theorem dX0_cellsAliveFor_42 : decode cX0_cellsAliveFor 42 = .ok (.goto (-29), 3) := by decide +kernel
theorem dX0_cellsAliveFor_45 : decode cX0_cellsAliveFor 45 = .ok (.iload_n 2, 1) := by decide +kernel
theorem dX0_cellsAliveFor_46 : decode cX0_cellsAliveFor 46 = .ok (.ireturn, 1) := by decide +kernel
theorem dX0_mixedInto_0 : decode cX0_mixedInto 0 = .ok (.lload_n 1, 1) := by decide +kernel
theorem dX0_mixedInto_1 : decode cX0_mixedInto 1 = .ok (.aload_n 0, 1) := by decide +kernel
theorem dX0_mixedInto_2 : decode cX0_mixedInto 2 = .ok (.getfield 17, 3) := by decide +kernel
theorem dX0_mixedInto_5 : decode cX0_mixedInto 5 = .ok (.arraylength, 1) := by decide +kernel
theorem dX0_mixedInto_6 : decode cX0_mixedInto 6 = .ok (.i2l, 1) := by decide +kernel
theorem dX0_mixedInto_7 : decode cX0_mixedInto 7 = .ok (.invokestatic 36, 3) := by decide +kernel
theorem dX0_mixedInto_10 : decode cX0_mixedInto 10 = .ok (.lstore 4, 2) := by decide +kernel
theorem dX0_mixedInto_12 : decode cX0_mixedInto 12 = .ok (.lload 4, 2) := by decide +kernel
theorem dX0_mixedInto_14 : decode cX0_mixedInto 14 = .ok (.aload_n 0, 1) := by decide +kernel
theorem dX0_mixedInto_15 : decode cX0_mixedInto 15 = .ok (.getfield 28, 3) := by decide +kernel
theorem dX0_mixedInto_18 : decode cX0_mixedInto 18 = .ok (.invokestatic 40, 3) := by decide +kernel
theorem dX0_mixedInto_21 : decode cX0_mixedInto 21 = .ok (.i2l, 1) := by decide +kernel
theorem dX0_mixedInto_22 : decode cX0_mixedInto 22 = .ok (.invokestatic 36, 3) := by decide +kernel
theorem dX0_mixedInto_25 : decode cX0_mixedInto 25 = .ok (.lstore 4, 2) := by decide +kernel
theorem dX0_mixedInto_27 : decode cX0_mixedInto 27 = .ok (.iconst 0, 1) := by decide +kernel
theorem dX0_mixedInto_28 : decode cX0_mixedInto 28 = .ok (.istore 6, 2) := by decide +kernel
theorem dX0_mixedInto_30 : decode cX0_mixedInto 30 = .ok (.iload 6, 2) := by decide +kernel
theorem dX0_mixedInto_32 : decode cX0_mixedInto 32 = .ok (.aload_n 0, 1) := by decide +kernel
theorem dX0_mixedInto_33 : decode cX0_mixedInto 33 = .ok (.getfield 17, 3) := by decide +kernel
theorem dX0_mixedInto_36 : decode cX0_mixedInto 36 = .ok (.arraylength, 1) := by decide +kernel
theorem dX0_mixedInto_37 : decode cX0_mixedInto 37 = .ok (.if_icmp .ge 24, 3) := by decide +kernel
theorem dX0_mixedInto_40 : decode cX0_mixedInto 40 = .ok (.aload_n 0, 1) := by decide +kernel
theorem dX0_mixedInto_41 : decode cX0_mixedInto 41 = .ok (.getfield 17, 3) := by decide +kernel
theorem dX0_mixedInto_44 : decode cX0_mixedInto 44 = .ok (.iload 6, 2) := by decide +kernel
theorem dX0_mixedInto_46 : decode cX0_mixedInto 46 = .ok (.aaload, 1) := by decide +kernel
theorem dX0_mixedInto_47 : decode cX0_mixedInto 47 = .ok (.lload 4, 2) := by decide +kernel
theorem dX0_mixedInto_49 : decode cX0_mixedInto 49 = .ok (.aload_n 3, 1) := by decide +kernel
theorem dX0_mixedInto_50 : decode cX0_mixedInto 50 = .ok (.invokevirtual 44, 3) := by decide +kernel
theorem dX0_mixedInto_53 : decode cX0_mixedInto 53 = .ok (.lstore 4, 2) := by decide +kernel
theorem dX0_mixedInto_55 : decode cX0_mixedInto 55 = .ok (.iinc 6 1, 3) := by decide +kernel
theorem dX0_mixedInto_58 : decode cX0_mixedInto 58 = .ok (.goto (-28), 3) := by decide +kernel
theorem dX0_mixedInto_61 : decode cX0_mixedInto 61 = .ok (.lload 4, 2) := by decide +kernel
theorem dX0_mixedInto_63 : decode cX0_mixedInto 63 = .ok (.lreturn, 1) := by decide +kernel
theorem dX1_init_0 : decode cX1_init 0 = .ok (.aload_n 0, 1) := by decide +kernel
theorem dX1_init_1 : decode cX1_init 1 = .ok (.invokespecial 3, 3) := by decide +kernel
theorem dX1_init_4 : decode cX1_init 4 = .ok (.aload_n 0, 1) := by decide +kernel
theorem dX1_init_5 : decode cX1_init 5 = .ok (.iconst 5, 1) := by decide +kernel
theorem dX1_init_6 : decode cX1_init 6 = .ok (.newarray .int, 2) := by decide +kernel
theorem dX1_init_8 : decode cX1_init 8 = .ok (.putfield 9, 3) := by decide +kernel
theorem dX1_init_11 : decode cX1_init 11 = .ok (.aload_n 0, 1) := by decide +kernel
theorem dX1_init_12 : decode cX1_init 12 = .ok (.iconst 0, 1) := by decide +kernel
theorem dX1_init_13 : decode cX1_init 13 = .ok (.putfield 15, 3) := by decide +kernel
theorem dX1_init_16 : decode cX1_init 16 = .ok (.return_, 1) := by decide +kernel
theorem dX1_enter_0 : decode cX1_enter 0 = .ok (.aload_n 0, 1) := by decide +kernel
theorem dX1_enter_1 : decode cX1_enter 1 = .ok (.getfield 19, 3) := by decide +kernel
theorem dX1_enter_4 : decode cX1_enter 4 = .ok (.iconst 5, 1) := by decide +kernel
theorem dX1_enter_5 : decode cX1_enter 5 = .ok (.if_icmp .lt 5, 3) := by decide +kernel
theorem dX1_enter_8 : decode cX1_enter 8 = .ok (.iconst 0, 1) := by decide +kernel
theorem dX1_enter_9 : decode cX1_enter 9 = .ok (.ireturn, 1) := by decide +kernel
theorem dX1_enter_10 : decode cX1_enter 10 = .ok (.aload_n 0, 1) := by decide +kernel
theorem dX1_enter_11 : decode cX1_enter 11 = .ok (.dup, 1) := by decide +kernel
theorem dX1_enter_12 : decode cX1_enter 12 = .ok (.getfield 15, 3) := by decide +kernel
theorem dX1_enter_15 : decode cX1_enter 15 = .ok (.iconst 1, 1) := by decide +kernel
theorem dX1_enter_16 : decode cX1_enter 16 = .ok (.iadd, 1) := by decide +kernel
theorem dX1_enter_17 : decode cX1_enter 17 = .ok (.putfield 15, 3) := by decide +kernel
theorem dX1_enter_20 : decode cX1_enter 20 = .ok (.aload_n 0, 1) := by decide +kernel
theorem dX1_enter_21 : decode cX1_enter 21 = .ok (.getfield 9, 3) := by decide +kernel
theorem dX1_enter_24 : decode cX1_enter 24 = .ok (.aload_n 0, 1) := by decide +kernel
theorem dX1_enter_25 : decode cX1_enter 25 = .ok (.getfield 19, 3) := by decide +kernel
theorem dX1_enter_28 : decode cX1_enter 28 = .ok (.aload_n 0, 1) := by decide +kernel
theorem dX1_enter_29 : decode cX1_enter 29 = .ok (.getfield 15, 3) := by decide +kernel
theorem dX1_enter_32 : decode cX1_enter 32 = .ok (.iastore, 1) := by decide +kernel
theorem dX1_enter_33 : decode cX1_enter 33 = .ok (.aload_n 0, 1) := by decide +kernel
theorem dX1_enter_34 : decode cX1_enter 34 = .ok (.dup, 1) := by decide +kernel
theorem dX1_enter_35 : decode cX1_enter 35 = .ok (.getfield 19, 3) := by decide +kernel
theorem dX1_enter_38 : decode cX1_enter 38 = .ok (.iconst 1, 1) := by decide +kernel
theorem dX1_enter_39 : decode cX1_enter 39 = .ok (.iadd, 1) := by decide +kernel
theorem dX1_enter_40 : decode cX1_enter 40 = .ok (.putfield 19, 3) := by decide +kernel
theorem dX1_enter_43 : decode cX1_enter 43 = .ok (.iconst 1, 1) := by decide +kernel
theorem dX1_enter_44 : decode cX1_enter 44 = .ok (.ireturn, 1) := by decide +kernel
theorem dX1_leave_0 : decode cX1_leave 0 = .ok (.aload_n 0, 1) := by decide +kernel
theorem dX1_leave_1 : decode cX1_leave 1 = .ok (.getfield 19, 3) := by decide +kernel
theorem dX1_leave_4 : decode cX1_leave 4 = .ok (.ifCond .ne 5, 3) := by decide +kernel
theorem dX1_leave_7 : decode cX1_leave 7 = .ok (.iconst 0, 1) := by decide +kernel
theorem dX1_leave_8 : decode cX1_leave 8 = .ok (.ireturn, 1) := by decide +kernel
theorem dX1_leave_9 : decode cX1_leave 9 = .ok (.aload_n 0, 1) := by decide +kernel
theorem dX1_leave_10 : decode cX1_leave 10 = .ok (.dup, 1) := by decide +kernel
theorem dX1_leave_11 : decode cX1_leave 11 = .ok (.getfield 19, 3) := by decide +kernel
theorem dX1_leave_14 : decode cX1_leave 14 = .ok (.iconst 1, 1) := by decide +kernel
theorem dX1_leave_15 : decode cX1_leave 15 = .ok (.isub, 1) := by decide +kernel
theorem dX1_leave_16 : decode cX1_leave 16 = .ok (.putfield 19, 3) := by decide +kernel
theorem dX1_leave_19 : decode cX1_leave 19 = .ok (.iconst 1, 1) := by decide +kernel
theorem dX1_leave_20 : decode cX1_leave 20 = .ok (.ireturn, 1) := by decide +kernel
theorem dX1_innermost_0 : decode cX1_innermost 0 = .ok (.aload_n 0, 1) := by decide +kernel
theorem dX1_innermost_1 : decode cX1_innermost 1 = .ok (.getfield 19, 3) := by decide +kernel
theorem dX1_innermost_4 : decode cX1_innermost 4 = .ok (.ifCond .le 17, 3) := by decide +kernel
theorem dX1_innermost_7 : decode cX1_innermost 7 = .ok (.aload_n 0, 1) := by decide +kernel
theorem dX1_innermost_8 : decode cX1_innermost 8 = .ok (.getfield 9, 3) := by decide +kernel
theorem dX1_innermost_11 : decode cX1_innermost 11 = .ok (.aload_n 0, 1) := by decide +kernel
theorem dX1_innermost_12 : decode cX1_innermost 12 = .ok (.getfield 19, 3) := by decide +kernel
theorem dX1_innermost_15 : decode cX1_innermost 15 = .ok (.iconst 1, 1) := by decide +kernel
theorem dX1_innermost_16 : decode cX1_innermost 16 = .ok (.isub, 1) := by decide +kernel
theorem dX1_innermost_17 : decode cX1_innermost 17 = .ok (.iaload, 1) := by decide +kernel
theorem dX1_innermost_18 : decode cX1_innermost 18 = .ok (.goto 4, 3) := by decide +kernel
theorem dX1_innermost_21 : decode cX1_innermost 21 = .ok (.iconst 0, 1) := by decide +kernel
theorem dX1_innermost_22 : decode cX1_innermost 22 = .ok (.ireturn, 1) := by decide +kernel
theorem dX1_isActive_0 : decode cX1_isActive 0 = .ok (.iconst 0, 1) := by decide +kernel
theorem dX1_isActive_1 : decode cX1_isActive 1 = .ok (.istore_n 2, 1) := by decide +kernel
theorem dX1_isActive_2 : decode cX1_isActive 2 = .ok (.iload_n 2, 1) := by decide +kernel
theorem dX1_isActive_3 : decode cX1_isActive 3 = .ok (.aload_n 0, 1) := by decide +kernel
theorem dX1_isActive_4 : decode cX1_isActive 4 = .ok (.getfield 19, 3) := by decide +kernel
theorem dX1_isActive_7 : decode cX1_isActive 7 = .ok (.if_icmp .ge 21, 3) := by decide +kernel
theorem dX1_isActive_10 : decode cX1_isActive 10 = .ok (.aload_n 0, 1) := by decide +kernel
theorem dX1_isActive_11 : decode cX1_isActive 11 = .ok (.getfield 9, 3) := by decide +kernel
theorem dX1_isActive_14 : decode cX1_isActive 14 = .ok (.iload_n 2, 1) := by decide +kernel
theorem dX1_isActive_15 : decode cX1_isActive 15 = .ok (.iaload, 1) := by decide +kernel
theorem dX1_isActive_16 : decode cX1_isActive 16 = .ok (.iload_n 1, 1) := by decide +kernel
theorem dX1_isActive_17 : decode cX1_isActive 17 = .ok (.if_icmp .ne 5, 3) := by decide +kernel
theorem dX1_isActive_20 : decode cX1_isActive 20 = .ok (.iconst 1, 1) := by decide +kernel
theorem dX1_isActive_21 : decode cX1_isActive 21 = .ok (.ireturn, 1) := by decide +kernel
theorem dX1_isActive_22 : decode cX1_isActive 22 = .ok (.iinc 2 1, 3) := by decide +kernel
theorem dX1_isActive_25 : decode cX1_isActive 25 = .ok (.goto (-23), 3) := by decide +kernel
theorem dX1_isActive_28 : decode cX1_isActive 28 = .ok (.iconst 0, 1) := by decide +kernel
theorem dX1_isActive_29 : decode cX1_isActive 29 = .ok (.ireturn, 1) := by decide +kernel
theorem dX2_init_0 : decode cX2_init 0 = .ok (.aload_n 0, 1) := by decide +kernel
theorem dX2_init_1 : decode cX2_init 1 = .ok (.invokespecial 3, 3) := by decide +kernel
theorem dX2_init_4 : decode cX2_init 4 = .ok (.aload_n 0, 1) := by decide +kernel
theorem dX2_init_5 : decode cX2_init 5 = .ok (.bipush 12, 2) := by decide +kernel
theorem dX2_init_7 : decode cX2_init 7 = .ok (.newarray .int, 2) := by decide +kernel
theorem dX2_init_9 : decode cX2_init 9 = .ok (.putfield 9, 3) := by decide +kernel
theorem dX2_init_12 : decode cX2_init 12 = .ok (.aload_n 0, 1) := by decide +kernel
theorem dX2_init_13 : decode cX2_init 13 = .ok (.bipush 12, 2) := by decide +kernel
theorem dX2_init_15 : decode cX2_init 15 = .ok (.newarray .int, 2) := by decide +kernel
theorem dX2_init_17 : decode cX2_init 17 = .ok (.putfield 15, 3) := by decide +kernel
theorem dX2_init_20 : decode cX2_init 20 = .ok (.aload_n 0, 1) := by decide +kernel
theorem dX2_init_21 : decode cX2_init 21 = .ok (.bipush 12, 2) := by decide +kernel
theorem dX2_init_23 : decode cX2_init 23 = .ok (.newarray .int, 2) := by decide +kernel
theorem dX2_init_25 : decode cX2_init 25 = .ok (.putfield 18, 3) := by decide +kernel
theorem dX2_init_28 : decode cX2_init 28 = .ok (.aload_n 0, 1) := by decide +kernel
theorem dX2_init_29 : decode cX2_init 29 = .ok (.getfield 9, 3) := by decide +kernel
theorem dX2_init_32 : decode cX2_init 32 = .ok (.iconst 0, 1) := by decide +kernel
theorem dX2_init_33 : decode cX2_init 33 = .ok (.iload_n 1, 1) := by decide +kernel
theorem dX2_init_34 : decode cX2_init 34 = .ok (.iastore, 1) := by decide +kernel
theorem dX2_init_35 : decode cX2_init 35 = .ok (.aload_n 0, 1) := by decide +kernel
theorem dX2_init_36 : decode cX2_init 36 = .ok (.getfield 15, 3) := by decide +kernel
theorem dX2_init_39 : decode cX2_init 39 = .ok (.iconst 0, 1) := by decide +kernel
theorem dX2_init_40 : decode cX2_init 40 = .ok (.iconst 0, 1) := by decide +kernel
theorem dX2_init_41 : decode cX2_init 41 = .ok (.iastore, 1) := by decide +kernel
theorem dX2_init_42 : decode cX2_init 42 = .ok (.aload_n 0, 1) := by decide +kernel
theorem dX2_init_43 : decode cX2_init 43 = .ok (.getfield 18, 3) := by decide +kernel
theorem dX2_init_46 : decode cX2_init 46 = .ok (.iconst 0, 1) := by decide +kernel
theorem dX2_init_47 : decode cX2_init 47 = .ok (.iconst 0, 1) := by decide +kernel
theorem dX2_init_48 : decode cX2_init 48 = .ok (.iastore, 1) := by decide +kernel
theorem dX2_init_49 : decode cX2_init 49 = .ok (.aload_n 0, 1) := by decide +kernel
theorem dX2_init_50 : decode cX2_init 50 = .ok (.iconst 1, 1) := by decide +kernel
theorem dX2_init_51 : decode cX2_init 51 = .ok (.putfield 21, 3) := by decide +kernel
theorem dX2_init_54 : decode cX2_init 54 = .ok (.return_, 1) := by decide +kernel
theorem dX2_hasItem_0 : decode cX2_hasItem 0 = .ok (.iload_n 1, 1) := by decide +kernel
theorem dX2_hasItem_1 : decode cX2_hasItem 1 = .ok (.ifCond .lt 15, 3) := by decide +kernel
theorem dX2_hasItem_4 : decode cX2_hasItem 4 = .ok (.iload_n 1, 1) := by decide +kernel
theorem dX2_hasItem_5 : decode cX2_hasItem 5 = .ok (.aload_n 0, 1) := by decide +kernel
theorem dX2_hasItem_6 : decode cX2_hasItem 6 = .ok (.getfield 21, 3) := by decide +kernel
theorem dX2_hasItem_9 : decode cX2_hasItem 9 = .ok (.if_icmp .ge 7, 3) := by decide +kernel
theorem dX2_hasItem_12 : decode cX2_hasItem 12 = .ok (.iconst 1, 1) := by decide +kernel
theorem dX2_hasItem_13 : decode cX2_hasItem 13 = .ok (.goto 4, 3) := by decide +kernel
theorem dX2_hasItem_16 : decode cX2_hasItem 16 = .ok (.iconst 0, 1) := by decide +kernel
theorem dX2_hasItem_17 : decode cX2_hasItem 17 = .ok (.ireturn, 1) := by decide +kernel
theorem dX2_grantOfRead_0 : decode cX2_grantOfRead 0 = .ok (.aload_n 0, 1) := by decide +kernel
theorem dX2_grantOfRead_1 : decode cX2_grantOfRead 1 = .ok (.getfield 21, 3) := by decide +kernel
theorem dX2_grantOfRead_4 : decode cX2_grantOfRead 4 = .ok (.iconst 1, 1) := by decide +kernel
theorem dX2_grantOfRead_5 : decode cX2_grantOfRead 5 = .ok (.isub, 1) := by decide +kernel
theorem dX2_grantOfRead_6 : decode cX2_grantOfRead 6 = .ok (.istore_n 2, 1) := by decide +kernel
theorem dX2_grantOfRead_7 : decode cX2_grantOfRead 7 = .ok (.iload_n 2, 1) := by decide +kernel
theorem dX2_grantOfRead_8 : decode cX2_grantOfRead 8 = .ok (.ifCond .lt 31, 3) := by decide +kernel
theorem dX2_grantOfRead_11 : decode cX2_grantOfRead 11 = .ok (.aload_n 0, 1) := by decide +kernel
theorem dX2_grantOfRead_12 : decode cX2_grantOfRead 12 = .ok (.getfield 9, 3) := by decide +kernel
theorem dX2_grantOfRead_15 : decode cX2_grantOfRead 15 = .ok (.iload_n 2, 1) := by decide +kernel
theorem dX2_grantOfRead_16 : decode cX2_grantOfRead 16 = .ok (.iaload, 1) := by decide +kernel
theorem dX2_grantOfRead_17 : decode cX2_grantOfRead 17 = .ok (.iload_n 1, 1) := by decide +kernel
theorem dX2_grantOfRead_18 : decode cX2_grantOfRead 18 = .ok (.if_icmp .ne 15, 3) := by decide +kernel
theorem dX2_grantOfRead_21 : decode cX2_grantOfRead 21 = .ok (.aload_n 0, 1) := by decide +kernel
theorem dX2_grantOfRead_22 : decode cX2_grantOfRead 22 = .ok (.getfield 15, 3) := by decide +kernel
theorem dX2_grantOfRead_25 : decode cX2_grantOfRead 25 = .ok (.iload_n 2, 1) := by decide +kernel
theorem dX2_grantOfRead_26 : decode cX2_grantOfRead 26 = .ok (.iaload, 1) := by decide +kernel
theorem dX2_grantOfRead_27 : decode cX2_grantOfRead 27 = .ok (.iconst 3, 1) := by decide +kernel
theorem dX2_grantOfRead_28 : decode cX2_grantOfRead 28 = .ok (.if_icmp .eq 5, 3) := by decide +kernel
theorem dX2_grantOfRead_31 : decode cX2_grantOfRead 31 = .ok (.iload_n 2, 1) := by decide +kernel
theorem dX2_grantOfRead_32 : decode cX2_grantOfRead 32 = .ok (.ireturn, 1) := by decide +kernel
theorem dX2_grantOfRead_33 : decode cX2_grantOfRead 33 = .ok (.iinc 2 (-1), 3) := by decide +kernel
theorem dX2_grantOfRead_36 : decode cX2_grantOfRead 36 = .ok (.goto (-29), 3) := by decide +kernel
theorem dX2_grantOfRead_39 : decode cX2_grantOfRead 39 = .ok (.iconst (-1), 1) := by decide +kernel
theorem dX2_grantOfRead_40 : decode cX2_grantOfRead 40 = .ok (.ireturn, 1) := by decide +kernel
theorem dX2_grantOfWrite_0 : decode cX2_grantOfWrite 0 = .ok (.aload_n 0, 1) := by decide +kernel
theorem dX2_grantOfWrite_1 : decode cX2_grantOfWrite 1 = .ok (.getfield 21, 3) := by decide +kernel
theorem dX2_grantOfWrite_4 : decode cX2_grantOfWrite 4 = .ok (.iconst 1, 1) := by decide +kernel
theorem dX2_grantOfWrite_5 : decode cX2_grantOfWrite 5 = .ok (.isub, 1) := by decide +kernel
theorem dX2_grantOfWrite_6 : decode cX2_grantOfWrite 6 = .ok (.istore_n 2, 1) := by decide +kernel
theorem dX2_grantOfWrite_7 : decode cX2_grantOfWrite 7 = .ok (.iload_n 2, 1) := by decide +kernel
theorem dX2_grantOfWrite_8 : decode cX2_grantOfWrite 8 = .ok (.ifCond .lt 40, 3) := by decide +kernel
theorem dX2_grantOfWrite_11 : decode cX2_grantOfWrite 11 = .ok (.aload_n 0, 1) := by decide +kernel
theorem dX2_grantOfWrite_12 : decode cX2_grantOfWrite 12 = .ok (.getfield 9, 3) := by decide +kernel
theorem dX2_grantOfWrite_15 : decode cX2_grantOfWrite 15 = .ok (.iload_n 2, 1) := by decide +kernel
theorem dX2_grantOfWrite_16 : decode cX2_grantOfWrite 16 = .ok (.iaload, 1) := by decide +kernel
theorem dX2_grantOfWrite_17 : decode cX2_grantOfWrite 17 = .ok (.iload_n 1, 1) := by decide +kernel
theorem dX2_grantOfWrite_18 : decode cX2_grantOfWrite 18 = .ok (.if_icmp .ne 24, 3) := by decide +kernel
theorem dX2_grantOfWrite_21 : decode cX2_grantOfWrite 21 = .ok (.aload_n 0, 1) := by decide +kernel
theorem dX2_grantOfWrite_22 : decode cX2_grantOfWrite 22 = .ok (.getfield 15, 3) := by decide +kernel
theorem dX2_grantOfWrite_25 : decode cX2_grantOfWrite 25 = .ok (.iload_n 2, 1) := by decide +kernel
theorem dX2_grantOfWrite_26 : decode cX2_grantOfWrite 26 = .ok (.iaload, 1) := by decide +kernel
theorem dX2_grantOfWrite_27 : decode cX2_grantOfWrite 27 = .ok (.ifCond .eq 13, 3) := by decide +kernel
theorem dX2_grantOfWrite_30 : decode cX2_grantOfWrite 30 = .ok (.aload_n 0, 1) := by decide +kernel
theorem dX2_grantOfWrite_31 : decode cX2_grantOfWrite 31 = .ok (.getfield 15, 3) := by decide +kernel
theorem dX2_grantOfWrite_34 : decode cX2_grantOfWrite 34 = .ok (.iload_n 2, 1) := by decide +kernel
theorem dX2_grantOfWrite_35 : decode cX2_grantOfWrite 35 = .ok (.iaload, 1) := by decide +kernel
theorem dX2_grantOfWrite_36 : decode cX2_grantOfWrite 36 = .ok (.iconst 1, 1) := by decide +kernel
theorem dX2_grantOfWrite_37 : decode cX2_grantOfWrite 37 = .ok (.if_icmp .ne 5, 3) := by decide +kernel
theorem dX2_grantOfWrite_40 : decode cX2_grantOfWrite 40 = .ok (.iload_n 2, 1) := by decide +kernel
theorem dX2_grantOfWrite_41 : decode cX2_grantOfWrite 41 = .ok (.ireturn, 1) := by decide +kernel
theorem dX2_grantOfWrite_42 : decode cX2_grantOfWrite 42 = .ok (.iinc 2 (-1), 3) := by decide +kernel
theorem dX2_grantOfWrite_45 : decode cX2_grantOfWrite 45 = .ok (.goto (-38), 3) := by decide +kernel
theorem dX2_grantOfWrite_48 : decode cX2_grantOfWrite 48 = .ok (.iconst (-1), 1) := by decide +kernel
theorem dX2_grantOfWrite_49 : decode cX2_grantOfWrite 49 = .ok (.ireturn, 1) := by decide +kernel
theorem dX2_keptByWrite_0 : decode cX2_keptByWrite 0 = .ok (.aload_n 0, 1) := by decide +kernel
theorem dX2_keptByWrite_1 : decode cX2_keptByWrite 1 = .ok (.iload_n 1, 1) := by decide +kernel
theorem dX2_keptByWrite_2 : decode cX2_keptByWrite 2 = .ok (.invokevirtual 25, 3) := by decide +kernel
theorem dX2_keptByWrite_5 : decode cX2_keptByWrite 5 = .ok (.istore_n 2, 1) := by decide +kernel
theorem dX2_keptByWrite_6 : decode cX2_keptByWrite 6 = .ok (.iload_n 2, 1) := by decide +kernel
theorem dX2_keptByWrite_7 : decode cX2_keptByWrite 7 = .ok (.iconst (-1), 1) := by decide +kernel
theorem dX2_keptByWrite_8 : decode cX2_keptByWrite 8 = .ok (.if_icmp .ne 8, 3) := by decide +kernel
theorem dX2_keptByWrite_11 : decode cX2_keptByWrite 11 = .ok (.aload_n 0, 1) := by decide +kernel
theorem dX2_keptByWrite_12 : decode cX2_keptByWrite 12 = .ok (.getfield 21, 3) := by decide +kernel
theorem dX2_keptByWrite_15 : decode cX2_keptByWrite 15 = .ok (.ireturn, 1) := by decide +kernel
theorem dX2_keptByWrite_16 : decode cX2_keptByWrite 16 = .ok (.iload_n 2, 1) := by decide +kernel
theorem dX2_keptByWrite_17 : decode cX2_keptByWrite 17 = .ok (.iconst 1, 1) := by decide +kernel
theorem dX2_keptByWrite_18 : decode cX2_keptByWrite 18 = .ok (.iadd, 1) := by decide +kernel
theorem dX2_keptByWrite_19 : decode cX2_keptByWrite 19 = .ok (.istore_n 3, 1) := by decide +kernel
theorem dX2_keptByWrite_20 : decode cX2_keptByWrite 20 = .ok (.aload_n 0, 1) := by decide +kernel
theorem dX2_keptByWrite_21 : decode cX2_keptByWrite 21 = .ok (.getfield 15, 3) := by decide +kernel
theorem dX2_keptByWrite_24 : decode cX2_keptByWrite 24 = .ok (.iload_n 2, 1) := by decide +kernel
theorem dX2_keptByWrite_25 : decode cX2_keptByWrite 25 = .ok (.iaload, 1) := by decide +kernel
theorem dX2_keptByWrite_26 : decode cX2_keptByWrite 26 = .ok (.iconst 1, 1) := by decide +kernel
theorem dX2_keptByWrite_27 : decode cX2_keptByWrite 27 = .ok (.if_icmp .ne 27, 3) := by decide +kernel
theorem dX2_keptByWrite_30 : decode cX2_keptByWrite 30 = .ok (.iload_n 3, 1) := by decide +kernel
theorem dX2_keptByWrite_31 : decode cX2_keptByWrite 31 = .ok (.aload_n 0, 1) := by decide +kernel
theorem dX2_keptByWrite_32 : decode cX2_keptByWrite 32 = .ok (.getfield 21, 3) := by decide +kernel
theorem dX2_keptByWrite_35 : decode cX2_keptByWrite 35 = .ok (.if_icmp .ge 19, 3) := by decide +kernel
theorem dX2_keptByWrite_38 : decode cX2_keptByWrite 38 = .ok (.aload_n 0, 1) := by decide +kernel
theorem dX2_keptByWrite_39 : decode cX2_keptByWrite 39 = .ok (.getfield 15, 3) := by decide +kernel
theorem dX2_keptByWrite_42 : decode cX2_keptByWrite 42 = .ok (.iload_n 3, 1) := by decide +kernel
theorem dX2_keptByWrite_43 : decode cX2_keptByWrite 43 = .ok (.iaload, 1) := by decide +kernel
theorem dX2_keptByWrite_44 : decode cX2_keptByWrite 44 = .ok (.iconst 1, 1) := by decide +kernel
theorem dX2_keptByWrite_45 : decode cX2_keptByWrite 45 = .ok (.if_icmp .ne 9, 3) := by decide +kernel
theorem dX2_keptByWrite_48 : decode cX2_keptByWrite 48 = .ok (.iinc 3 1, 3) := by decide +kernel
theorem dX2_keptByWrite_51 : decode cX2_keptByWrite 51 = .ok (.goto (-21), 3) := by decide +kernel
theorem dX2_keptByWrite_54 : decode cX2_keptByWrite 54 = .ok (.iload_n 3, 1) := by decide +kernel
theorem dX2_keptByWrite_55 : decode cX2_keptByWrite 55 = .ok (.ireturn, 1) := by decide +kernel
theorem dX2_readViolation_0 : decode cX2_readViolation 0 = .ok (.aload_n 0, 1) := by decide +kernel
theorem dX2_readViolation_1 : decode cX2_readViolation 1 = .ok (.iload_n 1, 1) := by decide +kernel
theorem dX2_readViolation_2 : decode cX2_readViolation 2 = .ok (.invokevirtual 29, 3) := by decide +kernel
theorem dX2_readViolation_5 : decode cX2_readViolation 5 = .ok (.istore_n 3, 1) := by decide +kernel
theorem dX2_readViolation_6 : decode cX2_readViolation 6 = .ok (.iload_n 3, 1) := by decide +kernel
theorem dX2_readViolation_7 : decode cX2_readViolation 7 = .ok (.iconst (-1), 1) := by decide +kernel
theorem dX2_readViolation_8 : decode cX2_readViolation 8 = .ok (.if_icmp .ne 5, 3) := by decide +kernel
theorem dX2_readViolation_11 : decode cX2_readViolation 11 = .ok (.iconst 1, 1) := by decide +kernel
theorem dX2_readViolation_12 : decode cX2_readViolation 12 = .ok (.ireturn, 1) := by decide +kernel
theorem dX2_readViolation_13 : decode cX2_readViolation 13 = .ok (.iload_n 3, 1) := by decide +kernel
theorem dX2_readViolation_14 : decode cX2_readViolation 14 = .ok (.iconst 1, 1) := by decide +kernel
theorem dX2_readViolation_15 : decode cX2_readViolation 15 = .ok (.iadd, 1) := by decide +kernel
theorem dX2_readViolation_16 : decode cX2_readViolation 16 = .ok (.istore 4, 2) := by decide +kernel
theorem dX2_readViolation_18 : decode cX2_readViolation 18 = .ok (.iload 4, 2) := by decide +kernel
theorem dX2_readViolation_20 : decode cX2_readViolation 20 = .ok (.aload_n 0, 1) := by decide +kernel
theorem dX2_readViolation_21 : decode cX2_readViolation 21 = .ok (.getfield 21, 3) := by decide +kernel
theorem dX2_readViolation_24 : decode cX2_readViolation 24 = .ok (.if_icmp .ge 35, 3) := by decide +kernel
theorem dX2_readViolation_27 : decode cX2_readViolation 27 = .ok (.aload_n 0, 1) := by decide +kernel
theorem dX2_readViolation_28 : decode cX2_readViolation 28 = .ok (.getfield 15, 3) := by decide +kernel
theorem dX2_readViolation_31 : decode cX2_readViolation 31 = .ok (.iload 4, 2) := by decide +kernel
theorem dX2_readViolation_33 : decode cX2_readViolation 33 = .ok (.iaload, 1) := by decide +kernel
theorem dX2_readViolation_34 : decode cX2_readViolation 34 = .ok (.ifCond .ne 19, 3) := by decide +kernel
theorem dX2_readViolation_37 : decode cX2_readViolation 37 = .ok (.aload_n 2, 1) := by decide +kernel
theorem dX2_readViolation_38 : decode cX2_readViolation 38 = .ok (.aload_n 0, 1) := by decide +kernel
theorem dX2_readViolation_39 : decode cX2_readViolation 39 = .ok (.getfield 18, 3) := by decide +kernel
theorem dX2_readViolation_42 : decode cX2_readViolation 42 = .ok (.iload 4, 2) := by decide +kernel
theorem dX2_readViolation_44 : decode cX2_readViolation 44 = .ok (.iaload, 1) := by decide +kernel
theorem dX2_readViolation_45 : decode cX2_readViolation 45 = .ok (.invokevirtual 32, 3) := by decide +kernel
theorem dX2_readViolation_48 : decode cX2_readViolation 48 = .ok (.ifCond .eq 5, 3) := by decide +kernel
theorem dX2_readViolation_51 : decode cX2_readViolation 51 = .ok (.iconst 2, 1) := by decide +kernel
theorem dX2_readViolation_52 : decode cX2_readViolation 52 = .ok (.ireturn, 1) := by decide +kernel
theorem dX2_readViolation_53 : decode cX2_readViolation 53 = .ok (.iinc 4 1, 3) := by decide +kernel
theorem dX2_readViolation_56 : decode cX2_readViolation 56 = .ok (.goto (-38), 3) := by decide +kernel
theorem dX2_readViolation_59 : decode cX2_readViolation 59 = .ok (.iconst 0, 1) := by decide +kernel
theorem dX2_readViolation_60 : decode cX2_readViolation 60 = .ok (.ireturn, 1) := by decide +kernel
theorem dX2_writeViolation_0 : decode cX2_writeViolation 0 = .ok (.aload_n 0, 1) := by decide +kernel
theorem dX2_writeViolation_1 : decode cX2_writeViolation 1 = .ok (.iload_n 1, 1) := by decide +kernel
theorem dX2_writeViolation_2 : decode cX2_writeViolation 2 = .ok (.invokevirtual 25, 3) := by decide +kernel
theorem dX2_writeViolation_5 : decode cX2_writeViolation 5 = .ok (.iconst (-1), 1) := by decide +kernel
theorem dX2_writeViolation_6 : decode cX2_writeViolation 6 = .ok (.if_icmp .ne 5, 3) := by decide +kernel
theorem dX2_writeViolation_9 : decode cX2_writeViolation 9 = .ok (.iconst 1, 1) := by decide +kernel
theorem dX2_writeViolation_10 : decode cX2_writeViolation 10 = .ok (.ireturn, 1) := by decide +kernel
theorem dX2_writeViolation_11 : decode cX2_writeViolation 11 = .ok (.aload_n 0, 1) := by decide +kernel
theorem dX2_writeViolation_12 : decode cX2_writeViolation 12 = .ok (.aload_n 0, 1) := by decide +kernel
theorem dX2_writeViolation_13 : decode cX2_writeViolation 13 = .ok (.iload_n 1, 1) := by decide +kernel
theorem dX2_writeViolation_14 : decode cX2_writeViolation 14 = .ok (.invokevirtual 38, 3) := by decide +kernel
theorem dX2_writeViolation_17 : decode cX2_writeViolation 17 = .ok (.aload_n 2, 1) := by decide +kernel
theorem dX2_writeViolation_18 : decode cX2_writeViolation 18 = .ok (.invokevirtual 41, 3) := by decide +kernel
theorem dX2_writeViolation_21 : decode cX2_writeViolation 21 = .ok (.ifCond .eq 7, 3) := by decide +kernel
theorem dX2_writeViolation_24 : decode cX2_writeViolation 24 = .ok (.iconst 2, 1) := by decide +kernel
theorem dX2_writeViolation_25 : decode cX2_writeViolation 25 = .ok (.goto 4, 3) := by decide +kernel
theorem dX2_writeViolation_28 : decode cX2_writeViolation 28 = .ok (.iconst 0, 1) := by decide +kernel
theorem dX2_writeViolation_29 : decode cX2_writeViolation 29 = .ok (.ireturn, 1) := by decide +kernel
theorem dX2_freeViolation_0 : decode cX2_freeViolation 0 = .ok (.aload_n 0, 1) := by decide +kernel
theorem dX2_freeViolation_1 : decode cX2_freeViolation 1 = .ok (.iload_n 1, 1) := by decide +kernel
theorem dX2_freeViolation_2 : decode cX2_freeViolation 2 = .ok (.invokevirtual 25, 3) := by decide +kernel
theorem dX2_freeViolation_5 : decode cX2_freeViolation 5 = .ok (.iconst (-1), 1) := by decide +kernel
theorem dX2_freeViolation_6 : decode cX2_freeViolation 6 = .ok (.if_icmp .ne 5, 3) := by decide +kernel
theorem dX2_freeViolation_9 : decode cX2_freeViolation 9 = .ok (.iconst 1, 1) := by decide +kernel
theorem dX2_freeViolation_10 : decode cX2_freeViolation 10 = .ok (.ireturn, 1) := by decide +kernel
theorem dX2_freeViolation_11 : decode cX2_freeViolation 11 = .ok (.aload_n 0, 1) := by decide +kernel
theorem dX2_freeViolation_12 : decode cX2_freeViolation 12 = .ok (.iconst 0, 1) := by decide +kernel
theorem dX2_freeViolation_13 : decode cX2_freeViolation 13 = .ok (.aload_n 2, 1) := by decide +kernel
theorem dX2_freeViolation_14 : decode cX2_freeViolation 14 = .ok (.invokevirtual 41, 3) := by decide +kernel
theorem dX2_freeViolation_17 : decode cX2_freeViolation 17 = .ok (.ifCond .eq 7, 3) := by decide +kernel
theorem dX2_freeViolation_20 : decode cX2_freeViolation 20 = .ok (.iconst 2, 1) := by decide +kernel
theorem dX2_freeViolation_21 : decode cX2_freeViolation 21 = .ok (.goto 4, 3) := by decide +kernel
theorem dX2_freeViolation_24 : decode cX2_freeViolation 24 = .ok (.iconst 0, 1) := by decide +kernel
theorem dX2_freeViolation_25 : decode cX2_freeViolation 25 = .ok (.ireturn, 1) := by decide +kernel
theorem dX2_reborrowViolation_0 : decode cX2_reborrowViolation 0 = .ok (.iload_n 1, 1) := by decide +kernel
theorem dX2_reborrowViolation_1 : decode cX2_reborrowViolation 1 = .ok (.ifCond .ne 10, 3) := by decide +kernel
theorem dX2_reborrowViolation_4 : decode cX2_reborrowViolation 4 = .ok (.aload_n 0, 1) := by decide +kernel
theorem dX2_reborrowViolation_5 : decode cX2_reborrowViolation 5 = .ok (.iload_n 2, 1) := by decide +kernel
theorem dX2_reborrowViolation_6 : decode cX2_reborrowViolation 6 = .ok (.aload_n 3, 1) := by decide +kernel
theorem dX2_reborrowViolation_7 : decode cX2_reborrowViolation 7 = .ok (.invokevirtual 45, 3) := by decide +kernel
theorem dX2_reborrowViolation_10 : decode cX2_reborrowViolation 10 = .ok (.ireturn, 1) := by decide +kernel
theorem dX2_reborrowViolation_11 : decode cX2_reborrowViolation 11 = .ok (.iload_n 1, 1) := by decide +kernel
theorem dX2_reborrowViolation_12 : decode cX2_reborrowViolation 12 = .ok (.iconst 1, 1) := by decide +kernel
theorem dX2_reborrowViolation_13 : decode cX2_reborrowViolation 13 = .ok (.if_icmp .ne 10, 3) := by decide +kernel
theorem dX2_reborrowViolation_16 : decode cX2_reborrowViolation 16 = .ok (.aload_n 0, 1) := by decide +kernel
theorem dX2_reborrowViolation_17 : decode cX2_reborrowViolation 17 = .ok (.iload_n 2, 1) := by decide +kernel
theorem dX2_reborrowViolation_18 : decode cX2_reborrowViolation 18 = .ok (.aload_n 3, 1) := by decide +kernel
theorem dX2_reborrowViolation_19 : decode cX2_reborrowViolation 19 = .ok (.invokevirtual 49, 3) := by decide +kernel
theorem dX2_reborrowViolation_22 : decode cX2_reborrowViolation 22 = .ok (.ireturn, 1) := by decide +kernel
theorem dX2_reborrowViolation_23 : decode cX2_reborrowViolation 23 = .ok (.aload_n 0, 1) := by decide +kernel
theorem dX2_reborrowViolation_24 : decode cX2_reborrowViolation 24 = .ok (.iload_n 2, 1) := by decide +kernel
theorem dX2_reborrowViolation_25 : decode cX2_reborrowViolation 25 = .ok (.invokevirtual 25, 3) := by decide +kernel
theorem dX2_reborrowViolation_28 : decode cX2_reborrowViolation 28 = .ok (.iconst (-1), 1) := by decide +kernel
theorem dX2_reborrowViolation_29 : decode cX2_reborrowViolation 29 = .ok (.if_icmp .ne 7, 3) := by decide +kernel
theorem dX2_reborrowViolation_32 : decode cX2_reborrowViolation 32 = .ok (.iconst 1, 1) := by decide +kernel
theorem dX2_reborrowViolation_33 : decode cX2_reborrowViolation 33 = .ok (.goto 4, 3) := by decide +kernel
theorem dX2_reborrowViolation_36 : decode cX2_reborrowViolation 36 = .ok (.iconst 0, 1) := by decide +kernel
theorem dX2_reborrowViolation_37 : decode cX2_reborrowViolation 37 = .ok (.ireturn, 1) := by decide +kernel
theorem dX2_hasProtectedFrom_0 : decode cX2_hasProtectedFrom 0 = .ok (.iload_n 1, 1) := by decide +kernel
theorem dX2_hasProtectedFrom_1 : decode cX2_hasProtectedFrom 1 = .ok (.istore_n 3, 1) := by decide +kernel
theorem dX2_hasProtectedFrom_2 : decode cX2_hasProtectedFrom 2 = .ok (.iload_n 3, 1) := by decide +kernel
theorem dX2_hasProtectedFrom_3 : decode cX2_hasProtectedFrom 3 = .ok (.aload_n 0, 1) := by decide +kernel
theorem dX2_hasProtectedFrom_4 : decode cX2_hasProtectedFrom 4 = .ok (.getfield 21, 3) := by decide +kernel
theorem dX2_hasProtectedFrom_7 : decode cX2_hasProtectedFrom 7 = .ok (.if_icmp .ge 24, 3) := by decide +kernel
theorem dX2_hasProtectedFrom_10 : decode cX2_hasProtectedFrom 10 = .ok (.aload_n 2, 1) := by decide +kernel
theorem dX2_hasProtectedFrom_11 : decode cX2_hasProtectedFrom 11 = .ok (.aload_n 0, 1) := by decide +kernel
theorem dX2_hasProtectedFrom_12 : decode cX2_hasProtectedFrom 12 = .ok (.getfield 18, 3) := by decide +kernel
theorem dX2_hasProtectedFrom_15 : decode cX2_hasProtectedFrom 15 = .ok (.iload_n 3, 1) := by decide +kernel
theorem dX2_hasProtectedFrom_16 : decode cX2_hasProtectedFrom 16 = .ok (.iaload, 1) := by decide +kernel
theorem dX2_hasProtectedFrom_17 : decode cX2_hasProtectedFrom 17 = .ok (.invokevirtual 32, 3) := by decide +kernel
theorem dX2_hasProtectedFrom_20 : decode cX2_hasProtectedFrom 20 = .ok (.ifCond .eq 5, 3) := by decide +kernel
theorem dX2_hasProtectedFrom_23 : decode cX2_hasProtectedFrom 23 = .ok (.iconst 1, 1) := by decide +kernel
theorem dX2_hasProtectedFrom_24 : decode cX2_hasProtectedFrom 24 = .ok (.ireturn, 1) := by decide +kernel
theorem dX2_hasProtectedFrom_25 : decode cX2_hasProtectedFrom 25 = .ok (.iinc 3 1, 3) := by decide +kernel
theorem dX2_hasProtectedFrom_28 : decode cX2_hasProtectedFrom 28 = .ok (.goto (-26), 3) := by decide +kernel
theorem dX2_hasProtectedFrom_31 : decode cX2_hasProtectedFrom 31 = .ok (.iconst 0, 1) := by decide +kernel
theorem dX2_hasProtectedFrom_32 : decode cX2_hasProtectedFrom 32 = .ok (.ireturn, 1) := by decide +kernel
theorem dX2_hasRoomToReborrow_0 : decode cX2_hasRoomToReborrow 0 = .ok (.iload_n 1, 1) := by decide +kernel
theorem dX2_hasRoomToReborrow_1 : decode cX2_hasRoomToReborrow 1 = .ok (.ifCond .ne 11, 3) := by decide +kernel
theorem dX2_hasRoomToReborrow_4 : decode cX2_hasRoomToReborrow 4 = .ok (.aload_n 0, 1) := by decide +kernel
theorem dX2_hasRoomToReborrow_5 : decode cX2_hasRoomToReborrow 5 = .ok (.iload_n 2, 1) := by decide +kernel
theorem dX2_hasRoomToReborrow_6 : decode cX2_hasRoomToReborrow 6 = .ok (.invokevirtual 38, 3) := by decide +kernel
theorem dX2_hasRoomToReborrow_9 : decode cX2_hasRoomToReborrow 9 = .ok (.goto 7, 3) := by decide +kernel
theorem dX2_hasRoomToReborrow_12 : decode cX2_hasRoomToReborrow 12 = .ok (.aload_n 0, 1) := by decide +kernel
theorem dX2_hasRoomToReborrow_13 : decode cX2_hasRoomToReborrow 13 = .ok (.getfield 21, 3) := by decide +kernel
theorem dX2_hasRoomToReborrow_16 : decode cX2_hasRoomToReborrow 16 = .ok (.istore_n 3, 1) := by decide +kernel
theorem dX2_hasRoomToReborrow_17 : decode cX2_hasRoomToReborrow 17 = .ok (.iload_n 3, 1) := by decide +kernel
theorem dX2_hasRoomToReborrow_18 : decode cX2_hasRoomToReborrow 18 = .ok (.bipush 12, 2) := by decide +kernel
theorem dX2_hasRoomToReborrow_20 : decode cX2_hasRoomToReborrow 20 = .ok (.if_icmp .ge 7, 3) := by decide +kernel
theorem dX2_hasRoomToReborrow_23 : decode cX2_hasRoomToReborrow 23 = .ok (.iconst 1, 1) := by decide +kernel
theorem dX2_hasRoomToReborrow_24 : decode cX2_hasRoomToReborrow 24 = .ok (.goto 4, 3) := by decide +kernel
theorem dX2_hasRoomToReborrow_27 : decode cX2_hasRoomToReborrow 27 = .ok (.iconst 0, 1) := by decide +kernel
theorem dX2_hasRoomToReborrow_28 : decode cX2_hasRoomToReborrow 28 = .ok (.ireturn, 1) := by decide +kernel
theorem dX2_applyRead_0 : decode cX2_applyRead 0 = .ok (.aload_n 0, 1) := by decide +kernel
theorem dX2_applyRead_1 : decode cX2_applyRead 1 = .ok (.iload_n 1, 1) := by decide +kernel
theorem dX2_applyRead_2 : decode cX2_applyRead 2 = .ok (.invokevirtual 29, 3) := by decide +kernel
theorem dX2_applyRead_5 : decode cX2_applyRead 5 = .ok (.istore_n 2, 1) := by decide +kernel
theorem dX2_applyRead_6 : decode cX2_applyRead 6 = .ok (.iload_n 2, 1) := by decide +kernel
theorem dX2_applyRead_7 : decode cX2_applyRead 7 = .ok (.iconst (-1), 1) := by decide +kernel
theorem dX2_applyRead_8 : decode cX2_applyRead 8 = .ok (.if_icmp .ne 4, 3) := by decide +kernel
theorem dX2_applyRead_11 : decode cX2_applyRead 11 = .ok (.return_, 1) := by decide +kernel
theorem dX2_applyRead_12 : decode cX2_applyRead 12 = .ok (.iload_n 2, 1) := by decide +kernel
theorem dX2_applyRead_13 : decode cX2_applyRead 13 = .ok (.iconst 1, 1) := by decide +kernel
theorem dX2_applyRead_14 : decode cX2_applyRead 14 = .ok (.iadd, 1) := by decide +kernel
theorem dX2_applyRead_15 : decode cX2_applyRead 15 = .ok (.istore_n 3, 1) := by decide +kernel
theorem dX2_applyRead_16 : decode cX2_applyRead 16 = .ok (.iload_n 3, 1) := by decide +kernel
theorem dX2_applyRead_17 : decode cX2_applyRead 17 = .ok (.aload_n 0, 1) := by decide +kernel
theorem dX2_applyRead_18 : decode cX2_applyRead 18 = .ok (.getfield 21, 3) := by decide +kernel
theorem dX2_applyRead_21 : decode cX2_applyRead 21 = .ok (.if_icmp .ge 25, 3) := by decide +kernel
theorem dX2_applyRead_24 : decode cX2_applyRead 24 = .ok (.aload_n 0, 1) := by decide +kernel
theorem dX2_applyRead_25 : decode cX2_applyRead 25 = .ok (.getfield 15, 3) := by decide +kernel
theorem dX2_applyRead_28 : decode cX2_applyRead 28 = .ok (.iload_n 3, 1) := by decide +kernel
theorem dX2_applyRead_29 : decode cX2_applyRead 29 = .ok (.iaload, 1) := by decide +kernel
theorem dX2_applyRead_30 : decode cX2_applyRead 30 = .ok (.ifCond .ne 10, 3) := by decide +kernel
theorem dX2_applyRead_33 : decode cX2_applyRead 33 = .ok (.aload_n 0, 1) := by decide +kernel
theorem dX2_applyRead_34 : decode cX2_applyRead 34 = .ok (.getfield 15, 3) := by decide +kernel
theorem dX2_applyRead_37 : decode cX2_applyRead 37 = .ok (.iload_n 3, 1) := by decide +kernel
theorem dX2_applyRead_38 : decode cX2_applyRead 38 = .ok (.iconst 3, 1) := by decide +kernel
theorem dX2_applyRead_39 : decode cX2_applyRead 39 = .ok (.iastore, 1) := by decide +kernel
theorem dX2_applyRead_40 : decode cX2_applyRead 40 = .ok (.iinc 3 1, 3) := by decide +kernel
theorem dX2_applyRead_43 : decode cX2_applyRead 43 = .ok (.goto (-27), 3) := by decide +kernel
theorem dX2_applyRead_46 : decode cX2_applyRead 46 = .ok (.return_, 1) := by decide +kernel
theorem dX2_applyWrite_0 : decode cX2_applyWrite 0 = .ok (.aload_n 0, 1) := by decide +kernel
theorem dX2_applyWrite_1 : decode cX2_applyWrite 1 = .ok (.aload_n 0, 1) := by decide +kernel
theorem dX2_applyWrite_2 : decode cX2_applyWrite 2 = .ok (.iload_n 1, 1) := by decide +kernel
theorem dX2_applyWrite_3 : decode cX2_applyWrite 3 = .ok (.invokevirtual 38, 3) := by decide +kernel
theorem dX2_applyWrite_6 : decode cX2_applyWrite 6 = .ok (.putfield 21, 3) := by decide +kernel
theorem dX2_applyWrite_9 : decode cX2_applyWrite 9 = .ok (.return_, 1) := by decide +kernel
theorem dX2_applyReborrow_0 : decode cX2_applyReborrow 0 = .ok (.iload_n 1, 1) := by decide +kernel
theorem dX2_applyReborrow_1 : decode cX2_applyReborrow 1 = .ok (.ifCond .ne 23, 3) := by decide +kernel
theorem dX2_applyReborrow_4 : decode cX2_applyReborrow 4 = .ok (.aload_n 0, 1) := by decide +kernel
theorem dX2_applyReborrow_5 : decode cX2_applyReborrow 5 = .ok (.iload_n 2, 1) := by decide +kernel
theorem dX2_applyReborrow_6 : decode cX2_applyReborrow 6 = .ok (.invokevirtual 52, 3) := by decide +kernel
theorem dX2_applyReborrow_9 : decode cX2_applyReborrow 9 = .ok (.aload_n 0, 1) := by decide +kernel
theorem dX2_applyReborrow_10 : decode cX2_applyReborrow 10 = .ok (.aload_n 0, 1) := by decide +kernel
theorem dX2_applyReborrow_11 : decode cX2_applyReborrow 11 = .ok (.getfield 21, 3) := by decide +kernel
theorem dX2_applyReborrow_14 : decode cX2_applyReborrow 14 = .ok (.iload_n 3, 1) := by decide +kernel
theorem dX2_applyReborrow_15 : decode cX2_applyReborrow 15 = .ok (.iconst 0, 1) := by decide +kernel
theorem dX2_applyReborrow_16 : decode cX2_applyReborrow 16 = .ok (.iload 4, 2) := by decide +kernel
theorem dX2_applyReborrow_18 : decode cX2_applyReborrow 18 = .ok (.invokevirtual 56, 3) := by decide +kernel
theorem dX2_applyReborrow_21 : decode cX2_applyReborrow 21 = .ok (.goto 41, 3) := by decide +kernel
theorem dX2_applyReborrow_24 : decode cX2_applyReborrow 24 = .ok (.iload_n 1, 1) := by decide +kernel
theorem dX2_applyReborrow_25 : decode cX2_applyReborrow 25 = .ok (.iconst 1, 1) := by decide +kernel
theorem dX2_applyReborrow_26 : decode cX2_applyReborrow 26 = .ok (.if_icmp .ne 23, 3) := by decide +kernel
theorem dX2_applyReborrow_29 : decode cX2_applyReborrow 29 = .ok (.aload_n 0, 1) := by decide +kernel
theorem dX2_applyReborrow_30 : decode cX2_applyReborrow 30 = .ok (.iload_n 2, 1) := by decide +kernel
theorem dX2_applyReborrow_31 : decode cX2_applyReborrow 31 = .ok (.invokevirtual 60, 3) := by decide +kernel
theorem dX2_applyReborrow_34 : decode cX2_applyReborrow 34 = .ok (.aload_n 0, 1) := by decide +kernel
theorem dX2_applyReborrow_35 : decode cX2_applyReborrow 35 = .ok (.aload_n 0, 1) := by decide +kernel
theorem dX2_applyReborrow_36 : decode cX2_applyReborrow 36 = .ok (.getfield 21, 3) := by decide +kernel
theorem dX2_applyReborrow_39 : decode cX2_applyReborrow 39 = .ok (.iload_n 3, 1) := by decide +kernel
theorem dX2_applyReborrow_40 : decode cX2_applyReborrow 40 = .ok (.iconst 2, 1) := by decide +kernel
theorem dX2_applyReborrow_41 : decode cX2_applyReborrow 41 = .ok (.iload 4, 2) := by decide +kernel
theorem dX2_applyReborrow_43 : decode cX2_applyReborrow 43 = .ok (.invokevirtual 56, 3) := by decide +kernel
theorem dX2_applyReborrow_46 : decode cX2_applyReborrow 46 = .ok (.goto 16, 3) := by decide +kernel
theorem dX2_applyReborrow_49 : decode cX2_applyReborrow 49 = .ok (.aload_n 0, 1) := by decide +kernel
theorem dX2_applyReborrow_50 : decode cX2_applyReborrow 50 = .ok (.aload_n 0, 1) := by decide +kernel
theorem dX2_applyReborrow_51 : decode cX2_applyReborrow 51 = .ok (.iload_n 2, 1) := by decide +kernel
theorem dX2_applyReborrow_52 : decode cX2_applyReborrow 52 = .ok (.invokevirtual 38, 3) := by decide +kernel
theorem dX2_applyReborrow_55 : decode cX2_applyReborrow 55 = .ok (.iload_n 3, 1) := by decide +kernel
theorem dX2_applyReborrow_56 : decode cX2_applyReborrow 56 = .ok (.iconst 1, 1) := by decide +kernel
theorem dX2_applyReborrow_57 : decode cX2_applyReborrow 57 = .ok (.iload 4, 2) := by decide +kernel
theorem dX2_applyReborrow_59 : decode cX2_applyReborrow 59 = .ok (.invokevirtual 56, 3) := by decide +kernel
theorem dX2_applyReborrow_62 : decode cX2_applyReborrow 62 = .ok (.return_, 1) := by decide +kernel
theorem dX2_insertItem_0 : decode cX2_insertItem 0 = .ok (.iload_n 1, 1) := by decide +kernel
theorem dX2_insertItem_1 : decode cX2_insertItem 1 = .ok (.ifCond .lt 20, 3) := by decide +kernel
theorem dX2_insertItem_4 : decode cX2_insertItem 4 = .ok (.iload_n 1, 1) := by decide +kernel
theorem dX2_insertItem_5 : decode cX2_insertItem 5 = .ok (.aload_n 0, 1) := by decide +kernel
theorem dX2_insertItem_6 : decode cX2_insertItem 6 = .ok (.getfield 21, 3) := by decide +kernel
theorem dX2_insertItem_9 : decode cX2_insertItem 9 = .ok (.if_icmp .gt 12, 3) := by decide +kernel
theorem dX2_insertItem_12 : decode cX2_insertItem 12 = .ok (.aload_n 0, 1) := by decide +kernel
theorem dX2_insertItem_13 : decode cX2_insertItem 13 = .ok (.getfield 21, 3) := by decide +kernel
theorem dX2_insertItem_16 : decode cX2_insertItem 16 = .ok (.bipush 12, 2) := by decide +kernel
theorem dX2_insertItem_18 : decode cX2_insertItem 18 = .ok (.if_icmp .lt 4, 3) := by decide +kernel
theorem dX2_insertItem_21 : decode cX2_insertItem 21 = .ok (.return_, 1) := by decide +kernel
theorem dX2_insertItem_22 : decode cX2_insertItem 22 = .ok (.aload_n 0, 1) := by decide +kernel
theorem dX2_insertItem_23 : decode cX2_insertItem 23 = .ok (.getfield 21, 3) := by decide +kernel
theorem dX2_insertItem_26 : decode cX2_insertItem 26 = .ok (.istore 5, 2) := by decide +kernel
theorem dX2_insertItem_28 : decode cX2_insertItem 28 = .ok (.iload 5, 2) := by decide +kernel
theorem dX2_insertItem_30 : decode cX2_insertItem 30 = .ok (.iload_n 1, 1) := by decide +kernel
theorem dX2_insertItem_31 : decode cX2_insertItem 31 = .ok (.if_icmp .le 57, 3) := by decide +kernel
theorem dX2_insertItem_34 : decode cX2_insertItem 34 = .ok (.aload_n 0, 1) := by decide +kernel
theorem dX2_insertItem_35 : decode cX2_insertItem 35 = .ok (.getfield 9, 3) := by decide +kernel
theorem dX2_insertItem_38 : decode cX2_insertItem 38 = .ok (.iload 5, 2) := by decide +kernel
theorem dX2_insertItem_40 : decode cX2_insertItem 40 = .ok (.aload_n 0, 1) := by decide +kernel
theorem dX2_insertItem_41 : decode cX2_insertItem 41 = .ok (.getfield 9, 3) := by decide +kernel
theorem dX2_insertItem_44 : decode cX2_insertItem 44 = .ok (.iload 5, 2) := by decide +kernel
theorem dX2_insertItem_46 : decode cX2_insertItem 46 = .ok (.iconst 1, 1) := by decide +kernel
theorem dX2_insertItem_47 : decode cX2_insertItem 47 = .ok (.isub, 1) := by decide +kernel
theorem dX2_insertItem_48 : decode cX2_insertItem 48 = .ok (.iaload, 1) := by decide +kernel
theorem dX2_insertItem_49 : decode cX2_insertItem 49 = .ok (.iastore, 1) := by decide +kernel
theorem dX2_insertItem_50 : decode cX2_insertItem 50 = .ok (.aload_n 0, 1) := by decide +kernel
theorem dX2_insertItem_51 : decode cX2_insertItem 51 = .ok (.getfield 15, 3) := by decide +kernel
theorem dX2_insertItem_54 : decode cX2_insertItem 54 = .ok (.iload 5, 2) := by decide +kernel
theorem dX2_insertItem_56 : decode cX2_insertItem 56 = .ok (.aload_n 0, 1) := by decide +kernel
theorem dX2_insertItem_57 : decode cX2_insertItem 57 = .ok (.getfield 15, 3) := by decide +kernel
theorem dX2_insertItem_60 : decode cX2_insertItem 60 = .ok (.iload 5, 2) := by decide +kernel
theorem dX2_insertItem_62 : decode cX2_insertItem 62 = .ok (.iconst 1, 1) := by decide +kernel
theorem dX2_insertItem_63 : decode cX2_insertItem 63 = .ok (.isub, 1) := by decide +kernel
theorem dX2_insertItem_64 : decode cX2_insertItem 64 = .ok (.iaload, 1) := by decide +kernel
theorem dX2_insertItem_65 : decode cX2_insertItem 65 = .ok (.iastore, 1) := by decide +kernel
theorem dX2_insertItem_66 : decode cX2_insertItem 66 = .ok (.aload_n 0, 1) := by decide +kernel
theorem dX2_insertItem_67 : decode cX2_insertItem 67 = .ok (.getfield 18, 3) := by decide +kernel
theorem dX2_insertItem_70 : decode cX2_insertItem 70 = .ok (.iload 5, 2) := by decide +kernel
theorem dX2_insertItem_72 : decode cX2_insertItem 72 = .ok (.aload_n 0, 1) := by decide +kernel
theorem dX2_insertItem_73 : decode cX2_insertItem 73 = .ok (.getfield 18, 3) := by decide +kernel
theorem dX2_insertItem_76 : decode cX2_insertItem 76 = .ok (.iload 5, 2) := by decide +kernel
theorem dX2_insertItem_78 : decode cX2_insertItem 78 = .ok (.iconst 1, 1) := by decide +kernel
theorem dX2_insertItem_79 : decode cX2_insertItem 79 = .ok (.isub, 1) := by decide +kernel
theorem dX2_insertItem_80 : decode cX2_insertItem 80 = .ok (.iaload, 1) := by decide +kernel
theorem dX2_insertItem_81 : decode cX2_insertItem 81 = .ok (.iastore, 1) := by decide +kernel
theorem dX2_insertItem_82 : decode cX2_insertItem 82 = .ok (.iinc 5 (-1), 3) := by decide +kernel
theorem dX2_insertItem_85 : decode cX2_insertItem 85 = .ok (.goto (-57), 3) := by decide +kernel
theorem dX2_insertItem_88 : decode cX2_insertItem 88 = .ok (.aload_n 0, 1) := by decide +kernel
theorem dX2_insertItem_89 : decode cX2_insertItem 89 = .ok (.getfield 9, 3) := by decide +kernel
theorem dX2_insertItem_92 : decode cX2_insertItem 92 = .ok (.iload_n 1, 1) := by decide +kernel
theorem dX2_insertItem_93 : decode cX2_insertItem 93 = .ok (.iload_n 2, 1) := by decide +kernel
theorem dX2_insertItem_94 : decode cX2_insertItem 94 = .ok (.iastore, 1) := by decide +kernel
theorem dX2_insertItem_95 : decode cX2_insertItem 95 = .ok (.aload_n 0, 1) := by decide +kernel
theorem dX2_insertItem_96 : decode cX2_insertItem 96 = .ok (.getfield 15, 3) := by decide +kernel
theorem dX2_insertItem_99 : decode cX2_insertItem 99 = .ok (.iload_n 1, 1) := by decide +kernel
theorem dX2_insertItem_100 : decode cX2_insertItem 100 = .ok (.iload_n 3, 1) := by decide +kernel
theorem dX2_insertItem_101 : decode cX2_insertItem 101 = .ok (.iastore, 1) := by decide +kernel
theorem dX2_insertItem_102 : decode cX2_insertItem 102 = .ok (.aload_n 0, 1) := by decide +kernel
theorem dX2_insertItem_103 : decode cX2_insertItem 103 = .ok (.getfield 18, 3) := by decide +kernel
theorem dX2_insertItem_106 : decode cX2_insertItem 106 = .ok (.iload_n 1, 1) := by decide +kernel
theorem dX2_insertItem_107 : decode cX2_insertItem 107 = .ok (.iload 4, 2) := by decide +kernel
theorem dX2_insertItem_109 : decode cX2_insertItem 109 = .ok (.iastore, 1) := by decide +kernel
theorem dX2_insertItem_110 : decode cX2_insertItem 110 = .ok (.aload_n 0, 1) := by decide +kernel
theorem dX2_insertItem_111 : decode cX2_insertItem 111 = .ok (.dup, 1) := by decide +kernel
theorem dX2_insertItem_112 : decode cX2_insertItem 112 = .ok (.getfield 21, 3) := by decide +kernel
theorem dX2_insertItem_115 : decode cX2_insertItem 115 = .ok (.iconst 1, 1) := by decide +kernel
theorem dX2_insertItem_116 : decode cX2_insertItem 116 = .ok (.iadd, 1) := by decide +kernel
theorem dX2_insertItem_117 : decode cX2_insertItem 117 = .ok (.putfield 21, 3) := by decide +kernel
theorem dX2_insertItem_120 : decode cX2_insertItem 120 = .ok (.return_, 1) := by decide +kernel
theorem dX2_mixedInto_0 : decode cX2_mixedInto 0 = .ok (.lload_n 1, 1) := by decide +kernel
theorem dX2_mixedInto_1 : decode cX2_mixedInto 1 = .ok (.aload_n 0, 1) := by decide +kernel
theorem dX2_mixedInto_2 : decode cX2_mixedInto 2 = .ok (.getfield 63, 3) := by decide +kernel
theorem dX2_mixedInto_5 : decode cX2_mixedInto 5 = .ok (.i2l, 1) := by decide +kernel
theorem dX2_mixedInto_6 : decode cX2_mixedInto 6 = .ok (.invokestatic 66, 3) := by decide +kernel
theorem dX2_mixedInto_9 : decode cX2_mixedInto 9 = .ok (.lstore 4, 2) := by decide +kernel
theorem dX2_mixedInto_11 : decode cX2_mixedInto 11 = .ok (.lload 4, 2) := by decide +kernel
theorem dX2_mixedInto_13 : decode cX2_mixedInto 13 = .ok (.aload_n 0, 1) := by decide +kernel
theorem dX2_mixedInto_14 : decode cX2_mixedInto 14 = .ok (.getfield 21, 3) := by decide +kernel
theorem dX2_mixedInto_17 : decode cX2_mixedInto 17 = .ok (.i2l, 1) := by decide +kernel
theorem dX2_mixedInto_18 : decode cX2_mixedInto 18 = .ok (.invokestatic 66, 3) := by decide +kernel
theorem dX2_mixedInto_21 : decode cX2_mixedInto 21 = .ok (.lstore 4, 2) := by decide +kernel
theorem dX2_mixedInto_23 : decode cX2_mixedInto 23 = .ok (.iconst 0, 1) := by decide +kernel
theorem dX2_mixedInto_24 : decode cX2_mixedInto 24 = .ok (.istore 6, 2) := by decide +kernel
theorem dX2_mixedInto_26 : decode cX2_mixedInto 26 = .ok (.iload 6, 2) := by decide +kernel
theorem dX2_mixedInto_28 : decode cX2_mixedInto 28 = .ok (.aload_n 0, 1) := by decide +kernel
theorem dX2_mixedInto_29 : decode cX2_mixedInto 29 = .ok (.getfield 21, 3) := by decide +kernel
theorem dX2_mixedInto_32 : decode cX2_mixedInto 32 = .ok (.if_icmp .ge 61, 3) := by decide +kernel
theorem dX2_mixedInto_35 : decode cX2_mixedInto 35 = .ok (.lload 4, 2) := by decide +kernel
theorem dX2_mixedInto_37 : decode cX2_mixedInto 37 = .ok (.aload_n 0, 1) := by decide +kernel
theorem dX2_mixedInto_38 : decode cX2_mixedInto 38 = .ok (.getfield 9, 3) := by decide +kernel
theorem dX2_mixedInto_41 : decode cX2_mixedInto 41 = .ok (.iload 6, 2) := by decide +kernel
theorem dX2_mixedInto_43 : decode cX2_mixedInto 43 = .ok (.iaload, 1) := by decide +kernel
theorem dX2_mixedInto_44 : decode cX2_mixedInto 44 = .ok (.i2l, 1) := by decide +kernel
theorem dX2_mixedInto_45 : decode cX2_mixedInto 45 = .ok (.invokestatic 66, 3) := by decide +kernel
theorem dX2_mixedInto_48 : decode cX2_mixedInto 48 = .ok (.lstore 4, 2) := by decide +kernel
theorem dX2_mixedInto_50 : decode cX2_mixedInto 50 = .ok (.lload 4, 2) := by decide +kernel
theorem dX2_mixedInto_52 : decode cX2_mixedInto 52 = .ok (.aload_n 0, 1) := by decide +kernel
theorem dX2_mixedInto_53 : decode cX2_mixedInto 53 = .ok (.getfield 15, 3) := by decide +kernel
theorem dX2_mixedInto_56 : decode cX2_mixedInto 56 = .ok (.iload 6, 2) := by decide +kernel
theorem dX2_mixedInto_58 : decode cX2_mixedInto 58 = .ok (.iaload, 1) := by decide +kernel
theorem dX2_mixedInto_59 : decode cX2_mixedInto 59 = .ok (.i2l, 1) := by decide +kernel
theorem dX2_mixedInto_60 : decode cX2_mixedInto 60 = .ok (.invokestatic 66, 3) := by decide +kernel
theorem dX2_mixedInto_63 : decode cX2_mixedInto 63 = .ok (.lstore 4, 2) := by decide +kernel
theorem dX2_mixedInto_65 : decode cX2_mixedInto 65 = .ok (.lload 4, 2) := by decide +kernel
theorem dX2_mixedInto_67 : decode cX2_mixedInto 67 = .ok (.aload_n 3, 1) := by decide +kernel
theorem dX2_mixedInto_68 : decode cX2_mixedInto 68 = .ok (.aload_n 0, 1) := by decide +kernel
theorem dX2_mixedInto_69 : decode cX2_mixedInto 69 = .ok (.getfield 18, 3) := by decide +kernel
theorem dX2_mixedInto_72 : decode cX2_mixedInto 72 = .ok (.iload 6, 2) := by decide +kernel
theorem dX2_mixedInto_74 : decode cX2_mixedInto 74 = .ok (.iaload, 1) := by decide +kernel
theorem dX2_mixedInto_75 : decode cX2_mixedInto 75 = .ok (.invokevirtual 32, 3) := by decide +kernel
theorem dX2_mixedInto_78 : decode cX2_mixedInto 78 = .ok (.invokestatic 70, 3) := by decide +kernel
theorem dX2_mixedInto_81 : decode cX2_mixedInto 81 = .ok (.i2l, 1) := by decide +kernel
theorem dX2_mixedInto_82 : decode cX2_mixedInto 82 = .ok (.invokestatic 66, 3) := by decide +kernel
theorem dX2_mixedInto_85 : decode cX2_mixedInto 85 = .ok (.lstore 4, 2) := by decide +kernel
theorem dX2_mixedInto_87 : decode cX2_mixedInto 87 = .ok (.iinc 6 1, 3) := by decide +kernel
theorem dX2_mixedInto_90 : decode cX2_mixedInto 90 = .ok (.goto (-64), 3) := by decide +kernel
theorem dX2_mixedInto_93 : decode cX2_mixedInto 93 = .ok (.lload 4, 2) := by decide +kernel
theorem dX2_mixedInto_95 : decode cX2_mixedInto 95 = .ok (.lreturn, 1) := by decide +kernel
theorem dX3_init_0 : decode cX3_init 0 = .ok (.aload_n 0, 1) := by decide +kernel
theorem dX3_init_1 : decode cX3_init 1 = .ok (.invokespecial 1, 3) := by decide +kernel
theorem dX3_init_4 : decode cX3_init 4 = .ok (.aload_n 0, 1) := by decide +kernel
theorem dX3_init_5 : decode cX3_init 5 = .ok (.aload_n 1, 1) := by decide +kernel
theorem dX3_init_6 : decode cX3_init 6 = .ok (.putfield 7, 3) := by decide +kernel
theorem dX3_init_9 : decode cX3_init 9 = .ok (.aload_n 0, 1) := by decide +kernel
theorem dX3_init_10 : decode cX3_init 10 = .ok (.iload_n 2, 1) := by decide +kernel
theorem dX3_init_11 : decode cX3_init 11 = .ok (.putfield 13, 3) := by decide +kernel
theorem dX3_init_14 : decode cX3_init 14 = .ok (.return_, 1) := by decide +kernel
theorem dX4_init_0 : decode cX4_init 0 = .ok (.aload_n 0, 1) := by decide +kernel
theorem dX4_init_1 : decode cX4_init 1 = .ok (.invokespecial 3, 3) := by decide +kernel
theorem dX4_init_4 : decode cX4_init 4 = .ok (.aload_n 0, 1) := by decide +kernel
theorem dX4_init_5 : decode cX4_init 5 = .ok (.bipush 120, 2) := by decide +kernel
theorem dX4_init_7 : decode cX4_init 7 = .ok (.newarray .int, 2) := by decide +kernel
theorem dX4_init_9 : decode cX4_init 9 = .ok (.putfield 9, 3) := by decide +kernel
theorem dX4_init_12 : decode cX4_init 12 = .ok (.aload_n 0, 1) := by decide +kernel
theorem dX4_init_13 : decode cX4_init 13 = .ok (.bipush 60, 2) := by decide +kernel
theorem dX4_init_15 : decode cX4_init 15 = .ok (.newarray .int, 2) := by decide +kernel
theorem dX4_init_17 : decode cX4_init 17 = .ok (.putfield 15, 3) := by decide +kernel
theorem dX4_init_20 : decode cX4_init 20 = .ok (.aload_n 0, 1) := by decide +kernel
theorem dX4_init_21 : decode cX4_init 21 = .ok (.sipush 180, 3) := by decide +kernel
theorem dX4_init_24 : decode cX4_init 24 = .ok (.newarray .int, 2) := by decide +kernel
theorem dX4_init_26 : decode cX4_init 26 = .ok (.putfield 18, 3) := by decide +kernel
theorem dX4_init_29 : decode cX4_init 29 = .ok (.return_, 1) := by decide +kernel
theorem dX4_addByte_0 : decode cX4_addByte 0 = .ok (.aload_n 0, 1) := by decide +kernel
theorem dX4_addByte_1 : decode cX4_addByte 1 = .ok (.getfield 21, 3) := by decide +kernel
theorem dX4_addByte_4 : decode cX4_addByte 4 = .ok (.bipush 120, 2) := by decide +kernel
theorem dX4_addByte_6 : decode cX4_addByte 6 = .ok (.if_icmp .lt 5, 3) := by decide +kernel
theorem dX4_addByte_9 : decode cX4_addByte 9 = .ok (.iconst 0, 1) := by decide +kernel
theorem dX4_addByte_10 : decode cX4_addByte 10 = .ok (.ireturn, 1) := by decide +kernel
theorem dX4_addByte_11 : decode cX4_addByte 11 = .ok (.aload_n 0, 1) := by decide +kernel
theorem dX4_addByte_12 : decode cX4_addByte 12 = .ok (.getfield 9, 3) := by decide +kernel
theorem dX4_addByte_15 : decode cX4_addByte 15 = .ok (.aload_n 0, 1) := by decide +kernel
theorem dX4_addByte_16 : decode cX4_addByte 16 = .ok (.getfield 21, 3) := by decide +kernel
theorem dX4_addByte_19 : decode cX4_addByte 19 = .ok (.iload_n 1, 1) := by decide +kernel
theorem dX4_addByte_20 : decode cX4_addByte 20 = .ok (.iastore, 1) := by decide +kernel
theorem dX4_addByte_21 : decode cX4_addByte 21 = .ok (.aload_n 0, 1) := by decide +kernel
theorem dX4_addByte_22 : decode cX4_addByte 22 = .ok (.dup, 1) := by decide +kernel
theorem dX4_addByte_23 : decode cX4_addByte 23 = .ok (.getfield 21, 3) := by decide +kernel
theorem dX4_addByte_26 : decode cX4_addByte 26 = .ok (.iconst 1, 1) := by decide +kernel
theorem dX4_addByte_27 : decode cX4_addByte 27 = .ok (.iadd, 1) := by decide +kernel
theorem dX4_addByte_28 : decode cX4_addByte 28 = .ok (.putfield 21, 3) := by decide +kernel
theorem dX4_addByte_31 : decode cX4_addByte 31 = .ok (.iconst 1, 1) := by decide +kernel
theorem dX4_addByte_32 : decode cX4_addByte 32 = .ok (.ireturn, 1) := by decide +kernel
theorem dX4_argument_0 : decode cX4_argument 0 = .ok (.aload_n 0, 1) := by decide +kernel
theorem dX4_argument_1 : decode cX4_argument 1 = .ok (.getfield 18, 3) := by decide +kernel
theorem dX4_argument_4 : decode cX4_argument 4 = .ok (.iload_n 1, 1) := by decide +kernel
theorem dX4_argument_5 : decode cX4_argument 5 = .ok (.iconst 3, 1) := by decide +kernel
theorem dX4_argument_6 : decode cX4_argument 6 = .ok (.imul, 1) := by decide +kernel
theorem dX4_argument_7 : decode cX4_argument 7 = .ok (.iload_n 2, 1) := by decide +kernel
theorem dX4_argument_8 : decode cX4_argument 8 = .ok (.iadd, 1) := by decide +kernel
theorem dX4_argument_9 : decode cX4_argument 9 = .ok (.iaload, 1) := by decide +kernel
theorem dX4_argument_10 : decode cX4_argument 10 = .ok (.ireturn, 1) := by decide +kernel
theorem dX4_parse_0 : decode cX4_parse 0 = .ok (.aload_n 0, 1) := by decide +kernel
theorem dX4_parse_1 : decode cX4_parse 1 = .ok (.iconst 0, 1) := by decide +kernel
theorem dX4_parse_2 : decode cX4_parse 2 = .ok (.putfield 25, 3) := by decide +kernel
theorem dX4_parse_5 : decode cX4_parse 5 = .ok (.aload_n 0, 1) := by decide +kernel
theorem dX4_parse_6 : decode cX4_parse 6 = .ok (.iconst 0, 1) := by decide +kernel
theorem dX4_parse_7 : decode cX4_parse 7 = .ok (.putfield 28, 3) := by decide +kernel
theorem dX4_parse_10 : decode cX4_parse 10 = .ok (.aload_n 0, 1) := by decide +kernel
theorem dX4_parse_11 : decode cX4_parse 11 = .ok (.invokevirtual 31, 3) := by decide +kernel
theorem dX4_parse_14 : decode cX4_parse 14 = .ok (.iconst 1, 1) := by decide +kernel
theorem dX4_parse_15 : decode cX4_parse 15 = .ok (.istore_n 1, 1) := by decide +kernel
theorem dX4_parse_16 : decode cX4_parse 16 = .ok (.aload_n 0, 1) := by decide +kernel
theorem dX4_parse_17 : decode cX4_parse 17 = .ok (.invokevirtual 34, 3) := by decide +kernel
theorem dX4_parse_20 : decode cX4_parse 20 = .ok (.istore_n 1, 1) := by decide +kernel
theorem dX4_parse_21 : decode cX4_parse 21 = .ok (.iload_n 1, 1) := by decide +kernel
theorem dX4_parse_22 : decode cX4_parse 22 = .ok (.ifCond .eq 23, 3) := by decide +kernel
theorem dX4_parse_25 : decode cX4_parse 25 = .ok (.aload_n 0, 1) := by decide +kernel
theorem dX4_parse_26 : decode cX4_parse 26 = .ok (.getfield 28, 3) := by decide +kernel
theorem dX4_parse_29 : decode cX4_parse 29 = .ok (.aload_n 0, 1) := by decide +kernel
theorem dX4_parse_30 : decode cX4_parse 30 = .ok (.getfield 21, 3) := by decide +kernel
theorem dX4_parse_33 : decode cX4_parse 33 = .ok (.if_icmp .ge 12, 3) := by decide +kernel
theorem dX4_parse_36 : decode cX4_parse 36 = .ok (.aload_n 0, 1) := by decide +kernel
theorem dX4_parse_37 : decode cX4_parse 37 = .ok (.getfield 25, 3) := by decide +kernel
theorem dX4_parse_40 : decode cX4_parse 40 = .ok (.bipush 60, 2) := by decide +kernel
theorem dX4_parse_42 : decode cX4_parse 42 = .ok (.if_icmp .lt (-26), 3) := by decide +kernel
theorem dX4_parse_45 : decode cX4_parse 45 = .ok (.iload_n 1, 1) := by decide +kernel
theorem dX4_parse_46 : decode cX4_parse 46 = .ok (.ifCond .eq 7, 3) := by decide +kernel
theorem dX4_parse_49 : decode cX4_parse 49 = .ok (.iconst (-1), 1) := by decide +kernel
theorem dX4_parse_50 : decode cX4_parse 50 = .ok (.goto 7, 3) := by decide +kernel
theorem dX4_parse_53 : decode cX4_parse 53 = .ok (.aload_n 0, 1) := by decide +kernel
theorem dX4_parse_54 : decode cX4_parse 54 = .ok (.getfield 28, 3) := by decide +kernel
theorem dX4_parse_57 : decode cX4_parse 57 = .ok (.ireturn, 1) := by decide +kernel
theorem dX4_parseCommand_0 : decode cX4_parseCommand 0 = .ok (.aload_n 0, 1) := by decide +kernel
theorem dX4_parseCommand_1 : decode cX4_parseCommand 1 = .ok (.invokevirtual 38, 3) := by decide +kernel
theorem dX4_parseCommand_4 : decode cX4_parseCommand 4 = .ok (.istore_n 1, 1) := by decide +kernel
theorem dX4_parseCommand_5 : decode cX4_parseCommand 5 = .ok (.iload_n 1, 1) := by decide +kernel
theorem dX4_parseCommand_6 : decode cX4_parseCommand 6 = .ok (.invokestatic 42, 3) := by decide +kernel
theorem dX4_parseCommand_9 : decode cX4_parseCommand 9 = .ok (.istore_n 2, 1) := by decide +kernel
theorem dX4_parseCommand_10 : decode cX4_parseCommand 10 = .ok (.iload_n 2, 1) := by decide +kernel
theorem dX4_parseCommand_11 : decode cX4_parseCommand 11 = .ok (.iconst (-1), 1) := by decide +kernel
theorem dX4_parseCommand_12 : decode cX4_parseCommand 12 = .ok (.if_icmp .eq 12, 3) := by decide +kernel
theorem dX4_parseCommand_15 : decode cX4_parseCommand 15 = .ok (.aload_n 0, 1) := by decide +kernel
theorem dX4_parseCommand_16 : decode cX4_parseCommand 16 = .ok (.getfield 25, 3) := by decide +kernel
theorem dX4_parseCommand_19 : decode cX4_parseCommand 19 = .ok (.bipush 60, 2) := by decide +kernel
theorem dX4_parseCommand_21 : decode cX4_parseCommand 21 = .ok (.if_icmp .lt 5, 3) := by decide +kernel
theorem dX4_parseCommand_24 : decode cX4_parseCommand 24 = .ok (.iconst 0, 1) := by decide +kernel
theorem dX4_parseCommand_25 : decode cX4_parseCommand 25 = .ok (.ireturn, 1) := by decide +kernel
theorem dX4_parseCommand_26 : decode cX4_parseCommand 26 = .ok (.aload_n 0, 1) := by decide +kernel
theorem dX4_parseCommand_27 : decode cX4_parseCommand 27 = .ok (.dup, 1) := by decide +kernel
theorem dX4_parseCommand_28 : decode cX4_parseCommand 28 = .ok (.getfield 28, 3) := by decide +kernel
theorem dX4_parseCommand_31 : decode cX4_parseCommand 31 = .ok (.iconst 1, 1) := by decide +kernel
theorem dX4_parseCommand_32 : decode cX4_parseCommand 32 = .ok (.iadd, 1) := by decide +kernel
theorem dX4_parseCommand_33 : decode cX4_parseCommand 33 = .ok (.putfield 28, 3) := by decide +kernel
theorem dX4_parseCommand_36 : decode cX4_parseCommand 36 = .ok (.aload_n 0, 1) := by decide +kernel
theorem dX4_parseCommand_37 : decode cX4_parseCommand 37 = .ok (.invokevirtual 31, 3) := by decide +kernel
theorem dX4_parseCommand_40 : decode cX4_parseCommand 40 = .ok (.iconst 0, 1) := by decide +kernel
theorem dX4_parseCommand_41 : decode cX4_parseCommand 41 = .ok (.istore_n 3, 1) := by decide +kernel
theorem dX4_parseCommand_42 : decode cX4_parseCommand 42 = .ok (.iload_n 3, 1) := by decide +kernel
theorem dX4_parseCommand_43 : decode cX4_parseCommand 43 = .ok (.iload_n 2, 1) := by decide +kernel
theorem dX4_parseCommand_44 : decode cX4_parseCommand 44 = .ok (.if_icmp .ge 26, 3) := by decide +kernel
theorem dX4_parseCommand_47 : decode cX4_parseCommand 47 = .ok (.aload_n 0, 1) := by decide +kernel
theorem dX4_parseCommand_48 : decode cX4_parseCommand 48 = .ok (.aload_n 0, 1) := by decide +kernel
theorem dX4_parseCommand_49 : decode cX4_parseCommand 49 = .ok (.getfield 25, 3) := by decide +kernel
theorem dX4_parseCommand_52 : decode cX4_parseCommand 52 = .ok (.iconst 3, 1) := by decide +kernel
theorem dX4_parseCommand_53 : decode cX4_parseCommand 53 = .ok (.imul, 1) := by decide +kernel
theorem dX4_parseCommand_54 : decode cX4_parseCommand 54 = .ok (.iload_n 3, 1) := by decide +kernel
theorem dX4_parseCommand_55 : decode cX4_parseCommand 55 = .ok (.iadd, 1) := by decide +kernel
theorem dX4_parseCommand_56 : decode cX4_parseCommand 56 = .ok (.invokevirtual 46, 3) := by decide +kernel
theorem dX4_parseCommand_59 : decode cX4_parseCommand 59 = .ok (.ifCond .ne 5, 3) := by decide +kernel
theorem dX4_parseCommand_62 : decode cX4_parseCommand 62 = .ok (.iconst 0, 1) := by decide +kernel
theorem dX4_parseCommand_63 : decode cX4_parseCommand 63 = .ok (.ireturn, 1) := by decide +kernel
theorem dX4_parseCommand_64 : decode cX4_parseCommand 64 = .ok (.iinc 3 1, 3) := by decide +kernel
theorem dX4_parseCommand_67 : decode cX4_parseCommand 67 = .ok (.goto (-25), 3) := by decide +kernel
theorem dX4_parseCommand_70 : decode cX4_parseCommand 70 = .ok (.aload_n 0, 1) := by decide +kernel
theorem dX4_parseCommand_71 : decode cX4_parseCommand 71 = .ok (.invokevirtual 38, 3) := by decide +kernel
theorem dX4_parseCommand_74 : decode cX4_parseCommand 74 = .ok (.bipush 59, 2) := by decide +kernel
theorem dX4_parseCommand_76 : decode cX4_parseCommand 76 = .ok (.if_icmp .eq 5, 3) := by decide +kernel
theorem dX4_parseCommand_79 : decode cX4_parseCommand 79 = .ok (.iconst 0, 1) := by decide +kernel
theorem dX4_parseCommand_80 : decode cX4_parseCommand 80 = .ok (.ireturn, 1) := by decide +kernel
theorem dX4_parseCommand_81 : decode cX4_parseCommand 81 = .ok (.aload_n 0, 1) := by decide +kernel
theorem dX4_parseCommand_82 : decode cX4_parseCommand 82 = .ok (.dup, 1) := by decide +kernel
theorem dX4_parseCommand_83 : decode cX4_parseCommand 83 = .ok (.getfield 28, 3) := by decide +kernel
theorem dX4_parseCommand_86 : decode cX4_parseCommand 86 = .ok (.iconst 1, 1) := by decide +kernel
theorem dX4_parseCommand_87 : decode cX4_parseCommand 87 = .ok (.iadd, 1) := by decide +kernel
theorem dX4_parseCommand_88 : decode cX4_parseCommand 88 = .ok (.putfield 28, 3) := by decide +kernel
theorem dX4_parseCommand_91 : decode cX4_parseCommand 91 = .ok (.aload_n 0, 1) := by decide +kernel
theorem dX4_parseCommand_92 : decode cX4_parseCommand 92 = .ok (.invokevirtual 31, 3) := by decide +kernel
theorem dX4_parseCommand_95 : decode cX4_parseCommand 95 = .ok (.aload_n 0, 1) := by decide +kernel
theorem dX4_parseCommand_96 : decode cX4_parseCommand 96 = .ok (.getfield 15, 3) := by decide +kernel
theorem dX4_parseCommand_99 : decode cX4_parseCommand 99 = .ok (.aload_n 0, 1) := by decide +kernel
theorem dX4_parseCommand_100 : decode cX4_parseCommand 100 = .ok (.getfield 25, 3) := by decide +kernel
theorem dX4_parseCommand_103 : decode cX4_parseCommand 103 = .ok (.iload_n 1, 1) := by decide +kernel
theorem dX4_parseCommand_104 : decode cX4_parseCommand 104 = .ok (.iastore, 1) := by decide +kernel
theorem dX4_parseCommand_105 : decode cX4_parseCommand 105 = .ok (.aload_n 0, 1) := by decide +kernel
theorem dX4_parseCommand_106 : decode cX4_parseCommand 106 = .ok (.dup, 1) := by decide +kernel
theorem dX4_parseCommand_107 : decode cX4_parseCommand 107 = .ok (.getfield 25, 3) := by decide +kernel
theorem dX4_parseCommand_110 : decode cX4_parseCommand 110 = .ok (.iconst 1, 1) := by decide +kernel
theorem dX4_parseCommand_111 : decode cX4_parseCommand 111 = .ok (.iadd, 1) := by decide +kernel
theorem dX4_parseCommand_112 : decode cX4_parseCommand 112 = .ok (.putfield 25, 3) := by decide +kernel
theorem dX4_parseCommand_115 : decode cX4_parseCommand 115 = .ok (.iconst 1, 1) := by decide +kernel
theorem dX4_parseCommand_116 : decode cX4_parseCommand 116 = .ok (.ireturn, 1) := by decide +kernel
theorem dX4_parseArgument_0 : decode cX4_parseArgument 0 = .ok (.aload_n 0, 1) := by decide +kernel
theorem dX4_parseArgument_1 : decode cX4_parseArgument 1 = .ok (.invokevirtual 50, 3) := by decide +kernel
theorem dX4_parseArgument_4 : decode cX4_parseArgument 4 = .ok (.ifCond .ne 5, 3) := by decide +kernel
theorem dX4_parseArgument_7 : decode cX4_parseArgument 7 = .ok (.iconst 0, 1) := by decide +kernel
theorem dX4_parseArgument_8 : decode cX4_parseArgument 8 = .ok (.ireturn, 1) := by decide +kernel
theorem dX4_parseArgument_9 : decode cX4_parseArgument 9 = .ok (.aload_n 0, 1) := by decide +kernel
theorem dX4_parseArgument_10 : decode cX4_parseArgument 10 = .ok (.invokevirtual 38, 3) := by decide +kernel
theorem dX4_parseArgument_13 : decode cX4_parseArgument 13 = .ok (.bipush 48, 2) := by decide +kernel
theorem dX4_parseArgument_15 : decode cX4_parseArgument 15 = .ok (.isub, 1) := by decide +kernel
theorem dX4_parseArgument_16 : decode cX4_parseArgument 16 = .ok (.istore_n 2, 1) := by decide +kernel
theorem dX4_parseArgument_17 : decode cX4_parseArgument 17 = .ok (.aload_n 0, 1) := by decide +kernel
theorem dX4_parseArgument_18 : decode cX4_parseArgument 18 = .ok (.dup, 1) := by decide +kernel
theorem dX4_parseArgument_19 : decode cX4_parseArgument 19 = .ok (.getfield 28, 3) := by decide +kernel
theorem dX4_parseArgument_22 : decode cX4_parseArgument 22 = .ok (.iconst 1, 1) := by decide +kernel
theorem dX4_parseArgument_23 : decode cX4_parseArgument 23 = .ok (.iadd, 1) := by decide +kernel
theorem dX4_parseArgument_24 : decode cX4_parseArgument 24 = .ok (.putfield 28, 3) := by decide +kernel
theorem dX4_parseArgument_27 : decode cX4_parseArgument 27 = .ok (.aload_n 0, 1) := by decide +kernel
theorem dX4_parseArgument_28 : decode cX4_parseArgument 28 = .ok (.invokevirtual 50, 3) := by decide +kernel
theorem dX4_parseArgument_31 : decode cX4_parseArgument 31 = .ok (.ifCond .eq 26, 3) := by decide +kernel
theorem dX4_parseArgument_34 : decode cX4_parseArgument 34 = .ok (.bipush 10, 2) := by decide +kernel
theorem dX4_parseArgument_36 : decode cX4_parseArgument 36 = .ok (.iload_n 2, 1) := by decide +kernel
theorem dX4_parseArgument_37 : decode cX4_parseArgument 37 = .ok (.imul, 1) := by decide +kernel
theorem dX4_parseArgument_38 : decode cX4_parseArgument 38 = .ok (.aload_n 0, 1) := by decide +kernel
theorem dX4_parseArgument_39 : decode cX4_parseArgument 39 = .ok (.invokevirtual 38, 3) := by decide +kernel
theorem dX4_parseArgument_42 : decode cX4_parseArgument 42 = .ok (.iadd, 1) := by decide +kernel
theorem dX4_parseArgument_43 : decode cX4_parseArgument 43 = .ok (.bipush 48, 2) := by decide +kernel
theorem dX4_parseArgument_45 : decode cX4_parseArgument 45 = .ok (.isub, 1) := by decide +kernel
theorem dX4_parseArgument_46 : decode cX4_parseArgument 46 = .ok (.istore_n 2, 1) := by decide +kernel
theorem dX4_parseArgument_47 : decode cX4_parseArgument 47 = .ok (.aload_n 0, 1) := by decide +kernel
theorem dX4_parseArgument_48 : decode cX4_parseArgument 48 = .ok (.dup, 1) := by decide +kernel
theorem dX4_parseArgument_49 : decode cX4_parseArgument 49 = .ok (.getfield 28, 3) := by decide +kernel
theorem dX4_parseArgument_52 : decode cX4_parseArgument 52 = .ok (.iconst 1, 1) := by decide +kernel
theorem dX4_parseArgument_53 : decode cX4_parseArgument 53 = .ok (.iadd, 1) := by decide +kernel
theorem dX4_parseArgument_54 : decode cX4_parseArgument 54 = .ok (.putfield 28, 3) := by decide +kernel
theorem dX4_parseArgument_57 : decode cX4_parseArgument 57 = .ok (.aload_n 0, 1) := by decide +kernel
theorem dX4_parseArgument_58 : decode cX4_parseArgument 58 = .ok (.invokevirtual 50, 3) := by decide +kernel
theorem dX4_parseArgument_61 : decode cX4_parseArgument 61 = .ok (.ifCond .eq 5, 3) := by decide +kernel
theorem dX4_parseArgument_64 : decode cX4_parseArgument 64 = .ok (.iconst 0, 1) := by decide +kernel
theorem dX4_parseArgument_65 : decode cX4_parseArgument 65 = .ok (.ireturn, 1) := by decide +kernel
theorem dX4_parseArgument_66 : decode cX4_parseArgument 66 = .ok (.aload_n 0, 1) := by decide +kernel
theorem dX4_parseArgument_67 : decode cX4_parseArgument 67 = .ok (.invokevirtual 31, 3) := by decide +kernel
theorem dX4_parseArgument_70 : decode cX4_parseArgument 70 = .ok (.aload_n 0, 1) := by decide +kernel
theorem dX4_parseArgument_71 : decode cX4_parseArgument 71 = .ok (.getfield 18, 3) := by decide +kernel
theorem dX4_parseArgument_74 : decode cX4_parseArgument 74 = .ok (.iload_n 1, 1) := by decide +kernel
theorem dX4_parseArgument_75 : decode cX4_parseArgument 75 = .ok (.iload_n 2, 1) := by decide +kernel
theorem dX4_parseArgument_76 : decode cX4_parseArgument 76 = .ok (.iastore, 1) := by decide +kernel
theorem dX4_parseArgument_77 : decode cX4_parseArgument 77 = .ok (.iconst 1, 1) := by decide +kernel
theorem dX4_parseArgument_78 : decode cX4_parseArgument 78 = .ok (.ireturn, 1) := by decide +kernel
theorem dX4_skipSpaces_0 : decode cX4_skipSpaces 0 = .ok (.aload_n 0, 1) := by decide +kernel
theorem dX4_skipSpaces_1 : decode cX4_skipSpaces 1 = .ok (.getfield 28, 3) := by decide +kernel
theorem dX4_skipSpaces_4 : decode cX4_skipSpaces 4 = .ok (.aload_n 0, 1) := by decide +kernel
theorem dX4_skipSpaces_5 : decode cX4_skipSpaces 5 = .ok (.getfield 21, 3) := by decide +kernel
theorem dX4_skipSpaces_8 : decode cX4_skipSpaces 8 = .ok (.if_icmp .ge 30, 3) := by decide +kernel
theorem dX4_skipSpaces_11 : decode cX4_skipSpaces 11 = .ok (.aload_n 0, 1) := by decide +kernel
theorem dX4_skipSpaces_12 : decode cX4_skipSpaces 12 = .ok (.getfield 9, 3) := by decide +kernel
theorem dX4_skipSpaces_15 : decode cX4_skipSpaces 15 = .ok (.aload_n 0, 1) := by decide +kernel
theorem dX4_skipSpaces_16 : decode cX4_skipSpaces 16 = .ok (.getfield 28, 3) := by decide +kernel
theorem dX4_skipSpaces_19 : decode cX4_skipSpaces 19 = .ok (.iaload, 1) := by decide +kernel
theorem dX4_skipSpaces_20 : decode cX4_skipSpaces 20 = .ok (.bipush 32, 2) := by decide +kernel
theorem dX4_skipSpaces_22 : decode cX4_skipSpaces 22 = .ok (.if_icmp .ne 16, 3) := by decide +kernel
theorem dX4_skipSpaces_25 : decode cX4_skipSpaces 25 = .ok (.aload_n 0, 1) := by decide +kernel
theorem dX4_skipSpaces_26 : decode cX4_skipSpaces 26 = .ok (.dup, 1) := by decide +kernel
theorem dX4_skipSpaces_27 : decode cX4_skipSpaces 27 = .ok (.getfield 28, 3) := by decide +kernel
theorem dX4_skipSpaces_30 : decode cX4_skipSpaces 30 = .ok (.iconst 1, 1) := by decide +kernel
theorem dX4_skipSpaces_31 : decode cX4_skipSpaces 31 = .ok (.iadd, 1) := by decide +kernel
theorem dX4_skipSpaces_32 : decode cX4_skipSpaces 32 = .ok (.putfield 28, 3) := by decide +kernel
theorem dX4_skipSpaces_35 : decode cX4_skipSpaces 35 = .ok (.goto (-35), 3) := by decide +kernel
theorem dX4_skipSpaces_38 : decode cX4_skipSpaces 38 = .ok (.return_, 1) := by decide +kernel
theorem dX4_byteHere_0 : decode cX4_byteHere 0 = .ok (.aload_n 0, 1) := by decide +kernel
theorem dX4_byteHere_1 : decode cX4_byteHere 1 = .ok (.getfield 28, 3) := by decide +kernel
theorem dX4_byteHere_4 : decode cX4_byteHere 4 = .ok (.aload_n 0, 1) := by decide +kernel
theorem dX4_byteHere_5 : decode cX4_byteHere 5 = .ok (.getfield 21, 3) := by decide +kernel
theorem dX4_byteHere_8 : decode cX4_byteHere 8 = .ok (.if_icmp .ge 15, 3) := by decide +kernel
theorem dX4_byteHere_11 : decode cX4_byteHere 11 = .ok (.aload_n 0, 1) := by decide +kernel
theorem dX4_byteHere_12 : decode cX4_byteHere 12 = .ok (.getfield 9, 3) := by decide +kernel
theorem dX4_byteHere_15 : decode cX4_byteHere 15 = .ok (.aload_n 0, 1) := by decide +kernel
theorem dX4_byteHere_16 : decode cX4_byteHere 16 = .ok (.getfield 28, 3) := by decide +kernel
theorem dX4_byteHere_19 : decode cX4_byteHere 19 = .ok (.iaload, 1) := by decide +kernel
theorem dX4_byteHere_20 : decode cX4_byteHere 20 = .ok (.goto 4, 3) := by decide +kernel
theorem dX4_byteHere_23 : decode cX4_byteHere 23 = .ok (.iconst (-1), 1) := by decide +kernel
theorem dX4_byteHere_24 : decode cX4_byteHere 24 = .ok (.ireturn, 1) := by decide +kernel
theorem dX4_isDigitHere_0 : decode cX4_isDigitHere 0 = .ok (.aload_n 0, 1) := by decide +kernel
theorem dX4_isDigitHere_1 : decode cX4_isDigitHere 1 = .ok (.invokevirtual 38, 3) := by decide +kernel
theorem dX4_isDigitHere_4 : decode cX4_isDigitHere 4 = .ok (.istore_n 1, 1) := by decide +kernel
theorem dX4_isDigitHere_5 : decode cX4_isDigitHere 5 = .ok (.iload_n 1, 1) := by decide +kernel
theorem dX4_isDigitHere_6 : decode cX4_isDigitHere 6 = .ok (.bipush 48, 2) := by decide +kernel
theorem dX4_isDigitHere_8 : decode cX4_isDigitHere 8 = .ok (.if_icmp .lt 13, 3) := by decide +kernel
theorem dX4_isDigitHere_11 : decode cX4_isDigitHere 11 = .ok (.iload_n 1, 1) := by decide +kernel
theorem dX4_isDigitHere_12 : decode cX4_isDigitHere 12 = .ok (.bipush 57, 2) := by decide +kernel
theorem dX4_isDigitHere_14 : decode cX4_isDigitHere 14 = .ok (.if_icmp .gt 7, 3) := by decide +kernel
theorem dX4_isDigitHere_17 : decode cX4_isDigitHere 17 = .ok (.iconst 1, 1) := by decide +kernel
theorem dX4_isDigitHere_18 : decode cX4_isDigitHere 18 = .ok (.goto 4, 3) := by decide +kernel
theorem dX4_isDigitHere_21 : decode cX4_isDigitHere 21 = .ok (.iconst 0, 1) := by decide +kernel
theorem dX4_isDigitHere_22 : decode cX4_isDigitHere 22 = .ok (.ireturn, 1) := by decide +kernel
theorem dX4_argumentsOf_0 : decode cX4_argumentsOf 0 = .ok (.iload_n 0, 1) := by decide +kernel
theorem dX4_argumentsOf_1 : decode cX4_argumentsOf 1 = .ok (.tableswitch 115 97 119 #[109, 115, 115, 115, 107, 109, 115, 115, 115, 115, 115, 107, 113, 115, 115, 113, 115, 111, 113, 115, 115, 115, 113], 107) := by decide +kernel
theorem dX4_argumentsOf_108 : decode cX4_argumentsOf 108 = .ok (.iconst 0, 1) := by decide +kernel
theorem dX4_argumentsOf_109 : decode cX4_argumentsOf 109 = .ok (.ireturn, 1) := by decide +kernel
theorem dX4_argumentsOf_110 : decode cX4_argumentsOf 110 = .ok (.iconst 1, 1) := by decide +kernel
theorem dX4_argumentsOf_111 : decode cX4_argumentsOf 111 = .ok (.ireturn, 1) := by decide +kernel
theorem dX4_argumentsOf_112 : decode cX4_argumentsOf 112 = .ok (.iconst 2, 1) := by decide +kernel
theorem dX4_argumentsOf_113 : decode cX4_argumentsOf 113 = .ok (.ireturn, 1) := by decide +kernel
theorem dX4_argumentsOf_114 : decode cX4_argumentsOf 114 = .ok (.iconst 3, 1) := by decide +kernel
theorem dX4_argumentsOf_115 : decode cX4_argumentsOf 115 = .ok (.ireturn, 1) := by decide +kernel
theorem dX4_argumentsOf_116 : decode cX4_argumentsOf 116 = .ok (.iconst (-1), 1) := by decide +kernel
theorem dX4_argumentsOf_117 : decode cX4_argumentsOf 117 = .ok (.ireturn, 1) := by decide +kernel
theorem dX5_init_0 : decode cX5_init 0 = .ok (.aload_n 0, 1) := by decide +kernel
theorem dX5_init_1 : decode cX5_init 1 = .ok (.invokespecial 3, 3) := by decide +kernel
theorem dX5_init_4 : decode cX5_init 4 = .ok (.aload_n 0, 1) := by decide +kernel
theorem dX5_init_5 : decode cX5_init 5 = .ok (.bipush 10, 2) := by decide +kernel
theorem dX5_init_7 : decode cX5_init 7 = .ok (.anewarray 9, 3) := by decide +kernel
theorem dX5_init_10 : decode cX5_init 10 = .ok (.putfield 11, 3) := by decide +kernel
theorem dX5_init_13 : decode cX5_init 13 = .ok (.aload_n 0, 1) := by decide +kernel
theorem dX5_init_14 : decode cX5_init 14 = .ok (.bipush 60, 2) := by decide +kernel
theorem dX5_init_16 : decode cX5_init 16 = .ok (.anewarray 15, 3) := by decide +kernel
theorem dX5_init_19 : decode cX5_init 19 = .ok (.putfield 17, 3) := by decide +kernel
theorem dX5_init_22 : decode cX5_init 22 = .ok (.aload_n 0, 1) := by decide +kernel
theorem dX5_init_23 : decode cX5_init 23 = .ok (.new 21, 3) := by decide +kernel
theorem dX5_init_26 : decode cX5_init 26 = .ok (.dup, 1) := by decide +kernel
theorem dX5_init_27 : decode cX5_init 27 = .ok (.invokespecial 23, 3) := by decide +kernel
theorem dX5_init_30 : decode cX5_init 30 = .ok (.putfield 24, 3) := by decide +kernel
theorem dX5_init_33 : decode cX5_init 33 = .ok (.aload_n 0, 1) := by decide +kernel
theorem dX5_init_34 : decode cX5_init 34 = .ok (.new 28, 3) := by decide +kernel
theorem dX5_init_37 : decode cX5_init 37 = .ok (.dup, 1) := by decide +kernel
theorem dX5_init_38 : decode cX5_init 38 = .ok (.invokespecial 30, 3) := by decide +kernel
theorem dX5_init_41 : decode cX5_init 41 = .ok (.putfield 31, 3) := by decide +kernel
theorem dX5_init_44 : decode cX5_init 44 = .ok (.aload_n 0, 1) := by decide +kernel
theorem dX5_init_45 : decode cX5_init 45 = .ok (.iconst 3, 1) := by decide +kernel
theorem dX5_init_46 : decode cX5_init 46 = .ok (.newarray .int, 2) := by decide +kernel
theorem dX5_init_48 : decode cX5_init 48 = .ok (.putfield 35, 3) := by decide +kernel
theorem dX5_init_51 : decode cX5_init 51 = .ok (.aload_n 0, 1) := by decide +kernel
theorem dX5_init_52 : decode cX5_init 52 = .ok (.iconst 0, 1) := by decide +kernel
theorem dX5_init_53 : decode cX5_init 53 = .ok (.putfield 39, 3) := by decide +kernel
theorem dX5_init_56 : decode cX5_init 56 = .ok (.aload_n 0, 1) := by decide +kernel
theorem dX5_init_57 : decode cX5_init 57 = .ok (.iconst (-1), 1) := by decide +kernel
theorem dX5_init_58 : decode cX5_init 58 = .ok (.putfield 43, 3) := by decide +kernel
theorem dX5_init_61 : decode cX5_init 61 = .ok (.return_, 1) := by decide +kernel
theorem dX5_allocate_0 : decode cX5_allocate 0 = .ok (.aload_n 0, 1) := by decide +kernel
theorem dX5_allocate_1 : decode cX5_allocate 1 = .ok (.aload_n 0, 1) := by decide +kernel
theorem dX5_allocate_2 : decode cX5_allocate 2 = .ok (.iload_n 1, 1) := by decide +kernel
theorem dX5_allocate_3 : decode cX5_allocate 3 = .ok (.invokevirtual 46, 3) := by decide +kernel
theorem dX5_allocate_6 : decode cX5_allocate 6 = .ok (.invokevirtual 50, 3) := by decide +kernel
theorem dX5_allocate_9 : decode cX5_allocate 9 = .ok (.ireturn, 1) := by decide +kernel
theorem dX5_read_0 : decode cX5_read 0 = .ok (.aload_n 0, 1) := by decide +kernel
theorem dX5_read_1 : decode cX5_read 1 = .ok (.aload_n 0, 1) := by decide +kernel
theorem dX5_read_2 : decode cX5_read 2 = .ok (.iload_n 1, 1) := by decide +kernel
theorem dX5_read_3 : decode cX5_read 3 = .ok (.iload_n 2, 1) := by decide +kernel
theorem dX5_read_4 : decode cX5_read 4 = .ok (.invokevirtual 53, 3) := by decide +kernel
theorem dX5_read_7 : decode cX5_read 7 = .ok (.invokevirtual 50, 3) := by decide +kernel
theorem dX5_read_10 : decode cX5_read 10 = .ok (.ireturn, 1) := by decide +kernel
theorem dX5_write_0 : decode cX5_write 0 = .ok (.aload_n 0, 1) := by decide +kernel
theorem dX5_write_1 : decode cX5_write 1 = .ok (.aload_n 0, 1) := by decide +kernel
theorem dX5_write_2 : decode cX5_write 2 = .ok (.iload_n 1, 1) := by decide +kernel
theorem dX5_write_3 : decode cX5_write 3 = .ok (.iload_n 2, 1) := by decide +kernel
theorem dX5_write_4 : decode cX5_write 4 = .ok (.iload_n 3, 1) := by decide +kernel
theorem dX5_write_5 : decode cX5_write 5 = .ok (.invokevirtual 57, 3) := by decide +kernel
theorem dX5_write_8 : decode cX5_write 8 = .ok (.invokevirtual 50, 3) := by decide +kernel
theorem dX5_write_11 : decode cX5_write 11 = .ok (.ireturn, 1) := by decide +kernel
theorem dX5_reborrow_0 : decode cX5_reborrow 0 = .ok (.aload_n 0, 1) := by decide +kernel
theorem dX5_reborrow_1 : decode cX5_reborrow 1 = .ok (.aload_n 0, 1) := by decide +kernel
theorem dX5_reborrow_2 : decode cX5_reborrow 2 = .ok (.iload_n 1, 1) := by decide +kernel
theorem dX5_reborrow_3 : decode cX5_reborrow 3 = .ok (.iload_n 2, 1) := by decide +kernel
theorem dX5_reborrow_4 : decode cX5_reborrow 4 = .ok (.iload_n 3, 1) := by decide +kernel
theorem dX5_reborrow_5 : decode cX5_reborrow 5 = .ok (.iload 4, 2) := by decide +kernel
theorem dX5_reborrow_7 : decode cX5_reborrow 7 = .ok (.iload 5, 2) := by decide +kernel
theorem dX5_reborrow_9 : decode cX5_reborrow 9 = .ok (.invokevirtual 61, 3) := by decide +kernel
theorem dX5_reborrow_12 : decode cX5_reborrow 12 = .ok (.invokevirtual 50, 3) := by decide +kernel
theorem dX5_reborrow_15 : decode cX5_reborrow 15 = .ok (.ireturn, 1) := by decide +kernel
theorem dX5_free_0 : decode cX5_free 0 = .ok (.aload_n 0, 1) := by decide +kernel
theorem dX5_free_1 : decode cX5_free 1 = .ok (.aload_n 0, 1) := by decide +kernel
theorem dX5_free_2 : decode cX5_free 2 = .ok (.iload_n 1, 1) := by decide +kernel
theorem dX5_free_3 : decode cX5_free 3 = .ok (.invokevirtual 65, 3) := by decide +kernel
theorem dX5_free_6 : decode cX5_free 6 = .ok (.invokevirtual 50, 3) := by decide +kernel
theorem dX5_free_9 : decode cX5_free 9 = .ok (.ireturn, 1) := by decide +kernel
theorem dX5_enterCall_0 : decode cX5_enterCall 0 = .ok (.aload_n 0, 1) := by decide +kernel
theorem dX5_enterCall_1 : decode cX5_enterCall 1 = .ok (.aload_n 0, 1) := by decide +kernel
theorem dX5_enterCall_2 : decode cX5_enterCall 2 = .ok (.invokevirtual 68, 3) := by decide +kernel
theorem dX5_enterCall_5 : decode cX5_enterCall 5 = .ok (.invokevirtual 50, 3) := by decide +kernel
theorem dX5_enterCall_8 : decode cX5_enterCall 8 = .ok (.ireturn, 1) := by decide +kernel
theorem dX5_leaveCall_0 : decode cX5_leaveCall 0 = .ok (.aload_n 0, 1) := by decide +kernel
theorem dX5_leaveCall_1 : decode cX5_leaveCall 1 = .ok (.aload_n 0, 1) := by decide +kernel
theorem dX5_leaveCall_2 : decode cX5_leaveCall 2 = .ok (.invokevirtual 72, 3) := by decide +kernel
theorem dX5_leaveCall_5 : decode cX5_leaveCall 5 = .ok (.invokevirtual 50, 3) := by decide +kernel
theorem dX5_leaveCall_8 : decode cX5_leaveCall 8 = .ok (.ireturn, 1) := by decide +kernel
theorem dX5_checkRead_0 : decode cX5_checkRead 0 = .ok (.aload_n 0, 1) := by decide +kernel
theorem dX5_checkRead_1 : decode cX5_checkRead 1 = .ok (.iload_n 1, 1) := by decide +kernel
theorem dX5_checkRead_2 : decode cX5_checkRead 2 = .ok (.invokevirtual 75, 3) := by decide +kernel
theorem dX5_checkRead_5 : decode cX5_checkRead 5 = .ok (.astore_n 3, 1) := by decide +kernel
theorem dX5_checkRead_6 : decode cX5_checkRead 6 = .ok (.aload_n 3, 1) := by decide +kernel
theorem dX5_checkRead_7 : decode cX5_checkRead 7 = .ok (.iload_n 2, 1) := by decide +kernel
theorem dX5_checkRead_8 : decode cX5_checkRead 8 = .ok (.invokestatic 79, 3) := by decide +kernel
theorem dX5_checkRead_11 : decode cX5_checkRead 11 = .ok (.astore 4, 2) := by decide +kernel
theorem dX5_checkRead_13 : decode cX5_checkRead 13 = .ok (.aload_n 3, 1) := by decide +kernel
theorem dX5_checkRead_14 : decode cX5_checkRead 14 = .ok (.ifnull 8, 3) := by decide +kernel
theorem dX5_checkRead_17 : decode cX5_checkRead 17 = .ok (.aload 4, 2) := by decide +kernel
theorem dX5_checkRead_19 : decode cX5_checkRead 19 = .ok (.ifnonnull 10, 3) := by decide +kernel
theorem dX5_checkRead_22 : decode cX5_checkRead 22 = .ok (.aload_n 0, 1) := by decide +kernel
theorem dX5_checkRead_23 : decode cX5_checkRead 23 = .ok (.bipush (-2), 2) := by decide +kernel
theorem dX5_checkRead_25 : decode cX5_checkRead 25 = .ok (.invokevirtual 50, 3) := by decide +kernel
theorem dX5_checkRead_28 : decode cX5_checkRead 28 = .ok (.ireturn, 1) := by decide +kernel
theorem dX5_checkRead_29 : decode cX5_checkRead 29 = .ok (.aload_n 3, 1) := by decide +kernel
theorem dX5_checkRead_30 : decode cX5_checkRead 30 = .ok (.getfield 83, 3) := by decide +kernel
theorem dX5_checkRead_33 : decode cX5_checkRead 33 = .ok (.getfield 87, 3) := by decide +kernel
theorem dX5_checkRead_36 : decode cX5_checkRead 36 = .ok (.ifCond .eq 7, 3) := by decide +kernel
theorem dX5_checkRead_39 : decode cX5_checkRead 39 = .ok (.iconst 3, 1) := by decide +kernel
theorem dX5_checkRead_40 : decode cX5_checkRead 40 = .ok (.goto 13, 3) := by decide +kernel
theorem dX5_checkRead_43 : decode cX5_checkRead 43 = .ok (.aload 4, 2) := by decide +kernel
theorem dX5_checkRead_45 : decode cX5_checkRead 45 = .ok (.iload_n 1, 1) := by decide +kernel
theorem dX5_checkRead_46 : decode cX5_checkRead 46 = .ok (.aload_n 0, 1) := by decide +kernel
theorem dX5_checkRead_47 : decode cX5_checkRead 47 = .ok (.getfield 24, 3) := by decide +kernel
theorem dX5_checkRead_50 : decode cX5_checkRead 50 = .ok (.invokevirtual 91, 3) := by decide +kernel
theorem dX5_checkRead_53 : decode cX5_checkRead 53 = .ok (.ireturn, 1) := by decide +kernel
theorem dX5_checkWrite_0 : decode cX5_checkWrite 0 = .ok (.aload_n 0, 1) := by decide +kernel
theorem dX5_checkWrite_1 : decode cX5_checkWrite 1 = .ok (.iload_n 1, 1) := by decide +kernel
theorem dX5_checkWrite_2 : decode cX5_checkWrite 2 = .ok (.invokevirtual 75, 3) := by decide +kernel
theorem dX5_checkWrite_5 : decode cX5_checkWrite 5 = .ok (.astore_n 3, 1) := by decide +kernel
theorem dX5_checkWrite_6 : decode cX5_checkWrite 6 = .ok (.aload_n 3, 1) := by decide +kernel
theorem dX5_checkWrite_7 : decode cX5_checkWrite 7 = .ok (.iload_n 2, 1) := by decide +kernel
theorem dX5_checkWrite_8 : decode cX5_checkWrite 8 = .ok (.invokestatic 79, 3) := by decide +kernel
theorem dX5_checkWrite_11 : decode cX5_checkWrite 11 = .ok (.astore 4, 2) := by decide +kernel
theorem dX5_checkWrite_13 : decode cX5_checkWrite 13 = .ok (.aload_n 3, 1) := by decide +kernel
theorem dX5_checkWrite_14 : decode cX5_checkWrite 14 = .ok (.ifnull 8, 3) := by decide +kernel
theorem dX5_checkWrite_17 : decode cX5_checkWrite 17 = .ok (.aload 4, 2) := by decide +kernel
theorem dX5_checkWrite_19 : decode cX5_checkWrite 19 = .ok (.ifnonnull 10, 3) := by decide +kernel
theorem dX5_checkWrite_22 : decode cX5_checkWrite 22 = .ok (.aload_n 0, 1) := by decide +kernel
theorem dX5_checkWrite_23 : decode cX5_checkWrite 23 = .ok (.bipush (-2), 2) := by decide +kernel
theorem dX5_checkWrite_25 : decode cX5_checkWrite 25 = .ok (.invokevirtual 50, 3) := by decide +kernel
theorem dX5_checkWrite_28 : decode cX5_checkWrite 28 = .ok (.ireturn, 1) := by decide +kernel
theorem dX5_checkWrite_29 : decode cX5_checkWrite 29 = .ok (.aload_n 3, 1) := by decide +kernel
theorem dX5_checkWrite_30 : decode cX5_checkWrite 30 = .ok (.getfield 83, 3) := by decide +kernel
theorem dX5_checkWrite_33 : decode cX5_checkWrite 33 = .ok (.getfield 87, 3) := by decide +kernel
theorem dX5_checkWrite_36 : decode cX5_checkWrite 36 = .ok (.ifCond .eq 7, 3) := by decide +kernel
theorem dX5_checkWrite_39 : decode cX5_checkWrite 39 = .ok (.iconst 3, 1) := by decide +kernel
theorem dX5_checkWrite_40 : decode cX5_checkWrite 40 = .ok (.goto 13, 3) := by decide +kernel
theorem dX5_checkWrite_43 : decode cX5_checkWrite 43 = .ok (.aload 4, 2) := by decide +kernel
theorem dX5_checkWrite_45 : decode cX5_checkWrite 45 = .ok (.iload_n 1, 1) := by decide +kernel
theorem dX5_checkWrite_46 : decode cX5_checkWrite 46 = .ok (.aload_n 0, 1) := by decide +kernel
theorem dX5_checkWrite_47 : decode cX5_checkWrite 47 = .ok (.getfield 24, 3) := by decide +kernel
theorem dX5_checkWrite_50 : decode cX5_checkWrite 50 = .ok (.invokevirtual 97, 3) := by decide +kernel
theorem dX5_checkWrite_53 : decode cX5_checkWrite 53 = .ok (.ireturn, 1) := by decide +kernel
theorem dX5_checkFree_0 : decode cX5_checkFree 0 = .ok (.aload_n 0, 1) := by decide +kernel
theorem dX5_checkFree_1 : decode cX5_checkFree 1 = .ok (.iload_n 1, 1) := by decide +kernel
theorem dX5_checkFree_2 : decode cX5_checkFree 2 = .ok (.invokevirtual 75, 3) := by decide +kernel
theorem dX5_checkFree_5 : decode cX5_checkFree 5 = .ok (.astore_n 2, 1) := by decide +kernel
theorem dX5_checkFree_6 : decode cX5_checkFree 6 = .ok (.aload_n 2, 1) := by decide +kernel
theorem dX5_checkFree_7 : decode cX5_checkFree 7 = .ok (.ifnonnull 10, 3) := by decide +kernel
theorem dX5_checkFree_10 : decode cX5_checkFree 10 = .ok (.aload_n 0, 1) := by decide +kernel
theorem dX5_checkFree_11 : decode cX5_checkFree 11 = .ok (.bipush (-2), 2) := by decide +kernel
theorem dX5_checkFree_13 : decode cX5_checkFree 13 = .ok (.invokevirtual 50, 3) := by decide +kernel
theorem dX5_checkFree_16 : decode cX5_checkFree 16 = .ok (.ireturn, 1) := by decide +kernel
theorem dX5_checkFree_17 : decode cX5_checkFree 17 = .ok (.aload_n 2, 1) := by decide +kernel
theorem dX5_checkFree_18 : decode cX5_checkFree 18 = .ok (.getfield 83, 3) := by decide +kernel
theorem dX5_checkFree_21 : decode cX5_checkFree 21 = .ok (.astore_n 3, 1) := by decide +kernel
theorem dX5_checkFree_22 : decode cX5_checkFree 22 = .ok (.aload_n 3, 1) := by decide +kernel
theorem dX5_checkFree_23 : decode cX5_checkFree 23 = .ok (.getfield 87, 3) := by decide +kernel
theorem dX5_checkFree_26 : decode cX5_checkFree 26 = .ok (.ifCond .eq 5, 3) := by decide +kernel
theorem dX5_checkFree_29 : decode cX5_checkFree 29 = .ok (.iconst 3, 1) := by decide +kernel
theorem dX5_checkFree_30 : decode cX5_checkFree 30 = .ok (.ireturn, 1) := by decide +kernel
theorem dX5_checkFree_31 : decode cX5_checkFree 31 = .ok (.aload_n 3, 1) := by decide +kernel
theorem dX5_checkFree_32 : decode cX5_checkFree 32 = .ok (.iload_n 1, 1) := by decide +kernel
theorem dX5_checkFree_33 : decode cX5_checkFree 33 = .ok (.aload_n 0, 1) := by decide +kernel
theorem dX5_checkFree_34 : decode cX5_checkFree 34 = .ok (.getfield 24, 3) := by decide +kernel
theorem dX5_checkFree_37 : decode cX5_checkFree 37 = .ok (.invokevirtual 100, 3) := by decide +kernel
theorem dX5_checkFree_40 : decode cX5_checkFree 40 = .ok (.istore 4, 2) := by decide +kernel
theorem dX5_checkFree_42 : decode cX5_checkFree 42 = .ok (.iload 4, 2) := by decide +kernel
theorem dX5_checkFree_44 : decode cX5_checkFree 44 = .ok (.iconst (-1), 1) := by decide +kernel
theorem dX5_checkFree_45 : decode cX5_checkFree 45 = .ok (.if_icmp .ne 7, 3) := by decide +kernel
theorem dX5_checkFree_48 : decode cX5_checkFree 48 = .ok (.iconst 0, 1) := by decide +kernel
theorem dX5_checkFree_49 : decode cX5_checkFree 49 = .ok (.goto 18, 3) := by decide +kernel
theorem dX5_checkFree_52 : decode cX5_checkFree 52 = .ok (.aload_n 3, 1) := by decide +kernel
theorem dX5_checkFree_53 : decode cX5_checkFree 53 = .ok (.getfield 103, 3) := by decide +kernel
theorem dX5_checkFree_56 : decode cX5_checkFree 56 = .ok (.iload 4, 2) := by decide +kernel
theorem dX5_checkFree_58 : decode cX5_checkFree 58 = .ok (.aaload, 1) := by decide +kernel
theorem dX5_checkFree_59 : decode cX5_checkFree 59 = .ok (.iload_n 1, 1) := by decide +kernel
theorem dX5_checkFree_60 : decode cX5_checkFree 60 = .ok (.aload_n 0, 1) := by decide +kernel
theorem dX5_checkFree_61 : decode cX5_checkFree 61 = .ok (.getfield 24, 3) := by decide +kernel
theorem dX5_checkFree_64 : decode cX5_checkFree 64 = .ok (.invokevirtual 107, 3) := by decide +kernel
theorem dX5_checkFree_67 : decode cX5_checkFree 67 = .ok (.ireturn, 1) := by decide +kernel
theorem dX5_removedByWrite_0 : decode cX5_removedByWrite 0 = .ok (.aload_n 0, 1) := by decide +kernel
theorem dX5_removedByWrite_1 : decode cX5_removedByWrite 1 = .ok (.iload_n 1, 1) := by decide +kernel
theorem dX5_removedByWrite_2 : decode cX5_removedByWrite 2 = .ok (.invokevirtual 75, 3) := by decide +kernel
theorem dX5_removedByWrite_5 : decode cX5_removedByWrite 5 = .ok (.astore_n 3, 1) := by decide +kernel
theorem dX5_removedByWrite_6 : decode cX5_removedByWrite 6 = .ok (.aload_n 3, 1) := by decide +kernel
theorem dX5_removedByWrite_7 : decode cX5_removedByWrite 7 = .ok (.iload_n 2, 1) := by decide +kernel
theorem dX5_removedByWrite_8 : decode cX5_removedByWrite 8 = .ok (.invokestatic 79, 3) := by decide +kernel
theorem dX5_removedByWrite_11 : decode cX5_removedByWrite 11 = .ok (.astore 4, 2) := by decide +kernel
theorem dX5_removedByWrite_13 : decode cX5_removedByWrite 13 = .ok (.aload_n 3, 1) := by decide +kernel
theorem dX5_removedByWrite_14 : decode cX5_removedByWrite 14 = .ok (.ifnull 8, 3) := by decide +kernel
theorem dX5_removedByWrite_17 : decode cX5_removedByWrite 17 = .ok (.aload 4, 2) := by decide +kernel
theorem dX5_removedByWrite_19 : decode cX5_removedByWrite 19 = .ok (.ifnonnull 10, 3) := by decide +kernel
theorem dX5_removedByWrite_22 : decode cX5_removedByWrite 22 = .ok (.aload_n 0, 1) := by decide +kernel
theorem dX5_removedByWrite_23 : decode cX5_removedByWrite 23 = .ok (.bipush (-2), 2) := by decide +kernel
theorem dX5_removedByWrite_25 : decode cX5_removedByWrite 25 = .ok (.invokevirtual 50, 3) := by decide +kernel
theorem dX5_removedByWrite_28 : decode cX5_removedByWrite 28 = .ok (.ireturn, 1) := by decide +kernel
theorem dX5_removedByWrite_29 : decode cX5_removedByWrite 29 = .ok (.aload_n 3, 1) := by decide +kernel
theorem dX5_removedByWrite_30 : decode cX5_removedByWrite 30 = .ok (.getfield 83, 3) := by decide +kernel
theorem dX5_removedByWrite_33 : decode cX5_removedByWrite 33 = .ok (.getfield 87, 3) := by decide +kernel
theorem dX5_removedByWrite_36 : decode cX5_removedByWrite 36 = .ok (.ifCond .ne 16, 3) := by decide +kernel
theorem dX5_removedByWrite_39 : decode cX5_removedByWrite 39 = .ok (.aload 4, 2) := by decide +kernel
theorem dX5_removedByWrite_41 : decode cX5_removedByWrite 41 = .ok (.iload_n 1, 1) := by decide +kernel
theorem dX5_removedByWrite_42 : decode cX5_removedByWrite 42 = .ok (.aload_n 0, 1) := by decide +kernel
theorem dX5_removedByWrite_43 : decode cX5_removedByWrite 43 = .ok (.getfield 24, 3) := by decide +kernel
theorem dX5_removedByWrite_46 : decode cX5_removedByWrite 46 = .ok (.invokevirtual 97, 3) := by decide +kernel
theorem dX5_removedByWrite_49 : decode cX5_removedByWrite 49 = .ok (.ifCond .eq 5, 3) := by decide +kernel
theorem dX5_removedByWrite_52 : decode cX5_removedByWrite 52 = .ok (.iconst (-1), 1) := by decide +kernel
theorem dX5_removedByWrite_53 : decode cX5_removedByWrite 53 = .ok (.ireturn, 1) := by decide +kernel
theorem dX5_removedByWrite_54 : decode cX5_removedByWrite 54 = .ok (.aload 4, 2) := by decide +kernel
theorem dX5_removedByWrite_56 : decode cX5_removedByWrite 56 = .ok (.getfield 110, 3) := by decide +kernel
theorem dX5_removedByWrite_59 : decode cX5_removedByWrite 59 = .ok (.aload 4, 2) := by decide +kernel
theorem dX5_removedByWrite_61 : decode cX5_removedByWrite 61 = .ok (.iload_n 1, 1) := by decide +kernel
theorem dX5_removedByWrite_62 : decode cX5_removedByWrite 62 = .ok (.invokevirtual 113, 3) := by decide +kernel
theorem dX5_removedByWrite_65 : decode cX5_removedByWrite 65 = .ok (.isub, 1) := by decide +kernel
theorem dX5_removedByWrite_66 : decode cX5_removedByWrite 66 = .ok (.ireturn, 1) := by decide +kernel
theorem dX5_stackSize_0 : decode cX5_stackSize 0 = .ok (.aload_n 0, 1) := by decide +kernel
theorem dX5_stackSize_1 : decode cX5_stackSize 1 = .ok (.iload_n 1, 1) := by decide +kernel
theorem dX5_stackSize_2 : decode cX5_stackSize 2 = .ok (.iload_n 2, 1) := by decide +kernel
theorem dX5_stackSize_3 : decode cX5_stackSize 3 = .ok (.invokevirtual 116, 3) := by decide +kernel
theorem dX5_stackSize_6 : decode cX5_stackSize 6 = .ok (.astore_n 3, 1) := by decide +kernel
theorem dX5_stackSize_7 : decode cX5_stackSize 7 = .ok (.aload_n 3, 1) := by decide +kernel
theorem dX5_stackSize_8 : decode cX5_stackSize 8 = .ok (.ifnonnull 12, 3) := by decide +kernel
theorem dX5_stackSize_11 : decode cX5_stackSize 11 = .ok (.aload_n 0, 1) := by decide +kernel
theorem dX5_stackSize_12 : decode cX5_stackSize 12 = .ok (.bipush (-2), 2) := by decide +kernel
theorem dX5_stackSize_14 : decode cX5_stackSize 14 = .ok (.invokevirtual 50, 3) := by decide +kernel
theorem dX5_stackSize_17 : decode cX5_stackSize 17 = .ok (.goto 7, 3) := by decide +kernel
theorem dX5_stackSize_20 : decode cX5_stackSize 20 = .ok (.aload_n 3, 1) := by decide +kernel
theorem dX5_stackSize_21 : decode cX5_stackSize 21 = .ok (.getfield 110, 3) := by decide +kernel
theorem dX5_stackSize_24 : decode cX5_stackSize 24 = .ok (.ireturn, 1) := by decide +kernel
theorem dX5_itemTag_0 : decode cX5_itemTag 0 = .ok (.aload_n 0, 1) := by decide +kernel
theorem dX5_itemTag_1 : decode cX5_itemTag 1 = .ok (.iload_n 1, 1) := by decide +kernel
theorem dX5_itemTag_2 : decode cX5_itemTag 2 = .ok (.iload_n 2, 1) := by decide +kernel
theorem dX5_itemTag_3 : decode cX5_itemTag 3 = .ok (.invokevirtual 116, 3) := by decide +kernel
theorem dX5_itemTag_6 : decode cX5_itemTag 6 = .ok (.astore 4, 2) := by decide +kernel
theorem dX5_itemTag_8 : decode cX5_itemTag 8 = .ok (.aload 4, 2) := by decide +kernel
theorem dX5_itemTag_10 : decode cX5_itemTag 10 = .ok (.ifnull 12, 3) := by decide +kernel
theorem dX5_itemTag_13 : decode cX5_itemTag 13 = .ok (.aload 4, 2) := by decide +kernel
theorem dX5_itemTag_15 : decode cX5_itemTag 15 = .ok (.iload_n 3, 1) := by decide +kernel
theorem dX5_itemTag_16 : decode cX5_itemTag 16 = .ok (.invokevirtual 120, 3) := by decide +kernel
theorem dX5_itemTag_19 : decode cX5_itemTag 19 = .ok (.ifCond .ne 10, 3) := by decide +kernel
theorem dX5_itemTag_22 : decode cX5_itemTag 22 = .ok (.aload_n 0, 1) := by decide +kernel
theorem dX5_itemTag_23 : decode cX5_itemTag 23 = .ok (.bipush (-2), 2) := by decide +kernel
theorem dX5_itemTag_25 : decode cX5_itemTag 25 = .ok (.invokevirtual 50, 3) := by decide +kernel
theorem dX5_itemTag_28 : decode cX5_itemTag 28 = .ok (.ireturn, 1) := by decide +kernel
theorem dX5_itemTag_29 : decode cX5_itemTag 29 = .ok (.aload 4, 2) := by decide +kernel
theorem dX5_itemTag_31 : decode cX5_itemTag 31 = .ok (.getfield 124, 3) := by decide +kernel
theorem dX5_itemTag_34 : decode cX5_itemTag 34 = .ok (.iload_n 3, 1) := by decide +kernel
theorem dX5_itemTag_35 : decode cX5_itemTag 35 = .ok (.iaload, 1) := by decide +kernel
theorem dX5_itemTag_36 : decode cX5_itemTag 36 = .ok (.ireturn, 1) := by decide +kernel
theorem dX5_itemPermission_0 : decode cX5_itemPermission 0 = .ok (.aload_n 0, 1) := by decide +kernel
theorem dX5_itemPermission_1 : decode cX5_itemPermission 1 = .ok (.iload_n 1, 1) := by decide +kernel
theorem dX5_itemPermission_2 : decode cX5_itemPermission 2 = .ok (.iload_n 2, 1) := by decide +kernel
theorem dX5_itemPermission_3 : decode cX5_itemPermission 3 = .ok (.invokevirtual 116, 3) := by decide +kernel
theorem dX5_itemPermission_6 : decode cX5_itemPermission 6 = .ok (.astore 4, 2) := by decide +kernel
theorem dX5_itemPermission_8 : decode cX5_itemPermission 8 = .ok (.aload 4, 2) := by decide +kernel
theorem dX5_itemPermission_10 : decode cX5_itemPermission 10 = .ok (.ifnull 12, 3) := by decide +kernel
theorem dX5_itemPermission_13 : decode cX5_itemPermission 13 = .ok (.aload 4, 2) := by decide +kernel
theorem dX5_itemPermission_15 : decode cX5_itemPermission 15 = .ok (.iload_n 3, 1) := by decide +kernel
theorem dX5_itemPermission_16 : decode cX5_itemPermission 16 = .ok (.invokevirtual 120, 3) := by decide +kernel
theorem dX5_itemPermission_19 : decode cX5_itemPermission 19 = .ok (.ifCond .ne 10, 3) := by decide +kernel
theorem dX5_itemPermission_22 : decode cX5_itemPermission 22 = .ok (.aload_n 0, 1) := by decide +kernel
theorem dX5_itemPermission_23 : decode cX5_itemPermission 23 = .ok (.bipush (-2), 2) := by decide +kernel
theorem dX5_itemPermission_25 : decode cX5_itemPermission 25 = .ok (.invokevirtual 50, 3) := by decide +kernel
theorem dX5_itemPermission_28 : decode cX5_itemPermission 28 = .ok (.ireturn, 1) := by decide +kernel
theorem dX5_itemPermission_29 : decode cX5_itemPermission 29 = .ok (.aload 4, 2) := by decide +kernel
theorem dX5_itemPermission_31 : decode cX5_itemPermission 31 = .ok (.getfield 127, 3) := by decide +kernel
theorem dX5_itemPermission_34 : decode cX5_itemPermission 34 = .ok (.iload_n 3, 1) := by decide +kernel
theorem dX5_itemPermission_35 : decode cX5_itemPermission 35 = .ok (.iaload, 1) := by decide +kernel
theorem dX5_itemPermission_36 : decode cX5_itemPermission 36 = .ok (.ireturn, 1) := by decide +kernel
theorem dX5_itemProtected_0 : decode cX5_itemProtected 0 = .ok (.aload_n 0, 1) := by decide +kernel
theorem dX5_itemProtected_1 : decode cX5_itemProtected 1 = .ok (.iload_n 1, 1) := by decide +kernel
theorem dX5_itemProtected_2 : decode cX5_itemProtected 2 = .ok (.iload_n 2, 1) := by decide +kernel
theorem dX5_itemProtected_3 : decode cX5_itemProtected 3 = .ok (.invokevirtual 116, 3) := by decide +kernel
theorem dX5_itemProtected_6 : decode cX5_itemProtected 6 = .ok (.astore 4, 2) := by decide +kernel
theorem dX5_itemProtected_8 : decode cX5_itemProtected 8 = .ok (.aload 4, 2) := by decide +kernel
theorem dX5_itemProtected_10 : decode cX5_itemProtected 10 = .ok (.ifnull 12, 3) := by decide +kernel
theorem dX5_itemProtected_13 : decode cX5_itemProtected 13 = .ok (.aload 4, 2) := by decide +kernel
theorem dX5_itemProtected_15 : decode cX5_itemProtected 15 = .ok (.iload_n 3, 1) := by decide +kernel
theorem dX5_itemProtected_16 : decode cX5_itemProtected 16 = .ok (.invokevirtual 120, 3) := by decide +kernel
theorem dX5_itemProtected_19 : decode cX5_itemProtected 19 = .ok (.ifCond .ne 10, 3) := by decide +kernel
theorem dX5_itemProtected_22 : decode cX5_itemProtected 22 = .ok (.aload_n 0, 1) := by decide +kernel
theorem dX5_itemProtected_23 : decode cX5_itemProtected 23 = .ok (.bipush (-2), 2) := by decide +kernel
theorem dX5_itemProtected_25 : decode cX5_itemProtected 25 = .ok (.invokevirtual 50, 3) := by decide +kernel
theorem dX5_itemProtected_28 : decode cX5_itemProtected 28 = .ok (.ireturn, 1) := by decide +kernel
theorem dX5_itemProtected_29 : decode cX5_itemProtected 29 = .ok (.aload_n 0, 1) := by decide +kernel
theorem dX5_itemProtected_30 : decode cX5_itemProtected 30 = .ok (.getfield 24, 3) := by decide +kernel
theorem dX5_itemProtected_33 : decode cX5_itemProtected 33 = .ok (.aload 4, 2) := by decide +kernel
theorem dX5_itemProtected_35 : decode cX5_itemProtected 35 = .ok (.getfield 130, 3) := by decide +kernel
theorem dX5_itemProtected_38 : decode cX5_itemProtected 38 = .ok (.iload_n 3, 1) := by decide +kernel
theorem dX5_itemProtected_39 : decode cX5_itemProtected 39 = .ok (.iaload, 1) := by decide +kernel
theorem dX5_itemProtected_40 : decode cX5_itemProtected 40 = .ok (.invokevirtual 133, 3) := by decide +kernel
theorem dX5_itemProtected_43 : decode cX5_itemProtected 43 = .ok (.invokestatic 136, 3) := by decide +kernel
theorem dX5_itemProtected_46 : decode cX5_itemProtected 46 = .ok (.ireturn, 1) := by decide +kernel
theorem dX5_allocationOf_0 : decode cX5_allocationOf 0 = .ok (.aload_n 0, 1) := by decide +kernel
theorem dX5_allocationOf_1 : decode cX5_allocationOf 1 = .ok (.iload_n 1, 1) := by decide +kernel
theorem dX5_allocationOf_2 : decode cX5_allocationOf 2 = .ok (.invokevirtual 75, 3) := by decide +kernel
theorem dX5_allocationOf_5 : decode cX5_allocationOf 5 = .ok (.astore_n 2, 1) := by decide +kernel
theorem dX5_allocationOf_6 : decode cX5_allocationOf 6 = .ok (.aload_n 2, 1) := by decide +kernel
theorem dX5_allocationOf_7 : decode cX5_allocationOf 7 = .ok (.ifnonnull 12, 3) := by decide +kernel
theorem dX5_allocationOf_10 : decode cX5_allocationOf 10 = .ok (.aload_n 0, 1) := by decide +kernel
theorem dX5_allocationOf_11 : decode cX5_allocationOf 11 = .ok (.bipush (-2), 2) := by decide +kernel
theorem dX5_allocationOf_13 : decode cX5_allocationOf 13 = .ok (.invokevirtual 50, 3) := by decide +kernel
theorem dX5_allocationOf_16 : decode cX5_allocationOf 16 = .ok (.goto 10, 3) := by decide +kernel
theorem dX5_allocationOf_19 : decode cX5_allocationOf 19 = .ok (.aload_n 2, 1) := by decide +kernel
theorem dX5_allocationOf_20 : decode cX5_allocationOf 20 = .ok (.getfield 83, 3) := by decide +kernel
theorem dX5_allocationOf_23 : decode cX5_allocationOf 23 = .ok (.getfield 140, 3) := by decide +kernel
theorem dX5_allocationOf_26 : decode cX5_allocationOf 26 = .ok (.ireturn, 1) := by decide +kernel
theorem dX5_parent_0 : decode cX5_parent 0 = .ok (.aload_n 0, 1) := by decide +kernel
theorem dX5_parent_1 : decode cX5_parent 1 = .ok (.iload_n 1, 1) := by decide +kernel
theorem dX5_parent_2 : decode cX5_parent 2 = .ok (.invokevirtual 75, 3) := by decide +kernel
theorem dX5_parent_5 : decode cX5_parent 5 = .ok (.astore_n 2, 1) := by decide +kernel
theorem dX5_parent_6 : decode cX5_parent 6 = .ok (.aload_n 2, 1) := by decide +kernel
theorem dX5_parent_7 : decode cX5_parent 7 = .ok (.ifnonnull 12, 3) := by decide +kernel
theorem dX5_parent_10 : decode cX5_parent 10 = .ok (.aload_n 0, 1) := by decide +kernel
theorem dX5_parent_11 : decode cX5_parent 11 = .ok (.bipush (-2), 2) := by decide +kernel
theorem dX5_parent_13 : decode cX5_parent 13 = .ok (.invokevirtual 50, 3) := by decide +kernel
theorem dX5_parent_16 : decode cX5_parent 16 = .ok (.goto 7, 3) := by decide +kernel
theorem dX5_parent_19 : decode cX5_parent 19 = .ok (.aload_n 2, 1) := by decide +kernel
theorem dX5_parent_20 : decode cX5_parent 20 = .ok (.getfield 143, 3) := by decide +kernel
theorem dX5_parent_23 : decode cX5_parent 23 = .ok (.ireturn, 1) := by decide +kernel
theorem dX5_liveCells_0 : decode cX5_liveCells 0 = .ok (.aload_n 0, 1) := by decide +kernel
theorem dX5_liveCells_1 : decode cX5_liveCells 1 = .ok (.iload_n 1, 1) := by decide +kernel
theorem dX5_liveCells_2 : decode cX5_liveCells 2 = .ok (.invokevirtual 75, 3) := by decide +kernel
theorem dX5_liveCells_5 : decode cX5_liveCells 5 = .ok (.astore_n 2, 1) := by decide +kernel
theorem dX5_liveCells_6 : decode cX5_liveCells 6 = .ok (.aload_n 2, 1) := by decide +kernel
theorem dX5_liveCells_7 : decode cX5_liveCells 7 = .ok (.ifnonnull 12, 3) := by decide +kernel
theorem dX5_liveCells_10 : decode cX5_liveCells 10 = .ok (.aload_n 0, 1) := by decide +kernel
theorem dX5_liveCells_11 : decode cX5_liveCells 11 = .ok (.bipush (-2), 2) := by decide +kernel
theorem dX5_liveCells_13 : decode cX5_liveCells 13 = .ok (.invokevirtual 50, 3) := by decide +kernel
theorem dX5_liveCells_16 : decode cX5_liveCells 16 = .ok (.goto 11, 3) := by decide +kernel
theorem dX5_liveCells_19 : decode cX5_liveCells 19 = .ok (.aload_n 2, 1) := by decide +kernel
theorem dX5_liveCells_20 : decode cX5_liveCells 20 = .ok (.getfield 83, 3) := by decide +kernel
theorem dX5_liveCells_23 : decode cX5_liveCells 23 = .ok (.iload_n 1, 1) := by decide +kernel
theorem dX5_liveCells_24 : decode cX5_liveCells 24 = .ok (.invokevirtual 146, 3) := by decide +kernel
theorem dX5_liveCells_27 : decode cX5_liveCells 27 = .ok (.ireturn, 1) := by decide +kernel
theorem dX5_isFreed_0 : decode cX5_isFreed 0 = .ok (.aload_n 0, 1) := by decide +kernel
theorem dX5_isFreed_1 : decode cX5_isFreed 1 = .ok (.iload_n 1, 1) := by decide +kernel
theorem dX5_isFreed_2 : decode cX5_isFreed 2 = .ok (.invokevirtual 149, 3) := by decide +kernel
theorem dX5_isFreed_5 : decode cX5_isFreed 5 = .ok (.astore_n 2, 1) := by decide +kernel
theorem dX5_isFreed_6 : decode cX5_isFreed 6 = .ok (.aload_n 2, 1) := by decide +kernel
theorem dX5_isFreed_7 : decode cX5_isFreed 7 = .ok (.ifnonnull 12, 3) := by decide +kernel
theorem dX5_isFreed_10 : decode cX5_isFreed 10 = .ok (.aload_n 0, 1) := by decide +kernel
theorem dX5_isFreed_11 : decode cX5_isFreed 11 = .ok (.bipush (-2), 2) := by decide +kernel
theorem dX5_isFreed_13 : decode cX5_isFreed 13 = .ok (.invokevirtual 50, 3) := by decide +kernel
theorem dX5_isFreed_16 : decode cX5_isFreed 16 = .ok (.goto 10, 3) := by decide +kernel
theorem dX5_isFreed_19 : decode cX5_isFreed 19 = .ok (.aload_n 2, 1) := by decide +kernel
theorem dX5_isFreed_20 : decode cX5_isFreed 20 = .ok (.getfield 87, 3) := by decide +kernel
theorem dX5_isFreed_23 : decode cX5_isFreed 23 = .ok (.invokestatic 136, 3) := by decide +kernel
theorem dX5_isFreed_26 : decode cX5_isFreed 26 = .ok (.ireturn, 1) := by decide +kernel
theorem dX5_pointerCount_0 : decode cX5_pointerCount 0 = .ok (.aload_n 0, 1) := by decide +kernel
theorem dX5_pointerCount_1 : decode cX5_pointerCount 1 = .ok (.getfield 153, 3) := by decide +kernel
theorem dX5_pointerCount_4 : decode cX5_pointerCount 4 = .ok (.ireturn, 1) := by decide +kernel
theorem dX5_callDepth_0 : decode cX5_callDepth 0 = .ok (.aload_n 0, 1) := by decide +kernel
theorem dX5_callDepth_1 : decode cX5_callDepth 1 = .ok (.getfield 24, 3) := by decide +kernel
theorem dX5_callDepth_4 : decode cX5_callDepth 4 = .ok (.getfield 156, 3) := by decide +kernel
theorem dX5_callDepth_7 : decode cX5_callDepth 7 = .ok (.ireturn, 1) := by decide +kernel
theorem dX5_violationCount_0 : decode cX5_violationCount 0 = .ok (.aload_n 0, 1) := by decide +kernel
theorem dX5_violationCount_1 : decode cX5_violationCount 1 = .ok (.getfield 159, 3) := by decide +kernel
theorem dX5_violationCount_4 : decode cX5_violationCount 4 = .ok (.ireturn, 1) := by decide +kernel
theorem dX5_violationKind_0 : decode cX5_violationKind 0 = .ok (.aload_n 0, 1) := by decide +kernel
theorem dX5_violationKind_1 : decode cX5_violationKind 1 = .ok (.getfield 39, 3) := by decide +kernel
theorem dX5_violationKind_4 : decode cX5_violationKind 4 = .ok (.ireturn, 1) := by decide +kernel
theorem dX5_violationCell_0 : decode cX5_violationCell 0 = .ok (.aload_n 0, 1) := by decide +kernel
theorem dX5_violationCell_1 : decode cX5_violationCell 1 = .ok (.getfield 43, 3) := by decide +kernel
theorem dX5_violationCell_4 : decode cX5_violationCell 4 = .ok (.ireturn, 1) := by decide +kernel
theorem dX5_errorCount_0 : decode cX5_errorCount 0 = .ok (.iload_n 1, 1) := by decide +kernel
theorem dX5_errorCount_1 : decode cX5_errorCount 1 = .ok (.ifCond .lt 8, 3) := by decide +kernel
theorem dX5_errorCount_4 : decode cX5_errorCount 4 = .ok (.iload_n 1, 1) := by decide +kernel
theorem dX5_errorCount_5 : decode cX5_errorCount 5 = .ok (.iconst 3, 1) := by decide +kernel
theorem dX5_errorCount_6 : decode cX5_errorCount 6 = .ok (.if_icmp .lt 10, 3) := by decide +kernel
theorem dX5_errorCount_9 : decode cX5_errorCount 9 = .ok (.aload_n 0, 1) := by decide +kernel
theorem dX5_errorCount_10 : decode cX5_errorCount 10 = .ok (.bipush (-2), 2) := by decide +kernel
theorem dX5_errorCount_12 : decode cX5_errorCount 12 = .ok (.invokevirtual 50, 3) := by decide +kernel
theorem dX5_errorCount_15 : decode cX5_errorCount 15 = .ok (.ireturn, 1) := by decide +kernel
theorem dX5_errorCount_16 : decode cX5_errorCount 16 = .ok (.aload_n 0, 1) := by decide +kernel
theorem dX5_errorCount_17 : decode cX5_errorCount 17 = .ok (.getfield 35, 3) := by decide +kernel
theorem dX5_errorCount_20 : decode cX5_errorCount 20 = .ok (.iload_n 1, 1) := by decide +kernel
theorem dX5_errorCount_21 : decode cX5_errorCount 21 = .ok (.iaload, 1) := by decide +kernel
theorem dX5_errorCount_22 : decode cX5_errorCount 22 = .ok (.ireturn, 1) := by decide +kernel
theorem dX5_append_0 : decode cX5_append 0 = .ok (.iload_n 1, 1) := by decide +kernel
theorem dX5_append_1 : decode cX5_append 1 = .ok (.ifCond .lt 9, 3) := by decide +kernel
theorem dX5_append_4 : decode cX5_append 4 = .ok (.iload_n 1, 1) := by decide +kernel
theorem dX5_append_5 : decode cX5_append 5 = .ok (.bipush 127, 2) := by decide +kernel
theorem dX5_append_7 : decode cX5_append 7 = .ok (.if_icmp .le 10, 3) := by decide +kernel
theorem dX5_append_10 : decode cX5_append 10 = .ok (.aload_n 0, 1) := by decide +kernel
theorem dX5_append_11 : decode cX5_append 11 = .ok (.bipush (-2), 2) := by decide +kernel
theorem dX5_append_13 : decode cX5_append 13 = .ok (.invokevirtual 50, 3) := by decide +kernel
theorem dX5_append_16 : decode cX5_append 16 = .ok (.ireturn, 1) := by decide +kernel
theorem dX5_append_17 : decode cX5_append 17 = .ok (.aload_n 0, 1) := by decide +kernel
theorem dX5_append_18 : decode cX5_append 18 = .ok (.getfield 31, 3) := by decide +kernel
theorem dX5_append_21 : decode cX5_append 21 = .ok (.iload_n 1, 1) := by decide +kernel
theorem dX5_append_22 : decode cX5_append 22 = .ok (.invokevirtual 162, 3) := by decide +kernel
theorem dX5_append_25 : decode cX5_append 25 = .ok (.ifCond .eq 13, 3) := by decide +kernel
theorem dX5_append_28 : decode cX5_append 28 = .ok (.aload_n 0, 1) := by decide +kernel
theorem dX5_append_29 : decode cX5_append 29 = .ok (.getfield 31, 3) := by decide +kernel
theorem dX5_append_32 : decode cX5_append 32 = .ok (.getfield 165, 3) := by decide +kernel
theorem dX5_append_35 : decode cX5_append 35 = .ok (.goto 9, 3) := by decide +kernel
theorem dX5_append_38 : decode cX5_append 38 = .ok (.aload_n 0, 1) := by decide +kernel
theorem dX5_append_39 : decode cX5_append 39 = .ok (.bipush (-4), 2) := by decide +kernel
theorem dX5_append_41 : decode cX5_append 41 = .ok (.invokevirtual 50, 3) := by decide +kernel
theorem dX5_append_44 : decode cX5_append 44 = .ok (.ireturn, 1) := by decide +kernel
theorem dX5_clearText_0 : decode cX5_clearText 0 = .ok (.aload_n 0, 1) := by decide +kernel
theorem dX5_clearText_1 : decode cX5_clearText 1 = .ok (.getfield 31, 3) := by decide +kernel
theorem dX5_clearText_4 : decode cX5_clearText 4 = .ok (.getfield 165, 3) := by decide +kernel
theorem dX5_clearText_7 : decode cX5_clearText 7 = .ok (.istore_n 1, 1) := by decide +kernel
theorem dX5_clearText_8 : decode cX5_clearText 8 = .ok (.aload_n 0, 1) := by decide +kernel
theorem dX5_clearText_9 : decode cX5_clearText 9 = .ok (.getfield 31, 3) := by decide +kernel
theorem dX5_clearText_12 : decode cX5_clearText 12 = .ok (.iconst 0, 1) := by decide +kernel
theorem dX5_clearText_13 : decode cX5_clearText 13 = .ok (.putfield 165, 3) := by decide +kernel
theorem dX5_clearText_16 : decode cX5_clearText 16 = .ok (.iload_n 1, 1) := by decide +kernel
theorem dX5_clearText_17 : decode cX5_clearText 17 = .ok (.ireturn, 1) := by decide +kernel
theorem dX5_runScript_0 : decode cX5_runScript 0 = .ok (.aload_n 0, 1) := by decide +kernel
theorem dX5_runScript_1 : decode cX5_runScript 1 = .ok (.getfield 31, 3) := by decide +kernel
theorem dX5_runScript_4 : decode cX5_runScript 4 = .ok (.invokevirtual 168, 3) := by decide +kernel
theorem dX5_runScript_7 : decode cX5_runScript 7 = .ok (.istore_n 1, 1) := by decide +kernel
theorem dX5_runScript_8 : decode cX5_runScript 8 = .ok (.iload_n 1, 1) := by decide +kernel
theorem dX5_runScript_9 : decode cX5_runScript 9 = .ok (.iconst (-1), 1) := by decide +kernel
theorem dX5_runScript_10 : decode cX5_runScript 10 = .ok (.if_icmp .eq 8, 3) := by decide +kernel
theorem dX5_runScript_13 : decode cX5_runScript 13 = .ok (.bipush (-10), 2) := by decide +kernel
theorem dX5_runScript_15 : decode cX5_runScript 15 = .ok (.iload_n 1, 1) := by decide +kernel
theorem dX5_runScript_16 : decode cX5_runScript 16 = .ok (.isub, 1) := by decide +kernel
theorem dX5_runScript_17 : decode cX5_runScript 17 = .ok (.ireturn, 1) := by decide +kernel
theorem dX5_runScript_18 : decode cX5_runScript 18 = .ok (.iconst 0, 1) := by decide +kernel
theorem dX5_runScript_19 : decode cX5_runScript 19 = .ok (.istore_n 2, 1) := by decide +kernel
theorem dX5_runScript_20 : decode cX5_runScript 20 = .ok (.iload_n 2, 1) := by decide +kernel
theorem dX5_runScript_21 : decode cX5_runScript 21 = .ok (.aload_n 0, 1) := by decide +kernel
theorem dX5_runScript_22 : decode cX5_runScript 22 = .ok (.getfield 31, 3) := by decide +kernel
theorem dX5_runScript_25 : decode cX5_runScript 25 = .ok (.getfield 171, 3) := by decide +kernel
theorem dX5_runScript_28 : decode cX5_runScript 28 = .ok (.if_icmp .ge 26, 3) := by decide +kernel
theorem dX5_runScript_31 : decode cX5_runScript 31 = .ok (.aload_n 0, 1) := by decide +kernel
theorem dX5_runScript_32 : decode cX5_runScript 32 = .ok (.iload_n 2, 1) := by decide +kernel
theorem dX5_runScript_33 : decode cX5_runScript 33 = .ok (.invokevirtual 174, 3) := by decide +kernel
theorem dX5_runScript_36 : decode cX5_runScript 36 = .ok (.invokestatic 177, 3) := by decide +kernel
theorem dX5_runScript_39 : decode cX5_runScript 39 = .ok (.ifCond .eq 9, 3) := by decide +kernel
theorem dX5_runScript_42 : decode cX5_runScript 42 = .ok (.sipush (-1000), 3) := by decide +kernel
theorem dX5_runScript_45 : decode cX5_runScript 45 = .ok (.iload_n 2, 1) := by decide +kernel
theorem dX5_runScript_46 : decode cX5_runScript 46 = .ok (.isub, 1) := by decide +kernel
theorem dX5_runScript_47 : decode cX5_runScript 47 = .ok (.ireturn, 1) := by decide +kernel
theorem dX5_runScript_48 : decode cX5_runScript 48 = .ok (.iinc 2 1, 3) := by decide +kernel
theorem dX5_runScript_51 : decode cX5_runScript 51 = .ok (.goto (-31), 3) := by decide +kernel
theorem dX5_runScript_54 : decode cX5_runScript 54 = .ok (.aload_n 0, 1) := by decide +kernel
theorem dX5_runScript_55 : decode cX5_runScript 55 = .ok (.getfield 31, 3) := by decide +kernel
theorem dX5_runScript_58 : decode cX5_runScript 58 = .ok (.getfield 171, 3) := by decide +kernel
theorem dX5_runScript_61 : decode cX5_runScript 61 = .ok (.ireturn, 1) := by decide +kernel
theorem dX5_digest_0 : decode cX5_digest 0 = .ok (.ldc2_w 180, 3) := by decide +kernel
theorem dX5_digest_3 : decode cX5_digest 3 = .ok (.lstore_n 1, 1) := by decide +kernel
theorem dX5_digest_4 : decode cX5_digest 4 = .ok (.iconst 0, 1) := by decide +kernel
theorem dX5_digest_5 : decode cX5_digest 5 = .ok (.istore_n 3, 1) := by decide +kernel
theorem dX5_digest_6 : decode cX5_digest 6 = .ok (.iload_n 3, 1) := by decide +kernel
theorem dX5_digest_7 : decode cX5_digest 7 = .ok (.iconst 3, 1) := by decide +kernel
theorem dX5_digest_8 : decode cX5_digest 8 = .ok (.if_icmp .ge 21, 3) := by decide +kernel
theorem dX5_digest_11 : decode cX5_digest 11 = .ok (.lload_n 1, 1) := by decide +kernel
theorem dX5_digest_12 : decode cX5_digest 12 = .ok (.aload_n 0, 1) := by decide +kernel
theorem dX5_digest_13 : decode cX5_digest 13 = .ok (.getfield 35, 3) := by decide +kernel
theorem dX5_digest_16 : decode cX5_digest 16 = .ok (.iload_n 3, 1) := by decide +kernel
theorem dX5_digest_17 : decode cX5_digest 17 = .ok (.iaload, 1) := by decide +kernel
theorem dX5_digest_18 : decode cX5_digest 18 = .ok (.i2l, 1) := by decide +kernel
theorem dX5_digest_19 : decode cX5_digest 19 = .ok (.invokestatic 182, 3) := by decide +kernel
theorem dX5_digest_22 : decode cX5_digest 22 = .ok (.lstore_n 1, 1) := by decide +kernel
theorem dX5_digest_23 : decode cX5_digest 23 = .ok (.iinc 3 1, 3) := by decide +kernel
theorem dX5_digest_26 : decode cX5_digest 26 = .ok (.goto (-20), 3) := by decide +kernel
theorem dX5_digest_29 : decode cX5_digest 29 = .ok (.lload_n 1, 1) := by decide +kernel
theorem dX5_digest_30 : decode cX5_digest 30 = .ok (.aload_n 0, 1) := by decide +kernel
theorem dX5_digest_31 : decode cX5_digest 31 = .ok (.getfield 31, 3) := by decide +kernel
theorem dX5_digest_34 : decode cX5_digest 34 = .ok (.getfield 165, 3) := by decide +kernel
theorem dX5_digest_37 : decode cX5_digest 37 = .ok (.i2l, 1) := by decide +kernel
theorem dX5_digest_38 : decode cX5_digest 38 = .ok (.invokestatic 182, 3) := by decide +kernel
theorem dX5_digest_41 : decode cX5_digest 41 = .ok (.lstore_n 1, 1) := by decide +kernel
theorem dX5_digest_42 : decode cX5_digest 42 = .ok (.lload_n 1, 1) := by decide +kernel
theorem dX5_digest_43 : decode cX5_digest 43 = .ok (.aload_n 0, 1) := by decide +kernel
theorem dX5_digest_44 : decode cX5_digest 44 = .ok (.getfield 159, 3) := by decide +kernel
theorem dX5_digest_47 : decode cX5_digest 47 = .ok (.i2l, 1) := by decide +kernel
theorem dX5_digest_48 : decode cX5_digest 48 = .ok (.invokestatic 182, 3) := by decide +kernel
theorem dX5_digest_51 : decode cX5_digest 51 = .ok (.lstore_n 1, 1) := by decide +kernel
theorem dX5_digest_52 : decode cX5_digest 52 = .ok (.lload_n 1, 1) := by decide +kernel
theorem dX5_digest_53 : decode cX5_digest 53 = .ok (.aload_n 0, 1) := by decide +kernel
theorem dX5_digest_54 : decode cX5_digest 54 = .ok (.getfield 39, 3) := by decide +kernel
theorem dX5_digest_57 : decode cX5_digest 57 = .ok (.i2l, 1) := by decide +kernel
theorem dX5_digest_58 : decode cX5_digest 58 = .ok (.invokestatic 182, 3) := by decide +kernel
theorem dX5_digest_61 : decode cX5_digest 61 = .ok (.lstore_n 1, 1) := by decide +kernel
theorem dX5_digest_62 : decode cX5_digest 62 = .ok (.lload_n 1, 1) := by decide +kernel
theorem dX5_digest_63 : decode cX5_digest 63 = .ok (.aload_n 0, 1) := by decide +kernel
theorem dX5_digest_64 : decode cX5_digest 64 = .ok (.getfield 43, 3) := by decide +kernel
theorem dX5_digest_67 : decode cX5_digest 67 = .ok (.i2l, 1) := by decide +kernel
theorem dX5_digest_68 : decode cX5_digest 68 = .ok (.invokestatic 182, 3) := by decide +kernel
theorem dX5_digest_71 : decode cX5_digest 71 = .ok (.lstore_n 1, 1) := by decide +kernel
theorem dX5_digest_72 : decode cX5_digest 72 = .ok (.lload_n 1, 1) := by decide +kernel
theorem dX5_digest_73 : decode cX5_digest 73 = .ok (.aload_n 0, 1) := by decide +kernel
theorem dX5_digest_74 : decode cX5_digest 74 = .ok (.getfield 24, 3) := by decide +kernel
theorem dX5_digest_77 : decode cX5_digest 77 = .ok (.getfield 156, 3) := by decide +kernel
theorem dX5_digest_80 : decode cX5_digest 80 = .ok (.i2l, 1) := by decide +kernel
theorem dX5_digest_81 : decode cX5_digest 81 = .ok (.invokestatic 182, 3) := by decide +kernel
theorem dX5_digest_84 : decode cX5_digest 84 = .ok (.lstore_n 1, 1) := by decide +kernel
theorem dX5_digest_85 : decode cX5_digest 85 = .ok (.lload_n 1, 1) := by decide +kernel
theorem dX5_digest_86 : decode cX5_digest 86 = .ok (.aload_n 0, 1) := by decide +kernel
theorem dX5_digest_87 : decode cX5_digest 87 = .ok (.getfield 186, 3) := by decide +kernel
theorem dX5_digest_90 : decode cX5_digest 90 = .ok (.i2l, 1) := by decide +kernel
theorem dX5_digest_91 : decode cX5_digest 91 = .ok (.invokestatic 182, 3) := by decide +kernel
theorem dX5_digest_94 : decode cX5_digest 94 = .ok (.lstore_n 1, 1) := by decide +kernel
theorem dX5_digest_95 : decode cX5_digest 95 = .ok (.iconst 0, 1) := by decide +kernel
theorem dX5_digest_96 : decode cX5_digest 96 = .ok (.istore_n 3, 1) := by decide +kernel
theorem dX5_digest_97 : decode cX5_digest 97 = .ok (.iload_n 3, 1) := by decide +kernel
theorem dX5_digest_98 : decode cX5_digest 98 = .ok (.aload_n 0, 1) := by decide +kernel
theorem dX5_digest_99 : decode cX5_digest 99 = .ok (.getfield 186, 3) := by decide +kernel
theorem dX5_digest_102 : decode cX5_digest 102 = .ok (.if_icmp .ge 24, 3) := by decide +kernel
theorem dX5_digest_105 : decode cX5_digest 105 = .ok (.aload_n 0, 1) := by decide +kernel
theorem dX5_digest_106 : decode cX5_digest 106 = .ok (.getfield 11, 3) := by decide +kernel
theorem dX5_digest_109 : decode cX5_digest 109 = .ok (.iload_n 3, 1) := by decide +kernel
theorem dX5_digest_110 : decode cX5_digest 110 = .ok (.aaload, 1) := by decide +kernel
theorem dX5_digest_111 : decode cX5_digest 111 = .ok (.lload_n 1, 1) := by decide +kernel
theorem dX5_digest_112 : decode cX5_digest 112 = .ok (.aload_n 0, 1) := by decide +kernel
theorem dX5_digest_113 : decode cX5_digest 113 = .ok (.getfield 24, 3) := by decide +kernel
theorem dX5_digest_116 : decode cX5_digest 116 = .ok (.invokevirtual 189, 3) := by decide +kernel
theorem dX5_digest_119 : decode cX5_digest 119 = .ok (.lstore_n 1, 1) := by decide +kernel
theorem dX5_digest_120 : decode cX5_digest 120 = .ok (.iinc 3 1, 3) := by decide +kernel
theorem dX5_digest_123 : decode cX5_digest 123 = .ok (.goto (-26), 3) := by decide +kernel
theorem dX5_digest_126 : decode cX5_digest 126 = .ok (.lload_n 1, 1) := by decide +kernel
theorem dX5_digest_127 : decode cX5_digest 127 = .ok (.aload_n 0, 1) := by decide +kernel
theorem dX5_digest_128 : decode cX5_digest 128 = .ok (.getfield 153, 3) := by decide +kernel
theorem dX5_digest_131 : decode cX5_digest 131 = .ok (.i2l, 1) := by decide +kernel
theorem dX5_digest_132 : decode cX5_digest 132 = .ok (.invokestatic 182, 3) := by decide +kernel
theorem dX5_digest_135 : decode cX5_digest 135 = .ok (.lstore_n 1, 1) := by decide +kernel
theorem dX5_digest_136 : decode cX5_digest 136 = .ok (.iconst 0, 1) := by decide +kernel
theorem dX5_digest_137 : decode cX5_digest 137 = .ok (.istore_n 3, 1) := by decide +kernel
theorem dX5_digest_138 : decode cX5_digest 138 = .ok (.iload_n 3, 1) := by decide +kernel
theorem dX5_digest_139 : decode cX5_digest 139 = .ok (.aload_n 0, 1) := by decide +kernel
theorem dX5_digest_140 : decode cX5_digest 140 = .ok (.getfield 153, 3) := by decide +kernel
theorem dX5_digest_143 : decode cX5_digest 143 = .ok (.if_icmp .ge 61, 3) := by decide +kernel
theorem dX5_digest_146 : decode cX5_digest 146 = .ok (.lload_n 1, 1) := by decide +kernel
theorem dX5_digest_147 : decode cX5_digest 147 = .ok (.aload_n 0, 1) := by decide +kernel
theorem dX5_digest_148 : decode cX5_digest 148 = .ok (.getfield 17, 3) := by decide +kernel
theorem dX5_digest_151 : decode cX5_digest 151 = .ok (.iload_n 3, 1) := by decide +kernel
theorem dX5_digest_152 : decode cX5_digest 152 = .ok (.aaload, 1) := by decide +kernel
theorem dX5_digest_153 : decode cX5_digest 153 = .ok (.getfield 83, 3) := by decide +kernel
theorem dX5_digest_156 : decode cX5_digest 156 = .ok (.getfield 140, 3) := by decide +kernel
theorem dX5_digest_159 : decode cX5_digest 159 = .ok (.i2l, 1) := by decide +kernel
theorem dX5_digest_160 : decode cX5_digest 160 = .ok (.invokestatic 182, 3) := by decide +kernel
theorem dX5_digest_163 : decode cX5_digest 163 = .ok (.lstore_n 1, 1) := by decide +kernel
theorem dX5_digest_164 : decode cX5_digest 164 = .ok (.lload_n 1, 1) := by decide +kernel
theorem dX5_digest_165 : decode cX5_digest 165 = .ok (.aload_n 0, 1) := by decide +kernel
theorem dX5_digest_166 : decode cX5_digest 166 = .ok (.getfield 17, 3) := by decide +kernel
theorem dX5_digest_169 : decode cX5_digest 169 = .ok (.iload_n 3, 1) := by decide +kernel
theorem dX5_digest_170 : decode cX5_digest 170 = .ok (.aaload, 1) := by decide +kernel
theorem dX5_digest_171 : decode cX5_digest 171 = .ok (.getfield 143, 3) := by decide +kernel
theorem dX5_digest_174 : decode cX5_digest 174 = .ok (.i2l, 1) := by decide +kernel
theorem dX5_digest_175 : decode cX5_digest 175 = .ok (.invokestatic 182, 3) := by decide +kernel
theorem dX5_digest_178 : decode cX5_digest 178 = .ok (.lstore_n 1, 1) := by decide +kernel
theorem dX5_digest_179 : decode cX5_digest 179 = .ok (.lload_n 1, 1) := by decide +kernel
theorem dX5_digest_180 : decode cX5_digest 180 = .ok (.aload_n 0, 1) := by decide +kernel
theorem dX5_digest_181 : decode cX5_digest 181 = .ok (.getfield 17, 3) := by decide +kernel
theorem dX5_digest_184 : decode cX5_digest 184 = .ok (.iload_n 3, 1) := by decide +kernel
theorem dX5_digest_185 : decode cX5_digest 185 = .ok (.aaload, 1) := by decide +kernel
theorem dX5_digest_186 : decode cX5_digest 186 = .ok (.getfield 83, 3) := by decide +kernel
theorem dX5_digest_189 : decode cX5_digest 189 = .ok (.iload_n 3, 1) := by decide +kernel
theorem dX5_digest_190 : decode cX5_digest 190 = .ok (.invokevirtual 146, 3) := by decide +kernel
theorem dX5_digest_193 : decode cX5_digest 193 = .ok (.i2l, 1) := by decide +kernel
theorem dX5_digest_194 : decode cX5_digest 194 = .ok (.invokestatic 182, 3) := by decide +kernel
theorem dX5_digest_197 : decode cX5_digest 197 = .ok (.lstore_n 1, 1) := by decide +kernel
theorem dX5_digest_198 : decode cX5_digest 198 = .ok (.iinc 3 1, 3) := by decide +kernel
theorem dX5_digest_201 : decode cX5_digest 201 = .ok (.goto (-63), 3) := by decide +kernel
theorem dX5_digest_204 : decode cX5_digest 204 = .ok (.lload_n 1, 1) := by decide +kernel
theorem dX5_digest_205 : decode cX5_digest 205 = .ok (.lreturn, 1) := by decide +kernel
theorem dX5_performAllocate_0 : decode cX5_performAllocate 0 = .ok (.iload_n 1, 1) := by decide +kernel
theorem dX5_performAllocate_1 : decode cX5_performAllocate 1 = .ok (.iconst 1, 1) := by decide +kernel
theorem dX5_performAllocate_2 : decode cX5_performAllocate 2 = .ok (.if_icmp .lt 9, 3) := by decide +kernel
theorem dX5_performAllocate_5 : decode cX5_performAllocate 5 = .ok (.iload_n 1, 1) := by decide +kernel
theorem dX5_performAllocate_6 : decode cX5_performAllocate 6 = .ok (.bipush 8, 2) := by decide +kernel
theorem dX5_performAllocate_8 : decode cX5_performAllocate 8 = .ok (.if_icmp .le 6, 3) := by decide +kernel
theorem dX5_performAllocate_11 : decode cX5_performAllocate 11 = .ok (.bipush (-2), 2) := by decide +kernel
theorem dX5_performAllocate_13 : decode cX5_performAllocate 13 = .ok (.ireturn, 1) := by decide +kernel
theorem dX5_performAllocate_14 : decode cX5_performAllocate 14 = .ok (.aload_n 0, 1) := by decide +kernel
theorem dX5_performAllocate_15 : decode cX5_performAllocate 15 = .ok (.getfield 186, 3) := by decide +kernel
theorem dX5_performAllocate_18 : decode cX5_performAllocate 18 = .ok (.bipush 10, 2) := by decide +kernel
theorem dX5_performAllocate_20 : decode cX5_performAllocate 20 = .ok (.if_icmp .ge 12, 3) := by decide +kernel
theorem dX5_performAllocate_23 : decode cX5_performAllocate 23 = .ok (.aload_n 0, 1) := by decide +kernel
theorem dX5_performAllocate_24 : decode cX5_performAllocate 24 = .ok (.getfield 153, 3) := by decide +kernel
theorem dX5_performAllocate_27 : decode cX5_performAllocate 27 = .ok (.bipush 60, 2) := by decide +kernel
theorem dX5_performAllocate_29 : decode cX5_performAllocate 29 = .ok (.if_icmp .lt 6, 3) := by decide +kernel
theorem dX5_performAllocate_32 : decode cX5_performAllocate 32 = .ok (.bipush (-4), 2) := by decide +kernel
theorem dX5_performAllocate_34 : decode cX5_performAllocate 34 = .ok (.ireturn, 1) := by decide +kernel
theorem dX5_performAllocate_35 : decode cX5_performAllocate 35 = .ok (.new 9, 3) := by decide +kernel
theorem dX5_performAllocate_38 : decode cX5_performAllocate 38 = .ok (.dup, 1) := by decide +kernel
theorem dX5_performAllocate_39 : decode cX5_performAllocate 39 = .ok (.aload_n 0, 1) := by decide +kernel
theorem dX5_performAllocate_40 : decode cX5_performAllocate 40 = .ok (.getfield 186, 3) := by decide +kernel
theorem dX5_performAllocate_43 : decode cX5_performAllocate 43 = .ok (.iload_n 1, 1) := by decide +kernel
theorem dX5_performAllocate_44 : decode cX5_performAllocate 44 = .ok (.aload_n 0, 1) := by decide +kernel
theorem dX5_performAllocate_45 : decode cX5_performAllocate 45 = .ok (.getfield 153, 3) := by decide +kernel
theorem dX5_performAllocate_48 : decode cX5_performAllocate 48 = .ok (.invokespecial 193, 3) := by decide +kernel
theorem dX5_performAllocate_51 : decode cX5_performAllocate 51 = .ok (.astore_n 2, 1) := by decide +kernel
theorem dX5_performAllocate_52 : decode cX5_performAllocate 52 = .ok (.aload_n 0, 1) := by decide +kernel
theorem dX5_performAllocate_53 : decode cX5_performAllocate 53 = .ok (.getfield 11, 3) := by decide +kernel
theorem dX5_performAllocate_56 : decode cX5_performAllocate 56 = .ok (.aload_n 0, 1) := by decide +kernel
theorem dX5_performAllocate_57 : decode cX5_performAllocate 57 = .ok (.getfield 186, 3) := by decide +kernel
theorem dX5_performAllocate_60 : decode cX5_performAllocate 60 = .ok (.aload_n 2, 1) := by decide +kernel
theorem dX5_performAllocate_61 : decode cX5_performAllocate 61 = .ok (.aastore, 1) := by decide +kernel
theorem dX5_performAllocate_62 : decode cX5_performAllocate 62 = .ok (.aload_n 0, 1) := by decide +kernel
theorem dX5_performAllocate_63 : decode cX5_performAllocate 63 = .ok (.dup, 1) := by decide +kernel
theorem dX5_performAllocate_64 : decode cX5_performAllocate 64 = .ok (.getfield 186, 3) := by decide +kernel
theorem dX5_performAllocate_67 : decode cX5_performAllocate 67 = .ok (.iconst 1, 1) := by decide +kernel
theorem dX5_performAllocate_68 : decode cX5_performAllocate 68 = .ok (.iadd, 1) := by decide +kernel
theorem dX5_performAllocate_69 : decode cX5_performAllocate 69 = .ok (.putfield 186, 3) := by decide +kernel
theorem dX5_performAllocate_72 : decode cX5_performAllocate 72 = .ok (.aload_n 0, 1) := by decide +kernel
theorem dX5_performAllocate_73 : decode cX5_performAllocate 73 = .ok (.aload_n 2, 1) := by decide +kernel
theorem dX5_performAllocate_74 : decode cX5_performAllocate 74 = .ok (.iconst (-1), 1) := by decide +kernel
theorem dX5_performAllocate_75 : decode cX5_performAllocate 75 = .ok (.invokevirtual 196, 3) := by decide +kernel
theorem dX5_performAllocate_78 : decode cX5_performAllocate 78 = .ok (.ireturn, 1) := by decide +kernel
theorem dX5_performRead_0 : decode cX5_performRead 0 = .ok (.aload_n 0, 1) := by decide +kernel
theorem dX5_performRead_1 : decode cX5_performRead 1 = .ok (.iload_n 1, 1) := by decide +kernel
theorem dX5_performRead_2 : decode cX5_performRead 2 = .ok (.invokevirtual 75, 3) := by decide +kernel
theorem dX5_performRead_5 : decode cX5_performRead 5 = .ok (.astore_n 3, 1) := by decide +kernel
theorem dX5_performRead_6 : decode cX5_performRead 6 = .ok (.aload_n 3, 1) := by decide +kernel
theorem dX5_performRead_7 : decode cX5_performRead 7 = .ok (.iload_n 2, 1) := by decide +kernel
theorem dX5_performRead_8 : decode cX5_performRead 8 = .ok (.invokestatic 79, 3) := by decide +kernel
theorem dX5_performRead_11 : decode cX5_performRead 11 = .ok (.astore 4, 2) := by decide +kernel
theorem dX5_performRead_13 : decode cX5_performRead 13 = .ok (.aload_n 3, 1) := by decide +kernel
theorem dX5_performRead_14 : decode cX5_performRead 14 = .ok (.ifnull 8, 3) := by decide +kernel
theorem dX5_performRead_17 : decode cX5_performRead 17 = .ok (.aload 4, 2) := by decide +kernel
theorem dX5_performRead_19 : decode cX5_performRead 19 = .ok (.ifnonnull 6, 3) := by decide +kernel
theorem dX5_performRead_22 : decode cX5_performRead 22 = .ok (.bipush (-2), 2) := by decide +kernel
theorem dX5_performRead_24 : decode cX5_performRead 24 = .ok (.ireturn, 1) := by decide +kernel
theorem dX5_performRead_25 : decode cX5_performRead 25 = .ok (.aload_n 3, 1) := by decide +kernel
theorem dX5_performRead_26 : decode cX5_performRead 26 = .ok (.getfield 83, 3) := by decide +kernel
theorem dX5_performRead_29 : decode cX5_performRead 29 = .ok (.getfield 87, 3) := by decide +kernel
theorem dX5_performRead_32 : decode cX5_performRead 32 = .ok (.ifCond .eq 10, 3) := by decide +kernel
theorem dX5_performRead_35 : decode cX5_performRead 35 = .ok (.aload_n 0, 1) := by decide +kernel
theorem dX5_performRead_36 : decode cX5_performRead 36 = .ok (.iconst 3, 1) := by decide +kernel
theorem dX5_performRead_37 : decode cX5_performRead 37 = .ok (.iload_n 2, 1) := by decide +kernel
theorem dX5_performRead_38 : decode cX5_performRead 38 = .ok (.invokevirtual 200, 3) := by decide +kernel
theorem dX5_performRead_41 : decode cX5_performRead 41 = .ok (.ireturn, 1) := by decide +kernel
theorem dX5_performRead_42 : decode cX5_performRead 42 = .ok (.aload 4, 2) := by decide +kernel
theorem dX5_performRead_44 : decode cX5_performRead 44 = .ok (.iload_n 1, 1) := by decide +kernel
theorem dX5_performRead_45 : decode cX5_performRead 45 = .ok (.aload_n 0, 1) := by decide +kernel
theorem dX5_performRead_46 : decode cX5_performRead 46 = .ok (.getfield 24, 3) := by decide +kernel
theorem dX5_performRead_49 : decode cX5_performRead 49 = .ok (.invokevirtual 91, 3) := by decide +kernel
theorem dX5_performRead_52 : decode cX5_performRead 52 = .ok (.istore 5, 2) := by decide +kernel
theorem dX5_performRead_54 : decode cX5_performRead 54 = .ok (.iload 5, 2) := by decide +kernel
theorem dX5_performRead_56 : decode cX5_performRead 56 = .ok (.ifCond .eq 11, 3) := by decide +kernel
theorem dX5_performRead_59 : decode cX5_performRead 59 = .ok (.aload_n 0, 1) := by decide +kernel
theorem dX5_performRead_60 : decode cX5_performRead 60 = .ok (.iload 5, 2) := by decide +kernel
theorem dX5_performRead_62 : decode cX5_performRead 62 = .ok (.iload_n 2, 1) := by decide +kernel
theorem dX5_performRead_63 : decode cX5_performRead 63 = .ok (.invokevirtual 200, 3) := by decide +kernel
theorem dX5_performRead_66 : decode cX5_performRead 66 = .ok (.ireturn, 1) := by decide +kernel
theorem dX5_performRead_67 : decode cX5_performRead 67 = .ok (.aload 4, 2) := by decide +kernel
theorem dX5_performRead_69 : decode cX5_performRead 69 = .ok (.iload_n 1, 1) := by decide +kernel
theorem dX5_performRead_70 : decode cX5_performRead 70 = .ok (.invokevirtual 203, 3) := by decide +kernel
theorem dX5_performRead_73 : decode cX5_performRead 73 = .ok (.aload 4, 2) := by decide +kernel
theorem dX5_performRead_75 : decode cX5_performRead 75 = .ok (.getfield 207, 3) := by decide +kernel
theorem dX5_performRead_78 : decode cX5_performRead 78 = .ok (.ireturn, 1) := by decide +kernel
theorem dX5_performWrite_0 : decode cX5_performWrite 0 = .ok (.aload_n 0, 1) := by decide +kernel
theorem dX5_performWrite_1 : decode cX5_performWrite 1 = .ok (.iload_n 1, 1) := by decide +kernel
theorem dX5_performWrite_2 : decode cX5_performWrite 2 = .ok (.invokevirtual 75, 3) := by decide +kernel
theorem dX5_performWrite_5 : decode cX5_performWrite 5 = .ok (.astore 4, 2) := by decide +kernel
theorem dX5_performWrite_7 : decode cX5_performWrite 7 = .ok (.aload 4, 2) := by decide +kernel
theorem dX5_performWrite_9 : decode cX5_performWrite 9 = .ok (.iload_n 2, 1) := by decide +kernel
theorem dX5_performWrite_10 : decode cX5_performWrite 10 = .ok (.invokestatic 79, 3) := by decide +kernel
theorem dX5_performWrite_13 : decode cX5_performWrite 13 = .ok (.astore 5, 2) := by decide +kernel
theorem dX5_performWrite_15 : decode cX5_performWrite 15 = .ok (.aload 4, 2) := by decide +kernel
theorem dX5_performWrite_17 : decode cX5_performWrite 17 = .ok (.ifnull 18, 3) := by decide +kernel
theorem dX5_performWrite_20 : decode cX5_performWrite 20 = .ok (.aload 5, 2) := by decide +kernel
theorem dX5_performWrite_22 : decode cX5_performWrite 22 = .ok (.ifnull 13, 3) := by decide +kernel
theorem dX5_performWrite_25 : decode cX5_performWrite 25 = .ok (.iload_n 3, 1) := by decide +kernel
theorem dX5_performWrite_26 : decode cX5_performWrite 26 = .ok (.ifCond .lt 9, 3) := by decide +kernel
theorem dX5_performWrite_29 : decode cX5_performWrite 29 = .ok (.iload_n 3, 1) := by decide +kernel
theorem dX5_performWrite_30 : decode cX5_performWrite 30 = .ok (.bipush 99, 2) := by decide +kernel
theorem dX5_performWrite_32 : decode cX5_performWrite 32 = .ok (.if_icmp .le 6, 3) := by decide +kernel
theorem dX5_performWrite_35 : decode cX5_performWrite 35 = .ok (.bipush (-2), 2) := by decide +kernel
theorem dX5_performWrite_37 : decode cX5_performWrite 37 = .ok (.ireturn, 1) := by decide +kernel
theorem dX5_performWrite_38 : decode cX5_performWrite 38 = .ok (.aload 4, 2) := by decide +kernel
theorem dX5_performWrite_40 : decode cX5_performWrite 40 = .ok (.getfield 83, 3) := by decide +kernel
theorem dX5_performWrite_43 : decode cX5_performWrite 43 = .ok (.getfield 87, 3) := by decide +kernel
theorem dX5_performWrite_46 : decode cX5_performWrite 46 = .ok (.ifCond .eq 10, 3) := by decide +kernel
theorem dX5_performWrite_49 : decode cX5_performWrite 49 = .ok (.aload_n 0, 1) := by decide +kernel
theorem dX5_performWrite_50 : decode cX5_performWrite 50 = .ok (.iconst 3, 1) := by decide +kernel
theorem dX5_performWrite_51 : decode cX5_performWrite 51 = .ok (.iload_n 2, 1) := by decide +kernel
theorem dX5_performWrite_52 : decode cX5_performWrite 52 = .ok (.invokevirtual 200, 3) := by decide +kernel
theorem dX5_performWrite_55 : decode cX5_performWrite 55 = .ok (.ireturn, 1) := by decide +kernel
theorem dX5_performWrite_56 : decode cX5_performWrite 56 = .ok (.aload 5, 2) := by decide +kernel
theorem dX5_performWrite_58 : decode cX5_performWrite 58 = .ok (.iload_n 1, 1) := by decide +kernel
theorem dX5_performWrite_59 : decode cX5_performWrite 59 = .ok (.aload_n 0, 1) := by decide +kernel
theorem dX5_performWrite_60 : decode cX5_performWrite 60 = .ok (.getfield 24, 3) := by decide +kernel
theorem dX5_performWrite_63 : decode cX5_performWrite 63 = .ok (.invokevirtual 97, 3) := by decide +kernel
theorem dX5_performWrite_66 : decode cX5_performWrite 66 = .ok (.istore 6, 2) := by decide +kernel
theorem dX5_performWrite_68 : decode cX5_performWrite 68 = .ok (.iload 6, 2) := by decide +kernel
theorem dX5_performWrite_70 : decode cX5_performWrite 70 = .ok (.ifCond .eq 11, 3) := by decide +kernel
theorem dX5_performWrite_73 : decode cX5_performWrite 73 = .ok (.aload_n 0, 1) := by decide +kernel
theorem dX5_performWrite_74 : decode cX5_performWrite 74 = .ok (.iload 6, 2) := by decide +kernel
theorem dX5_performWrite_76 : decode cX5_performWrite 76 = .ok (.iload_n 2, 1) := by decide +kernel
theorem dX5_performWrite_77 : decode cX5_performWrite 77 = .ok (.invokevirtual 200, 3) := by decide +kernel
theorem dX5_performWrite_80 : decode cX5_performWrite 80 = .ok (.ireturn, 1) := by decide +kernel
theorem dX5_performWrite_81 : decode cX5_performWrite 81 = .ok (.aload 5, 2) := by decide +kernel
theorem dX5_performWrite_83 : decode cX5_performWrite 83 = .ok (.iload_n 1, 1) := by decide +kernel
theorem dX5_performWrite_84 : decode cX5_performWrite 84 = .ok (.invokevirtual 210, 3) := by decide +kernel
theorem dX5_performWrite_87 : decode cX5_performWrite 87 = .ok (.aload 5, 2) := by decide +kernel
theorem dX5_performWrite_89 : decode cX5_performWrite 89 = .ok (.getfield 207, 3) := by decide +kernel
theorem dX5_performWrite_92 : decode cX5_performWrite 92 = .ok (.istore 7, 2) := by decide +kernel
theorem dX5_performWrite_94 : decode cX5_performWrite 94 = .ok (.aload 5, 2) := by decide +kernel
theorem dX5_performWrite_96 : decode cX5_performWrite 96 = .ok (.iload_n 3, 1) := by decide +kernel
theorem dX5_performWrite_97 : decode cX5_performWrite 97 = .ok (.putfield 207, 3) := by decide +kernel
theorem dX5_performWrite_100 : decode cX5_performWrite 100 = .ok (.iload 7, 2) := by decide +kernel
theorem dX5_performWrite_102 : decode cX5_performWrite 102 = .ok (.ireturn, 1) := by decide +kernel
theorem dX5_performReborrow_0 : decode cX5_performReborrow 0 = .ok (.aload_n 0, 1) := by decide +kernel
theorem dX5_performReborrow_1 : decode cX5_performReborrow 1 = .ok (.iload_n 1, 1) := by decide +kernel
theorem dX5_performReborrow_2 : decode cX5_performReborrow 2 = .ok (.invokevirtual 75, 3) := by decide +kernel
theorem dX5_performReborrow_5 : decode cX5_performReborrow 5 = .ok (.astore 6, 2) := by decide +kernel
theorem dX5_performReborrow_7 : decode cX5_performReborrow 7 = .ok (.aload 6, 2) := by decide +kernel
theorem dX5_performReborrow_9 : decode cX5_performReborrow 9 = .ok (.ifnull 23, 3) := by decide +kernel
theorem dX5_performReborrow_12 : decode cX5_performReborrow 12 = .ok (.iload_n 2, 1) := by decide +kernel
theorem dX5_performReborrow_13 : decode cX5_performReborrow 13 = .ok (.ifCond .lt 19, 3) := by decide +kernel
theorem dX5_performReborrow_16 : decode cX5_performReborrow 16 = .ok (.iload_n 2, 1) := by decide +kernel
theorem dX5_performReborrow_17 : decode cX5_performReborrow 17 = .ok (.iconst 2, 1) := by decide +kernel
theorem dX5_performReborrow_18 : decode cX5_performReborrow 18 = .ok (.if_icmp .gt 14, 3) := by decide +kernel
theorem dX5_performReborrow_21 : decode cX5_performReborrow 21 = .ok (.iload 5, 2) := by decide +kernel
theorem dX5_performReborrow_23 : decode cX5_performReborrow 23 = .ok (.ifCond .lt 9, 3) := by decide +kernel
theorem dX5_performReborrow_26 : decode cX5_performReborrow 26 = .ok (.iload 5, 2) := by decide +kernel
theorem dX5_performReborrow_28 : decode cX5_performReborrow 28 = .ok (.iconst 1, 1) := by decide +kernel
theorem dX5_performReborrow_29 : decode cX5_performReborrow 29 = .ok (.if_icmp .le 6, 3) := by decide +kernel
theorem dX5_performReborrow_32 : decode cX5_performReborrow 32 = .ok (.bipush (-2), 2) := by decide +kernel
theorem dX5_performReborrow_34 : decode cX5_performReborrow 34 = .ok (.ireturn, 1) := by decide +kernel
theorem dX5_performReborrow_35 : decode cX5_performReborrow 35 = .ok (.aload 6, 2) := by decide +kernel
theorem dX5_performReborrow_37 : decode cX5_performReborrow 37 = .ok (.getfield 83, 3) := by decide +kernel
theorem dX5_performReborrow_40 : decode cX5_performReborrow 40 = .ok (.astore 7, 2) := by decide +kernel
theorem dX5_performReborrow_42 : decode cX5_performReborrow 42 = .ok (.aload 7, 2) := by decide +kernel
theorem dX5_performReborrow_44 : decode cX5_performReborrow 44 = .ok (.iload_n 3, 1) := by decide +kernel
theorem dX5_performReborrow_45 : decode cX5_performReborrow 45 = .ok (.iload 4, 2) := by decide +kernel
theorem dX5_performReborrow_47 : decode cX5_performReborrow 47 = .ok (.invokevirtual 213, 3) := by decide +kernel
theorem dX5_performReborrow_50 : decode cX5_performReborrow 50 = .ok (.ifCond .ne 6, 3) := by decide +kernel
theorem dX5_performReborrow_53 : decode cX5_performReborrow 53 = .ok (.bipush (-2), 2) := by decide +kernel
theorem dX5_performReborrow_55 : decode cX5_performReborrow 55 = .ok (.ireturn, 1) := by decide +kernel
theorem dX5_performReborrow_56 : decode cX5_performReborrow 56 = .ok (.iload 5, 2) := by decide +kernel
theorem dX5_performReborrow_58 : decode cX5_performReborrow 58 = .ok (.iconst 1, 1) := by decide +kernel
theorem dX5_performReborrow_59 : decode cX5_performReborrow 59 = .ok (.if_icmp .ne 16, 3) := by decide +kernel
theorem dX5_performReborrow_62 : decode cX5_performReborrow 62 = .ok (.aload_n 0, 1) := by decide +kernel
theorem dX5_performReborrow_63 : decode cX5_performReborrow 63 = .ok (.getfield 24, 3) := by decide +kernel
theorem dX5_performReborrow_66 : decode cX5_performReborrow 66 = .ok (.getfield 156, 3) := by decide +kernel
theorem dX5_performReborrow_69 : decode cX5_performReborrow 69 = .ok (.ifCond .ne 6, 3) := by decide +kernel
theorem dX5_performReborrow_72 : decode cX5_performReborrow 72 = .ok (.bipush (-3), 2) := by decide +kernel
theorem dX5_performReborrow_74 : decode cX5_performReborrow 74 = .ok (.ireturn, 1) := by decide +kernel
theorem dX5_performReborrow_75 : decode cX5_performReborrow 75 = .ok (.aload 7, 2) := by decide +kernel
theorem dX5_performReborrow_77 : decode cX5_performReborrow 77 = .ok (.getfield 87, 3) := by decide +kernel
theorem dX5_performReborrow_80 : decode cX5_performReborrow 80 = .ok (.ifCond .eq 10, 3) := by decide +kernel
theorem dX5_performReborrow_83 : decode cX5_performReborrow 83 = .ok (.aload_n 0, 1) := by decide +kernel
theorem dX5_performReborrow_84 : decode cX5_performReborrow 84 = .ok (.iconst 3, 1) := by decide +kernel
theorem dX5_performReborrow_85 : decode cX5_performReborrow 85 = .ok (.iload_n 3, 1) := by decide +kernel
theorem dX5_performReborrow_86 : decode cX5_performReborrow 86 = .ok (.invokevirtual 200, 3) := by decide +kernel
theorem dX5_performReborrow_89 : decode cX5_performReborrow 89 = .ok (.ireturn, 1) := by decide +kernel
theorem dX5_performReborrow_90 : decode cX5_performReborrow 90 = .ok (.aload_n 0, 1) := by decide +kernel
theorem dX5_performReborrow_91 : decode cX5_performReborrow 91 = .ok (.getfield 153, 3) := by decide +kernel
theorem dX5_performReborrow_94 : decode cX5_performReborrow 94 = .ok (.bipush 60, 2) := by decide +kernel
theorem dX5_performReborrow_96 : decode cX5_performReborrow 96 = .ok (.if_icmp .ge 7, 3) := by decide +kernel
theorem dX5_performReborrow_99 : decode cX5_performReborrow 99 = .ok (.iconst 1, 1) := by decide +kernel
theorem dX5_performReborrow_100 : decode cX5_performReborrow 100 = .ok (.goto 4, 3) := by decide +kernel
theorem dX5_performReborrow_103 : decode cX5_performReborrow 103 = .ok (.iconst 0, 1) := by decide +kernel
theorem dX5_performReborrow_104 : decode cX5_performReborrow 104 = .ok (.istore 8, 2) := by decide +kernel
theorem dX5_performReborrow_106 : decode cX5_performReborrow 106 = .ok (.iload_n 3, 1) := by decide +kernel
theorem dX5_performReborrow_107 : decode cX5_performReborrow 107 = .ok (.istore 9, 2) := by decide +kernel
theorem dX5_performReborrow_109 : decode cX5_performReborrow 109 = .ok (.iload 9, 2) := by decide +kernel
theorem dX5_performReborrow_111 : decode cX5_performReborrow 111 = .ok (.iload_n 3, 1) := by decide +kernel
theorem dX5_performReborrow_112 : decode cX5_performReborrow 112 = .ok (.iload 4, 2) := by decide +kernel
theorem dX5_performReborrow_114 : decode cX5_performReborrow 114 = .ok (.iadd, 1) := by decide +kernel
theorem dX5_performReborrow_115 : decode cX5_performReborrow 115 = .ok (.if_icmp .ge 70, 3) := by decide +kernel
theorem dX5_performReborrow_118 : decode cX5_performReborrow 118 = .ok (.aload 7, 2) := by decide +kernel
theorem dX5_performReborrow_120 : decode cX5_performReborrow 120 = .ok (.getfield 103, 3) := by decide +kernel
theorem dX5_performReborrow_123 : decode cX5_performReborrow 123 = .ok (.iload 9, 2) := by decide +kernel
theorem dX5_performReborrow_125 : decode cX5_performReborrow 125 = .ok (.aaload, 1) := by decide +kernel
theorem dX5_performReborrow_126 : decode cX5_performReborrow 126 = .ok (.iload_n 2, 1) := by decide +kernel
theorem dX5_performReborrow_127 : decode cX5_performReborrow 127 = .ok (.iload_n 1, 1) := by decide +kernel
theorem dX5_performReborrow_128 : decode cX5_performReborrow 128 = .ok (.aload_n 0, 1) := by decide +kernel
theorem dX5_performReborrow_129 : decode cX5_performReborrow 129 = .ok (.getfield 24, 3) := by decide +kernel
theorem dX5_performReborrow_132 : decode cX5_performReborrow 132 = .ok (.invokevirtual 217, 3) := by decide +kernel
theorem dX5_performReborrow_135 : decode cX5_performReborrow 135 = .ok (.istore 10, 2) := by decide +kernel
theorem dX5_performReborrow_137 : decode cX5_performReborrow 137 = .ok (.iload 10, 2) := by decide +kernel
theorem dX5_performReborrow_139 : decode cX5_performReborrow 139 = .ok (.ifCond .eq 12, 3) := by decide +kernel
theorem dX5_performReborrow_142 : decode cX5_performReborrow 142 = .ok (.aload_n 0, 1) := by decide +kernel
theorem dX5_performReborrow_143 : decode cX5_performReborrow 143 = .ok (.iload 10, 2) := by decide +kernel
theorem dX5_performReborrow_145 : decode cX5_performReborrow 145 = .ok (.iload 9, 2) := by decide +kernel
theorem dX5_performReborrow_147 : decode cX5_performReborrow 147 = .ok (.invokevirtual 200, 3) := by decide +kernel
theorem dX5_performReborrow_150 : decode cX5_performReborrow 150 = .ok (.ireturn, 1) := by decide +kernel
theorem dX5_performReborrow_151 : decode cX5_performReborrow 151 = .ok (.iload 8, 2) := by decide +kernel
theorem dX5_performReborrow_153 : decode cX5_performReborrow 153 = .ok (.ifCond .eq 23, 3) := by decide +kernel
theorem dX5_performReborrow_156 : decode cX5_performReborrow 156 = .ok (.aload 7, 2) := by decide +kernel
theorem dX5_performReborrow_158 : decode cX5_performReborrow 158 = .ok (.getfield 103, 3) := by decide +kernel
theorem dX5_performReborrow_161 : decode cX5_performReborrow 161 = .ok (.iload 9, 2) := by decide +kernel
theorem dX5_performReborrow_163 : decode cX5_performReborrow 163 = .ok (.aaload, 1) := by decide +kernel
theorem dX5_performReborrow_164 : decode cX5_performReborrow 164 = .ok (.iload_n 2, 1) := by decide +kernel
theorem dX5_performReborrow_165 : decode cX5_performReborrow 165 = .ok (.iload_n 1, 1) := by decide +kernel
theorem dX5_performReborrow_166 : decode cX5_performReborrow 166 = .ok (.invokevirtual 221, 3) := by decide +kernel
theorem dX5_performReborrow_169 : decode cX5_performReborrow 169 = .ok (.ifCond .eq 7, 3) := by decide +kernel
theorem dX5_performReborrow_172 : decode cX5_performReborrow 172 = .ok (.iconst 1, 1) := by decide +kernel
theorem dX5_performReborrow_173 : decode cX5_performReborrow 173 = .ok (.goto 4, 3) := by decide +kernel
theorem dX5_performReborrow_176 : decode cX5_performReborrow 176 = .ok (.iconst 0, 1) := by decide +kernel
theorem dX5_performReborrow_177 : decode cX5_performReborrow 177 = .ok (.istore 8, 2) := by decide +kernel
theorem dX5_performReborrow_179 : decode cX5_performReborrow 179 = .ok (.iinc 9 1, 3) := by decide +kernel
theorem dX5_performReborrow_182 : decode cX5_performReborrow 182 = .ok (.goto (-73), 3) := by decide +kernel
theorem dX5_performReborrow_185 : decode cX5_performReborrow 185 = .ok (.iload 8, 2) := by decide +kernel
theorem dX5_performReborrow_187 : decode cX5_performReborrow 187 = .ok (.ifCond .ne 6, 3) := by decide +kernel
theorem dX5_performReborrow_190 : decode cX5_performReborrow 190 = .ok (.bipush (-4), 2) := by decide +kernel
theorem dX5_performReborrow_192 : decode cX5_performReborrow 192 = .ok (.ireturn, 1) := by decide +kernel
theorem dX5_performReborrow_193 : decode cX5_performReborrow 193 = .ok (.iload 5, 2) := by decide +kernel
theorem dX5_performReborrow_195 : decode cX5_performReborrow 195 = .ok (.iconst 1, 1) := by decide +kernel
theorem dX5_performReborrow_196 : decode cX5_performReborrow 196 = .ok (.if_icmp .ne 13, 3) := by decide +kernel
theorem dX5_performReborrow_199 : decode cX5_performReborrow 199 = .ok (.aload_n 0, 1) := by decide +kernel
theorem dX5_performReborrow_200 : decode cX5_performReborrow 200 = .ok (.getfield 24, 3) := by decide +kernel
theorem dX5_performReborrow_203 : decode cX5_performReborrow 203 = .ok (.invokevirtual 224, 3) := by decide +kernel
theorem dX5_performReborrow_206 : decode cX5_performReborrow 206 = .ok (.goto 4, 3) := by decide +kernel
theorem dX5_performReborrow_209 : decode cX5_performReborrow 209 = .ok (.iconst 0, 1) := by decide +kernel
theorem dX5_performReborrow_210 : decode cX5_performReborrow 210 = .ok (.istore 9, 2) := by decide +kernel
theorem dX5_performReborrow_212 : decode cX5_performReborrow 212 = .ok (.iload_n 3, 1) := by decide +kernel
theorem dX5_performReborrow_213 : decode cX5_performReborrow 213 = .ok (.istore 10, 2) := by decide +kernel
theorem dX5_performReborrow_215 : decode cX5_performReborrow 215 = .ok (.iload 10, 2) := by decide +kernel
theorem dX5_performReborrow_217 : decode cX5_performReborrow 217 = .ok (.iload_n 3, 1) := by decide +kernel
theorem dX5_performReborrow_218 : decode cX5_performReborrow 218 = .ok (.iload 4, 2) := by decide +kernel
theorem dX5_performReborrow_220 : decode cX5_performReborrow 220 = .ok (.iadd, 1) := by decide +kernel
theorem dX5_performReborrow_221 : decode cX5_performReborrow 221 = .ok (.if_icmp .ge 28, 3) := by decide +kernel
theorem dX5_performReborrow_224 : decode cX5_performReborrow 224 = .ok (.aload 7, 2) := by decide +kernel
theorem dX5_performReborrow_226 : decode cX5_performReborrow 226 = .ok (.getfield 103, 3) := by decide +kernel
theorem dX5_performReborrow_229 : decode cX5_performReborrow 229 = .ok (.iload 10, 2) := by decide +kernel
theorem dX5_performReborrow_231 : decode cX5_performReborrow 231 = .ok (.aaload, 1) := by decide +kernel
theorem dX5_performReborrow_232 : decode cX5_performReborrow 232 = .ok (.iload_n 2, 1) := by decide +kernel
theorem dX5_performReborrow_233 : decode cX5_performReborrow 233 = .ok (.iload_n 1, 1) := by decide +kernel
theorem dX5_performReborrow_234 : decode cX5_performReborrow 234 = .ok (.aload_n 0, 1) := by decide +kernel
theorem dX5_performReborrow_235 : decode cX5_performReborrow 235 = .ok (.getfield 153, 3) := by decide +kernel
theorem dX5_performReborrow_238 : decode cX5_performReborrow 238 = .ok (.iload 9, 2) := by decide +kernel
theorem dX5_performReborrow_240 : decode cX5_performReborrow 240 = .ok (.invokevirtual 227, 3) := by decide +kernel
theorem dX5_performReborrow_243 : decode cX5_performReborrow 243 = .ok (.iinc 10 1, 3) := by decide +kernel
theorem dX5_performReborrow_246 : decode cX5_performReborrow 246 = .ok (.goto (-31), 3) := by decide +kernel
theorem dX5_performReborrow_249 : decode cX5_performReborrow 249 = .ok (.aload_n 0, 1) := by decide +kernel
theorem dX5_performReborrow_250 : decode cX5_performReborrow 250 = .ok (.aload 7, 2) := by decide +kernel
theorem dX5_performReborrow_252 : decode cX5_performReborrow 252 = .ok (.iload_n 1, 1) := by decide +kernel
theorem dX5_performReborrow_253 : decode cX5_performReborrow 253 = .ok (.invokevirtual 196, 3) := by decide +kernel
theorem dX5_performReborrow_256 : decode cX5_performReborrow 256 = .ok (.ireturn, 1) := by decide +kernel
theorem dX5_performFree_0 : decode cX5_performFree 0 = .ok (.aload_n 0, 1) := by decide +kernel
theorem dX5_performFree_1 : decode cX5_performFree 1 = .ok (.iload_n 1, 1) := by decide +kernel
theorem dX5_performFree_2 : decode cX5_performFree 2 = .ok (.invokevirtual 75, 3) := by decide +kernel
theorem dX5_performFree_5 : decode cX5_performFree 5 = .ok (.astore_n 2, 1) := by decide +kernel
theorem dX5_performFree_6 : decode cX5_performFree 6 = .ok (.aload_n 2, 1) := by decide +kernel
theorem dX5_performFree_7 : decode cX5_performFree 7 = .ok (.ifnonnull 6, 3) := by decide +kernel
theorem dX5_performFree_10 : decode cX5_performFree 10 = .ok (.bipush (-2), 2) := by decide +kernel
theorem dX5_performFree_12 : decode cX5_performFree 12 = .ok (.ireturn, 1) := by decide +kernel
theorem dX5_performFree_13 : decode cX5_performFree 13 = .ok (.aload_n 2, 1) := by decide +kernel
theorem dX5_performFree_14 : decode cX5_performFree 14 = .ok (.getfield 83, 3) := by decide +kernel
theorem dX5_performFree_17 : decode cX5_performFree 17 = .ok (.astore_n 3, 1) := by decide +kernel
theorem dX5_performFree_18 : decode cX5_performFree 18 = .ok (.aload_n 3, 1) := by decide +kernel
theorem dX5_performFree_19 : decode cX5_performFree 19 = .ok (.getfield 87, 3) := by decide +kernel
theorem dX5_performFree_22 : decode cX5_performFree 22 = .ok (.ifCond .eq 10, 3) := by decide +kernel
theorem dX5_performFree_25 : decode cX5_performFree 25 = .ok (.aload_n 0, 1) := by decide +kernel
theorem dX5_performFree_26 : decode cX5_performFree 26 = .ok (.iconst 3, 1) := by decide +kernel
theorem dX5_performFree_27 : decode cX5_performFree 27 = .ok (.iconst 0, 1) := by decide +kernel
theorem dX5_performFree_28 : decode cX5_performFree 28 = .ok (.invokevirtual 200, 3) := by decide +kernel
theorem dX5_performFree_31 : decode cX5_performFree 31 = .ok (.ireturn, 1) := by decide +kernel
theorem dX5_performFree_32 : decode cX5_performFree 32 = .ok (.aload_n 3, 1) := by decide +kernel
theorem dX5_performFree_33 : decode cX5_performFree 33 = .ok (.iload_n 1, 1) := by decide +kernel
theorem dX5_performFree_34 : decode cX5_performFree 34 = .ok (.aload_n 0, 1) := by decide +kernel
theorem dX5_performFree_35 : decode cX5_performFree 35 = .ok (.getfield 24, 3) := by decide +kernel
theorem dX5_performFree_38 : decode cX5_performFree 38 = .ok (.invokevirtual 100, 3) := by decide +kernel
theorem dX5_performFree_41 : decode cX5_performFree 41 = .ok (.istore 4, 2) := by decide +kernel
theorem dX5_performFree_43 : decode cX5_performFree 43 = .ok (.iload 4, 2) := by decide +kernel
theorem dX5_performFree_45 : decode cX5_performFree 45 = .ok (.iconst (-1), 1) := by decide +kernel
theorem dX5_performFree_46 : decode cX5_performFree 46 = .ok (.if_icmp .eq 25, 3) := by decide +kernel
theorem dX5_performFree_49 : decode cX5_performFree 49 = .ok (.aload_n 0, 1) := by decide +kernel
theorem dX5_performFree_50 : decode cX5_performFree 50 = .ok (.aload_n 3, 1) := by decide +kernel
theorem dX5_performFree_51 : decode cX5_performFree 51 = .ok (.getfield 103, 3) := by decide +kernel
theorem dX5_performFree_54 : decode cX5_performFree 54 = .ok (.iload 4, 2) := by decide +kernel
theorem dX5_performFree_56 : decode cX5_performFree 56 = .ok (.aaload, 1) := by decide +kernel
theorem dX5_performFree_57 : decode cX5_performFree 57 = .ok (.iload_n 1, 1) := by decide +kernel
theorem dX5_performFree_58 : decode cX5_performFree 58 = .ok (.aload_n 0, 1) := by decide +kernel
theorem dX5_performFree_59 : decode cX5_performFree 59 = .ok (.getfield 24, 3) := by decide +kernel
theorem dX5_performFree_62 : decode cX5_performFree 62 = .ok (.invokevirtual 107, 3) := by decide +kernel
theorem dX5_performFree_65 : decode cX5_performFree 65 = .ok (.iload 4, 2) := by decide +kernel
theorem dX5_performFree_67 : decode cX5_performFree 67 = .ok (.invokevirtual 200, 3) := by decide +kernel
theorem dX5_performFree_70 : decode cX5_performFree 70 = .ok (.ireturn, 1) := by decide +kernel
theorem dX5_performFree_71 : decode cX5_performFree 71 = .ok (.aload_n 3, 1) := by decide +kernel
theorem dX5_performFree_72 : decode cX5_performFree 72 = .ok (.iconst 1, 1) := by decide +kernel
theorem dX5_performFree_73 : decode cX5_performFree 73 = .ok (.putfield 87, 3) := by decide +kernel
theorem dX5_performFree_76 : decode cX5_performFree 76 = .ok (.aload_n 3, 1) := by decide +kernel
theorem dX5_performFree_77 : decode cX5_performFree 77 = .ok (.getfield 103, 3) := by decide +kernel
theorem dX5_performFree_80 : decode cX5_performFree 80 = .ok (.arraylength, 1) := by decide +kernel
theorem dX5_performFree_81 : decode cX5_performFree 81 = .ok (.ireturn, 1) := by decide +kernel
theorem dX5_performEnter_0 : decode cX5_performEnter 0 = .ok (.aload_n 0, 1) := by decide +kernel
theorem dX5_performEnter_1 : decode cX5_performEnter 1 = .ok (.getfield 24, 3) := by decide +kernel
theorem dX5_performEnter_4 : decode cX5_performEnter 4 = .ok (.invokevirtual 231, 3) := by decide +kernel
theorem dX5_performEnter_7 : decode cX5_performEnter 7 = .ok (.ifCond .eq 13, 3) := by decide +kernel
theorem dX5_performEnter_10 : decode cX5_performEnter 10 = .ok (.aload_n 0, 1) := by decide +kernel
theorem dX5_performEnter_11 : decode cX5_performEnter 11 = .ok (.getfield 24, 3) := by decide +kernel
theorem dX5_performEnter_14 : decode cX5_performEnter 14 = .ok (.getfield 156, 3) := by decide +kernel
theorem dX5_performEnter_17 : decode cX5_performEnter 17 = .ok (.goto 5, 3) := by decide +kernel
theorem dX5_performEnter_20 : decode cX5_performEnter 20 = .ok (.bipush (-4), 2) := by decide +kernel
theorem dX5_performEnter_22 : decode cX5_performEnter 22 = .ok (.ireturn, 1) := by decide +kernel
theorem dX5_performLeave_0 : decode cX5_performLeave 0 = .ok (.aload_n 0, 1) := by decide +kernel
theorem dX5_performLeave_1 : decode cX5_performLeave 1 = .ok (.getfield 24, 3) := by decide +kernel
theorem dX5_performLeave_4 : decode cX5_performLeave 4 = .ok (.invokevirtual 235, 3) := by decide +kernel
theorem dX5_performLeave_7 : decode cX5_performLeave 7 = .ok (.ifCond .eq 13, 3) := by decide +kernel
theorem dX5_performLeave_10 : decode cX5_performLeave 10 = .ok (.aload_n 0, 1) := by decide +kernel
theorem dX5_performLeave_11 : decode cX5_performLeave 11 = .ok (.getfield 24, 3) := by decide +kernel
theorem dX5_performLeave_14 : decode cX5_performLeave 14 = .ok (.getfield 156, 3) := by decide +kernel
theorem dX5_performLeave_17 : decode cX5_performLeave 17 = .ok (.goto 5, 3) := by decide +kernel
theorem dX5_performLeave_20 : decode cX5_performLeave 20 = .ok (.bipush (-3), 2) := by decide +kernel
theorem dX5_performLeave_22 : decode cX5_performLeave 22 = .ok (.ireturn, 1) := by decide +kernel
theorem dX5_performCommand_0 : decode cX5_performCommand 0 = .ok (.aload_n 0, 1) := by decide +kernel
theorem dX5_performCommand_1 : decode cX5_performCommand 1 = .ok (.getfield 31, 3) := by decide +kernel
theorem dX5_performCommand_4 : decode cX5_performCommand 4 = .ok (.iload_n 1, 1) := by decide +kernel
theorem dX5_performCommand_5 : decode cX5_performCommand 5 = .ok (.iconst 0, 1) := by decide +kernel
theorem dX5_performCommand_6 : decode cX5_performCommand 6 = .ok (.invokevirtual 238, 3) := by decide +kernel
theorem dX5_performCommand_9 : decode cX5_performCommand 9 = .ok (.istore_n 2, 1) := by decide +kernel
theorem dX5_performCommand_10 : decode cX5_performCommand 10 = .ok (.aload_n 0, 1) := by decide +kernel
theorem dX5_performCommand_11 : decode cX5_performCommand 11 = .ok (.getfield 31, 3) := by decide +kernel
theorem dX5_performCommand_14 : decode cX5_performCommand 14 = .ok (.iload_n 1, 1) := by decide +kernel
theorem dX5_performCommand_15 : decode cX5_performCommand 15 = .ok (.iconst 1, 1) := by decide +kernel
theorem dX5_performCommand_16 : decode cX5_performCommand 16 = .ok (.invokevirtual 238, 3) := by decide +kernel
theorem dX5_performCommand_19 : decode cX5_performCommand 19 = .ok (.istore_n 3, 1) := by decide +kernel
theorem dX5_performCommand_20 : decode cX5_performCommand 20 = .ok (.aload_n 0, 1) := by decide +kernel
theorem dX5_performCommand_21 : decode cX5_performCommand 21 = .ok (.getfield 31, 3) := by decide +kernel
theorem dX5_performCommand_24 : decode cX5_performCommand 24 = .ok (.iload_n 1, 1) := by decide +kernel
theorem dX5_performCommand_25 : decode cX5_performCommand 25 = .ok (.iconst 2, 1) := by decide +kernel
theorem dX5_performCommand_26 : decode cX5_performCommand 26 = .ok (.invokevirtual 238, 3) := by decide +kernel
theorem dX5_performCommand_29 : decode cX5_performCommand 29 = .ok (.istore 4, 2) := by decide +kernel
theorem dX5_performCommand_31 : decode cX5_performCommand 31 = .ok (.aload_n 0, 1) := by decide +kernel
theorem dX5_performCommand_32 : decode cX5_performCommand 32 = .ok (.getfield 31, 3) := by decide +kernel
theorem dX5_performCommand_35 : decode cX5_performCommand 35 = .ok (.getfield 241, 3) := by decide +kernel
theorem dX5_performCommand_38 : decode cX5_performCommand 38 = .ok (.iload_n 1, 1) := by decide +kernel
theorem dX5_performCommand_39 : decode cX5_performCommand 39 = .ok (.iaload, 1) := by decide +kernel
theorem dX5_performCommand_40 : decode cX5_performCommand 40 = .ok (.tableswitch 174 97 119 #[108, 174, 174, 174, 169, 163, 174, 174, 174, 174, 174, 174, 130, 174, 174, 152, 174, 114, 141, 174, 174, 174, 121], 108) := by decide +kernel
theorem dX5_performCommand_148 : decode cX5_performCommand 148 = .ok (.aload_n 0, 1) := by decide +kernel
theorem dX5_performCommand_149 : decode cX5_performCommand 149 = .ok (.iload_n 2, 1) := by decide +kernel
theorem dX5_performCommand_150 : decode cX5_performCommand 150 = .ok (.invokevirtual 46, 3) := by decide +kernel
theorem dX5_performCommand_153 : decode cX5_performCommand 153 = .ok (.ireturn, 1) := by decide +kernel
theorem dX5_performCommand_154 : decode cX5_performCommand 154 = .ok (.aload_n 0, 1) := by decide +kernel
theorem dX5_performCommand_155 : decode cX5_performCommand 155 = .ok (.iload_n 2, 1) := by decide +kernel
theorem dX5_performCommand_156 : decode cX5_performCommand 156 = .ok (.iload_n 3, 1) := by decide +kernel
theorem dX5_performCommand_157 : decode cX5_performCommand 157 = .ok (.invokevirtual 53, 3) := by decide +kernel
theorem dX5_performCommand_160 : decode cX5_performCommand 160 = .ok (.ireturn, 1) := by decide +kernel
theorem dX5_performCommand_161 : decode cX5_performCommand 161 = .ok (.aload_n 0, 1) := by decide +kernel
theorem dX5_performCommand_162 : decode cX5_performCommand 162 = .ok (.iload_n 2, 1) := by decide +kernel
theorem dX5_performCommand_163 : decode cX5_performCommand 163 = .ok (.iload_n 3, 1) := by decide +kernel
theorem dX5_performCommand_164 : decode cX5_performCommand 164 = .ok (.iload 4, 2) := by decide +kernel
theorem dX5_performCommand_166 : decode cX5_performCommand 166 = .ok (.invokevirtual 57, 3) := by decide +kernel
theorem dX5_performCommand_169 : decode cX5_performCommand 169 = .ok (.ireturn, 1) := by decide +kernel
theorem dX5_performCommand_170 : decode cX5_performCommand 170 = .ok (.aload_n 0, 1) := by decide +kernel
theorem dX5_performCommand_171 : decode cX5_performCommand 171 = .ok (.iload_n 2, 1) := by decide +kernel
theorem dX5_performCommand_172 : decode cX5_performCommand 172 = .ok (.iconst 0, 1) := by decide +kernel
theorem dX5_performCommand_173 : decode cX5_performCommand 173 = .ok (.iload_n 3, 1) := by decide +kernel
theorem dX5_performCommand_174 : decode cX5_performCommand 174 = .ok (.iload 4, 2) := by decide +kernel
theorem dX5_performCommand_176 : decode cX5_performCommand 176 = .ok (.iconst 0, 1) := by decide +kernel
theorem dX5_performCommand_177 : decode cX5_performCommand 177 = .ok (.invokevirtual 61, 3) := by decide +kernel
theorem dX5_performCommand_180 : decode cX5_performCommand 180 = .ok (.ireturn, 1) := by decide +kernel
theorem dX5_performCommand_181 : decode cX5_performCommand 181 = .ok (.aload_n 0, 1) := by decide +kernel
theorem dX5_performCommand_182 : decode cX5_performCommand 182 = .ok (.iload_n 2, 1) := by decide +kernel
theorem dX5_performCommand_183 : decode cX5_performCommand 183 = .ok (.iconst 1, 1) := by decide +kernel
theorem dX5_performCommand_184 : decode cX5_performCommand 184 = .ok (.iload_n 3, 1) := by decide +kernel
theorem dX5_performCommand_185 : decode cX5_performCommand 185 = .ok (.iload 4, 2) := by decide +kernel
theorem dX5_performCommand_187 : decode cX5_performCommand 187 = .ok (.iconst 0, 1) := by decide +kernel
theorem dX5_performCommand_188 : decode cX5_performCommand 188 = .ok (.invokevirtual 61, 3) := by decide +kernel
theorem dX5_performCommand_191 : decode cX5_performCommand 191 = .ok (.ireturn, 1) := by decide +kernel
theorem dX5_performCommand_192 : decode cX5_performCommand 192 = .ok (.aload_n 0, 1) := by decide +kernel
theorem dX5_performCommand_193 : decode cX5_performCommand 193 = .ok (.iload_n 2, 1) := by decide +kernel
theorem dX5_performCommand_194 : decode cX5_performCommand 194 = .ok (.iconst 2, 1) := by decide +kernel
theorem dX5_performCommand_195 : decode cX5_performCommand 195 = .ok (.iload_n 3, 1) := by decide +kernel
theorem dX5_performCommand_196 : decode cX5_performCommand 196 = .ok (.iload 4, 2) := by decide +kernel
theorem dX5_performCommand_198 : decode cX5_performCommand 198 = .ok (.iconst 0, 1) := by decide +kernel
theorem dX5_performCommand_199 : decode cX5_performCommand 199 = .ok (.invokevirtual 61, 3) := by decide +kernel
theorem dX5_performCommand_202 : decode cX5_performCommand 202 = .ok (.ireturn, 1) := by decide +kernel
theorem dX5_performCommand_203 : decode cX5_performCommand 203 = .ok (.aload_n 0, 1) := by decide +kernel
theorem dX5_performCommand_204 : decode cX5_performCommand 204 = .ok (.iload_n 2, 1) := by decide +kernel
theorem dX5_performCommand_205 : decode cX5_performCommand 205 = .ok (.invokevirtual 65, 3) := by decide +kernel
theorem dX5_performCommand_208 : decode cX5_performCommand 208 = .ok (.ireturn, 1) := by decide +kernel
theorem dX5_performCommand_209 : decode cX5_performCommand 209 = .ok (.aload_n 0, 1) := by decide +kernel
theorem dX5_performCommand_210 : decode cX5_performCommand 210 = .ok (.invokevirtual 68, 3) := by decide +kernel
theorem dX5_performCommand_213 : decode cX5_performCommand 213 = .ok (.ireturn, 1) := by decide +kernel
theorem dX5_performCommand_214 : decode cX5_performCommand 214 = .ok (.aload_n 0, 1) := by decide +kernel
theorem dX5_performCommand_215 : decode cX5_performCommand 215 = .ok (.invokevirtual 72, 3) := by decide +kernel
theorem dX5_performCommand_218 : decode cX5_performCommand 218 = .ok (.ireturn, 1) := by decide +kernel
theorem dX5_counted_0 : decode cX5_counted 0 = .ok (.bipush (-2), 2) := by decide +kernel
theorem dX5_counted_2 : decode cX5_counted 2 = .ok (.iload_n 1, 1) := by decide +kernel
theorem dX5_counted_3 : decode cX5_counted 3 = .ok (.isub, 1) := by decide +kernel
theorem dX5_counted_4 : decode cX5_counted 4 = .ok (.istore_n 2, 1) := by decide +kernel
theorem dX5_counted_5 : decode cX5_counted 5 = .ok (.iload_n 2, 1) := by decide +kernel
theorem dX5_counted_6 : decode cX5_counted 6 = .ok (.ifCond .lt 18, 3) := by decide +kernel
theorem dX5_counted_9 : decode cX5_counted 9 = .ok (.iload_n 2, 1) := by decide +kernel
theorem dX5_counted_10 : decode cX5_counted 10 = .ok (.iconst 3, 1) := by decide +kernel
theorem dX5_counted_11 : decode cX5_counted 11 = .ok (.if_icmp .ge 13, 3) := by decide +kernel
theorem dX5_counted_14 : decode cX5_counted 14 = .ok (.aload_n 0, 1) := by decide +kernel
theorem dX5_counted_15 : decode cX5_counted 15 = .ok (.getfield 35, 3) := by decide +kernel
theorem dX5_counted_18 : decode cX5_counted 18 = .ok (.iload_n 2, 1) := by decide +kernel
theorem dX5_counted_19 : decode cX5_counted 19 = .ok (.dup2, 1) := by decide +kernel
theorem dX5_counted_20 : decode cX5_counted 20 = .ok (.iaload, 1) := by decide +kernel
theorem dX5_counted_21 : decode cX5_counted 21 = .ok (.iconst 1, 1) := by decide +kernel
theorem dX5_counted_22 : decode cX5_counted 22 = .ok (.iadd, 1) := by decide +kernel
theorem dX5_counted_23 : decode cX5_counted 23 = .ok (.iastore, 1) := by decide +kernel
theorem dX5_counted_24 : decode cX5_counted 24 = .ok (.iload_n 1, 1) := by decide +kernel
theorem dX5_counted_25 : decode cX5_counted 25 = .ok (.ireturn, 1) := by decide +kernel
theorem dX5_violated_0 : decode cX5_violated 0 = .ok (.aload_n 0, 1) := by decide +kernel
theorem dX5_violated_1 : decode cX5_violated 1 = .ok (.dup, 1) := by decide +kernel
theorem dX5_violated_2 : decode cX5_violated 2 = .ok (.getfield 159, 3) := by decide +kernel
theorem dX5_violated_5 : decode cX5_violated 5 = .ok (.iconst 1, 1) := by decide +kernel
theorem dX5_violated_6 : decode cX5_violated 6 = .ok (.iadd, 1) := by decide +kernel
theorem dX5_violated_7 : decode cX5_violated 7 = .ok (.putfield 159, 3) := by decide +kernel
theorem dX5_violated_10 : decode cX5_violated 10 = .ok (.aload_n 0, 1) := by decide +kernel
theorem dX5_violated_11 : decode cX5_violated 11 = .ok (.iload_n 1, 1) := by decide +kernel
theorem dX5_violated_12 : decode cX5_violated 12 = .ok (.putfield 39, 3) := by decide +kernel
theorem dX5_violated_15 : decode cX5_violated 15 = .ok (.aload_n 0, 1) := by decide +kernel
theorem dX5_violated_16 : decode cX5_violated 16 = .ok (.iload_n 2, 1) := by decide +kernel
theorem dX5_violated_17 : decode cX5_violated 17 = .ok (.putfield 43, 3) := by decide +kernel
theorem dX5_violated_20 : decode cX5_violated 20 = .ok (.bipush (-5), 2) := by decide +kernel
theorem dX5_violated_22 : decode cX5_violated 22 = .ok (.ireturn, 1) := by decide +kernel
theorem dX5_addPointer_0 : decode cX5_addPointer 0 = .ok (.aload_n 0, 1) := by decide +kernel
theorem dX5_addPointer_1 : decode cX5_addPointer 1 = .ok (.getfield 153, 3) := by decide +kernel
theorem dX5_addPointer_4 : decode cX5_addPointer 4 = .ok (.istore_n 3, 1) := by decide +kernel
theorem dX5_addPointer_5 : decode cX5_addPointer 5 = .ok (.iload_n 3, 1) := by decide +kernel
theorem dX5_addPointer_6 : decode cX5_addPointer 6 = .ok (.bipush 60, 2) := by decide +kernel
theorem dX5_addPointer_8 : decode cX5_addPointer 8 = .ok (.if_icmp .lt 6, 3) := by decide +kernel
theorem dX5_addPointer_11 : decode cX5_addPointer 11 = .ok (.bipush (-4), 2) := by decide +kernel
theorem dX5_addPointer_13 : decode cX5_addPointer 13 = .ok (.ireturn, 1) := by decide +kernel
theorem dX5_addPointer_14 : decode cX5_addPointer 14 = .ok (.aload_n 0, 1) := by decide +kernel
theorem dX5_addPointer_15 : decode cX5_addPointer 15 = .ok (.getfield 17, 3) := by decide +kernel
theorem dX5_addPointer_18 : decode cX5_addPointer 18 = .ok (.iload_n 3, 1) := by decide +kernel
theorem dX5_addPointer_19 : decode cX5_addPointer 19 = .ok (.new 15, 3) := by decide +kernel
theorem dX5_addPointer_22 : decode cX5_addPointer 22 = .ok (.dup, 1) := by decide +kernel
theorem dX5_addPointer_23 : decode cX5_addPointer 23 = .ok (.aload_n 1, 1) := by decide +kernel
theorem dX5_addPointer_24 : decode cX5_addPointer 24 = .ok (.iload_n 2, 1) := by decide +kernel
theorem dX5_addPointer_25 : decode cX5_addPointer 25 = .ok (.invokespecial 244, 3) := by decide +kernel
theorem dX5_addPointer_28 : decode cX5_addPointer 28 = .ok (.aastore, 1) := by decide +kernel
theorem dX5_addPointer_29 : decode cX5_addPointer 29 = .ok (.aload_n 0, 1) := by decide +kernel
theorem dX5_addPointer_30 : decode cX5_addPointer 30 = .ok (.dup, 1) := by decide +kernel
theorem dX5_addPointer_31 : decode cX5_addPointer 31 = .ok (.getfield 153, 3) := by decide +kernel
theorem dX5_addPointer_34 : decode cX5_addPointer 34 = .ok (.iconst 1, 1) := by decide +kernel
theorem dX5_addPointer_35 : decode cX5_addPointer 35 = .ok (.iadd, 1) := by decide +kernel
theorem dX5_addPointer_36 : decode cX5_addPointer 36 = .ok (.putfield 153, 3) := by decide +kernel
theorem dX5_addPointer_39 : decode cX5_addPointer 39 = .ok (.iload_n 3, 1) := by decide +kernel
theorem dX5_addPointer_40 : decode cX5_addPointer 40 = .ok (.ireturn, 1) := by decide +kernel
theorem dX5_pointerAt_0 : decode cX5_pointerAt 0 = .ok (.iload_n 1, 1) := by decide +kernel
theorem dX5_pointerAt_1 : decode cX5_pointerAt 1 = .ok (.ifCond .lt 20, 3) := by decide +kernel
theorem dX5_pointerAt_4 : decode cX5_pointerAt 4 = .ok (.iload_n 1, 1) := by decide +kernel
theorem dX5_pointerAt_5 : decode cX5_pointerAt 5 = .ok (.aload_n 0, 1) := by decide +kernel
theorem dX5_pointerAt_6 : decode cX5_pointerAt 6 = .ok (.getfield 153, 3) := by decide +kernel
theorem dX5_pointerAt_9 : decode cX5_pointerAt 9 = .ok (.if_icmp .ge 12, 3) := by decide +kernel
theorem dX5_pointerAt_12 : decode cX5_pointerAt 12 = .ok (.aload_n 0, 1) := by decide +kernel
theorem dX5_pointerAt_13 : decode cX5_pointerAt 13 = .ok (.getfield 17, 3) := by decide +kernel
theorem dX5_pointerAt_16 : decode cX5_pointerAt 16 = .ok (.iload_n 1, 1) := by decide +kernel
theorem dX5_pointerAt_17 : decode cX5_pointerAt 17 = .ok (.aaload, 1) := by decide +kernel
theorem dX5_pointerAt_18 : decode cX5_pointerAt 18 = .ok (.goto 4, 3) := by decide +kernel
theorem dX5_pointerAt_21 : decode cX5_pointerAt 21 = .ok (.aconst_null, 1) := by decide +kernel
theorem dX5_pointerAt_22 : decode cX5_pointerAt 22 = .ok (.areturn, 1) := by decide +kernel
theorem dX5_allocationAt_0 : decode cX5_allocationAt 0 = .ok (.iload_n 1, 1) := by decide +kernel
theorem dX5_allocationAt_1 : decode cX5_allocationAt 1 = .ok (.ifCond .lt 20, 3) := by decide +kernel
theorem dX5_allocationAt_4 : decode cX5_allocationAt 4 = .ok (.iload_n 1, 1) := by decide +kernel
theorem dX5_allocationAt_5 : decode cX5_allocationAt 5 = .ok (.aload_n 0, 1) := by decide +kernel
theorem dX5_allocationAt_6 : decode cX5_allocationAt 6 = .ok (.getfield 186, 3) := by decide +kernel
theorem dX5_allocationAt_9 : decode cX5_allocationAt 9 = .ok (.if_icmp .ge 12, 3) := by decide +kernel
theorem dX5_allocationAt_12 : decode cX5_allocationAt 12 = .ok (.aload_n 0, 1) := by decide +kernel
theorem dX5_allocationAt_13 : decode cX5_allocationAt 13 = .ok (.getfield 11, 3) := by decide +kernel
theorem dX5_allocationAt_16 : decode cX5_allocationAt 16 = .ok (.iload_n 1, 1) := by decide +kernel
theorem dX5_allocationAt_17 : decode cX5_allocationAt 17 = .ok (.aaload, 1) := by decide +kernel
theorem dX5_allocationAt_18 : decode cX5_allocationAt 18 = .ok (.goto 4, 3) := by decide +kernel
theorem dX5_allocationAt_21 : decode cX5_allocationAt 21 = .ok (.aconst_null, 1) := by decide +kernel
theorem dX5_allocationAt_22 : decode cX5_allocationAt 22 = .ok (.areturn, 1) := by decide +kernel
theorem dX5_cellAt_0 : decode cX5_cellAt 0 = .ok (.aload_n 0, 1) := by decide +kernel
theorem dX5_cellAt_1 : decode cX5_cellAt 1 = .ok (.iload_n 1, 1) := by decide +kernel
theorem dX5_cellAt_2 : decode cX5_cellAt 2 = .ok (.invokevirtual 149, 3) := by decide +kernel
theorem dX5_cellAt_5 : decode cX5_cellAt 5 = .ok (.astore_n 3, 1) := by decide +kernel
theorem dX5_cellAt_6 : decode cX5_cellAt 6 = .ok (.aload_n 3, 1) := by decide +kernel
theorem dX5_cellAt_7 : decode cX5_cellAt 7 = .ok (.ifnull 21, 3) := by decide +kernel
theorem dX5_cellAt_10 : decode cX5_cellAt 10 = .ok (.aload_n 3, 1) := by decide +kernel
theorem dX5_cellAt_11 : decode cX5_cellAt 11 = .ok (.iload_n 2, 1) := by decide +kernel
theorem dX5_cellAt_12 : decode cX5_cellAt 12 = .ok (.iconst 1, 1) := by decide +kernel
theorem dX5_cellAt_13 : decode cX5_cellAt 13 = .ok (.invokevirtual 213, 3) := by decide +kernel
theorem dX5_cellAt_16 : decode cX5_cellAt 16 = .ok (.ifCond .eq 12, 3) := by decide +kernel
theorem dX5_cellAt_19 : decode cX5_cellAt 19 = .ok (.aload_n 3, 1) := by decide +kernel
theorem dX5_cellAt_20 : decode cX5_cellAt 20 = .ok (.getfield 103, 3) := by decide +kernel
theorem dX5_cellAt_23 : decode cX5_cellAt 23 = .ok (.iload_n 2, 1) := by decide +kernel
theorem dX5_cellAt_24 : decode cX5_cellAt 24 = .ok (.aaload, 1) := by decide +kernel
theorem dX5_cellAt_25 : decode cX5_cellAt 25 = .ok (.goto 4, 3) := by decide +kernel
theorem dX5_cellAt_28 : decode cX5_cellAt 28 = .ok (.aconst_null, 1) := by decide +kernel
theorem dX5_cellAt_29 : decode cX5_cellAt 29 = .ok (.areturn, 1) := by decide +kernel
theorem dX5_cellThrough_0 : decode cX5_cellThrough 0 = .ok (.aload_n 0, 1) := by decide +kernel
theorem dX5_cellThrough_1 : decode cX5_cellThrough 1 = .ok (.ifnull 27, 3) := by decide +kernel
theorem dX5_cellThrough_4 : decode cX5_cellThrough 4 = .ok (.aload_n 0, 1) := by decide +kernel
theorem dX5_cellThrough_5 : decode cX5_cellThrough 5 = .ok (.getfield 83, 3) := by decide +kernel
theorem dX5_cellThrough_8 : decode cX5_cellThrough 8 = .ok (.iload_n 1, 1) := by decide +kernel
theorem dX5_cellThrough_9 : decode cX5_cellThrough 9 = .ok (.iconst 1, 1) := by decide +kernel
theorem dX5_cellThrough_10 : decode cX5_cellThrough 10 = .ok (.invokevirtual 213, 3) := by decide +kernel
theorem dX5_cellThrough_13 : decode cX5_cellThrough 13 = .ok (.ifCond .eq 15, 3) := by decide +kernel
theorem dX5_cellThrough_16 : decode cX5_cellThrough 16 = .ok (.aload_n 0, 1) := by decide +kernel
theorem dX5_cellThrough_17 : decode cX5_cellThrough 17 = .ok (.getfield 83, 3) := by decide +kernel
theorem dX5_cellThrough_20 : decode cX5_cellThrough 20 = .ok (.getfield 103, 3) := by decide +kernel
theorem dX5_cellThrough_23 : decode cX5_cellThrough 23 = .ok (.iload_n 1, 1) := by decide +kernel
theorem dX5_cellThrough_24 : decode cX5_cellThrough 24 = .ok (.aaload, 1) := by decide +kernel
theorem dX5_cellThrough_25 : decode cX5_cellThrough 25 = .ok (.goto 4, 3) := by decide +kernel
theorem dX5_cellThrough_28 : decode cX5_cellThrough 28 = .ok (.aconst_null, 1) := by decide +kernel
theorem dX5_cellThrough_29 : decode cX5_cellThrough 29 = .ok (.areturn, 1) := by decide +kernel
theorem dX5_isFailure_0 : decode cX5_isFailure 0 = .ok (.iload_n 0, 1) := by decide +kernel
theorem dX5_isFailure_1 : decode cX5_isFailure 1 = .ok (.bipush (-2), 2) := by decide +kernel
theorem dX5_isFailure_3 : decode cX5_isFailure 3 = .ok (.if_icmp .eq 21, 3) := by decide +kernel
theorem dX5_isFailure_6 : decode cX5_isFailure 6 = .ok (.iload_n 0, 1) := by decide +kernel
theorem dX5_isFailure_7 : decode cX5_isFailure 7 = .ok (.bipush (-3), 2) := by decide +kernel
theorem dX5_isFailure_9 : decode cX5_isFailure 9 = .ok (.if_icmp .eq 15, 3) := by decide +kernel
theorem dX5_isFailure_12 : decode cX5_isFailure 12 = .ok (.iload_n 0, 1) := by decide +kernel
theorem dX5_isFailure_13 : decode cX5_isFailure 13 = .ok (.bipush (-4), 2) := by decide +kernel
theorem dX5_isFailure_15 : decode cX5_isFailure 15 = .ok (.if_icmp .eq 9, 3) := by decide +kernel
theorem dX5_isFailure_18 : decode cX5_isFailure 18 = .ok (.iload_n 0, 1) := by decide +kernel
theorem dX5_isFailure_19 : decode cX5_isFailure 19 = .ok (.bipush (-5), 2) := by decide +kernel
theorem dX5_isFailure_21 : decode cX5_isFailure 21 = .ok (.if_icmp .ne 7, 3) := by decide +kernel
theorem dX5_isFailure_24 : decode cX5_isFailure 24 = .ok (.iconst 1, 1) := by decide +kernel
theorem dX5_isFailure_25 : decode cX5_isFailure 25 = .ok (.goto 4, 3) := by decide +kernel
theorem dX5_isFailure_28 : decode cX5_isFailure 28 = .ok (.iconst 0, 1) := by decide +kernel
theorem dX5_isFailure_29 : decode cX5_isFailure 29 = .ok (.ireturn, 1) := by decide +kernel
theorem dX5_asNumber_0 : decode cX5_asNumber 0 = .ok (.iload_n 0, 1) := by decide +kernel
theorem dX5_asNumber_1 : decode cX5_asNumber 1 = .ok (.ifCond .eq 7, 3) := by decide +kernel
theorem dX5_asNumber_4 : decode cX5_asNumber 4 = .ok (.iconst 1, 1) := by decide +kernel
theorem dX5_asNumber_5 : decode cX5_asNumber 5 = .ok (.goto 4, 3) := by decide +kernel
theorem dX5_asNumber_8 : decode cX5_asNumber 8 = .ok (.iconst 0, 1) := by decide +kernel
theorem dX5_asNumber_9 : decode cX5_asNumber 9 = .ok (.ireturn, 1) := by decide +kernel
theorem dX5_mixed_0 : decode cX5_mixed 0 = .ok (.ldc2_w 247, 3) := by decide +kernel
theorem dX5_mixed_3 : decode cX5_mixed 3 = .ok (.lload_n 0, 1) := by decide +kernel
theorem dX5_mixed_4 : decode cX5_mixed 4 = .ok (.lmul, 1) := by decide +kernel
theorem dX5_mixed_5 : decode cX5_mixed 5 = .ok (.lload_n 2, 1) := by decide +kernel
theorem dX5_mixed_6 : decode cX5_mixed 6 = .ok (.ladd, 1) := by decide +kernel
theorem dX5_mixed_7 : decode cX5_mixed 7 = .ok (.lreturn, 1) := by decide +kernel
theorem dX6_init_0 : decode cX6_init 0 = .ok (.aload_n 0, 1) := by decide +kernel
theorem dX6_init_1 : decode cX6_init 1 = .ok (.invokespecial 1, 3) := by decide +kernel
theorem dX6_init_4 : decode cX6_init 4 = .ok (.aload_n 0, 1) := by decide +kernel
theorem dX6_init_5 : decode cX6_init 5 = .ok (.bipush 10, 2) := by decide +kernel
theorem dX6_init_7 : decode cX6_init 7 = .ok (.newarray .int, 2) := by decide +kernel
theorem dX6_init_9 : decode cX6_init 9 = .ok (.putfield 7, 3) := by decide +kernel
theorem dX6_init_12 : decode cX6_init 12 = .ok (.aload_n 0, 1) := by decide +kernel
theorem dX6_init_13 : decode cX6_init 13 = .ok (.bipush 10, 2) := by decide +kernel
theorem dX6_init_15 : decode cX6_init 15 = .ok (.newarray .boolean, 2) := by decide +kernel
theorem dX6_init_17 : decode cX6_init 17 = .ok (.putfield 13, 3) := by decide +kernel
theorem dX6_init_20 : decode cX6_init 20 = .ok (.aload_n 0, 1) := by decide +kernel
theorem dX6_init_21 : decode cX6_init 21 = .ok (.bipush 80, 2) := by decide +kernel
theorem dX6_init_23 : decode cX6_init 23 = .ok (.newarray .int, 2) := by decide +kernel
theorem dX6_init_25 : decode cX6_init 25 = .ok (.putfield 17, 3) := by decide +kernel
theorem dX6_init_28 : decode cX6_init 28 = .ok (.aload_n 0, 1) := by decide +kernel
theorem dX6_init_29 : decode cX6_init 29 = .ok (.bipush 80, 2) := by decide +kernel
theorem dX6_init_31 : decode cX6_init 31 = .ok (.newarray .int, 2) := by decide +kernel
theorem dX6_init_33 : decode cX6_init 33 = .ok (.putfield 20, 3) := by decide +kernel
theorem dX6_init_36 : decode cX6_init 36 = .ok (.aload_n 0, 1) := by decide +kernel
theorem dX6_init_37 : decode cX6_init 37 = .ok (.sipush 960, 3) := by decide +kernel
theorem dX6_init_40 : decode cX6_init 40 = .ok (.newarray .int, 2) := by decide +kernel
theorem dX6_init_42 : decode cX6_init 42 = .ok (.putfield 23, 3) := by decide +kernel
theorem dX6_init_45 : decode cX6_init 45 = .ok (.aload_n 0, 1) := by decide +kernel
theorem dX6_init_46 : decode cX6_init 46 = .ok (.sipush 960, 3) := by decide +kernel
theorem dX6_init_49 : decode cX6_init 49 = .ok (.newarray .int, 2) := by decide +kernel
theorem dX6_init_51 : decode cX6_init 51 = .ok (.putfield 26, 3) := by decide +kernel
theorem dX6_init_54 : decode cX6_init 54 = .ok (.aload_n 0, 1) := by decide +kernel
theorem dX6_init_55 : decode cX6_init 55 = .ok (.sipush 960, 3) := by decide +kernel
theorem dX6_init_58 : decode cX6_init 58 = .ok (.newarray .int, 2) := by decide +kernel
theorem dX6_init_60 : decode cX6_init 60 = .ok (.putfield 29, 3) := by decide +kernel
theorem dX6_init_63 : decode cX6_init 63 = .ok (.aload_n 0, 1) := by decide +kernel
theorem dX6_init_64 : decode cX6_init 64 = .ok (.bipush 60, 2) := by decide +kernel
theorem dX6_init_66 : decode cX6_init 66 = .ok (.newarray .int, 2) := by decide +kernel
theorem dX6_init_68 : decode cX6_init 68 = .ok (.putfield 32, 3) := by decide +kernel
theorem dX6_init_71 : decode cX6_init 71 = .ok (.aload_n 0, 1) := by decide +kernel
theorem dX6_init_72 : decode cX6_init 72 = .ok (.bipush 60, 2) := by decide +kernel
theorem dX6_init_74 : decode cX6_init 74 = .ok (.newarray .int, 2) := by decide +kernel
theorem dX6_init_76 : decode cX6_init 76 = .ok (.putfield 35, 3) := by decide +kernel
theorem dX6_init_79 : decode cX6_init 79 = .ok (.aload_n 0, 1) := by decide +kernel
theorem dX6_init_80 : decode cX6_init 80 = .ok (.iconst (-1), 1) := by decide +kernel
theorem dX6_init_81 : decode cX6_init 81 = .ok (.putfield 38, 3) := by decide +kernel
theorem dX6_init_84 : decode cX6_init 84 = .ok (.aload_n 0, 1) := by decide +kernel
theorem dX6_init_85 : decode cX6_init 85 = .ok (.iconst 3, 1) := by decide +kernel
theorem dX6_init_86 : decode cX6_init 86 = .ok (.newarray .int, 2) := by decide +kernel
theorem dX6_init_88 : decode cX6_init 88 = .ok (.putfield 42, 3) := by decide +kernel
theorem dX6_init_91 : decode cX6_init 91 = .ok (.aload_n 0, 1) := by decide +kernel
theorem dX6_init_92 : decode cX6_init 92 = .ok (.bipush 120, 2) := by decide +kernel
theorem dX6_init_94 : decode cX6_init 94 = .ok (.newarray .int, 2) := by decide +kernel
theorem dX6_init_96 : decode cX6_init 96 = .ok (.putfield 45, 3) := by decide +kernel
theorem dX6_init_99 : decode cX6_init 99 = .ok (.aload_n 0, 1) := by decide +kernel
theorem dX6_init_100 : decode cX6_init 100 = .ok (.bipush 60, 2) := by decide +kernel
theorem dX6_init_102 : decode cX6_init 102 = .ok (.newarray .int, 2) := by decide +kernel
theorem dX6_init_104 : decode cX6_init 104 = .ok (.putfield 48, 3) := by decide +kernel
theorem dX6_init_107 : decode cX6_init 107 = .ok (.aload_n 0, 1) := by decide +kernel
theorem dX6_init_108 : decode cX6_init 108 = .ok (.sipush 180, 3) := by decide +kernel
theorem dX6_init_111 : decode cX6_init 111 = .ok (.newarray .int, 2) := by decide +kernel
theorem dX6_init_113 : decode cX6_init 113 = .ok (.putfield 51, 3) := by decide +kernel
theorem dX6_init_116 : decode cX6_init 116 = .ok (.return_, 1) := by decide +kernel
theorem dX6_in_0 : decode cX6_in 0 = .ok (.iload_n 0, 1) := by decide +kernel
theorem dX6_in_1 : decode cX6_in 1 = .ok (.iload_n 1, 1) := by decide +kernel
theorem dX6_in_2 : decode cX6_in 2 = .ok (.if_icmp .lt 12, 3) := by decide +kernel
theorem dX6_in_5 : decode cX6_in 5 = .ok (.iload_n 0, 1) := by decide +kernel
theorem dX6_in_6 : decode cX6_in 6 = .ok (.iload_n 2, 1) := by decide +kernel
theorem dX6_in_7 : decode cX6_in 7 = .ok (.if_icmp .gt 7, 3) := by decide +kernel
theorem dX6_in_10 : decode cX6_in 10 = .ok (.iconst 1, 1) := by decide +kernel
theorem dX6_in_11 : decode cX6_in 11 = .ok (.goto 4, 3) := by decide +kernel
theorem dX6_in_14 : decode cX6_in 14 = .ok (.iconst 0, 1) := by decide +kernel
theorem dX6_in_15 : decode cX6_in 15 = .ok (.ireturn, 1) := by decide +kernel
theorem dX6_error_0 : decode cX6_error 0 = .ok (.aload_n 0, 1) := by decide +kernel
theorem dX6_error_1 : decode cX6_error 1 = .ok (.getfield 42, 3) := by decide +kernel
theorem dX6_error_4 : decode cX6_error 4 = .ok (.bipush (-2), 2) := by decide +kernel
theorem dX6_error_6 : decode cX6_error 6 = .ok (.iload_n 1, 1) := by decide +kernel
theorem dX6_error_7 : decode cX6_error 7 = .ok (.isub, 1) := by decide +kernel
theorem dX6_error_8 : decode cX6_error 8 = .ok (.dup2, 1) := by decide +kernel
theorem dX6_error_9 : decode cX6_error 9 = .ok (.iaload, 1) := by decide +kernel
theorem dX6_error_10 : decode cX6_error 10 = .ok (.aload_n 0, 1) := by decide +kernel
theorem dX6_error_11 : decode cX6_error 11 = .ok (.getfield 54, 3) := by decide +kernel
theorem dX6_error_14 : decode cX6_error 14 = .ok (.ifCond .eq 7, 3) := by decide +kernel
theorem dX6_error_17 : decode cX6_error 17 = .ok (.iconst 0, 1) := by decide +kernel
theorem dX6_error_18 : decode cX6_error 18 = .ok (.goto 4, 3) := by decide +kernel
theorem dX6_error_21 : decode cX6_error 21 = .ok (.iconst 1, 1) := by decide +kernel
theorem dX6_error_22 : decode cX6_error 22 = .ok (.iadd, 1) := by decide +kernel
theorem dX6_error_23 : decode cX6_error 23 = .ok (.iastore, 1) := by decide +kernel
theorem dX6_error_24 : decode cX6_error 24 = .ok (.iload_n 1, 1) := by decide +kernel
theorem dX6_error_25 : decode cX6_error 25 = .ok (.ireturn, 1) := by decide +kernel
theorem dX6_violate_0 : decode cX6_violate 0 = .ok (.aload_n 0, 1) := by decide +kernel
theorem dX6_violate_1 : decode cX6_violate 1 = .ok (.dup, 1) := by decide +kernel
theorem dX6_violate_2 : decode cX6_violate 2 = .ok (.getfield 58, 3) := by decide +kernel
theorem dX6_violate_5 : decode cX6_violate 5 = .ok (.iconst 1, 1) := by decide +kernel
theorem dX6_violate_6 : decode cX6_violate 6 = .ok (.iadd, 1) := by decide +kernel
theorem dX6_violate_7 : decode cX6_violate 7 = .ok (.putfield 58, 3) := by decide +kernel
theorem dX6_violate_10 : decode cX6_violate 10 = .ok (.aload_n 0, 1) := by decide +kernel
theorem dX6_violate_11 : decode cX6_violate 11 = .ok (.iload_n 1, 1) := by decide +kernel
theorem dX6_violate_12 : decode cX6_violate 12 = .ok (.putfield 61, 3) := by decide +kernel
theorem dX6_violate_15 : decode cX6_violate 15 = .ok (.aload_n 0, 1) := by decide +kernel
theorem dX6_violate_16 : decode cX6_violate 16 = .ok (.iload_n 2, 1) := by decide +kernel
theorem dX6_violate_17 : decode cX6_violate 17 = .ok (.putfield 38, 3) := by decide +kernel
theorem dX6_violate_20 : decode cX6_violate 20 = .ok (.bipush (-5), 2) := by decide +kernel
theorem dX6_violate_22 : decode cX6_violate 22 = .ok (.ireturn, 1) := by decide +kernel
theorem dX6_isPointer_0 : decode cX6_isPointer 0 = .ok (.iload_n 1, 1) := by decide +kernel
theorem dX6_isPointer_1 : decode cX6_isPointer 1 = .ok (.iconst 0, 1) := by decide +kernel
theorem dX6_isPointer_2 : decode cX6_isPointer 2 = .ok (.aload_n 0, 1) := by decide +kernel
theorem dX6_isPointer_3 : decode cX6_isPointer 3 = .ok (.getfield 64, 3) := by decide +kernel
theorem dX6_isPointer_6 : decode cX6_isPointer 6 = .ok (.iconst 1, 1) := by decide +kernel
theorem dX6_isPointer_7 : decode cX6_isPointer 7 = .ok (.isub, 1) := by decide +kernel
theorem dX6_isPointer_8 : decode cX6_isPointer 8 = .ok (.invokestatic 67, 3) := by decide +kernel
theorem dX6_isPointer_11 : decode cX6_isPointer 11 = .ok (.ireturn, 1) := by decide +kernel
theorem dX6_isCell_0 : decode cX6_isCell 0 = .ok (.aload_n 0, 1) := by decide +kernel
theorem dX6_isCell_1 : decode cX6_isCell 1 = .ok (.iload_n 1, 1) := by decide +kernel
theorem dX6_isCell_2 : decode cX6_isCell 2 = .ok (.invokevirtual 71, 3) := by decide +kernel
theorem dX6_isCell_5 : decode cX6_isCell 5 = .ok (.ifCond .eq 28, 3) := by decide +kernel
theorem dX6_isCell_8 : decode cX6_isCell 8 = .ok (.iload_n 2, 1) := by decide +kernel
theorem dX6_isCell_9 : decode cX6_isCell 9 = .ok (.iconst 0, 1) := by decide +kernel
theorem dX6_isCell_10 : decode cX6_isCell 10 = .ok (.aload_n 0, 1) := by decide +kernel
theorem dX6_isCell_11 : decode cX6_isCell 11 = .ok (.getfield 7, 3) := by decide +kernel
theorem dX6_isCell_14 : decode cX6_isCell 14 = .ok (.aload_n 0, 1) := by decide +kernel
theorem dX6_isCell_15 : decode cX6_isCell 15 = .ok (.getfield 32, 3) := by decide +kernel
theorem dX6_isCell_18 : decode cX6_isCell 18 = .ok (.iload_n 1, 1) := by decide +kernel
theorem dX6_isCell_19 : decode cX6_isCell 19 = .ok (.iaload, 1) := by decide +kernel
theorem dX6_isCell_20 : decode cX6_isCell 20 = .ok (.iaload, 1) := by decide +kernel
theorem dX6_isCell_21 : decode cX6_isCell 21 = .ok (.iconst 1, 1) := by decide +kernel
theorem dX6_isCell_22 : decode cX6_isCell 22 = .ok (.isub, 1) := by decide +kernel
theorem dX6_isCell_23 : decode cX6_isCell 23 = .ok (.invokestatic 67, 3) := by decide +kernel
theorem dX6_isCell_26 : decode cX6_isCell 26 = .ok (.ifCond .eq 7, 3) := by decide +kernel
theorem dX6_isCell_29 : decode cX6_isCell 29 = .ok (.iconst 1, 1) := by decide +kernel
theorem dX6_isCell_30 : decode cX6_isCell 30 = .ok (.goto 4, 3) := by decide +kernel
theorem dX6_isCell_33 : decode cX6_isCell 33 = .ok (.iconst 0, 1) := by decide +kernel
theorem dX6_isCell_34 : decode cX6_isCell 34 = .ok (.ireturn, 1) := by decide +kernel
theorem dX6_cellOf_0 : decode cX6_cellOf 0 = .ok (.bipush 8, 2) := by decide +kernel
theorem dX6_cellOf_2 : decode cX6_cellOf 2 = .ok (.aload_n 0, 1) := by decide +kernel
theorem dX6_cellOf_3 : decode cX6_cellOf 3 = .ok (.getfield 32, 3) := by decide +kernel
theorem dX6_cellOf_6 : decode cX6_cellOf 6 = .ok (.iload_n 1, 1) := by decide +kernel
theorem dX6_cellOf_7 : decode cX6_cellOf 7 = .ok (.iaload, 1) := by decide +kernel
theorem dX6_cellOf_8 : decode cX6_cellOf 8 = .ok (.imul, 1) := by decide +kernel
theorem dX6_cellOf_9 : decode cX6_cellOf 9 = .ok (.iload_n 2, 1) := by decide +kernel
theorem dX6_cellOf_10 : decode cX6_cellOf 10 = .ok (.iadd, 1) := by decide +kernel
theorem dX6_cellOf_11 : decode cX6_cellOf 11 = .ok (.ireturn, 1) := by decide +kernel
theorem dX6_granting_0 : decode cX6_granting 0 = .ok (.aload_n 0, 1) := by decide +kernel
theorem dX6_granting_1 : decode cX6_granting 1 = .ok (.getfield 20, 3) := by decide +kernel
theorem dX6_granting_4 : decode cX6_granting 4 = .ok (.iload_n 1, 1) := by decide +kernel
theorem dX6_granting_5 : decode cX6_granting 5 = .ok (.iaload, 1) := by decide +kernel
theorem dX6_granting_6 : decode cX6_granting 6 = .ok (.iconst 1, 1) := by decide +kernel
theorem dX6_granting_7 : decode cX6_granting 7 = .ok (.isub, 1) := by decide +kernel
theorem dX6_granting_8 : decode cX6_granting 8 = .ok (.istore 4, 2) := by decide +kernel
theorem dX6_granting_10 : decode cX6_granting 10 = .ok (.iload 4, 2) := by decide +kernel
theorem dX6_granting_12 : decode cX6_granting 12 = .ok (.ifCond .lt 78, 3) := by decide +kernel
theorem dX6_granting_15 : decode cX6_granting 15 = .ok (.aload_n 0, 1) := by decide +kernel
theorem dX6_granting_16 : decode cX6_granting 16 = .ok (.getfield 26, 3) := by decide +kernel
theorem dX6_granting_19 : decode cX6_granting 19 = .ok (.bipush 12, 2) := by decide +kernel
theorem dX6_granting_21 : decode cX6_granting 21 = .ok (.iload_n 1, 1) := by decide +kernel
theorem dX6_granting_22 : decode cX6_granting 22 = .ok (.imul, 1) := by decide +kernel
theorem dX6_granting_23 : decode cX6_granting 23 = .ok (.iload 4, 2) := by decide +kernel
theorem dX6_granting_25 : decode cX6_granting 25 = .ok (.iadd, 1) := by decide +kernel
theorem dX6_granting_26 : decode cX6_granting 26 = .ok (.iaload, 1) := by decide +kernel
theorem dX6_granting_27 : decode cX6_granting 27 = .ok (.istore 5, 2) := by decide +kernel
theorem dX6_granting_29 : decode cX6_granting 29 = .ok (.iload_n 3, 1) := by decide +kernel
theorem dX6_granting_30 : decode cX6_granting 30 = .ok (.ifCond .eq 17, 3) := by decide +kernel
theorem dX6_granting_33 : decode cX6_granting 33 = .ok (.iload 5, 2) := by decide +kernel
theorem dX6_granting_35 : decode cX6_granting 35 = .ok (.iconst 2, 1) := by decide +kernel
theorem dX6_granting_36 : decode cX6_granting 36 = .ok (.if_icmp .ge 7, 3) := by decide +kernel
theorem dX6_granting_39 : decode cX6_granting 39 = .ok (.iconst 1, 1) := by decide +kernel
theorem dX6_granting_40 : decode cX6_granting 40 = .ok (.goto 18, 3) := by decide +kernel
theorem dX6_granting_43 : decode cX6_granting 43 = .ok (.iconst 0, 1) := by decide +kernel
theorem dX6_granting_44 : decode cX6_granting 44 = .ok (.goto 14, 3) := by decide +kernel
theorem dX6_granting_47 : decode cX6_granting 47 = .ok (.iload 5, 2) := by decide +kernel
theorem dX6_granting_49 : decode cX6_granting 49 = .ok (.iconst 3, 1) := by decide +kernel
theorem dX6_granting_50 : decode cX6_granting 50 = .ok (.if_icmp .eq 7, 3) := by decide +kernel
theorem dX6_granting_53 : decode cX6_granting 53 = .ok (.iconst 1, 1) := by decide +kernel
theorem dX6_granting_54 : decode cX6_granting 54 = .ok (.goto 4, 3) := by decide +kernel
theorem dX6_granting_57 : decode cX6_granting 57 = .ok (.iconst 0, 1) := by decide +kernel
theorem dX6_granting_58 : decode cX6_granting 58 = .ok (.istore 6, 2) := by decide +kernel
theorem dX6_granting_60 : decode cX6_granting 60 = .ok (.aload_n 0, 1) := by decide +kernel
theorem dX6_granting_61 : decode cX6_granting 61 = .ok (.getfield 23, 3) := by decide +kernel
theorem dX6_granting_64 : decode cX6_granting 64 = .ok (.bipush 12, 2) := by decide +kernel
theorem dX6_granting_66 : decode cX6_granting 66 = .ok (.iload_n 1, 1) := by decide +kernel
theorem dX6_granting_67 : decode cX6_granting 67 = .ok (.imul, 1) := by decide +kernel
theorem dX6_granting_68 : decode cX6_granting 68 = .ok (.iload 4, 2) := by decide +kernel
theorem dX6_granting_70 : decode cX6_granting 70 = .ok (.iadd, 1) := by decide +kernel
theorem dX6_granting_71 : decode cX6_granting 71 = .ok (.iaload, 1) := by decide +kernel
theorem dX6_granting_72 : decode cX6_granting 72 = .ok (.iload_n 2, 1) := by decide +kernel
theorem dX6_granting_73 : decode cX6_granting 73 = .ok (.if_icmp .ne 11, 3) := by decide +kernel
theorem dX6_granting_76 : decode cX6_granting 76 = .ok (.iload 6, 2) := by decide +kernel
theorem dX6_granting_78 : decode cX6_granting 78 = .ok (.ifCond .eq 6, 3) := by decide +kernel
theorem dX6_granting_81 : decode cX6_granting 81 = .ok (.iload 4, 2) := by decide +kernel
theorem dX6_granting_83 : decode cX6_granting 83 = .ok (.ireturn, 1) := by decide +kernel
theorem dX6_granting_84 : decode cX6_granting 84 = .ok (.iinc 4 (-1), 3) := by decide +kernel
theorem dX6_granting_87 : decode cX6_granting 87 = .ok (.goto (-77), 3) := by decide +kernel
theorem dX6_granting_90 : decode cX6_granting 90 = .ok (.iconst (-1), 1) := by decide +kernel
theorem dX6_granting_91 : decode cX6_granting 91 = .ok (.ireturn, 1) := by decide +kernel
theorem dX6_above_0 : decode cX6_above 0 = .ok (.iload_n 2, 1) := by decide +kernel
theorem dX6_above_1 : decode cX6_above 1 = .ok (.iconst 1, 1) := by decide +kernel
theorem dX6_above_2 : decode cX6_above 2 = .ok (.iadd, 1) := by decide +kernel
theorem dX6_above_3 : decode cX6_above 3 = .ok (.istore_n 3, 1) := by decide +kernel
theorem dX6_above_4 : decode cX6_above 4 = .ok (.aload_n 0, 1) := by decide +kernel
theorem dX6_above_5 : decode cX6_above 5 = .ok (.getfield 26, 3) := by decide +kernel
theorem dX6_above_8 : decode cX6_above 8 = .ok (.bipush 12, 2) := by decide +kernel
theorem dX6_above_10 : decode cX6_above 10 = .ok (.iload_n 1, 1) := by decide +kernel
theorem dX6_above_11 : decode cX6_above 11 = .ok (.imul, 1) := by decide +kernel
theorem dX6_above_12 : decode cX6_above 12 = .ok (.iload_n 2, 1) := by decide +kernel
theorem dX6_above_13 : decode cX6_above 13 = .ok (.iadd, 1) := by decide +kernel
theorem dX6_above_14 : decode cX6_above 14 = .ok (.iaload, 1) := by decide +kernel
theorem dX6_above_15 : decode cX6_above 15 = .ok (.iconst 1, 1) := by decide +kernel
theorem dX6_above_16 : decode cX6_above 16 = .ok (.if_icmp .ne 34, 3) := by decide +kernel
theorem dX6_above_19 : decode cX6_above 19 = .ok (.iload_n 3, 1) := by decide +kernel
theorem dX6_above_20 : decode cX6_above 20 = .ok (.aload_n 0, 1) := by decide +kernel
theorem dX6_above_21 : decode cX6_above 21 = .ok (.getfield 20, 3) := by decide +kernel
theorem dX6_above_24 : decode cX6_above 24 = .ok (.iload_n 1, 1) := by decide +kernel
theorem dX6_above_25 : decode cX6_above 25 = .ok (.iaload, 1) := by decide +kernel
theorem dX6_above_26 : decode cX6_above 26 = .ok (.if_icmp .ge 24, 3) := by decide +kernel
theorem dX6_above_29 : decode cX6_above 29 = .ok (.aload_n 0, 1) := by decide +kernel
theorem dX6_above_30 : decode cX6_above 30 = .ok (.getfield 26, 3) := by decide +kernel
theorem dX6_above_33 : decode cX6_above 33 = .ok (.bipush 12, 2) := by decide +kernel
theorem dX6_above_35 : decode cX6_above 35 = .ok (.iload_n 1, 1) := by decide +kernel
theorem dX6_above_36 : decode cX6_above 36 = .ok (.imul, 1) := by decide +kernel
theorem dX6_above_37 : decode cX6_above 37 = .ok (.iload_n 3, 1) := by decide +kernel
theorem dX6_above_38 : decode cX6_above 38 = .ok (.iadd, 1) := by decide +kernel
theorem dX6_above_39 : decode cX6_above 39 = .ok (.iaload, 1) := by decide +kernel
theorem dX6_above_40 : decode cX6_above 40 = .ok (.iconst 1, 1) := by decide +kernel
theorem dX6_above_41 : decode cX6_above 41 = .ok (.if_icmp .ne 9, 3) := by decide +kernel
theorem dX6_above_44 : decode cX6_above 44 = .ok (.iinc 3 1, 3) := by decide +kernel
theorem dX6_above_47 : decode cX6_above 47 = .ok (.goto (-28), 3) := by decide +kernel
theorem dX6_above_50 : decode cX6_above 50 = .ok (.iload_n 3, 1) := by decide +kernel
theorem dX6_above_51 : decode cX6_above 51 = .ok (.ireturn, 1) := by decide +kernel
theorem dX6_isGuarded_0 : decode cX6_isGuarded 0 = .ok (.iconst 0, 1) := by decide +kernel
theorem dX6_isGuarded_1 : decode cX6_isGuarded 1 = .ok (.istore 4, 2) := by decide +kernel
theorem dX6_isGuarded_3 : decode cX6_isGuarded 3 = .ok (.iload_n 2, 1) := by decide +kernel
theorem dX6_isGuarded_4 : decode cX6_isGuarded 4 = .ok (.istore 5, 2) := by decide +kernel
theorem dX6_isGuarded_6 : decode cX6_isGuarded 6 = .ok (.iload 5, 2) := by decide +kernel
theorem dX6_isGuarded_8 : decode cX6_isGuarded 8 = .ok (.aload_n 0, 1) := by decide +kernel
theorem dX6_isGuarded_9 : decode cX6_isGuarded 9 = .ok (.getfield 20, 3) := by decide +kernel
theorem dX6_isGuarded_12 : decode cX6_isGuarded 12 = .ok (.iload_n 1, 1) := by decide +kernel
theorem dX6_isGuarded_13 : decode cX6_isGuarded 13 = .ok (.iaload, 1) := by decide +kernel
theorem dX6_isGuarded_14 : decode cX6_isGuarded 14 = .ok (.if_icmp .ge 67, 3) := by decide +kernel
theorem dX6_isGuarded_17 : decode cX6_isGuarded 17 = .ok (.iload_n 3, 1) := by decide +kernel
theorem dX6_isGuarded_18 : decode cX6_isGuarded 18 = .ok (.ifCond .ne 18, 3) := by decide +kernel
theorem dX6_isGuarded_21 : decode cX6_isGuarded 21 = .ok (.aload_n 0, 1) := by decide +kernel
theorem dX6_isGuarded_22 : decode cX6_isGuarded 22 = .ok (.getfield 26, 3) := by decide +kernel
theorem dX6_isGuarded_25 : decode cX6_isGuarded 25 = .ok (.bipush 12, 2) := by decide +kernel
theorem dX6_isGuarded_27 : decode cX6_isGuarded 27 = .ok (.iload_n 1, 1) := by decide +kernel
theorem dX6_isGuarded_28 : decode cX6_isGuarded 28 = .ok (.imul, 1) := by decide +kernel
theorem dX6_isGuarded_29 : decode cX6_isGuarded 29 = .ok (.iload 5, 2) := by decide +kernel
theorem dX6_isGuarded_31 : decode cX6_isGuarded 31 = .ok (.iadd, 1) := by decide +kernel
theorem dX6_isGuarded_32 : decode cX6_isGuarded 32 = .ok (.iaload, 1) := by decide +kernel
theorem dX6_isGuarded_33 : decode cX6_isGuarded 33 = .ok (.ifCond .ne 7, 3) := by decide +kernel
theorem dX6_isGuarded_36 : decode cX6_isGuarded 36 = .ok (.iconst 1, 1) := by decide +kernel
theorem dX6_isGuarded_37 : decode cX6_isGuarded 37 = .ok (.goto 4, 3) := by decide +kernel
theorem dX6_isGuarded_40 : decode cX6_isGuarded 40 = .ok (.iconst 0, 1) := by decide +kernel
theorem dX6_isGuarded_41 : decode cX6_isGuarded 41 = .ok (.istore 6, 2) := by decide +kernel
theorem dX6_isGuarded_43 : decode cX6_isGuarded 43 = .ok (.iload 4, 2) := by decide +kernel
theorem dX6_isGuarded_45 : decode cX6_isGuarded 45 = .ok (.ifCond .ne 23, 3) := by decide +kernel
theorem dX6_isGuarded_48 : decode cX6_isGuarded 48 = .ok (.iload 6, 2) := by decide +kernel
theorem dX6_isGuarded_50 : decode cX6_isGuarded 50 = .ok (.ifCond .eq 22, 3) := by decide +kernel
theorem dX6_isGuarded_53 : decode cX6_isGuarded 53 = .ok (.aload_n 0, 1) := by decide +kernel
theorem dX6_isGuarded_54 : decode cX6_isGuarded 54 = .ok (.getfield 29, 3) := by decide +kernel
theorem dX6_isGuarded_57 : decode cX6_isGuarded 57 = .ok (.bipush 12, 2) := by decide +kernel
theorem dX6_isGuarded_59 : decode cX6_isGuarded 59 = .ok (.iload_n 1, 1) := by decide +kernel
theorem dX6_isGuarded_60 : decode cX6_isGuarded 60 = .ok (.imul, 1) := by decide +kernel
theorem dX6_isGuarded_61 : decode cX6_isGuarded 61 = .ok (.iload 5, 2) := by decide +kernel
theorem dX6_isGuarded_63 : decode cX6_isGuarded 63 = .ok (.iadd, 1) := by decide +kernel
theorem dX6_isGuarded_64 : decode cX6_isGuarded 64 = .ok (.iaload, 1) := by decide +kernel
theorem dX6_isGuarded_65 : decode cX6_isGuarded 65 = .ok (.ifCond .le 7, 3) := by decide +kernel
theorem dX6_isGuarded_68 : decode cX6_isGuarded 68 = .ok (.iconst 1, 1) := by decide +kernel
theorem dX6_isGuarded_69 : decode cX6_isGuarded 69 = .ok (.goto 4, 3) := by decide +kernel
theorem dX6_isGuarded_72 : decode cX6_isGuarded 72 = .ok (.iconst 0, 1) := by decide +kernel
theorem dX6_isGuarded_73 : decode cX6_isGuarded 73 = .ok (.istore 4, 2) := by decide +kernel
theorem dX6_isGuarded_75 : decode cX6_isGuarded 75 = .ok (.iinc 5 1, 3) := by decide +kernel
theorem dX6_isGuarded_78 : decode cX6_isGuarded 78 = .ok (.goto (-72), 3) := by decide +kernel
theorem dX6_isGuarded_81 : decode cX6_isGuarded 81 = .ok (.iload 4, 2) := by decide +kernel
theorem dX6_isGuarded_83 : decode cX6_isGuarded 83 = .ok (.ireturn, 1) := by decide +kernel
theorem dX6_readKind_0 : decode cX6_readKind 0 = .ok (.aload_n 0, 1) := by decide +kernel
theorem dX6_readKind_1 : decode cX6_readKind 1 = .ok (.iload_n 1, 1) := by decide +kernel
theorem dX6_readKind_2 : decode cX6_readKind 2 = .ok (.iload_n 2, 1) := by decide +kernel
theorem dX6_readKind_3 : decode cX6_readKind 3 = .ok (.invokevirtual 75, 3) := by decide +kernel
theorem dX6_readKind_6 : decode cX6_readKind 6 = .ok (.istore_n 3, 1) := by decide +kernel
theorem dX6_readKind_7 : decode cX6_readKind 7 = .ok (.aload_n 0, 1) := by decide +kernel
theorem dX6_readKind_8 : decode cX6_readKind 8 = .ok (.getfield 13, 3) := by decide +kernel
theorem dX6_readKind_11 : decode cX6_readKind 11 = .ok (.aload_n 0, 1) := by decide +kernel
theorem dX6_readKind_12 : decode cX6_readKind 12 = .ok (.getfield 32, 3) := by decide +kernel
theorem dX6_readKind_15 : decode cX6_readKind 15 = .ok (.iload_n 1, 1) := by decide +kernel
theorem dX6_readKind_16 : decode cX6_readKind 16 = .ok (.iaload, 1) := by decide +kernel
theorem dX6_readKind_17 : decode cX6_readKind 17 = .ok (.baload, 1) := by decide +kernel
theorem dX6_readKind_18 : decode cX6_readKind 18 = .ok (.ifCond .eq 5, 3) := by decide +kernel
theorem dX6_readKind_21 : decode cX6_readKind 21 = .ok (.iconst 3, 1) := by decide +kernel
theorem dX6_readKind_22 : decode cX6_readKind 22 = .ok (.ireturn, 1) := by decide +kernel
theorem dX6_readKind_23 : decode cX6_readKind 23 = .ok (.aload_n 0, 1) := by decide +kernel
theorem dX6_readKind_24 : decode cX6_readKind 24 = .ok (.iload_n 3, 1) := by decide +kernel
theorem dX6_readKind_25 : decode cX6_readKind 25 = .ok (.iload_n 1, 1) := by decide +kernel
theorem dX6_readKind_26 : decode cX6_readKind 26 = .ok (.iconst 0, 1) := by decide +kernel
theorem dX6_readKind_27 : decode cX6_readKind 27 = .ok (.invokevirtual 79, 3) := by decide +kernel
theorem dX6_readKind_30 : decode cX6_readKind 30 = .ok (.istore 4, 2) := by decide +kernel
theorem dX6_readKind_32 : decode cX6_readKind 32 = .ok (.iload 4, 2) := by decide +kernel
theorem dX6_readKind_34 : decode cX6_readKind 34 = .ok (.iconst (-1), 1) := by decide +kernel
theorem dX6_readKind_35 : decode cX6_readKind 35 = .ok (.if_icmp .ne 7, 3) := by decide +kernel
theorem dX6_readKind_38 : decode cX6_readKind 38 = .ok (.iconst 1, 1) := by decide +kernel
theorem dX6_readKind_39 : decode cX6_readKind 39 = .ok (.goto 21, 3) := by decide +kernel
theorem dX6_readKind_42 : decode cX6_readKind 42 = .ok (.aload_n 0, 1) := by decide +kernel
theorem dX6_readKind_43 : decode cX6_readKind 43 = .ok (.iload_n 3, 1) := by decide +kernel
theorem dX6_readKind_44 : decode cX6_readKind 44 = .ok (.iload 4, 2) := by decide +kernel
theorem dX6_readKind_46 : decode cX6_readKind 46 = .ok (.iconst 1, 1) := by decide +kernel
theorem dX6_readKind_47 : decode cX6_readKind 47 = .ok (.iadd, 1) := by decide +kernel
theorem dX6_readKind_48 : decode cX6_readKind 48 = .ok (.iconst 0, 1) := by decide +kernel
theorem dX6_readKind_49 : decode cX6_readKind 49 = .ok (.invokevirtual 83, 3) := by decide +kernel
theorem dX6_readKind_52 : decode cX6_readKind 52 = .ok (.ifCond .eq 7, 3) := by decide +kernel
theorem dX6_readKind_55 : decode cX6_readKind 55 = .ok (.iconst 2, 1) := by decide +kernel
theorem dX6_readKind_56 : decode cX6_readKind 56 = .ok (.goto 4, 3) := by decide +kernel
theorem dX6_readKind_59 : decode cX6_readKind 59 = .ok (.iconst 0, 1) := by decide +kernel
theorem dX6_readKind_60 : decode cX6_readKind 60 = .ok (.ireturn, 1) := by decide +kernel
theorem dX6_writeKind_0 : decode cX6_writeKind 0 = .ok (.aload_n 0, 1) := by decide +kernel
theorem dX6_writeKind_1 : decode cX6_writeKind 1 = .ok (.iload_n 1, 1) := by decide +kernel
theorem dX6_writeKind_2 : decode cX6_writeKind 2 = .ok (.iload_n 2, 1) := by decide +kernel
theorem dX6_writeKind_3 : decode cX6_writeKind 3 = .ok (.invokevirtual 75, 3) := by decide +kernel
theorem dX6_writeKind_6 : decode cX6_writeKind 6 = .ok (.istore_n 3, 1) := by decide +kernel
theorem dX6_writeKind_7 : decode cX6_writeKind 7 = .ok (.aload_n 0, 1) := by decide +kernel
theorem dX6_writeKind_8 : decode cX6_writeKind 8 = .ok (.getfield 13, 3) := by decide +kernel
theorem dX6_writeKind_11 : decode cX6_writeKind 11 = .ok (.aload_n 0, 1) := by decide +kernel
theorem dX6_writeKind_12 : decode cX6_writeKind 12 = .ok (.getfield 32, 3) := by decide +kernel
theorem dX6_writeKind_15 : decode cX6_writeKind 15 = .ok (.iload_n 1, 1) := by decide +kernel
theorem dX6_writeKind_16 : decode cX6_writeKind 16 = .ok (.iaload, 1) := by decide +kernel
theorem dX6_writeKind_17 : decode cX6_writeKind 17 = .ok (.baload, 1) := by decide +kernel
theorem dX6_writeKind_18 : decode cX6_writeKind 18 = .ok (.ifCond .eq 5, 3) := by decide +kernel
theorem dX6_writeKind_21 : decode cX6_writeKind 21 = .ok (.iconst 3, 1) := by decide +kernel
theorem dX6_writeKind_22 : decode cX6_writeKind 22 = .ok (.ireturn, 1) := by decide +kernel
theorem dX6_writeKind_23 : decode cX6_writeKind 23 = .ok (.aload_n 0, 1) := by decide +kernel
theorem dX6_writeKind_24 : decode cX6_writeKind 24 = .ok (.iload_n 3, 1) := by decide +kernel
theorem dX6_writeKind_25 : decode cX6_writeKind 25 = .ok (.iload_n 1, 1) := by decide +kernel
theorem dX6_writeKind_26 : decode cX6_writeKind 26 = .ok (.iconst 1, 1) := by decide +kernel
theorem dX6_writeKind_27 : decode cX6_writeKind 27 = .ok (.invokevirtual 79, 3) := by decide +kernel
theorem dX6_writeKind_30 : decode cX6_writeKind 30 = .ok (.istore 4, 2) := by decide +kernel
theorem dX6_writeKind_32 : decode cX6_writeKind 32 = .ok (.iload 4, 2) := by decide +kernel
theorem dX6_writeKind_34 : decode cX6_writeKind 34 = .ok (.iconst (-1), 1) := by decide +kernel
theorem dX6_writeKind_35 : decode cX6_writeKind 35 = .ok (.if_icmp .ne 7, 3) := by decide +kernel
theorem dX6_writeKind_38 : decode cX6_writeKind 38 = .ok (.iconst 1, 1) := by decide +kernel
theorem dX6_writeKind_39 : decode cX6_writeKind 39 = .ok (.goto 24, 3) := by decide +kernel
theorem dX6_writeKind_42 : decode cX6_writeKind 42 = .ok (.aload_n 0, 1) := by decide +kernel
theorem dX6_writeKind_43 : decode cX6_writeKind 43 = .ok (.iload_n 3, 1) := by decide +kernel
theorem dX6_writeKind_44 : decode cX6_writeKind 44 = .ok (.aload_n 0, 1) := by decide +kernel
theorem dX6_writeKind_45 : decode cX6_writeKind 45 = .ok (.iload_n 3, 1) := by decide +kernel
theorem dX6_writeKind_46 : decode cX6_writeKind 46 = .ok (.iload 4, 2) := by decide +kernel
theorem dX6_writeKind_48 : decode cX6_writeKind 48 = .ok (.invokevirtual 87, 3) := by decide +kernel
theorem dX6_writeKind_51 : decode cX6_writeKind 51 = .ok (.iconst 1, 1) := by decide +kernel
theorem dX6_writeKind_52 : decode cX6_writeKind 52 = .ok (.invokevirtual 83, 3) := by decide +kernel
theorem dX6_writeKind_55 : decode cX6_writeKind 55 = .ok (.ifCond .eq 7, 3) := by decide +kernel
theorem dX6_writeKind_58 : decode cX6_writeKind 58 = .ok (.iconst 2, 1) := by decide +kernel
theorem dX6_writeKind_59 : decode cX6_writeKind 59 = .ok (.goto 4, 3) := by decide +kernel
theorem dX6_writeKind_62 : decode cX6_writeKind 62 = .ok (.iconst 0, 1) := by decide +kernel
theorem dX6_writeKind_63 : decode cX6_writeKind 63 = .ok (.ireturn, 1) := by decide +kernel
theorem dX6_rawKind_0 : decode cX6_rawKind 0 = .ok (.aload_n 0, 1) := by decide +kernel
theorem dX6_rawKind_1 : decode cX6_rawKind 1 = .ok (.getfield 13, 3) := by decide +kernel
theorem dX6_rawKind_4 : decode cX6_rawKind 4 = .ok (.aload_n 0, 1) := by decide +kernel
theorem dX6_rawKind_5 : decode cX6_rawKind 5 = .ok (.getfield 32, 3) := by decide +kernel
theorem dX6_rawKind_8 : decode cX6_rawKind 8 = .ok (.iload_n 1, 1) := by decide +kernel
theorem dX6_rawKind_9 : decode cX6_rawKind 9 = .ok (.iaload, 1) := by decide +kernel
theorem dX6_rawKind_10 : decode cX6_rawKind 10 = .ok (.baload, 1) := by decide +kernel
theorem dX6_rawKind_11 : decode cX6_rawKind 11 = .ok (.ifCond .eq 5, 3) := by decide +kernel
theorem dX6_rawKind_14 : decode cX6_rawKind 14 = .ok (.iconst 3, 1) := by decide +kernel
theorem dX6_rawKind_15 : decode cX6_rawKind 15 = .ok (.ireturn, 1) := by decide +kernel
theorem dX6_rawKind_16 : decode cX6_rawKind 16 = .ok (.aload_n 0, 1) := by decide +kernel
theorem dX6_rawKind_17 : decode cX6_rawKind 17 = .ok (.aload_n 0, 1) := by decide +kernel
theorem dX6_rawKind_18 : decode cX6_rawKind 18 = .ok (.iload_n 1, 1) := by decide +kernel
theorem dX6_rawKind_19 : decode cX6_rawKind 19 = .ok (.iload_n 2, 1) := by decide +kernel
theorem dX6_rawKind_20 : decode cX6_rawKind 20 = .ok (.invokevirtual 75, 3) := by decide +kernel
theorem dX6_rawKind_23 : decode cX6_rawKind 23 = .ok (.iload_n 1, 1) := by decide +kernel
theorem dX6_rawKind_24 : decode cX6_rawKind 24 = .ok (.iconst 1, 1) := by decide +kernel
theorem dX6_rawKind_25 : decode cX6_rawKind 25 = .ok (.invokevirtual 79, 3) := by decide +kernel
theorem dX6_rawKind_28 : decode cX6_rawKind 28 = .ok (.iconst (-1), 1) := by decide +kernel
theorem dX6_rawKind_29 : decode cX6_rawKind 29 = .ok (.if_icmp .ne 7, 3) := by decide +kernel
theorem dX6_rawKind_32 : decode cX6_rawKind 32 = .ok (.iconst 1, 1) := by decide +kernel
theorem dX6_rawKind_33 : decode cX6_rawKind 33 = .ok (.goto 4, 3) := by decide +kernel
theorem dX6_rawKind_36 : decode cX6_rawKind 36 = .ok (.iconst 0, 1) := by decide +kernel
theorem dX6_rawKind_37 : decode cX6_rawKind 37 = .ok (.ireturn, 1) := by decide +kernel
theorem dX6_freeKind_0 : decode cX6_freeKind 0 = .ok (.aload_n 0, 1) := by decide +kernel
theorem dX6_freeKind_1 : decode cX6_freeKind 1 = .ok (.iload_n 1, 1) := by decide +kernel
theorem dX6_freeKind_2 : decode cX6_freeKind 2 = .ok (.iload_n 2, 1) := by decide +kernel
theorem dX6_freeKind_3 : decode cX6_freeKind 3 = .ok (.invokevirtual 90, 3) := by decide +kernel
theorem dX6_freeKind_6 : decode cX6_freeKind 6 = .ok (.istore_n 3, 1) := by decide +kernel
theorem dX6_freeKind_7 : decode cX6_freeKind 7 = .ok (.iload_n 3, 1) := by decide +kernel
theorem dX6_freeKind_8 : decode cX6_freeKind 8 = .ok (.ifCond .eq 7, 3) := by decide +kernel
theorem dX6_freeKind_11 : decode cX6_freeKind 11 = .ok (.iload_n 3, 1) := by decide +kernel
theorem dX6_freeKind_12 : decode cX6_freeKind 12 = .ok (.goto 23, 3) := by decide +kernel
theorem dX6_freeKind_15 : decode cX6_freeKind 15 = .ok (.aload_n 0, 1) := by decide +kernel
theorem dX6_freeKind_16 : decode cX6_freeKind 16 = .ok (.aload_n 0, 1) := by decide +kernel
theorem dX6_freeKind_17 : decode cX6_freeKind 17 = .ok (.iload_n 1, 1) := by decide +kernel
theorem dX6_freeKind_18 : decode cX6_freeKind 18 = .ok (.iload_n 2, 1) := by decide +kernel
theorem dX6_freeKind_19 : decode cX6_freeKind 19 = .ok (.invokevirtual 75, 3) := by decide +kernel
theorem dX6_freeKind_22 : decode cX6_freeKind 22 = .ok (.iconst 0, 1) := by decide +kernel
theorem dX6_freeKind_23 : decode cX6_freeKind 23 = .ok (.iconst 1, 1) := by decide +kernel
theorem dX6_freeKind_24 : decode cX6_freeKind 24 = .ok (.invokevirtual 83, 3) := by decide +kernel
theorem dX6_freeKind_27 : decode cX6_freeKind 27 = .ok (.ifCond .eq 7, 3) := by decide +kernel
theorem dX6_freeKind_30 : decode cX6_freeKind 30 = .ok (.iconst 2, 1) := by decide +kernel
theorem dX6_freeKind_31 : decode cX6_freeKind 31 = .ok (.goto 4, 3) := by decide +kernel
theorem dX6_freeKind_34 : decode cX6_freeKind 34 = .ok (.iconst 0, 1) := by decide +kernel
theorem dX6_freeKind_35 : decode cX6_freeKind 35 = .ok (.ireturn, 1) := by decide +kernel
theorem dX6_doRead_0 : decode cX6_doRead 0 = .ok (.aload_n 0, 1) := by decide +kernel
theorem dX6_doRead_1 : decode cX6_doRead 1 = .ok (.iload_n 1, 1) := by decide +kernel
theorem dX6_doRead_2 : decode cX6_doRead 2 = .ok (.iload_n 2, 1) := by decide +kernel
theorem dX6_doRead_3 : decode cX6_doRead 3 = .ok (.invokevirtual 75, 3) := by decide +kernel
theorem dX6_doRead_6 : decode cX6_doRead 6 = .ok (.istore_n 3, 1) := by decide +kernel
theorem dX6_doRead_7 : decode cX6_doRead 7 = .ok (.aload_n 0, 1) := by decide +kernel
theorem dX6_doRead_8 : decode cX6_doRead 8 = .ok (.iload_n 3, 1) := by decide +kernel
theorem dX6_doRead_9 : decode cX6_doRead 9 = .ok (.iload_n 1, 1) := by decide +kernel
theorem dX6_doRead_10 : decode cX6_doRead 10 = .ok (.iconst 0, 1) := by decide +kernel
theorem dX6_doRead_11 : decode cX6_doRead 11 = .ok (.invokevirtual 79, 3) := by decide +kernel
theorem dX6_doRead_14 : decode cX6_doRead 14 = .ok (.iconst 1, 1) := by decide +kernel
theorem dX6_doRead_15 : decode cX6_doRead 15 = .ok (.iadd, 1) := by decide +kernel
theorem dX6_doRead_16 : decode cX6_doRead 16 = .ok (.istore 4, 2) := by decide +kernel
theorem dX6_doRead_18 : decode cX6_doRead 18 = .ok (.iload 4, 2) := by decide +kernel
theorem dX6_doRead_20 : decode cX6_doRead 20 = .ok (.aload_n 0, 1) := by decide +kernel
theorem dX6_doRead_21 : decode cX6_doRead 21 = .ok (.getfield 20, 3) := by decide +kernel
theorem dX6_doRead_24 : decode cX6_doRead 24 = .ok (.iload_n 3, 1) := by decide +kernel
theorem dX6_doRead_25 : decode cX6_doRead 25 = .ok (.iaload, 1) := by decide +kernel
theorem dX6_doRead_26 : decode cX6_doRead 26 = .ok (.if_icmp .ge 37, 3) := by decide +kernel
theorem dX6_doRead_29 : decode cX6_doRead 29 = .ok (.aload_n 0, 1) := by decide +kernel
theorem dX6_doRead_30 : decode cX6_doRead 30 = .ok (.getfield 26, 3) := by decide +kernel
theorem dX6_doRead_33 : decode cX6_doRead 33 = .ok (.bipush 12, 2) := by decide +kernel
theorem dX6_doRead_35 : decode cX6_doRead 35 = .ok (.iload_n 3, 1) := by decide +kernel
theorem dX6_doRead_36 : decode cX6_doRead 36 = .ok (.imul, 1) := by decide +kernel
theorem dX6_doRead_37 : decode cX6_doRead 37 = .ok (.iload 4, 2) := by decide +kernel
theorem dX6_doRead_39 : decode cX6_doRead 39 = .ok (.iadd, 1) := by decide +kernel
theorem dX6_doRead_40 : decode cX6_doRead 40 = .ok (.iaload, 1) := by decide +kernel
theorem dX6_doRead_41 : decode cX6_doRead 41 = .ok (.ifCond .ne 16, 3) := by decide +kernel
theorem dX6_doRead_44 : decode cX6_doRead 44 = .ok (.aload_n 0, 1) := by decide +kernel
theorem dX6_doRead_45 : decode cX6_doRead 45 = .ok (.getfield 26, 3) := by decide +kernel
theorem dX6_doRead_48 : decode cX6_doRead 48 = .ok (.bipush 12, 2) := by decide +kernel
theorem dX6_doRead_50 : decode cX6_doRead 50 = .ok (.iload_n 3, 1) := by decide +kernel
theorem dX6_doRead_51 : decode cX6_doRead 51 = .ok (.imul, 1) := by decide +kernel
theorem dX6_doRead_52 : decode cX6_doRead 52 = .ok (.iload 4, 2) := by decide +kernel
theorem dX6_doRead_54 : decode cX6_doRead 54 = .ok (.iadd, 1) := by decide +kernel
theorem dX6_doRead_55 : decode cX6_doRead 55 = .ok (.iconst 3, 1) := by decide +kernel
theorem dX6_doRead_56 : decode cX6_doRead 56 = .ok (.iastore, 1) := by decide +kernel
theorem dX6_doRead_57 : decode cX6_doRead 57 = .ok (.iinc 4 1, 3) := by decide +kernel
theorem dX6_doRead_60 : decode cX6_doRead 60 = .ok (.goto (-42), 3) := by decide +kernel
theorem dX6_doRead_63 : decode cX6_doRead 63 = .ok (.return_, 1) := by decide +kernel
theorem dX6_doWrite_0 : decode cX6_doWrite 0 = .ok (.aload_n 0, 1) := by decide +kernel
theorem dX6_doWrite_1 : decode cX6_doWrite 1 = .ok (.iload_n 1, 1) := by decide +kernel
theorem dX6_doWrite_2 : decode cX6_doWrite 2 = .ok (.iload_n 2, 1) := by decide +kernel
theorem dX6_doWrite_3 : decode cX6_doWrite 3 = .ok (.invokevirtual 75, 3) := by decide +kernel
theorem dX6_doWrite_6 : decode cX6_doWrite 6 = .ok (.istore_n 3, 1) := by decide +kernel
theorem dX6_doWrite_7 : decode cX6_doWrite 7 = .ok (.aload_n 0, 1) := by decide +kernel
theorem dX6_doWrite_8 : decode cX6_doWrite 8 = .ok (.getfield 20, 3) := by decide +kernel
theorem dX6_doWrite_11 : decode cX6_doWrite 11 = .ok (.iload_n 3, 1) := by decide +kernel
theorem dX6_doWrite_12 : decode cX6_doWrite 12 = .ok (.aload_n 0, 1) := by decide +kernel
theorem dX6_doWrite_13 : decode cX6_doWrite 13 = .ok (.iload_n 3, 1) := by decide +kernel
theorem dX6_doWrite_14 : decode cX6_doWrite 14 = .ok (.aload_n 0, 1) := by decide +kernel
theorem dX6_doWrite_15 : decode cX6_doWrite 15 = .ok (.iload_n 3, 1) := by decide +kernel
theorem dX6_doWrite_16 : decode cX6_doWrite 16 = .ok (.iload_n 1, 1) := by decide +kernel
theorem dX6_doWrite_17 : decode cX6_doWrite 17 = .ok (.iconst 1, 1) := by decide +kernel
theorem dX6_doWrite_18 : decode cX6_doWrite 18 = .ok (.invokevirtual 79, 3) := by decide +kernel
theorem dX6_doWrite_21 : decode cX6_doWrite 21 = .ok (.invokevirtual 87, 3) := by decide +kernel
theorem dX6_doWrite_24 : decode cX6_doWrite 24 = .ok (.iastore, 1) := by decide +kernel
theorem dX6_doWrite_25 : decode cX6_doWrite 25 = .ok (.return_, 1) := by decide +kernel
theorem dX6_insert_0 : decode cX6_insert 0 = .ok (.bipush 12, 2) := by decide +kernel
theorem dX6_insert_2 : decode cX6_insert 2 = .ok (.iload_n 1, 1) := by decide +kernel
theorem dX6_insert_3 : decode cX6_insert 3 = .ok (.imul, 1) := by decide +kernel
theorem dX6_insert_4 : decode cX6_insert 4 = .ok (.aload_n 0, 1) := by decide +kernel
theorem dX6_insert_5 : decode cX6_insert 5 = .ok (.getfield 20, 3) := by decide +kernel
theorem dX6_insert_8 : decode cX6_insert 8 = .ok (.iload_n 1, 1) := by decide +kernel
theorem dX6_insert_9 : decode cX6_insert 9 = .ok (.iaload, 1) := by decide +kernel
theorem dX6_insert_10 : decode cX6_insert 10 = .ok (.iadd, 1) := by decide +kernel
theorem dX6_insert_11 : decode cX6_insert 11 = .ok (.istore 6, 2) := by decide +kernel
theorem dX6_insert_13 : decode cX6_insert 13 = .ok (.iload 6, 2) := by decide +kernel
theorem dX6_insert_15 : decode cX6_insert 15 = .ok (.bipush 12, 2) := by decide +kernel
theorem dX6_insert_17 : decode cX6_insert 17 = .ok (.iload_n 1, 1) := by decide +kernel
theorem dX6_insert_18 : decode cX6_insert 18 = .ok (.imul, 1) := by decide +kernel
theorem dX6_insert_19 : decode cX6_insert 19 = .ok (.iload_n 2, 1) := by decide +kernel
theorem dX6_insert_20 : decode cX6_insert 20 = .ok (.iadd, 1) := by decide +kernel
theorem dX6_insert_21 : decode cX6_insert 21 = .ok (.if_icmp .le 57, 3) := by decide +kernel
theorem dX6_insert_24 : decode cX6_insert 24 = .ok (.aload_n 0, 1) := by decide +kernel
theorem dX6_insert_25 : decode cX6_insert 25 = .ok (.getfield 23, 3) := by decide +kernel
theorem dX6_insert_28 : decode cX6_insert 28 = .ok (.iload 6, 2) := by decide +kernel
theorem dX6_insert_30 : decode cX6_insert 30 = .ok (.aload_n 0, 1) := by decide +kernel
theorem dX6_insert_31 : decode cX6_insert 31 = .ok (.getfield 23, 3) := by decide +kernel
theorem dX6_insert_34 : decode cX6_insert 34 = .ok (.iload 6, 2) := by decide +kernel
theorem dX6_insert_36 : decode cX6_insert 36 = .ok (.iconst 1, 1) := by decide +kernel
theorem dX6_insert_37 : decode cX6_insert 37 = .ok (.isub, 1) := by decide +kernel
theorem dX6_insert_38 : decode cX6_insert 38 = .ok (.iaload, 1) := by decide +kernel
theorem dX6_insert_39 : decode cX6_insert 39 = .ok (.iastore, 1) := by decide +kernel
theorem dX6_insert_40 : decode cX6_insert 40 = .ok (.aload_n 0, 1) := by decide +kernel
theorem dX6_insert_41 : decode cX6_insert 41 = .ok (.getfield 26, 3) := by decide +kernel
theorem dX6_insert_44 : decode cX6_insert 44 = .ok (.iload 6, 2) := by decide +kernel
theorem dX6_insert_46 : decode cX6_insert 46 = .ok (.aload_n 0, 1) := by decide +kernel
theorem dX6_insert_47 : decode cX6_insert 47 = .ok (.getfield 26, 3) := by decide +kernel
theorem dX6_insert_50 : decode cX6_insert 50 = .ok (.iload 6, 2) := by decide +kernel
theorem dX6_insert_52 : decode cX6_insert 52 = .ok (.iconst 1, 1) := by decide +kernel
theorem dX6_insert_53 : decode cX6_insert 53 = .ok (.isub, 1) := by decide +kernel
theorem dX6_insert_54 : decode cX6_insert 54 = .ok (.iaload, 1) := by decide +kernel
theorem dX6_insert_55 : decode cX6_insert 55 = .ok (.iastore, 1) := by decide +kernel
theorem dX6_insert_56 : decode cX6_insert 56 = .ok (.aload_n 0, 1) := by decide +kernel
theorem dX6_insert_57 : decode cX6_insert 57 = .ok (.getfield 29, 3) := by decide +kernel
theorem dX6_insert_60 : decode cX6_insert 60 = .ok (.iload 6, 2) := by decide +kernel
theorem dX6_insert_62 : decode cX6_insert 62 = .ok (.aload_n 0, 1) := by decide +kernel
theorem dX6_insert_63 : decode cX6_insert 63 = .ok (.getfield 29, 3) := by decide +kernel
theorem dX6_insert_66 : decode cX6_insert 66 = .ok (.iload 6, 2) := by decide +kernel
theorem dX6_insert_68 : decode cX6_insert 68 = .ok (.iconst 1, 1) := by decide +kernel
theorem dX6_insert_69 : decode cX6_insert 69 = .ok (.isub, 1) := by decide +kernel
theorem dX6_insert_70 : decode cX6_insert 70 = .ok (.iaload, 1) := by decide +kernel
theorem dX6_insert_71 : decode cX6_insert 71 = .ok (.iastore, 1) := by decide +kernel
theorem dX6_insert_72 : decode cX6_insert 72 = .ok (.iinc 6 (-1), 3) := by decide +kernel
theorem dX6_insert_75 : decode cX6_insert 75 = .ok (.goto (-62), 3) := by decide +kernel
theorem dX6_insert_78 : decode cX6_insert 78 = .ok (.aload_n 0, 1) := by decide +kernel
theorem dX6_insert_79 : decode cX6_insert 79 = .ok (.getfield 23, 3) := by decide +kernel
theorem dX6_insert_82 : decode cX6_insert 82 = .ok (.bipush 12, 2) := by decide +kernel
theorem dX6_insert_84 : decode cX6_insert 84 = .ok (.iload_n 1, 1) := by decide +kernel
theorem dX6_insert_85 : decode cX6_insert 85 = .ok (.imul, 1) := by decide +kernel
theorem dX6_insert_86 : decode cX6_insert 86 = .ok (.iload_n 2, 1) := by decide +kernel
theorem dX6_insert_87 : decode cX6_insert 87 = .ok (.iadd, 1) := by decide +kernel
theorem dX6_insert_88 : decode cX6_insert 88 = .ok (.iload_n 3, 1) := by decide +kernel
theorem dX6_insert_89 : decode cX6_insert 89 = .ok (.iastore, 1) := by decide +kernel
theorem dX6_insert_90 : decode cX6_insert 90 = .ok (.aload_n 0, 1) := by decide +kernel
theorem dX6_insert_91 : decode cX6_insert 91 = .ok (.getfield 26, 3) := by decide +kernel
theorem dX6_insert_94 : decode cX6_insert 94 = .ok (.bipush 12, 2) := by decide +kernel
theorem dX6_insert_96 : decode cX6_insert 96 = .ok (.iload_n 1, 1) := by decide +kernel
theorem dX6_insert_97 : decode cX6_insert 97 = .ok (.imul, 1) := by decide +kernel
theorem dX6_insert_98 : decode cX6_insert 98 = .ok (.iload_n 2, 1) := by decide +kernel
theorem dX6_insert_99 : decode cX6_insert 99 = .ok (.iadd, 1) := by decide +kernel
theorem dX6_insert_100 : decode cX6_insert 100 = .ok (.iload 4, 2) := by decide +kernel
theorem dX6_insert_102 : decode cX6_insert 102 = .ok (.iastore, 1) := by decide +kernel
theorem dX6_insert_103 : decode cX6_insert 103 = .ok (.aload_n 0, 1) := by decide +kernel
theorem dX6_insert_104 : decode cX6_insert 104 = .ok (.getfield 29, 3) := by decide +kernel
theorem dX6_insert_107 : decode cX6_insert 107 = .ok (.bipush 12, 2) := by decide +kernel
theorem dX6_insert_109 : decode cX6_insert 109 = .ok (.iload_n 1, 1) := by decide +kernel
theorem dX6_insert_110 : decode cX6_insert 110 = .ok (.imul, 1) := by decide +kernel
theorem dX6_insert_111 : decode cX6_insert 111 = .ok (.iload_n 2, 1) := by decide +kernel
theorem dX6_insert_112 : decode cX6_insert 112 = .ok (.iadd, 1) := by decide +kernel
theorem dX6_insert_113 : decode cX6_insert 113 = .ok (.iload 5, 2) := by decide +kernel
theorem dX6_insert_115 : decode cX6_insert 115 = .ok (.iastore, 1) := by decide +kernel
theorem dX6_insert_116 : decode cX6_insert 116 = .ok (.aload_n 0, 1) := by decide +kernel
theorem dX6_insert_117 : decode cX6_insert 117 = .ok (.getfield 20, 3) := by decide +kernel
theorem dX6_insert_120 : decode cX6_insert 120 = .ok (.iload_n 1, 1) := by decide +kernel
theorem dX6_insert_121 : decode cX6_insert 121 = .ok (.dup2, 1) := by decide +kernel
theorem dX6_insert_122 : decode cX6_insert 122 = .ok (.iaload, 1) := by decide +kernel
theorem dX6_insert_123 : decode cX6_insert 123 = .ok (.iconst 1, 1) := by decide +kernel
theorem dX6_insert_124 : decode cX6_insert 124 = .ok (.iadd, 1) := by decide +kernel
theorem dX6_insert_125 : decode cX6_insert 125 = .ok (.iastore, 1) := by decide +kernel
theorem dX6_insert_126 : decode cX6_insert 126 = .ok (.return_, 1) := by decide +kernel
theorem dX6_newPointer_0 : decode cX6_newPointer 0 = .ok (.aload_n 0, 1) := by decide +kernel
theorem dX6_newPointer_1 : decode cX6_newPointer 1 = .ok (.getfield 32, 3) := by decide +kernel
theorem dX6_newPointer_4 : decode cX6_newPointer 4 = .ok (.aload_n 0, 1) := by decide +kernel
theorem dX6_newPointer_5 : decode cX6_newPointer 5 = .ok (.getfield 64, 3) := by decide +kernel
theorem dX6_newPointer_8 : decode cX6_newPointer 8 = .ok (.iload_n 1, 1) := by decide +kernel
theorem dX6_newPointer_9 : decode cX6_newPointer 9 = .ok (.iastore, 1) := by decide +kernel
theorem dX6_newPointer_10 : decode cX6_newPointer 10 = .ok (.aload_n 0, 1) := by decide +kernel
theorem dX6_newPointer_11 : decode cX6_newPointer 11 = .ok (.getfield 35, 3) := by decide +kernel
theorem dX6_newPointer_14 : decode cX6_newPointer 14 = .ok (.aload_n 0, 1) := by decide +kernel
theorem dX6_newPointer_15 : decode cX6_newPointer 15 = .ok (.getfield 64, 3) := by decide +kernel
theorem dX6_newPointer_18 : decode cX6_newPointer 18 = .ok (.iload_n 2, 1) := by decide +kernel
theorem dX6_newPointer_19 : decode cX6_newPointer 19 = .ok (.iastore, 1) := by decide +kernel
theorem dX6_newPointer_20 : decode cX6_newPointer 20 = .ok (.aload_n 0, 1) := by decide +kernel
theorem dX6_newPointer_21 : decode cX6_newPointer 21 = .ok (.dup, 1) := by decide +kernel
theorem dX6_newPointer_22 : decode cX6_newPointer 22 = .ok (.getfield 64, 3) := by decide +kernel
theorem dX6_newPointer_25 : decode cX6_newPointer 25 = .ok (.iconst 1, 1) := by decide +kernel
theorem dX6_newPointer_26 : decode cX6_newPointer 26 = .ok (.iadd, 1) := by decide +kernel
theorem dX6_newPointer_27 : decode cX6_newPointer 27 = .ok (.putfield 64, 3) := by decide +kernel
theorem dX6_newPointer_30 : decode cX6_newPointer 30 = .ok (.aload_n 0, 1) := by decide +kernel
theorem dX6_newPointer_31 : decode cX6_newPointer 31 = .ok (.getfield 64, 3) := by decide +kernel
theorem dX6_newPointer_34 : decode cX6_newPointer 34 = .ok (.iconst 1, 1) := by decide +kernel
theorem dX6_newPointer_35 : decode cX6_newPointer 35 = .ok (.isub, 1) := by decide +kernel
theorem dX6_newPointer_36 : decode cX6_newPointer 36 = .ok (.ireturn, 1) := by decide +kernel
theorem dX6_allocate_0 : decode cX6_allocate 0 = .ok (.iload_n 1, 1) := by decide +kernel
theorem dX6_allocate_1 : decode cX6_allocate 1 = .ok (.iconst 1, 1) := by decide +kernel
theorem dX6_allocate_2 : decode cX6_allocate 2 = .ok (.bipush 8, 2) := by decide +kernel
theorem dX6_allocate_4 : decode cX6_allocate 4 = .ok (.invokestatic 67, 3) := by decide +kernel
theorem dX6_allocate_7 : decode cX6_allocate 7 = .ok (.ifCond .ne 10, 3) := by decide +kernel
theorem dX6_allocate_10 : decode cX6_allocate 10 = .ok (.aload_n 0, 1) := by decide +kernel
theorem dX6_allocate_11 : decode cX6_allocate 11 = .ok (.bipush (-2), 2) := by decide +kernel
theorem dX6_allocate_13 : decode cX6_allocate 13 = .ok (.invokevirtual 93, 3) := by decide +kernel
theorem dX6_allocate_16 : decode cX6_allocate 16 = .ok (.ireturn, 1) := by decide +kernel
theorem dX6_allocate_17 : decode cX6_allocate 17 = .ok (.aload_n 0, 1) := by decide +kernel
theorem dX6_allocate_18 : decode cX6_allocate 18 = .ok (.getfield 97, 3) := by decide +kernel
theorem dX6_allocate_21 : decode cX6_allocate 21 = .ok (.bipush 10, 2) := by decide +kernel
theorem dX6_allocate_23 : decode cX6_allocate 23 = .ok (.if_icmp .eq 12, 3) := by decide +kernel
theorem dX6_allocate_26 : decode cX6_allocate 26 = .ok (.aload_n 0, 1) := by decide +kernel
theorem dX6_allocate_27 : decode cX6_allocate 27 = .ok (.getfield 64, 3) := by decide +kernel
theorem dX6_allocate_30 : decode cX6_allocate 30 = .ok (.bipush 60, 2) := by decide +kernel
theorem dX6_allocate_32 : decode cX6_allocate 32 = .ok (.if_icmp .ne 10, 3) := by decide +kernel
theorem dX6_allocate_35 : decode cX6_allocate 35 = .ok (.aload_n 0, 1) := by decide +kernel
theorem dX6_allocate_36 : decode cX6_allocate 36 = .ok (.bipush (-4), 2) := by decide +kernel
theorem dX6_allocate_38 : decode cX6_allocate 38 = .ok (.invokevirtual 93, 3) := by decide +kernel
theorem dX6_allocate_41 : decode cX6_allocate 41 = .ok (.ireturn, 1) := by decide +kernel
theorem dX6_allocate_42 : decode cX6_allocate 42 = .ok (.aload_n 0, 1) := by decide +kernel
theorem dX6_allocate_43 : decode cX6_allocate 43 = .ok (.getfield 97, 3) := by decide +kernel
theorem dX6_allocate_46 : decode cX6_allocate 46 = .ok (.istore_n 2, 1) := by decide +kernel
theorem dX6_allocate_47 : decode cX6_allocate 47 = .ok (.aload_n 0, 1) := by decide +kernel
theorem dX6_allocate_48 : decode cX6_allocate 48 = .ok (.dup, 1) := by decide +kernel
theorem dX6_allocate_49 : decode cX6_allocate 49 = .ok (.getfield 97, 3) := by decide +kernel
theorem dX6_allocate_52 : decode cX6_allocate 52 = .ok (.iconst 1, 1) := by decide +kernel
theorem dX6_allocate_53 : decode cX6_allocate 53 = .ok (.iadd, 1) := by decide +kernel
theorem dX6_allocate_54 : decode cX6_allocate 54 = .ok (.putfield 97, 3) := by decide +kernel
theorem dX6_allocate_57 : decode cX6_allocate 57 = .ok (.aload_n 0, 1) := by decide +kernel
theorem dX6_allocate_58 : decode cX6_allocate 58 = .ok (.getfield 7, 3) := by decide +kernel
theorem dX6_allocate_61 : decode cX6_allocate 61 = .ok (.iload_n 2, 1) := by decide +kernel
theorem dX6_allocate_62 : decode cX6_allocate 62 = .ok (.iload_n 1, 1) := by decide +kernel
theorem dX6_allocate_63 : decode cX6_allocate 63 = .ok (.iastore, 1) := by decide +kernel
theorem dX6_allocate_64 : decode cX6_allocate 64 = .ok (.aload_n 0, 1) := by decide +kernel
theorem dX6_allocate_65 : decode cX6_allocate 65 = .ok (.iload_n 2, 1) := by decide +kernel
theorem dX6_allocate_66 : decode cX6_allocate 66 = .ok (.iconst (-1), 1) := by decide +kernel
theorem dX6_allocate_67 : decode cX6_allocate 67 = .ok (.invokevirtual 100, 3) := by decide +kernel
theorem dX6_allocate_70 : decode cX6_allocate 70 = .ok (.istore_n 3, 1) := by decide +kernel
theorem dX6_allocate_71 : decode cX6_allocate 71 = .ok (.iconst 0, 1) := by decide +kernel
theorem dX6_allocate_72 : decode cX6_allocate 72 = .ok (.istore 4, 2) := by decide +kernel
theorem dX6_allocate_74 : decode cX6_allocate 74 = .ok (.iload 4, 2) := by decide +kernel
theorem dX6_allocate_76 : decode cX6_allocate 76 = .ok (.iload_n 1, 1) := by decide +kernel
theorem dX6_allocate_77 : decode cX6_allocate 77 = .ok (.if_icmp .ge 24, 3) := by decide +kernel
theorem dX6_allocate_80 : decode cX6_allocate 80 = .ok (.aload_n 0, 1) := by decide +kernel
theorem dX6_allocate_81 : decode cX6_allocate 81 = .ok (.bipush 8, 2) := by decide +kernel
theorem dX6_allocate_83 : decode cX6_allocate 83 = .ok (.iload_n 2, 1) := by decide +kernel
theorem dX6_allocate_84 : decode cX6_allocate 84 = .ok (.imul, 1) := by decide +kernel
theorem dX6_allocate_85 : decode cX6_allocate 85 = .ok (.iload 4, 2) := by decide +kernel
theorem dX6_allocate_87 : decode cX6_allocate 87 = .ok (.iadd, 1) := by decide +kernel
theorem dX6_allocate_88 : decode cX6_allocate 88 = .ok (.iconst 0, 1) := by decide +kernel
theorem dX6_allocate_89 : decode cX6_allocate 89 = .ok (.iload_n 3, 1) := by decide +kernel
theorem dX6_allocate_90 : decode cX6_allocate 90 = .ok (.iconst 0, 1) := by decide +kernel
theorem dX6_allocate_91 : decode cX6_allocate 91 = .ok (.iconst 0, 1) := by decide +kernel
theorem dX6_allocate_92 : decode cX6_allocate 92 = .ok (.invokevirtual 103, 3) := by decide +kernel
theorem dX6_allocate_95 : decode cX6_allocate 95 = .ok (.iinc 4 1, 3) := by decide +kernel
theorem dX6_allocate_98 : decode cX6_allocate 98 = .ok (.goto (-24), 3) := by decide +kernel
theorem dX6_allocate_101 : decode cX6_allocate 101 = .ok (.iload_n 3, 1) := by decide +kernel
theorem dX6_allocate_102 : decode cX6_allocate 102 = .ok (.ireturn, 1) := by decide +kernel
theorem dX6_read_0 : decode cX6_read 0 = .ok (.aload_n 0, 1) := by decide +kernel
theorem dX6_read_1 : decode cX6_read 1 = .ok (.iload_n 1, 1) := by decide +kernel
theorem dX6_read_2 : decode cX6_read 2 = .ok (.iload_n 2, 1) := by decide +kernel
theorem dX6_read_3 : decode cX6_read 3 = .ok (.invokevirtual 107, 3) := by decide +kernel
theorem dX6_read_6 : decode cX6_read 6 = .ok (.ifCond .ne 10, 3) := by decide +kernel
theorem dX6_read_9 : decode cX6_read 9 = .ok (.aload_n 0, 1) := by decide +kernel
theorem dX6_read_10 : decode cX6_read 10 = .ok (.bipush (-2), 2) := by decide +kernel
theorem dX6_read_12 : decode cX6_read 12 = .ok (.invokevirtual 93, 3) := by decide +kernel
theorem dX6_read_15 : decode cX6_read 15 = .ok (.ireturn, 1) := by decide +kernel
theorem dX6_read_16 : decode cX6_read 16 = .ok (.aload_n 0, 1) := by decide +kernel
theorem dX6_read_17 : decode cX6_read 17 = .ok (.iload_n 1, 1) := by decide +kernel
theorem dX6_read_18 : decode cX6_read 18 = .ok (.iload_n 2, 1) := by decide +kernel
theorem dX6_read_19 : decode cX6_read 19 = .ok (.invokevirtual 111, 3) := by decide +kernel
theorem dX6_read_22 : decode cX6_read 22 = .ok (.istore_n 3, 1) := by decide +kernel
theorem dX6_read_23 : decode cX6_read 23 = .ok (.iload_n 3, 1) := by decide +kernel
theorem dX6_read_24 : decode cX6_read 24 = .ok (.ifCond .eq 10, 3) := by decide +kernel
theorem dX6_read_27 : decode cX6_read 27 = .ok (.aload_n 0, 1) := by decide +kernel
theorem dX6_read_28 : decode cX6_read 28 = .ok (.iload_n 3, 1) := by decide +kernel
theorem dX6_read_29 : decode cX6_read 29 = .ok (.iload_n 2, 1) := by decide +kernel
theorem dX6_read_30 : decode cX6_read 30 = .ok (.invokevirtual 114, 3) := by decide +kernel
theorem dX6_read_33 : decode cX6_read 33 = .ok (.ireturn, 1) := by decide +kernel
theorem dX6_read_34 : decode cX6_read 34 = .ok (.aload_n 0, 1) := by decide +kernel
theorem dX6_read_35 : decode cX6_read 35 = .ok (.iload_n 1, 1) := by decide +kernel
theorem dX6_read_36 : decode cX6_read 36 = .ok (.iload_n 2, 1) := by decide +kernel
theorem dX6_read_37 : decode cX6_read 37 = .ok (.invokevirtual 117, 3) := by decide +kernel
theorem dX6_read_40 : decode cX6_read 40 = .ok (.aload_n 0, 1) := by decide +kernel
theorem dX6_read_41 : decode cX6_read 41 = .ok (.getfield 17, 3) := by decide +kernel
theorem dX6_read_44 : decode cX6_read 44 = .ok (.aload_n 0, 1) := by decide +kernel
theorem dX6_read_45 : decode cX6_read 45 = .ok (.iload_n 1, 1) := by decide +kernel
theorem dX6_read_46 : decode cX6_read 46 = .ok (.iload_n 2, 1) := by decide +kernel
theorem dX6_read_47 : decode cX6_read 47 = .ok (.invokevirtual 75, 3) := by decide +kernel
theorem dX6_read_50 : decode cX6_read 50 = .ok (.iaload, 1) := by decide +kernel
theorem dX6_read_51 : decode cX6_read 51 = .ok (.ireturn, 1) := by decide +kernel
theorem dX6_write_0 : decode cX6_write 0 = .ok (.aload_n 0, 1) := by decide +kernel
theorem dX6_write_1 : decode cX6_write 1 = .ok (.iload_n 1, 1) := by decide +kernel
theorem dX6_write_2 : decode cX6_write 2 = .ok (.iload_n 2, 1) := by decide +kernel
theorem dX6_write_3 : decode cX6_write 3 = .ok (.invokevirtual 107, 3) := by decide +kernel
theorem dX6_write_6 : decode cX6_write 6 = .ok (.ifCond .eq 13, 3) := by decide +kernel
theorem dX6_write_9 : decode cX6_write 9 = .ok (.iload_n 3, 1) := by decide +kernel
theorem dX6_write_10 : decode cX6_write 10 = .ok (.iconst 0, 1) := by decide +kernel
theorem dX6_write_11 : decode cX6_write 11 = .ok (.bipush 99, 2) := by decide +kernel
theorem dX6_write_13 : decode cX6_write 13 = .ok (.invokestatic 67, 3) := by decide +kernel
theorem dX6_write_16 : decode cX6_write 16 = .ok (.ifCond .ne 10, 3) := by decide +kernel
theorem dX6_write_19 : decode cX6_write 19 = .ok (.aload_n 0, 1) := by decide +kernel
theorem dX6_write_20 : decode cX6_write 20 = .ok (.bipush (-2), 2) := by decide +kernel
theorem dX6_write_22 : decode cX6_write 22 = .ok (.invokevirtual 93, 3) := by decide +kernel
theorem dX6_write_25 : decode cX6_write 25 = .ok (.ireturn, 1) := by decide +kernel
theorem dX6_write_26 : decode cX6_write 26 = .ok (.aload_n 0, 1) := by decide +kernel
theorem dX6_write_27 : decode cX6_write 27 = .ok (.iload_n 1, 1) := by decide +kernel
theorem dX6_write_28 : decode cX6_write 28 = .ok (.iload_n 2, 1) := by decide +kernel
theorem dX6_write_29 : decode cX6_write 29 = .ok (.invokevirtual 90, 3) := by decide +kernel
theorem dX6_write_32 : decode cX6_write 32 = .ok (.istore 4, 2) := by decide +kernel
theorem dX6_write_34 : decode cX6_write 34 = .ok (.iload 4, 2) := by decide +kernel
theorem dX6_write_36 : decode cX6_write 36 = .ok (.ifCond .eq 11, 3) := by decide +kernel
theorem dX6_write_39 : decode cX6_write 39 = .ok (.aload_n 0, 1) := by decide +kernel
theorem dX6_write_40 : decode cX6_write 40 = .ok (.iload 4, 2) := by decide +kernel
theorem dX6_write_42 : decode cX6_write 42 = .ok (.iload_n 2, 1) := by decide +kernel
theorem dX6_write_43 : decode cX6_write 43 = .ok (.invokevirtual 114, 3) := by decide +kernel
theorem dX6_write_46 : decode cX6_write 46 = .ok (.ireturn, 1) := by decide +kernel
theorem dX6_write_47 : decode cX6_write 47 = .ok (.aload_n 0, 1) := by decide +kernel
theorem dX6_write_48 : decode cX6_write 48 = .ok (.iload_n 1, 1) := by decide +kernel
theorem dX6_write_49 : decode cX6_write 49 = .ok (.iload_n 2, 1) := by decide +kernel
theorem dX6_write_50 : decode cX6_write 50 = .ok (.invokevirtual 121, 3) := by decide +kernel
theorem dX6_write_53 : decode cX6_write 53 = .ok (.aload_n 0, 1) := by decide +kernel
theorem dX6_write_54 : decode cX6_write 54 = .ok (.iload_n 1, 1) := by decide +kernel
theorem dX6_write_55 : decode cX6_write 55 = .ok (.iload_n 2, 1) := by decide +kernel
theorem dX6_write_56 : decode cX6_write 56 = .ok (.invokevirtual 75, 3) := by decide +kernel
theorem dX6_write_59 : decode cX6_write 59 = .ok (.istore 5, 2) := by decide +kernel
theorem dX6_write_61 : decode cX6_write 61 = .ok (.aload_n 0, 1) := by decide +kernel
theorem dX6_write_62 : decode cX6_write 62 = .ok (.getfield 17, 3) := by decide +kernel
theorem dX6_write_65 : decode cX6_write 65 = .ok (.iload 5, 2) := by decide +kernel
theorem dX6_write_67 : decode cX6_write 67 = .ok (.iaload, 1) := by decide +kernel
theorem dX6_write_68 : decode cX6_write 68 = .ok (.istore 6, 2) := by decide +kernel
theorem dX6_write_70 : decode cX6_write 70 = .ok (.aload_n 0, 1) := by decide +kernel
theorem dX6_write_71 : decode cX6_write 71 = .ok (.getfield 17, 3) := by decide +kernel
theorem dX6_write_74 : decode cX6_write 74 = .ok (.iload 5, 2) := by decide +kernel
theorem dX6_write_76 : decode cX6_write 76 = .ok (.iload_n 3, 1) := by decide +kernel
theorem dX6_write_77 : decode cX6_write 77 = .ok (.iastore, 1) := by decide +kernel
theorem dX6_write_78 : decode cX6_write 78 = .ok (.iload 6, 2) := by decide +kernel
theorem dX6_write_80 : decode cX6_write 80 = .ok (.ireturn, 1) := by decide +kernel
theorem dX6_reborrowKind_0 : decode cX6_reborrowKind 0 = .ok (.iload_n 2, 1) := by decide +kernel
theorem dX6_reborrowKind_1 : decode cX6_reborrowKind 1 = .ok (.ifCond .ne 12, 3) := by decide +kernel
theorem dX6_reborrowKind_4 : decode cX6_reborrowKind 4 = .ok (.aload_n 0, 1) := by decide +kernel
theorem dX6_reborrowKind_5 : decode cX6_reborrowKind 5 = .ok (.iload_n 1, 1) := by decide +kernel
theorem dX6_reborrowKind_6 : decode cX6_reborrowKind 6 = .ok (.iload_n 3, 1) := by decide +kernel
theorem dX6_reborrowKind_7 : decode cX6_reborrowKind 7 = .ok (.invokevirtual 90, 3) := by decide +kernel
theorem dX6_reborrowKind_10 : decode cX6_reborrowKind 10 = .ok (.goto 23, 3) := by decide +kernel
theorem dX6_reborrowKind_13 : decode cX6_reborrowKind 13 = .ok (.iload_n 2, 1) := by decide +kernel
theorem dX6_reborrowKind_14 : decode cX6_reborrowKind 14 = .ok (.iconst 1, 1) := by decide +kernel
theorem dX6_reborrowKind_15 : decode cX6_reborrowKind 15 = .ok (.if_icmp .ne 12, 3) := by decide +kernel
theorem dX6_reborrowKind_18 : decode cX6_reborrowKind 18 = .ok (.aload_n 0, 1) := by decide +kernel
theorem dX6_reborrowKind_19 : decode cX6_reborrowKind 19 = .ok (.iload_n 1, 1) := by decide +kernel
theorem dX6_reborrowKind_20 : decode cX6_reborrowKind 20 = .ok (.iload_n 3, 1) := by decide +kernel
theorem dX6_reborrowKind_21 : decode cX6_reborrowKind 21 = .ok (.invokevirtual 111, 3) := by decide +kernel
theorem dX6_reborrowKind_24 : decode cX6_reborrowKind 24 = .ok (.goto 9, 3) := by decide +kernel
theorem dX6_reborrowKind_27 : decode cX6_reborrowKind 27 = .ok (.aload_n 0, 1) := by decide +kernel
theorem dX6_reborrowKind_28 : decode cX6_reborrowKind 28 = .ok (.iload_n 1, 1) := by decide +kernel
theorem dX6_reborrowKind_29 : decode cX6_reborrowKind 29 = .ok (.iload_n 3, 1) := by decide +kernel
theorem dX6_reborrowKind_30 : decode cX6_reborrowKind 30 = .ok (.invokevirtual 124, 3) := by decide +kernel
theorem dX6_reborrowKind_33 : decode cX6_reborrowKind 33 = .ok (.ireturn, 1) := by decide +kernel
theorem dX6_sizeBy_0 : decode cX6_sizeBy 0 = .ok (.aload_n 0, 1) := by decide +kernel
theorem dX6_sizeBy_1 : decode cX6_sizeBy 1 = .ok (.iload_n 1, 1) := by decide +kernel
theorem dX6_sizeBy_2 : decode cX6_sizeBy 2 = .ok (.iload_n 3, 1) := by decide +kernel
theorem dX6_sizeBy_3 : decode cX6_sizeBy 3 = .ok (.invokevirtual 75, 3) := by decide +kernel
theorem dX6_sizeBy_6 : decode cX6_sizeBy 6 = .ok (.istore 4, 2) := by decide +kernel
theorem dX6_sizeBy_8 : decode cX6_sizeBy 8 = .ok (.iconst 1, 1) := by decide +kernel
theorem dX6_sizeBy_9 : decode cX6_sizeBy 9 = .ok (.iload_n 2, 1) := by decide +kernel
theorem dX6_sizeBy_10 : decode cX6_sizeBy 10 = .ok (.ifCond .ne 20, 3) := by decide +kernel
theorem dX6_sizeBy_13 : decode cX6_sizeBy 13 = .ok (.aload_n 0, 1) := by decide +kernel
theorem dX6_sizeBy_14 : decode cX6_sizeBy 14 = .ok (.iload 4, 2) := by decide +kernel
theorem dX6_sizeBy_16 : decode cX6_sizeBy 16 = .ok (.aload_n 0, 1) := by decide +kernel
theorem dX6_sizeBy_17 : decode cX6_sizeBy 17 = .ok (.iload 4, 2) := by decide +kernel
theorem dX6_sizeBy_19 : decode cX6_sizeBy 19 = .ok (.iload_n 1, 1) := by decide +kernel
theorem dX6_sizeBy_20 : decode cX6_sizeBy 20 = .ok (.iconst 1, 1) := by decide +kernel
theorem dX6_sizeBy_21 : decode cX6_sizeBy 21 = .ok (.invokevirtual 79, 3) := by decide +kernel
theorem dX6_sizeBy_24 : decode cX6_sizeBy 24 = .ok (.invokevirtual 87, 3) := by decide +kernel
theorem dX6_sizeBy_27 : decode cX6_sizeBy 27 = .ok (.goto 10, 3) := by decide +kernel
theorem dX6_sizeBy_30 : decode cX6_sizeBy 30 = .ok (.aload_n 0, 1) := by decide +kernel
theorem dX6_sizeBy_31 : decode cX6_sizeBy 31 = .ok (.getfield 20, 3) := by decide +kernel
theorem dX6_sizeBy_34 : decode cX6_sizeBy 34 = .ok (.iload 4, 2) := by decide +kernel
theorem dX6_sizeBy_36 : decode cX6_sizeBy 36 = .ok (.iaload, 1) := by decide +kernel
theorem dX6_sizeBy_37 : decode cX6_sizeBy 37 = .ok (.iadd, 1) := by decide +kernel
theorem dX6_sizeBy_38 : decode cX6_sizeBy 38 = .ok (.ireturn, 1) := by decide +kernel
theorem dX6_put_0 : decode cX6_put 0 = .ok (.aload_n 0, 1) := by decide +kernel
theorem dX6_put_1 : decode cX6_put 1 = .ok (.iload_n 1, 1) := by decide +kernel
theorem dX6_put_2 : decode cX6_put 2 = .ok (.iload_n 3, 1) := by decide +kernel
theorem dX6_put_3 : decode cX6_put 3 = .ok (.invokevirtual 75, 3) := by decide +kernel
theorem dX6_put_6 : decode cX6_put 6 = .ok (.istore 5, 2) := by decide +kernel
theorem dX6_put_8 : decode cX6_put 8 = .ok (.aload_n 0, 1) := by decide +kernel
theorem dX6_put_9 : decode cX6_put 9 = .ok (.getfield 64, 3) := by decide +kernel
theorem dX6_put_12 : decode cX6_put 12 = .ok (.istore 6, 2) := by decide +kernel
theorem dX6_put_14 : decode cX6_put 14 = .ok (.iload_n 2, 1) := by decide +kernel
theorem dX6_put_15 : decode cX6_put 15 = .ok (.ifCond .ne 30, 3) := by decide +kernel
theorem dX6_put_18 : decode cX6_put 18 = .ok (.aload_n 0, 1) := by decide +kernel
theorem dX6_put_19 : decode cX6_put 19 = .ok (.iload_n 1, 1) := by decide +kernel
theorem dX6_put_20 : decode cX6_put 20 = .ok (.iload_n 3, 1) := by decide +kernel
theorem dX6_put_21 : decode cX6_put 21 = .ok (.invokevirtual 121, 3) := by decide +kernel
theorem dX6_put_24 : decode cX6_put 24 = .ok (.aload_n 0, 1) := by decide +kernel
theorem dX6_put_25 : decode cX6_put 25 = .ok (.iload 5, 2) := by decide +kernel
theorem dX6_put_27 : decode cX6_put 27 = .ok (.aload_n 0, 1) := by decide +kernel
theorem dX6_put_28 : decode cX6_put 28 = .ok (.getfield 20, 3) := by decide +kernel
theorem dX6_put_31 : decode cX6_put 31 = .ok (.iload 5, 2) := by decide +kernel
theorem dX6_put_33 : decode cX6_put 33 = .ok (.iaload, 1) := by decide +kernel
theorem dX6_put_34 : decode cX6_put 34 = .ok (.iload 6, 2) := by decide +kernel
theorem dX6_put_36 : decode cX6_put 36 = .ok (.iconst 0, 1) := by decide +kernel
theorem dX6_put_37 : decode cX6_put 37 = .ok (.iload 4, 2) := by decide +kernel
theorem dX6_put_39 : decode cX6_put 39 = .ok (.invokevirtual 103, 3) := by decide +kernel
theorem dX6_put_42 : decode cX6_put 42 = .ok (.goto 60, 3) := by decide +kernel
theorem dX6_put_45 : decode cX6_put 45 = .ok (.iload_n 2, 1) := by decide +kernel
theorem dX6_put_46 : decode cX6_put 46 = .ok (.iconst 1, 1) := by decide +kernel
theorem dX6_put_47 : decode cX6_put 47 = .ok (.if_icmp .ne 30, 3) := by decide +kernel
theorem dX6_put_50 : decode cX6_put 50 = .ok (.aload_n 0, 1) := by decide +kernel
theorem dX6_put_51 : decode cX6_put 51 = .ok (.iload_n 1, 1) := by decide +kernel
theorem dX6_put_52 : decode cX6_put 52 = .ok (.iload_n 3, 1) := by decide +kernel
theorem dX6_put_53 : decode cX6_put 53 = .ok (.invokevirtual 117, 3) := by decide +kernel
theorem dX6_put_56 : decode cX6_put 56 = .ok (.aload_n 0, 1) := by decide +kernel
theorem dX6_put_57 : decode cX6_put 57 = .ok (.iload 5, 2) := by decide +kernel
theorem dX6_put_59 : decode cX6_put 59 = .ok (.aload_n 0, 1) := by decide +kernel
theorem dX6_put_60 : decode cX6_put 60 = .ok (.getfield 20, 3) := by decide +kernel
theorem dX6_put_63 : decode cX6_put 63 = .ok (.iload 5, 2) := by decide +kernel
theorem dX6_put_65 : decode cX6_put 65 = .ok (.iaload, 1) := by decide +kernel
theorem dX6_put_66 : decode cX6_put 66 = .ok (.iload 6, 2) := by decide +kernel
theorem dX6_put_68 : decode cX6_put 68 = .ok (.iconst 2, 1) := by decide +kernel
theorem dX6_put_69 : decode cX6_put 69 = .ok (.iload 4, 2) := by decide +kernel
theorem dX6_put_71 : decode cX6_put 71 = .ok (.invokevirtual 103, 3) := by decide +kernel
theorem dX6_put_74 : decode cX6_put 74 = .ok (.goto 28, 3) := by decide +kernel
theorem dX6_put_77 : decode cX6_put 77 = .ok (.aload_n 0, 1) := by decide +kernel
theorem dX6_put_78 : decode cX6_put 78 = .ok (.iload 5, 2) := by decide +kernel
theorem dX6_put_80 : decode cX6_put 80 = .ok (.aload_n 0, 1) := by decide +kernel
theorem dX6_put_81 : decode cX6_put 81 = .ok (.iload 5, 2) := by decide +kernel
theorem dX6_put_83 : decode cX6_put 83 = .ok (.aload_n 0, 1) := by decide +kernel
theorem dX6_put_84 : decode cX6_put 84 = .ok (.iload 5, 2) := by decide +kernel
theorem dX6_put_86 : decode cX6_put 86 = .ok (.iload_n 1, 1) := by decide +kernel
theorem dX6_put_87 : decode cX6_put 87 = .ok (.iconst 1, 1) := by decide +kernel
theorem dX6_put_88 : decode cX6_put 88 = .ok (.invokevirtual 79, 3) := by decide +kernel
theorem dX6_put_91 : decode cX6_put 91 = .ok (.invokevirtual 87, 3) := by decide +kernel
theorem dX6_put_94 : decode cX6_put 94 = .ok (.iload 6, 2) := by decide +kernel
theorem dX6_put_96 : decode cX6_put 96 = .ok (.iconst 1, 1) := by decide +kernel
theorem dX6_put_97 : decode cX6_put 97 = .ok (.iload 4, 2) := by decide +kernel
theorem dX6_put_99 : decode cX6_put 99 = .ok (.invokevirtual 103, 3) := by decide +kernel
theorem dX6_put_102 : decode cX6_put 102 = .ok (.return_, 1) := by decide +kernel
theorem dX6_reborrow_0 : decode cX6_reborrow 0 = .ok (.aload_n 0, 1) := by decide +kernel
theorem dX6_reborrow_1 : decode cX6_reborrow 1 = .ok (.iload_n 1, 1) := by decide +kernel
theorem dX6_reborrow_2 : decode cX6_reborrow 2 = .ok (.iload_n 3, 1) := by decide +kernel
theorem dX6_reborrow_3 : decode cX6_reborrow 3 = .ok (.invokevirtual 107, 3) := by decide +kernel
theorem dX6_reborrow_6 : decode cX6_reborrow 6 = .ok (.ifCond .eq 22, 3) := by decide +kernel
theorem dX6_reborrow_9 : decode cX6_reborrow 9 = .ok (.iload_n 2, 1) := by decide +kernel
theorem dX6_reborrow_10 : decode cX6_reborrow 10 = .ok (.iconst 0, 1) := by decide +kernel
theorem dX6_reborrow_11 : decode cX6_reborrow 11 = .ok (.iconst 2, 1) := by decide +kernel
theorem dX6_reborrow_12 : decode cX6_reborrow 12 = .ok (.invokestatic 67, 3) := by decide +kernel
theorem dX6_reborrow_15 : decode cX6_reborrow 15 = .ok (.ifCond .eq 13, 3) := by decide +kernel
theorem dX6_reborrow_18 : decode cX6_reborrow 18 = .ok (.iload 5, 2) := by decide +kernel
theorem dX6_reborrow_20 : decode cX6_reborrow 20 = .ok (.iconst 0, 1) := by decide +kernel
theorem dX6_reborrow_21 : decode cX6_reborrow 21 = .ok (.iconst 1, 1) := by decide +kernel
theorem dX6_reborrow_22 : decode cX6_reborrow 22 = .ok (.invokestatic 67, 3) := by decide +kernel
theorem dX6_reborrow_25 : decode cX6_reborrow 25 = .ok (.ifCond .ne 10, 3) := by decide +kernel
theorem dX6_reborrow_28 : decode cX6_reborrow 28 = .ok (.aload_n 0, 1) := by decide +kernel
theorem dX6_reborrow_29 : decode cX6_reborrow 29 = .ok (.bipush (-2), 2) := by decide +kernel
theorem dX6_reborrow_31 : decode cX6_reborrow 31 = .ok (.invokevirtual 93, 3) := by decide +kernel
theorem dX6_reborrow_34 : decode cX6_reborrow 34 = .ok (.ireturn, 1) := by decide +kernel
theorem dX6_reborrow_35 : decode cX6_reborrow 35 = .ok (.iload 4, 2) := by decide +kernel
theorem dX6_reborrow_37 : decode cX6_reborrow 37 = .ok (.iconst 1, 1) := by decide +kernel
theorem dX6_reborrow_38 : decode cX6_reborrow 38 = .ok (.aload_n 0, 1) := by decide +kernel
theorem dX6_reborrow_39 : decode cX6_reborrow 39 = .ok (.getfield 7, 3) := by decide +kernel
theorem dX6_reborrow_42 : decode cX6_reborrow 42 = .ok (.aload_n 0, 1) := by decide +kernel
theorem dX6_reborrow_43 : decode cX6_reborrow 43 = .ok (.getfield 32, 3) := by decide +kernel
theorem dX6_reborrow_46 : decode cX6_reborrow 46 = .ok (.iload_n 1, 1) := by decide +kernel
theorem dX6_reborrow_47 : decode cX6_reborrow 47 = .ok (.iaload, 1) := by decide +kernel
theorem dX6_reborrow_48 : decode cX6_reborrow 48 = .ok (.iaload, 1) := by decide +kernel
theorem dX6_reborrow_49 : decode cX6_reborrow 49 = .ok (.iload_n 3, 1) := by decide +kernel
theorem dX6_reborrow_50 : decode cX6_reborrow 50 = .ok (.isub, 1) := by decide +kernel
theorem dX6_reborrow_51 : decode cX6_reborrow 51 = .ok (.invokestatic 67, 3) := by decide +kernel
theorem dX6_reborrow_54 : decode cX6_reborrow 54 = .ok (.ifCond .ne 10, 3) := by decide +kernel
theorem dX6_reborrow_57 : decode cX6_reborrow 57 = .ok (.aload_n 0, 1) := by decide +kernel
theorem dX6_reborrow_58 : decode cX6_reborrow 58 = .ok (.bipush (-2), 2) := by decide +kernel
theorem dX6_reborrow_60 : decode cX6_reborrow 60 = .ok (.invokevirtual 93, 3) := by decide +kernel
theorem dX6_reborrow_63 : decode cX6_reborrow 63 = .ok (.ireturn, 1) := by decide +kernel
theorem dX6_reborrow_64 : decode cX6_reborrow 64 = .ok (.iload 5, 2) := by decide +kernel
theorem dX6_reborrow_66 : decode cX6_reborrow 66 = .ok (.iconst 1, 1) := by decide +kernel
theorem dX6_reborrow_67 : decode cX6_reborrow 67 = .ok (.if_icmp .ne 17, 3) := by decide +kernel
theorem dX6_reborrow_70 : decode cX6_reborrow 70 = .ok (.aload_n 0, 1) := by decide +kernel
theorem dX6_reborrow_71 : decode cX6_reborrow 71 = .ok (.getfield 127, 3) := by decide +kernel
theorem dX6_reborrow_74 : decode cX6_reborrow 74 = .ok (.ifCond .ne 10, 3) := by decide +kernel
theorem dX6_reborrow_77 : decode cX6_reborrow 77 = .ok (.aload_n 0, 1) := by decide +kernel
theorem dX6_reborrow_78 : decode cX6_reborrow 78 = .ok (.bipush (-3), 2) := by decide +kernel
theorem dX6_reborrow_80 : decode cX6_reborrow 80 = .ok (.invokevirtual 93, 3) := by decide +kernel
theorem dX6_reborrow_83 : decode cX6_reborrow 83 = .ok (.ireturn, 1) := by decide +kernel
theorem dX6_reborrow_84 : decode cX6_reborrow 84 = .ok (.iload_n 3, 1) := by decide +kernel
theorem dX6_reborrow_85 : decode cX6_reborrow 85 = .ok (.istore 6, 2) := by decide +kernel
theorem dX6_reborrow_87 : decode cX6_reborrow 87 = .ok (.iload 6, 2) := by decide +kernel
theorem dX6_reborrow_89 : decode cX6_reborrow 89 = .ok (.iload_n 3, 1) := by decide +kernel
theorem dX6_reborrow_90 : decode cX6_reborrow 90 = .ok (.iload 4, 2) := by decide +kernel
theorem dX6_reborrow_92 : decode cX6_reborrow 92 = .ok (.iadd, 1) := by decide +kernel
theorem dX6_reborrow_93 : decode cX6_reborrow 93 = .ok (.if_icmp .ge 33, 3) := by decide +kernel
theorem dX6_reborrow_96 : decode cX6_reborrow 96 = .ok (.aload_n 0, 1) := by decide +kernel
theorem dX6_reborrow_97 : decode cX6_reborrow 97 = .ok (.iload_n 1, 1) := by decide +kernel
theorem dX6_reborrow_98 : decode cX6_reborrow 98 = .ok (.iload_n 2, 1) := by decide +kernel
theorem dX6_reborrow_99 : decode cX6_reborrow 99 = .ok (.iload 6, 2) := by decide +kernel
theorem dX6_reborrow_101 : decode cX6_reborrow 101 = .ok (.invokevirtual 130, 3) := by decide +kernel
theorem dX6_reborrow_104 : decode cX6_reborrow 104 = .ok (.istore 7, 2) := by decide +kernel
theorem dX6_reborrow_106 : decode cX6_reborrow 106 = .ok (.iload 7, 2) := by decide +kernel
theorem dX6_reborrow_108 : decode cX6_reborrow 108 = .ok (.ifCond .eq 12, 3) := by decide +kernel
theorem dX6_reborrow_111 : decode cX6_reborrow 111 = .ok (.aload_n 0, 1) := by decide +kernel
theorem dX6_reborrow_112 : decode cX6_reborrow 112 = .ok (.iload 7, 2) := by decide +kernel
theorem dX6_reborrow_114 : decode cX6_reborrow 114 = .ok (.iload 6, 2) := by decide +kernel
theorem dX6_reborrow_116 : decode cX6_reborrow 116 = .ok (.invokevirtual 114, 3) := by decide +kernel
theorem dX6_reborrow_119 : decode cX6_reborrow 119 = .ok (.ireturn, 1) := by decide +kernel
theorem dX6_reborrow_120 : decode cX6_reborrow 120 = .ok (.iinc 6 1, 3) := by decide +kernel
theorem dX6_reborrow_123 : decode cX6_reborrow 123 = .ok (.goto (-36), 3) := by decide +kernel
theorem dX6_reborrow_126 : decode cX6_reborrow 126 = .ok (.aload_n 0, 1) := by decide +kernel
theorem dX6_reborrow_127 : decode cX6_reborrow 127 = .ok (.getfield 64, 3) := by decide +kernel
theorem dX6_reborrow_130 : decode cX6_reborrow 130 = .ok (.bipush 60, 2) := by decide +kernel
theorem dX6_reborrow_132 : decode cX6_reborrow 132 = .ok (.if_icmp .ge 7, 3) := by decide +kernel
theorem dX6_reborrow_135 : decode cX6_reborrow 135 = .ok (.iconst 1, 1) := by decide +kernel
theorem dX6_reborrow_136 : decode cX6_reborrow 136 = .ok (.goto 4, 3) := by decide +kernel
theorem dX6_reborrow_139 : decode cX6_reborrow 139 = .ok (.iconst 0, 1) := by decide +kernel
theorem dX6_reborrow_140 : decode cX6_reborrow 140 = .ok (.istore 6, 2) := by decide +kernel
theorem dX6_reborrow_142 : decode cX6_reborrow 142 = .ok (.iload_n 3, 1) := by decide +kernel
theorem dX6_reborrow_143 : decode cX6_reborrow 143 = .ok (.istore 7, 2) := by decide +kernel
theorem dX6_reborrow_145 : decode cX6_reborrow 145 = .ok (.iload 7, 2) := by decide +kernel
theorem dX6_reborrow_147 : decode cX6_reborrow 147 = .ok (.iload_n 3, 1) := by decide +kernel
theorem dX6_reborrow_148 : decode cX6_reborrow 148 = .ok (.iload 4, 2) := by decide +kernel
theorem dX6_reborrow_150 : decode cX6_reborrow 150 = .ok (.iadd, 1) := by decide +kernel
theorem dX6_reborrow_151 : decode cX6_reborrow 151 = .ok (.if_icmp .ge 34, 3) := by decide +kernel
theorem dX6_reborrow_154 : decode cX6_reborrow 154 = .ok (.iload 6, 2) := by decide +kernel
theorem dX6_reborrow_156 : decode cX6_reborrow 156 = .ok (.ifCond .eq 20, 3) := by decide +kernel
theorem dX6_reborrow_159 : decode cX6_reborrow 159 = .ok (.aload_n 0, 1) := by decide +kernel
theorem dX6_reborrow_160 : decode cX6_reborrow 160 = .ok (.iload_n 1, 1) := by decide +kernel
theorem dX6_reborrow_161 : decode cX6_reborrow 161 = .ok (.iload_n 2, 1) := by decide +kernel
theorem dX6_reborrow_162 : decode cX6_reborrow 162 = .ok (.iload 7, 2) := by decide +kernel
theorem dX6_reborrow_164 : decode cX6_reborrow 164 = .ok (.invokevirtual 134, 3) := by decide +kernel
theorem dX6_reborrow_167 : decode cX6_reborrow 167 = .ok (.bipush 12, 2) := by decide +kernel
theorem dX6_reborrow_169 : decode cX6_reborrow 169 = .ok (.if_icmp .gt 7, 3) := by decide +kernel
theorem dX6_reborrow_172 : decode cX6_reborrow 172 = .ok (.iconst 1, 1) := by decide +kernel
theorem dX6_reborrow_173 : decode cX6_reborrow 173 = .ok (.goto 4, 3) := by decide +kernel
theorem dX6_reborrow_176 : decode cX6_reborrow 176 = .ok (.iconst 0, 1) := by decide +kernel
theorem dX6_reborrow_177 : decode cX6_reborrow 177 = .ok (.istore 6, 2) := by decide +kernel
theorem dX6_reborrow_179 : decode cX6_reborrow 179 = .ok (.iinc 7 1, 3) := by decide +kernel
theorem dX6_reborrow_182 : decode cX6_reborrow 182 = .ok (.goto (-37), 3) := by decide +kernel
theorem dX6_reborrow_185 : decode cX6_reborrow 185 = .ok (.iload 6, 2) := by decide +kernel
theorem dX6_reborrow_187 : decode cX6_reborrow 187 = .ok (.ifCond .ne 10, 3) := by decide +kernel
theorem dX6_reborrow_190 : decode cX6_reborrow 190 = .ok (.aload_n 0, 1) := by decide +kernel
theorem dX6_reborrow_191 : decode cX6_reborrow 191 = .ok (.bipush (-4), 2) := by decide +kernel
theorem dX6_reborrow_193 : decode cX6_reborrow 193 = .ok (.invokevirtual 93, 3) := by decide +kernel
theorem dX6_reborrow_196 : decode cX6_reborrow 196 = .ok (.ireturn, 1) := by decide +kernel
theorem dX6_reborrow_197 : decode cX6_reborrow 197 = .ok (.iload_n 3, 1) := by decide +kernel
theorem dX6_reborrow_198 : decode cX6_reborrow 198 = .ok (.istore 7, 2) := by decide +kernel
theorem dX6_reborrow_200 : decode cX6_reborrow 200 = .ok (.iload 7, 2) := by decide +kernel
theorem dX6_reborrow_202 : decode cX6_reborrow 202 = .ok (.iload_n 3, 1) := by decide +kernel
theorem dX6_reborrow_203 : decode cX6_reborrow 203 = .ok (.iload 4, 2) := by decide +kernel
theorem dX6_reborrow_205 : decode cX6_reborrow 205 = .ok (.iadd, 1) := by decide +kernel
theorem dX6_reborrow_206 : decode cX6_reborrow 206 = .ok (.if_icmp .ge 31, 3) := by decide +kernel
theorem dX6_reborrow_209 : decode cX6_reborrow 209 = .ok (.aload_n 0, 1) := by decide +kernel
theorem dX6_reborrow_210 : decode cX6_reborrow 210 = .ok (.iload_n 1, 1) := by decide +kernel
theorem dX6_reborrow_211 : decode cX6_reborrow 211 = .ok (.iload_n 2, 1) := by decide +kernel
theorem dX6_reborrow_212 : decode cX6_reborrow 212 = .ok (.iload 7, 2) := by decide +kernel
theorem dX6_reborrow_214 : decode cX6_reborrow 214 = .ok (.iload 5, 2) := by decide +kernel
theorem dX6_reborrow_216 : decode cX6_reborrow 216 = .ok (.iconst 1, 1) := by decide +kernel
theorem dX6_reborrow_217 : decode cX6_reborrow 217 = .ok (.if_icmp .ne 10, 3) := by decide +kernel
theorem dX6_reborrow_220 : decode cX6_reborrow 220 = .ok (.aload_n 0, 1) := by decide +kernel
theorem dX6_reborrow_221 : decode cX6_reborrow 221 = .ok (.getfield 127, 3) := by decide +kernel
theorem dX6_reborrow_224 : decode cX6_reborrow 224 = .ok (.goto 4, 3) := by decide +kernel
theorem dX6_reborrow_227 : decode cX6_reborrow 227 = .ok (.iconst 0, 1) := by decide +kernel
theorem dX6_reborrow_228 : decode cX6_reborrow 228 = .ok (.invokevirtual 137, 3) := by decide +kernel
theorem dX6_reborrow_231 : decode cX6_reborrow 231 = .ok (.iinc 7 1, 3) := by decide +kernel
theorem dX6_reborrow_234 : decode cX6_reborrow 234 = .ok (.goto (-34), 3) := by decide +kernel
theorem dX6_reborrow_237 : decode cX6_reborrow 237 = .ok (.aload_n 0, 1) := by decide +kernel
theorem dX6_reborrow_238 : decode cX6_reborrow 238 = .ok (.aload_n 0, 1) := by decide +kernel
theorem dX6_reborrow_239 : decode cX6_reborrow 239 = .ok (.getfield 32, 3) := by decide +kernel
theorem dX6_reborrow_242 : decode cX6_reborrow 242 = .ok (.iload_n 1, 1) := by decide +kernel
theorem dX6_reborrow_243 : decode cX6_reborrow 243 = .ok (.iaload, 1) := by decide +kernel
theorem dX6_reborrow_244 : decode cX6_reborrow 244 = .ok (.iload_n 1, 1) := by decide +kernel
theorem dX6_reborrow_245 : decode cX6_reborrow 245 = .ok (.invokevirtual 100, 3) := by decide +kernel
theorem dX6_reborrow_248 : decode cX6_reborrow 248 = .ok (.ireturn, 1) := by decide +kernel
theorem dX6_free_0 : decode cX6_free 0 = .ok (.aload_n 0, 1) := by decide +kernel
theorem dX6_free_1 : decode cX6_free 1 = .ok (.iload_n 1, 1) := by decide +kernel
theorem dX6_free_2 : decode cX6_free 2 = .ok (.invokevirtual 71, 3) := by decide +kernel
theorem dX6_free_5 : decode cX6_free 5 = .ok (.ifCond .ne 10, 3) := by decide +kernel
theorem dX6_free_8 : decode cX6_free 8 = .ok (.aload_n 0, 1) := by decide +kernel
theorem dX6_free_9 : decode cX6_free 9 = .ok (.bipush (-2), 2) := by decide +kernel
theorem dX6_free_11 : decode cX6_free 11 = .ok (.invokevirtual 93, 3) := by decide +kernel
theorem dX6_free_14 : decode cX6_free 14 = .ok (.ireturn, 1) := by decide +kernel
theorem dX6_free_15 : decode cX6_free 15 = .ok (.aload_n 0, 1) := by decide +kernel
theorem dX6_free_16 : decode cX6_free 16 = .ok (.getfield 32, 3) := by decide +kernel
theorem dX6_free_19 : decode cX6_free 19 = .ok (.iload_n 1, 1) := by decide +kernel
theorem dX6_free_20 : decode cX6_free 20 = .ok (.iaload, 1) := by decide +kernel
theorem dX6_free_21 : decode cX6_free 21 = .ok (.istore_n 2, 1) := by decide +kernel
theorem dX6_free_22 : decode cX6_free 22 = .ok (.iconst 0, 1) := by decide +kernel
theorem dX6_free_23 : decode cX6_free 23 = .ok (.istore_n 3, 1) := by decide +kernel
theorem dX6_free_24 : decode cX6_free 24 = .ok (.iload_n 3, 1) := by decide +kernel
theorem dX6_free_25 : decode cX6_free 25 = .ok (.aload_n 0, 1) := by decide +kernel
theorem dX6_free_26 : decode cX6_free 26 = .ok (.getfield 7, 3) := by decide +kernel
theorem dX6_free_29 : decode cX6_free 29 = .ok (.iload_n 2, 1) := by decide +kernel
theorem dX6_free_30 : decode cX6_free 30 = .ok (.iaload, 1) := by decide +kernel
theorem dX6_free_31 : decode cX6_free 31 = .ok (.if_icmp .ge 30, 3) := by decide +kernel
theorem dX6_free_34 : decode cX6_free 34 = .ok (.aload_n 0, 1) := by decide +kernel
theorem dX6_free_35 : decode cX6_free 35 = .ok (.iload_n 1, 1) := by decide +kernel
theorem dX6_free_36 : decode cX6_free 36 = .ok (.iload_n 3, 1) := by decide +kernel
theorem dX6_free_37 : decode cX6_free 37 = .ok (.invokevirtual 141, 3) := by decide +kernel
theorem dX6_free_40 : decode cX6_free 40 = .ok (.istore 4, 2) := by decide +kernel
theorem dX6_free_42 : decode cX6_free 42 = .ok (.iload 4, 2) := by decide +kernel
theorem dX6_free_44 : decode cX6_free 44 = .ok (.ifCond .eq 11, 3) := by decide +kernel
theorem dX6_free_47 : decode cX6_free 47 = .ok (.aload_n 0, 1) := by decide +kernel
theorem dX6_free_48 : decode cX6_free 48 = .ok (.iload 4, 2) := by decide +kernel
theorem dX6_free_50 : decode cX6_free 50 = .ok (.iload_n 3, 1) := by decide +kernel
theorem dX6_free_51 : decode cX6_free 51 = .ok (.invokevirtual 114, 3) := by decide +kernel
theorem dX6_free_54 : decode cX6_free 54 = .ok (.ireturn, 1) := by decide +kernel
theorem dX6_free_55 : decode cX6_free 55 = .ok (.iinc 3 1, 3) := by decide +kernel
theorem dX6_free_58 : decode cX6_free 58 = .ok (.goto (-34), 3) := by decide +kernel
theorem dX6_free_61 : decode cX6_free 61 = .ok (.aload_n 0, 1) := by decide +kernel
theorem dX6_free_62 : decode cX6_free 62 = .ok (.getfield 13, 3) := by decide +kernel
theorem dX6_free_65 : decode cX6_free 65 = .ok (.iload_n 2, 1) := by decide +kernel
theorem dX6_free_66 : decode cX6_free 66 = .ok (.iconst 1, 1) := by decide +kernel
theorem dX6_free_67 : decode cX6_free 67 = .ok (.bastore, 1) := by decide +kernel
theorem dX6_free_68 : decode cX6_free 68 = .ok (.aload_n 0, 1) := by decide +kernel
theorem dX6_free_69 : decode cX6_free 69 = .ok (.getfield 7, 3) := by decide +kernel
theorem dX6_free_72 : decode cX6_free 72 = .ok (.iload_n 2, 1) := by decide +kernel
theorem dX6_free_73 : decode cX6_free 73 = .ok (.iaload, 1) := by decide +kernel
theorem dX6_free_74 : decode cX6_free 74 = .ok (.ireturn, 1) := by decide +kernel
theorem dX6_enterCall_0 : decode cX6_enterCall 0 = .ok (.aload_n 0, 1) := by decide +kernel
theorem dX6_enterCall_1 : decode cX6_enterCall 1 = .ok (.getfield 127, 3) := by decide +kernel
theorem dX6_enterCall_4 : decode cX6_enterCall 4 = .ok (.iconst 5, 1) := by decide +kernel
theorem dX6_enterCall_5 : decode cX6_enterCall 5 = .ok (.if_icmp .ne 10, 3) := by decide +kernel
theorem dX6_enterCall_8 : decode cX6_enterCall 8 = .ok (.aload_n 0, 1) := by decide +kernel
theorem dX6_enterCall_9 : decode cX6_enterCall 9 = .ok (.bipush (-4), 2) := by decide +kernel
theorem dX6_enterCall_11 : decode cX6_enterCall 11 = .ok (.invokevirtual 93, 3) := by decide +kernel
theorem dX6_enterCall_14 : decode cX6_enterCall 14 = .ok (.ireturn, 1) := by decide +kernel
theorem dX6_enterCall_15 : decode cX6_enterCall 15 = .ok (.aload_n 0, 1) := by decide +kernel
theorem dX6_enterCall_16 : decode cX6_enterCall 16 = .ok (.dup, 1) := by decide +kernel
theorem dX6_enterCall_17 : decode cX6_enterCall 17 = .ok (.getfield 127, 3) := by decide +kernel
theorem dX6_enterCall_20 : decode cX6_enterCall 20 = .ok (.iconst 1, 1) := by decide +kernel
theorem dX6_enterCall_21 : decode cX6_enterCall 21 = .ok (.iadd, 1) := by decide +kernel
theorem dX6_enterCall_22 : decode cX6_enterCall 22 = .ok (.putfield 127, 3) := by decide +kernel
theorem dX6_enterCall_25 : decode cX6_enterCall 25 = .ok (.aload_n 0, 1) := by decide +kernel
theorem dX6_enterCall_26 : decode cX6_enterCall 26 = .ok (.getfield 127, 3) := by decide +kernel
theorem dX6_enterCall_29 : decode cX6_enterCall 29 = .ok (.ireturn, 1) := by decide +kernel
theorem dX6_leaveCall_0 : decode cX6_leaveCall 0 = .ok (.aload_n 0, 1) := by decide +kernel
theorem dX6_leaveCall_1 : decode cX6_leaveCall 1 = .ok (.getfield 127, 3) := by decide +kernel
theorem dX6_leaveCall_4 : decode cX6_leaveCall 4 = .ok (.ifCond .ne 10, 3) := by decide +kernel
theorem dX6_leaveCall_7 : decode cX6_leaveCall 7 = .ok (.aload_n 0, 1) := by decide +kernel
theorem dX6_leaveCall_8 : decode cX6_leaveCall 8 = .ok (.bipush (-3), 2) := by decide +kernel
theorem dX6_leaveCall_10 : decode cX6_leaveCall 10 = .ok (.invokevirtual 93, 3) := by decide +kernel
theorem dX6_leaveCall_13 : decode cX6_leaveCall 13 = .ok (.ireturn, 1) := by decide +kernel
theorem dX6_leaveCall_14 : decode cX6_leaveCall 14 = .ok (.iconst 0, 1) := by decide +kernel
theorem dX6_leaveCall_15 : decode cX6_leaveCall 15 = .ok (.istore_n 1, 1) := by decide +kernel
theorem dX6_leaveCall_16 : decode cX6_leaveCall 16 = .ok (.iload_n 1, 1) := by decide +kernel
theorem dX6_leaveCall_17 : decode cX6_leaveCall 17 = .ok (.sipush 960, 3) := by decide +kernel
theorem dX6_leaveCall_20 : decode cX6_leaveCall 20 = .ok (.if_icmp .ge 38, 3) := by decide +kernel
theorem dX6_leaveCall_23 : decode cX6_leaveCall 23 = .ok (.aload_n 0, 1) := by decide +kernel
theorem dX6_leaveCall_24 : decode cX6_leaveCall 24 = .ok (.getfield 29, 3) := by decide +kernel
theorem dX6_leaveCall_27 : decode cX6_leaveCall 27 = .ok (.iload_n 1, 1) := by decide +kernel
theorem dX6_leaveCall_28 : decode cX6_leaveCall 28 = .ok (.aload_n 0, 1) := by decide +kernel
theorem dX6_leaveCall_29 : decode cX6_leaveCall 29 = .ok (.getfield 29, 3) := by decide +kernel
theorem dX6_leaveCall_32 : decode cX6_leaveCall 32 = .ok (.iload_n 1, 1) := by decide +kernel
theorem dX6_leaveCall_33 : decode cX6_leaveCall 33 = .ok (.iaload, 1) := by decide +kernel
theorem dX6_leaveCall_34 : decode cX6_leaveCall 34 = .ok (.aload_n 0, 1) := by decide +kernel
theorem dX6_leaveCall_35 : decode cX6_leaveCall 35 = .ok (.getfield 127, 3) := by decide +kernel
theorem dX6_leaveCall_38 : decode cX6_leaveCall 38 = .ok (.if_icmp .ne 7, 3) := by decide +kernel
theorem dX6_leaveCall_41 : decode cX6_leaveCall 41 = .ok (.iconst 0, 1) := by decide +kernel
theorem dX6_leaveCall_42 : decode cX6_leaveCall 42 = .ok (.goto 9, 3) := by decide +kernel
theorem dX6_leaveCall_45 : decode cX6_leaveCall 45 = .ok (.aload_n 0, 1) := by decide +kernel
theorem dX6_leaveCall_46 : decode cX6_leaveCall 46 = .ok (.getfield 29, 3) := by decide +kernel
theorem dX6_leaveCall_49 : decode cX6_leaveCall 49 = .ok (.iload_n 1, 1) := by decide +kernel
theorem dX6_leaveCall_50 : decode cX6_leaveCall 50 = .ok (.iaload, 1) := by decide +kernel
theorem dX6_leaveCall_51 : decode cX6_leaveCall 51 = .ok (.iastore, 1) := by decide +kernel
theorem dX6_leaveCall_52 : decode cX6_leaveCall 52 = .ok (.iinc 1 1, 3) := by decide +kernel
theorem dX6_leaveCall_55 : decode cX6_leaveCall 55 = .ok (.goto (-39), 3) := by decide +kernel
theorem dX6_leaveCall_58 : decode cX6_leaveCall 58 = .ok (.aload_n 0, 1) := by decide +kernel
theorem dX6_leaveCall_59 : decode cX6_leaveCall 59 = .ok (.dup, 1) := by decide +kernel
theorem dX6_leaveCall_60 : decode cX6_leaveCall 60 = .ok (.getfield 127, 3) := by decide +kernel
theorem dX6_leaveCall_63 : decode cX6_leaveCall 63 = .ok (.iconst 1, 1) := by decide +kernel
theorem dX6_leaveCall_64 : decode cX6_leaveCall 64 = .ok (.isub, 1) := by decide +kernel
theorem dX6_leaveCall_65 : decode cX6_leaveCall 65 = .ok (.putfield 127, 3) := by decide +kernel
theorem dX6_leaveCall_68 : decode cX6_leaveCall 68 = .ok (.aload_n 0, 1) := by decide +kernel
theorem dX6_leaveCall_69 : decode cX6_leaveCall 69 = .ok (.getfield 127, 3) := by decide +kernel
theorem dX6_leaveCall_72 : decode cX6_leaveCall 72 = .ok (.ireturn, 1) := by decide +kernel
theorem dX6_checkRead_0 : decode cX6_checkRead 0 = .ok (.aload_n 0, 1) := by decide +kernel
theorem dX6_checkRead_1 : decode cX6_checkRead 1 = .ok (.iload_n 1, 1) := by decide +kernel
theorem dX6_checkRead_2 : decode cX6_checkRead 2 = .ok (.iload_n 2, 1) := by decide +kernel
theorem dX6_checkRead_3 : decode cX6_checkRead 3 = .ok (.invokevirtual 107, 3) := by decide +kernel
theorem dX6_checkRead_6 : decode cX6_checkRead 6 = .ok (.ifCond .eq 12, 3) := by decide +kernel
theorem dX6_checkRead_9 : decode cX6_checkRead 9 = .ok (.aload_n 0, 1) := by decide +kernel
theorem dX6_checkRead_10 : decode cX6_checkRead 10 = .ok (.iload_n 1, 1) := by decide +kernel
theorem dX6_checkRead_11 : decode cX6_checkRead 11 = .ok (.iload_n 2, 1) := by decide +kernel
theorem dX6_checkRead_12 : decode cX6_checkRead 12 = .ok (.invokevirtual 111, 3) := by decide +kernel
theorem dX6_checkRead_15 : decode cX6_checkRead 15 = .ok (.goto 9, 3) := by decide +kernel
theorem dX6_checkRead_18 : decode cX6_checkRead 18 = .ok (.aload_n 0, 1) := by decide +kernel
theorem dX6_checkRead_19 : decode cX6_checkRead 19 = .ok (.bipush (-2), 2) := by decide +kernel
theorem dX6_checkRead_21 : decode cX6_checkRead 21 = .ok (.invokevirtual 93, 3) := by decide +kernel
theorem dX6_checkRead_24 : decode cX6_checkRead 24 = .ok (.ireturn, 1) := by decide +kernel
theorem dX6_checkWrite_0 : decode cX6_checkWrite 0 = .ok (.aload_n 0, 1) := by decide +kernel
theorem dX6_checkWrite_1 : decode cX6_checkWrite 1 = .ok (.iload_n 1, 1) := by decide +kernel
theorem dX6_checkWrite_2 : decode cX6_checkWrite 2 = .ok (.iload_n 2, 1) := by decide +kernel
theorem dX6_checkWrite_3 : decode cX6_checkWrite 3 = .ok (.invokevirtual 107, 3) := by decide +kernel
theorem dX6_checkWrite_6 : decode cX6_checkWrite 6 = .ok (.ifCond .eq 12, 3) := by decide +kernel
theorem dX6_checkWrite_9 : decode cX6_checkWrite 9 = .ok (.aload_n 0, 1) := by decide +kernel
theorem dX6_checkWrite_10 : decode cX6_checkWrite 10 = .ok (.iload_n 1, 1) := by decide +kernel
theorem dX6_checkWrite_11 : decode cX6_checkWrite 11 = .ok (.iload_n 2, 1) := by decide +kernel
theorem dX6_checkWrite_12 : decode cX6_checkWrite 12 = .ok (.invokevirtual 90, 3) := by decide +kernel
theorem dX6_checkWrite_15 : decode cX6_checkWrite 15 = .ok (.goto 9, 3) := by decide +kernel
theorem dX6_checkWrite_18 : decode cX6_checkWrite 18 = .ok (.aload_n 0, 1) := by decide +kernel
theorem dX6_checkWrite_19 : decode cX6_checkWrite 19 = .ok (.bipush (-2), 2) := by decide +kernel
theorem dX6_checkWrite_21 : decode cX6_checkWrite 21 = .ok (.invokevirtual 93, 3) := by decide +kernel
theorem dX6_checkWrite_24 : decode cX6_checkWrite 24 = .ok (.ireturn, 1) := by decide +kernel
theorem dX6_checkFree_0 : decode cX6_checkFree 0 = .ok (.aload_n 0, 1) := by decide +kernel
theorem dX6_checkFree_1 : decode cX6_checkFree 1 = .ok (.iload_n 1, 1) := by decide +kernel
theorem dX6_checkFree_2 : decode cX6_checkFree 2 = .ok (.invokevirtual 71, 3) := by decide +kernel
theorem dX6_checkFree_5 : decode cX6_checkFree 5 = .ok (.ifCond .ne 10, 3) := by decide +kernel
theorem dX6_checkFree_8 : decode cX6_checkFree 8 = .ok (.aload_n 0, 1) := by decide +kernel
theorem dX6_checkFree_9 : decode cX6_checkFree 9 = .ok (.bipush (-2), 2) := by decide +kernel
theorem dX6_checkFree_11 : decode cX6_checkFree 11 = .ok (.invokevirtual 93, 3) := by decide +kernel
theorem dX6_checkFree_14 : decode cX6_checkFree 14 = .ok (.ireturn, 1) := by decide +kernel
theorem dX6_checkFree_15 : decode cX6_checkFree 15 = .ok (.iconst 0, 1) := by decide +kernel
theorem dX6_checkFree_16 : decode cX6_checkFree 16 = .ok (.istore_n 2, 1) := by decide +kernel
theorem dX6_checkFree_17 : decode cX6_checkFree 17 = .ok (.iload_n 2, 1) := by decide +kernel
theorem dX6_checkFree_18 : decode cX6_checkFree 18 = .ok (.aload_n 0, 1) := by decide +kernel
theorem dX6_checkFree_19 : decode cX6_checkFree 19 = .ok (.getfield 7, 3) := by decide +kernel
theorem dX6_checkFree_22 : decode cX6_checkFree 22 = .ok (.aload_n 0, 1) := by decide +kernel
theorem dX6_checkFree_23 : decode cX6_checkFree 23 = .ok (.getfield 32, 3) := by decide +kernel
theorem dX6_checkFree_26 : decode cX6_checkFree 26 = .ok (.iload_n 1, 1) := by decide +kernel
theorem dX6_checkFree_27 : decode cX6_checkFree 27 = .ok (.iaload, 1) := by decide +kernel
theorem dX6_checkFree_28 : decode cX6_checkFree 28 = .ok (.iaload, 1) := by decide +kernel
theorem dX6_checkFree_29 : decode cX6_checkFree 29 = .ok (.if_icmp .ge 22, 3) := by decide +kernel
theorem dX6_checkFree_32 : decode cX6_checkFree 32 = .ok (.aload_n 0, 1) := by decide +kernel
theorem dX6_checkFree_33 : decode cX6_checkFree 33 = .ok (.iload_n 1, 1) := by decide +kernel
theorem dX6_checkFree_34 : decode cX6_checkFree 34 = .ok (.iload_n 2, 1) := by decide +kernel
theorem dX6_checkFree_35 : decode cX6_checkFree 35 = .ok (.invokevirtual 141, 3) := by decide +kernel
theorem dX6_checkFree_38 : decode cX6_checkFree 38 = .ok (.istore_n 3, 1) := by decide +kernel
theorem dX6_checkFree_39 : decode cX6_checkFree 39 = .ok (.iload_n 3, 1) := by decide +kernel
theorem dX6_checkFree_40 : decode cX6_checkFree 40 = .ok (.ifCond .eq 5, 3) := by decide +kernel
theorem dX6_checkFree_43 : decode cX6_checkFree 43 = .ok (.iload_n 3, 1) := by decide +kernel
theorem dX6_checkFree_44 : decode cX6_checkFree 44 = .ok (.ireturn, 1) := by decide +kernel
theorem dX6_checkFree_45 : decode cX6_checkFree 45 = .ok (.iinc 2 1, 3) := by decide +kernel
theorem dX6_checkFree_48 : decode cX6_checkFree 48 = .ok (.goto (-31), 3) := by decide +kernel
theorem dX6_checkFree_51 : decode cX6_checkFree 51 = .ok (.iconst 0, 1) := by decide +kernel
theorem dX6_checkFree_52 : decode cX6_checkFree 52 = .ok (.ireturn, 1) := by decide +kernel
theorem dX6_removedByWrite_0 : decode cX6_removedByWrite 0 = .ok (.aload_n 0, 1) := by decide +kernel
theorem dX6_removedByWrite_1 : decode cX6_removedByWrite 1 = .ok (.iload_n 1, 1) := by decide +kernel
theorem dX6_removedByWrite_2 : decode cX6_removedByWrite 2 = .ok (.iload_n 2, 1) := by decide +kernel
theorem dX6_removedByWrite_3 : decode cX6_removedByWrite 3 = .ok (.invokevirtual 107, 3) := by decide +kernel
theorem dX6_removedByWrite_6 : decode cX6_removedByWrite 6 = .ok (.ifCond .ne 10, 3) := by decide +kernel
theorem dX6_removedByWrite_9 : decode cX6_removedByWrite 9 = .ok (.aload_n 0, 1) := by decide +kernel
theorem dX6_removedByWrite_10 : decode cX6_removedByWrite 10 = .ok (.bipush (-2), 2) := by decide +kernel
theorem dX6_removedByWrite_12 : decode cX6_removedByWrite 12 = .ok (.invokevirtual 93, 3) := by decide +kernel
theorem dX6_removedByWrite_15 : decode cX6_removedByWrite 15 = .ok (.ireturn, 1) := by decide +kernel
theorem dX6_removedByWrite_16 : decode cX6_removedByWrite 16 = .ok (.aload_n 0, 1) := by decide +kernel
theorem dX6_removedByWrite_17 : decode cX6_removedByWrite 17 = .ok (.iload_n 1, 1) := by decide +kernel
theorem dX6_removedByWrite_18 : decode cX6_removedByWrite 18 = .ok (.iload_n 2, 1) := by decide +kernel
theorem dX6_removedByWrite_19 : decode cX6_removedByWrite 19 = .ok (.invokevirtual 90, 3) := by decide +kernel
theorem dX6_removedByWrite_22 : decode cX6_removedByWrite 22 = .ok (.ifCond .eq 5, 3) := by decide +kernel
theorem dX6_removedByWrite_25 : decode cX6_removedByWrite 25 = .ok (.iconst (-1), 1) := by decide +kernel
theorem dX6_removedByWrite_26 : decode cX6_removedByWrite 26 = .ok (.ireturn, 1) := by decide +kernel
theorem dX6_removedByWrite_27 : decode cX6_removedByWrite 27 = .ok (.aload_n 0, 1) := by decide +kernel
theorem dX6_removedByWrite_28 : decode cX6_removedByWrite 28 = .ok (.iload_n 1, 1) := by decide +kernel
theorem dX6_removedByWrite_29 : decode cX6_removedByWrite 29 = .ok (.iload_n 2, 1) := by decide +kernel
theorem dX6_removedByWrite_30 : decode cX6_removedByWrite 30 = .ok (.invokevirtual 75, 3) := by decide +kernel
theorem dX6_removedByWrite_33 : decode cX6_removedByWrite 33 = .ok (.istore_n 3, 1) := by decide +kernel
theorem dX6_removedByWrite_34 : decode cX6_removedByWrite 34 = .ok (.aload_n 0, 1) := by decide +kernel
theorem dX6_removedByWrite_35 : decode cX6_removedByWrite 35 = .ok (.getfield 20, 3) := by decide +kernel
theorem dX6_removedByWrite_38 : decode cX6_removedByWrite 38 = .ok (.iload_n 3, 1) := by decide +kernel
theorem dX6_removedByWrite_39 : decode cX6_removedByWrite 39 = .ok (.iaload, 1) := by decide +kernel
theorem dX6_removedByWrite_40 : decode cX6_removedByWrite 40 = .ok (.aload_n 0, 1) := by decide +kernel
theorem dX6_removedByWrite_41 : decode cX6_removedByWrite 41 = .ok (.iload_n 3, 1) := by decide +kernel
theorem dX6_removedByWrite_42 : decode cX6_removedByWrite 42 = .ok (.aload_n 0, 1) := by decide +kernel
theorem dX6_removedByWrite_43 : decode cX6_removedByWrite 43 = .ok (.iload_n 3, 1) := by decide +kernel
theorem dX6_removedByWrite_44 : decode cX6_removedByWrite 44 = .ok (.iload_n 1, 1) := by decide +kernel
theorem dX6_removedByWrite_45 : decode cX6_removedByWrite 45 = .ok (.iconst 1, 1) := by decide +kernel
theorem dX6_removedByWrite_46 : decode cX6_removedByWrite 46 = .ok (.invokevirtual 79, 3) := by decide +kernel
theorem dX6_removedByWrite_49 : decode cX6_removedByWrite 49 = .ok (.invokevirtual 87, 3) := by decide +kernel
theorem dX6_removedByWrite_52 : decode cX6_removedByWrite 52 = .ok (.isub, 1) := by decide +kernel
theorem dX6_removedByWrite_53 : decode cX6_removedByWrite 53 = .ok (.ireturn, 1) := by decide +kernel
theorem dX6_isAllocation_0 : decode cX6_isAllocation 0 = .ok (.iload_n 1, 1) := by decide +kernel
theorem dX6_isAllocation_1 : decode cX6_isAllocation 1 = .ok (.iconst 0, 1) := by decide +kernel
theorem dX6_isAllocation_2 : decode cX6_isAllocation 2 = .ok (.aload_n 0, 1) := by decide +kernel
theorem dX6_isAllocation_3 : decode cX6_isAllocation 3 = .ok (.getfield 97, 3) := by decide +kernel
theorem dX6_isAllocation_6 : decode cX6_isAllocation 6 = .ok (.iconst 1, 1) := by decide +kernel
theorem dX6_isAllocation_7 : decode cX6_isAllocation 7 = .ok (.isub, 1) := by decide +kernel
theorem dX6_isAllocation_8 : decode cX6_isAllocation 8 = .ok (.invokestatic 67, 3) := by decide +kernel
theorem dX6_isAllocation_11 : decode cX6_isAllocation 11 = .ok (.ireturn, 1) := by decide +kernel
theorem dX6_isCellOf_0 : decode cX6_isCellOf 0 = .ok (.aload_n 0, 1) := by decide +kernel
theorem dX6_isCellOf_1 : decode cX6_isCellOf 1 = .ok (.iload_n 1, 1) := by decide +kernel
theorem dX6_isCellOf_2 : decode cX6_isCellOf 2 = .ok (.invokevirtual 144, 3) := by decide +kernel
theorem dX6_isCellOf_5 : decode cX6_isCellOf 5 = .ok (.ifCond .eq 23, 3) := by decide +kernel
theorem dX6_isCellOf_8 : decode cX6_isCellOf 8 = .ok (.iload_n 2, 1) := by decide +kernel
theorem dX6_isCellOf_9 : decode cX6_isCellOf 9 = .ok (.iconst 0, 1) := by decide +kernel
theorem dX6_isCellOf_10 : decode cX6_isCellOf 10 = .ok (.aload_n 0, 1) := by decide +kernel
theorem dX6_isCellOf_11 : decode cX6_isCellOf 11 = .ok (.getfield 7, 3) := by decide +kernel
theorem dX6_isCellOf_14 : decode cX6_isCellOf 14 = .ok (.iload_n 1, 1) := by decide +kernel
theorem dX6_isCellOf_15 : decode cX6_isCellOf 15 = .ok (.iaload, 1) := by decide +kernel
theorem dX6_isCellOf_16 : decode cX6_isCellOf 16 = .ok (.iconst 1, 1) := by decide +kernel
theorem dX6_isCellOf_17 : decode cX6_isCellOf 17 = .ok (.isub, 1) := by decide +kernel
theorem dX6_isCellOf_18 : decode cX6_isCellOf 18 = .ok (.invokestatic 67, 3) := by decide +kernel
theorem dX6_isCellOf_21 : decode cX6_isCellOf 21 = .ok (.ifCond .eq 7, 3) := by decide +kernel
theorem dX6_isCellOf_24 : decode cX6_isCellOf 24 = .ok (.iconst 1, 1) := by decide +kernel
theorem dX6_isCellOf_25 : decode cX6_isCellOf 25 = .ok (.goto 4, 3) := by decide +kernel
theorem dX6_isCellOf_28 : decode cX6_isCellOf 28 = .ok (.iconst 0, 1) := by decide +kernel
theorem dX6_isCellOf_29 : decode cX6_isCellOf 29 = .ok (.ireturn, 1) := by decide +kernel
theorem dX6_placeOf_0 : decode cX6_placeOf 0 = .ok (.aload_n 0, 1) := by decide +kernel
theorem dX6_placeOf_1 : decode cX6_placeOf 1 = .ok (.iload_n 1, 1) := by decide +kernel
theorem dX6_placeOf_2 : decode cX6_placeOf 2 = .ok (.iload_n 2, 1) := by decide +kernel
theorem dX6_placeOf_3 : decode cX6_placeOf 3 = .ok (.invokevirtual 147, 3) := by decide +kernel
theorem dX6_placeOf_6 : decode cX6_placeOf 6 = .ok (.ifCond .eq 28, 3) := by decide +kernel
theorem dX6_placeOf_9 : decode cX6_placeOf 9 = .ok (.iload_n 3, 1) := by decide +kernel
theorem dX6_placeOf_10 : decode cX6_placeOf 10 = .ok (.iconst 0, 1) := by decide +kernel
theorem dX6_placeOf_11 : decode cX6_placeOf 11 = .ok (.aload_n 0, 1) := by decide +kernel
theorem dX6_placeOf_12 : decode cX6_placeOf 12 = .ok (.getfield 20, 3) := by decide +kernel
theorem dX6_placeOf_15 : decode cX6_placeOf 15 = .ok (.bipush 8, 2) := by decide +kernel
theorem dX6_placeOf_17 : decode cX6_placeOf 17 = .ok (.iload_n 1, 1) := by decide +kernel
theorem dX6_placeOf_18 : decode cX6_placeOf 18 = .ok (.imul, 1) := by decide +kernel
theorem dX6_placeOf_19 : decode cX6_placeOf 19 = .ok (.iload_n 2, 1) := by decide +kernel
theorem dX6_placeOf_20 : decode cX6_placeOf 20 = .ok (.iadd, 1) := by decide +kernel
theorem dX6_placeOf_21 : decode cX6_placeOf 21 = .ok (.iaload, 1) := by decide +kernel
theorem dX6_placeOf_22 : decode cX6_placeOf 22 = .ok (.iconst 1, 1) := by decide +kernel
theorem dX6_placeOf_23 : decode cX6_placeOf 23 = .ok (.isub, 1) := by decide +kernel
theorem dX6_placeOf_24 : decode cX6_placeOf 24 = .ok (.invokestatic 67, 3) := by decide +kernel
theorem dX6_placeOf_27 : decode cX6_placeOf 27 = .ok (.ifCond .eq 7, 3) := by decide +kernel
theorem dX6_placeOf_30 : decode cX6_placeOf 30 = .ok (.iconst 1, 1) := by decide +kernel
theorem dX6_placeOf_31 : decode cX6_placeOf 31 = .ok (.goto 4, 3) := by decide +kernel
theorem dX6_placeOf_34 : decode cX6_placeOf 34 = .ok (.iconst 0, 1) := by decide +kernel
theorem dX6_placeOf_35 : decode cX6_placeOf 35 = .ok (.istore 4, 2) := by decide +kernel
theorem dX6_placeOf_37 : decode cX6_placeOf 37 = .ok (.iload 4, 2) := by decide +kernel
theorem dX6_placeOf_39 : decode cX6_placeOf 39 = .ok (.ifCond .eq 17, 3) := by decide +kernel
theorem dX6_placeOf_42 : decode cX6_placeOf 42 = .ok (.bipush 12, 2) := by decide +kernel
theorem dX6_placeOf_44 : decode cX6_placeOf 44 = .ok (.bipush 8, 2) := by decide +kernel
theorem dX6_placeOf_46 : decode cX6_placeOf 46 = .ok (.iload_n 1, 1) := by decide +kernel
theorem dX6_placeOf_47 : decode cX6_placeOf 47 = .ok (.imul, 1) := by decide +kernel
theorem dX6_placeOf_48 : decode cX6_placeOf 48 = .ok (.iload_n 2, 1) := by decide +kernel
theorem dX6_placeOf_49 : decode cX6_placeOf 49 = .ok (.iadd, 1) := by decide +kernel
theorem dX6_placeOf_50 : decode cX6_placeOf 50 = .ok (.imul, 1) := by decide +kernel
theorem dX6_placeOf_51 : decode cX6_placeOf 51 = .ok (.iload_n 3, 1) := by decide +kernel
theorem dX6_placeOf_52 : decode cX6_placeOf 52 = .ok (.iadd, 1) := by decide +kernel
theorem dX6_placeOf_53 : decode cX6_placeOf 53 = .ok (.goto 4, 3) := by decide +kernel
theorem dX6_placeOf_56 : decode cX6_placeOf 56 = .ok (.iconst (-1), 1) := by decide +kernel
theorem dX6_placeOf_57 : decode cX6_placeOf 57 = .ok (.ireturn, 1) := by decide +kernel
theorem dX6_stackSize_0 : decode cX6_stackSize 0 = .ok (.aload_n 0, 1) := by decide +kernel
theorem dX6_stackSize_1 : decode cX6_stackSize 1 = .ok (.iload_n 1, 1) := by decide +kernel
theorem dX6_stackSize_2 : decode cX6_stackSize 2 = .ok (.iload_n 2, 1) := by decide +kernel
theorem dX6_stackSize_3 : decode cX6_stackSize 3 = .ok (.invokevirtual 147, 3) := by decide +kernel
theorem dX6_stackSize_6 : decode cX6_stackSize 6 = .ok (.ifCond .eq 17, 3) := by decide +kernel
theorem dX6_stackSize_9 : decode cX6_stackSize 9 = .ok (.aload_n 0, 1) := by decide +kernel
theorem dX6_stackSize_10 : decode cX6_stackSize 10 = .ok (.getfield 20, 3) := by decide +kernel
theorem dX6_stackSize_13 : decode cX6_stackSize 13 = .ok (.bipush 8, 2) := by decide +kernel
theorem dX6_stackSize_15 : decode cX6_stackSize 15 = .ok (.iload_n 1, 1) := by decide +kernel
theorem dX6_stackSize_16 : decode cX6_stackSize 16 = .ok (.imul, 1) := by decide +kernel
theorem dX6_stackSize_17 : decode cX6_stackSize 17 = .ok (.iload_n 2, 1) := by decide +kernel
theorem dX6_stackSize_18 : decode cX6_stackSize 18 = .ok (.iadd, 1) := by decide +kernel
theorem dX6_stackSize_19 : decode cX6_stackSize 19 = .ok (.iaload, 1) := by decide +kernel
theorem dX6_stackSize_20 : decode cX6_stackSize 20 = .ok (.goto 9, 3) := by decide +kernel
theorem dX6_stackSize_23 : decode cX6_stackSize 23 = .ok (.aload_n 0, 1) := by decide +kernel
theorem dX6_stackSize_24 : decode cX6_stackSize 24 = .ok (.bipush (-2), 2) := by decide +kernel
theorem dX6_stackSize_26 : decode cX6_stackSize 26 = .ok (.invokevirtual 93, 3) := by decide +kernel
theorem dX6_stackSize_29 : decode cX6_stackSize 29 = .ok (.ireturn, 1) := by decide +kernel
theorem dX6_itemTag_0 : decode cX6_itemTag 0 = .ok (.aload_n 0, 1) := by decide +kernel
theorem dX6_itemTag_1 : decode cX6_itemTag 1 = .ok (.iload_n 1, 1) := by decide +kernel
theorem dX6_itemTag_2 : decode cX6_itemTag 2 = .ok (.iload_n 2, 1) := by decide +kernel
theorem dX6_itemTag_3 : decode cX6_itemTag 3 = .ok (.iload_n 3, 1) := by decide +kernel
theorem dX6_itemTag_4 : decode cX6_itemTag 4 = .ok (.invokevirtual 150, 3) := by decide +kernel
theorem dX6_itemTag_7 : decode cX6_itemTag 7 = .ok (.istore 4, 2) := by decide +kernel
theorem dX6_itemTag_9 : decode cX6_itemTag 9 = .ok (.iload 4, 2) := by decide +kernel
theorem dX6_itemTag_11 : decode cX6_itemTag 11 = .ok (.iconst (-1), 1) := by decide +kernel
theorem dX6_itemTag_12 : decode cX6_itemTag 12 = .ok (.if_icmp .ne 12, 3) := by decide +kernel
theorem dX6_itemTag_15 : decode cX6_itemTag 15 = .ok (.aload_n 0, 1) := by decide +kernel
theorem dX6_itemTag_16 : decode cX6_itemTag 16 = .ok (.bipush (-2), 2) := by decide +kernel
theorem dX6_itemTag_18 : decode cX6_itemTag 18 = .ok (.invokevirtual 93, 3) := by decide +kernel
theorem dX6_itemTag_21 : decode cX6_itemTag 21 = .ok (.goto 10, 3) := by decide +kernel
theorem dX6_itemTag_24 : decode cX6_itemTag 24 = .ok (.aload_n 0, 1) := by decide +kernel
theorem dX6_itemTag_25 : decode cX6_itemTag 25 = .ok (.getfield 23, 3) := by decide +kernel
theorem dX6_itemTag_28 : decode cX6_itemTag 28 = .ok (.iload 4, 2) := by decide +kernel
theorem dX6_itemTag_30 : decode cX6_itemTag 30 = .ok (.iaload, 1) := by decide +kernel
theorem dX6_itemTag_31 : decode cX6_itemTag 31 = .ok (.ireturn, 1) := by decide +kernel
theorem dX6_itemPermission_0 : decode cX6_itemPermission 0 = .ok (.aload_n 0, 1) := by decide +kernel
theorem dX6_itemPermission_1 : decode cX6_itemPermission 1 = .ok (.iload_n 1, 1) := by decide +kernel
theorem dX6_itemPermission_2 : decode cX6_itemPermission 2 = .ok (.iload_n 2, 1) := by decide +kernel
theorem dX6_itemPermission_3 : decode cX6_itemPermission 3 = .ok (.iload_n 3, 1) := by decide +kernel
theorem dX6_itemPermission_4 : decode cX6_itemPermission 4 = .ok (.invokevirtual 150, 3) := by decide +kernel
theorem dX6_itemPermission_7 : decode cX6_itemPermission 7 = .ok (.istore 4, 2) := by decide +kernel
theorem dX6_itemPermission_9 : decode cX6_itemPermission 9 = .ok (.iload 4, 2) := by decide +kernel
theorem dX6_itemPermission_11 : decode cX6_itemPermission 11 = .ok (.iconst (-1), 1) := by decide +kernel
theorem dX6_itemPermission_12 : decode cX6_itemPermission 12 = .ok (.if_icmp .ne 12, 3) := by decide +kernel
theorem dX6_itemPermission_15 : decode cX6_itemPermission 15 = .ok (.aload_n 0, 1) := by decide +kernel
theorem dX6_itemPermission_16 : decode cX6_itemPermission 16 = .ok (.bipush (-2), 2) := by decide +kernel
theorem dX6_itemPermission_18 : decode cX6_itemPermission 18 = .ok (.invokevirtual 93, 3) := by decide +kernel
theorem dX6_itemPermission_21 : decode cX6_itemPermission 21 = .ok (.goto 10, 3) := by decide +kernel
theorem dX6_itemPermission_24 : decode cX6_itemPermission 24 = .ok (.aload_n 0, 1) := by decide +kernel
theorem dX6_itemPermission_25 : decode cX6_itemPermission 25 = .ok (.getfield 26, 3) := by decide +kernel
theorem dX6_itemPermission_28 : decode cX6_itemPermission 28 = .ok (.iload 4, 2) := by decide +kernel
theorem dX6_itemPermission_30 : decode cX6_itemPermission 30 = .ok (.iaload, 1) := by decide +kernel
theorem dX6_itemPermission_31 : decode cX6_itemPermission 31 = .ok (.ireturn, 1) := by decide +kernel
theorem dX6_itemProtected_0 : decode cX6_itemProtected 0 = .ok (.aload_n 0, 1) := by decide +kernel
theorem dX6_itemProtected_1 : decode cX6_itemProtected 1 = .ok (.iload_n 1, 1) := by decide +kernel
theorem dX6_itemProtected_2 : decode cX6_itemProtected 2 = .ok (.iload_n 2, 1) := by decide +kernel
theorem dX6_itemProtected_3 : decode cX6_itemProtected 3 = .ok (.iload_n 3, 1) := by decide +kernel
theorem dX6_itemProtected_4 : decode cX6_itemProtected 4 = .ok (.invokevirtual 150, 3) := by decide +kernel
theorem dX6_itemProtected_7 : decode cX6_itemProtected 7 = .ok (.istore 4, 2) := by decide +kernel
theorem dX6_itemProtected_9 : decode cX6_itemProtected 9 = .ok (.iload 4, 2) := by decide +kernel
theorem dX6_itemProtected_11 : decode cX6_itemProtected 11 = .ok (.iconst (-1), 1) := by decide +kernel
theorem dX6_itemProtected_12 : decode cX6_itemProtected 12 = .ok (.if_icmp .ne 12, 3) := by decide +kernel
theorem dX6_itemProtected_15 : decode cX6_itemProtected 15 = .ok (.aload_n 0, 1) := by decide +kernel
theorem dX6_itemProtected_16 : decode cX6_itemProtected 16 = .ok (.bipush (-2), 2) := by decide +kernel
theorem dX6_itemProtected_18 : decode cX6_itemProtected 18 = .ok (.invokevirtual 93, 3) := by decide +kernel
theorem dX6_itemProtected_21 : decode cX6_itemProtected 21 = .ok (.goto 18, 3) := by decide +kernel
theorem dX6_itemProtected_24 : decode cX6_itemProtected 24 = .ok (.aload_n 0, 1) := by decide +kernel
theorem dX6_itemProtected_25 : decode cX6_itemProtected 25 = .ok (.getfield 29, 3) := by decide +kernel
theorem dX6_itemProtected_28 : decode cX6_itemProtected 28 = .ok (.iload 4, 2) := by decide +kernel
theorem dX6_itemProtected_30 : decode cX6_itemProtected 30 = .ok (.iaload, 1) := by decide +kernel
theorem dX6_itemProtected_31 : decode cX6_itemProtected 31 = .ok (.ifCond .le 7, 3) := by decide +kernel
theorem dX6_itemProtected_34 : decode cX6_itemProtected 34 = .ok (.iconst 1, 1) := by decide +kernel
theorem dX6_itemProtected_35 : decode cX6_itemProtected 35 = .ok (.goto 4, 3) := by decide +kernel
theorem dX6_itemProtected_38 : decode cX6_itemProtected 38 = .ok (.iconst 0, 1) := by decide +kernel
theorem dX6_itemProtected_39 : decode cX6_itemProtected 39 = .ok (.ireturn, 1) := by decide +kernel
theorem dX6_allocationOf_0 : decode cX6_allocationOf 0 = .ok (.aload_n 0, 1) := by decide +kernel
theorem dX6_allocationOf_1 : decode cX6_allocationOf 1 = .ok (.iload_n 1, 1) := by decide +kernel
theorem dX6_allocationOf_2 : decode cX6_allocationOf 2 = .ok (.invokevirtual 71, 3) := by decide +kernel
theorem dX6_allocationOf_5 : decode cX6_allocationOf 5 = .ok (.ifCond .eq 12, 3) := by decide +kernel
theorem dX6_allocationOf_8 : decode cX6_allocationOf 8 = .ok (.aload_n 0, 1) := by decide +kernel
theorem dX6_allocationOf_9 : decode cX6_allocationOf 9 = .ok (.getfield 32, 3) := by decide +kernel
theorem dX6_allocationOf_12 : decode cX6_allocationOf 12 = .ok (.iload_n 1, 1) := by decide +kernel
theorem dX6_allocationOf_13 : decode cX6_allocationOf 13 = .ok (.iaload, 1) := by decide +kernel
theorem dX6_allocationOf_14 : decode cX6_allocationOf 14 = .ok (.goto 9, 3) := by decide +kernel
theorem dX6_allocationOf_17 : decode cX6_allocationOf 17 = .ok (.aload_n 0, 1) := by decide +kernel
theorem dX6_allocationOf_18 : decode cX6_allocationOf 18 = .ok (.bipush (-2), 2) := by decide +kernel
theorem dX6_allocationOf_20 : decode cX6_allocationOf 20 = .ok (.invokevirtual 93, 3) := by decide +kernel
theorem dX6_allocationOf_23 : decode cX6_allocationOf 23 = .ok (.ireturn, 1) := by decide +kernel
theorem dX6_parent_0 : decode cX6_parent 0 = .ok (.aload_n 0, 1) := by decide +kernel
theorem dX6_parent_1 : decode cX6_parent 1 = .ok (.iload_n 1, 1) := by decide +kernel
theorem dX6_parent_2 : decode cX6_parent 2 = .ok (.invokevirtual 71, 3) := by decide +kernel
theorem dX6_parent_5 : decode cX6_parent 5 = .ok (.ifCond .eq 12, 3) := by decide +kernel
theorem dX6_parent_8 : decode cX6_parent 8 = .ok (.aload_n 0, 1) := by decide +kernel
theorem dX6_parent_9 : decode cX6_parent 9 = .ok (.getfield 35, 3) := by decide +kernel
theorem dX6_parent_12 : decode cX6_parent 12 = .ok (.iload_n 1, 1) := by decide +kernel
theorem dX6_parent_13 : decode cX6_parent 13 = .ok (.iaload, 1) := by decide +kernel
theorem dX6_parent_14 : decode cX6_parent 14 = .ok (.goto 9, 3) := by decide +kernel
theorem dX6_parent_17 : decode cX6_parent 17 = .ok (.aload_n 0, 1) := by decide +kernel
theorem dX6_parent_18 : decode cX6_parent 18 = .ok (.bipush (-2), 2) := by decide +kernel
theorem dX6_parent_20 : decode cX6_parent 20 = .ok (.invokevirtual 93, 3) := by decide +kernel
theorem dX6_parent_23 : decode cX6_parent 23 = .ok (.ireturn, 1) := by decide +kernel
theorem dX6_liveOf_0 : decode cX6_liveOf 0 = .ok (.iconst 0, 1) := by decide +kernel
theorem dX6_liveOf_1 : decode cX6_liveOf 1 = .ok (.istore_n 2, 1) := by decide +kernel
theorem dX6_liveOf_2 : decode cX6_liveOf 2 = .ok (.iconst 0, 1) := by decide +kernel
theorem dX6_liveOf_3 : decode cX6_liveOf 3 = .ok (.istore_n 3, 1) := by decide +kernel
theorem dX6_liveOf_4 : decode cX6_liveOf 4 = .ok (.iload_n 3, 1) := by decide +kernel
theorem dX6_liveOf_5 : decode cX6_liveOf 5 = .ok (.aload_n 0, 1) := by decide +kernel
theorem dX6_liveOf_6 : decode cX6_liveOf 6 = .ok (.getfield 7, 3) := by decide +kernel
theorem dX6_liveOf_9 : decode cX6_liveOf 9 = .ok (.aload_n 0, 1) := by decide +kernel
theorem dX6_liveOf_10 : decode cX6_liveOf 10 = .ok (.getfield 32, 3) := by decide +kernel
theorem dX6_liveOf_13 : decode cX6_liveOf 13 = .ok (.iload_n 1, 1) := by decide +kernel
theorem dX6_liveOf_14 : decode cX6_liveOf 14 = .ok (.iaload, 1) := by decide +kernel
theorem dX6_liveOf_15 : decode cX6_liveOf 15 = .ok (.iaload, 1) := by decide +kernel
theorem dX6_liveOf_16 : decode cX6_liveOf 16 = .ok (.if_icmp .ge 47, 3) := by decide +kernel
theorem dX6_liveOf_19 : decode cX6_liveOf 19 = .ok (.aload_n 0, 1) := by decide +kernel
theorem dX6_liveOf_20 : decode cX6_liveOf 20 = .ok (.getfield 13, 3) := by decide +kernel
theorem dX6_liveOf_23 : decode cX6_liveOf 23 = .ok (.aload_n 0, 1) := by decide +kernel
theorem dX6_liveOf_24 : decode cX6_liveOf 24 = .ok (.getfield 32, 3) := by decide +kernel
theorem dX6_liveOf_27 : decode cX6_liveOf 27 = .ok (.iload_n 1, 1) := by decide +kernel
theorem dX6_liveOf_28 : decode cX6_liveOf 28 = .ok (.iaload, 1) := by decide +kernel
theorem dX6_liveOf_29 : decode cX6_liveOf 29 = .ok (.baload, 1) := by decide +kernel
theorem dX6_liveOf_30 : decode cX6_liveOf 30 = .ok (.ifCond .ne 33, 3) := by decide +kernel
theorem dX6_liveOf_33 : decode cX6_liveOf 33 = .ok (.iload_n 2, 1) := by decide +kernel
theorem dX6_liveOf_34 : decode cX6_liveOf 34 = .ok (.aload_n 0, 1) := by decide +kernel
theorem dX6_liveOf_35 : decode cX6_liveOf 35 = .ok (.aload_n 0, 1) := by decide +kernel
theorem dX6_liveOf_36 : decode cX6_liveOf 36 = .ok (.iload_n 1, 1) := by decide +kernel
theorem dX6_liveOf_37 : decode cX6_liveOf 37 = .ok (.iload_n 3, 1) := by decide +kernel
theorem dX6_liveOf_38 : decode cX6_liveOf 38 = .ok (.invokevirtual 75, 3) := by decide +kernel
theorem dX6_liveOf_41 : decode cX6_liveOf 41 = .ok (.iload_n 1, 1) := by decide +kernel
theorem dX6_liveOf_42 : decode cX6_liveOf 42 = .ok (.iconst 0, 1) := by decide +kernel
theorem dX6_liveOf_43 : decode cX6_liveOf 43 = .ok (.invokevirtual 79, 3) := by decide +kernel
theorem dX6_liveOf_46 : decode cX6_liveOf 46 = .ok (.iconst (-1), 1) := by decide +kernel
theorem dX6_liveOf_47 : decode cX6_liveOf 47 = .ok (.if_icmp .eq 7, 3) := by decide +kernel
theorem dX6_liveOf_50 : decode cX6_liveOf 50 = .ok (.iconst 1, 1) := by decide +kernel
theorem dX6_liveOf_51 : decode cX6_liveOf 51 = .ok (.goto 4, 3) := by decide +kernel
theorem dX6_liveOf_54 : decode cX6_liveOf 54 = .ok (.iconst 0, 1) := by decide +kernel
theorem dX6_liveOf_55 : decode cX6_liveOf 55 = .ok (.iadd, 1) := by decide +kernel
theorem dX6_liveOf_56 : decode cX6_liveOf 56 = .ok (.istore_n 2, 1) := by decide +kernel
theorem dX6_liveOf_57 : decode cX6_liveOf 57 = .ok (.iinc 3 1, 3) := by decide +kernel
theorem dX6_liveOf_60 : decode cX6_liveOf 60 = .ok (.goto (-56), 3) := by decide +kernel
theorem dX6_liveOf_63 : decode cX6_liveOf 63 = .ok (.iload_n 2, 1) := by decide +kernel
theorem dX6_liveOf_64 : decode cX6_liveOf 64 = .ok (.ireturn, 1) := by decide +kernel
theorem dX6_liveCells_0 : decode cX6_liveCells 0 = .ok (.aload_n 0, 1) := by decide +kernel
theorem dX6_liveCells_1 : decode cX6_liveCells 1 = .ok (.iload_n 1, 1) := by decide +kernel
theorem dX6_liveCells_2 : decode cX6_liveCells 2 = .ok (.invokevirtual 71, 3) := by decide +kernel
theorem dX6_liveCells_5 : decode cX6_liveCells 5 = .ok (.ifCond .eq 11, 3) := by decide +kernel
theorem dX6_liveCells_8 : decode cX6_liveCells 8 = .ok (.aload_n 0, 1) := by decide +kernel
theorem dX6_liveCells_9 : decode cX6_liveCells 9 = .ok (.iload_n 1, 1) := by decide +kernel
theorem dX6_liveCells_10 : decode cX6_liveCells 10 = .ok (.invokevirtual 153, 3) := by decide +kernel
theorem dX6_liveCells_13 : decode cX6_liveCells 13 = .ok (.goto 9, 3) := by decide +kernel
theorem dX6_liveCells_16 : decode cX6_liveCells 16 = .ok (.aload_n 0, 1) := by decide +kernel
theorem dX6_liveCells_17 : decode cX6_liveCells 17 = .ok (.bipush (-2), 2) := by decide +kernel
theorem dX6_liveCells_19 : decode cX6_liveCells 19 = .ok (.invokevirtual 93, 3) := by decide +kernel
theorem dX6_liveCells_22 : decode cX6_liveCells 22 = .ok (.ireturn, 1) := by decide +kernel
theorem dX6_isFreed_0 : decode cX6_isFreed 0 = .ok (.aload_n 0, 1) := by decide +kernel
theorem dX6_isFreed_1 : decode cX6_isFreed 1 = .ok (.iload_n 1, 1) := by decide +kernel
theorem dX6_isFreed_2 : decode cX6_isFreed 2 = .ok (.invokevirtual 144, 3) := by decide +kernel
theorem dX6_isFreed_5 : decode cX6_isFreed 5 = .ok (.ifCond .ne 12, 3) := by decide +kernel
theorem dX6_isFreed_8 : decode cX6_isFreed 8 = .ok (.aload_n 0, 1) := by decide +kernel
theorem dX6_isFreed_9 : decode cX6_isFreed 9 = .ok (.bipush (-2), 2) := by decide +kernel
theorem dX6_isFreed_11 : decode cX6_isFreed 11 = .ok (.invokevirtual 93, 3) := by decide +kernel
theorem dX6_isFreed_14 : decode cX6_isFreed 14 = .ok (.goto 17, 3) := by decide +kernel
theorem dX6_isFreed_17 : decode cX6_isFreed 17 = .ok (.aload_n 0, 1) := by decide +kernel
theorem dX6_isFreed_18 : decode cX6_isFreed 18 = .ok (.getfield 13, 3) := by decide +kernel
theorem dX6_isFreed_21 : decode cX6_isFreed 21 = .ok (.iload_n 1, 1) := by decide +kernel
theorem dX6_isFreed_22 : decode cX6_isFreed 22 = .ok (.baload, 1) := by decide +kernel
theorem dX6_isFreed_23 : decode cX6_isFreed 23 = .ok (.ifCond .eq 7, 3) := by decide +kernel
theorem dX6_isFreed_26 : decode cX6_isFreed 26 = .ok (.iconst 1, 1) := by decide +kernel
theorem dX6_isFreed_27 : decode cX6_isFreed 27 = .ok (.goto 4, 3) := by decide +kernel
theorem dX6_isFreed_30 : decode cX6_isFreed 30 = .ok (.iconst 0, 1) := by decide +kernel
theorem dX6_isFreed_31 : decode cX6_isFreed 31 = .ok (.ireturn, 1) := by decide +kernel
theorem dX6_pointerCount_0 : decode cX6_pointerCount 0 = .ok (.aload_n 0, 1) := by decide +kernel
theorem dX6_pointerCount_1 : decode cX6_pointerCount 1 = .ok (.getfield 64, 3) := by decide +kernel
theorem dX6_pointerCount_4 : decode cX6_pointerCount 4 = .ok (.ireturn, 1) := by decide +kernel
theorem dX6_callDepth_0 : decode cX6_callDepth 0 = .ok (.aload_n 0, 1) := by decide +kernel
theorem dX6_callDepth_1 : decode cX6_callDepth 1 = .ok (.getfield 127, 3) := by decide +kernel
theorem dX6_callDepth_4 : decode cX6_callDepth 4 = .ok (.ireturn, 1) := by decide +kernel
theorem dX6_violationCount_0 : decode cX6_violationCount 0 = .ok (.aload_n 0, 1) := by decide +kernel
theorem dX6_violationCount_1 : decode cX6_violationCount 1 = .ok (.getfield 58, 3) := by decide +kernel
theorem dX6_violationCount_4 : decode cX6_violationCount 4 = .ok (.ireturn, 1) := by decide +kernel
theorem dX6_violationKind_0 : decode cX6_violationKind 0 = .ok (.aload_n 0, 1) := by decide +kernel
theorem dX6_violationKind_1 : decode cX6_violationKind 1 = .ok (.getfield 61, 3) := by decide +kernel
theorem dX6_violationKind_4 : decode cX6_violationKind 4 = .ok (.ireturn, 1) := by decide +kernel
theorem dX6_violationCell_0 : decode cX6_violationCell 0 = .ok (.aload_n 0, 1) := by decide +kernel
theorem dX6_violationCell_1 : decode cX6_violationCell 1 = .ok (.getfield 38, 3) := by decide +kernel
theorem dX6_violationCell_4 : decode cX6_violationCell 4 = .ok (.ireturn, 1) := by decide +kernel
theorem dX6_errorCount_0 : decode cX6_errorCount 0 = .ok (.iload_n 1, 1) := by decide +kernel
theorem dX6_errorCount_1 : decode cX6_errorCount 1 = .ok (.iconst 0, 1) := by decide +kernel
theorem dX6_errorCount_2 : decode cX6_errorCount 2 = .ok (.iconst 2, 1) := by decide +kernel
theorem dX6_errorCount_3 : decode cX6_errorCount 3 = .ok (.invokestatic 67, 3) := by decide +kernel
theorem dX6_errorCount_6 : decode cX6_errorCount 6 = .ok (.ifCond .eq 12, 3) := by decide +kernel
theorem dX6_errorCount_9 : decode cX6_errorCount 9 = .ok (.aload_n 0, 1) := by decide +kernel
theorem dX6_errorCount_10 : decode cX6_errorCount 10 = .ok (.getfield 42, 3) := by decide +kernel
theorem dX6_errorCount_13 : decode cX6_errorCount 13 = .ok (.iload_n 1, 1) := by decide +kernel
theorem dX6_errorCount_14 : decode cX6_errorCount 14 = .ok (.iaload, 1) := by decide +kernel
theorem dX6_errorCount_15 : decode cX6_errorCount 15 = .ok (.goto 9, 3) := by decide +kernel
theorem dX6_errorCount_18 : decode cX6_errorCount 18 = .ok (.aload_n 0, 1) := by decide +kernel
theorem dX6_errorCount_19 : decode cX6_errorCount 19 = .ok (.bipush (-2), 2) := by decide +kernel
theorem dX6_errorCount_21 : decode cX6_errorCount 21 = .ok (.invokevirtual 93, 3) := by decide +kernel
theorem dX6_errorCount_24 : decode cX6_errorCount 24 = .ok (.ireturn, 1) := by decide +kernel
theorem dX6_append_0 : decode cX6_append 0 = .ok (.iload_n 1, 1) := by decide +kernel
theorem dX6_append_1 : decode cX6_append 1 = .ok (.iconst 0, 1) := by decide +kernel
theorem dX6_append_2 : decode cX6_append 2 = .ok (.bipush 127, 2) := by decide +kernel
theorem dX6_append_4 : decode cX6_append 4 = .ok (.invokestatic 67, 3) := by decide +kernel
theorem dX6_append_7 : decode cX6_append 7 = .ok (.ifCond .ne 10, 3) := by decide +kernel
theorem dX6_append_10 : decode cX6_append 10 = .ok (.aload_n 0, 1) := by decide +kernel
theorem dX6_append_11 : decode cX6_append 11 = .ok (.bipush (-2), 2) := by decide +kernel
theorem dX6_append_13 : decode cX6_append 13 = .ok (.invokevirtual 93, 3) := by decide +kernel
theorem dX6_append_16 : decode cX6_append 16 = .ok (.ireturn, 1) := by decide +kernel
theorem dX6_append_17 : decode cX6_append 17 = .ok (.aload_n 0, 1) := by decide +kernel
theorem dX6_append_18 : decode cX6_append 18 = .ok (.getfield 156, 3) := by decide +kernel
theorem dX6_append_21 : decode cX6_append 21 = .ok (.bipush 120, 2) := by decide +kernel
theorem dX6_append_23 : decode cX6_append 23 = .ok (.if_icmp .ne 10, 3) := by decide +kernel
theorem dX6_append_26 : decode cX6_append 26 = .ok (.aload_n 0, 1) := by decide +kernel
theorem dX6_append_27 : decode cX6_append 27 = .ok (.bipush (-4), 2) := by decide +kernel
theorem dX6_append_29 : decode cX6_append 29 = .ok (.invokevirtual 93, 3) := by decide +kernel
theorem dX6_append_32 : decode cX6_append 32 = .ok (.ireturn, 1) := by decide +kernel
theorem dX6_append_33 : decode cX6_append 33 = .ok (.aload_n 0, 1) := by decide +kernel
theorem dX6_append_34 : decode cX6_append 34 = .ok (.getfield 45, 3) := by decide +kernel
theorem dX6_append_37 : decode cX6_append 37 = .ok (.aload_n 0, 1) := by decide +kernel
theorem dX6_append_38 : decode cX6_append 38 = .ok (.getfield 156, 3) := by decide +kernel
theorem dX6_append_41 : decode cX6_append 41 = .ok (.iload_n 1, 1) := by decide +kernel
theorem dX6_append_42 : decode cX6_append 42 = .ok (.iastore, 1) := by decide +kernel
theorem dX6_append_43 : decode cX6_append 43 = .ok (.aload_n 0, 1) := by decide +kernel
theorem dX6_append_44 : decode cX6_append 44 = .ok (.dup, 1) := by decide +kernel
theorem dX6_append_45 : decode cX6_append 45 = .ok (.getfield 156, 3) := by decide +kernel
theorem dX6_append_48 : decode cX6_append 48 = .ok (.iconst 1, 1) := by decide +kernel
theorem dX6_append_49 : decode cX6_append 49 = .ok (.iadd, 1) := by decide +kernel
theorem dX6_append_50 : decode cX6_append 50 = .ok (.putfield 156, 3) := by decide +kernel
theorem dX6_append_53 : decode cX6_append 53 = .ok (.aload_n 0, 1) := by decide +kernel
theorem dX6_append_54 : decode cX6_append 54 = .ok (.getfield 156, 3) := by decide +kernel
theorem dX6_append_57 : decode cX6_append 57 = .ok (.ireturn, 1) := by decide +kernel
theorem dX6_clearText_0 : decode cX6_clearText 0 = .ok (.aload_n 0, 1) := by decide +kernel
theorem dX6_clearText_1 : decode cX6_clearText 1 = .ok (.getfield 156, 3) := by decide +kernel
theorem dX6_clearText_4 : decode cX6_clearText 4 = .ok (.istore_n 1, 1) := by decide +kernel
theorem dX6_clearText_5 : decode cX6_clearText 5 = .ok (.aload_n 0, 1) := by decide +kernel
theorem dX6_clearText_6 : decode cX6_clearText 6 = .ok (.iconst 0, 1) := by decide +kernel
theorem dX6_clearText_7 : decode cX6_clearText 7 = .ok (.putfield 156, 3) := by decide +kernel
theorem dX6_clearText_10 : decode cX6_clearText 10 = .ok (.iload_n 1, 1) := by decide +kernel
theorem dX6_clearText_11 : decode cX6_clearText 11 = .ok (.ireturn, 1) := by decide +kernel
theorem dX6_isAt_0 : decode cX6_isAt 0 = .ok (.aload_n 0, 1) := by decide +kernel
theorem dX6_isAt_1 : decode cX6_isAt 1 = .ok (.getfield 159, 3) := by decide +kernel
theorem dX6_isAt_4 : decode cX6_isAt 4 = .ok (.aload_n 0, 1) := by decide +kernel
theorem dX6_isAt_5 : decode cX6_isAt 5 = .ok (.getfield 156, 3) := by decide +kernel
theorem dX6_isAt_8 : decode cX6_isAt 8 = .ok (.if_icmp .ge 24, 3) := by decide +kernel
theorem dX6_isAt_11 : decode cX6_isAt 11 = .ok (.aload_n 0, 1) := by decide +kernel
theorem dX6_isAt_12 : decode cX6_isAt 12 = .ok (.getfield 45, 3) := by decide +kernel
theorem dX6_isAt_15 : decode cX6_isAt 15 = .ok (.aload_n 0, 1) := by decide +kernel
theorem dX6_isAt_16 : decode cX6_isAt 16 = .ok (.getfield 159, 3) := by decide +kernel
theorem dX6_isAt_19 : decode cX6_isAt 19 = .ok (.iaload, 1) := by decide +kernel
theorem dX6_isAt_20 : decode cX6_isAt 20 = .ok (.iload_n 1, 1) := by decide +kernel
theorem dX6_isAt_21 : decode cX6_isAt 21 = .ok (.iload_n 2, 1) := by decide +kernel
theorem dX6_isAt_22 : decode cX6_isAt 22 = .ok (.invokestatic 67, 3) := by decide +kernel
theorem dX6_isAt_25 : decode cX6_isAt 25 = .ok (.ifCond .eq 7, 3) := by decide +kernel
theorem dX6_isAt_28 : decode cX6_isAt 28 = .ok (.iconst 1, 1) := by decide +kernel
theorem dX6_isAt_29 : decode cX6_isAt 29 = .ok (.goto 4, 3) := by decide +kernel
theorem dX6_isAt_32 : decode cX6_isAt 32 = .ok (.iconst 0, 1) := by decide +kernel
theorem dX6_isAt_33 : decode cX6_isAt 33 = .ok (.ireturn, 1) := by decide +kernel
theorem dX6_blanks_0 : decode cX6_blanks 0 = .ok (.aload_n 0, 1) := by decide +kernel
theorem dX6_blanks_1 : decode cX6_blanks 1 = .ok (.bipush 32, 2) := by decide +kernel
theorem dX6_blanks_3 : decode cX6_blanks 3 = .ok (.bipush 32, 2) := by decide +kernel
theorem dX6_blanks_5 : decode cX6_blanks 5 = .ok (.invokevirtual 162, 3) := by decide +kernel
theorem dX6_blanks_8 : decode cX6_blanks 8 = .ok (.ifCond .eq 16, 3) := by decide +kernel
theorem dX6_blanks_11 : decode cX6_blanks 11 = .ok (.aload_n 0, 1) := by decide +kernel
theorem dX6_blanks_12 : decode cX6_blanks 12 = .ok (.dup, 1) := by decide +kernel
theorem dX6_blanks_13 : decode cX6_blanks 13 = .ok (.getfield 159, 3) := by decide +kernel
theorem dX6_blanks_16 : decode cX6_blanks 16 = .ok (.iconst 1, 1) := by decide +kernel
theorem dX6_blanks_17 : decode cX6_blanks 17 = .ok (.iadd, 1) := by decide +kernel
theorem dX6_blanks_18 : decode cX6_blanks 18 = .ok (.putfield 159, 3) := by decide +kernel
theorem dX6_blanks_21 : decode cX6_blanks 21 = .ok (.goto (-21), 3) := by decide +kernel
theorem dX6_blanks_24 : decode cX6_blanks 24 = .ok (.return_, 1) := by decide +kernel
theorem dX6_manyOf_0 : decode cX6_manyOf 0 = .ok (.iload_n 0, 1) := by decide +kernel
theorem dX6_manyOf_1 : decode cX6_manyOf 1 = .ok (.tableswitch 115 97 119 #[111, 115, 115, 115, 113, 111, 115, 115, 115, 115, 115, 113, 107, 115, 115, 107, 115, 109, 107, 115, 115, 115, 107], 107) := by decide +kernel
theorem dX6_manyOf_108 : decode cX6_manyOf 108 = .ok (.iconst 3, 1) := by decide +kernel
theorem dX6_manyOf_109 : decode cX6_manyOf 109 = .ok (.ireturn, 1) := by decide +kernel
theorem dX6_manyOf_110 : decode cX6_manyOf 110 = .ok (.iconst 2, 1) := by decide +kernel
theorem dX6_manyOf_111 : decode cX6_manyOf 111 = .ok (.ireturn, 1) := by decide +kernel
theorem dX6_manyOf_112 : decode cX6_manyOf 112 = .ok (.iconst 1, 1) := by decide +kernel
theorem dX6_manyOf_113 : decode cX6_manyOf 113 = .ok (.ireturn, 1) := by decide +kernel
theorem dX6_manyOf_114 : decode cX6_manyOf 114 = .ok (.iconst 0, 1) := by decide +kernel
theorem dX6_manyOf_115 : decode cX6_manyOf 115 = .ok (.ireturn, 1) := by decide +kernel
theorem dX6_manyOf_116 : decode cX6_manyOf 116 = .ok (.iconst (-1), 1) := by decide +kernel
theorem dX6_manyOf_117 : decode cX6_manyOf 117 = .ok (.ireturn, 1) := by decide +kernel
theorem dX6_takesNumber_0 : decode cX6_takesNumber 0 = .ok (.aload_n 0, 1) := by decide +kernel
theorem dX6_takesNumber_1 : decode cX6_takesNumber 1 = .ok (.invokevirtual 165, 3) := by decide +kernel
theorem dX6_takesNumber_4 : decode cX6_takesNumber 4 = .ok (.aload_n 0, 1) := by decide +kernel
theorem dX6_takesNumber_5 : decode cX6_takesNumber 5 = .ok (.getfield 159, 3) := by decide +kernel
theorem dX6_takesNumber_8 : decode cX6_takesNumber 8 = .ok (.istore_n 2, 1) := by decide +kernel
theorem dX6_takesNumber_9 : decode cX6_takesNumber 9 = .ok (.iconst 0, 1) := by decide +kernel
theorem dX6_takesNumber_10 : decode cX6_takesNumber 10 = .ok (.istore_n 3, 1) := by decide +kernel
theorem dX6_takesNumber_11 : decode cX6_takesNumber 11 = .ok (.aload_n 0, 1) := by decide +kernel
theorem dX6_takesNumber_12 : decode cX6_takesNumber 12 = .ok (.getfield 159, 3) := by decide +kernel
theorem dX6_takesNumber_15 : decode cX6_takesNumber 15 = .ok (.iload_n 2, 1) := by decide +kernel
theorem dX6_takesNumber_16 : decode cX6_takesNumber 16 = .ok (.iconst 2, 1) := by decide +kernel
theorem dX6_takesNumber_17 : decode cX6_takesNumber 17 = .ok (.iadd, 1) := by decide +kernel
theorem dX6_takesNumber_18 : decode cX6_takesNumber 18 = .ok (.if_icmp .ge 45, 3) := by decide +kernel
theorem dX6_takesNumber_21 : decode cX6_takesNumber 21 = .ok (.aload_n 0, 1) := by decide +kernel
theorem dX6_takesNumber_22 : decode cX6_takesNumber 22 = .ok (.bipush 48, 2) := by decide +kernel
theorem dX6_takesNumber_24 : decode cX6_takesNumber 24 = .ok (.bipush 57, 2) := by decide +kernel
theorem dX6_takesNumber_26 : decode cX6_takesNumber 26 = .ok (.invokevirtual 162, 3) := by decide +kernel
theorem dX6_takesNumber_29 : decode cX6_takesNumber 29 = .ok (.ifCond .eq 34, 3) := by decide +kernel
theorem dX6_takesNumber_32 : decode cX6_takesNumber 32 = .ok (.bipush 10, 2) := by decide +kernel
theorem dX6_takesNumber_34 : decode cX6_takesNumber 34 = .ok (.iload_n 3, 1) := by decide +kernel
theorem dX6_takesNumber_35 : decode cX6_takesNumber 35 = .ok (.imul, 1) := by decide +kernel
theorem dX6_takesNumber_36 : decode cX6_takesNumber 36 = .ok (.aload_n 0, 1) := by decide +kernel
theorem dX6_takesNumber_37 : decode cX6_takesNumber 37 = .ok (.getfield 45, 3) := by decide +kernel
theorem dX6_takesNumber_40 : decode cX6_takesNumber 40 = .ok (.aload_n 0, 1) := by decide +kernel
theorem dX6_takesNumber_41 : decode cX6_takesNumber 41 = .ok (.getfield 159, 3) := by decide +kernel
theorem dX6_takesNumber_44 : decode cX6_takesNumber 44 = .ok (.iaload, 1) := by decide +kernel
theorem dX6_takesNumber_45 : decode cX6_takesNumber 45 = .ok (.iadd, 1) := by decide +kernel
theorem dX6_takesNumber_46 : decode cX6_takesNumber 46 = .ok (.bipush 48, 2) := by decide +kernel
theorem dX6_takesNumber_48 : decode cX6_takesNumber 48 = .ok (.isub, 1) := by decide +kernel
theorem dX6_takesNumber_49 : decode cX6_takesNumber 49 = .ok (.istore_n 3, 1) := by decide +kernel
theorem dX6_takesNumber_50 : decode cX6_takesNumber 50 = .ok (.aload_n 0, 1) := by decide +kernel
theorem dX6_takesNumber_51 : decode cX6_takesNumber 51 = .ok (.dup, 1) := by decide +kernel
theorem dX6_takesNumber_52 : decode cX6_takesNumber 52 = .ok (.getfield 159, 3) := by decide +kernel
theorem dX6_takesNumber_55 : decode cX6_takesNumber 55 = .ok (.iconst 1, 1) := by decide +kernel
theorem dX6_takesNumber_56 : decode cX6_takesNumber 56 = .ok (.iadd, 1) := by decide +kernel
theorem dX6_takesNumber_57 : decode cX6_takesNumber 57 = .ok (.putfield 159, 3) := by decide +kernel
theorem dX6_takesNumber_60 : decode cX6_takesNumber 60 = .ok (.goto (-49), 3) := by decide +kernel
theorem dX6_takesNumber_63 : decode cX6_takesNumber 63 = .ok (.aload_n 0, 1) := by decide +kernel
theorem dX6_takesNumber_64 : decode cX6_takesNumber 64 = .ok (.getfield 51, 3) := by decide +kernel
theorem dX6_takesNumber_67 : decode cX6_takesNumber 67 = .ok (.iload_n 1, 1) := by decide +kernel
theorem dX6_takesNumber_68 : decode cX6_takesNumber 68 = .ok (.iload_n 3, 1) := by decide +kernel
theorem dX6_takesNumber_69 : decode cX6_takesNumber 69 = .ok (.iastore, 1) := by decide +kernel
theorem dX6_takesNumber_70 : decode cX6_takesNumber 70 = .ok (.aload_n 0, 1) := by decide +kernel
theorem dX6_takesNumber_71 : decode cX6_takesNumber 71 = .ok (.getfield 159, 3) := by decide +kernel
theorem dX6_takesNumber_74 : decode cX6_takesNumber 74 = .ok (.iload_n 2, 1) := by decide +kernel
theorem dX6_takesNumber_75 : decode cX6_takesNumber 75 = .ok (.if_icmp .le 18, 3) := by decide +kernel
theorem dX6_takesNumber_78 : decode cX6_takesNumber 78 = .ok (.aload_n 0, 1) := by decide +kernel
theorem dX6_takesNumber_79 : decode cX6_takesNumber 79 = .ok (.bipush 48, 2) := by decide +kernel
theorem dX6_takesNumber_81 : decode cX6_takesNumber 81 = .ok (.bipush 57, 2) := by decide +kernel
theorem dX6_takesNumber_83 : decode cX6_takesNumber 83 = .ok (.invokevirtual 162, 3) := by decide +kernel
theorem dX6_takesNumber_86 : decode cX6_takesNumber 86 = .ok (.ifCond .ne 7, 3) := by decide +kernel
theorem dX6_takesNumber_89 : decode cX6_takesNumber 89 = .ok (.iconst 1, 1) := by decide +kernel
theorem dX6_takesNumber_90 : decode cX6_takesNumber 90 = .ok (.goto 4, 3) := by decide +kernel
theorem dX6_takesNumber_93 : decode cX6_takesNumber 93 = .ok (.iconst 0, 1) := by decide +kernel
theorem dX6_takesNumber_94 : decode cX6_takesNumber 94 = .ok (.ireturn, 1) := by decide +kernel
theorem dX6_takesCommand_0 : decode cX6_takesCommand 0 = .ok (.aload_n 0, 1) := by decide +kernel
theorem dX6_takesCommand_1 : decode cX6_takesCommand 1 = .ok (.getfield 45, 3) := by decide +kernel
theorem dX6_takesCommand_4 : decode cX6_takesCommand 4 = .ok (.aload_n 0, 1) := by decide +kernel
theorem dX6_takesCommand_5 : decode cX6_takesCommand 5 = .ok (.getfield 159, 3) := by decide +kernel
theorem dX6_takesCommand_8 : decode cX6_takesCommand 8 = .ok (.iaload, 1) := by decide +kernel
theorem dX6_takesCommand_9 : decode cX6_takesCommand 9 = .ok (.invokestatic 168, 3) := by decide +kernel
theorem dX6_takesCommand_12 : decode cX6_takesCommand 12 = .ok (.istore_n 1, 1) := by decide +kernel
theorem dX6_takesCommand_13 : decode cX6_takesCommand 13 = .ok (.iload_n 1, 1) := by decide +kernel
theorem dX6_takesCommand_14 : decode cX6_takesCommand 14 = .ok (.iconst (-1), 1) := by decide +kernel
theorem dX6_takesCommand_15 : decode cX6_takesCommand 15 = .ok (.if_icmp .ne 5, 3) := by decide +kernel
theorem dX6_takesCommand_18 : decode cX6_takesCommand 18 = .ok (.iconst 0, 1) := by decide +kernel
theorem dX6_takesCommand_19 : decode cX6_takesCommand 19 = .ok (.ireturn, 1) := by decide +kernel
theorem dX6_takesCommand_20 : decode cX6_takesCommand 20 = .ok (.aload_n 0, 1) := by decide +kernel
theorem dX6_takesCommand_21 : decode cX6_takesCommand 21 = .ok (.getfield 48, 3) := by decide +kernel
theorem dX6_takesCommand_24 : decode cX6_takesCommand 24 = .ok (.aload_n 0, 1) := by decide +kernel
theorem dX6_takesCommand_25 : decode cX6_takesCommand 25 = .ok (.getfield 171, 3) := by decide +kernel
theorem dX6_takesCommand_28 : decode cX6_takesCommand 28 = .ok (.aload_n 0, 1) := by decide +kernel
theorem dX6_takesCommand_29 : decode cX6_takesCommand 29 = .ok (.getfield 45, 3) := by decide +kernel
theorem dX6_takesCommand_32 : decode cX6_takesCommand 32 = .ok (.aload_n 0, 1) := by decide +kernel
theorem dX6_takesCommand_33 : decode cX6_takesCommand 33 = .ok (.getfield 159, 3) := by decide +kernel
theorem dX6_takesCommand_36 : decode cX6_takesCommand 36 = .ok (.iaload, 1) := by decide +kernel
theorem dX6_takesCommand_37 : decode cX6_takesCommand 37 = .ok (.iastore, 1) := by decide +kernel
theorem dX6_takesCommand_38 : decode cX6_takesCommand 38 = .ok (.aload_n 0, 1) := by decide +kernel
theorem dX6_takesCommand_39 : decode cX6_takesCommand 39 = .ok (.dup, 1) := by decide +kernel
theorem dX6_takesCommand_40 : decode cX6_takesCommand 40 = .ok (.getfield 159, 3) := by decide +kernel
theorem dX6_takesCommand_43 : decode cX6_takesCommand 43 = .ok (.iconst 1, 1) := by decide +kernel
theorem dX6_takesCommand_44 : decode cX6_takesCommand 44 = .ok (.iadd, 1) := by decide +kernel
theorem dX6_takesCommand_45 : decode cX6_takesCommand 45 = .ok (.putfield 159, 3) := by decide +kernel
theorem dX6_takesCommand_48 : decode cX6_takesCommand 48 = .ok (.iconst 0, 1) := by decide +kernel
theorem dX6_takesCommand_49 : decode cX6_takesCommand 49 = .ok (.istore_n 2, 1) := by decide +kernel
theorem dX6_takesCommand_50 : decode cX6_takesCommand 50 = .ok (.iload_n 2, 1) := by decide +kernel
theorem dX6_takesCommand_51 : decode cX6_takesCommand 51 = .ok (.iload_n 1, 1) := by decide +kernel
theorem dX6_takesCommand_52 : decode cX6_takesCommand 52 = .ok (.if_icmp .ge 26, 3) := by decide +kernel
theorem dX6_takesCommand_55 : decode cX6_takesCommand 55 = .ok (.aload_n 0, 1) := by decide +kernel
theorem dX6_takesCommand_56 : decode cX6_takesCommand 56 = .ok (.iconst 3, 1) := by decide +kernel
theorem dX6_takesCommand_57 : decode cX6_takesCommand 57 = .ok (.aload_n 0, 1) := by decide +kernel
theorem dX6_takesCommand_58 : decode cX6_takesCommand 58 = .ok (.getfield 171, 3) := by decide +kernel
theorem dX6_takesCommand_61 : decode cX6_takesCommand 61 = .ok (.imul, 1) := by decide +kernel
theorem dX6_takesCommand_62 : decode cX6_takesCommand 62 = .ok (.iload_n 2, 1) := by decide +kernel
theorem dX6_takesCommand_63 : decode cX6_takesCommand 63 = .ok (.iadd, 1) := by decide +kernel
theorem dX6_takesCommand_64 : decode cX6_takesCommand 64 = .ok (.invokevirtual 174, 3) := by decide +kernel
theorem dX6_takesCommand_67 : decode cX6_takesCommand 67 = .ok (.ifCond .ne 5, 3) := by decide +kernel
theorem dX6_takesCommand_70 : decode cX6_takesCommand 70 = .ok (.iconst 0, 1) := by decide +kernel
theorem dX6_takesCommand_71 : decode cX6_takesCommand 71 = .ok (.ireturn, 1) := by decide +kernel
theorem dX6_takesCommand_72 : decode cX6_takesCommand 72 = .ok (.iinc 2 1, 3) := by decide +kernel
theorem dX6_takesCommand_75 : decode cX6_takesCommand 75 = .ok (.goto (-25), 3) := by decide +kernel
theorem dX6_takesCommand_78 : decode cX6_takesCommand 78 = .ok (.aload_n 0, 1) := by decide +kernel
theorem dX6_takesCommand_79 : decode cX6_takesCommand 79 = .ok (.invokevirtual 165, 3) := by decide +kernel
theorem dX6_takesCommand_82 : decode cX6_takesCommand 82 = .ok (.aload_n 0, 1) := by decide +kernel
theorem dX6_takesCommand_83 : decode cX6_takesCommand 83 = .ok (.bipush 59, 2) := by decide +kernel
theorem dX6_takesCommand_85 : decode cX6_takesCommand 85 = .ok (.bipush 59, 2) := by decide +kernel
theorem dX6_takesCommand_87 : decode cX6_takesCommand 87 = .ok (.invokevirtual 162, 3) := by decide +kernel
theorem dX6_takesCommand_90 : decode cX6_takesCommand 90 = .ok (.ifCond .ne 5, 3) := by decide +kernel
theorem dX6_takesCommand_93 : decode cX6_takesCommand 93 = .ok (.iconst 0, 1) := by decide +kernel
theorem dX6_takesCommand_94 : decode cX6_takesCommand 94 = .ok (.ireturn, 1) := by decide +kernel
theorem dX6_takesCommand_95 : decode cX6_takesCommand 95 = .ok (.aload_n 0, 1) := by decide +kernel
theorem dX6_takesCommand_96 : decode cX6_takesCommand 96 = .ok (.dup, 1) := by decide +kernel
theorem dX6_takesCommand_97 : decode cX6_takesCommand 97 = .ok (.getfield 159, 3) := by decide +kernel
theorem dX6_takesCommand_100 : decode cX6_takesCommand 100 = .ok (.iconst 1, 1) := by decide +kernel
theorem dX6_takesCommand_101 : decode cX6_takesCommand 101 = .ok (.iadd, 1) := by decide +kernel
theorem dX6_takesCommand_102 : decode cX6_takesCommand 102 = .ok (.putfield 159, 3) := by decide +kernel
theorem dX6_takesCommand_105 : decode cX6_takesCommand 105 = .ok (.aload_n 0, 1) := by decide +kernel
theorem dX6_takesCommand_106 : decode cX6_takesCommand 106 = .ok (.dup, 1) := by decide +kernel
theorem dX6_takesCommand_107 : decode cX6_takesCommand 107 = .ok (.getfield 171, 3) := by decide +kernel
theorem dX6_takesCommand_110 : decode cX6_takesCommand 110 = .ok (.iconst 1, 1) := by decide +kernel
theorem dX6_takesCommand_111 : decode cX6_takesCommand 111 = .ok (.iadd, 1) := by decide +kernel
theorem dX6_takesCommand_112 : decode cX6_takesCommand 112 = .ok (.putfield 171, 3) := by decide +kernel
theorem dX6_takesCommand_115 : decode cX6_takesCommand 115 = .ok (.aload_n 0, 1) := by decide +kernel
theorem dX6_takesCommand_116 : decode cX6_takesCommand 116 = .ok (.invokevirtual 165, 3) := by decide +kernel
theorem dX6_takesCommand_119 : decode cX6_takesCommand 119 = .ok (.iconst 1, 1) := by decide +kernel
theorem dX6_takesCommand_120 : decode cX6_takesCommand 120 = .ok (.ireturn, 1) := by decide +kernel
theorem dX6_isRead_0 : decode cX6_isRead 0 = .ok (.aload_n 0, 1) := by decide +kernel
theorem dX6_isRead_1 : decode cX6_isRead 1 = .ok (.iconst 0, 1) := by decide +kernel
theorem dX6_isRead_2 : decode cX6_isRead 2 = .ok (.putfield 159, 3) := by decide +kernel
theorem dX6_isRead_5 : decode cX6_isRead 5 = .ok (.aload_n 0, 1) := by decide +kernel
theorem dX6_isRead_6 : decode cX6_isRead 6 = .ok (.iconst 0, 1) := by decide +kernel
theorem dX6_isRead_7 : decode cX6_isRead 7 = .ok (.putfield 171, 3) := by decide +kernel
theorem dX6_isRead_10 : decode cX6_isRead 10 = .ok (.aload_n 0, 1) := by decide +kernel
theorem dX6_isRead_11 : decode cX6_isRead 11 = .ok (.invokevirtual 165, 3) := by decide +kernel
theorem dX6_isRead_14 : decode cX6_isRead 14 = .ok (.aload_n 0, 1) := by decide +kernel
theorem dX6_isRead_15 : decode cX6_isRead 15 = .ok (.getfield 159, 3) := by decide +kernel
theorem dX6_isRead_18 : decode cX6_isRead 18 = .ok (.aload_n 0, 1) := by decide +kernel
theorem dX6_isRead_19 : decode cX6_isRead 19 = .ok (.getfield 156, 3) := by decide +kernel
theorem dX6_isRead_22 : decode cX6_isRead 22 = .ok (.if_icmp .ge 7, 3) := by decide +kernel
theorem dX6_isRead_25 : decode cX6_isRead 25 = .ok (.iconst 1, 1) := by decide +kernel
theorem dX6_isRead_26 : decode cX6_isRead 26 = .ok (.goto 4, 3) := by decide +kernel
theorem dX6_isRead_29 : decode cX6_isRead 29 = .ok (.iconst 0, 1) := by decide +kernel
theorem dX6_isRead_30 : decode cX6_isRead 30 = .ok (.istore_n 1, 1) := by decide +kernel
theorem dX6_isRead_31 : decode cX6_isRead 31 = .ok (.iload_n 1, 1) := by decide +kernel
theorem dX6_isRead_32 : decode cX6_isRead 32 = .ok (.ifCond .eq 22, 3) := by decide +kernel
theorem dX6_isRead_35 : decode cX6_isRead 35 = .ok (.aload_n 0, 1) := by decide +kernel
theorem dX6_isRead_36 : decode cX6_isRead 36 = .ok (.getfield 159, 3) := by decide +kernel
theorem dX6_isRead_39 : decode cX6_isRead 39 = .ok (.aload_n 0, 1) := by decide +kernel
theorem dX6_isRead_40 : decode cX6_isRead 40 = .ok (.getfield 156, 3) := by decide +kernel
theorem dX6_isRead_43 : decode cX6_isRead 43 = .ok (.if_icmp .ge 11, 3) := by decide +kernel
theorem dX6_isRead_46 : decode cX6_isRead 46 = .ok (.aload_n 0, 1) := by decide +kernel
theorem dX6_isRead_47 : decode cX6_isRead 47 = .ok (.invokevirtual 177, 3) := by decide +kernel
theorem dX6_isRead_50 : decode cX6_isRead 50 = .ok (.istore_n 1, 1) := by decide +kernel
theorem dX6_isRead_51 : decode cX6_isRead 51 = .ok (.goto (-20), 3) := by decide +kernel
theorem dX6_isRead_54 : decode cX6_isRead 54 = .ok (.iload_n 1, 1) := by decide +kernel
theorem dX6_isRead_55 : decode cX6_isRead 55 = .ok (.ireturn, 1) := by decide +kernel
theorem dX6_execute_0 : decode cX6_execute 0 = .ok (.aload_n 0, 1) := by decide +kernel
theorem dX6_execute_1 : decode cX6_execute 1 = .ok (.getfield 51, 3) := by decide +kernel
theorem dX6_execute_4 : decode cX6_execute 4 = .ok (.iconst 3, 1) := by decide +kernel
theorem dX6_execute_5 : decode cX6_execute 5 = .ok (.iload_n 1, 1) := by decide +kernel
theorem dX6_execute_6 : decode cX6_execute 6 = .ok (.imul, 1) := by decide +kernel
theorem dX6_execute_7 : decode cX6_execute 7 = .ok (.iaload, 1) := by decide +kernel
theorem dX6_execute_8 : decode cX6_execute 8 = .ok (.istore_n 2, 1) := by decide +kernel
theorem dX6_execute_9 : decode cX6_execute 9 = .ok (.aload_n 0, 1) := by decide +kernel
theorem dX6_execute_10 : decode cX6_execute 10 = .ok (.getfield 51, 3) := by decide +kernel
theorem dX6_execute_13 : decode cX6_execute 13 = .ok (.iconst 3, 1) := by decide +kernel
theorem dX6_execute_14 : decode cX6_execute 14 = .ok (.iload_n 1, 1) := by decide +kernel
theorem dX6_execute_15 : decode cX6_execute 15 = .ok (.imul, 1) := by decide +kernel
theorem dX6_execute_16 : decode cX6_execute 16 = .ok (.iconst 1, 1) := by decide +kernel
theorem dX6_execute_17 : decode cX6_execute 17 = .ok (.iadd, 1) := by decide +kernel
theorem dX6_execute_18 : decode cX6_execute 18 = .ok (.iaload, 1) := by decide +kernel
theorem dX6_execute_19 : decode cX6_execute 19 = .ok (.istore_n 3, 1) := by decide +kernel
theorem dX6_execute_20 : decode cX6_execute 20 = .ok (.aload_n 0, 1) := by decide +kernel
theorem dX6_execute_21 : decode cX6_execute 21 = .ok (.getfield 51, 3) := by decide +kernel
theorem dX6_execute_24 : decode cX6_execute 24 = .ok (.iconst 3, 1) := by decide +kernel
theorem dX6_execute_25 : decode cX6_execute 25 = .ok (.iload_n 1, 1) := by decide +kernel
theorem dX6_execute_26 : decode cX6_execute 26 = .ok (.imul, 1) := by decide +kernel
theorem dX6_execute_27 : decode cX6_execute 27 = .ok (.iconst 2, 1) := by decide +kernel
theorem dX6_execute_28 : decode cX6_execute 28 = .ok (.iadd, 1) := by decide +kernel
theorem dX6_execute_29 : decode cX6_execute 29 = .ok (.iaload, 1) := by decide +kernel
theorem dX6_execute_30 : decode cX6_execute 30 = .ok (.istore 4, 2) := by decide +kernel
theorem dX6_execute_32 : decode cX6_execute 32 = .ok (.aload_n 0, 1) := by decide +kernel
theorem dX6_execute_33 : decode cX6_execute 33 = .ok (.getfield 48, 3) := by decide +kernel
theorem dX6_execute_36 : decode cX6_execute 36 = .ok (.iload_n 1, 1) := by decide +kernel
theorem dX6_execute_37 : decode cX6_execute 37 = .ok (.iaload, 1) := by decide +kernel
theorem dX6_execute_38 : decode cX6_execute 38 = .ok (.tableswitch 172 97 119 #[106, 172, 172, 172, 167, 161, 172, 172, 172, 172, 172, 172, 128, 172, 172, 150, 172, 112, 139, 172, 172, 172, 119], 106) := by decide +kernel
theorem dX6_execute_144 : decode cX6_execute 144 = .ok (.aload_n 0, 1) := by decide +kernel
theorem dX6_execute_145 : decode cX6_execute 145 = .ok (.iload_n 2, 1) := by decide +kernel
theorem dX6_execute_146 : decode cX6_execute 146 = .ok (.invokevirtual 181, 3) := by decide +kernel
theorem dX6_execute_149 : decode cX6_execute 149 = .ok (.ireturn, 1) := by decide +kernel
theorem dX6_execute_150 : decode cX6_execute 150 = .ok (.aload_n 0, 1) := by decide +kernel
theorem dX6_execute_151 : decode cX6_execute 151 = .ok (.iload_n 2, 1) := by decide +kernel
theorem dX6_execute_152 : decode cX6_execute 152 = .ok (.iload_n 3, 1) := by decide +kernel
theorem dX6_execute_153 : decode cX6_execute 153 = .ok (.invokevirtual 184, 3) := by decide +kernel
theorem dX6_execute_156 : decode cX6_execute 156 = .ok (.ireturn, 1) := by decide +kernel
theorem dX6_execute_157 : decode cX6_execute 157 = .ok (.aload_n 0, 1) := by decide +kernel
theorem dX6_execute_158 : decode cX6_execute 158 = .ok (.iload_n 2, 1) := by decide +kernel
theorem dX6_execute_159 : decode cX6_execute 159 = .ok (.iload_n 3, 1) := by decide +kernel
theorem dX6_execute_160 : decode cX6_execute 160 = .ok (.iload 4, 2) := by decide +kernel
theorem dX6_execute_162 : decode cX6_execute 162 = .ok (.invokevirtual 187, 3) := by decide +kernel
theorem dX6_execute_165 : decode cX6_execute 165 = .ok (.ireturn, 1) := by decide +kernel
theorem dX6_execute_166 : decode cX6_execute 166 = .ok (.aload_n 0, 1) := by decide +kernel
theorem dX6_execute_167 : decode cX6_execute 167 = .ok (.iload_n 2, 1) := by decide +kernel
theorem dX6_execute_168 : decode cX6_execute 168 = .ok (.iconst 0, 1) := by decide +kernel
theorem dX6_execute_169 : decode cX6_execute 169 = .ok (.iload_n 3, 1) := by decide +kernel
theorem dX6_execute_170 : decode cX6_execute 170 = .ok (.iload 4, 2) := by decide +kernel
theorem dX6_execute_172 : decode cX6_execute 172 = .ok (.iconst 0, 1) := by decide +kernel
theorem dX6_execute_173 : decode cX6_execute 173 = .ok (.invokevirtual 190, 3) := by decide +kernel
theorem dX6_execute_176 : decode cX6_execute 176 = .ok (.ireturn, 1) := by decide +kernel
theorem dX6_execute_177 : decode cX6_execute 177 = .ok (.aload_n 0, 1) := by decide +kernel
theorem dX6_execute_178 : decode cX6_execute 178 = .ok (.iload_n 2, 1) := by decide +kernel
theorem dX6_execute_179 : decode cX6_execute 179 = .ok (.iconst 1, 1) := by decide +kernel
theorem dX6_execute_180 : decode cX6_execute 180 = .ok (.iload_n 3, 1) := by decide +kernel
theorem dX6_execute_181 : decode cX6_execute 181 = .ok (.iload 4, 2) := by decide +kernel
theorem dX6_execute_183 : decode cX6_execute 183 = .ok (.iconst 0, 1) := by decide +kernel
theorem dX6_execute_184 : decode cX6_execute 184 = .ok (.invokevirtual 190, 3) := by decide +kernel
theorem dX6_execute_187 : decode cX6_execute 187 = .ok (.ireturn, 1) := by decide +kernel
theorem dX6_execute_188 : decode cX6_execute 188 = .ok (.aload_n 0, 1) := by decide +kernel
theorem dX6_execute_189 : decode cX6_execute 189 = .ok (.iload_n 2, 1) := by decide +kernel
theorem dX6_execute_190 : decode cX6_execute 190 = .ok (.iconst 2, 1) := by decide +kernel
theorem dX6_execute_191 : decode cX6_execute 191 = .ok (.iload_n 3, 1) := by decide +kernel
theorem dX6_execute_192 : decode cX6_execute 192 = .ok (.iload 4, 2) := by decide +kernel
theorem dX6_execute_194 : decode cX6_execute 194 = .ok (.iconst 0, 1) := by decide +kernel
theorem dX6_execute_195 : decode cX6_execute 195 = .ok (.invokevirtual 190, 3) := by decide +kernel
theorem dX6_execute_198 : decode cX6_execute 198 = .ok (.ireturn, 1) := by decide +kernel
theorem dX6_execute_199 : decode cX6_execute 199 = .ok (.aload_n 0, 1) := by decide +kernel
theorem dX6_execute_200 : decode cX6_execute 200 = .ok (.iload_n 2, 1) := by decide +kernel
theorem dX6_execute_201 : decode cX6_execute 201 = .ok (.invokevirtual 194, 3) := by decide +kernel
theorem dX6_execute_204 : decode cX6_execute 204 = .ok (.ireturn, 1) := by decide +kernel
theorem dX6_execute_205 : decode cX6_execute 205 = .ok (.aload_n 0, 1) := by decide +kernel
theorem dX6_execute_206 : decode cX6_execute 206 = .ok (.invokevirtual 197, 3) := by decide +kernel
theorem dX6_execute_209 : decode cX6_execute 209 = .ok (.ireturn, 1) := by decide +kernel
theorem dX6_execute_210 : decode cX6_execute 210 = .ok (.aload_n 0, 1) := by decide +kernel
theorem dX6_execute_211 : decode cX6_execute 211 = .ok (.invokevirtual 201, 3) := by decide +kernel
theorem dX6_execute_214 : decode cX6_execute 214 = .ok (.ireturn, 1) := by decide +kernel
theorem dX6_executeAll_0 : decode cX6_executeAll 0 = .ok (.iconst 0, 1) := by decide +kernel
theorem dX6_executeAll_1 : decode cX6_executeAll 1 = .ok (.istore_n 1, 1) := by decide +kernel
theorem dX6_executeAll_2 : decode cX6_executeAll 2 = .ok (.iload_n 1, 1) := by decide +kernel
theorem dX6_executeAll_3 : decode cX6_executeAll 3 = .ok (.aload_n 0, 1) := by decide +kernel
theorem dX6_executeAll_4 : decode cX6_executeAll 4 = .ok (.getfield 171, 3) := by decide +kernel
theorem dX6_executeAll_7 : decode cX6_executeAll 7 = .ok (.if_icmp .ge 25, 3) := by decide +kernel
theorem dX6_executeAll_10 : decode cX6_executeAll 10 = .ok (.aload_n 0, 1) := by decide +kernel
theorem dX6_executeAll_11 : decode cX6_executeAll 11 = .ok (.iload_n 1, 1) := by decide +kernel
theorem dX6_executeAll_12 : decode cX6_executeAll 12 = .ok (.invokevirtual 204, 3) := by decide +kernel
theorem dX6_executeAll_15 : decode cX6_executeAll 15 = .ok (.bipush (-2), 2) := by decide +kernel
theorem dX6_executeAll_17 : decode cX6_executeAll 17 = .ok (.if_icmp .gt 9, 3) := by decide +kernel
theorem dX6_executeAll_20 : decode cX6_executeAll 20 = .ok (.sipush (-1000), 3) := by decide +kernel
theorem dX6_executeAll_23 : decode cX6_executeAll 23 = .ok (.iload_n 1, 1) := by decide +kernel
theorem dX6_executeAll_24 : decode cX6_executeAll 24 = .ok (.isub, 1) := by decide +kernel
theorem dX6_executeAll_25 : decode cX6_executeAll 25 = .ok (.ireturn, 1) := by decide +kernel
theorem dX6_executeAll_26 : decode cX6_executeAll 26 = .ok (.iinc 1 1, 3) := by decide +kernel
theorem dX6_executeAll_29 : decode cX6_executeAll 29 = .ok (.goto (-27), 3) := by decide +kernel
theorem dX6_executeAll_32 : decode cX6_executeAll 32 = .ok (.aload_n 0, 1) := by decide +kernel
theorem dX6_executeAll_33 : decode cX6_executeAll 33 = .ok (.getfield 171, 3) := by decide +kernel
theorem dX6_executeAll_36 : decode cX6_executeAll 36 = .ok (.ireturn, 1) := by decide +kernel
theorem dX6_runScript_0 : decode cX6_runScript 0 = .ok (.aload_n 0, 1) := by decide +kernel
theorem dX6_runScript_1 : decode cX6_runScript 1 = .ok (.invokevirtual 207, 3) := by decide +kernel
theorem dX6_runScript_4 : decode cX6_runScript 4 = .ok (.ifCond .ne 11, 3) := by decide +kernel
theorem dX6_runScript_7 : decode cX6_runScript 7 = .ok (.bipush (-10), 2) := by decide +kernel
theorem dX6_runScript_9 : decode cX6_runScript 9 = .ok (.aload_n 0, 1) := by decide +kernel
theorem dX6_runScript_10 : decode cX6_runScript 10 = .ok (.getfield 159, 3) := by decide +kernel
theorem dX6_runScript_13 : decode cX6_runScript 13 = .ok (.isub, 1) := by decide +kernel
theorem dX6_runScript_14 : decode cX6_runScript 14 = .ok (.ireturn, 1) := by decide +kernel
theorem dX6_runScript_15 : decode cX6_runScript 15 = .ok (.aload_n 0, 1) := by decide +kernel
theorem dX6_runScript_16 : decode cX6_runScript 16 = .ok (.iconst 1, 1) := by decide +kernel
theorem dX6_runScript_17 : decode cX6_runScript 17 = .ok (.putfield 54, 3) := by decide +kernel
theorem dX6_runScript_20 : decode cX6_runScript 20 = .ok (.aload_n 0, 1) := by decide +kernel
theorem dX6_runScript_21 : decode cX6_runScript 21 = .ok (.invokevirtual 210, 3) := by decide +kernel
theorem dX6_runScript_24 : decode cX6_runScript 24 = .ok (.istore_n 1, 1) := by decide +kernel
theorem dX6_runScript_25 : decode cX6_runScript 25 = .ok (.aload_n 0, 1) := by decide +kernel
theorem dX6_runScript_26 : decode cX6_runScript 26 = .ok (.iconst 0, 1) := by decide +kernel
theorem dX6_runScript_27 : decode cX6_runScript 27 = .ok (.putfield 54, 3) := by decide +kernel
theorem dX6_runScript_30 : decode cX6_runScript 30 = .ok (.iload_n 1, 1) := by decide +kernel
theorem dX6_runScript_31 : decode cX6_runScript 31 = .ok (.ireturn, 1) := by decide +kernel
theorem dX6_mix_0 : decode cX6_mix 0 = .ok (.aload_n 0, 1) := by decide +kernel
theorem dX6_mix_1 : decode cX6_mix 1 = .ok (.ldc2_w 213, 3) := by decide +kernel
theorem dX6_mix_4 : decode cX6_mix 4 = .ok (.aload_n 0, 1) := by decide +kernel
theorem dX6_mix_5 : decode cX6_mix 5 = .ok (.getfield 215, 3) := by decide +kernel
theorem dX6_mix_8 : decode cX6_mix 8 = .ok (.lmul, 1) := by decide +kernel
theorem dX6_mix_9 : decode cX6_mix 9 = .ok (.lload_n 1, 1) := by decide +kernel
theorem dX6_mix_10 : decode cX6_mix 10 = .ok (.ladd, 1) := by decide +kernel
theorem dX6_mix_11 : decode cX6_mix 11 = .ok (.putfield 215, 3) := by decide +kernel
theorem dX6_mix_14 : decode cX6_mix 14 = .ok (.return_, 1) := by decide +kernel
theorem dX6_mixCell_0 : decode cX6_mixCell 0 = .ok (.aload_n 0, 1) := by decide +kernel
theorem dX6_mixCell_1 : decode cX6_mixCell 1 = .ok (.aload_n 0, 1) := by decide +kernel
theorem dX6_mixCell_2 : decode cX6_mixCell 2 = .ok (.getfield 17, 3) := by decide +kernel
theorem dX6_mixCell_5 : decode cX6_mixCell 5 = .ok (.iload_n 1, 1) := by decide +kernel
theorem dX6_mixCell_6 : decode cX6_mixCell 6 = .ok (.iaload, 1) := by decide +kernel
theorem dX6_mixCell_7 : decode cX6_mixCell 7 = .ok (.i2l, 1) := by decide +kernel
theorem dX6_mixCell_8 : decode cX6_mixCell 8 = .ok (.invokevirtual 219, 3) := by decide +kernel
theorem dX6_mixCell_11 : decode cX6_mixCell 11 = .ok (.aload_n 0, 1) := by decide +kernel
theorem dX6_mixCell_12 : decode cX6_mixCell 12 = .ok (.aload_n 0, 1) := by decide +kernel
theorem dX6_mixCell_13 : decode cX6_mixCell 13 = .ok (.getfield 20, 3) := by decide +kernel
theorem dX6_mixCell_16 : decode cX6_mixCell 16 = .ok (.iload_n 1, 1) := by decide +kernel
theorem dX6_mixCell_17 : decode cX6_mixCell 17 = .ok (.iaload, 1) := by decide +kernel
theorem dX6_mixCell_18 : decode cX6_mixCell 18 = .ok (.i2l, 1) := by decide +kernel
theorem dX6_mixCell_19 : decode cX6_mixCell 19 = .ok (.invokevirtual 219, 3) := by decide +kernel
theorem dX6_mixCell_22 : decode cX6_mixCell 22 = .ok (.bipush 12, 2) := by decide +kernel
theorem dX6_mixCell_24 : decode cX6_mixCell 24 = .ok (.iload_n 1, 1) := by decide +kernel
theorem dX6_mixCell_25 : decode cX6_mixCell 25 = .ok (.imul, 1) := by decide +kernel
theorem dX6_mixCell_26 : decode cX6_mixCell 26 = .ok (.istore_n 2, 1) := by decide +kernel
theorem dX6_mixCell_27 : decode cX6_mixCell 27 = .ok (.iload_n 2, 1) := by decide +kernel
theorem dX6_mixCell_28 : decode cX6_mixCell 28 = .ok (.bipush 12, 2) := by decide +kernel
theorem dX6_mixCell_30 : decode cX6_mixCell 30 = .ok (.iload_n 1, 1) := by decide +kernel
theorem dX6_mixCell_31 : decode cX6_mixCell 31 = .ok (.imul, 1) := by decide +kernel
theorem dX6_mixCell_32 : decode cX6_mixCell 32 = .ok (.aload_n 0, 1) := by decide +kernel
theorem dX6_mixCell_33 : decode cX6_mixCell 33 = .ok (.getfield 20, 3) := by decide +kernel
theorem dX6_mixCell_36 : decode cX6_mixCell 36 = .ok (.iload_n 1, 1) := by decide +kernel
theorem dX6_mixCell_37 : decode cX6_mixCell 37 = .ok (.iaload, 1) := by decide +kernel
theorem dX6_mixCell_38 : decode cX6_mixCell 38 = .ok (.iadd, 1) := by decide +kernel
theorem dX6_mixCell_39 : decode cX6_mixCell 39 = .ok (.if_icmp .ge 49, 3) := by decide +kernel
theorem dX6_mixCell_42 : decode cX6_mixCell 42 = .ok (.aload_n 0, 1) := by decide +kernel
theorem dX6_mixCell_43 : decode cX6_mixCell 43 = .ok (.aload_n 0, 1) := by decide +kernel
theorem dX6_mixCell_44 : decode cX6_mixCell 44 = .ok (.getfield 23, 3) := by decide +kernel
theorem dX6_mixCell_47 : decode cX6_mixCell 47 = .ok (.iload_n 2, 1) := by decide +kernel
theorem dX6_mixCell_48 : decode cX6_mixCell 48 = .ok (.iaload, 1) := by decide +kernel
theorem dX6_mixCell_49 : decode cX6_mixCell 49 = .ok (.i2l, 1) := by decide +kernel
theorem dX6_mixCell_50 : decode cX6_mixCell 50 = .ok (.invokevirtual 219, 3) := by decide +kernel
theorem dX6_mixCell_53 : decode cX6_mixCell 53 = .ok (.aload_n 0, 1) := by decide +kernel
theorem dX6_mixCell_54 : decode cX6_mixCell 54 = .ok (.aload_n 0, 1) := by decide +kernel
theorem dX6_mixCell_55 : decode cX6_mixCell 55 = .ok (.getfield 26, 3) := by decide +kernel
theorem dX6_mixCell_58 : decode cX6_mixCell 58 = .ok (.iload_n 2, 1) := by decide +kernel
theorem dX6_mixCell_59 : decode cX6_mixCell 59 = .ok (.iaload, 1) := by decide +kernel
theorem dX6_mixCell_60 : decode cX6_mixCell 60 = .ok (.i2l, 1) := by decide +kernel
theorem dX6_mixCell_61 : decode cX6_mixCell 61 = .ok (.invokevirtual 219, 3) := by decide +kernel
theorem dX6_mixCell_64 : decode cX6_mixCell 64 = .ok (.aload_n 0, 1) := by decide +kernel
theorem dX6_mixCell_65 : decode cX6_mixCell 65 = .ok (.aload_n 0, 1) := by decide +kernel
theorem dX6_mixCell_66 : decode cX6_mixCell 66 = .ok (.getfield 29, 3) := by decide +kernel
theorem dX6_mixCell_69 : decode cX6_mixCell 69 = .ok (.iload_n 2, 1) := by decide +kernel
theorem dX6_mixCell_70 : decode cX6_mixCell 70 = .ok (.iaload, 1) := by decide +kernel
theorem dX6_mixCell_71 : decode cX6_mixCell 71 = .ok (.ifCond .le 7, 3) := by decide +kernel
theorem dX6_mixCell_74 : decode cX6_mixCell 74 = .ok (.lconst 1, 1) := by decide +kernel
theorem dX6_mixCell_75 : decode cX6_mixCell 75 = .ok (.goto 4, 3) := by decide +kernel
theorem dX6_mixCell_78 : decode cX6_mixCell 78 = .ok (.lconst 0, 1) := by decide +kernel
theorem dX6_mixCell_79 : decode cX6_mixCell 79 = .ok (.invokevirtual 219, 3) := by decide +kernel
theorem dX6_mixCell_82 : decode cX6_mixCell 82 = .ok (.iinc 2 1, 3) := by decide +kernel
theorem dX6_mixCell_85 : decode cX6_mixCell 85 = .ok (.goto (-58), 3) := by decide +kernel
theorem dX6_mixCell_88 : decode cX6_mixCell 88 = .ok (.return_, 1) := by decide +kernel
theorem dX6_digest_0 : decode cX6_digest 0 = .ok (.aload_n 0, 1) := by decide +kernel
theorem dX6_digest_1 : decode cX6_digest 1 = .ok (.ldc2_w 223, 3) := by decide +kernel
theorem dX6_digest_4 : decode cX6_digest 4 = .ok (.putfield 215, 3) := by decide +kernel
theorem dX6_digest_7 : decode cX6_digest 7 = .ok (.iconst 0, 1) := by decide +kernel
theorem dX6_digest_8 : decode cX6_digest 8 = .ok (.istore_n 1, 1) := by decide +kernel
theorem dX6_digest_9 : decode cX6_digest 9 = .ok (.iload_n 1, 1) := by decide +kernel
theorem dX6_digest_10 : decode cX6_digest 10 = .ok (.iconst 3, 1) := by decide +kernel
theorem dX6_digest_11 : decode cX6_digest 11 = .ok (.if_icmp .ge 20, 3) := by decide +kernel
theorem dX6_digest_14 : decode cX6_digest 14 = .ok (.aload_n 0, 1) := by decide +kernel
theorem dX6_digest_15 : decode cX6_digest 15 = .ok (.aload_n 0, 1) := by decide +kernel
theorem dX6_digest_16 : decode cX6_digest 16 = .ok (.getfield 42, 3) := by decide +kernel
theorem dX6_digest_19 : decode cX6_digest 19 = .ok (.iload_n 1, 1) := by decide +kernel
theorem dX6_digest_20 : decode cX6_digest 20 = .ok (.iaload, 1) := by decide +kernel
theorem dX6_digest_21 : decode cX6_digest 21 = .ok (.i2l, 1) := by decide +kernel
theorem dX6_digest_22 : decode cX6_digest 22 = .ok (.invokevirtual 219, 3) := by decide +kernel
theorem dX6_digest_25 : decode cX6_digest 25 = .ok (.iinc 1 1, 3) := by decide +kernel
theorem dX6_digest_28 : decode cX6_digest 28 = .ok (.goto (-19), 3) := by decide +kernel
theorem dX6_digest_31 : decode cX6_digest 31 = .ok (.aload_n 0, 1) := by decide +kernel
theorem dX6_digest_32 : decode cX6_digest 32 = .ok (.aload_n 0, 1) := by decide +kernel
theorem dX6_digest_33 : decode cX6_digest 33 = .ok (.getfield 156, 3) := by decide +kernel
theorem dX6_digest_36 : decode cX6_digest 36 = .ok (.i2l, 1) := by decide +kernel
theorem dX6_digest_37 : decode cX6_digest 37 = .ok (.invokevirtual 219, 3) := by decide +kernel
theorem dX6_digest_40 : decode cX6_digest 40 = .ok (.aload_n 0, 1) := by decide +kernel
theorem dX6_digest_41 : decode cX6_digest 41 = .ok (.aload_n 0, 1) := by decide +kernel
theorem dX6_digest_42 : decode cX6_digest 42 = .ok (.getfield 58, 3) := by decide +kernel
theorem dX6_digest_45 : decode cX6_digest 45 = .ok (.i2l, 1) := by decide +kernel
theorem dX6_digest_46 : decode cX6_digest 46 = .ok (.invokevirtual 219, 3) := by decide +kernel
theorem dX6_digest_49 : decode cX6_digest 49 = .ok (.aload_n 0, 1) := by decide +kernel
theorem dX6_digest_50 : decode cX6_digest 50 = .ok (.aload_n 0, 1) := by decide +kernel
theorem dX6_digest_51 : decode cX6_digest 51 = .ok (.getfield 61, 3) := by decide +kernel
theorem dX6_digest_54 : decode cX6_digest 54 = .ok (.i2l, 1) := by decide +kernel
theorem dX6_digest_55 : decode cX6_digest 55 = .ok (.invokevirtual 219, 3) := by decide +kernel
theorem dX6_digest_58 : decode cX6_digest 58 = .ok (.aload_n 0, 1) := by decide +kernel
theorem dX6_digest_59 : decode cX6_digest 59 = .ok (.aload_n 0, 1) := by decide +kernel
theorem dX6_digest_60 : decode cX6_digest 60 = .ok (.getfield 38, 3) := by decide +kernel
theorem dX6_digest_63 : decode cX6_digest 63 = .ok (.i2l, 1) := by decide +kernel
theorem dX6_digest_64 : decode cX6_digest 64 = .ok (.invokevirtual 219, 3) := by decide +kernel
theorem dX6_digest_67 : decode cX6_digest 67 = .ok (.aload_n 0, 1) := by decide +kernel
theorem dX6_digest_68 : decode cX6_digest 68 = .ok (.aload_n 0, 1) := by decide +kernel
theorem dX6_digest_69 : decode cX6_digest 69 = .ok (.getfield 127, 3) := by decide +kernel
theorem dX6_digest_72 : decode cX6_digest 72 = .ok (.i2l, 1) := by decide +kernel
theorem dX6_digest_73 : decode cX6_digest 73 = .ok (.invokevirtual 219, 3) := by decide +kernel
theorem dX6_digest_76 : decode cX6_digest 76 = .ok (.aload_n 0, 1) := by decide +kernel
theorem dX6_digest_77 : decode cX6_digest 77 = .ok (.aload_n 0, 1) := by decide +kernel
theorem dX6_digest_78 : decode cX6_digest 78 = .ok (.getfield 97, 3) := by decide +kernel
theorem dX6_digest_81 : decode cX6_digest 81 = .ok (.i2l, 1) := by decide +kernel
theorem dX6_digest_82 : decode cX6_digest 82 = .ok (.invokevirtual 219, 3) := by decide +kernel
theorem dX6_digest_85 : decode cX6_digest 85 = .ok (.iconst 0, 1) := by decide +kernel
theorem dX6_digest_86 : decode cX6_digest 86 = .ok (.istore_n 1, 1) := by decide +kernel
theorem dX6_digest_87 : decode cX6_digest 87 = .ok (.iload_n 1, 1) := by decide +kernel
theorem dX6_digest_88 : decode cX6_digest 88 = .ok (.aload_n 0, 1) := by decide +kernel
theorem dX6_digest_89 : decode cX6_digest 89 = .ok (.getfield 97, 3) := by decide +kernel
theorem dX6_digest_92 : decode cX6_digest 92 = .ok (.if_icmp .ge 66, 3) := by decide +kernel
theorem dX6_digest_95 : decode cX6_digest 95 = .ok (.aload_n 0, 1) := by decide +kernel
theorem dX6_digest_96 : decode cX6_digest 96 = .ok (.aload_n 0, 1) := by decide +kernel
theorem dX6_digest_97 : decode cX6_digest 97 = .ok (.getfield 7, 3) := by decide +kernel
theorem dX6_digest_100 : decode cX6_digest 100 = .ok (.iload_n 1, 1) := by decide +kernel
theorem dX6_digest_101 : decode cX6_digest 101 = .ok (.iaload, 1) := by decide +kernel
theorem dX6_digest_102 : decode cX6_digest 102 = .ok (.i2l, 1) := by decide +kernel
theorem dX6_digest_103 : decode cX6_digest 103 = .ok (.invokevirtual 219, 3) := by decide +kernel
theorem dX6_digest_106 : decode cX6_digest 106 = .ok (.aload_n 0, 1) := by decide +kernel
theorem dX6_digest_107 : decode cX6_digest 107 = .ok (.aload_n 0, 1) := by decide +kernel
theorem dX6_digest_108 : decode cX6_digest 108 = .ok (.getfield 13, 3) := by decide +kernel
theorem dX6_digest_111 : decode cX6_digest 111 = .ok (.iload_n 1, 1) := by decide +kernel
theorem dX6_digest_112 : decode cX6_digest 112 = .ok (.baload, 1) := by decide +kernel
theorem dX6_digest_113 : decode cX6_digest 113 = .ok (.ifCond .eq 7, 3) := by decide +kernel
theorem dX6_digest_116 : decode cX6_digest 116 = .ok (.lconst 1, 1) := by decide +kernel
theorem dX6_digest_117 : decode cX6_digest 117 = .ok (.goto 4, 3) := by decide +kernel
theorem dX6_digest_120 : decode cX6_digest 120 = .ok (.lconst 0, 1) := by decide +kernel
theorem dX6_digest_121 : decode cX6_digest 121 = .ok (.invokevirtual 219, 3) := by decide +kernel
theorem dX6_digest_124 : decode cX6_digest 124 = .ok (.iconst 0, 1) := by decide +kernel
theorem dX6_digest_125 : decode cX6_digest 125 = .ok (.istore_n 2, 1) := by decide +kernel
theorem dX6_digest_126 : decode cX6_digest 126 = .ok (.iload_n 2, 1) := by decide +kernel
theorem dX6_digest_127 : decode cX6_digest 127 = .ok (.aload_n 0, 1) := by decide +kernel
theorem dX6_digest_128 : decode cX6_digest 128 = .ok (.getfield 7, 3) := by decide +kernel
theorem dX6_digest_131 : decode cX6_digest 131 = .ok (.iload_n 1, 1) := by decide +kernel
theorem dX6_digest_132 : decode cX6_digest 132 = .ok (.iaload, 1) := by decide +kernel
theorem dX6_digest_133 : decode cX6_digest 133 = .ok (.if_icmp .ge 19, 3) := by decide +kernel
theorem dX6_digest_136 : decode cX6_digest 136 = .ok (.aload_n 0, 1) := by decide +kernel
theorem dX6_digest_137 : decode cX6_digest 137 = .ok (.bipush 8, 2) := by decide +kernel
theorem dX6_digest_139 : decode cX6_digest 139 = .ok (.iload_n 1, 1) := by decide +kernel
theorem dX6_digest_140 : decode cX6_digest 140 = .ok (.imul, 1) := by decide +kernel
theorem dX6_digest_141 : decode cX6_digest 141 = .ok (.iload_n 2, 1) := by decide +kernel
theorem dX6_digest_142 : decode cX6_digest 142 = .ok (.iadd, 1) := by decide +kernel
theorem dX6_digest_143 : decode cX6_digest 143 = .ok (.invokevirtual 225, 3) := by decide +kernel
theorem dX6_digest_146 : decode cX6_digest 146 = .ok (.iinc 2 1, 3) := by decide +kernel
theorem dX6_digest_149 : decode cX6_digest 149 = .ok (.goto (-23), 3) := by decide +kernel
theorem dX6_digest_152 : decode cX6_digest 152 = .ok (.iinc 1 1, 3) := by decide +kernel
theorem dX6_digest_155 : decode cX6_digest 155 = .ok (.goto (-68), 3) := by decide +kernel
theorem dX6_digest_158 : decode cX6_digest 158 = .ok (.aload_n 0, 1) := by decide +kernel
theorem dX6_digest_159 : decode cX6_digest 159 = .ok (.aload_n 0, 1) := by decide +kernel
theorem dX6_digest_160 : decode cX6_digest 160 = .ok (.getfield 64, 3) := by decide +kernel
theorem dX6_digest_163 : decode cX6_digest 163 = .ok (.i2l, 1) := by decide +kernel
theorem dX6_digest_164 : decode cX6_digest 164 = .ok (.invokevirtual 219, 3) := by decide +kernel
theorem dX6_digest_167 : decode cX6_digest 167 = .ok (.iconst 0, 1) := by decide +kernel
theorem dX6_digest_168 : decode cX6_digest 168 = .ok (.istore_n 1, 1) := by decide +kernel
theorem dX6_digest_169 : decode cX6_digest 169 = .ok (.iload_n 1, 1) := by decide +kernel
theorem dX6_digest_170 : decode cX6_digest 170 = .ok (.aload_n 0, 1) := by decide +kernel
theorem dX6_digest_171 : decode cX6_digest 171 = .ok (.getfield 64, 3) := by decide +kernel
theorem dX6_digest_174 : decode cX6_digest 174 = .ok (.if_icmp .ge 41, 3) := by decide +kernel
theorem dX6_digest_177 : decode cX6_digest 177 = .ok (.aload_n 0, 1) := by decide +kernel
theorem dX6_digest_178 : decode cX6_digest 178 = .ok (.aload_n 0, 1) := by decide +kernel
theorem dX6_digest_179 : decode cX6_digest 179 = .ok (.getfield 32, 3) := by decide +kernel
theorem dX6_digest_182 : decode cX6_digest 182 = .ok (.iload_n 1, 1) := by decide +kernel
theorem dX6_digest_183 : decode cX6_digest 183 = .ok (.iaload, 1) := by decide +kernel
theorem dX6_digest_184 : decode cX6_digest 184 = .ok (.i2l, 1) := by decide +kernel
theorem dX6_digest_185 : decode cX6_digest 185 = .ok (.invokevirtual 219, 3) := by decide +kernel
theorem dX6_digest_188 : decode cX6_digest 188 = .ok (.aload_n 0, 1) := by decide +kernel
theorem dX6_digest_189 : decode cX6_digest 189 = .ok (.aload_n 0, 1) := by decide +kernel
theorem dX6_digest_190 : decode cX6_digest 190 = .ok (.getfield 35, 3) := by decide +kernel
theorem dX6_digest_193 : decode cX6_digest 193 = .ok (.iload_n 1, 1) := by decide +kernel
theorem dX6_digest_194 : decode cX6_digest 194 = .ok (.iaload, 1) := by decide +kernel
theorem dX6_digest_195 : decode cX6_digest 195 = .ok (.i2l, 1) := by decide +kernel
theorem dX6_digest_196 : decode cX6_digest 196 = .ok (.invokevirtual 219, 3) := by decide +kernel
theorem dX6_digest_199 : decode cX6_digest 199 = .ok (.aload_n 0, 1) := by decide +kernel
theorem dX6_digest_200 : decode cX6_digest 200 = .ok (.aload_n 0, 1) := by decide +kernel
theorem dX6_digest_201 : decode cX6_digest 201 = .ok (.iload_n 1, 1) := by decide +kernel
theorem dX6_digest_202 : decode cX6_digest 202 = .ok (.invokevirtual 153, 3) := by decide +kernel
theorem dX6_digest_205 : decode cX6_digest 205 = .ok (.i2l, 1) := by decide +kernel
theorem dX6_digest_206 : decode cX6_digest 206 = .ok (.invokevirtual 219, 3) := by decide +kernel
theorem dX6_digest_209 : decode cX6_digest 209 = .ok (.iinc 1 1, 3) := by decide +kernel
theorem dX6_digest_212 : decode cX6_digest 212 = .ok (.goto (-43), 3) := by decide +kernel
theorem dX6_digest_215 : decode cX6_digest 215 = .ok (.aload_n 0, 1) := by decide +kernel
theorem dX6_digest_216 : decode cX6_digest 216 = .ok (.getfield 215, 3) := by decide +kernel
theorem dX6_digest_219 : decode cX6_digest 219 = .ok (.lreturn, 1) := by decide +kernel
theorem dL_law_0 : decode cL_law 0 = .ok (.new 7, 3) := by decide +kernel
theorem dL_law_3 : decode cL_law 3 = .ok (.dup, 1) := by decide +kernel
theorem dL_law_4 : decode cL_law 4 = .ok (.invokespecial 9, 3) := by decide +kernel
theorem dL_law_7 : decode cL_law 7 = .ok (.astore_n 1, 1) := by decide +kernel
theorem dL_law_8 : decode cL_law 8 = .ok (.new 10, 3) := by decide +kernel
theorem dL_law_11 : decode cL_law 11 = .ok (.dup, 1) := by decide +kernel
theorem dL_law_12 : decode cL_law 12 = .ok (.invokespecial 12, 3) := by decide +kernel
theorem dL_law_15 : decode cL_law 15 = .ok (.astore_n 2, 1) := by decide +kernel
theorem dL_law_16 : decode cL_law 16 = .ok (.iconst 0, 1) := by decide +kernel
theorem dL_law_17 : decode cL_law 17 = .ok (.istore_n 3, 1) := by decide +kernel
theorem dL_law_18 : decode cL_law 18 = .ok (.iload_n 3, 1) := by decide +kernel
theorem dL_law_19 : decode cL_law 19 = .ok (.aload_n 0, 1) := by decide +kernel
theorem dL_law_20 : decode cL_law 20 = .ok (.arraylength, 1) := by decide +kernel
theorem dL_law_21 : decode cL_law 21 = .ok (.bipush 6, 2) := by decide +kernel
theorem dL_law_23 : decode cL_law 23 = .ok (.isub, 1) := by decide +kernel
theorem dL_law_24 : decode cL_law 24 = .ok (.if_icmp .gt 884, 3) := by decide +kernel
theorem dL_law_27 : decode cL_law 27 = .ok (.aload_n 0, 1) := by decide +kernel
theorem dL_law_28 : decode cL_law 28 = .ok (.iload_n 3, 1) := by decide +kernel
theorem dL_law_29 : decode cL_law 29 = .ok (.iaload, 1) := by decide +kernel
theorem dL_law_30 : decode cL_law 30 = .ok (.bipush 31, 2) := by decide +kernel
theorem dL_law_32 : decode cL_law 32 = .ok (.iand, 1) := by decide +kernel
theorem dL_law_33 : decode cL_law 33 = .ok (.tableswitch 869 0 28 #[131, 154, 187, 230, 293, 316, 329, 342, 375, 408, 431, 464, 497, 540, 583, 626, 649, 672, 695, 718, 731, 744, 757, 770, 783, 806, 829, 842, 855], 131) := by decide +kernel
theorem dL_law_164 : decode cL_law 164 = .ok (.aload_n 1, 1) := by decide +kernel
theorem dL_law_165 : decode cL_law 165 = .ok (.aload_n 0, 1) := by decide +kernel
theorem dL_law_166 : decode cL_law 166 = .ok (.iload_n 3, 1) := by decide +kernel
theorem dL_law_167 : decode cL_law 167 = .ok (.iconst 1, 1) := by decide +kernel
theorem dL_law_168 : decode cL_law 168 = .ok (.iadd, 1) := by decide +kernel
theorem dL_law_169 : decode cL_law 169 = .ok (.iaload, 1) := by decide +kernel
theorem dL_law_170 : decode cL_law 170 = .ok (.invokevirtual 13, 3) := by decide +kernel
theorem dL_law_173 : decode cL_law 173 = .ok (.aload_n 2, 1) := by decide +kernel
theorem dL_law_174 : decode cL_law 174 = .ok (.aload_n 0, 1) := by decide +kernel
theorem dL_law_175 : decode cL_law 175 = .ok (.iload_n 3, 1) := by decide +kernel
theorem dL_law_176 : decode cL_law 176 = .ok (.iconst 1, 1) := by decide +kernel
theorem dL_law_177 : decode cL_law 177 = .ok (.iadd, 1) := by decide +kernel
theorem dL_law_178 : decode cL_law 178 = .ok (.iaload, 1) := by decide +kernel
theorem dL_law_179 : decode cL_law 179 = .ok (.invokevirtual 17, 3) := by decide +kernel
theorem dL_law_182 : decode cL_law 182 = .ok (.if_icmp .eq 720, 3) := by decide +kernel
theorem dL_law_185 : decode cL_law 185 = .ok (.iconst 0, 1) := by decide +kernel
theorem dL_law_186 : decode cL_law 186 = .ok (.ireturn, 1) := by decide +kernel
theorem dL_law_187 : decode cL_law 187 = .ok (.aload_n 1, 1) := by decide +kernel
theorem dL_law_188 : decode cL_law 188 = .ok (.aload_n 0, 1) := by decide +kernel
theorem dL_law_189 : decode cL_law 189 = .ok (.iload_n 3, 1) := by decide +kernel
theorem dL_law_190 : decode cL_law 190 = .ok (.iconst 1, 1) := by decide +kernel
theorem dL_law_191 : decode cL_law 191 = .ok (.iadd, 1) := by decide +kernel
theorem dL_law_192 : decode cL_law 192 = .ok (.iaload, 1) := by decide +kernel
theorem dL_law_193 : decode cL_law 193 = .ok (.aload_n 0, 1) := by decide +kernel
theorem dL_law_194 : decode cL_law 194 = .ok (.iload_n 3, 1) := by decide +kernel
theorem dL_law_195 : decode cL_law 195 = .ok (.iconst 2, 1) := by decide +kernel
theorem dL_law_196 : decode cL_law 196 = .ok (.iadd, 1) := by decide +kernel
theorem dL_law_197 : decode cL_law 197 = .ok (.iaload, 1) := by decide +kernel
theorem dL_law_198 : decode cL_law 198 = .ok (.invokevirtual 18, 3) := by decide +kernel
theorem dL_law_201 : decode cL_law 201 = .ok (.aload_n 2, 1) := by decide +kernel
theorem dL_law_202 : decode cL_law 202 = .ok (.aload_n 0, 1) := by decide +kernel
theorem dL_law_203 : decode cL_law 203 = .ok (.iload_n 3, 1) := by decide +kernel
theorem dL_law_204 : decode cL_law 204 = .ok (.iconst 1, 1) := by decide +kernel
theorem dL_law_205 : decode cL_law 205 = .ok (.iadd, 1) := by decide +kernel
theorem dL_law_206 : decode cL_law 206 = .ok (.iaload, 1) := by decide +kernel
theorem dL_law_207 : decode cL_law 207 = .ok (.aload_n 0, 1) := by decide +kernel
theorem dL_law_208 : decode cL_law 208 = .ok (.iload_n 3, 1) := by decide +kernel
theorem dL_law_209 : decode cL_law 209 = .ok (.iconst 2, 1) := by decide +kernel
theorem dL_law_210 : decode cL_law 210 = .ok (.iadd, 1) := by decide +kernel
theorem dL_law_211 : decode cL_law 211 = .ok (.iaload, 1) := by decide +kernel
theorem dL_law_212 : decode cL_law 212 = .ok (.invokevirtual 22, 3) := by decide +kernel
theorem dL_law_215 : decode cL_law 215 = .ok (.if_icmp .eq 687, 3) := by decide +kernel
theorem dL_law_218 : decode cL_law 218 = .ok (.iconst 0, 1) := by decide +kernel
theorem dL_law_219 : decode cL_law 219 = .ok (.ireturn, 1) := by decide +kernel
theorem dL_law_220 : decode cL_law 220 = .ok (.aload_n 1, 1) := by decide +kernel
theorem dL_law_221 : decode cL_law 221 = .ok (.aload_n 0, 1) := by decide +kernel
theorem dL_law_222 : decode cL_law 222 = .ok (.iload_n 3, 1) := by decide +kernel
theorem dL_law_223 : decode cL_law 223 = .ok (.iconst 1, 1) := by decide +kernel
theorem dL_law_224 : decode cL_law 224 = .ok (.iadd, 1) := by decide +kernel
theorem dL_law_225 : decode cL_law 225 = .ok (.iaload, 1) := by decide +kernel
theorem dL_law_226 : decode cL_law 226 = .ok (.aload_n 0, 1) := by decide +kernel
theorem dL_law_227 : decode cL_law 227 = .ok (.iload_n 3, 1) := by decide +kernel
theorem dL_law_228 : decode cL_law 228 = .ok (.iconst 2, 1) := by decide +kernel
theorem dL_law_229 : decode cL_law 229 = .ok (.iadd, 1) := by decide +kernel
theorem dL_law_230 : decode cL_law 230 = .ok (.iaload, 1) := by decide +kernel
theorem dL_law_231 : decode cL_law 231 = .ok (.aload_n 0, 1) := by decide +kernel
theorem dL_law_232 : decode cL_law 232 = .ok (.iload_n 3, 1) := by decide +kernel
theorem dL_law_233 : decode cL_law 233 = .ok (.iconst 3, 1) := by decide +kernel
theorem dL_law_234 : decode cL_law 234 = .ok (.iadd, 1) := by decide +kernel
theorem dL_law_235 : decode cL_law 235 = .ok (.iaload, 1) := by decide +kernel
theorem dL_law_236 : decode cL_law 236 = .ok (.invokevirtual 23, 3) := by decide +kernel
theorem dL_law_239 : decode cL_law 239 = .ok (.aload_n 2, 1) := by decide +kernel
theorem dL_law_240 : decode cL_law 240 = .ok (.aload_n 0, 1) := by decide +kernel
theorem dL_law_241 : decode cL_law 241 = .ok (.iload_n 3, 1) := by decide +kernel
theorem dL_law_242 : decode cL_law 242 = .ok (.iconst 1, 1) := by decide +kernel
theorem dL_law_243 : decode cL_law 243 = .ok (.iadd, 1) := by decide +kernel
theorem dL_law_244 : decode cL_law 244 = .ok (.iaload, 1) := by decide +kernel
theorem dL_law_245 : decode cL_law 245 = .ok (.aload_n 0, 1) := by decide +kernel
theorem dL_law_246 : decode cL_law 246 = .ok (.iload_n 3, 1) := by decide +kernel
theorem dL_law_247 : decode cL_law 247 = .ok (.iconst 2, 1) := by decide +kernel
theorem dL_law_248 : decode cL_law 248 = .ok (.iadd, 1) := by decide +kernel
theorem dL_law_249 : decode cL_law 249 = .ok (.iaload, 1) := by decide +kernel
theorem dL_law_250 : decode cL_law 250 = .ok (.aload_n 0, 1) := by decide +kernel
theorem dL_law_251 : decode cL_law 251 = .ok (.iload_n 3, 1) := by decide +kernel
theorem dL_law_252 : decode cL_law 252 = .ok (.iconst 3, 1) := by decide +kernel
theorem dL_law_253 : decode cL_law 253 = .ok (.iadd, 1) := by decide +kernel
theorem dL_law_254 : decode cL_law 254 = .ok (.iaload, 1) := by decide +kernel
theorem dL_law_255 : decode cL_law 255 = .ok (.invokevirtual 27, 3) := by decide +kernel
theorem dL_law_258 : decode cL_law 258 = .ok (.if_icmp .eq 644, 3) := by decide +kernel
theorem dL_law_261 : decode cL_law 261 = .ok (.iconst 0, 1) := by decide +kernel
theorem dL_law_262 : decode cL_law 262 = .ok (.ireturn, 1) := by decide +kernel
theorem dL_law_263 : decode cL_law 263 = .ok (.aload_n 1, 1) := by decide +kernel
theorem dL_law_264 : decode cL_law 264 = .ok (.aload_n 0, 1) := by decide +kernel
theorem dL_law_265 : decode cL_law 265 = .ok (.iload_n 3, 1) := by decide +kernel
theorem dL_law_266 : decode cL_law 266 = .ok (.iconst 1, 1) := by decide +kernel
theorem dL_law_267 : decode cL_law 267 = .ok (.iadd, 1) := by decide +kernel
theorem dL_law_268 : decode cL_law 268 = .ok (.iaload, 1) := by decide +kernel
theorem dL_law_269 : decode cL_law 269 = .ok (.aload_n 0, 1) := by decide +kernel
theorem dL_law_270 : decode cL_law 270 = .ok (.iload_n 3, 1) := by decide +kernel
theorem dL_law_271 : decode cL_law 271 = .ok (.iconst 2, 1) := by decide +kernel
theorem dL_law_272 : decode cL_law 272 = .ok (.iadd, 1) := by decide +kernel
theorem dL_law_273 : decode cL_law 273 = .ok (.iaload, 1) := by decide +kernel
theorem dL_law_274 : decode cL_law 274 = .ok (.aload_n 0, 1) := by decide +kernel
theorem dL_law_275 : decode cL_law 275 = .ok (.iload_n 3, 1) := by decide +kernel
theorem dL_law_276 : decode cL_law 276 = .ok (.iconst 3, 1) := by decide +kernel
theorem dL_law_277 : decode cL_law 277 = .ok (.iadd, 1) := by decide +kernel
theorem dL_law_278 : decode cL_law 278 = .ok (.iaload, 1) := by decide +kernel
theorem dL_law_279 : decode cL_law 279 = .ok (.aload_n 0, 1) := by decide +kernel
theorem dL_law_280 : decode cL_law 280 = .ok (.iload_n 3, 1) := by decide +kernel
theorem dL_law_281 : decode cL_law 281 = .ok (.iconst 4, 1) := by decide +kernel
theorem dL_law_282 : decode cL_law 282 = .ok (.iadd, 1) := by decide +kernel
theorem dL_law_283 : decode cL_law 283 = .ok (.iaload, 1) := by decide +kernel
theorem dL_law_284 : decode cL_law 284 = .ok (.aload_n 0, 1) := by decide +kernel
theorem dL_law_285 : decode cL_law 285 = .ok (.iload_n 3, 1) := by decide +kernel
theorem dL_law_286 : decode cL_law 286 = .ok (.iconst 5, 1) := by decide +kernel
theorem dL_law_287 : decode cL_law 287 = .ok (.iadd, 1) := by decide +kernel
theorem dL_law_288 : decode cL_law 288 = .ok (.iaload, 1) := by decide +kernel
theorem dL_law_289 : decode cL_law 289 = .ok (.invokevirtual 28, 3) := by decide +kernel
theorem dL_law_292 : decode cL_law 292 = .ok (.aload_n 2, 1) := by decide +kernel
theorem dL_law_293 : decode cL_law 293 = .ok (.aload_n 0, 1) := by decide +kernel
theorem dL_law_294 : decode cL_law 294 = .ok (.iload_n 3, 1) := by decide +kernel
theorem dL_law_295 : decode cL_law 295 = .ok (.iconst 1, 1) := by decide +kernel
theorem dL_law_296 : decode cL_law 296 = .ok (.iadd, 1) := by decide +kernel
theorem dL_law_297 : decode cL_law 297 = .ok (.iaload, 1) := by decide +kernel
theorem dL_law_298 : decode cL_law 298 = .ok (.aload_n 0, 1) := by decide +kernel
theorem dL_law_299 : decode cL_law 299 = .ok (.iload_n 3, 1) := by decide +kernel
theorem dL_law_300 : decode cL_law 300 = .ok (.iconst 2, 1) := by decide +kernel
theorem dL_law_301 : decode cL_law 301 = .ok (.iadd, 1) := by decide +kernel
theorem dL_law_302 : decode cL_law 302 = .ok (.iaload, 1) := by decide +kernel
theorem dL_law_303 : decode cL_law 303 = .ok (.aload_n 0, 1) := by decide +kernel
theorem dL_law_304 : decode cL_law 304 = .ok (.iload_n 3, 1) := by decide +kernel
theorem dL_law_305 : decode cL_law 305 = .ok (.iconst 3, 1) := by decide +kernel
theorem dL_law_306 : decode cL_law 306 = .ok (.iadd, 1) := by decide +kernel
theorem dL_law_307 : decode cL_law 307 = .ok (.iaload, 1) := by decide +kernel
theorem dL_law_308 : decode cL_law 308 = .ok (.aload_n 0, 1) := by decide +kernel
theorem dL_law_309 : decode cL_law 309 = .ok (.iload_n 3, 1) := by decide +kernel
theorem dL_law_310 : decode cL_law 310 = .ok (.iconst 4, 1) := by decide +kernel
theorem dL_law_311 : decode cL_law 311 = .ok (.iadd, 1) := by decide +kernel
theorem dL_law_312 : decode cL_law 312 = .ok (.iaload, 1) := by decide +kernel
theorem dL_law_313 : decode cL_law 313 = .ok (.aload_n 0, 1) := by decide +kernel
theorem dL_law_314 : decode cL_law 314 = .ok (.iload_n 3, 1) := by decide +kernel
theorem dL_law_315 : decode cL_law 315 = .ok (.iconst 5, 1) := by decide +kernel
theorem dL_law_316 : decode cL_law 316 = .ok (.iadd, 1) := by decide +kernel
theorem dL_law_317 : decode cL_law 317 = .ok (.iaload, 1) := by decide +kernel
theorem dL_law_318 : decode cL_law 318 = .ok (.invokevirtual 32, 3) := by decide +kernel
theorem dL_law_321 : decode cL_law 321 = .ok (.if_icmp .eq 581, 3) := by decide +kernel
theorem dL_law_324 : decode cL_law 324 = .ok (.iconst 0, 1) := by decide +kernel
theorem dL_law_325 : decode cL_law 325 = .ok (.ireturn, 1) := by decide +kernel
theorem dL_law_326 : decode cL_law 326 = .ok (.aload_n 1, 1) := by decide +kernel
theorem dL_law_327 : decode cL_law 327 = .ok (.aload_n 0, 1) := by decide +kernel
theorem dL_law_328 : decode cL_law 328 = .ok (.iload_n 3, 1) := by decide +kernel
theorem dL_law_329 : decode cL_law 329 = .ok (.iconst 1, 1) := by decide +kernel
theorem dL_law_330 : decode cL_law 330 = .ok (.iadd, 1) := by decide +kernel
theorem dL_law_331 : decode cL_law 331 = .ok (.iaload, 1) := by decide +kernel
theorem dL_law_332 : decode cL_law 332 = .ok (.invokevirtual 33, 3) := by decide +kernel
theorem dL_law_335 : decode cL_law 335 = .ok (.aload_n 2, 1) := by decide +kernel
theorem dL_law_336 : decode cL_law 336 = .ok (.aload_n 0, 1) := by decide +kernel
theorem dL_law_337 : decode cL_law 337 = .ok (.iload_n 3, 1) := by decide +kernel
theorem dL_law_338 : decode cL_law 338 = .ok (.iconst 1, 1) := by decide +kernel
theorem dL_law_339 : decode cL_law 339 = .ok (.iadd, 1) := by decide +kernel
theorem dL_law_340 : decode cL_law 340 = .ok (.iaload, 1) := by decide +kernel
theorem dL_law_341 : decode cL_law 341 = .ok (.invokevirtual 36, 3) := by decide +kernel
theorem dL_law_344 : decode cL_law 344 = .ok (.if_icmp .eq 558, 3) := by decide +kernel
theorem dL_law_347 : decode cL_law 347 = .ok (.iconst 0, 1) := by decide +kernel
theorem dL_law_348 : decode cL_law 348 = .ok (.ireturn, 1) := by decide +kernel
theorem dL_law_349 : decode cL_law 349 = .ok (.aload_n 1, 1) := by decide +kernel
theorem dL_law_350 : decode cL_law 350 = .ok (.invokevirtual 37, 3) := by decide +kernel
theorem dL_law_353 : decode cL_law 353 = .ok (.aload_n 2, 1) := by decide +kernel
theorem dL_law_354 : decode cL_law 354 = .ok (.invokevirtual 41, 3) := by decide +kernel
theorem dL_law_357 : decode cL_law 357 = .ok (.if_icmp .eq 545, 3) := by decide +kernel
theorem dL_law_360 : decode cL_law 360 = .ok (.iconst 0, 1) := by decide +kernel
theorem dL_law_361 : decode cL_law 361 = .ok (.ireturn, 1) := by decide +kernel
theorem dL_law_362 : decode cL_law 362 = .ok (.aload_n 1, 1) := by decide +kernel
theorem dL_law_363 : decode cL_law 363 = .ok (.invokevirtual 42, 3) := by decide +kernel
theorem dL_law_366 : decode cL_law 366 = .ok (.aload_n 2, 1) := by decide +kernel
theorem dL_law_367 : decode cL_law 367 = .ok (.invokevirtual 45, 3) := by decide +kernel
theorem dL_law_370 : decode cL_law 370 = .ok (.if_icmp .eq 532, 3) := by decide +kernel
theorem dL_law_373 : decode cL_law 373 = .ok (.iconst 0, 1) := by decide +kernel
theorem dL_law_374 : decode cL_law 374 = .ok (.ireturn, 1) := by decide +kernel
theorem dL_law_375 : decode cL_law 375 = .ok (.aload_n 1, 1) := by decide +kernel
theorem dL_law_376 : decode cL_law 376 = .ok (.aload_n 0, 1) := by decide +kernel
theorem dL_law_377 : decode cL_law 377 = .ok (.iload_n 3, 1) := by decide +kernel
theorem dL_law_378 : decode cL_law 378 = .ok (.iconst 1, 1) := by decide +kernel
theorem dL_law_379 : decode cL_law 379 = .ok (.iadd, 1) := by decide +kernel
theorem dL_law_380 : decode cL_law 380 = .ok (.iaload, 1) := by decide +kernel
theorem dL_law_381 : decode cL_law 381 = .ok (.aload_n 0, 1) := by decide +kernel
theorem dL_law_382 : decode cL_law 382 = .ok (.iload_n 3, 1) := by decide +kernel
theorem dL_law_383 : decode cL_law 383 = .ok (.iconst 2, 1) := by decide +kernel
theorem dL_law_384 : decode cL_law 384 = .ok (.iadd, 1) := by decide +kernel
theorem dL_law_385 : decode cL_law 385 = .ok (.iaload, 1) := by decide +kernel
theorem dL_law_386 : decode cL_law 386 = .ok (.invokevirtual 46, 3) := by decide +kernel
theorem dL_law_389 : decode cL_law 389 = .ok (.aload_n 2, 1) := by decide +kernel
theorem dL_law_390 : decode cL_law 390 = .ok (.aload_n 0, 1) := by decide +kernel
theorem dL_law_391 : decode cL_law 391 = .ok (.iload_n 3, 1) := by decide +kernel
theorem dL_law_392 : decode cL_law 392 = .ok (.iconst 1, 1) := by decide +kernel
theorem dL_law_393 : decode cL_law 393 = .ok (.iadd, 1) := by decide +kernel
theorem dL_law_394 : decode cL_law 394 = .ok (.iaload, 1) := by decide +kernel
theorem dL_law_395 : decode cL_law 395 = .ok (.aload_n 0, 1) := by decide +kernel
theorem dL_law_396 : decode cL_law 396 = .ok (.iload_n 3, 1) := by decide +kernel
theorem dL_law_397 : decode cL_law 397 = .ok (.iconst 2, 1) := by decide +kernel
theorem dL_law_398 : decode cL_law 398 = .ok (.iadd, 1) := by decide +kernel
theorem dL_law_399 : decode cL_law 399 = .ok (.iaload, 1) := by decide +kernel
theorem dL_law_400 : decode cL_law 400 = .ok (.invokevirtual 49, 3) := by decide +kernel
theorem dL_law_403 : decode cL_law 403 = .ok (.if_icmp .eq 499, 3) := by decide +kernel
theorem dL_law_406 : decode cL_law 406 = .ok (.iconst 0, 1) := by decide +kernel
theorem dL_law_407 : decode cL_law 407 = .ok (.ireturn, 1) := by decide +kernel
theorem dL_law_408 : decode cL_law 408 = .ok (.aload_n 1, 1) := by decide +kernel
theorem dL_law_409 : decode cL_law 409 = .ok (.aload_n 0, 1) := by decide +kernel
theorem dL_law_410 : decode cL_law 410 = .ok (.iload_n 3, 1) := by decide +kernel
theorem dL_law_411 : decode cL_law 411 = .ok (.iconst 1, 1) := by decide +kernel
theorem dL_law_412 : decode cL_law 412 = .ok (.iadd, 1) := by decide +kernel
theorem dL_law_413 : decode cL_law 413 = .ok (.iaload, 1) := by decide +kernel
theorem dL_law_414 : decode cL_law 414 = .ok (.aload_n 0, 1) := by decide +kernel
theorem dL_law_415 : decode cL_law 415 = .ok (.iload_n 3, 1) := by decide +kernel
theorem dL_law_416 : decode cL_law 416 = .ok (.iconst 2, 1) := by decide +kernel
theorem dL_law_417 : decode cL_law 417 = .ok (.iadd, 1) := by decide +kernel
theorem dL_law_418 : decode cL_law 418 = .ok (.iaload, 1) := by decide +kernel
theorem dL_law_419 : decode cL_law 419 = .ok (.invokevirtual 50, 3) := by decide +kernel
theorem dL_law_422 : decode cL_law 422 = .ok (.aload_n 2, 1) := by decide +kernel
theorem dL_law_423 : decode cL_law 423 = .ok (.aload_n 0, 1) := by decide +kernel
theorem dL_law_424 : decode cL_law 424 = .ok (.iload_n 3, 1) := by decide +kernel
theorem dL_law_425 : decode cL_law 425 = .ok (.iconst 1, 1) := by decide +kernel
theorem dL_law_426 : decode cL_law 426 = .ok (.iadd, 1) := by decide +kernel
theorem dL_law_427 : decode cL_law 427 = .ok (.iaload, 1) := by decide +kernel
theorem dL_law_428 : decode cL_law 428 = .ok (.aload_n 0, 1) := by decide +kernel
theorem dL_law_429 : decode cL_law 429 = .ok (.iload_n 3, 1) := by decide +kernel
theorem dL_law_430 : decode cL_law 430 = .ok (.iconst 2, 1) := by decide +kernel
theorem dL_law_431 : decode cL_law 431 = .ok (.iadd, 1) := by decide +kernel
theorem dL_law_432 : decode cL_law 432 = .ok (.iaload, 1) := by decide +kernel
theorem dL_law_433 : decode cL_law 433 = .ok (.invokevirtual 53, 3) := by decide +kernel
theorem dL_law_436 : decode cL_law 436 = .ok (.if_icmp .eq 466, 3) := by decide +kernel
theorem dL_law_439 : decode cL_law 439 = .ok (.iconst 0, 1) := by decide +kernel
theorem dL_law_440 : decode cL_law 440 = .ok (.ireturn, 1) := by decide +kernel
theorem dL_law_441 : decode cL_law 441 = .ok (.aload_n 1, 1) := by decide +kernel
theorem dL_law_442 : decode cL_law 442 = .ok (.aload_n 0, 1) := by decide +kernel
theorem dL_law_443 : decode cL_law 443 = .ok (.iload_n 3, 1) := by decide +kernel
theorem dL_law_444 : decode cL_law 444 = .ok (.iconst 1, 1) := by decide +kernel
theorem dL_law_445 : decode cL_law 445 = .ok (.iadd, 1) := by decide +kernel
theorem dL_law_446 : decode cL_law 446 = .ok (.iaload, 1) := by decide +kernel
theorem dL_law_447 : decode cL_law 447 = .ok (.invokevirtual 54, 3) := by decide +kernel
theorem dL_law_450 : decode cL_law 450 = .ok (.aload_n 2, 1) := by decide +kernel
theorem dL_law_451 : decode cL_law 451 = .ok (.aload_n 0, 1) := by decide +kernel
theorem dL_law_452 : decode cL_law 452 = .ok (.iload_n 3, 1) := by decide +kernel
theorem dL_law_453 : decode cL_law 453 = .ok (.iconst 1, 1) := by decide +kernel
theorem dL_law_454 : decode cL_law 454 = .ok (.iadd, 1) := by decide +kernel
theorem dL_law_455 : decode cL_law 455 = .ok (.iaload, 1) := by decide +kernel
theorem dL_law_456 : decode cL_law 456 = .ok (.invokevirtual 57, 3) := by decide +kernel
theorem dL_law_459 : decode cL_law 459 = .ok (.if_icmp .eq 443, 3) := by decide +kernel
theorem dL_law_462 : decode cL_law 462 = .ok (.iconst 0, 1) := by decide +kernel
theorem dL_law_463 : decode cL_law 463 = .ok (.ireturn, 1) := by decide +kernel
theorem dL_law_464 : decode cL_law 464 = .ok (.aload_n 1, 1) := by decide +kernel
theorem dL_law_465 : decode cL_law 465 = .ok (.aload_n 0, 1) := by decide +kernel
theorem dL_law_466 : decode cL_law 466 = .ok (.iload_n 3, 1) := by decide +kernel
theorem dL_law_467 : decode cL_law 467 = .ok (.iconst 1, 1) := by decide +kernel
theorem dL_law_468 : decode cL_law 468 = .ok (.iadd, 1) := by decide +kernel
theorem dL_law_469 : decode cL_law 469 = .ok (.iaload, 1) := by decide +kernel
theorem dL_law_470 : decode cL_law 470 = .ok (.aload_n 0, 1) := by decide +kernel
theorem dL_law_471 : decode cL_law 471 = .ok (.iload_n 3, 1) := by decide +kernel
theorem dL_law_472 : decode cL_law 472 = .ok (.iconst 2, 1) := by decide +kernel
theorem dL_law_473 : decode cL_law 473 = .ok (.iadd, 1) := by decide +kernel
theorem dL_law_474 : decode cL_law 474 = .ok (.iaload, 1) := by decide +kernel
theorem dL_law_475 : decode cL_law 475 = .ok (.invokevirtual 58, 3) := by decide +kernel
theorem dL_law_478 : decode cL_law 478 = .ok (.aload_n 2, 1) := by decide +kernel
theorem dL_law_479 : decode cL_law 479 = .ok (.aload_n 0, 1) := by decide +kernel
theorem dL_law_480 : decode cL_law 480 = .ok (.iload_n 3, 1) := by decide +kernel
theorem dL_law_481 : decode cL_law 481 = .ok (.iconst 1, 1) := by decide +kernel
theorem dL_law_482 : decode cL_law 482 = .ok (.iadd, 1) := by decide +kernel
theorem dL_law_483 : decode cL_law 483 = .ok (.iaload, 1) := by decide +kernel
theorem dL_law_484 : decode cL_law 484 = .ok (.aload_n 0, 1) := by decide +kernel
theorem dL_law_485 : decode cL_law 485 = .ok (.iload_n 3, 1) := by decide +kernel
theorem dL_law_486 : decode cL_law 486 = .ok (.iconst 2, 1) := by decide +kernel
theorem dL_law_487 : decode cL_law 487 = .ok (.iadd, 1) := by decide +kernel
theorem dL_law_488 : decode cL_law 488 = .ok (.iaload, 1) := by decide +kernel
theorem dL_law_489 : decode cL_law 489 = .ok (.invokevirtual 61, 3) := by decide +kernel
theorem dL_law_492 : decode cL_law 492 = .ok (.if_icmp .eq 410, 3) := by decide +kernel
theorem dL_law_495 : decode cL_law 495 = .ok (.iconst 0, 1) := by decide +kernel
theorem dL_law_496 : decode cL_law 496 = .ok (.ireturn, 1) := by decide +kernel
theorem dL_law_497 : decode cL_law 497 = .ok (.aload_n 1, 1) := by decide +kernel
theorem dL_law_498 : decode cL_law 498 = .ok (.aload_n 0, 1) := by decide +kernel
theorem dL_law_499 : decode cL_law 499 = .ok (.iload_n 3, 1) := by decide +kernel
theorem dL_law_500 : decode cL_law 500 = .ok (.iconst 1, 1) := by decide +kernel
theorem dL_law_501 : decode cL_law 501 = .ok (.iadd, 1) := by decide +kernel
theorem dL_law_502 : decode cL_law 502 = .ok (.iaload, 1) := by decide +kernel
theorem dL_law_503 : decode cL_law 503 = .ok (.aload_n 0, 1) := by decide +kernel
theorem dL_law_504 : decode cL_law 504 = .ok (.iload_n 3, 1) := by decide +kernel
theorem dL_law_505 : decode cL_law 505 = .ok (.iconst 2, 1) := by decide +kernel
theorem dL_law_506 : decode cL_law 506 = .ok (.iadd, 1) := by decide +kernel
theorem dL_law_507 : decode cL_law 507 = .ok (.iaload, 1) := by decide +kernel
theorem dL_law_508 : decode cL_law 508 = .ok (.invokevirtual 62, 3) := by decide +kernel
theorem dL_law_511 : decode cL_law 511 = .ok (.aload_n 2, 1) := by decide +kernel
theorem dL_law_512 : decode cL_law 512 = .ok (.aload_n 0, 1) := by decide +kernel
theorem dL_law_513 : decode cL_law 513 = .ok (.iload_n 3, 1) := by decide +kernel
theorem dL_law_514 : decode cL_law 514 = .ok (.iconst 1, 1) := by decide +kernel
theorem dL_law_515 : decode cL_law 515 = .ok (.iadd, 1) := by decide +kernel
theorem dL_law_516 : decode cL_law 516 = .ok (.iaload, 1) := by decide +kernel
theorem dL_law_517 : decode cL_law 517 = .ok (.aload_n 0, 1) := by decide +kernel
theorem dL_law_518 : decode cL_law 518 = .ok (.iload_n 3, 1) := by decide +kernel
theorem dL_law_519 : decode cL_law 519 = .ok (.iconst 2, 1) := by decide +kernel
theorem dL_law_520 : decode cL_law 520 = .ok (.iadd, 1) := by decide +kernel
theorem dL_law_521 : decode cL_law 521 = .ok (.iaload, 1) := by decide +kernel
theorem dL_law_522 : decode cL_law 522 = .ok (.invokevirtual 65, 3) := by decide +kernel
theorem dL_law_525 : decode cL_law 525 = .ok (.if_icmp .eq 377, 3) := by decide +kernel
theorem dL_law_528 : decode cL_law 528 = .ok (.iconst 0, 1) := by decide +kernel
theorem dL_law_529 : decode cL_law 529 = .ok (.ireturn, 1) := by decide +kernel
theorem dL_law_530 : decode cL_law 530 = .ok (.aload_n 1, 1) := by decide +kernel
theorem dL_law_531 : decode cL_law 531 = .ok (.aload_n 0, 1) := by decide +kernel
theorem dL_law_532 : decode cL_law 532 = .ok (.iload_n 3, 1) := by decide +kernel
theorem dL_law_533 : decode cL_law 533 = .ok (.iconst 1, 1) := by decide +kernel
theorem dL_law_534 : decode cL_law 534 = .ok (.iadd, 1) := by decide +kernel
theorem dL_law_535 : decode cL_law 535 = .ok (.iaload, 1) := by decide +kernel
theorem dL_law_536 : decode cL_law 536 = .ok (.aload_n 0, 1) := by decide +kernel
theorem dL_law_537 : decode cL_law 537 = .ok (.iload_n 3, 1) := by decide +kernel
theorem dL_law_538 : decode cL_law 538 = .ok (.iconst 2, 1) := by decide +kernel
theorem dL_law_539 : decode cL_law 539 = .ok (.iadd, 1) := by decide +kernel
theorem dL_law_540 : decode cL_law 540 = .ok (.iaload, 1) := by decide +kernel
theorem dL_law_541 : decode cL_law 541 = .ok (.aload_n 0, 1) := by decide +kernel
theorem dL_law_542 : decode cL_law 542 = .ok (.iload_n 3, 1) := by decide +kernel
theorem dL_law_543 : decode cL_law 543 = .ok (.iconst 3, 1) := by decide +kernel
theorem dL_law_544 : decode cL_law 544 = .ok (.iadd, 1) := by decide +kernel
theorem dL_law_545 : decode cL_law 545 = .ok (.iaload, 1) := by decide +kernel
theorem dL_law_546 : decode cL_law 546 = .ok (.invokevirtual 66, 3) := by decide +kernel
theorem dL_law_549 : decode cL_law 549 = .ok (.aload_n 2, 1) := by decide +kernel
theorem dL_law_550 : decode cL_law 550 = .ok (.aload_n 0, 1) := by decide +kernel
theorem dL_law_551 : decode cL_law 551 = .ok (.iload_n 3, 1) := by decide +kernel
theorem dL_law_552 : decode cL_law 552 = .ok (.iconst 1, 1) := by decide +kernel
theorem dL_law_553 : decode cL_law 553 = .ok (.iadd, 1) := by decide +kernel
theorem dL_law_554 : decode cL_law 554 = .ok (.iaload, 1) := by decide +kernel
theorem dL_law_555 : decode cL_law 555 = .ok (.aload_n 0, 1) := by decide +kernel
theorem dL_law_556 : decode cL_law 556 = .ok (.iload_n 3, 1) := by decide +kernel
theorem dL_law_557 : decode cL_law 557 = .ok (.iconst 2, 1) := by decide +kernel
theorem dL_law_558 : decode cL_law 558 = .ok (.iadd, 1) := by decide +kernel
theorem dL_law_559 : decode cL_law 559 = .ok (.iaload, 1) := by decide +kernel
theorem dL_law_560 : decode cL_law 560 = .ok (.aload_n 0, 1) := by decide +kernel
theorem dL_law_561 : decode cL_law 561 = .ok (.iload_n 3, 1) := by decide +kernel
theorem dL_law_562 : decode cL_law 562 = .ok (.iconst 3, 1) := by decide +kernel
theorem dL_law_563 : decode cL_law 563 = .ok (.iadd, 1) := by decide +kernel
theorem dL_law_564 : decode cL_law 564 = .ok (.iaload, 1) := by decide +kernel
theorem dL_law_565 : decode cL_law 565 = .ok (.invokevirtual 69, 3) := by decide +kernel
theorem dL_law_568 : decode cL_law 568 = .ok (.if_icmp .eq 334, 3) := by decide +kernel
theorem dL_law_571 : decode cL_law 571 = .ok (.iconst 0, 1) := by decide +kernel
theorem dL_law_572 : decode cL_law 572 = .ok (.ireturn, 1) := by decide +kernel
theorem dL_law_573 : decode cL_law 573 = .ok (.aload_n 1, 1) := by decide +kernel
theorem dL_law_574 : decode cL_law 574 = .ok (.aload_n 0, 1) := by decide +kernel
theorem dL_law_575 : decode cL_law 575 = .ok (.iload_n 3, 1) := by decide +kernel
theorem dL_law_576 : decode cL_law 576 = .ok (.iconst 1, 1) := by decide +kernel
theorem dL_law_577 : decode cL_law 577 = .ok (.iadd, 1) := by decide +kernel
theorem dL_law_578 : decode cL_law 578 = .ok (.iaload, 1) := by decide +kernel
theorem dL_law_579 : decode cL_law 579 = .ok (.aload_n 0, 1) := by decide +kernel
theorem dL_law_580 : decode cL_law 580 = .ok (.iload_n 3, 1) := by decide +kernel
theorem dL_law_581 : decode cL_law 581 = .ok (.iconst 2, 1) := by decide +kernel
theorem dL_law_582 : decode cL_law 582 = .ok (.iadd, 1) := by decide +kernel
theorem dL_law_583 : decode cL_law 583 = .ok (.iaload, 1) := by decide +kernel
theorem dL_law_584 : decode cL_law 584 = .ok (.aload_n 0, 1) := by decide +kernel
theorem dL_law_585 : decode cL_law 585 = .ok (.iload_n 3, 1) := by decide +kernel
theorem dL_law_586 : decode cL_law 586 = .ok (.iconst 3, 1) := by decide +kernel
theorem dL_law_587 : decode cL_law 587 = .ok (.iadd, 1) := by decide +kernel
theorem dL_law_588 : decode cL_law 588 = .ok (.iaload, 1) := by decide +kernel
theorem dL_law_589 : decode cL_law 589 = .ok (.invokevirtual 70, 3) := by decide +kernel
theorem dL_law_592 : decode cL_law 592 = .ok (.aload_n 2, 1) := by decide +kernel
theorem dL_law_593 : decode cL_law 593 = .ok (.aload_n 0, 1) := by decide +kernel
theorem dL_law_594 : decode cL_law 594 = .ok (.iload_n 3, 1) := by decide +kernel
theorem dL_law_595 : decode cL_law 595 = .ok (.iconst 1, 1) := by decide +kernel
theorem dL_law_596 : decode cL_law 596 = .ok (.iadd, 1) := by decide +kernel
theorem dL_law_597 : decode cL_law 597 = .ok (.iaload, 1) := by decide +kernel
theorem dL_law_598 : decode cL_law 598 = .ok (.aload_n 0, 1) := by decide +kernel
theorem dL_law_599 : decode cL_law 599 = .ok (.iload_n 3, 1) := by decide +kernel
theorem dL_law_600 : decode cL_law 600 = .ok (.iconst 2, 1) := by decide +kernel
theorem dL_law_601 : decode cL_law 601 = .ok (.iadd, 1) := by decide +kernel
theorem dL_law_602 : decode cL_law 602 = .ok (.iaload, 1) := by decide +kernel
theorem dL_law_603 : decode cL_law 603 = .ok (.aload_n 0, 1) := by decide +kernel
theorem dL_law_604 : decode cL_law 604 = .ok (.iload_n 3, 1) := by decide +kernel
theorem dL_law_605 : decode cL_law 605 = .ok (.iconst 3, 1) := by decide +kernel
theorem dL_law_606 : decode cL_law 606 = .ok (.iadd, 1) := by decide +kernel
theorem dL_law_607 : decode cL_law 607 = .ok (.iaload, 1) := by decide +kernel
theorem dL_law_608 : decode cL_law 608 = .ok (.invokevirtual 73, 3) := by decide +kernel
theorem dL_law_611 : decode cL_law 611 = .ok (.if_icmp .eq 291, 3) := by decide +kernel
theorem dL_law_614 : decode cL_law 614 = .ok (.iconst 0, 1) := by decide +kernel
theorem dL_law_615 : decode cL_law 615 = .ok (.ireturn, 1) := by decide +kernel
theorem dL_law_616 : decode cL_law 616 = .ok (.aload_n 1, 1) := by decide +kernel
theorem dL_law_617 : decode cL_law 617 = .ok (.aload_n 0, 1) := by decide +kernel
theorem dL_law_618 : decode cL_law 618 = .ok (.iload_n 3, 1) := by decide +kernel
theorem dL_law_619 : decode cL_law 619 = .ok (.iconst 1, 1) := by decide +kernel
theorem dL_law_620 : decode cL_law 620 = .ok (.iadd, 1) := by decide +kernel
theorem dL_law_621 : decode cL_law 621 = .ok (.iaload, 1) := by decide +kernel
theorem dL_law_622 : decode cL_law 622 = .ok (.aload_n 0, 1) := by decide +kernel
theorem dL_law_623 : decode cL_law 623 = .ok (.iload_n 3, 1) := by decide +kernel
theorem dL_law_624 : decode cL_law 624 = .ok (.iconst 2, 1) := by decide +kernel
theorem dL_law_625 : decode cL_law 625 = .ok (.iadd, 1) := by decide +kernel
theorem dL_law_626 : decode cL_law 626 = .ok (.iaload, 1) := by decide +kernel
theorem dL_law_627 : decode cL_law 627 = .ok (.aload_n 0, 1) := by decide +kernel
theorem dL_law_628 : decode cL_law 628 = .ok (.iload_n 3, 1) := by decide +kernel
theorem dL_law_629 : decode cL_law 629 = .ok (.iconst 3, 1) := by decide +kernel
theorem dL_law_630 : decode cL_law 630 = .ok (.iadd, 1) := by decide +kernel
theorem dL_law_631 : decode cL_law 631 = .ok (.iaload, 1) := by decide +kernel
theorem dL_law_632 : decode cL_law 632 = .ok (.invokevirtual 74, 3) := by decide +kernel
theorem dL_law_635 : decode cL_law 635 = .ok (.aload_n 2, 1) := by decide +kernel
theorem dL_law_636 : decode cL_law 636 = .ok (.aload_n 0, 1) := by decide +kernel
theorem dL_law_637 : decode cL_law 637 = .ok (.iload_n 3, 1) := by decide +kernel
theorem dL_law_638 : decode cL_law 638 = .ok (.iconst 1, 1) := by decide +kernel
theorem dL_law_639 : decode cL_law 639 = .ok (.iadd, 1) := by decide +kernel
theorem dL_law_640 : decode cL_law 640 = .ok (.iaload, 1) := by decide +kernel
theorem dL_law_641 : decode cL_law 641 = .ok (.aload_n 0, 1) := by decide +kernel
theorem dL_law_642 : decode cL_law 642 = .ok (.iload_n 3, 1) := by decide +kernel
theorem dL_law_643 : decode cL_law 643 = .ok (.iconst 2, 1) := by decide +kernel
theorem dL_law_644 : decode cL_law 644 = .ok (.iadd, 1) := by decide +kernel
theorem dL_law_645 : decode cL_law 645 = .ok (.iaload, 1) := by decide +kernel
theorem dL_law_646 : decode cL_law 646 = .ok (.aload_n 0, 1) := by decide +kernel
theorem dL_law_647 : decode cL_law 647 = .ok (.iload_n 3, 1) := by decide +kernel
theorem dL_law_648 : decode cL_law 648 = .ok (.iconst 3, 1) := by decide +kernel
theorem dL_law_649 : decode cL_law 649 = .ok (.iadd, 1) := by decide +kernel
theorem dL_law_650 : decode cL_law 650 = .ok (.iaload, 1) := by decide +kernel
theorem dL_law_651 : decode cL_law 651 = .ok (.invokevirtual 77, 3) := by decide +kernel
theorem dL_law_654 : decode cL_law 654 = .ok (.if_icmp .eq 248, 3) := by decide +kernel
theorem dL_law_657 : decode cL_law 657 = .ok (.iconst 0, 1) := by decide +kernel
theorem dL_law_658 : decode cL_law 658 = .ok (.ireturn, 1) := by decide +kernel
theorem dL_law_659 : decode cL_law 659 = .ok (.aload_n 1, 1) := by decide +kernel
theorem dL_law_660 : decode cL_law 660 = .ok (.aload_n 0, 1) := by decide +kernel
theorem dL_law_661 : decode cL_law 661 = .ok (.iload_n 3, 1) := by decide +kernel
theorem dL_law_662 : decode cL_law 662 = .ok (.iconst 1, 1) := by decide +kernel
theorem dL_law_663 : decode cL_law 663 = .ok (.iadd, 1) := by decide +kernel
theorem dL_law_664 : decode cL_law 664 = .ok (.iaload, 1) := by decide +kernel
theorem dL_law_665 : decode cL_law 665 = .ok (.invokevirtual 78, 3) := by decide +kernel
theorem dL_law_668 : decode cL_law 668 = .ok (.aload_n 2, 1) := by decide +kernel
theorem dL_law_669 : decode cL_law 669 = .ok (.aload_n 0, 1) := by decide +kernel
theorem dL_law_670 : decode cL_law 670 = .ok (.iload_n 3, 1) := by decide +kernel
theorem dL_law_671 : decode cL_law 671 = .ok (.iconst 1, 1) := by decide +kernel
theorem dL_law_672 : decode cL_law 672 = .ok (.iadd, 1) := by decide +kernel
theorem dL_law_673 : decode cL_law 673 = .ok (.iaload, 1) := by decide +kernel
theorem dL_law_674 : decode cL_law 674 = .ok (.invokevirtual 81, 3) := by decide +kernel
theorem dL_law_677 : decode cL_law 677 = .ok (.if_icmp .eq 225, 3) := by decide +kernel
theorem dL_law_680 : decode cL_law 680 = .ok (.iconst 0, 1) := by decide +kernel
theorem dL_law_681 : decode cL_law 681 = .ok (.ireturn, 1) := by decide +kernel
theorem dL_law_682 : decode cL_law 682 = .ok (.aload_n 1, 1) := by decide +kernel
theorem dL_law_683 : decode cL_law 683 = .ok (.aload_n 0, 1) := by decide +kernel
theorem dL_law_684 : decode cL_law 684 = .ok (.iload_n 3, 1) := by decide +kernel
theorem dL_law_685 : decode cL_law 685 = .ok (.iconst 1, 1) := by decide +kernel
theorem dL_law_686 : decode cL_law 686 = .ok (.iadd, 1) := by decide +kernel
theorem dL_law_687 : decode cL_law 687 = .ok (.iaload, 1) := by decide +kernel
theorem dL_law_688 : decode cL_law 688 = .ok (.invokevirtual 82, 3) := by decide +kernel
theorem dL_law_691 : decode cL_law 691 = .ok (.aload_n 2, 1) := by decide +kernel
theorem dL_law_692 : decode cL_law 692 = .ok (.aload_n 0, 1) := by decide +kernel
theorem dL_law_693 : decode cL_law 693 = .ok (.iload_n 3, 1) := by decide +kernel
theorem dL_law_694 : decode cL_law 694 = .ok (.iconst 1, 1) := by decide +kernel
theorem dL_law_695 : decode cL_law 695 = .ok (.iadd, 1) := by decide +kernel
theorem dL_law_696 : decode cL_law 696 = .ok (.iaload, 1) := by decide +kernel
theorem dL_law_697 : decode cL_law 697 = .ok (.invokevirtual 85, 3) := by decide +kernel
theorem dL_law_700 : decode cL_law 700 = .ok (.if_icmp .eq 202, 3) := by decide +kernel
theorem dL_law_703 : decode cL_law 703 = .ok (.iconst 0, 1) := by decide +kernel
theorem dL_law_704 : decode cL_law 704 = .ok (.ireturn, 1) := by decide +kernel
theorem dL_law_705 : decode cL_law 705 = .ok (.aload_n 1, 1) := by decide +kernel
theorem dL_law_706 : decode cL_law 706 = .ok (.aload_n 0, 1) := by decide +kernel
theorem dL_law_707 : decode cL_law 707 = .ok (.iload_n 3, 1) := by decide +kernel
theorem dL_law_708 : decode cL_law 708 = .ok (.iconst 1, 1) := by decide +kernel
theorem dL_law_709 : decode cL_law 709 = .ok (.iadd, 1) := by decide +kernel
theorem dL_law_710 : decode cL_law 710 = .ok (.iaload, 1) := by decide +kernel
theorem dL_law_711 : decode cL_law 711 = .ok (.invokevirtual 86, 3) := by decide +kernel
theorem dL_law_714 : decode cL_law 714 = .ok (.aload_n 2, 1) := by decide +kernel
theorem dL_law_715 : decode cL_law 715 = .ok (.aload_n 0, 1) := by decide +kernel
theorem dL_law_716 : decode cL_law 716 = .ok (.iload_n 3, 1) := by decide +kernel
theorem dL_law_717 : decode cL_law 717 = .ok (.iconst 1, 1) := by decide +kernel
theorem dL_law_718 : decode cL_law 718 = .ok (.iadd, 1) := by decide +kernel
theorem dL_law_719 : decode cL_law 719 = .ok (.iaload, 1) := by decide +kernel
theorem dL_law_720 : decode cL_law 720 = .ok (.invokevirtual 89, 3) := by decide +kernel
theorem dL_law_723 : decode cL_law 723 = .ok (.if_icmp .eq 179, 3) := by decide +kernel
theorem dL_law_726 : decode cL_law 726 = .ok (.iconst 0, 1) := by decide +kernel
theorem dL_law_727 : decode cL_law 727 = .ok (.ireturn, 1) := by decide +kernel
theorem dL_law_728 : decode cL_law 728 = .ok (.aload_n 1, 1) := by decide +kernel
theorem dL_law_729 : decode cL_law 729 = .ok (.aload_n 0, 1) := by decide +kernel
theorem dL_law_730 : decode cL_law 730 = .ok (.iload_n 3, 1) := by decide +kernel
theorem dL_law_731 : decode cL_law 731 = .ok (.iconst 1, 1) := by decide +kernel
theorem dL_law_732 : decode cL_law 732 = .ok (.iadd, 1) := by decide +kernel
theorem dL_law_733 : decode cL_law 733 = .ok (.iaload, 1) := by decide +kernel
theorem dL_law_734 : decode cL_law 734 = .ok (.invokevirtual 90, 3) := by decide +kernel
theorem dL_law_737 : decode cL_law 737 = .ok (.aload_n 2, 1) := by decide +kernel
theorem dL_law_738 : decode cL_law 738 = .ok (.aload_n 0, 1) := by decide +kernel
theorem dL_law_739 : decode cL_law 739 = .ok (.iload_n 3, 1) := by decide +kernel
theorem dL_law_740 : decode cL_law 740 = .ok (.iconst 1, 1) := by decide +kernel
theorem dL_law_741 : decode cL_law 741 = .ok (.iadd, 1) := by decide +kernel
theorem dL_law_742 : decode cL_law 742 = .ok (.iaload, 1) := by decide +kernel
theorem dL_law_743 : decode cL_law 743 = .ok (.invokevirtual 93, 3) := by decide +kernel
theorem dL_law_746 : decode cL_law 746 = .ok (.if_icmp .eq 156, 3) := by decide +kernel
theorem dL_law_749 : decode cL_law 749 = .ok (.iconst 0, 1) := by decide +kernel
theorem dL_law_750 : decode cL_law 750 = .ok (.ireturn, 1) := by decide +kernel
theorem dL_law_751 : decode cL_law 751 = .ok (.aload_n 1, 1) := by decide +kernel
theorem dL_law_752 : decode cL_law 752 = .ok (.invokevirtual 94, 3) := by decide +kernel
theorem dL_law_755 : decode cL_law 755 = .ok (.aload_n 2, 1) := by decide +kernel
theorem dL_law_756 : decode cL_law 756 = .ok (.invokevirtual 97, 3) := by decide +kernel
theorem dL_law_759 : decode cL_law 759 = .ok (.if_icmp .eq 143, 3) := by decide +kernel
theorem dL_law_762 : decode cL_law 762 = .ok (.iconst 0, 1) := by decide +kernel
theorem dL_law_763 : decode cL_law 763 = .ok (.ireturn, 1) := by decide +kernel
theorem dL_law_764 : decode cL_law 764 = .ok (.aload_n 1, 1) := by decide +kernel
theorem dL_law_765 : decode cL_law 765 = .ok (.invokevirtual 98, 3) := by decide +kernel
theorem dL_law_768 : decode cL_law 768 = .ok (.aload_n 2, 1) := by decide +kernel
theorem dL_law_769 : decode cL_law 769 = .ok (.invokevirtual 101, 3) := by decide +kernel
theorem dL_law_772 : decode cL_law 772 = .ok (.if_icmp .eq 130, 3) := by decide +kernel
theorem dL_law_775 : decode cL_law 775 = .ok (.iconst 0, 1) := by decide +kernel
theorem dL_law_776 : decode cL_law 776 = .ok (.ireturn, 1) := by decide +kernel
theorem dL_law_777 : decode cL_law 777 = .ok (.aload_n 1, 1) := by decide +kernel
theorem dL_law_778 : decode cL_law 778 = .ok (.invokevirtual 102, 3) := by decide +kernel
theorem dL_law_781 : decode cL_law 781 = .ok (.aload_n 2, 1) := by decide +kernel
theorem dL_law_782 : decode cL_law 782 = .ok (.invokevirtual 105, 3) := by decide +kernel
theorem dL_law_785 : decode cL_law 785 = .ok (.if_icmp .eq 117, 3) := by decide +kernel
theorem dL_law_788 : decode cL_law 788 = .ok (.iconst 0, 1) := by decide +kernel
theorem dL_law_789 : decode cL_law 789 = .ok (.ireturn, 1) := by decide +kernel
theorem dL_law_790 : decode cL_law 790 = .ok (.aload_n 1, 1) := by decide +kernel
theorem dL_law_791 : decode cL_law 791 = .ok (.invokevirtual 106, 3) := by decide +kernel
theorem dL_law_794 : decode cL_law 794 = .ok (.aload_n 2, 1) := by decide +kernel
theorem dL_law_795 : decode cL_law 795 = .ok (.invokevirtual 109, 3) := by decide +kernel
theorem dL_law_798 : decode cL_law 798 = .ok (.if_icmp .eq 104, 3) := by decide +kernel
theorem dL_law_801 : decode cL_law 801 = .ok (.iconst 0, 1) := by decide +kernel
theorem dL_law_802 : decode cL_law 802 = .ok (.ireturn, 1) := by decide +kernel
theorem dL_law_803 : decode cL_law 803 = .ok (.aload_n 1, 1) := by decide +kernel
theorem dL_law_804 : decode cL_law 804 = .ok (.invokevirtual 110, 3) := by decide +kernel
theorem dL_law_807 : decode cL_law 807 = .ok (.aload_n 2, 1) := by decide +kernel
theorem dL_law_808 : decode cL_law 808 = .ok (.invokevirtual 113, 3) := by decide +kernel
theorem dL_law_811 : decode cL_law 811 = .ok (.if_icmp .eq 91, 3) := by decide +kernel
theorem dL_law_814 : decode cL_law 814 = .ok (.iconst 0, 1) := by decide +kernel
theorem dL_law_815 : decode cL_law 815 = .ok (.ireturn, 1) := by decide +kernel
theorem dL_law_816 : decode cL_law 816 = .ok (.aload_n 1, 1) := by decide +kernel
theorem dL_law_817 : decode cL_law 817 = .ok (.aload_n 0, 1) := by decide +kernel
theorem dL_law_818 : decode cL_law 818 = .ok (.iload_n 3, 1) := by decide +kernel
theorem dL_law_819 : decode cL_law 819 = .ok (.iconst 1, 1) := by decide +kernel
theorem dL_law_820 : decode cL_law 820 = .ok (.iadd, 1) := by decide +kernel
theorem dL_law_821 : decode cL_law 821 = .ok (.iaload, 1) := by decide +kernel
theorem dL_law_822 : decode cL_law 822 = .ok (.invokevirtual 114, 3) := by decide +kernel
theorem dL_law_825 : decode cL_law 825 = .ok (.aload_n 2, 1) := by decide +kernel
theorem dL_law_826 : decode cL_law 826 = .ok (.aload_n 0, 1) := by decide +kernel
theorem dL_law_827 : decode cL_law 827 = .ok (.iload_n 3, 1) := by decide +kernel
theorem dL_law_828 : decode cL_law 828 = .ok (.iconst 1, 1) := by decide +kernel
theorem dL_law_829 : decode cL_law 829 = .ok (.iadd, 1) := by decide +kernel
theorem dL_law_830 : decode cL_law 830 = .ok (.iaload, 1) := by decide +kernel
theorem dL_law_831 : decode cL_law 831 = .ok (.invokevirtual 117, 3) := by decide +kernel
theorem dL_law_834 : decode cL_law 834 = .ok (.if_icmp .eq 68, 3) := by decide +kernel
theorem dL_law_837 : decode cL_law 837 = .ok (.iconst 0, 1) := by decide +kernel
theorem dL_law_838 : decode cL_law 838 = .ok (.ireturn, 1) := by decide +kernel
theorem dL_law_839 : decode cL_law 839 = .ok (.aload_n 1, 1) := by decide +kernel
theorem dL_law_840 : decode cL_law 840 = .ok (.aload_n 0, 1) := by decide +kernel
theorem dL_law_841 : decode cL_law 841 = .ok (.iload_n 3, 1) := by decide +kernel
theorem dL_law_842 : decode cL_law 842 = .ok (.iconst 1, 1) := by decide +kernel
theorem dL_law_843 : decode cL_law 843 = .ok (.iadd, 1) := by decide +kernel
theorem dL_law_844 : decode cL_law 844 = .ok (.iaload, 1) := by decide +kernel
theorem dL_law_845 : decode cL_law 845 = .ok (.invokevirtual 118, 3) := by decide +kernel
theorem dL_law_848 : decode cL_law 848 = .ok (.aload_n 2, 1) := by decide +kernel
theorem dL_law_849 : decode cL_law 849 = .ok (.aload_n 0, 1) := by decide +kernel
theorem dL_law_850 : decode cL_law 850 = .ok (.iload_n 3, 1) := by decide +kernel
theorem dL_law_851 : decode cL_law 851 = .ok (.iconst 1, 1) := by decide +kernel
theorem dL_law_852 : decode cL_law 852 = .ok (.iadd, 1) := by decide +kernel
theorem dL_law_853 : decode cL_law 853 = .ok (.iaload, 1) := by decide +kernel
theorem dL_law_854 : decode cL_law 854 = .ok (.invokevirtual 121, 3) := by decide +kernel
theorem dL_law_857 : decode cL_law 857 = .ok (.if_icmp .eq 45, 3) := by decide +kernel
theorem dL_law_860 : decode cL_law 860 = .ok (.iconst 0, 1) := by decide +kernel
theorem dL_law_861 : decode cL_law 861 = .ok (.ireturn, 1) := by decide +kernel
theorem dL_law_862 : decode cL_law 862 = .ok (.aload_n 1, 1) := by decide +kernel
theorem dL_law_863 : decode cL_law 863 = .ok (.invokevirtual 122, 3) := by decide +kernel
theorem dL_law_866 : decode cL_law 866 = .ok (.aload_n 2, 1) := by decide +kernel
theorem dL_law_867 : decode cL_law 867 = .ok (.invokevirtual 125, 3) := by decide +kernel
theorem dL_law_870 : decode cL_law 870 = .ok (.if_icmp .eq 32, 3) := by decide +kernel
theorem dL_law_873 : decode cL_law 873 = .ok (.iconst 0, 1) := by decide +kernel
theorem dL_law_874 : decode cL_law 874 = .ok (.ireturn, 1) := by decide +kernel
theorem dL_law_875 : decode cL_law 875 = .ok (.aload_n 1, 1) := by decide +kernel
theorem dL_law_876 : decode cL_law 876 = .ok (.invokevirtual 126, 3) := by decide +kernel
theorem dL_law_879 : decode cL_law 879 = .ok (.aload_n 2, 1) := by decide +kernel
theorem dL_law_880 : decode cL_law 880 = .ok (.invokevirtual 129, 3) := by decide +kernel
theorem dL_law_883 : decode cL_law 883 = .ok (.if_icmp .eq 19, 3) := by decide +kernel
theorem dL_law_886 : decode cL_law 886 = .ok (.iconst 0, 1) := by decide +kernel
theorem dL_law_887 : decode cL_law 887 = .ok (.ireturn, 1) := by decide +kernel
theorem dL_law_888 : decode cL_law 888 = .ok (.aload_n 1, 1) := by decide +kernel
theorem dL_law_889 : decode cL_law 889 = .ok (.invokevirtual 130, 3) := by decide +kernel
theorem dL_law_892 : decode cL_law 892 = .ok (.aload_n 2, 1) := by decide +kernel
theorem dL_law_893 : decode cL_law 893 = .ok (.invokevirtual 134, 3) := by decide +kernel
theorem dL_law_896 : decode cL_law 896 = .ok (.lcmp, 1) := by decide +kernel
theorem dL_law_897 : decode cL_law 897 = .ok (.ifCond .eq 5, 3) := by decide +kernel
theorem dL_law_900 : decode cL_law 900 = .ok (.iconst 0, 1) := by decide +kernel
theorem dL_law_901 : decode cL_law 901 = .ok (.ireturn, 1) := by decide +kernel
theorem dL_law_902 : decode cL_law 902 = .ok (.iinc 3 6, 3) := by decide +kernel
theorem dL_law_905 : decode cL_law 905 = .ok (.goto (-887), 3) := by decide +kernel
theorem dL_law_908 : decode cL_law 908 = .ok (.iconst 1, 1) := by decide +kernel
theorem dL_law_909 : decode cL_law 909 = .ok (.ireturn, 1) := by decide +kernel
end
section
/-! A judgement over the kit's W: the heap is a map from addresses to cells, all else of the machine is hidden. bs_B: from this frame the method comes to a return with Q. bs_Sp: a method's contract at these arguments and this heap. -/
abbrev Hp : Type := Nat → Option va_E
abbrev GG : Type := va_G × (Nat → ClassId) × Nat
abbrev MI : Type := MethodName × ByteArray × Nat × Option FieldType × Nat
def bs_okw : Cond → Bool
  | .arrayClass _ => true
  | .arrayOver (.object _) => true
  | .fieldLinkNest _ _ _ _ _ _ => true
  | .methodLinkNest _ _ _ _ => true
  | w => w.onTables && w.keeps
def bs_TB (U : State) : Prop := ∀ w ∈ lw_tbl, bs_okw w = true → ∀ a : Array Value, w.before a U = true
theorem bs_TB.warm {s U : State} (hW : s.WarmedH U.vm) (h : bs_TB s) : bs_TB U := by
  intro w hw hk a
  have h0 := h w hw hk #[]
  cases w with
  | arrayClass ty => exact word_at hW (Or.inr ⟨ty, rfl⟩) h0
  | arrayOver t =>
    cases t with
    | object C => exact va_AO.use (va_AO.moved hW.alike h0)
    | _ => exact word_at hW (Or.inl hk) h0
  | fieldLinkNest _ _ _ _ _ _ => exact va_Nw.use rfl (va_Nw.warmF hW h0)
  | methodLinkNest _ _ _ _ => exact va_Nw.use rfl (va_Nw.warmM hW h0)
  | _ => exact word_at hW (Or.inl hk) h0
def bs_TYS (ct : Nat → ClassId) : List (ClassId × FieldType) := [(ct 0, .int), (ct 1, .boolean), (ct 2, .object RX0), (ct 3, .object RX3), (ct 4, .object RX2)]
def bs_SW (G : GG) (U : State) : Prop := va_K G.1 vwCl (bs_TYS G.2.1) U ∧ bs_TB U ∧ G.2.2 ≤ U.heap.size
def bs_H (G : GG) (h : Hp) (H : Heap) : Prop := ∃ ws : va_W, va_P G.1 vwCl ws H ∧ va_D (fun q => G.2.2 ≤ q) ws ∧ ∀ (a : Nat) (e : va_E), h a = some e → ∃ k : Nat, ws[k]? = some (a, e)
def bs_rfit (r : Option FieldType) (v : Option Value) : Prop := match v with
  | none => r = none
  | some (.int x) => ∃ ty, r = some ty ∧ narrow ty (.int x) = .int x
  | some (.long _) => r = some .long
  | some (.ref _) => ∃ n, r = some (.object n)
  | some .null => ∃ n, r = some (.object n)
  | _ => False
def bs_rdec (cc : ByteArray) (pc : Nat) (v : Option Value) : Prop := match v with
  | none => decode cc pc = .ok (.return_, 1)
  | some (.int _) => decode cc pc = .ok (.ireturn, 1)
  | some (.long _) => decode cc pc = .ok (.lreturn, 1)
  | some (.ref _) => decode cc pc = .ok (.areturn, 1)
  | some .null => decode cc pc = .ok (.areturn, 1)
  | _ => False
def bs_Cx (G : GG) (X : State → Prop) (M : MI) (d : Nat) (p : Program) (R : Room) (s : State) (m : MethodId) (meth : Method) (c : Code) : Prop :=
  p.tables.exec = Jvm.exec ∧ c.code = M.2.1 ∧ c.maxLocals = M.2.2.1 ∧ s.vm.findClass M.1.cls = some m.cls ∧ bs_SW G s ∧ X s ∧ d ≤ R.frames ∧ 37 * d ≤ R.locals ∧ meth.locks = false ∧ meth.name = M.1.name
def bs_B (G : GG) (X : State → Prop) (M : MI) (d bc bs : Nat) (h : Hp) (pc : Nat) (lv : List (Nat × Value)) (st : List Value) (Q : Option Value → Hp → Prop) : Prop :=
  ∀ (p : Program) (l : Launch) (e : Env) (R : Room) (s : State) (m : MethodId) (args : Array Value) (below : List Frame) (meth : Method) (c : Code) (H : Heap) (locs : List Loc) (cells slots : Nat) (QQ : State → Prop) (ls : Array Slot),
    bs_Cx G X M d p R s m meth c → bs_H G h H → va_S (fun q => G.2.2 ≤ q) s.heap H locs → cells + bc ≤ R.cells → slots + bs ≤ R.slots → lv_has ls M.2.2.1 lv →
    (∀ (v : Option Value) (h' : Hp) (H' : Heap) (locs' : List Loc) (cells' slots' pc' : Nat) (ls' : Array Slot), Q v h' → bs_H G h' H' → va_S (fun q => G.2.2 ≤ q) s.heap H' locs' → cells' ≤ cells + bc → slots' ≤ slots + bs → bs_rfit M.2.2.2.1 v → bs_rdec M.2.1 pc' v →
      W p l e R s m args below meth c H' locs' cells' slots' QQ (F0 m pc' ls' v.toList)) →
    W p l e R s m args below meth c H locs cells slots QQ (F0 m pc ls st)
def bs_rm (d bc bs : Nat) : Room := { frames := d, cells := bc, slots := bs, locals := 37 * d }
def bs_Pc (G : GG) (vs : List Value) (h : Hp) : Array Value → State → Prop := va_Pc vs (fun U => bs_H G h U.heap ∧ bs_SW G U)
def bs_Qc (G : GG) (Q : Option Value → Hp → Prop) : Array Value → State → Outcome → State → Prop := fun _ st oc t => (∃ (v : Option Value) (h' : Hp), oc = .returned v ∧ Q v h' ∧ bs_H G h' t.heap) ∧ va_F (fun q => G.2.2 ≤ q) st t
def bs_Sp (G : GG) (M : MI) (d bc bs : Nat) (vs : List Value) (h : Hp) (Q : Option Value → Hp → Prop) : Prop :=
  ∀ l : Launch, Met l M.1 [.code M.1 M.2.1 M.2.2.1 M.2.2.2.1] (bs_rm d bc bs) (bs_Pc G vs h) (bs_Qc G Q) bc bs (fun q => G.2.2 ≤ q)
theorem bs_Pc.blind {G : GG} {vs : List Value} {h : Hp} : FrameBlind (bs_Pc G vs h) := by
  intro a U g mk ⟨h1, h2, h3, h4, h5⟩
  exact ⟨h1, h2, va_K.moved (u := U) (U := U.calling g mk a) (Vm.Alike.refl U.vm) h3, bs_TB.warm (s := U) (U := U.calling g mk a) (State.WarmedH.refl U) h4, h5⟩
theorem bs_SW.warm {G : GG} {s U : State} (hW : s.WarmedH U.vm) (hz : G.2.2 ≤ U.heap.size) (h : bs_SW G s) : bs_SW G U := ⟨va_K.moved hW.alike h.1, bs_TB.warm hW h.2.1, hz⟩
set_option maxHeartbeats 1000000 in
theorem bs_Sp.of {G : GG} {M : MI} {d bc bs : Nat} {vs : List Value} {h : Hp} {Q : Option Value → Hp → Prop} (hy : plainName M.1.cls = true) (hn' : Nat.ble (lg_sl vs).length M.2.2.1 = true) (hB : bs_B G (fun _ => True) M d bc bs h 0 (lv_args 0 vs) [] Q) : bs_Sp G M d bc bs vs h Q := by
  intro l
  have hn := Nat.le_of_ble_eq_true hn'
  refine Met.ofW (cc := M.2.1) (maxL := M.2.2.1) (ret := M.2.2.2.1) hy rfl ?_
  intro p e s m args below meth c s₁ B hml hv
  obtain ⟨rfl, hH, hSW⟩ := hv
  have hl := lv_entry vs (n := M.2.2.1) hn
  rw [lg_entry_eq]
  generalize (lg_sl vs ++ List.replicate (M.2.2.1 - (lg_sl vs).length) Slot.unset).toArray = ls at hl ⊢
  have hlocks := B.notSynchronized
  have hx := B.exec
  have hb := B.bytes
  have hr := B.returns
  refine hB p l e _ s m _ below meth c s.heap [] 0 0 _ ls ⟨hx, hb, hml, findClass_of_methodNamed B.named, hSW, trivial, Nat.le_refl d, Nat.le_refl _, hlocks, (name_of_methodNamed B.named B.method).1⟩ hH va_S.rf (Nat.le_of_eq (Nat.zero_add bc)) (Nat.le_of_eq (Nat.zero_add bs)) hl ?_
  intro v h' H' locs' cells' slots' pc' ls' hQ hH' hS hc hs hf hd
  have hc : cells' ≤ bc := Nat.le_trans hc (Nat.le_of_eq (Nat.zero_add bc))
  have hs : slots' ≤ bs := Nat.le_trans hs (Nat.le_of_eq (Nat.zero_add bs))
  refine W.widen (k := bc) (n := bs) hc hs ?_
  have key : ∀ t : State, t.heap = H' → s.WarmedH t.vm → bs_Qc G Q vs.toArray s (.returned v) t := fun t ht hW => ⟨⟨v, h', rfl, hQ, by rw [ht]; exact hH'⟩, hS.F ht⟩
  match v, hf, hd, key with
  | none, hf, hd, key => exact W.vret hx hb (hr.trans hf) key hS.2.2 hd
  | some (.int x), hf, hd, key =>
    obtain ⟨ty, h1, h2⟩ := hf
    exact W.zret hx hb (hr.trans h1) h2 key hS.2.2 hd
  | some (.long x), hf, hd, key => exact W.lret hx hb (hr.trans hf) key hS.2.2 hd
  | some (.ref x), hf, hd, key =>
    obtain ⟨n, h1⟩ := hf
    exact W.aret hx hb (hr.trans h1) (Or.inl ⟨n, rfl⟩) (Or.inr ⟨x, rfl⟩) key hS.2.2 hd
  | some .null, hf, hd, key =>
    obtain ⟨n, h1⟩ := hf
    exact W.aret hx hb (hr.trans h1) (Or.inl ⟨n, rfl⟩) (Or.inl rfl) key hS.2.2 hd
  | some (.float _), hf, _, _ => exact absurd hf id
  | some (.double _), hf, _, _ => exact absurd hf id
theorem bs_Sp.mono {G : GG} {M : MI} {d bc bs : Nat} {vs : List Value} {h : Hp} {Q Q' : Option Value → Hp → Prop} (hs : bs_Sp G M d bc bs vs h Q) (hq : ∀ v h', Q v h' → Q' v h') : bs_Sp G M d bc bs vs h Q' := by
  intro l p e ha hc hk s m args below hf happ hP hK
  obtain ⟨k, o, h1, h2, h3, ⟨⟨v, h', e1, e2, e3⟩, hF⟩, h5⟩ := hs l p e ha hc hk s m args below hf happ hP hK
  exact ⟨k, o, h1, h2, h3, ⟨⟨v, h', e1, hq v h' e2, e3⟩, hF⟩, h5⟩
theorem bs_B.mono {G : GG} {X : State → Prop} {M : MI} {d bc bs : Nat} {h : Hp} {pc : Nat} {lv : List (Nat × Value)} {st : List Value} {Q Q' : Option Value → Hp → Prop} (hb : bs_B G X M d bc bs h pc lv st Q) (hq : ∀ v h', Q v h' → Q' v h') : bs_B G X M d bc bs h pc lv st Q' := by
  intro p l e R s m args below meth c H locs cells slots QQ ls C hH hS hc hs hl hr
  exact hb p l e R s m args below meth c H locs cells slots QQ ls C hH hS hc hs hl (fun v h' H' locs' cells' slots' pc' ls' q => hr v h' H' locs' cells' slots' pc' ls' (hq v h' q))
/-! locals -/
def bs_lg : List (Nat × Value) → Nat → Option Value
  | [], _ => none
  | q :: r, i => bif q.1 == i then some q.2 else bs_lg r i
def bs_li (q : Nat × Value) : List (Nat × Value) → List (Nat × Value)
  | [] => [q]
  | r :: l => bif Nat.blt r.1 q.1 then r :: bs_li q l else q :: r :: l
def bs_lp (i : Nat) (v : Value) (lv : List (Nat × Value)) : List (Nat × Value) := bs_li (i, v) (lv.filter (fun q => !(q.1 == i) && !(q.1 + 1 == i && q.2.category == 2)))
def bs_lq (i : Nat) (v : Value) (lv : List (Nat × Value)) : List (Nat × Value) := bs_li (i, v) (lv.filter (fun q => !(q.1 == i) && (!(q.1 == i + 1) && !(q.1 + 1 == i && q.2.category == 2))))
theorem bs_lg_mem {i : Nat} {v : Value} : ∀ {lv : List (Nat × Value)}, bs_lg lv i = some v → (i, v) ∈ lv
  | [], h => by cases h
  | q :: r, h => by
    unfold bs_lg at h
    by_cases hq : q.1 == i
    · rw [hq] at h
      have h1 : q.2 = v := Option.some.inj h
      have h2 : q.1 = i := by simpa using hq
      rw [← h1, ← h2]
      exact List.mem_cons_self
    · rw [show (q.1 == i) = false by simpa using hq] at h
      exact List.mem_cons_of_mem _ (bs_lg_mem (lv := r) h)
theorem bs_lg_at {ls : Array Slot} {n i : Nat} {v : Value} {lv : List (Nat × Value)} (h : lv_has ls n lv) (hg : bs_lg lv i = some v) : ls[i]? = some (.val v) := h.2.2 (i, v) (bs_lg_mem hg)
theorem bs_li_mem {q x : Nat × Value} : ∀ {l : List (Nat × Value)}, x ∈ bs_li q l → x ∈ q :: l
  | [], h => h
  | r :: l, h => by
    unfold bs_li at h
    cases hb : Nat.blt r.1 q.1 with
    | true =>
      rw [hb] at h
      rcases List.mem_cons.mp h with h | h
      · rw [h]; exact List.mem_cons_of_mem _ List.mem_cons_self
      · rcases List.mem_cons.mp (bs_li_mem (l := l) h) with h | h
        · rw [h]; exact List.mem_cons_self
        · exact List.mem_cons_of_mem _ (List.mem_cons_of_mem _ h)
    | false =>
      rw [hb] at h
      exact h
theorem bs_li_has {ls : Array Slot} {n : Nat} {q : Nat × Value} {l : List (Nat × Value)} (h : lv_has ls n (q :: l)) : lv_has ls n (bs_li q l) := ⟨h.1, h.2.1, fun x hx => h.2.2 x (bs_li_mem hx)⟩
section BsRows
variable {G : GG} {X : State → Prop} {M : MI} {d bc bs : Nat} {h : Hp} {pc : Nat} {lv : List (Nat × Value)} {st : List Value} {Q : Option Value → Hp → Prop}
/-- an instruction that leaves the heap -/
theorem bs_pure {pc' : Nat} {lv' : List (Nat × Value)} {st' : List Value}
    (step : ∀ (p : Program) (l : Launch) (e : Env) (R : Room) (s : State) (m : MethodId) (args : Array Value) (below : List Frame) (meth : Method) (c : Code) (H : Heap) (locs : List Loc) (cells slots : Nat) (QQ : State → Prop) (ls : Array Slot),
      bs_Cx G X M d p R s m meth c → lv_has ls M.2.2.1 lv → (∀ ls' : Array Slot, lv_has ls' M.2.2.1 lv' → W p l e R s m args below meth c H locs cells slots QQ (F0 m pc' ls' st')) → W p l e R s m args below meth c H locs cells slots QQ (F0 m pc ls st))
    (k : bs_B G X M d bc bs h pc' lv' st' Q) : bs_B G X M d bc bs h pc lv st Q := by
  intro p l e R s m args below meth c H locs cells slots QQ ls C hH hS hc hs hl hr
  exact step p l e R s m args below meth c H locs cells slots QQ ls C hl (fun ls' hl' => k p l e R s m args below meth c H locs cells slots QQ ls' C hH hS hc hs hl' hr)
/-- fewer locals -/
theorem bs_sub {lv' : List (Nat × Value)} (ks : List Nat) (hk : lv_pick lv ks = lv') (k : bs_B G X M d bc bs h pc lv' st Q) : bs_B G X M d bc bs h pc lv st Q :=
  bs_pure (fun _ _ _ _ _ _ _ _ _ _ _ _ _ _ _ _ _ hl kk => kk _ (lv_sub hl ks hk)) k
theorem bs_iconst {n : Int} {v : Int32} {pc' : Nat} (hd : decode M.2.1 pc = .ok (.iconst n, 1)) (hv : Int32.ofInt n = v) (hp : pc + 1 = pc') (k : bs_B G X M d bc bs h pc' lv (.int v :: st) Q) : bs_B G X M d bc bs h pc lv st Q := by
  subst hp
  exact bs_pure (fun _ _ _ _ _ _ _ _ _ _ _ _ _ _ _ _ C hl kk => lv_iconst C.1 C.2.1 hd hv (kk _ hl)) k
theorem bs_bipush {n : Int} {v : Int32} {pc' : Nat} (hd : decode M.2.1 pc = .ok (.bipush n, 2)) (hv : (Int8.ofInt n).toInt32 = v) (hp : pc + 2 = pc') (k : bs_B G X M d bc bs h pc' lv (.int v :: st) Q) : bs_B G X M d bc bs h pc lv st Q := by
  subst hp
  exact bs_pure (fun _ _ _ _ _ _ _ _ _ _ _ _ _ _ _ _ C hl kk => lv_bipush C.1 C.2.1 hd hv (kk _ hl)) k
theorem bs_sipush {n : Int} {v : Int32} {pc' : Nat} (hd : decode M.2.1 pc = .ok (.sipush n, 3)) (hv : (Int16.ofInt n).toInt32 = v) (hp : pc + 3 = pc') (k : bs_B G X M d bc bs h pc' lv (.int v :: st) Q) : bs_B G X M d bc bs h pc lv st Q := by
  subst hp
  exact bs_pure (fun _ _ _ _ _ _ _ _ _ _ _ _ _ _ _ _ C hl kk => lv_sipush C.1 C.2.1 hd hv (kk _ hl)) k
theorem bs_lconst {n : Fin 2} {v : Int64} {pc' : Nat} (hd : decode M.2.1 pc = .ok (.lconst n, 1)) (hv : Int64.ofNat (n : Nat) = v) (hp : pc + 1 = pc') (k : bs_B G X M d bc bs h pc' lv (.long v :: st) Q) : bs_B G X M d bc bs h pc lv st Q := by
  subst hp
  exact bs_pure (fun _ _ _ _ _ _ _ _ _ _ _ _ _ _ _ _ C hl kk => lv_lconst C.1 C.2.1 hd hv (kk _ hl)) k
theorem bs_null {pc' : Nat} (hd : decode M.2.1 pc = .ok (.aconst_null, 1)) (hp : pc + 1 = pc') (k : bs_B G X M d bc bs h pc' lv (.null :: st) Q) : bs_B G X M d bc bs h pc lv st Q := by
  subst hp
  exact bs_pure (fun _ _ _ _ _ _ _ _ _ _ _ _ _ _ _ _ C hl kk => lv_null C.1 C.2.1 hd (kk _ hl)) k
theorem bs_ldc2 {i : Nat} {v : Int64} {pc' : Nat} (hw : Cond.constantLong M.1.cls i v ∈ lw_tbl) (hd : decode M.2.1 pc = .ok (.ldc2_w i, 3)) (hp : pc + 3 = pc') (k : bs_B G X M d bc bs h pc' lv (.long v :: st) Q) : bs_B G X M d bc bs h pc lv st Q := by
  subst hp
  exact bs_pure (fun _ _ _ _ _ _ args _ _ _ _ _ _ _ _ _ C hl kk => lv_ldc2 C.1 C.2.1 C.2.2.2.1 (C.2.2.2.2.1.2.1 _ hw rfl args) hd (kk _ hl)) k
theorem bs_iload_n {i : Fin 4} {x : Int32} {pc' : Nat} (hd : decode M.2.1 pc = .ok (.iload_n i, 1)) (hg : bs_lg lv (i : Nat) = some (.int x)) (hp : pc + 1 = pc') (k : bs_B G X M d bc bs h pc' lv (.int x :: st) Q) : bs_B G X M d bc bs h pc lv st Q := by
  subst hp
  exact bs_pure (fun _ _ _ _ _ _ _ _ _ _ _ _ _ _ _ _ C hl kk => lv_iload_n C.1 C.2.1 hd rfl (bs_lg_at hl hg) (kk _ hl)) k
theorem bs_iload {i : Nat} {x : Int32} {pc' : Nat} (hd : decode M.2.1 pc = .ok (.iload i, 2)) (hg : bs_lg lv i = some (.int x)) (hp : pc + 2 = pc') (k : bs_B G X M d bc bs h pc' lv (.int x :: st) Q) : bs_B G X M d bc bs h pc lv st Q := by
  subst hp
  exact bs_pure (fun _ _ _ _ _ _ _ _ _ _ _ _ _ _ _ _ C hl kk => lv_iload C.1 C.2.1 hd (bs_lg_at hl hg) (kk _ hl)) k
theorem bs_lload_n {i : Fin 4} {x : Int64} {pc' : Nat} (hd : decode M.2.1 pc = .ok (.lload_n i, 1)) (hg : bs_lg lv (i : Nat) = some (.long x)) (hp : pc + 1 = pc') (k : bs_B G X M d bc bs h pc' lv (.long x :: st) Q) : bs_B G X M d bc bs h pc lv st Q := by
  subst hp
  exact bs_pure (fun _ _ _ _ _ _ _ _ _ _ _ _ _ _ _ _ C hl kk => lv_lload_n C.1 C.2.1 hd rfl (bs_lg_at hl hg) (kk _ hl)) k
theorem bs_lload {i : Nat} {x : Int64} {pc' : Nat} (hd : decode M.2.1 pc = .ok (.lload i, 2)) (hg : bs_lg lv i = some (.long x)) (hp : pc + 2 = pc') (k : bs_B G X M d bc bs h pc' lv (.long x :: st) Q) : bs_B G X M d bc bs h pc lv st Q := by
  subst hp
  exact bs_pure (fun _ _ _ _ _ _ _ _ _ _ _ _ _ _ _ _ C hl kk => lv_lload C.1 C.2.1 hd (bs_lg_at hl hg) (kk _ hl)) k
/-- a reference's value: an address, or null -/
def bs_isr : Value → Bool
  | .ref _ => true
  | .null => true
  | _ => false
theorem bs_aload_n {i : Fin 4} {x : Value} {pc' : Nat} (hd : decode M.2.1 pc = .ok (.aload_n i, 1)) (hg : bs_lg lv (i : Nat) = some x) (hx : bs_isr x = true) (hp : pc + 1 = pc') (k : bs_B G X M d bc bs h pc' lv (x :: st) Q) : bs_B G X M d bc bs h pc lv st Q := by
  subst hp
  refine bs_pure (fun _ _ _ _ _ _ _ _ _ _ _ _ _ _ _ _ C hl kk => ?_) k
  cases x with
  | ref a => exact lv_aload_n C.1 C.2.1 hd rfl (bs_lg_at hl hg) (kk _ hl)
  | null => exact lv_aload_nN C.1 C.2.1 hd rfl (bs_lg_at hl hg) (kk _ hl)
  | _ => cases hx
theorem bs_aload {i : Nat} {x : Value} {pc' : Nat} (hd : decode M.2.1 pc = .ok (.aload i, 2)) (hg : bs_lg lv i = some x) (hx : bs_isr x = true) (hp : pc + 2 = pc') (k : bs_B G X M d bc bs h pc' lv (x :: st) Q) : bs_B G X M d bc bs h pc lv st Q := by
  subst hp
  refine bs_pure (fun _ _ _ _ _ _ _ _ _ _ _ _ _ _ _ _ C hl kk => ?_) k
  cases x with
  | ref a => exact lv_aload C.1 C.2.1 hd (bs_lg_at hl hg) (kk _ hl)
  | null => exact lv_aloadN C.1 C.2.1 hd (bs_lg_at hl hg) (kk _ hl)
  | _ => cases hx
theorem bs_istore_n {i : Fin 4} {x : Int32} {pc' : Nat} {lv' : List (Nat × Value)} (hd : decode M.2.1 pc = .ok (.istore_n i, 1)) (hn : Nat.blt i M.2.2.1 = true) (hl' : bs_lp i (.int x) lv = lv') (hp : pc + 1 = pc') (k : bs_B G X M d bc bs h pc' lv' st Q) : bs_B G X M d bc bs h pc lv (.int x :: st) Q := by
  subst hp; subst hl'
  exact bs_pure (fun _ _ _ _ _ _ _ _ _ _ _ _ _ _ _ _ C hl kk => lv_istore_n C.1 C.2.1 hd rfl hl (Nat.le_of_ble_eq_true hn) rfl (fun ls' h' => kk _ (bs_li_has h'))) k
theorem bs_istore {i : Nat} {x : Int32} {pc' : Nat} {lv' : List (Nat × Value)} (hd : decode M.2.1 pc = .ok (.istore i, 2)) (hn : Nat.blt i M.2.2.1 = true) (hl' : bs_lp i (.int x) lv = lv') (hp : pc + 2 = pc') (k : bs_B G X M d bc bs h pc' lv' st Q) : bs_B G X M d bc bs h pc lv (.int x :: st) Q := by
  subst hp; subst hl'
  exact bs_pure (fun _ _ _ _ _ _ _ _ _ _ _ _ _ _ _ _ C hl kk => lv_istore C.1 C.2.1 hd hl (Nat.le_of_ble_eq_true hn) rfl (fun ls' h' => kk _ (bs_li_has h'))) k
theorem bs_lstore_n {i : Fin 4} {x : Int64} {pc' : Nat} {lv' : List (Nat × Value)} (hd : decode M.2.1 pc = .ok (.lstore_n i, 1)) (hn : Nat.blt (i + 1) M.2.2.1 = true) (hl' : bs_lq i (.long x) lv = lv') (hp : pc + 1 = pc') (k : bs_B G X M d bc bs h pc' lv' st Q) : bs_B G X M d bc bs h pc lv (.long x :: st) Q := by
  subst hp; subst hl'
  exact bs_pure (fun _ _ _ _ _ _ _ _ _ _ _ _ _ _ _ _ C hl kk => lv_lstore_n C.1 C.2.1 hd rfl hl (Nat.le_of_ble_eq_true hn) rfl (fun ls' h' => kk _ (bs_li_has h'))) k
theorem bs_lstore {i : Nat} {x : Int64} {pc' : Nat} {lv' : List (Nat × Value)} (hd : decode M.2.1 pc = .ok (.lstore i, 2)) (hn : Nat.blt (i + 1) M.2.2.1 = true) (hl' : bs_lq i (.long x) lv = lv') (hp : pc + 2 = pc') (k : bs_B G X M d bc bs h pc' lv' st Q) : bs_B G X M d bc bs h pc lv (.long x :: st) Q := by
  subst hp; subst hl'
  exact bs_pure (fun _ _ _ _ _ _ _ _ _ _ _ _ _ _ _ _ C hl kk => lv_lstore C.1 C.2.1 hd hl (Nat.le_of_ble_eq_true hn) rfl (fun ls' h' => kk _ (bs_li_has h'))) k
theorem bs_astore_n {i : Fin 4} {x : Value} {pc' : Nat} {lv' : List (Nat × Value)} (hd : decode M.2.1 pc = .ok (.astore_n i, 1)) (hx : bs_isr x = true) (hn : Nat.blt i M.2.2.1 = true) (hl' : bs_lp i x lv = lv') (hp : pc + 1 = pc') (k : bs_B G X M d bc bs h pc' lv' st Q) : bs_B G X M d bc bs h pc lv (x :: st) Q := by
  subst hp; subst hl'
  refine bs_pure (fun _ _ _ _ _ _ _ _ _ _ _ _ _ _ _ _ C hl kk => ?_) k
  cases x with
  | ref a => exact lv_astore_n C.1 C.2.1 hd rfl hl (Nat.le_of_ble_eq_true hn) rfl (fun ls' h' => kk _ (bs_li_has h'))
  | null => exact lv_astore_nN C.1 C.2.1 hd rfl hl (Nat.le_of_ble_eq_true hn) rfl (fun ls' h' => kk _ (bs_li_has h'))
  | _ => cases hx
theorem bs_astore {i : Nat} {x : Value} {pc' : Nat} {lv' : List (Nat × Value)} (hd : decode M.2.1 pc = .ok (.astore i, 2)) (hx : bs_isr x = true) (hn : Nat.blt i M.2.2.1 = true) (hl' : bs_lp i x lv = lv') (hp : pc + 2 = pc') (k : bs_B G X M d bc bs h pc' lv' st Q) : bs_B G X M d bc bs h pc lv (x :: st) Q := by
  subst hp; subst hl'
  refine bs_pure (fun _ _ _ _ _ _ _ _ _ _ _ _ _ _ _ _ C hl kk => ?_) k
  cases x with
  | ref a => exact lv_astore C.1 C.2.1 hd hl (Nat.le_of_ble_eq_true hn) rfl (fun ls' h' => kk _ (bs_li_has h'))
  | null => exact lv_astoreN C.1 C.2.1 hd hl (Nat.le_of_ble_eq_true hn) rfl (fun ls' h' => kk _ (bs_li_has h'))
  | _ => cases hx
theorem bs_lg_place {lv : List (Nat × Value)} {i : Nat} {v : Value} (hg : bs_lg lv i = some v) : ∃ k : Nat, lv[k]? = some (i, v) := List.getElem?_of_mem (bs_lg_mem hg)
theorem bs_iinc {i : Nat} {n : Int} {x v : Int32} {pc' : Nat} {lv' : List (Nat × Value)} (hd : decode M.2.1 pc = .ok (.iinc i n, 3)) (hg : bs_lg lv i = some (.int x)) (hv : x + Int32.ofInt n = v) (hn : Nat.blt i M.2.2.1 = true) (hl' : bs_lp i (.int v) lv = lv') (hp : pc + 3 = pc') (k : bs_B G X M d bc bs h pc' lv' st Q) : bs_B G X M d bc bs h pc lv st Q := by
  subst hp; subst hl'
  obtain ⟨j, hj⟩ := bs_lg_place hg
  exact bs_pure (fun _ _ _ _ _ _ _ _ _ _ _ _ _ _ _ _ C hl kk => lv_iinc C.1 C.2.1 hd hl hj hv (Nat.le_of_ble_eq_true hn) rfl (fun ls' h' => kk _ (bs_li_has h'))) k
theorem bs_iadd {x y : Int32} {pc' : Nat} (hd : decode M.2.1 pc = .ok (.iadd, 1)) (hp : pc + 1 = pc') (k : bs_B G X M d bc bs h pc' lv (.int (x + y) :: st) Q) : bs_B G X M d bc bs h pc lv (.int y :: .int x :: st) Q := by
  subst hp
  exact bs_pure (fun _ _ _ _ _ _ _ _ _ _ _ _ _ _ _ _ C hl kk => lv_iadd C.1 C.2.1 hd (kk _ hl)) k
theorem bs_isub {x y : Int32} {pc' : Nat} (hd : decode M.2.1 pc = .ok (.isub, 1)) (hp : pc + 1 = pc') (k : bs_B G X M d bc bs h pc' lv (.int (x - y) :: st) Q) : bs_B G X M d bc bs h pc lv (.int y :: .int x :: st) Q := by
  subst hp
  exact bs_pure (fun _ _ _ _ _ _ _ _ _ _ _ _ _ _ _ _ C hl kk => lv_isub C.1 C.2.1 hd (kk _ hl)) k
theorem bs_imul {x y : Int32} {pc' : Nat} (hd : decode M.2.1 pc = .ok (.imul, 1)) (hp : pc + 1 = pc') (k : bs_B G X M d bc bs h pc' lv (.int (x * y) :: st) Q) : bs_B G X M d bc bs h pc lv (.int y :: .int x :: st) Q := by
  subst hp
  exact bs_pure (fun _ _ _ _ _ _ _ _ _ _ _ _ _ _ _ _ C hl kk => lv_imul C.1 C.2.1 hd (kk _ hl)) k
theorem bs_iand {x y : Int32} {pc' : Nat} (hd : decode M.2.1 pc = .ok (.iand, 1)) (hp : pc + 1 = pc') (k : bs_B G X M d bc bs h pc' lv (.int (x &&& y) :: st) Q) : bs_B G X M d bc bs h pc lv (.int y :: .int x :: st) Q := by
  subst hp
  exact bs_pure (fun _ _ _ _ _ _ _ _ _ _ _ _ _ _ _ _ C hl kk => lv_iand C.1 C.2.1 hd (kk _ hl)) k
theorem bs_ladd {x y : Int64} {pc' : Nat} (hd : decode M.2.1 pc = .ok (.ladd, 1)) (hp : pc + 1 = pc') (k : bs_B G X M d bc bs h pc' lv (.long (x + y) :: st) Q) : bs_B G X M d bc bs h pc lv (.long y :: .long x :: st) Q := by
  subst hp
  exact bs_pure (fun _ _ _ _ _ _ _ _ _ _ _ _ _ _ _ _ C hl kk => lv_ladd C.1 C.2.1 hd (kk _ hl)) k
theorem bs_lmul {x y : Int64} {pc' : Nat} (hd : decode M.2.1 pc = .ok (.lmul, 1)) (hp : pc + 1 = pc') (k : bs_B G X M d bc bs h pc' lv (.long (x * y) :: st) Q) : bs_B G X M d bc bs h pc lv (.long y :: .long x :: st) Q := by
  subst hp
  exact bs_pure (fun _ _ _ _ _ _ _ _ _ _ _ _ _ _ _ _ C hl kk => lv_lmul C.1 C.2.1 hd (kk _ hl)) k
theorem bs_i2l {x : Int32} {pc' : Nat} (hd : decode M.2.1 pc = .ok (.i2l, 1)) (hp : pc + 1 = pc') (k : bs_B G X M d bc bs h pc' lv (.long x.toInt64 :: st) Q) : bs_B G X M d bc bs h pc lv (.int x :: st) Q := by
  subst hp
  exact bs_pure (fun _ _ _ _ _ _ _ _ _ _ _ _ _ _ _ _ C hl kk => lv_i2l C.1 C.2.1 hd rfl (kk _ hl)) k
theorem bs_lcmp {x y : Int64} {pc' : Nat} (hd : decode M.2.1 pc = .ok (.lcmp, 1)) (hp : pc + 1 = pc') (k : bs_B G X M d bc bs h pc' lv (.int (lg_cmp x y) :: st) Q) : bs_B G X M d bc bs h pc lv (.long y :: .long x :: st) Q := by
  subst hp
  exact bs_pure (fun _ _ _ _ _ _ _ _ _ _ _ _ _ _ _ _ C hl kk => W.lcmp C.1 C.2.1 hd (kk _ hl)) k
theorem bs_dup {v : Value} {pc' : Nat} (hd : decode M.2.1 pc = .ok (.dup, 1)) (hv : v.category = 1) (hp : pc + 1 = pc') (k : bs_B G X M d bc bs h pc' lv (v :: v :: st) Q) : bs_B G X M d bc bs h pc lv (v :: st) Q := by
  subst hp
  exact bs_pure (fun _ _ _ _ _ _ _ _ _ _ _ _ _ _ _ _ C hl kk => lv_dup C.1 C.2.1 hd hv (kk _ hl)) k
theorem bs_dup2 {v w : Value} {pc' : Nat} (hd : decode M.2.1 pc = .ok (.dup2, 1)) (hv : v.category = 1) (hw : w.category = 1) (hp : pc + 1 = pc') (k : bs_B G X M d bc bs h pc' lv (v :: w :: v :: w :: st) Q) : bs_B G X M d bc bs h pc lv (v :: w :: st) Q := by
  subst hp
  exact bs_pure (fun _ _ _ _ _ _ _ _ _ _ _ _ _ _ _ _ C hl kk => lv_dup2_11 C.1 C.2.1 hd hv hw (kk _ hl)) k
theorem bs_goto {off : Int} {tgt : Nat} (hd : decode M.2.1 pc = .ok (.goto off, 3)) (ht : (pc : Int) + off = (tgt : Int)) (k : bs_B G X M d bc bs h tgt lv st Q) : bs_B G X M d bc bs h pc lv st Q :=
  bs_pure (fun _ _ _ _ _ _ _ _ _ _ _ _ _ _ _ _ C hl kk => lv_goto C.1 C.2.1 hd ht (kk _ hl)) k
theorem bs_ifnull {x : Nat} {off : Int} {pc' : Nat} (hd : decode M.2.1 pc = .ok (.ifnull off, 3)) (hp : pc + 3 = pc') (k : bs_B G X M d bc bs h pc' lv st Q) : bs_B G X M d bc bs h pc lv (.ref x :: st) Q := by
  subst hp
  exact bs_pure (fun _ _ _ _ _ _ _ _ _ _ _ _ _ _ _ _ C hl kk => lv_ifnull C.1 C.2.1 hd (kk _ hl)) k
theorem bs_ifnullN {off : Int} {tgt : Nat} (hd : decode M.2.1 pc = .ok (.ifnull off, 3)) (ht : (pc : Int) + off = (tgt : Int)) (k : bs_B G X M d bc bs h tgt lv st Q) : bs_B G X M d bc bs h pc lv (.null :: st) Q :=
  bs_pure (fun _ _ _ _ _ _ _ _ _ _ _ _ _ _ _ _ C hl kk => lv_ifnullN C.1 C.2.1 hd ht (kk _ hl)) k
theorem bs_ifnonnull {x : Nat} {off : Int} {tgt : Nat} (hd : decode M.2.1 pc = .ok (.ifnonnull off, 3)) (ht : (pc : Int) + off = (tgt : Int)) (k : bs_B G X M d bc bs h tgt lv st Q) : bs_B G X M d bc bs h pc lv (.ref x :: st) Q :=
  bs_pure (fun _ _ _ _ _ _ _ _ _ _ _ _ _ _ _ _ C hl kk => lv_ifnonnull C.1 C.2.1 hd ht (kk _ hl)) k
theorem bs_ifnonnullN {off : Int} {pc' : Nat} (hd : decode M.2.1 pc = .ok (.ifnonnull off, 3)) (hp : pc + 3 = pc') (k : bs_B G X M d bc bs h pc' lv st Q) : bs_B G X M d bc bs h pc lv (.null :: st) Q := by
  subst hp
  exact bs_pure (fun _ _ _ _ _ _ _ _ _ _ _ _ _ _ _ _ C hl kk => lv_ifnonnullN C.1 C.2.1 hd (kk _ hl)) k
theorem bs_switchIn {dflt lo hi : Int} {offs : Array Int} {len : Nat} {x : Int32} {off : Int} {tgt : Nat} (hd : decode M.2.1 pc = .ok (.tableswitch dflt lo hi offs, len)) (h1 : ¬ x.toInt < lo) (h2 : ¬ hi < x.toInt) (ho : offs[(x.toInt - lo).toNat]? = some off) (ht : (pc : Int) + off = (tgt : Int)) (k : bs_B G X M d bc bs h tgt lv st Q) : bs_B G X M d bc bs h pc lv (.int x :: st) Q :=
  bs_pure (fun _ _ _ _ _ _ _ _ _ _ _ _ _ _ _ _ C hl kk => lv_tableIn C.1 C.2.1 hd h1 h2 ho ht (kk _ hl)) k
theorem bs_switchOut {dflt lo hi : Int} {offs : Array Int} {len : Nat} {x : Int32} {tgt : Nat} (hd : decode M.2.1 pc = .ok (.tableswitch dflt lo hi offs, len)) (h1 : x.toInt < lo ∨ hi < x.toInt) (ht : (pc : Int) + dflt = (tgt : Int)) (k : bs_B G X M d bc bs h tgt lv st Q) : bs_B G X M d bc bs h pc lv (.int x :: st) Q :=
  bs_pure (fun _ _ _ _ _ _ _ _ _ _ _ _ _ _ _ _ C hl kk => lv_tableOut C.1 C.2.1 hd h1 ht (kk _ hl)) k
/-- a branch -/
theorem bs_br {t f : Nat} {st' : List Value} {P : Prop}
    (step : ∀ (p : Program) (l : Launch) (e : Env) (R : Room) (s : State) (m : MethodId) (args : Array Value) (below : List Frame) (meth : Method) (c : Code) (H : Heap) (locs : List Loc) (cells slots : Nat) (QQ : State → Prop) (ls : Array Slot),
      p.tables.exec = Jvm.exec → c.code = M.2.1 → (P → W p l e R s m args below meth c H locs cells slots QQ (F0 m t ls st')) → (¬ P → W p l e R s m args below meth c H locs cells slots QQ (F0 m f ls st')) → W p l e R s m args below meth c H locs cells slots QQ (F0 m pc ls st))
    (kt : P → bs_B G X M d bc bs h t lv st' Q) (kf : ¬ P → bs_B G X M d bc bs h f lv st' Q) : bs_B G X M d bc bs h pc lv st Q := by
  intro p l e R s m args below meth c H locs cells slots QQ ls C hH hS hc hs hl hr
  exact step p l e R s m args below meth c H locs cells slots QQ ls C.1 C.2.1 (fun hp => kt hp p l e R s m args below meth c H locs cells slots QQ ls C hH hS hc hs hl hr) (fun hp => kf hp p l e R s m args below meth c H locs cells slots QQ ls C hH hS hc hs hl hr)
theorem bs_if_eq {x : Int32} {off : Int} {tgt pc' : Nat} (hd : decode M.2.1 pc = .ok (.ifCond .eq off, 3)) (ht : (pc : Int) + off = (tgt : Int)) (hp : pc + 3 = pc') (kt : x = 0 → bs_B G X M d bc bs h tgt lv st Q) (kf : ¬ x = 0 → bs_B G X M d bc bs h pc' lv st Q) : bs_B G X M d bc bs h pc lv (.int x :: st) Q := by
  subst hp
  exact bs_br (P := x = 0) (fun _ _ _ _ _ _ _ _ _ _ _ _ _ _ _ _ hx hb a b => lv_if_eq hx hb hd ht a b) kt kf
theorem bs_if_lt {x : Int32} {off : Int} {tgt pc' : Nat} (hd : decode M.2.1 pc = .ok (.ifCond .lt off, 3)) (ht : (pc : Int) + off = (tgt : Int)) (hp : pc + 3 = pc') (kt : x < 0 → bs_B G X M d bc bs h tgt lv st Q) (kf : ¬ x < 0 → bs_B G X M d bc bs h pc' lv st Q) : bs_B G X M d bc bs h pc lv (.int x :: st) Q := by
  subst hp
  exact bs_br (P := x < 0) (fun _ _ _ _ _ _ _ _ _ _ _ _ _ _ _ _ hx hb a b => lv_if_lt hx hb hd ht a b) kt kf
theorem bs_if_ge {x : Int32} {off : Int} {tgt pc' : Nat} (hd : decode M.2.1 pc = .ok (.ifCond .ge off, 3)) (ht : (pc : Int) + off = (tgt : Int)) (hp : pc + 3 = pc') (kt : 0 ≤ x → bs_B G X M d bc bs h tgt lv st Q) (kf : ¬ 0 ≤ x → bs_B G X M d bc bs h pc' lv st Q) : bs_B G X M d bc bs h pc lv (.int x :: st) Q := by
  subst hp
  exact bs_br (P := 0 ≤ x) (fun _ _ _ _ _ _ _ _ _ _ _ _ _ _ _ _ hx hb a b => lv_if_ge hx hb hd ht a b) kt kf
theorem bs_if_gt {x : Int32} {off : Int} {tgt pc' : Nat} (hd : decode M.2.1 pc = .ok (.ifCond .gt off, 3)) (ht : (pc : Int) + off = (tgt : Int)) (hp : pc + 3 = pc') (kt : 0 < x → bs_B G X M d bc bs h tgt lv st Q) (kf : ¬ 0 < x → bs_B G X M d bc bs h pc' lv st Q) : bs_B G X M d bc bs h pc lv (.int x :: st) Q := by
  subst hp
  exact bs_br (P := 0 < x) (fun _ _ _ _ _ _ _ _ _ _ _ _ _ _ _ _ hx hb a b => lv_if_gt hx hb hd ht a b) kt kf
theorem bs_if_le {x : Int32} {off : Int} {tgt pc' : Nat} (hd : decode M.2.1 pc = .ok (.ifCond .le off, 3)) (ht : (pc : Int) + off = (tgt : Int)) (hp : pc + 3 = pc') (kt : x ≤ 0 → bs_B G X M d bc bs h tgt lv st Q) (kf : ¬ x ≤ 0 → bs_B G X M d bc bs h pc' lv st Q) : bs_B G X M d bc bs h pc lv (.int x :: st) Q := by
  subst hp
  exact bs_br (P := x ≤ 0) (fun _ _ _ _ _ _ _ _ _ _ _ _ _ _ _ _ hx hb a b => lv_if_le hx hb hd ht a b) kt kf
theorem bs_if_ne {x : Int32} {off : Int} {tgt pc' : Nat} (hd : decode M.2.1 pc = .ok (.ifCond .ne off, 3)) (ht : (pc : Int) + off = (tgt : Int)) (hp : pc + 3 = pc') (kt : ¬ x = 0 → bs_B G X M d bc bs h tgt lv st Q) (kf : x = 0 → bs_B G X M d bc bs h pc' lv st Q) : bs_B G X M d bc bs h pc lv (.int x :: st) Q := by
  subst hp
  exact bs_br (P := x = 0) (fun _ _ _ _ _ _ _ _ _ _ _ _ _ _ _ _ hx hb a b => lv_if_ne hx hb hd ht b a) kf kt
theorem bs_icmp_eq {x y : Int32} {off : Int} {tgt pc' : Nat} (hd : decode M.2.1 pc = .ok (.if_icmp .eq off, 3)) (ht : (pc : Int) + off = (tgt : Int)) (hp : pc + 3 = pc') (kt : x = y → bs_B G X M d bc bs h tgt lv st Q) (kf : ¬ x = y → bs_B G X M d bc bs h pc' lv st Q) : bs_B G X M d bc bs h pc lv (.int y :: .int x :: st) Q := by
  subst hp
  exact bs_br (P := x = y) (fun _ _ _ _ _ _ _ _ _ _ _ _ _ _ _ _ hx hb a b => lv_icmp_eq hx hb hd ht a b) kt kf
theorem bs_icmp_lt {x y : Int32} {off : Int} {tgt pc' : Nat} (hd : decode M.2.1 pc = .ok (.if_icmp .lt off, 3)) (ht : (pc : Int) + off = (tgt : Int)) (hp : pc + 3 = pc') (kt : x < y → bs_B G X M d bc bs h tgt lv st Q) (kf : ¬ x < y → bs_B G X M d bc bs h pc' lv st Q) : bs_B G X M d bc bs h pc lv (.int y :: .int x :: st) Q := by
  subst hp
  exact bs_br (P := x < y) (fun _ _ _ _ _ _ _ _ _ _ _ _ _ _ _ _ hx hb a b => lv_icmp_lt hx hb hd ht a b) kt kf
theorem bs_icmp_ge {x y : Int32} {off : Int} {tgt pc' : Nat} (hd : decode M.2.1 pc = .ok (.if_icmp .ge off, 3)) (ht : (pc : Int) + off = (tgt : Int)) (hp : pc + 3 = pc') (kt : y ≤ x → bs_B G X M d bc bs h tgt lv st Q) (kf : ¬ y ≤ x → bs_B G X M d bc bs h pc' lv st Q) : bs_B G X M d bc bs h pc lv (.int y :: .int x :: st) Q := by
  subst hp
  exact bs_br (P := y ≤ x) (fun _ _ _ _ _ _ _ _ _ _ _ _ _ _ _ _ hx hb a b => lv_icmp_ge hx hb hd ht a b) kt kf
theorem bs_icmp_gt {x y : Int32} {off : Int} {tgt pc' : Nat} (hd : decode M.2.1 pc = .ok (.if_icmp .gt off, 3)) (ht : (pc : Int) + off = (tgt : Int)) (hp : pc + 3 = pc') (kt : y < x → bs_B G X M d bc bs h tgt lv st Q) (kf : ¬ y < x → bs_B G X M d bc bs h pc' lv st Q) : bs_B G X M d bc bs h pc lv (.int y :: .int x :: st) Q := by
  subst hp
  exact bs_br (P := y < x) (fun _ _ _ _ _ _ _ _ _ _ _ _ _ _ _ _ hx hb a b => lv_icmp_gt hx hb hd ht a b) kt kf
theorem bs_icmp_le {x y : Int32} {off : Int} {tgt pc' : Nat} (hd : decode M.2.1 pc = .ok (.if_icmp .le off, 3)) (ht : (pc : Int) + off = (tgt : Int)) (hp : pc + 3 = pc') (kt : x ≤ y → bs_B G X M d bc bs h tgt lv st Q) (kf : ¬ x ≤ y → bs_B G X M d bc bs h pc' lv st Q) : bs_B G X M d bc bs h pc lv (.int y :: .int x :: st) Q := by
  subst hp
  exact bs_br (P := x ≤ y) (fun _ _ _ _ _ _ _ _ _ _ _ _ _ _ _ _ hx hb a b => lv_icmp_le hx hb hd ht a b) kt kf
theorem bs_icmp_ne {x y : Int32} {off : Int} {tgt pc' : Nat} (hd : decode M.2.1 pc = .ok (.if_icmp .ne off, 3)) (ht : (pc : Int) + off = (tgt : Int)) (hp : pc + 3 = pc') (kt : ¬ x = y → bs_B G X M d bc bs h tgt lv st Q) (kf : x = y → bs_B G X M d bc bs h pc' lv st Q) : bs_B G X M d bc bs h pc lv (.int y :: .int x :: st) Q := by
  subst hp
  exact bs_br (P := x = y) (fun _ _ _ _ _ _ _ _ _ _ _ _ _ _ _ _ hx hb a b => lv_icmp_ne hx hb hd ht b a) kf kt
/-- returns -/
theorem bs_ret {v : Option Value} (hd : bs_rdec M.2.1 pc v) (hf : bs_rfit M.2.2.2.1 v) (hq : Q v h) : bs_B G X M d bc bs h pc lv v.toList Q := by
  intro p l e R s m args below meth c H locs cells slots QQ ls C hH hS hc hs hl hr
  exact hr v h H locs cells slots pc ls hq hH hS (Nat.le_add_right _ _) (Nat.le_add_right _ _) hf hd
theorem bs_vret (hd : decode M.2.1 pc = .ok (.return_, 1)) (hf : M.2.2.2.1 = none) (hq : Q none h) : bs_B G X M d bc bs h pc lv [] Q := bs_ret (v := none) hd hf hq
theorem bs_iret {x : Int32} (hd : decode M.2.1 pc = .ok (.ireturn, 1)) (hf : M.2.2.2.1 = some .int) (hq : Q (some (.int x)) h) : bs_B G X M d bc bs h pc lv [.int x] Q := bs_ret (v := some (.int x)) hd ⟨_, hf, rfl⟩ hq
theorem bs_zret {x : Int32} (hd : decode M.2.1 pc = .ok (.ireturn, 1)) (hf : M.2.2.2.1 = some .boolean) (hx : x = 0 ∨ x = 1) (hq : Q (some (.int x)) h) : bs_B G X M d bc bs h pc lv [.int x] Q := bs_ret (v := some (.int x)) hd ⟨_, hf, by rcases hx with rfl | rfl <;> decide⟩ hq
theorem bs_lret {x : Int64} (hd : decode M.2.1 pc = .ok (.lreturn, 1)) (hf : M.2.2.2.1 = some .long) (hq : Q (some (.long x)) h) : bs_B G X M d bc bs h pc lv [.long x] Q := bs_ret (v := some (.long x)) hd hf hq
theorem bs_aret {x : Nat} {n : String} (hd : decode M.2.1 pc = .ok (.areturn, 1)) (hf : M.2.2.2.1 = some (.object n)) (hq : Q (some (.ref x)) h) : bs_B G X M d bc bs h pc lv [.ref x] Q := bs_ret (v := some (.ref x)) hd ⟨n, hf⟩ hq
theorem bs_aretN {n : String} (hd : decode M.2.1 pc = .ok (.areturn, 1)) (hf : M.2.2.2.1 = some (.object n)) (hq : Q (some .null) h) : bs_B G X M d bc bs h pc lv [.null] Q := bs_ret (v := some .null) hd ⟨n, hf⟩ hq
/-- another number of the same value on the stack's top -/
theorem bs_topi {x : Int32} (y : Int32) (hy : x = y) (k : bs_B G X M d bc bs h pc lv (.int y :: st) Q) : bs_B G X M d bc bs h pc lv (.int x :: st) Q := hy ▸ k
/-! the heap -/
def bs_set (h : Hp) (a : Nat) (e : va_E) : Hp := fun b => if b = a then some e else h b
theorem bs_set_self {h : Hp} {a : Nat} {e : va_E} : bs_set h a e a = some e := if_pos rfl
theorem bs_set_ne {h : Hp} {a b : Nat} {e : va_E} (hb : b ≠ a) : bs_set h a e b = h b := if_neg hb
theorem bs_H.set {ws : va_W} {H1 : Heap} {a : Nat} {e0 e : va_E} {k : Nat} (hk : ws[k]? = some (a, e0)) (hD0 : va_D (fun q => G.2.2 ≤ q) ws) (hh : ∀ (a : Nat) (e : va_E), h a = some e → ∃ k : Nat, ws[k]? = some (a, e)) (hP : va_P G.1 vwCl (ws.set k (a, e)) H1) (hD : va_D (fun q => G.2.2 ≤ q) (ws.set k (a, e))) : bs_H G (bs_set h a e) H1 := by
  refine ⟨_, hP, hD, fun b e' hb => ?_⟩
  by_cases hba : b = a
  · subst hba
    rw [bs_set_self] at hb
    cases hb
    exact ⟨k, List.getElem?_set_self (List.getElem?_eq_some_iff.mp hk).1⟩
  · rw [bs_set_ne hba] at hb
    obtain ⟨j, hj⟩ := hh b e' hb
    refine ⟨j, ?_⟩
    rw [List.getElem?_set_ne, hj]
    intro hkj
    subst hkj
    rw [hk] at hj
    cases hj
    exact hba rfl
theorem bs_H.push {ws : va_W} {H1 : Heap} {q : Nat} {e : va_E} (hh : ∀ (a : Nat) (e : va_E), h a = some e → ∃ k : Nat, ws[k]? = some (a, e)) (hP : va_P G.1 vwCl (ws ++ [(q, e)]) H1) (hD : va_D (fun q => G.2.2 ≤ q) (ws ++ [(q, e)])) : h q = none ∧ G.2.2 ≤ q ∧ bs_H G (bs_set h q e) H1 := by
  have hq : (ws ++ [(q, e)])[ws.length]? = some (q, e) := by simp
  have hn : h q = none := by
    cases hc : h q with
    | none => rfl
    | some e' =>
      obtain ⟨k, hk⟩ := hh q e' hc
      have hl := (List.getElem?_eq_some_iff.mp hk).1
      have h1 : (ws ++ [(q, e)])[k]? = some (q, e') := by rw [List.getElem?_append_left hl]; exact hk
      have := hD.1 k ws.length _ _ h1 hq rfl
      omega
  refine ⟨hn, hD.2 _ _ hq, _, hP, hD, fun b e' hb => ?_⟩
  by_cases hba : b = q
  · subst hba
    rw [bs_set_self] at hb
    cases hb
    exact ⟨_, hq⟩
  · rw [bs_set_ne hba] at hb
    obtain ⟨j, hj⟩ := hh b e' hb
    exact ⟨j, by rw [List.getElem?_append_left (List.getElem?_eq_some_iff.mp hj).1]; exact hj⟩
/-- what the tables say of a kind of objects -/
def bs_CL (ci : Nat) (C : String) (T : u_T) (N : Nat) (ty0 : Nat → FieldType) : Prop := vwCl[ci]? = some (C, T, N) ∧ (∀ w ∈ u_ws C T N, w ∈ lw_tbl ∧ bs_okw w = true) ∧ (∀ j, j < N → parseFieldDescriptor (T j).2.2.1 = some (ty0 j)) ∧ (∀ a, a < N → ∀ b, b < N → a ≠ b → (T a).2.1 ≠ (T b).2.1)
theorem bs_in_of {ws : List Cond} (hg : GoodIn lw_tbl ws) (hk : ws.all bs_okw = true) : ∀ w ∈ ws, w ∈ lw_tbl ∧ bs_okw w = true := fun w hw => ⟨(hg w hw).1, List.all_eq_true.mp hk w hw⟩
/-- a field's link: of the caller's pool entry, to the field k of the kind ci -/
def bs_FL (own : String) (idx ci k : Nat) (ty : FieldType) (fin : Bool) : Prop := ∃ (C : String) (T : u_T) (N : Nat) (ty0 : Nat → FieldType), bs_CL ci C T N ty0 ∧ k < N ∧ ty0 k = ty ∧ (T k).2.2.2 = fin ∧ (T k).1 = C ∧ (Cond.fieldLink own idx (T k).1 (T k).2.1 (T k).2.2.1 ∈ lw_tbl ∨ ∃ host, Cond.fieldLinkNest own idx (T k).1 (T k).2.1 (T k).2.2.1 host ∈ lw_tbl)
theorem bs_fl {own : String} {idx ci k : Nat} {ty : FieldType} {fin : Bool} {C : String} {T : u_T} {N : Nat} {ty0 : Nat → FieldType} (hc : bs_CL ci C T N ty0) (hk : k < N) (ht : ty0 k = ty) (hf : (T k).2.2.2 = fin) (hC : (T k).1 = C) (hl : Cond.fieldLink own idx (T k).1 (T k).2.1 (T k).2.2.1 ∈ lw_tbl ∨ ∃ host, Cond.fieldLinkNest own idx (T k).1 (T k).2.1 (T k).2.2.1 host ∈ lw_tbl) : bs_FL own idx ci k ty fin := ⟨C, T, N, ty0, hc, hk, ht, hf, hC, hl⟩
theorem bs_getf {idx ci k : Nat} {ty : FieldType} {fin : Bool} {a : Nat} {fs : List Value} {v : Value} {pc' : Nat} (hl : bs_FL M.1.cls idx ci k ty fin) (hd : decode M.2.1 pc = .ok (.getfield idx, 3)) (hh : h a = some (.inr (ci, fs))) (hv : fs[k]? = some v) (hp : pc + 3 = pc') (kk : bs_B G X M d bc bs h pc' lv (v :: st) Q) : bs_B G X M d bc bs h pc lv (.ref a :: st) Q := by
  subst hp
  obtain ⟨C, T, N, ty0, ⟨hc, hin, hty, hnm⟩, hk, -, -, hC, hlk⟩ := hl
  intro p l e R s m args below meth c H locs cells slots QQ ls Cx hH hS hc' hs hl hr
  have hTB := Cx.2.2.2.2.1.2.1
  have hts : ∀ w ∈ u_ws C T N, w.before args s = true := fun w hw => hTB w (hin w hw).1 (hin w hw).2 args
  obtain ⟨ws, hP, hD, hw⟩ := id hH
  obtain ⟨q0, hq0⟩ := hw a _ hh
  rcases hlk with hlk | ⟨host, hlk⟩
  · exact va_get Cx.1 Cx.2.1 hts (fun w h => h) Cx.2.2.2.1 Cx.2.2.2.2.1.1 hP q0 hq0 hc k hk (hTB _ hlk rfl args) (fun _ h9 => h9) hv hd (kk p l e R s m args below meth c H locs cells slots QQ ls Cx hH hS hc' hs hl hr)
  · exact va_getN Cx.1 Cx.2.1 hts (fun w h => h) Cx.2.2.2.1 Cx.2.2.2.2.1.1 hP q0 hq0 hc k hk (hTB _ hlk rfl args) (fun _ h9 => h9) hv hd (kk p l e R s m args below meth c H locs cells slots QQ ls Cx hH hS hc' hs hl hr)
theorem bs_putf {idx ci k : Nat} {ty : FieldType} {a : Nat} {fs : List Value} {v : Value} {pc' : Nat} (hl : bs_FL M.1.cls idx ci k ty false) (hd : decode M.2.1 pc = .ok (.putfield idx, 3)) (hh : h a = some (.inr (ci, fs))) (hn : narrow ty v = v) (hfit : fits ty v = true) (hlen : Nat.blt k fs.length = true) (hp : pc + 3 = pc') (kk : bs_B G X M d bc bs (bs_set h a (.inr (ci, fs.set k v))) pc' lv st Q) : bs_B G X M d bc bs h pc lv (v :: .ref a :: st) Q := by
  subst hp
  obtain ⟨C, T, N, ty0, ⟨hc, hin, hty, hnm⟩, hk, ht, hfin, hC, hlk⟩ := hl
  intro p l e R s m args below meth c H locs cells slots QQ ls Cx hH hS hc' hs hl hr
  have hTB := Cx.2.2.2.2.1.2.1
  have hts : ∀ w ∈ u_ws C T N, w.before args s = true := fun w hw => hTB w (hin w hw).1 (hin w hw).2 args
  obtain ⟨ws, hP, hD, hw⟩ := id hH
  obtain ⟨q0, hq0⟩ := hw a _ hh
  have hdd : parseFieldDescriptor (T k).2.2.1 = some ty := by rw [hty k hk, ht]
  rcases hlk with hlk | ⟨host, hlk⟩
  · exact va_put Cx.1 Cx.2.1 hts (fun w h => h) ty0 hty hnm Cx.2.2.2.1 Cx.2.2.2.2.1.1 hP hD hS q0 hq0 hc k hk (hTB _ hlk rfl args) (fun _ h9 => h9) hfin hdd hn hfit (Nat.le_of_ble_eq_true hlen) hd (fun H1 locs1 hP1 hD1 hS1 => kk p l e R s m args below meth c H1 locs1 cells slots QQ ls Cx (bs_H.set hq0 hD hw hP1 hD1) hS1 hc' hs hl hr)
  · exact va_putN Cx.1 Cx.2.1 hts (fun w h => h) ty0 hty hnm Cx.2.2.2.1 Cx.2.2.2.2.1.1 hP hD hS q0 hq0 hc k hk (hTB _ hlk rfl args) (fun _ h9 => h9) hfin hdd hn hfit (Nat.le_of_ble_eq_true hlen) hd (fun H1 locs1 hP1 hD1 hS1 => kk p l e R s m args below meth c H1 locs1 cells slots QQ ls Cx (bs_H.set hq0 hD hw hP1 hD1) hS1 hc' hs hl hr)
/-- a final field, in a constructor of its own -/
def bs_FF (own : String) (idx ci k : Nat) (ty : FieldType) : Prop := ∃ (T : u_T) (N : Nat) (ty0 : Nat → FieldType), bs_CL ci own T N ty0 ∧ k < N ∧ ty0 k = ty ∧ (T k).2.2.2 = true ∧ (T k).1 = own ∧ Cond.fieldLink own idx (T k).1 (T k).2.1 (T k).2.2.1 ∈ lw_tbl
theorem bs_ff {own : String} {idx ci k : Nat} {ty : FieldType} {T : u_T} {N : Nat} {ty0 : Nat → FieldType} (hc : bs_CL ci own T N ty0) (hk : k < N) (ht : ty0 k = ty) (hf : (T k).2.2.2 = true) (hC : (T k).1 = own) (hl : Cond.fieldLink own idx (T k).1 (T k).2.1 (T k).2.2.1 ∈ lw_tbl) : bs_FF own idx ci k ty := ⟨T, N, ty0, hc, hk, ht, hf, hC, hl⟩
theorem bs_putF {idx ci k : Nat} {ty : FieldType} {a : Nat} {fs : List Value} {v : Value} {pc' : Nat} (hl : bs_FF M.1.cls idx ci k ty) (hd : decode M.2.1 pc = .ok (.putfield idx, 3)) (hi : M.1.name = "<init>") (hh : h a = some (.inr (ci, fs))) (hn : narrow ty v = v) (hfit : fits ty v = true) (hlen : Nat.blt k fs.length = true) (hp : pc + 3 = pc') (kk : bs_B G X M d bc bs (bs_set h a (.inr (ci, fs.set k v))) pc' lv st Q) : bs_B G X M d bc bs h pc lv (v :: .ref a :: st) Q := by
  subst hp
  obtain ⟨T, N, ty0, ⟨hc, hin, hty, hnm⟩, hk, ht, hfin, hC, hlk⟩ := hl
  intro p l e R s m args below meth c H locs cells slots QQ ls Cx hH hS hc' hs hl hr
  have hTB := Cx.2.2.2.2.1.2.1
  have hts : ∀ w ∈ u_ws M.1.cls T N, w.before args s = true := fun w hw => hTB w (hin w hw).1 (hin w hw).2 args
  obtain ⟨ws, hP, hD, hw⟩ := id hH
  obtain ⟨q0, hq0⟩ := hw a _ hh
  have hdd : parseFieldDescriptor (T k).2.2.1 = some ty := by rw [hty k hk, ht]
  have hnm2 : meth.name = "<init>" := Cx.2.2.2.2.2.2.2.2.2.trans hi
  exact va_putF Cx.1 Cx.2.1 hts (fun w h => h) ty0 hty hnm Cx.2.2.2.1 Cx.2.2.2.2.1.1 hP hD hS q0 hq0 hc k hk (hTB _ hlk rfl args) (fun _ h9 => h9) hfin hnm2 hC hdd hn hfit (Nat.le_of_ble_eq_true hlen) hd (fun H1 locs1 hP1 hD1 hS1 => kk p l e R s m args below meth c H1 locs1 cells slots QQ ls Cx (bs_H.set hq0 hD hw hP1 hD1) hS1 hc' hs hl hr)
/-! arrays: kind 0 ints, 1 booleans, 2 Allocations, 3 Pointers, 4 Cells -/
theorem bs_iald {a n : Nat} {f : Nat → Int32} {i : Int32} {pc' : Nat} (hd : decode M.2.1 pc = .ok (.iaload, 1)) (hh : h a = some (.inl (G.2.1 0, n, .inl f))) (hin : vp_in i n) (hp : pc + 1 = pc') (kk : bs_B G X M d bc bs h pc' lv (.int (f i.toNatClampNeg) :: st) Q) : bs_B G X M d bc bs h pc lv (.int i :: .ref a :: st) Q := by
  subst hp
  intro p l e R s m args below meth c H locs cells slots QQ ls Cx hH hS hc' hs hl hr
  obtain ⟨ws, hP, hD, hw⟩ := id hH
  obtain ⟨q0, hq0⟩ := hw a _ hh
  exact va_iald Cx.1 Cx.2.1 Cx.2.2.2.2.1.1 hP q0 0 hq0 rfl hin hd (kk p l e R s m args below meth c H locs cells slots QQ ls Cx hH hS hc' hs hl hr)
theorem bs_zald {a n : Nat} {f : Nat → Int32} {i : Int32} {pc' : Nat} (hd : decode M.2.1 pc = .ok (.baload, 1)) (hh : h a = some (.inl (G.2.1 1, n, .inl f))) (hin : vp_in i n) (hp : pc + 1 = pc') (kk : bs_B G X M d bc bs h pc' lv (.int (f i.toNatClampNeg) :: st) Q) : bs_B G X M d bc bs h pc lv (.int i :: .ref a :: st) Q := by
  subst hp
  intro p l e R s m args below meth c H locs cells slots QQ ls Cx hH hS hc' hs hl hr
  obtain ⟨ws, hP, hD, hw⟩ := id hH
  obtain ⟨q0, hq0⟩ := hw a _ hh
  exact va_zald Cx.1 Cx.2.1 Cx.2.2.2.2.1.1 hP q0 1 hq0 rfl hin hd (kk p l e R s m args below meth c H locs cells slots QQ ls Cx hH hS hc' hs hl hr)
theorem bs_iast {a n : Nat} {f : Nat → Int32} {i x : Int32} {pc' : Nat} (hd : decode M.2.1 pc = .ok (.iastore, 1)) (hh : h a = some (.inl (G.2.1 0, n, .inl f))) (hin : vp_in i n) (hp : pc + 1 = pc') (kk : bs_B G X M d bc bs (bs_set h a (.inl (G.2.1 0, n, .inl (upd f i.toNatClampNeg x)))) pc' lv st Q) : bs_B G X M d bc bs h pc lv (.int x :: .int i :: .ref a :: st) Q := by
  subst hp
  intro p l e R s m args below meth c H locs cells slots QQ ls Cx hH hS hc' hs hl hr
  obtain ⟨ws, hP, hD, hw⟩ := id hH
  obtain ⟨q0, hq0⟩ := hw a _ hh
  exact va_iast Cx.1 Cx.2.1 Cx.2.2.2.2.1.1 hP hD hS q0 0 hq0 rfl hin hd (fun H1 locs1 hP1 hD1 hS1 => kk p l e R s m args below meth c H1 locs1 cells slots QQ ls Cx (bs_H.set hq0 hD hw hP1 hD1) hS1 hc' hs hl hr)
theorem bs_zast {a n : Nat} {f : Nat → Int32} {i x : Int32} {pc' : Nat} (hd : decode M.2.1 pc = .ok (.bastore, 1)) (hh : h a = some (.inl (G.2.1 1, n, .inl f))) (hin : vp_in i n) (hp : pc + 1 = pc') (kk : bs_B G X M d bc bs (bs_set h a (.inl (G.2.1 1, n, .inl (upd f i.toNatClampNeg (vp_nar .boolean x))))) pc' lv st Q) : bs_B G X M d bc bs h pc lv (.int x :: .int i :: .ref a :: st) Q := by
  subst hp
  intro p l e R s m args below meth c H locs cells slots QQ ls Cx hH hS hc' hs hl hr
  obtain ⟨ws, hP, hD, hw⟩ := id hH
  obtain ⟨q0, hq0⟩ := hw a _ hh
  exact va_zast Cx.1 Cx.2.1 Cx.2.2.2.2.1.1 hP hD hS q0 1 hq0 rfl hin hd (fun H1 locs1 hP1 hD1 hS1 => kk p l e R s m args below meth c H1 locs1 cells slots QQ ls Cx (bs_H.set hq0 hD hw hP1 hD1) hS1 hc' hs hl hr)
theorem bs_alen {a t : Nat} {x : vp_A} {pc' : Nat} (hd : decode M.2.1 pc = .ok (.arraylength, 1)) (hh : h a = some (.inl (G.2.1 t, x))) (ht : Nat.blt t 5 = true) (hp : pc + 1 = pc') (kk : bs_B G X M d bc bs h pc' lv (.int (Int32.ofNat x.1) :: st) Q) : bs_B G X M d bc bs h pc lv (.ref a :: st) Q := by
  subst hp
  intro p l e R s m args below meth c H locs cells slots QQ ls Cx hH hS hc' hs hl hr
  obtain ⟨ws, hP, hD, hw⟩ := id hH
  obtain ⟨q0, hq0⟩ := hw a _ hh
  have ht := Nat.le_of_ble_eq_true ht
  have hty : ∃ ty, (bs_TYS G.2.1)[t]? = some (G.2.1 t, ty) := by
    match t, ht with
    | 0, _ => exact ⟨_, rfl⟩
    | 1, _ => exact ⟨_, rfl⟩
    | 2, _ => exact ⟨_, rfl⟩
    | 3, _ => exact ⟨_, rfl⟩
    | 4, _ => exact ⟨_, rfl⟩
  obtain ⟨ty, hty⟩ := hty
  exact va_alen Cx.1 Cx.2.1 Cx.2.2.2.2.1.1 hP q0 t hq0 hty rfl hd (kk p l e R s m args below meth c H locs cells slots QQ ls Cx hH hS hc' hs hl hr)
/-- which class the references of an array of a kind are of -/
def bs_rc (t : Nat) : String := match t with
  | 2 => RX0
  | 3 => RX3
  | _ => RX2
theorem bs_TYS_r {ct : Nat → ClassId} : ∀ t : Nat, (t = 2 ∨ t = 3 ∨ t = 4) → (bs_TYS ct)[t]? = some (ct t, .object (bs_rc t)) := by
  rintro t (rfl | rfl | rfl) <;> rfl
theorem bs_aald {a n t : Nat} {f : Nat → Option Nat} {i : Int32} {v : Value} {pc' : Nat} (hd : decode M.2.1 pc = .ok (.aaload, 1)) (hh : h a = some (.inl (G.2.1 t, n, .inr (.inr (.inr (.inr f)))))) (ht : t = 2 ∨ t = 3 ∨ t = 4) (hin : vp_in i n) (hv : va_rf (f i.toNatClampNeg) = v) (hp : pc + 1 = pc') (kk : bs_B G X M d bc bs h pc' lv (v :: st) Q) : bs_B G X M d bc bs h pc lv (.int i :: .ref a :: st) Q := by
  subst hp; subst hv
  intro p l e R s m args below meth c H locs cells slots QQ ls Cx hH hS hc' hs hl hr
  obtain ⟨ws, hP, hD, hw⟩ := id hH
  obtain ⟨q0, hq0⟩ := hw a _ hh
  exact va_aldq Cx.1 Cx.2.1 Cx.2.2.2.2.1.1 hP q0 t hq0 (bs_TYS_r t ht) hin hd (kk p l e R s m args below meth c H locs cells slots QQ ls Cx hH hS hc' hs hl hr)
theorem bs_aast {a n t v ci : Nat} {r : vw_C} {vs : List Value} {f : Nat → Option Nat} {i : Int32} {pc' : Nat} (hd : decode M.2.1 pc = .ok (.aastore, 1)) (hh : h a = some (.inl (G.2.1 t, n, .inr (.inr (.inr (.inr f)))))) (ht : t = 2 ∨ t = 3 ∨ t = 4) (hv : h v = some (.inr (ci, vs))) (hc : vwCl[ci]? = some r) (hr1 : bs_rc t = r.1) (hin : vp_in i n) (hp : pc + 1 = pc') (kk : bs_B G X M d bc bs (bs_set h a (.inl (G.2.1 t, n, .inr (.inr (.inr (.inr (va_up f i.toNatClampNeg (some v)))))))) pc' lv st Q) : bs_B G X M d bc bs h pc lv (.ref v :: .int i :: .ref a :: st) Q := by
  subst hp
  intro p l e R s m args below meth c H locs cells slots QQ ls Cx hH hS hc' hs hl hr
  obtain ⟨ws, hP, hD, hw⟩ := id hH
  obtain ⟨q0, hq0⟩ := hw a _ hh
  obtain ⟨qk, hqk⟩ := hw v _ hv
  exact va_astq Cx.1 Cx.2.1 Cx.2.2.2.2.1.1 hP hD hS q0 t qk ci hq0 (by rw [bs_TYS_r t ht, hr1]) hqk hc hin hd (fun H1 locs1 hP1 hD1 hS1 => kk p l e R s m args below meth c H1 locs1 cells slots QQ ls Cx (bs_H.set hq0 hD hw hP1 hD1) hS1 hc' hs hl hr)
/-! making cells -/
theorem bs_new {idx ci N : Nat} {C : String} {T : u_T} {ty0 : Nat → FieldType} {fs : List Value} {pc' bc' bs' : Nat} (hd : decode M.2.1 pc = .ok (.new idx, 3)) (hcl : bs_CL ci C T N ty0) (hk : Cond.classLink M.1.cls idx C ∈ lw_tbl) (hi : Cond.instantiable C N ∈ lw_tbl) (hn : Cond.initialized C ∈ lw_tbl) (hfs : ∀ j, j < N → defaultValue (ty0 j) = vp_V fs j) (hbc : bc' + 1 ≤ bc) (hbs : bs' + N ≤ bs) (hp : pc + 3 = pc') (kk : ∀ a : Nat, h a = none → bs_B G X M d bc' bs' (bs_set h a (.inr (ci, fs))) pc' lv (.ref a :: st) Q) : bs_B G X M d bc bs h pc lv st Q := by
  subst hp
  obtain ⟨hc, hin, hty, hnm⟩ := hcl
  intro p l e R s m args below meth c H locs cells slots QQ ls Cx hH hS hc' hs hl hr
  have hTB := Cx.2.2.2.2.1.2.1
  have hts : ∀ w ∈ u_ws C T N, w.before args s = true := fun w hw => hTB w (hin w hw).1 (hin w hw).2 args
  obtain ⟨ws, hP, hD, hw⟩ := id hH
  refine va_new Cx.1 Cx.2.1 hts (fun w h => h) ty0 hty Cx.2.2.2.1 (hTB _ hk rfl args) (hTB _ hi rfl args) (hTB _ hn rfl args) Cx.2.2.2.2.1.1 hP hD hS (fun q hq => Nat.le_trans Cx.2.2.2.2.1.2.2 hq) hc hfs (by omega) (by omega) hd (fun q H1 hP1 hD1 hS1 => ?_)
  obtain ⟨h1, h2, h3⟩ := bs_H.push hw hP1 hD1
  exact kk q h1 p l e R s m args below meth c H1 locs (cells + 1) (slots + N) QQ ls Cx h3 hS1 (by omega) (by omega) hl (fun v h' H' locs' cells' slots' pc' ls' a1 a2 a3 a4 a5 => hr v h' H' locs' cells' slots' pc' ls' a1 a2 a3 (by omega) (by omega))
theorem bs_same {U : State} {c1 c2 : ClassId} {ty : FieldType} {D : va_G} {cl : List vw_C} {t1 t2 : List (ClassId × FieldType)} {k1 k2 : Nat} (h1 : va_K D cl t1 U) (h2 : va_K D cl t2 U) (e1 : t1[k1]? = some (c1, ty)) (e2 : t2[k2]? = some (c2, ty)) : c1 = c2 := by
  have a1 := (h1.2 k1 _ e1).2
  have a2 := (h2.2 k2 _ e2).2
  cases ty with
  | object C =>
    obtain ⟨_, _, _, _, _, b1⟩ := a1
    obtain ⟨_, _, _, _, _, b2⟩ := a2
    exact Option.some.inj (b1.symm.trans b2)
  | _ => exact Option.some.inj (a1.symm.trans a2)
theorem bs_newI {n : Int32} {N : Nat} {pc' bc' bs' : Nat} (hd : decode M.2.1 pc = .ok (.newarray .int, 2)) (hk : Cond.arrayClass .int ∈ lw_tbl) (hn : ¬ n < 0) (hN : n.toNatClampNeg = N) (hb : N ≤ 100000) (hbc : bc' + 1 ≤ bc) (hbs : bs' + N ≤ bs) (hp : pc + 2 = pc') (kk : ∀ a : Nat, h a = none → bs_B G X M d bc' bs' (bs_set h a (.inl (G.2.1 0, N, .inl (fun _ => 0)))) pc' lv (.ref a :: st) Q) : bs_B G X M d bc bs h pc lv (.int n :: st) Q := by
  subst hp
  intro p l e R s m args below meth c H locs cells slots QQ ls Cx hH hS hc' hs hl hr
  have hTB := Cx.2.2.2.2.1.2.1
  obtain ⟨ws, hP, hD, hw⟩ := id hH
  refine va_newa (atype := .int) (ty := .int) (a0 := (N, .inl (fun _ => 0))) Cx.1 Cx.2.1 (hTB _ hk rfl args) rfl Cx.2.2.2.2.1.1 hP hD hS (fun q hq => Nat.le_trans Cx.2.2.2.2.1.2.2 hq) (fun _ => rfl) hn hN (by show N * 4 ≤ 536870912; omega) (by omega) (by omega) hd (fun q cA H1 hK1 hP1 hD1 hS1 => ?_)
  have e : G.2.1 0 = cA := bs_same Cx.2.2.2.2.1.1 hK1 (k1 := 0) (k2 := 5) (ty := .int) rfl rfl
  subst e
  obtain ⟨h1, h2, h3⟩ := bs_H.push hw hP1 hD1
  exact kk q h1 p l e R s m args below meth c H1 locs (cells + 1) (slots + N) QQ ls Cx h3 hS1 (by omega) (by omega) hl (fun v h' H' locs' cells' slots' pc' ls' a1 a2 a3 a4 a5 => hr v h' H' locs' cells' slots' pc' ls' a1 a2 a3 (by omega) (by omega))
theorem bs_newZ {n : Int32} {N : Nat} {pc' bc' bs' : Nat} (hd : decode M.2.1 pc = .ok (.newarray .boolean, 2)) (hk : Cond.arrayClass .boolean ∈ lw_tbl) (hn : ¬ n < 0) (hN : n.toNatClampNeg = N) (hb : N ≤ 100000) (hbc : bc' + 1 ≤ bc) (hbs : bs' + N ≤ bs) (hp : pc + 2 = pc') (kk : ∀ a : Nat, h a = none → bs_B G X M d bc' bs' (bs_set h a (.inl (G.2.1 1, N, .inl (fun _ => 0)))) pc' lv (.ref a :: st) Q) : bs_B G X M d bc bs h pc lv (.int n :: st) Q := by
  subst hp
  intro p l e R s m args below meth c H locs cells slots QQ ls Cx hH hS hc' hs hl hr
  have hTB := Cx.2.2.2.2.1.2.1
  obtain ⟨ws, hP, hD, hw⟩ := id hH
  refine va_newa (atype := .boolean) (ty := .boolean) (a0 := (N, .inl (fun _ => 0))) Cx.1 Cx.2.1 (hTB _ hk rfl args) rfl Cx.2.2.2.2.1.1 hP hD hS (fun q hq => Nat.le_trans Cx.2.2.2.2.1.2.2 hq) (fun _ => rfl) hn hN (by show N * 1 ≤ 536870912; omega) (by omega) (by omega) hd (fun q cA H1 hK1 hP1 hD1 hS1 => ?_)
  have e : G.2.1 1 = cA := bs_same Cx.2.2.2.2.1.1 hK1 (k1 := 1) (k2 := 5) (ty := .boolean) rfl rfl
  subst e
  obtain ⟨h1, h2, h3⟩ := bs_H.push hw hP1 hD1
  exact kk q h1 p l e R s m args below meth c H1 locs (cells + 1) (slots + N) QQ ls Cx h3 hS1 (by omega) (by omega) hl (fun v h' H' locs' cells' slots' pc' ls' a1 a2 a3 a4 a5 => hr v h' H' locs' cells' slots' pc' ls' a1 a2 a3 (by omega) (by omega))
theorem bs_newq {t idx : Nat} {n : Int32} {N : Nat} {pc' bc' bs' : Nat} (hd : decode M.2.1 pc = .ok (.anewarray idx, 3)) (ht : t = 2 ∨ t = 3 ∨ t = 4) (hl : Cond.classLink M.1.cls idx (bs_rc t) ∈ lw_tbl) (hk : Cond.arrayOver (.object (bs_rc t)) ∈ lw_tbl) (hn : ¬ n < 0) (hN : n.toNatClampNeg = N) (hb : N ≤ 100000) (hbc : bc' + 1 ≤ bc) (hbs : bs' + N ≤ bs) (hp : pc + 3 = pc') (kk : ∀ a : Nat, h a = none → bs_B G X M d bc' bs' (bs_set h a (.inl (G.2.1 t, N, .inr (.inr (.inr (.inr (fun _ => none))))))) pc' lv (.ref a :: st) Q) : bs_B G X M d bc bs h pc lv (.int n :: st) Q := by
  subst hp
  intro p l e R s m args below meth c H locs cells slots QQ ls Cx hH hS hc' hs hll hr
  have hTB := Cx.2.2.2.2.1.2.1
  obtain ⟨ws, hP, hD, hw⟩ := id hH
  refine va_newq Cx.1 Cx.2.1 Cx.2.2.2.1 (hTB _ hl rfl args) (va_AO.of (hTB _ hk rfl args)) Cx.2.2.2.2.1.1 hP hD hS (fun q hq => Nat.le_trans Cx.2.2.2.2.1.2.2 hq) hn hN (by omega) (by omega) (by omega) hd (fun q cA H1 hK1 hP1 hD1 hS1 => ?_)
  have e : G.2.1 t = cA := bs_same Cx.2.2.2.2.1.1 hK1 (k1 := t) (k2 := 5) (ty := .object (bs_rc t)) (bs_TYS_r t ht) rfl
  subst e
  obtain ⟨h1, h2, h3⟩ := bs_H.push hw hP1 hD1
  exact kk q h1 p l e R s m args below meth c H1 locs (cells + 1) (slots + N) QQ ls Cx h3 hS1 (by omega) (by omega) hll (fun v h' H' locs' cells' slots' pc' ls' a1 a2 a3 a4 a5 => hr v h' H' locs' cells' slots' pc' ls' a1 a2 a3 (by omega) (by omega))
theorem bs_obj {idx : Nat} {a : Nat} {pc' : Nat} (hd : decode M.2.1 pc = .ok (.invokespecial idx, 3)) (hl : Cond.methodLink M.1.cls idx objectInit ∈ lw_tbl) (h1 : Cond.instanceMethod objectInit ∈ lw_tbl) (h2 : Cond.code objectInit ⟨#[0xb1]⟩ 1 none ∈ lw_tbl) (hdd : 1 ≤ d) (hW : Nat.ble (st.map fun v => v.category).sum 8 = true) (hp : pc + 3 = pc') (k : bs_B G X M d bc bs h pc' lv st Q) : bs_B G X M d bc bs h pc lv (.ref a :: st) Q := by
  subst hp
  refine bs_pure (fun p l e R s m args below meth c H locs cells slots QQ ls C hl' kk => ?_) k
  have hTB := C.2.2.2.2.1.2.1
  have h8 := Nat.le_of_ble_eq_true hW
  refine W.objInit C.1 C.2.1 C.2.2.2.1 (hTB _ hl rfl args) (hTB _ h1 rfl args) (hTB _ h2 rfl args) rfl (by rw [C.2.2.1]; exact hl'.1) rfl hd (Nat.le_trans hdd C.2.2.2.2.2.2.1) ?_ (kk ls hl')
  have h9 := C.2.2.2.2.2.2.2.1
  show 0 + (st.map fun v => v.category).sum + 12 ≤ R.locals
  omega
/-! calls -/
def bs_ML (own : String) (idx : Nat) (y : MethodName) : Prop := Cond.methodLink own idx y ∈ lw_tbl ∨ ∃ host, Cond.methodLinkNest own idx y host ∈ lw_tbl
def bs_nn (y : MethodName) (n : Nat) : Prop := y.cls ≠ "java/lang/invoke/MethodHandle" ∧ y.cls ≠ "java/lang/invoke/VarHandle" ∧ (parseMethodDescriptor y.desc).map (fun d => d.parameters.length) = some n
def bs_MV (N : MI) (ci : Nat) : Prop := Cond.code N.1 N.2.1 N.2.2.1 N.2.2.2.1 ∈ lw_tbl ∧ Cond.initialized N.1.cls ∈ lw_tbl ∧ Cond.instanceMethod N.1 ∈ lw_tbl ∧ Cond.selects N.1.cls N.1 N.1 ∈ lw_tbl ∧ bs_nn N.1 N.2.2.2.2 ∧ N.2.2.1 ≤ 18 ∧ (vwCl[ci]?).map (fun r => r.1) = some N.1.cls
def bs_MC (N : MI) : Prop := Cond.code N.1 N.2.1 N.2.2.1 N.2.2.2.1 ∈ lw_tbl ∧ Cond.initialized N.1.cls ∈ lw_tbl ∧ Cond.instanceMethod N.1 ∈ lw_tbl ∧ bs_nn N.1 N.2.2.2.2 ∧ (N.1.name = "<init>" ∧ N.2.2.2.1 = none) ∧ N.2.2.1 ≤ 18
def bs_MS (N : MI) : Prop := Cond.code N.1 N.2.1 N.2.2.1 N.2.2.2.1 ∈ lw_tbl ∧ Cond.initialized N.1.cls ∈ lw_tbl ∧ Cond.static N.1 ∈ lw_tbl ∧ bs_nn N.1 N.2.2.2.2 ∧ N.2.2.1 ≤ 18
theorem bs_run {N : MI} {d' bc' bs' bc1 bs1 : Nat} {vs : List Value} {Q1 : Option Value → Hp → Prop} {rest : List Value} {pc' : Nat}
    (run : ∀ (p : Program) (l : Launch) (e : Env) (R : Room) (s : State) (m : MethodId) (args : Array Value) (below : List Frame) (meth : Method) (c : Code) (H : Heap) (locs : List Loc) (cells slots : Nat) (ls : Array Slot),
      bs_Cx G X M d p R s m meth c → bs_H G h H → va_S (fun q => G.2.2 ≤ q) s.heap H locs → cells + bc' ≤ R.cells → slots + bs' ≤ R.slots → lv_has ls M.2.2.1 lv → va_Run p l e R s m args below meth c H locs cells slots bc' bs' (F0 m pc ls st) rest (bs_Qc G Q1 vs.toArray) (fun q => G.2.2 ≤ q))
    (hbc : bc1 + bc' ≤ bc) (hbs : bs1 + bs' ≤ bs) (hp : pc + 3 = pc') (kk : ∀ (v : Option Value) (h' : Hp), Q1 v h' → bs_B G X M d bc1 bs1 h' pc' lv (v.toList ++ rest) Q) : bs_B G X M d bc bs h pc lv st Q := by
  subst hp
  intro p l e R s m args below meth c H locs cells slots QQ ls Cx hH hS hc hs hl hr
  intro T hT X'
  obtain ⟨v, st₀, t, T', L, h0, X1, hL, e1, e2, ⟨⟨v', h', hv, hq, hH1⟩, hz, hk⟩, st⟩ := run p l e R s m args below meth c H locs cells slots ls Cx hH hS (by omega) (by omega) hl T hT X'
  cases hv
  rw [h0] at hz hk
  have hS1 : va_S (fun q => G.2.2 ≤ q) s.heap T'.heap (locs ++ L) := ⟨Nat.le_trans hS.1 (by rw [e1]; exact hz), fun q a1 a2 => by rw [e1, hk q (Nat.lt_of_lt_of_le a1 hS.1) a2]; exact hS.2.1 q a1 a2, fun q hq' => by
    rcases List.mem_append.mp hq' with a | a
    · exact hS.2.2 q a
    · exact hL q a⟩
  obtain ⟨t2, a1, b1⟩ := kk v h' hq p l e R s m args below meth c T'.heap (locs ++ L) (cells + bc') (slots + bs') QQ ls Cx (by rw [e1]; exact hH1) hS1 (by omega) (by omega) hl (fun v2 h2 H2 locs2 cells2 slots2 pc2 ls2 a1 a2 a3 a4 a5 => hr v2 h2 H2 locs2 cells2 slots2 pc2 ls2 a1 a2 a3 (by omega) (by omega)) T' rfl X1
  exact ⟨t2, st t2 a1, b1⟩
theorem bs_good {s : State} {args : Array Value} {N : MI} (hTB : bs_TB s) (hc : Cond.code N.1 N.2.1 N.2.2.1 N.2.2.2.1 ∈ lw_tbl) : ∀ w ∈ [Cond.code N.1 N.2.1 N.2.2.1 N.2.2.2.1], ∀ (a' : Array Value) (U : State), s.WarmedH U.vm → w.before a' U = true := by
  intro w hw a' U hW
  rw [List.mem_singleton.mp hw]
  exact bs_TB.warm hW hTB _ hc rfl a'
theorem bs_len {y : MethodName} {n : Nat} (h : bs_nn y n) : ∀ sig, parseMethodDescriptor y.desc = some sig → n = sig.parameters.length := fun sig h1 => by
  have h2 := h.2.2
  rw [h1] at h2
  exact (Option.some.inj h2).symm
theorem bs_callV {N : MI} {d' bc' bs' bc1 bs1 idx ci b : Nat} {As : List Value} {fs : List Value} {Q1 : Option Value → Hp → Prop} {rest : List Value} {pc' : Nat}
    (hd : decode M.2.1 pc = .ok (.invokevirtual idx, 3)) (hl : bs_ML M.1.cls idx N.1) (hm : bs_MV N ci) (hsp : bs_Sp G N d' bc' bs' (.ref b :: As) h Q1) (hb : h b = some (.inr (ci, fs))) (hst : st = As.reverse ++ .ref b :: rest) (hn : As.length = N.2.2.2.2) (hW : Nat.ble (rest.map fun v => v.category).sum 8 = true) (hdd : d' + 1 ≤ d) (hbc : bc1 + bc' ≤ bc) (hbs : bs1 + bs' ≤ bs) (hp : pc + 3 = pc')
    (kk : ∀ (v : Option Value) (h' : Hp), Q1 v h' → bs_B G X M d bc1 bs1 h' pc' lv (v.toList ++ rest) Q) : bs_B G X M d bc bs h pc lv st Q := by
  subst hst
  refine bs_run (N := N) (d' := d') (vs := .ref b :: As) (fun p l e R s m args below meth c H locs cells slots ls C hH hS hc hs hls => ?_) hbc hbs hp kk
  obtain ⟨m1, m2, m3, m4, m5, m6, m7⟩ := hm
  have hTB := C.2.2.2.2.1.2.1
  have hfr := C.2.2.2.2.2.2.1
  have hlo := C.2.2.2.2.2.2.2.1
  have hpre : PreV s H N.1.cls b (bs_Pc G (.ref b :: As) h) As := ⟨bs_Pc.blind, by
    obtain ⟨ws, hP, hD, hw⟩ := id hH
    obtain ⟨q0, hq0⟩ := hw b _ hb
    cases hc0 : vwCl[ci]? with
    | none => rw [hc0] at m7; cases m7
    | some r =>
      rw [hc0] at m7
      have e7 : r.1 = N.1.cls := Option.some.inj m7
      rw [← e7]
      exact va_recv C.2.2.2.2.1.1 hP hc0 hq0, fun U hU hW => ⟨rfl, by rw [hU]; exact hH, bs_SW.warm hW (by rw [hU]; exact Nat.le_trans C.2.2.2.2.1.2.2 hS.1) C.2.2.2.2.1⟩⟩
  have hroom : (bs_rm d' bc' bs').frames + 1 ≤ R.frames ∧ 8 + (N.2.2.1 + 11) + (bs_rm d' bc' bs').locals ≤ R.locals := by
    refine ⟨Nat.le_trans hdd hfr, ?_⟩
    show 8 + (N.2.2.1 + 11) + 37 * d' ≤ R.locals
    omega
  rcases hl with hl | ⟨host, hl⟩
  · exact va_runV (Ts := []) (own := M.1.cls) (ret := N.2.2.2.1) ⟨C.1, C.2.1, C.2.2.1, C.2.2.2.1, fun w h => by cases h⟩ (hsp l) ⟨⟨rfl, rfl, hroom.1, hroom.2, bs_good (args := args) hTB m1, List.mem_singleton.mpr rfl, hTB _ m1 rfl args, hTB _ m2 rfl args, ⟨m5.1, m5.2.1⟩, bs_len m5, hTB _ hl rfl args⟩, hTB _ m3 rfl args, hTB _ m4 rfl args⟩ hpre rfl hn hls.1 rfl (lv_room (Nat.le_of_ble_eq_true hW)) hd ⟨hc, hs⟩
  · exact va_runVN (Ts := []) (own := M.1.cls) (host := host) (ret := N.2.2.2.1) ⟨C.1, C.2.1, C.2.2.1, C.2.2.2.1, fun w h => by cases h⟩ (hsp l) ⟨⟨⟨rfl, rfl, hroom.1, hroom.2, bs_good (args := args) hTB m1, List.mem_singleton.mpr rfl⟩, hTB _ m1 rfl args, hTB _ m2 rfl args, ⟨m5.1, m5.2.1⟩, bs_len m5, hTB _ hl rfl args⟩, hTB _ m3 rfl args, hTB _ m4 rfl args⟩ hpre rfl hn hls.1 rfl (lv_room (Nat.le_of_ble_eq_true hW)) hd ⟨hc, hs⟩
theorem bs_callS {N : MI} {d' bc' bs' bc1 bs1 idx : Nat} {As : List Value} {Q1 : Option Value → Hp → Prop} {rest : List Value} {pc' : Nat}
    (hd : decode M.2.1 pc = .ok (.invokestatic idx, 3)) (hl : bs_ML M.1.cls idx N.1) (hm : bs_MS N) (hsp : bs_Sp G N d' bc' bs' As h Q1) (hst : st = As.reverse ++ rest) (hn : As.length = N.2.2.2.2) (hW : Nat.ble (rest.map fun v => v.category).sum 8 = true) (hdd : d' + 1 ≤ d) (hbc : bc1 + bc' ≤ bc) (hbs : bs1 + bs' ≤ bs) (hp : pc + 3 = pc')
    (kk : ∀ (v : Option Value) (h' : Hp), Q1 v h' → bs_B G X M d bc1 bs1 h' pc' lv (v.toList ++ rest) Q) : bs_B G X M d bc bs h pc lv st Q := by
  subst hst
  refine bs_run (N := N) (d' := d') (vs := As) (fun p l e R s m args below meth c H locs cells slots ls C hH hS hc hs hls => ?_) hbc hbs hp kk
  obtain ⟨m1, m2, m3, m5, m6⟩ := hm
  have hTB := C.2.2.2.2.1.2.1
  have hfr := C.2.2.2.2.2.2.1
  have hlo := C.2.2.2.2.2.2.2.1
  have hpre : PreS s H (bs_Pc G As h) As := ⟨bs_Pc.blind, fun U hU hW => ⟨rfl, by rw [hU]; exact hH, bs_SW.warm hW (by rw [hU]; exact Nat.le_trans C.2.2.2.2.1.2.2 hS.1) C.2.2.2.2.1⟩⟩
  have hroom : (bs_rm d' bc' bs').frames + 1 ≤ R.frames ∧ 8 + (N.2.2.1 + 11) + (bs_rm d' bc' bs').locals ≤ R.locals := by
    refine ⟨Nat.le_trans hdd hfr, ?_⟩
    show 8 + (N.2.2.1 + 11) + 37 * d' ≤ R.locals
    omega
  rcases hl with hl | ⟨host, hl⟩
  · exact va_runS (Ts := []) (own := M.1.cls) (ret := N.2.2.2.1) ⟨C.1, C.2.1, C.2.2.1, C.2.2.2.1, fun w h => by cases h⟩ (hsp l) ⟨⟨rfl, rfl, hroom.1, hroom.2, bs_good (args := args) hTB m1, List.mem_singleton.mpr rfl, hTB _ m1 rfl args, hTB _ m2 rfl args, ⟨m5.1, m5.2.1⟩, bs_len m5, hTB _ hl rfl args⟩, hTB _ m3 rfl args⟩ hpre rfl hn hls.1 rfl (lv_room (Nat.le_of_ble_eq_true hW)) hd ⟨hc, hs⟩
  · exact va_runSN (Ts := []) (own := M.1.cls) (host := host) (ret := N.2.2.2.1) ⟨C.1, C.2.1, C.2.2.1, C.2.2.2.1, fun w h => by cases h⟩ (hsp l) ⟨⟨⟨rfl, rfl, hroom.1, hroom.2, bs_good (args := args) hTB m1, List.mem_singleton.mpr rfl⟩, hTB _ m1 rfl args, hTB _ m2 rfl args, ⟨m5.1, m5.2.1⟩, bs_len m5, hTB _ hl rfl args⟩, hTB _ m3 rfl args, trivial⟩ hpre rfl hn hls.1 rfl (lv_room (Nat.le_of_ble_eq_true hW)) hd ⟨hc, hs⟩
theorem bs_callI {N : MI} {d' bc' bs' bc1 bs1 idx b : Nat} {As : List Value} {Q1 : Option Value → Hp → Prop} {rest : List Value} {pc' : Nat}
    (hd : decode M.2.1 pc = .ok (.invokespecial idx, 3)) (hl : Cond.methodLink M.1.cls idx N.1 ∈ lw_tbl) (hm : bs_MC N) (hsp : bs_Sp G N d' bc' bs' (.ref b :: As) h Q1) (hst : st = As.reverse ++ .ref b :: rest) (hn : As.length = N.2.2.2.2) (hW : Nat.ble (rest.map fun v => v.category).sum 8 = true) (hdd : d' + 1 ≤ d) (hbc : bc1 + bc' ≤ bc) (hbs : bs1 + bs' ≤ bs) (hp : pc + 3 = pc')
    (kk : ∀ (v : Option Value) (h' : Hp), Q1 v h' → bs_B G X M d bc1 bs1 h' pc' lv (v.toList ++ rest) Q) : bs_B G X M d bc bs h pc lv st Q := by
  subst hst
  refine bs_run (N := N) (d' := d') (vs := .ref b :: As) (fun p l e R s m args below meth c H locs cells slots ls C hH hS hc hs hls => ?_) hbc hbs hp kk
  obtain ⟨m1, m2, m3, m5, m4, m6⟩ := hm
  have hTB := C.2.2.2.2.1.2.1
  have hfr := C.2.2.2.2.2.2.1
  have hlo := C.2.2.2.2.2.2.2.1
  have hpre : PreS s H (bs_Pc G (.ref b :: As) h) (.ref b :: As) := ⟨bs_Pc.blind, fun U hU hW => ⟨rfl, by rw [hU]; exact hH, bs_SW.warm hW (by rw [hU]; exact Nat.le_trans C.2.2.2.2.1.2.2 hS.1) C.2.2.2.2.1⟩⟩
  have hroom : (bs_rm d' bc' bs').frames + 1 ≤ R.frames ∧ 8 + (N.2.2.1 + 11) + (bs_rm d' bc' bs').locals ≤ R.locals := by
    refine ⟨Nat.le_trans hdd hfr, ?_⟩
    show 8 + (N.2.2.1 + 11) + 37 * d' ≤ R.locals
    omega
  have hsp' := hsp l
  have g0 := bs_good (args := args) hTB m1
  have g1 := hTB _ m1 rfl args
  rw [m4.2] at hsp' g0 g1
  exact va_runI (Ts := []) (own := M.1.cls) ⟨C.1, C.2.1, C.2.2.1, C.2.2.2.1, fun w h => by cases h⟩ hsp' ⟨⟨rfl, rfl, hroom.1, hroom.2, g0, List.mem_singleton.mpr rfl, g1, hTB _ m2 rfl args, ⟨m5.1, m5.2.1⟩, bs_len m5, hTB _ hl rfl args⟩, m4.1, hTB _ m3 rfl args⟩ hpre rfl hn hls.1 rfl (lv_room (Nat.le_of_ble_eq_true hW)) hd ⟨hc, hs⟩
end BsRows
end
section
theorem cl_0 : bs_CL 0 RX0 TX0 3 tyX0 := ⟨rfl, bs_in_of (goodIn_r (u_ws RX0 TX0 3) [195, 197, 199] (by decide +kernel) (by decide +kernel)) (by decide +kernel), tyX0_ok, nmX0⟩
theorem cl_1 : bs_CL 1 RX1 TX1 3 tyX1 := ⟨rfl, bs_in_of (goodIn_r (u_ws RX1 TX1 3) [81, 83, 85] (by decide +kernel) (by decide +kernel)) (by decide +kernel), tyX1_ok, nmX1⟩
theorem cl_2 : bs_CL 2 RX2 TX2 5 tyX2 := ⟨rfl, bs_in_of (goodIn_r (u_ws RX2 TX2 5) [178, 180, 182, 184, 186] (by decide +kernel) (by decide +kernel)) (by decide +kernel), tyX2_ok, nmX2⟩
theorem cl_3 : bs_CL 3 RX3 TX3 2 tyX3 := ⟨rfl, bs_in_of (goodIn_r (u_ws RX3 TX3 2) [215, 217] (by decide +kernel) (by decide +kernel)) (by decide +kernel), tyX3_ok, nmX3⟩
theorem cl_4 : bs_CL 4 RX4 TX4 6 tyX4 := ⟨rfl, bs_in_of (goodIn_r (u_ws RX4 TX4 6) [104, 106, 108, 110, 112, 114] (by decide +kernel) (by decide +kernel)) (by decide +kernel), tyX4_ok, nmX4⟩
theorem cl_5 : bs_CL 5 RX5 TX5 10 tyX5 := ⟨rfl, bs_in_of (goodIn_r (u_ws RX5 TX5 10) [127, 129, 131, 133, 135, 137, 139, 141, 143, 145] (by decide +kernel) (by decide +kernel)) (by decide +kernel), tyX5_ok, nmX5⟩
theorem cl_6 : bs_CL 6 RX6 TX6 24 tyX6 := ⟨rfl, bs_in_of (goodIn_r (u_ws RX6 TX6 24) [563, 565, 567, 569, 571, 573, 575, 577, 579, 581, 583, 585, 587, 589, 591, 593, 595, 597, 599, 601, 603, 605, 607, 609] (by decide +kernel) (by decide +kernel)) (by decide +kernel), tyX6_ok, nmX6⟩
def mX0_init : MI := (yX0_init, cX0_init, 5, none, 3)
def mX0_hasRange : MI := (yX0_hasRange, cX0_hasRange, 3, some .boolean, 2)
def mX0_firstCellAgainstFree : MI := (yX0_firstCellAgainstFree, cX0_firstCellAgainstFree, 4, some .int, 2)
def mX0_cellsAliveFor : MI := (yX0_cellsAliveFor, cX0_cellsAliveFor, 4, some .int, 1)
def mX0_mixedInto : MI := (yX0_mixedInto, cX0_mixedInto, 7, some .long, 2)
def mX1_init : MI := (yX1_init, cX1_init, 1, none, 0)
def mX1_enter : MI := (yX1_enter, cX1_enter, 1, some .boolean, 0)
def mX1_leave : MI := (yX1_leave, cX1_leave, 1, some .boolean, 0)
def mX1_innermost : MI := (yX1_innermost, cX1_innermost, 1, some .int, 0)
def mX1_isActive : MI := (yX1_isActive, cX1_isActive, 3, some .boolean, 1)
def mX2_init : MI := (yX2_init, cX2_init, 2, none, 1)
def mX2_hasItem : MI := (yX2_hasItem, cX2_hasItem, 2, some .boolean, 1)
def mX2_grantOfRead : MI := (yX2_grantOfRead, cX2_grantOfRead, 3, some .int, 1)
def mX2_grantOfWrite : MI := (yX2_grantOfWrite, cX2_grantOfWrite, 3, some .int, 1)
def mX2_keptByWrite : MI := (yX2_keptByWrite, cX2_keptByWrite, 4, some .int, 1)
def mX2_readViolation : MI := (yX2_readViolation, cX2_readViolation, 5, some .int, 2)
def mX2_writeViolation : MI := (yX2_writeViolation, cX2_writeViolation, 3, some .int, 2)
def mX2_freeViolation : MI := (yX2_freeViolation, cX2_freeViolation, 3, some .int, 2)
def mX2_reborrowViolation : MI := (yX2_reborrowViolation, cX2_reborrowViolation, 4, some .int, 3)
def mX2_hasProtectedFrom : MI := (yX2_hasProtectedFrom, cX2_hasProtectedFrom, 4, some .boolean, 2)
def mX2_hasRoomToReborrow : MI := (yX2_hasRoomToReborrow, cX2_hasRoomToReborrow, 4, some .boolean, 2)
def mX2_applyRead : MI := (yX2_applyRead, cX2_applyRead, 4, none, 1)
def mX2_applyWrite : MI := (yX2_applyWrite, cX2_applyWrite, 2, none, 1)
def mX2_applyReborrow : MI := (yX2_applyReborrow, cX2_applyReborrow, 5, none, 4)
def mX2_insertItem : MI := (yX2_insertItem, cX2_insertItem, 6, none, 4)
def mX2_mixedInto : MI := (yX2_mixedInto, cX2_mixedInto, 7, some .long, 2)
def mX3_init : MI := (yX3_init, cX3_init, 3, none, 2)
def mX4_init : MI := (yX4_init, cX4_init, 1, none, 0)
def mX4_addByte : MI := (yX4_addByte, cX4_addByte, 2, some .boolean, 1)
def mX4_argument : MI := (yX4_argument, cX4_argument, 3, some .int, 2)
def mX4_parse : MI := (yX4_parse, cX4_parse, 2, some .int, 0)
def mX4_parseCommand : MI := (yX4_parseCommand, cX4_parseCommand, 4, some .boolean, 0)
def mX4_parseArgument : MI := (yX4_parseArgument, cX4_parseArgument, 3, some .boolean, 1)
def mX4_skipSpaces : MI := (yX4_skipSpaces, cX4_skipSpaces, 1, none, 0)
def mX4_byteHere : MI := (yX4_byteHere, cX4_byteHere, 1, some .int, 0)
def mX4_isDigitHere : MI := (yX4_isDigitHere, cX4_isDigitHere, 2, some .boolean, 0)
def mX4_argumentsOf : MI := (yX4_argumentsOf, cX4_argumentsOf, 1, some .int, 1)
def mX5_init : MI := (yX5_init, cX5_init, 1, none, 0)
def mX5_allocate : MI := (yX5_allocate, cX5_allocate, 2, some .int, 1)
def mX5_read : MI := (yX5_read, cX5_read, 3, some .int, 2)
def mX5_write : MI := (yX5_write, cX5_write, 4, some .int, 3)
def mX5_reborrow : MI := (yX5_reborrow, cX5_reborrow, 6, some .int, 5)
def mX5_free : MI := (yX5_free, cX5_free, 2, some .int, 1)
def mX5_enterCall : MI := (yX5_enterCall, cX5_enterCall, 1, some .int, 0)
def mX5_leaveCall : MI := (yX5_leaveCall, cX5_leaveCall, 1, some .int, 0)
def mX5_checkRead : MI := (yX5_checkRead, cX5_checkRead, 5, some .int, 2)
def mX5_checkWrite : MI := (yX5_checkWrite, cX5_checkWrite, 5, some .int, 2)
def mX5_checkFree : MI := (yX5_checkFree, cX5_checkFree, 5, some .int, 1)
def mX5_removedByWrite : MI := (yX5_removedByWrite, cX5_removedByWrite, 5, some .int, 2)
def mX5_stackSize : MI := (yX5_stackSize, cX5_stackSize, 4, some .int, 2)
def mX5_itemTag : MI := (yX5_itemTag, cX5_itemTag, 5, some .int, 3)
def mX5_itemPermission : MI := (yX5_itemPermission, cX5_itemPermission, 5, some .int, 3)
def mX5_itemProtected : MI := (yX5_itemProtected, cX5_itemProtected, 5, some .int, 3)
def mX5_allocationOf : MI := (yX5_allocationOf, cX5_allocationOf, 3, some .int, 1)
def mX5_parent : MI := (yX5_parent, cX5_parent, 3, some .int, 1)
def mX5_liveCells : MI := (yX5_liveCells, cX5_liveCells, 3, some .int, 1)
def mX5_isFreed : MI := (yX5_isFreed, cX5_isFreed, 3, some .int, 1)
def mX5_pointerCount : MI := (yX5_pointerCount, cX5_pointerCount, 1, some .int, 0)
def mX5_callDepth : MI := (yX5_callDepth, cX5_callDepth, 1, some .int, 0)
def mX5_violationCount : MI := (yX5_violationCount, cX5_violationCount, 1, some .int, 0)
def mX5_violationKind : MI := (yX5_violationKind, cX5_violationKind, 1, some .int, 0)
def mX5_violationCell : MI := (yX5_violationCell, cX5_violationCell, 1, some .int, 0)
def mX5_errorCount : MI := (yX5_errorCount, cX5_errorCount, 2, some .int, 1)
def mX5_append : MI := (yX5_append, cX5_append, 2, some .int, 1)
def mX5_clearText : MI := (yX5_clearText, cX5_clearText, 2, some .int, 0)
def mX5_runScript : MI := (yX5_runScript, cX5_runScript, 3, some .int, 0)
def mX5_digest : MI := (yX5_digest, cX5_digest, 4, some .long, 0)
def mX5_performAllocate : MI := (yX5_performAllocate, cX5_performAllocate, 3, some .int, 1)
def mX5_performRead : MI := (yX5_performRead, cX5_performRead, 6, some .int, 2)
def mX5_performWrite : MI := (yX5_performWrite, cX5_performWrite, 8, some .int, 3)
def mX5_performReborrow : MI := (yX5_performReborrow, cX5_performReborrow, 11, some .int, 5)
def mX5_performFree : MI := (yX5_performFree, cX5_performFree, 5, some .int, 1)
def mX5_performEnter : MI := (yX5_performEnter, cX5_performEnter, 1, some .int, 0)
def mX5_performLeave : MI := (yX5_performLeave, cX5_performLeave, 1, some .int, 0)
def mX5_performCommand : MI := (yX5_performCommand, cX5_performCommand, 5, some .int, 1)
def mX5_counted : MI := (yX5_counted, cX5_counted, 3, some .int, 1)
def mX5_violated : MI := (yX5_violated, cX5_violated, 3, some .int, 2)
def mX5_addPointer : MI := (yX5_addPointer, cX5_addPointer, 4, some .int, 2)
def mX5_pointerAt : MI := (yX5_pointerAt, cX5_pointerAt, 2, some (.object "BorrowStacks$Pointer"), 1)
def mX5_allocationAt : MI := (yX5_allocationAt, cX5_allocationAt, 2, some (.object "BorrowStacks$Allocation"), 1)
def mX5_cellAt : MI := (yX5_cellAt, cX5_cellAt, 4, some (.object "BorrowStacks$Cell"), 2)
def mX5_cellThrough : MI := (yX5_cellThrough, cX5_cellThrough, 2, some (.object "BorrowStacks$Cell"), 2)
def mX5_isFailure : MI := (yX5_isFailure, cX5_isFailure, 1, some .boolean, 1)
def mX5_asNumber : MI := (yX5_asNumber, cX5_asNumber, 1, some .int, 1)
def mX5_mixed : MI := (yX5_mixed, cX5_mixed, 4, some .long, 2)
def mX6_init : MI := (yX6_init, cX6_init, 1, none, 0)
def mX6_in : MI := (yX6_in, cX6_in, 3, some .boolean, 3)
def mX6_error : MI := (yX6_error, cX6_error, 2, some .int, 1)
def mX6_violate : MI := (yX6_violate, cX6_violate, 3, some .int, 2)
def mX6_isPointer : MI := (yX6_isPointer, cX6_isPointer, 2, some .boolean, 1)
def mX6_isCell : MI := (yX6_isCell, cX6_isCell, 3, some .boolean, 2)
def mX6_cellOf : MI := (yX6_cellOf, cX6_cellOf, 3, some .int, 2)
def mX6_granting : MI := (yX6_granting, cX6_granting, 7, some .int, 3)
def mX6_above : MI := (yX6_above, cX6_above, 4, some .int, 2)
def mX6_isGuarded : MI := (yX6_isGuarded, cX6_isGuarded, 7, some .boolean, 3)
def mX6_readKind : MI := (yX6_readKind, cX6_readKind, 5, some .int, 2)
def mX6_writeKind : MI := (yX6_writeKind, cX6_writeKind, 5, some .int, 2)
def mX6_rawKind : MI := (yX6_rawKind, cX6_rawKind, 3, some .int, 2)
def mX6_freeKind : MI := (yX6_freeKind, cX6_freeKind, 4, some .int, 2)
def mX6_doRead : MI := (yX6_doRead, cX6_doRead, 5, none, 2)
def mX6_doWrite : MI := (yX6_doWrite, cX6_doWrite, 4, none, 2)
def mX6_insert : MI := (yX6_insert, cX6_insert, 7, none, 5)
def mX6_newPointer : MI := (yX6_newPointer, cX6_newPointer, 3, some .int, 2)
def mX6_allocate : MI := (yX6_allocate, cX6_allocate, 5, some .int, 1)
def mX6_read : MI := (yX6_read, cX6_read, 4, some .int, 2)
def mX6_write : MI := (yX6_write, cX6_write, 7, some .int, 3)
def mX6_reborrowKind : MI := (yX6_reborrowKind, cX6_reborrowKind, 4, some .int, 3)
def mX6_sizeBy : MI := (yX6_sizeBy, cX6_sizeBy, 5, some .int, 3)
def mX6_put : MI := (yX6_put, cX6_put, 7, none, 4)
def mX6_reborrow : MI := (yX6_reborrow, cX6_reborrow, 8, some .int, 5)
def mX6_free : MI := (yX6_free, cX6_free, 5, some .int, 1)
def mX6_enterCall : MI := (yX6_enterCall, cX6_enterCall, 1, some .int, 0)
def mX6_leaveCall : MI := (yX6_leaveCall, cX6_leaveCall, 2, some .int, 0)
def mX6_checkRead : MI := (yX6_checkRead, cX6_checkRead, 3, some .int, 2)
def mX6_checkWrite : MI := (yX6_checkWrite, cX6_checkWrite, 3, some .int, 2)
def mX6_checkFree : MI := (yX6_checkFree, cX6_checkFree, 4, some .int, 1)
def mX6_removedByWrite : MI := (yX6_removedByWrite, cX6_removedByWrite, 4, some .int, 2)
def mX6_isAllocation : MI := (yX6_isAllocation, cX6_isAllocation, 2, some .boolean, 1)
def mX6_isCellOf : MI := (yX6_isCellOf, cX6_isCellOf, 3, some .boolean, 2)
def mX6_placeOf : MI := (yX6_placeOf, cX6_placeOf, 5, some .int, 3)
def mX6_stackSize : MI := (yX6_stackSize, cX6_stackSize, 3, some .int, 2)
def mX6_itemTag : MI := (yX6_itemTag, cX6_itemTag, 5, some .int, 3)
def mX6_itemPermission : MI := (yX6_itemPermission, cX6_itemPermission, 5, some .int, 3)
def mX6_itemProtected : MI := (yX6_itemProtected, cX6_itemProtected, 5, some .int, 3)
def mX6_allocationOf : MI := (yX6_allocationOf, cX6_allocationOf, 2, some .int, 1)
def mX6_parent : MI := (yX6_parent, cX6_parent, 2, some .int, 1)
def mX6_liveOf : MI := (yX6_liveOf, cX6_liveOf, 4, some .int, 1)
def mX6_liveCells : MI := (yX6_liveCells, cX6_liveCells, 2, some .int, 1)
def mX6_isFreed : MI := (yX6_isFreed, cX6_isFreed, 2, some .int, 1)
def mX6_pointerCount : MI := (yX6_pointerCount, cX6_pointerCount, 1, some .int, 0)
def mX6_callDepth : MI := (yX6_callDepth, cX6_callDepth, 1, some .int, 0)
def mX6_violationCount : MI := (yX6_violationCount, cX6_violationCount, 1, some .int, 0)
def mX6_violationKind : MI := (yX6_violationKind, cX6_violationKind, 1, some .int, 0)
def mX6_violationCell : MI := (yX6_violationCell, cX6_violationCell, 1, some .int, 0)
def mX6_errorCount : MI := (yX6_errorCount, cX6_errorCount, 2, some .int, 1)
def mX6_append : MI := (yX6_append, cX6_append, 2, some .int, 1)
def mX6_clearText : MI := (yX6_clearText, cX6_clearText, 2, some .int, 0)
def mX6_isAt : MI := (yX6_isAt, cX6_isAt, 3, some .boolean, 2)
def mX6_blanks : MI := (yX6_blanks, cX6_blanks, 1, none, 0)
def mX6_manyOf : MI := (yX6_manyOf, cX6_manyOf, 1, some .int, 1)
def mX6_takesNumber : MI := (yX6_takesNumber, cX6_takesNumber, 4, some .boolean, 1)
def mX6_takesCommand : MI := (yX6_takesCommand, cX6_takesCommand, 3, some .boolean, 0)
def mX6_isRead : MI := (yX6_isRead, cX6_isRead, 2, some .boolean, 0)
def mX6_execute : MI := (yX6_execute, cX6_execute, 5, some .int, 1)
def mX6_executeAll : MI := (yX6_executeAll, cX6_executeAll, 2, some .int, 0)
def mX6_runScript : MI := (yX6_runScript, cX6_runScript, 2, some .int, 0)
def mX6_mix : MI := (yX6_mix, cX6_mix, 3, none, 1)
def mX6_mixCell : MI := (yX6_mixCell, cX6_mixCell, 3, none, 1)
def mX6_digest : MI := (yX6_digest, cX6_digest, 3, some .long, 0)
abbrev mL_law : MI := (yL_law, code, 4, some .boolean, 1)
theorem kini_X0 : Cond.initialized RX0 ∈ lw_tbl := List.mem_of_getElem? (i := 56) (by decide +kernel)
theorem kini_X1 : Cond.initialized RX1 ∈ lw_tbl := List.mem_of_getElem? (i := 53) (by decide +kernel)
theorem kini_X2 : Cond.initialized RX2 ∈ lw_tbl := List.mem_of_getElem? (i := 57) (by decide +kernel)
theorem kini_X3 : Cond.initialized RX3 ∈ lw_tbl := List.mem_of_getElem? (i := 58) (by decide +kernel)
theorem kini_X4 : Cond.initialized RX4 ∈ lw_tbl := List.mem_of_getElem? (i := 54) (by decide +kernel)
theorem kini_X5 : Cond.initialized RX5 ∈ lw_tbl := List.mem_of_getElem? (i := 52) (by decide +kernel)
theorem kini_X6 : Cond.initialized RX6 ∈ lw_tbl := List.mem_of_getElem? (i := 55) (by decide +kernel)
theorem kini_L : Cond.initialized RL ∈ lw_tbl := List.mem_of_getElem? (i := 51) (by decide +kernel)
theorem kc_X0_init : Cond.code yX0_init mX0_init.2.1 mX0_init.2.2.1 mX0_init.2.2.2.1 ∈ lw_tbl := List.mem_of_getElem? (i := 159) (by decide +kernel)
theorem ko_X0_init : bs_MC mX0_init := ⟨kc_X0_init, kini_X0, List.mem_of_getElem? (i := 158) (by decide +kernel), ⟨by decide +kernel, by decide +kernel, by decide +kernel⟩, ⟨rfl, rfl⟩, by decide⟩
theorem kc_X0_hasRange : Cond.code yX0_hasRange mX0_hasRange.2.1 mX0_hasRange.2.2.1 mX0_hasRange.2.2.2.1 ∈ lw_tbl := List.mem_of_getElem? (i := 242) (by decide +kernel)
theorem ko_X0_hasRange : bs_MV mX0_hasRange 0 := ⟨kc_X0_hasRange, kini_X0, List.mem_of_getElem? (i := 240) (by decide +kernel), List.mem_of_getElem? (i := 241) (by decide +kernel), ⟨by decide +kernel, by decide +kernel, by decide +kernel⟩, by decide, rfl⟩
theorem kc_X0_firstCellAgainstFree : Cond.code yX0_firstCellAgainstFree mX0_firstCellAgainstFree.2.1 mX0_firstCellAgainstFree.2.2.1 mX0_firstCellAgainstFree.2.2.2.1 ∈ lw_tbl := List.mem_of_getElem? (i := 334) (by decide +kernel)
theorem ko_X0_firstCellAgainstFree : bs_MV mX0_firstCellAgainstFree 0 := ⟨kc_X0_firstCellAgainstFree, kini_X0, List.mem_of_getElem? (i := 332) (by decide +kernel), List.mem_of_getElem? (i := 333) (by decide +kernel), ⟨by decide +kernel, by decide +kernel, by decide +kernel⟩, by decide, rfl⟩
theorem kc_X0_cellsAliveFor : Cond.code yX0_cellsAliveFor mX0_cellsAliveFor.2.1 mX0_cellsAliveFor.2.2.1 mX0_cellsAliveFor.2.2.2.1 ∈ lw_tbl := List.mem_of_getElem? (i := 428) (by decide +kernel)
theorem ko_X0_cellsAliveFor : bs_MV mX0_cellsAliveFor 0 := ⟨kc_X0_cellsAliveFor, kini_X0, List.mem_of_getElem? (i := 426) (by decide +kernel), List.mem_of_getElem? (i := 427) (by decide +kernel), ⟨by decide +kernel, by decide +kernel, by decide +kernel⟩, by decide, rfl⟩
theorem kc_X0_mixedInto : Cond.code yX0_mixedInto mX0_mixedInto.2.1 mX0_mixedInto.2.2.1 mX0_mixedInto.2.2.2.1 ∈ lw_tbl := List.mem_of_getElem? (i := 524) (by decide +kernel)
theorem ko_X0_mixedInto : bs_MV mX0_mixedInto 0 := ⟨kc_X0_mixedInto, kini_X0, List.mem_of_getElem? (i := 522) (by decide +kernel), List.mem_of_getElem? (i := 523) (by decide +kernel), ⟨by decide +kernel, by decide +kernel, by decide +kernel⟩, by decide, rfl⟩
theorem kc_X1_init : Cond.code yX1_init mX1_init.2.1 mX1_init.2.2.1 mX1_init.2.2.2.1 ∈ lw_tbl := List.mem_of_getElem? (i := 75) (by decide +kernel)
theorem ko_X1_init : bs_MC mX1_init := ⟨kc_X1_init, kini_X1, List.mem_of_getElem? (i := 74) (by decide +kernel), ⟨by decide +kernel, by decide +kernel, by decide +kernel⟩, ⟨rfl, rfl⟩, by decide⟩
theorem kc_X1_enter : Cond.code yX1_enter mX1_enter.2.1 mX1_enter.2.2.1 mX1_enter.2.2.2.1 ∈ lw_tbl := List.mem_of_getElem? (i := 351) (by decide +kernel)
theorem ko_X1_enter : bs_MV mX1_enter 1 := ⟨kc_X1_enter, kini_X1, List.mem_of_getElem? (i := 349) (by decide +kernel), List.mem_of_getElem? (i := 350) (by decide +kernel), ⟨by decide +kernel, by decide +kernel, by decide +kernel⟩, by decide, rfl⟩
theorem kc_X1_leave : Cond.code yX1_leave mX1_leave.2.1 mX1_leave.2.2.1 mX1_leave.2.2.2.1 ∈ lw_tbl := List.mem_of_getElem? (i := 363) (by decide +kernel)
theorem ko_X1_leave : bs_MV mX1_leave 1 := ⟨kc_X1_leave, kini_X1, List.mem_of_getElem? (i := 361) (by decide +kernel), List.mem_of_getElem? (i := 362) (by decide +kernel), ⟨by decide +kernel, by decide +kernel, by decide +kernel⟩, by decide, rfl⟩
theorem kc_X1_innermost : Cond.code yX1_innermost mX1_innermost.2.1 mX1_innermost.2.2.1 mX1_innermost.2.2.2.1 ∈ lw_tbl := List.mem_of_getElem? (i := 312) (by decide +kernel)
theorem ko_X1_innermost : bs_MV mX1_innermost 1 := ⟨kc_X1_innermost, kini_X1, List.mem_of_getElem? (i := 310) (by decide +kernel), List.mem_of_getElem? (i := 311) (by decide +kernel), ⟨by decide +kernel, by decide +kernel, by decide +kernel⟩, by decide, rfl⟩
theorem kc_X1_isActive : Cond.code yX1_isActive mX1_isActive.2.1 mX1_isActive.2.2.1 mX1_isActive.2.2.2.1 ∈ lw_tbl := List.mem_of_getElem? (i := 258) (by decide +kernel)
theorem ko_X1_isActive : bs_MV mX1_isActive 1 := ⟨kc_X1_isActive, kini_X1, List.mem_of_getElem? (i := 256) (by decide +kernel), List.mem_of_getElem? (i := 257) (by decide +kernel), ⟨by decide +kernel, by decide +kernel, by decide +kernel⟩, by decide, rfl⟩
theorem kc_X2_init : Cond.code yX2_init mX2_init.2.1 mX2_init.2.2.1 mX2_init.2.2.2.1 ∈ lw_tbl := List.mem_of_getElem? (i := 166) (by decide +kernel)
theorem ko_X2_init : bs_MC mX2_init := ⟨kc_X2_init, kini_X2, List.mem_of_getElem? (i := 165) (by decide +kernel), ⟨by decide +kernel, by decide +kernel, by decide +kernel⟩, ⟨rfl, rfl⟩, by decide⟩
theorem kc_X2_hasItem : Cond.code yX2_hasItem mX2_hasItem.2.1 mX2_hasItem.2.2.1 mX2_hasItem.2.2.2.1 ∈ lw_tbl := List.mem_of_getElem? (i := 400) (by decide +kernel)
theorem ko_X2_hasItem : bs_MV mX2_hasItem 2 := ⟨kc_X2_hasItem, kini_X2, List.mem_of_getElem? (i := 398) (by decide +kernel), List.mem_of_getElem? (i := 399) (by decide +kernel), ⟨by decide +kernel, by decide +kernel, by decide +kernel⟩, by decide, rfl⟩
theorem kc_X2_grantOfRead : Cond.code yX2_grantOfRead mX2_grantOfRead.2.1 mX2_grantOfRead.2.2.1 mX2_grantOfRead.2.2.2.1 ∈ lw_tbl := List.mem_of_getElem? (i := 254) (by decide +kernel)
theorem ko_X2_grantOfRead : bs_MV mX2_grantOfRead 2 := ⟨kc_X2_grantOfRead, kini_X2, List.mem_of_getElem? (i := 252) (by decide +kernel), List.mem_of_getElem? (i := 253) (by decide +kernel), ⟨by decide +kernel, by decide +kernel, by decide +kernel⟩, by decide, rfl⟩
theorem kc_X2_grantOfWrite : Cond.code yX2_grantOfWrite mX2_grantOfWrite.2.1 mX2_grantOfWrite.2.2.1 mX2_grantOfWrite.2.2.2.1 ∈ lw_tbl := List.mem_of_getElem? (i := 278) (by decide +kernel)
theorem ko_X2_grantOfWrite : bs_MV mX2_grantOfWrite 2 := ⟨kc_X2_grantOfWrite, kini_X2, List.mem_of_getElem? (i := 276) (by decide +kernel), List.mem_of_getElem? (i := 277) (by decide +kernel), ⟨by decide +kernel, by decide +kernel, by decide +kernel⟩, by decide, rfl⟩
theorem kc_X2_keptByWrite : Cond.code yX2_keptByWrite mX2_keptByWrite.2.1 mX2_keptByWrite.2.2.1 mX2_keptByWrite.2.2.2.1 ∈ lw_tbl := List.mem_of_getElem? (i := 282) (by decide +kernel)
theorem ko_X2_keptByWrite : bs_MV mX2_keptByWrite 2 := ⟨kc_X2_keptByWrite, kini_X2, List.mem_of_getElem? (i := 280) (by decide +kernel), List.mem_of_getElem? (i := 281) (by decide +kernel), ⟨by decide +kernel, by decide +kernel, by decide +kernel⟩, by decide, rfl⟩
theorem kc_X2_readViolation : Cond.code yX2_readViolation mX2_readViolation.2.1 mX2_readViolation.2.2.1 mX2_readViolation.2.2.2.1 ∈ lw_tbl := List.mem_of_getElem? (i := 250) (by decide +kernel)
theorem ko_X2_readViolation : bs_MV mX2_readViolation 2 := ⟨kc_X2_readViolation, kini_X2, List.mem_of_getElem? (i := 248) (by decide +kernel), List.mem_of_getElem? (i := 249) (by decide +kernel), ⟨by decide +kernel, by decide +kernel, by decide +kernel⟩, by decide, rfl⟩
theorem kc_X2_writeViolation : Cond.code yX2_writeViolation mX2_writeViolation.2.1 mX2_writeViolation.2.2.1 mX2_writeViolation.2.2.2.1 ∈ lw_tbl := List.mem_of_getElem? (i := 274) (by decide +kernel)
theorem ko_X2_writeViolation : bs_MV mX2_writeViolation 2 := ⟨kc_X2_writeViolation, kini_X2, List.mem_of_getElem? (i := 272) (by decide +kernel), List.mem_of_getElem? (i := 273) (by decide +kernel), ⟨by decide +kernel, by decide +kernel, by decide +kernel⟩, by decide, rfl⟩
theorem kc_X2_freeViolation : Cond.code yX2_freeViolation mX2_freeViolation.2.1 mX2_freeViolation.2.2.1 mX2_freeViolation.2.2.2.1 ∈ lw_tbl := List.mem_of_getElem? (i := 338) (by decide +kernel)
theorem ko_X2_freeViolation : bs_MV mX2_freeViolation 2 := ⟨kc_X2_freeViolation, kini_X2, List.mem_of_getElem? (i := 336) (by decide +kernel), List.mem_of_getElem? (i := 337) (by decide +kernel), ⟨by decide +kernel, by decide +kernel, by decide +kernel⟩, by decide, rfl⟩
theorem kc_X2_reborrowViolation : Cond.code yX2_reborrowViolation mX2_reborrowViolation.2.1 mX2_reborrowViolation.2.2.1 mX2_reborrowViolation.2.2.2.1 ∈ lw_tbl := List.mem_of_getElem? (i := 302) (by decide +kernel)
theorem ko_X2_reborrowViolation : bs_MV mX2_reborrowViolation 2 := ⟨kc_X2_reborrowViolation, kini_X2, List.mem_of_getElem? (i := 300) (by decide +kernel), List.mem_of_getElem? (i := 301) (by decide +kernel), ⟨by decide +kernel, by decide +kernel, by decide +kernel⟩, by decide, rfl⟩
theorem kc_X2_hasProtectedFrom : Cond.code yX2_hasProtectedFrom mX2_hasProtectedFrom.2.1 mX2_hasProtectedFrom.2.2.1 mX2_hasProtectedFrom.2.2.2.1 ∈ lw_tbl := List.mem_of_getElem? (i := 286) (by decide +kernel)
theorem ko_X2_hasProtectedFrom : bs_MV mX2_hasProtectedFrom 2 := ⟨kc_X2_hasProtectedFrom, kini_X2, List.mem_of_getElem? (i := 284) (by decide +kernel), List.mem_of_getElem? (i := 285) (by decide +kernel), ⟨by decide +kernel, by decide +kernel, by decide +kernel⟩, by decide, rfl⟩
theorem kc_X2_hasRoomToReborrow : Cond.code yX2_hasRoomToReborrow mX2_hasRoomToReborrow.2.1 mX2_hasRoomToReborrow.2.2.1 mX2_hasRoomToReborrow.2.2.2.1 ∈ lw_tbl := List.mem_of_getElem? (i := 308) (by decide +kernel)
theorem ko_X2_hasRoomToReborrow : bs_MV mX2_hasRoomToReborrow 2 := ⟨kc_X2_hasRoomToReborrow, kini_X2, List.mem_of_getElem? (i := 306) (by decide +kernel), List.mem_of_getElem? (i := 307) (by decide +kernel), ⟨by decide +kernel, by decide +kernel, by decide +kernel⟩, by decide, rfl⟩
theorem kc_X2_applyRead : Cond.code yX2_applyRead mX2_applyRead.2.1 mX2_applyRead.2.2.1 mX2_applyRead.2.2.2.1 ∈ lw_tbl := List.mem_of_getElem? (i := 262) (by decide +kernel)
theorem ko_X2_applyRead : bs_MV mX2_applyRead 2 := ⟨kc_X2_applyRead, kini_X2, List.mem_of_getElem? (i := 260) (by decide +kernel), List.mem_of_getElem? (i := 261) (by decide +kernel), ⟨by decide +kernel, by decide +kernel, by decide +kernel⟩, by decide, rfl⟩
theorem kc_X2_applyWrite : Cond.code yX2_applyWrite mX2_applyWrite.2.1 mX2_applyWrite.2.2.1 mX2_applyWrite.2.2.2.1 ∈ lw_tbl := List.mem_of_getElem? (i := 290) (by decide +kernel)
theorem ko_X2_applyWrite : bs_MV mX2_applyWrite 2 := ⟨kc_X2_applyWrite, kini_X2, List.mem_of_getElem? (i := 288) (by decide +kernel), List.mem_of_getElem? (i := 289) (by decide +kernel), ⟨by decide +kernel, by decide +kernel, by decide +kernel⟩, by decide, rfl⟩
theorem kc_X2_applyReborrow : Cond.code yX2_applyReborrow mX2_applyReborrow.2.1 mX2_applyReborrow.2.2.1 mX2_applyReborrow.2.2.2.1 ∈ lw_tbl := List.mem_of_getElem? (i := 316) (by decide +kernel)
theorem ko_X2_applyReborrow : bs_MV mX2_applyReborrow 2 := ⟨kc_X2_applyReborrow, kini_X2, List.mem_of_getElem? (i := 314) (by decide +kernel), List.mem_of_getElem? (i := 315) (by decide +kernel), ⟨by decide +kernel, by decide +kernel, by decide +kernel⟩, by decide, rfl⟩
theorem kc_X2_insertItem : Cond.code yX2_insertItem mX2_insertItem.2.1 mX2_insertItem.2.2.1 mX2_insertItem.2.2.2.1 ∈ lw_tbl := List.mem_of_getElem? (i := 321) (by decide +kernel)
theorem ko_X2_insertItem : bs_MV mX2_insertItem 2 := ⟨kc_X2_insertItem, kini_X2, List.mem_of_getElem? (i := 319) (by decide +kernel), List.mem_of_getElem? (i := 320) (by decide +kernel), ⟨by decide +kernel, by decide +kernel, by decide +kernel⟩, by decide, rfl⟩
theorem kc_X2_mixedInto : Cond.code yX2_mixedInto mX2_mixedInto.2.1 mX2_mixedInto.2.2.1 mX2_mixedInto.2.2.2.1 ∈ lw_tbl := List.mem_of_getElem? (i := 530) (by decide +kernel)
theorem ko_X2_mixedInto : bs_MV mX2_mixedInto 2 := ⟨kc_X2_mixedInto, kini_X2, List.mem_of_getElem? (i := 528) (by decide +kernel), List.mem_of_getElem? (i := 529) (by decide +kernel), ⟨by decide +kernel, by decide +kernel, by decide +kernel⟩, by decide, rfl⟩
theorem kc_X3_init : Cond.code yX3_init mX3_init.2.1 mX3_init.2.2.1 mX3_init.2.2.2.1 ∈ lw_tbl := List.mem_of_getElem? (i := 209) (by decide +kernel)
theorem ko_X3_init : bs_MC mX3_init := ⟨kc_X3_init, kini_X3, List.mem_of_getElem? (i := 208) (by decide +kernel), ⟨by decide +kernel, by decide +kernel, by decide +kernel⟩, ⟨rfl, rfl⟩, by decide⟩
theorem kc_X4_init : Cond.code yX4_init mX4_init.2.1 mX4_init.2.2.1 mX4_init.2.2.2.1 ∈ lw_tbl := List.mem_of_getElem? (i := 93) (by decide +kernel)
theorem ko_X4_init : bs_MC mX4_init := ⟨kc_X4_init, kini_X4, List.mem_of_getElem? (i := 92) (by decide +kernel), ⟨by decide +kernel, by decide +kernel, by decide +kernel⟩, ⟨rfl, rfl⟩, by decide⟩
theorem kc_X4_addByte : Cond.code yX4_addByte mX4_addByte.2.1 mX4_addByte.2.2.1 mX4_addByte.2.2.2.1 ∈ lw_tbl := List.mem_of_getElem? (i := 465) (by decide +kernel)
theorem ko_X4_addByte : bs_MV mX4_addByte 4 := ⟨kc_X4_addByte, kini_X4, List.mem_of_getElem? (i := 463) (by decide +kernel), List.mem_of_getElem? (i := 464) (by decide +kernel), ⟨by decide +kernel, by decide +kernel, by decide +kernel⟩, by decide, rfl⟩
theorem kc_X4_argument : Cond.code yX4_argument mX4_argument.2.1 mX4_argument.2.2.1 mX4_argument.2.2.2.1 ∈ lw_tbl := List.mem_of_getElem? (i := 508) (by decide +kernel)
theorem ko_X4_argument : bs_MV mX4_argument 4 := ⟨kc_X4_argument, kini_X4, List.mem_of_getElem? (i := 506) (by decide +kernel), List.mem_of_getElem? (i := 507) (by decide +kernel), ⟨by decide +kernel, by decide +kernel, by decide +kernel⟩, by decide, rfl⟩
theorem kc_X4_parse : Cond.code yX4_parse mX4_parse.2.1 mX4_parse.2.2.1 mX4_parse.2.2.2.1 ∈ lw_tbl := List.mem_of_getElem? (i := 477) (by decide +kernel)
theorem ko_X4_parse : bs_MV mX4_parse 4 := ⟨kc_X4_parse, kini_X4, List.mem_of_getElem? (i := 475) (by decide +kernel), List.mem_of_getElem? (i := 476) (by decide +kernel), ⟨by decide +kernel, by decide +kernel, by decide +kernel⟩, by decide, rfl⟩
theorem kc_X4_parseCommand : Cond.code yX4_parseCommand mX4_parseCommand.2.1 mX4_parseCommand.2.2.1 mX4_parseCommand.2.2.2.1 ∈ lw_tbl := List.mem_of_getElem? (i := 485) (by decide +kernel)
theorem ko_X4_parseCommand : bs_MV mX4_parseCommand 4 := ⟨kc_X4_parseCommand, kini_X4, List.mem_of_getElem? (i := 484) (by decide +kernel), List.mem_of_getElem? (i := 14) (by decide +kernel), ⟨by decide +kernel, by decide +kernel, by decide +kernel⟩, by decide, rfl⟩
theorem kc_X4_parseArgument : Cond.code yX4_parseArgument mX4_parseArgument.2.1 mX4_parseArgument.2.2.1 mX4_parseArgument.2.2.2.1 ∈ lw_tbl := List.mem_of_getElem? (i := 496) (by decide +kernel)
theorem ko_X4_parseArgument : bs_MV mX4_parseArgument 4 := ⟨kc_X4_parseArgument, kini_X4, List.mem_of_getElem? (i := 495) (by decide +kernel), List.mem_of_getElem? (i := 16) (by decide +kernel), ⟨by decide +kernel, by decide +kernel, by decide +kernel⟩, by decide, rfl⟩
theorem kc_X4_skipSpaces : Cond.code yX4_skipSpaces mX4_skipSpaces.2.1 mX4_skipSpaces.2.2.1 mX4_skipSpaces.2.2.2.1 ∈ lw_tbl := List.mem_of_getElem? (i := 481) (by decide +kernel)
theorem ko_X4_skipSpaces : bs_MV mX4_skipSpaces 4 := ⟨kc_X4_skipSpaces, kini_X4, List.mem_of_getElem? (i := 480) (by decide +kernel), List.mem_of_getElem? (i := 13) (by decide +kernel), ⟨by decide +kernel, by decide +kernel, by decide +kernel⟩, by decide, rfl⟩
theorem kc_X4_byteHere : Cond.code yX4_byteHere mX4_byteHere.2.1 mX4_byteHere.2.2.1 mX4_byteHere.2.2.2.1 ∈ lw_tbl := List.mem_of_getElem? (i := 489) (by decide +kernel)
theorem ko_X4_byteHere : bs_MV mX4_byteHere 4 := ⟨kc_X4_byteHere, kini_X4, List.mem_of_getElem? (i := 488) (by decide +kernel), List.mem_of_getElem? (i := 15) (by decide +kernel), ⟨by decide +kernel, by decide +kernel, by decide +kernel⟩, by decide, rfl⟩
theorem kc_X4_isDigitHere : Cond.code yX4_isDigitHere mX4_isDigitHere.2.1 mX4_isDigitHere.2.2.1 mX4_isDigitHere.2.2.2.1 ∈ lw_tbl := List.mem_of_getElem? (i := 500) (by decide +kernel)
theorem ko_X4_isDigitHere : bs_MV mX4_isDigitHere 4 := ⟨kc_X4_isDigitHere, kini_X4, List.mem_of_getElem? (i := 499) (by decide +kernel), List.mem_of_getElem? (i := 17) (by decide +kernel), ⟨by decide +kernel, by decide +kernel, by decide +kernel⟩, by decide, rfl⟩
theorem kc_X4_argumentsOf : Cond.code yX4_argumentsOf mX4_argumentsOf.2.1 mX4_argumentsOf.2.2.1 mX4_argumentsOf.2.2.2.1 ∈ lw_tbl := List.mem_of_getElem? (i := 492) (by decide +kernel)
theorem ko_X4_argumentsOf : bs_MS mX4_argumentsOf := ⟨kc_X4_argumentsOf, kini_X4, List.mem_of_getElem? (i := 491) (by decide +kernel), ⟨by decide +kernel, by decide +kernel, by decide +kernel⟩, by decide⟩
theorem kc_X5_init : Cond.code yX5_init mX5_init.2.1 mX5_init.2.2.1 mX5_init.2.2.2.1 ∈ lw_tbl := List.mem_of_getElem? (i := 63) (by decide +kernel)
theorem ko_X5_init : bs_MC mX5_init := ⟨kc_X5_init, kini_X5, List.mem_of_getElem? (i := 62) (by decide +kernel), ⟨by decide +kernel, by decide +kernel, by decide +kernel⟩, ⟨rfl, rfl⟩, by decide⟩
theorem kc_X5_allocate : Cond.code yX5_allocate mX5_allocate.2.1 mX5_allocate.2.2.1 mX5_allocate.2.2.2.1 ∈ lw_tbl := List.mem_of_getElem? (i := 151) (by decide +kernel)
theorem ko_X5_allocate : bs_MV mX5_allocate 5 := ⟨kc_X5_allocate, kini_X5, List.mem_of_getElem? (i := 149) (by decide +kernel), List.mem_of_getElem? (i := 150) (by decide +kernel), ⟨by decide +kernel, by decide +kernel, by decide +kernel⟩, by decide, rfl⟩
theorem kc_X5_read : Cond.code yX5_read mX5_read.2.1 mX5_read.2.2.1 mX5_read.2.2.2.1 ∈ lw_tbl := List.mem_of_getElem? (i := 227) (by decide +kernel)
theorem ko_X5_read : bs_MV mX5_read 5 := ⟨kc_X5_read, kini_X5, List.mem_of_getElem? (i := 225) (by decide +kernel), List.mem_of_getElem? (i := 226) (by decide +kernel), ⟨by decide +kernel, by decide +kernel, by decide +kernel⟩, by decide, rfl⟩
theorem kc_X5_write : Cond.code yX5_write mX5_write.2.1 mX5_write.2.2.1 mX5_write.2.2.2.1 ∈ lw_tbl := List.mem_of_getElem? (i := 266) (by decide +kernel)
theorem ko_X5_write : bs_MV mX5_write 5 := ⟨kc_X5_write, kini_X5, List.mem_of_getElem? (i := 264) (by decide +kernel), List.mem_of_getElem? (i := 265) (by decide +kernel), ⟨by decide +kernel, by decide +kernel, by decide +kernel⟩, by decide, rfl⟩
theorem kc_X5_reborrow : Cond.code yX5_reborrow mX5_reborrow.2.1 mX5_reborrow.2.2.1 mX5_reborrow.2.2.2.1 ∈ lw_tbl := List.mem_of_getElem? (i := 294) (by decide +kernel)
theorem ko_X5_reborrow : bs_MV mX5_reborrow 5 := ⟨kc_X5_reborrow, kini_X5, List.mem_of_getElem? (i := 292) (by decide +kernel), List.mem_of_getElem? (i := 293) (by decide +kernel), ⟨by decide +kernel, by decide +kernel, by decide +kernel⟩, by decide, rfl⟩
theorem kc_X5_free : Cond.code yX5_free mX5_free.2.1 mX5_free.2.2.1 mX5_free.2.2.2.1 ∈ lw_tbl := List.mem_of_getElem? (i := 326) (by decide +kernel)
theorem ko_X5_free : bs_MV mX5_free 5 := ⟨kc_X5_free, kini_X5, List.mem_of_getElem? (i := 324) (by decide +kernel), List.mem_of_getElem? (i := 325) (by decide +kernel), ⟨by decide +kernel, by decide +kernel, by decide +kernel⟩, by decide, rfl⟩
theorem kc_X5_enterCall : Cond.code yX5_enterCall mX5_enterCall.2.1 mX5_enterCall.2.2.1 mX5_enterCall.2.2.2.1 ∈ lw_tbl := List.mem_of_getElem? (i := 343) (by decide +kernel)
theorem ko_X5_enterCall : bs_MV mX5_enterCall 5 := ⟨kc_X5_enterCall, kini_X5, List.mem_of_getElem? (i := 341) (by decide +kernel), List.mem_of_getElem? (i := 342) (by decide +kernel), ⟨by decide +kernel, by decide +kernel, by decide +kernel⟩, by decide, rfl⟩
theorem kc_X5_leaveCall : Cond.code yX5_leaveCall mX5_leaveCall.2.1 mX5_leaveCall.2.2.1 mX5_leaveCall.2.2.2.1 ∈ lw_tbl := List.mem_of_getElem? (i := 355) (by decide +kernel)
theorem ko_X5_leaveCall : bs_MV mX5_leaveCall 5 := ⟨kc_X5_leaveCall, kini_X5, List.mem_of_getElem? (i := 353) (by decide +kernel), List.mem_of_getElem? (i := 354) (by decide +kernel), ⟨by decide +kernel, by decide +kernel, by decide +kernel⟩, by decide, rfl⟩
theorem kc_X5_checkRead : Cond.code yX5_checkRead mX5_checkRead.2.1 mX5_checkRead.2.2.1 mX5_checkRead.2.2.2.1 ∈ lw_tbl := List.mem_of_getElem? (i := 367) (by decide +kernel)
theorem ko_X5_checkRead : bs_MV mX5_checkRead 5 := ⟨kc_X5_checkRead, kini_X5, List.mem_of_getElem? (i := 365) (by decide +kernel), List.mem_of_getElem? (i := 366) (by decide +kernel), ⟨by decide +kernel, by decide +kernel, by decide +kernel⟩, by decide, rfl⟩
theorem kc_X5_checkWrite : Cond.code yX5_checkWrite mX5_checkWrite.2.1 mX5_checkWrite.2.2.1 mX5_checkWrite.2.2.2.1 ∈ lw_tbl := List.mem_of_getElem? (i := 371) (by decide +kernel)
theorem ko_X5_checkWrite : bs_MV mX5_checkWrite 5 := ⟨kc_X5_checkWrite, kini_X5, List.mem_of_getElem? (i := 369) (by decide +kernel), List.mem_of_getElem? (i := 370) (by decide +kernel), ⟨by decide +kernel, by decide +kernel, by decide +kernel⟩, by decide, rfl⟩
theorem kc_X5_checkFree : Cond.code yX5_checkFree mX5_checkFree.2.1 mX5_checkFree.2.2.1 mX5_checkFree.2.2.2.1 ∈ lw_tbl := List.mem_of_getElem? (i := 375) (by decide +kernel)
theorem ko_X5_checkFree : bs_MV mX5_checkFree 5 := ⟨kc_X5_checkFree, kini_X5, List.mem_of_getElem? (i := 373) (by decide +kernel), List.mem_of_getElem? (i := 374) (by decide +kernel), ⟨by decide +kernel, by decide +kernel, by decide +kernel⟩, by decide, rfl⟩
theorem kc_X5_removedByWrite : Cond.code yX5_removedByWrite mX5_removedByWrite.2.1 mX5_removedByWrite.2.2.1 mX5_removedByWrite.2.2.2.1 ∈ lw_tbl := List.mem_of_getElem? (i := 379) (by decide +kernel)
theorem ko_X5_removedByWrite : bs_MV mX5_removedByWrite 5 := ⟨kc_X5_removedByWrite, kini_X5, List.mem_of_getElem? (i := 377) (by decide +kernel), List.mem_of_getElem? (i := 378) (by decide +kernel), ⟨by decide +kernel, by decide +kernel, by decide +kernel⟩, by decide, rfl⟩
theorem kc_X5_stackSize : Cond.code yX5_stackSize mX5_stackSize.2.1 mX5_stackSize.2.2.1 mX5_stackSize.2.2.2.1 ∈ lw_tbl := List.mem_of_getElem? (i := 384) (by decide +kernel)
theorem ko_X5_stackSize : bs_MV mX5_stackSize 5 := ⟨kc_X5_stackSize, kini_X5, List.mem_of_getElem? (i := 382) (by decide +kernel), List.mem_of_getElem? (i := 383) (by decide +kernel), ⟨by decide +kernel, by decide +kernel, by decide +kernel⟩, by decide, rfl⟩
theorem kc_X5_itemTag : Cond.code yX5_itemTag mX5_itemTag.2.1 mX5_itemTag.2.2.1 mX5_itemTag.2.2.2.1 ∈ lw_tbl := List.mem_of_getElem? (i := 396) (by decide +kernel)
theorem ko_X5_itemTag : bs_MV mX5_itemTag 5 := ⟨kc_X5_itemTag, kini_X5, List.mem_of_getElem? (i := 394) (by decide +kernel), List.mem_of_getElem? (i := 395) (by decide +kernel), ⟨by decide +kernel, by decide +kernel, by decide +kernel⟩, by decide, rfl⟩
theorem kc_X5_itemPermission : Cond.code yX5_itemPermission mX5_itemPermission.2.1 mX5_itemPermission.2.2.1 mX5_itemPermission.2.2.2.1 ∈ lw_tbl := List.mem_of_getElem? (i := 404) (by decide +kernel)
theorem ko_X5_itemPermission : bs_MV mX5_itemPermission 5 := ⟨kc_X5_itemPermission, kini_X5, List.mem_of_getElem? (i := 402) (by decide +kernel), List.mem_of_getElem? (i := 403) (by decide +kernel), ⟨by decide +kernel, by decide +kernel, by decide +kernel⟩, by decide, rfl⟩
theorem kc_X5_itemProtected : Cond.code yX5_itemProtected mX5_itemProtected.2.1 mX5_itemProtected.2.2.1 mX5_itemProtected.2.2.2.1 ∈ lw_tbl := List.mem_of_getElem? (i := 408) (by decide +kernel)
theorem ko_X5_itemProtected : bs_MV mX5_itemProtected 5 := ⟨kc_X5_itemProtected, kini_X5, List.mem_of_getElem? (i := 406) (by decide +kernel), List.mem_of_getElem? (i := 407) (by decide +kernel), ⟨by decide +kernel, by decide +kernel, by decide +kernel⟩, by decide, rfl⟩
theorem kc_X5_allocationOf : Cond.code yX5_allocationOf mX5_allocationOf.2.1 mX5_allocationOf.2.2.1 mX5_allocationOf.2.2.2.1 ∈ lw_tbl := List.mem_of_getElem? (i := 416) (by decide +kernel)
theorem ko_X5_allocationOf : bs_MV mX5_allocationOf 5 := ⟨kc_X5_allocationOf, kini_X5, List.mem_of_getElem? (i := 414) (by decide +kernel), List.mem_of_getElem? (i := 415) (by decide +kernel), ⟨by decide +kernel, by decide +kernel, by decide +kernel⟩, by decide, rfl⟩
theorem kc_X5_parent : Cond.code yX5_parent mX5_parent.2.1 mX5_parent.2.2.1 mX5_parent.2.2.2.1 ∈ lw_tbl := List.mem_of_getElem? (i := 420) (by decide +kernel)
theorem ko_X5_parent : bs_MV mX5_parent 5 := ⟨kc_X5_parent, kini_X5, List.mem_of_getElem? (i := 418) (by decide +kernel), List.mem_of_getElem? (i := 419) (by decide +kernel), ⟨by decide +kernel, by decide +kernel, by decide +kernel⟩, by decide, rfl⟩
theorem kc_X5_liveCells : Cond.code yX5_liveCells mX5_liveCells.2.1 mX5_liveCells.2.2.1 mX5_liveCells.2.2.2.1 ∈ lw_tbl := List.mem_of_getElem? (i := 424) (by decide +kernel)
theorem ko_X5_liveCells : bs_MV mX5_liveCells 5 := ⟨kc_X5_liveCells, kini_X5, List.mem_of_getElem? (i := 422) (by decide +kernel), List.mem_of_getElem? (i := 423) (by decide +kernel), ⟨by decide +kernel, by decide +kernel, by decide +kernel⟩, by decide, rfl⟩
theorem kc_X5_isFreed : Cond.code yX5_isFreed mX5_isFreed.2.1 mX5_isFreed.2.2.1 mX5_isFreed.2.2.2.1 ∈ lw_tbl := List.mem_of_getElem? (i := 433) (by decide +kernel)
theorem ko_X5_isFreed : bs_MV mX5_isFreed 5 := ⟨kc_X5_isFreed, kini_X5, List.mem_of_getElem? (i := 431) (by decide +kernel), List.mem_of_getElem? (i := 432) (by decide +kernel), ⟨by decide +kernel, by decide +kernel, by decide +kernel⟩, by decide, rfl⟩
theorem kc_X5_pointerCount : Cond.code yX5_pointerCount mX5_pointerCount.2.1 mX5_pointerCount.2.2.1 mX5_pointerCount.2.2.2.1 ∈ lw_tbl := List.mem_of_getElem? (i := 437) (by decide +kernel)
theorem ko_X5_pointerCount : bs_MV mX5_pointerCount 5 := ⟨kc_X5_pointerCount, kini_X5, List.mem_of_getElem? (i := 435) (by decide +kernel), List.mem_of_getElem? (i := 436) (by decide +kernel), ⟨by decide +kernel, by decide +kernel, by decide +kernel⟩, by decide, rfl⟩
theorem kc_X5_callDepth : Cond.code yX5_callDepth mX5_callDepth.2.1 mX5_callDepth.2.2.1 mX5_callDepth.2.2.2.1 ∈ lw_tbl := List.mem_of_getElem? (i := 441) (by decide +kernel)
theorem ko_X5_callDepth : bs_MV mX5_callDepth 5 := ⟨kc_X5_callDepth, kini_X5, List.mem_of_getElem? (i := 439) (by decide +kernel), List.mem_of_getElem? (i := 440) (by decide +kernel), ⟨by decide +kernel, by decide +kernel, by decide +kernel⟩, by decide, rfl⟩
theorem kc_X5_violationCount : Cond.code yX5_violationCount mX5_violationCount.2.1 mX5_violationCount.2.2.1 mX5_violationCount.2.2.2.1 ∈ lw_tbl := List.mem_of_getElem? (i := 445) (by decide +kernel)
theorem ko_X5_violationCount : bs_MV mX5_violationCount 5 := ⟨kc_X5_violationCount, kini_X5, List.mem_of_getElem? (i := 443) (by decide +kernel), List.mem_of_getElem? (i := 444) (by decide +kernel), ⟨by decide +kernel, by decide +kernel, by decide +kernel⟩, by decide, rfl⟩
theorem kc_X5_violationKind : Cond.code yX5_violationKind mX5_violationKind.2.1 mX5_violationKind.2.2.1 mX5_violationKind.2.2.2.1 ∈ lw_tbl := List.mem_of_getElem? (i := 449) (by decide +kernel)
theorem ko_X5_violationKind : bs_MV mX5_violationKind 5 := ⟨kc_X5_violationKind, kini_X5, List.mem_of_getElem? (i := 447) (by decide +kernel), List.mem_of_getElem? (i := 448) (by decide +kernel), ⟨by decide +kernel, by decide +kernel, by decide +kernel⟩, by decide, rfl⟩
theorem kc_X5_violationCell : Cond.code yX5_violationCell mX5_violationCell.2.1 mX5_violationCell.2.2.1 mX5_violationCell.2.2.2.1 ∈ lw_tbl := List.mem_of_getElem? (i := 453) (by decide +kernel)
theorem ko_X5_violationCell : bs_MV mX5_violationCell 5 := ⟨kc_X5_violationCell, kini_X5, List.mem_of_getElem? (i := 451) (by decide +kernel), List.mem_of_getElem? (i := 452) (by decide +kernel), ⟨by decide +kernel, by decide +kernel, by decide +kernel⟩, by decide, rfl⟩
theorem kc_X5_errorCount : Cond.code yX5_errorCount mX5_errorCount.2.1 mX5_errorCount.2.2.1 mX5_errorCount.2.2.2.1 ∈ lw_tbl := List.mem_of_getElem? (i := 457) (by decide +kernel)
theorem ko_X5_errorCount : bs_MV mX5_errorCount 5 := ⟨kc_X5_errorCount, kini_X5, List.mem_of_getElem? (i := 455) (by decide +kernel), List.mem_of_getElem? (i := 456) (by decide +kernel), ⟨by decide +kernel, by decide +kernel, by decide +kernel⟩, by decide, rfl⟩
theorem kc_X5_append : Cond.code yX5_append mX5_append.2.1 mX5_append.2.2.1 mX5_append.2.2.2.1 ∈ lw_tbl := List.mem_of_getElem? (i := 461) (by decide +kernel)
theorem ko_X5_append : bs_MV mX5_append 5 := ⟨kc_X5_append, kini_X5, List.mem_of_getElem? (i := 459) (by decide +kernel), List.mem_of_getElem? (i := 460) (by decide +kernel), ⟨by decide +kernel, by decide +kernel, by decide +kernel⟩, by decide, rfl⟩
theorem kc_X5_clearText : Cond.code yX5_clearText mX5_clearText.2.1 mX5_clearText.2.2.1 mX5_clearText.2.2.2.1 ∈ lw_tbl := List.mem_of_getElem? (i := 469) (by decide +kernel)
theorem ko_X5_clearText : bs_MV mX5_clearText 5 := ⟨kc_X5_clearText, kini_X5, List.mem_of_getElem? (i := 467) (by decide +kernel), List.mem_of_getElem? (i := 468) (by decide +kernel), ⟨by decide +kernel, by decide +kernel, by decide +kernel⟩, by decide, rfl⟩
theorem kc_X5_runScript : Cond.code yX5_runScript mX5_runScript.2.1 mX5_runScript.2.2.1 mX5_runScript.2.2.2.1 ∈ lw_tbl := List.mem_of_getElem? (i := 473) (by decide +kernel)
theorem ko_X5_runScript : bs_MV mX5_runScript 5 := ⟨kc_X5_runScript, kini_X5, List.mem_of_getElem? (i := 471) (by decide +kernel), List.mem_of_getElem? (i := 472) (by decide +kernel), ⟨by decide +kernel, by decide +kernel, by decide +kernel⟩, by decide, rfl⟩
theorem kc_X5_digest : Cond.code yX5_digest mX5_digest.2.1 mX5_digest.2.2.1 mX5_digest.2.2.2.1 ∈ lw_tbl := List.mem_of_getElem? (i := 515) (by decide +kernel)
theorem ko_X5_digest : bs_MV mX5_digest 5 := ⟨kc_X5_digest, kini_X5, List.mem_of_getElem? (i := 513) (by decide +kernel), List.mem_of_getElem? (i := 514) (by decide +kernel), ⟨by decide +kernel, by decide +kernel, by decide +kernel⟩, by decide, rfl⟩
theorem kc_X5_performAllocate : Cond.code yX5_performAllocate mX5_performAllocate.2.1 mX5_performAllocate.2.2.1 mX5_performAllocate.2.2.2.1 ∈ lw_tbl := List.mem_of_getElem? (i := 155) (by decide +kernel)
theorem ko_X5_performAllocate : bs_MV mX5_performAllocate 5 := ⟨kc_X5_performAllocate, kini_X5, List.mem_of_getElem? (i := 154) (by decide +kernel), List.mem_of_getElem? (i := 0) (by decide +kernel), ⟨by decide +kernel, by decide +kernel, by decide +kernel⟩, by decide, rfl⟩
theorem kc_X5_performRead : Cond.code yX5_performRead mX5_performRead.2.1 mX5_performRead.2.2.1 mX5_performRead.2.2.2.1 ∈ lw_tbl := List.mem_of_getElem? (i := 231) (by decide +kernel)
theorem ko_X5_performRead : bs_MV mX5_performRead 5 := ⟨kc_X5_performRead, kini_X5, List.mem_of_getElem? (i := 230) (by decide +kernel), List.mem_of_getElem? (i := 3) (by decide +kernel), ⟨by decide +kernel, by decide +kernel, by decide +kernel⟩, by decide, rfl⟩
theorem kc_X5_performWrite : Cond.code yX5_performWrite mX5_performWrite.2.1 mX5_performWrite.2.2.1 mX5_performWrite.2.2.2.1 ∈ lw_tbl := List.mem_of_getElem? (i := 270) (by decide +kernel)
theorem ko_X5_performWrite : bs_MV mX5_performWrite 5 := ⟨kc_X5_performWrite, kini_X5, List.mem_of_getElem? (i := 269) (by decide +kernel), List.mem_of_getElem? (i := 6) (by decide +kernel), ⟨by decide +kernel, by decide +kernel, by decide +kernel⟩, by decide, rfl⟩
theorem kc_X5_performReborrow : Cond.code yX5_performReborrow mX5_performReborrow.2.1 mX5_performReborrow.2.2.1 mX5_performReborrow.2.2.2.1 ∈ lw_tbl := List.mem_of_getElem? (i := 298) (by decide +kernel)
theorem ko_X5_performReborrow : bs_MV mX5_performReborrow 5 := ⟨kc_X5_performReborrow, kini_X5, List.mem_of_getElem? (i := 297) (by decide +kernel), List.mem_of_getElem? (i := 7) (by decide +kernel), ⟨by decide +kernel, by decide +kernel, by decide +kernel⟩, by decide, rfl⟩
theorem kc_X5_performFree : Cond.code yX5_performFree mX5_performFree.2.1 mX5_performFree.2.2.1 mX5_performFree.2.2.2.1 ∈ lw_tbl := List.mem_of_getElem? (i := 330) (by decide +kernel)
theorem ko_X5_performFree : bs_MV mX5_performFree 5 := ⟨kc_X5_performFree, kini_X5, List.mem_of_getElem? (i := 329) (by decide +kernel), List.mem_of_getElem? (i := 8) (by decide +kernel), ⟨by decide +kernel, by decide +kernel, by decide +kernel⟩, by decide, rfl⟩
theorem kc_X5_performEnter : Cond.code yX5_performEnter mX5_performEnter.2.1 mX5_performEnter.2.2.1 mX5_performEnter.2.2.2.1 ∈ lw_tbl := List.mem_of_getElem? (i := 347) (by decide +kernel)
theorem ko_X5_performEnter : bs_MV mX5_performEnter 5 := ⟨kc_X5_performEnter, kini_X5, List.mem_of_getElem? (i := 346) (by decide +kernel), List.mem_of_getElem? (i := 9) (by decide +kernel), ⟨by decide +kernel, by decide +kernel, by decide +kernel⟩, by decide, rfl⟩
theorem kc_X5_performLeave : Cond.code yX5_performLeave mX5_performLeave.2.1 mX5_performLeave.2.2.1 mX5_performLeave.2.2.2.1 ∈ lw_tbl := List.mem_of_getElem? (i := 359) (by decide +kernel)
theorem ko_X5_performLeave : bs_MV mX5_performLeave 5 := ⟨kc_X5_performLeave, kini_X5, List.mem_of_getElem? (i := 358) (by decide +kernel), List.mem_of_getElem? (i := 10) (by decide +kernel), ⟨by decide +kernel, by decide +kernel, by decide +kernel⟩, by decide, rfl⟩
theorem kc_X5_performCommand : Cond.code yX5_performCommand mX5_performCommand.2.1 mX5_performCommand.2.2.1 mX5_performCommand.2.2.2.1 ∈ lw_tbl := List.mem_of_getElem? (i := 504) (by decide +kernel)
theorem ko_X5_performCommand : bs_MV mX5_performCommand 5 := ⟨kc_X5_performCommand, kini_X5, List.mem_of_getElem? (i := 503) (by decide +kernel), List.mem_of_getElem? (i := 18) (by decide +kernel), ⟨by decide +kernel, by decide +kernel, by decide +kernel⟩, by decide, rfl⟩
theorem kc_X5_counted : Cond.code yX5_counted mX5_counted.2.1 mX5_counted.2.2.1 mX5_counted.2.2.2.1 ∈ lw_tbl := List.mem_of_getElem? (i := 223) (by decide +kernel)
theorem ko_X5_counted : bs_MV mX5_counted 5 := ⟨kc_X5_counted, kini_X5, List.mem_of_getElem? (i := 222) (by decide +kernel), List.mem_of_getElem? (i := 2) (by decide +kernel), ⟨by decide +kernel, by decide +kernel, by decide +kernel⟩, by decide, rfl⟩
theorem kc_X5_violated : Cond.code yX5_violated mX5_violated.2.1 mX5_violated.2.2.1 mX5_violated.2.2.2.1 ∈ lw_tbl := List.mem_of_getElem? (i := 246) (by decide +kernel)
theorem ko_X5_violated : bs_MV mX5_violated 5 := ⟨kc_X5_violated, kini_X5, List.mem_of_getElem? (i := 245) (by decide +kernel), List.mem_of_getElem? (i := 5) (by decide +kernel), ⟨by decide +kernel, by decide +kernel, by decide +kernel⟩, by decide, rfl⟩
theorem kc_X5_addPointer : Cond.code yX5_addPointer mX5_addPointer.2.1 mX5_addPointer.2.2.1 mX5_addPointer.2.2.2.1 ∈ lw_tbl := List.mem_of_getElem? (i := 205) (by decide +kernel)
theorem ko_X5_addPointer : bs_MV mX5_addPointer 5 := ⟨kc_X5_addPointer, kini_X5, List.mem_of_getElem? (i := 204) (by decide +kernel), List.mem_of_getElem? (i := 1) (by decide +kernel), ⟨by decide +kernel, by decide +kernel, by decide +kernel⟩, by decide, rfl⟩
theorem kc_X5_pointerAt : Cond.code yX5_pointerAt mX5_pointerAt.2.1 mX5_pointerAt.2.2.1 mX5_pointerAt.2.2.2.1 ∈ lw_tbl := List.mem_of_getElem? (i := 235) (by decide +kernel)
theorem ko_X5_pointerAt : bs_MV mX5_pointerAt 5 := ⟨kc_X5_pointerAt, kini_X5, List.mem_of_getElem? (i := 234) (by decide +kernel), List.mem_of_getElem? (i := 4) (by decide +kernel), ⟨by decide +kernel, by decide +kernel, by decide +kernel⟩, by decide, rfl⟩
theorem kc_X5_allocationAt : Cond.code yX5_allocationAt mX5_allocationAt.2.1 mX5_allocationAt.2.2.1 mX5_allocationAt.2.2.2.1 ∈ lw_tbl := List.mem_of_getElem? (i := 392) (by decide +kernel)
theorem ko_X5_allocationAt : bs_MV mX5_allocationAt 5 := ⟨kc_X5_allocationAt, kini_X5, List.mem_of_getElem? (i := 391) (by decide +kernel), List.mem_of_getElem? (i := 12) (by decide +kernel), ⟨by decide +kernel, by decide +kernel, by decide +kernel⟩, by decide, rfl⟩
theorem kc_X5_cellAt : Cond.code yX5_cellAt mX5_cellAt.2.1 mX5_cellAt.2.2.1 mX5_cellAt.2.2.2.1 ∈ lw_tbl := List.mem_of_getElem? (i := 388) (by decide +kernel)
theorem ko_X5_cellAt : bs_MV mX5_cellAt 5 := ⟨kc_X5_cellAt, kini_X5, List.mem_of_getElem? (i := 387) (by decide +kernel), List.mem_of_getElem? (i := 11) (by decide +kernel), ⟨by decide +kernel, by decide +kernel, by decide +kernel⟩, by decide, rfl⟩
theorem kc_X5_cellThrough : Cond.code yX5_cellThrough mX5_cellThrough.2.1 mX5_cellThrough.2.2.1 mX5_cellThrough.2.2.2.1 ∈ lw_tbl := List.mem_of_getElem? (i := 238) (by decide +kernel)
theorem ko_X5_cellThrough : bs_MS mX5_cellThrough := ⟨kc_X5_cellThrough, kini_X5, List.mem_of_getElem? (i := 237) (by decide +kernel), ⟨by decide +kernel, by decide +kernel, by decide +kernel⟩, by decide⟩
theorem kc_X5_isFailure : Cond.code yX5_isFailure mX5_isFailure.2.1 mX5_isFailure.2.2.1 mX5_isFailure.2.2.2.1 ∈ lw_tbl := List.mem_of_getElem? (i := 511) (by decide +kernel)
theorem ko_X5_isFailure : bs_MS mX5_isFailure := ⟨kc_X5_isFailure, kini_X5, List.mem_of_getElem? (i := 510) (by decide +kernel), ⟨by decide +kernel, by decide +kernel, by decide +kernel⟩, by decide⟩
theorem kc_X5_asNumber : Cond.code yX5_asNumber mX5_asNumber.2.1 mX5_asNumber.2.2.1 mX5_asNumber.2.2.2.1 ∈ lw_tbl := List.mem_of_getElem? (i := 412) (by decide +kernel)
theorem ko_X5_asNumber : bs_MS mX5_asNumber := ⟨kc_X5_asNumber, kini_X5, List.mem_of_getElem? (i := 411) (by decide +kernel), ⟨by decide +kernel, by decide +kernel, by decide +kernel⟩, by decide⟩
theorem kc_X5_mixed : Cond.code yX5_mixed mX5_mixed.2.1 mX5_mixed.2.2.1 mX5_mixed.2.2.2.1 ∈ lw_tbl := List.mem_of_getElem? (i := 519) (by decide +kernel)
theorem ko_X5_mixed : bs_MS mX5_mixed := ⟨kc_X5_mixed, kini_X5, List.mem_of_getElem? (i := 518) (by decide +kernel), ⟨by decide +kernel, by decide +kernel, by decide +kernel⟩, by decide⟩
theorem kc_X6_init : Cond.code yX6_init mX6_init.2.1 mX6_init.2.2.1 mX6_init.2.2.2.1 ∈ lw_tbl := List.mem_of_getElem? (i := 537) (by decide +kernel)
theorem ko_X6_init : bs_MC mX6_init := ⟨kc_X6_init, kini_X6, List.mem_of_getElem? (i := 536) (by decide +kernel), ⟨by decide +kernel, by decide +kernel, by decide +kernel⟩, ⟨rfl, rfl⟩, by decide⟩
theorem kc_X6_in : Cond.code yX6_in mX6_in.2.1 mX6_in.2.2.1 mX6_in.2.2.2.1 ∈ lw_tbl := List.mem_of_getElem? (i := 619) (by decide +kernel)
theorem ko_X6_in : bs_MS mX6_in := ⟨kc_X6_in, kini_X6, List.mem_of_getElem? (i := 618) (by decide +kernel), ⟨by decide +kernel, by decide +kernel, by decide +kernel⟩, by decide⟩
theorem kc_X6_error : Cond.code yX6_error mX6_error.2.1 mX6_error.2.2.1 mX6_error.2.2.2.1 ∈ lw_tbl := List.mem_of_getElem? (i := 623) (by decide +kernel)
theorem ko_X6_error : bs_MV mX6_error 6 := ⟨kc_X6_error, kini_X6, List.mem_of_getElem? (i := 622) (by decide +kernel), List.mem_of_getElem? (i := 19) (by decide +kernel), ⟨by decide +kernel, by decide +kernel, by decide +kernel⟩, by decide, rfl⟩
theorem kc_X6_violate : Cond.code yX6_violate mX6_violate.2.1 mX6_violate.2.2.1 mX6_violate.2.2.2.1 ∈ lw_tbl := List.mem_of_getElem? (i := 663) (by decide +kernel)
theorem ko_X6_violate : bs_MV mX6_violate 6 := ⟨kc_X6_violate, kini_X6, List.mem_of_getElem? (i := 662) (by decide +kernel), List.mem_of_getElem? (i := 28) (by decide +kernel), ⟨by decide +kernel, by decide +kernel, by decide +kernel⟩, by decide, rfl⟩
theorem kc_X6_isPointer : Cond.code yX6_isPointer mX6_isPointer.2.1 mX6_isPointer.2.2.1 mX6_isPointer.2.2.2.1 ∈ lw_tbl := List.mem_of_getElem? (i := 643) (by decide +kernel)
theorem ko_X6_isPointer : bs_MV mX6_isPointer 6 := ⟨kc_X6_isPointer, kini_X6, List.mem_of_getElem? (i := 642) (by decide +kernel), List.mem_of_getElem? (i := 23) (by decide +kernel), ⟨by decide +kernel, by decide +kernel, by decide +kernel⟩, by decide, rfl⟩
theorem kc_X6_isCell : Cond.code yX6_isCell mX6_isCell.2.1 mX6_isCell.2.2.1 mX6_isCell.2.2.2.1 ∈ lw_tbl := List.mem_of_getElem? (i := 639) (by decide +kernel)
theorem ko_X6_isCell : bs_MV mX6_isCell 6 := ⟨kc_X6_isCell, kini_X6, List.mem_of_getElem? (i := 638) (by decide +kernel), List.mem_of_getElem? (i := 22) (by decide +kernel), ⟨by decide +kernel, by decide +kernel, by decide +kernel⟩, by decide, rfl⟩
theorem kc_X6_cellOf : Cond.code yX6_cellOf mX6_cellOf.2.1 mX6_cellOf.2.2.1 mX6_cellOf.2.2.2.1 ∈ lw_tbl := List.mem_of_getElem? (i := 651) (by decide +kernel)
theorem ko_X6_cellOf : bs_MV mX6_cellOf 6 := ⟨kc_X6_cellOf, kini_X6, List.mem_of_getElem? (i := 650) (by decide +kernel), List.mem_of_getElem? (i := 25) (by decide +kernel), ⟨by decide +kernel, by decide +kernel, by decide +kernel⟩, by decide, rfl⟩
theorem kc_X6_granting : Cond.code yX6_granting mX6_granting.2.1 mX6_granting.2.2.1 mX6_granting.2.2.2.1 ∈ lw_tbl := List.mem_of_getElem? (i := 655) (by decide +kernel)
theorem ko_X6_granting : bs_MV mX6_granting 6 := ⟨kc_X6_granting, kini_X6, List.mem_of_getElem? (i := 654) (by decide +kernel), List.mem_of_getElem? (i := 26) (by decide +kernel), ⟨by decide +kernel, by decide +kernel, by decide +kernel⟩, by decide, rfl⟩
theorem kc_X6_above : Cond.code yX6_above mX6_above.2.1 mX6_above.2.2.1 mX6_above.2.2.2.1 ∈ lw_tbl := List.mem_of_getElem? (i := 679) (by decide +kernel)
theorem ko_X6_above : bs_MV mX6_above 6 := ⟨kc_X6_above, kini_X6, List.mem_of_getElem? (i := 678) (by decide +kernel), List.mem_of_getElem? (i := 31) (by decide +kernel), ⟨by decide +kernel, by decide +kernel, by decide +kernel⟩, by decide, rfl⟩
theorem kc_X6_isGuarded : Cond.code yX6_isGuarded mX6_isGuarded.2.1 mX6_isGuarded.2.2.1 mX6_isGuarded.2.2.2.1 ∈ lw_tbl := List.mem_of_getElem? (i := 659) (by decide +kernel)
theorem ko_X6_isGuarded : bs_MV mX6_isGuarded 6 := ⟨kc_X6_isGuarded, kini_X6, List.mem_of_getElem? (i := 658) (by decide +kernel), List.mem_of_getElem? (i := 27) (by decide +kernel), ⟨by decide +kernel, by decide +kernel, by decide +kernel⟩, by decide, rfl⟩
theorem kc_X6_readKind : Cond.code yX6_readKind mX6_readKind.2.1 mX6_readKind.2.2.1 mX6_readKind.2.2.2.1 ∈ lw_tbl := List.mem_of_getElem? (i := 647) (by decide +kernel)
theorem ko_X6_readKind : bs_MV mX6_readKind 6 := ⟨kc_X6_readKind, kini_X6, List.mem_of_getElem? (i := 646) (by decide +kernel), List.mem_of_getElem? (i := 24) (by decide +kernel), ⟨by decide +kernel, by decide +kernel, by decide +kernel⟩, by decide, rfl⟩
theorem kc_X6_writeKind : Cond.code yX6_writeKind mX6_writeKind.2.1 mX6_writeKind.2.2.1 mX6_writeKind.2.2.2.1 ∈ lw_tbl := List.mem_of_getElem? (i := 675) (by decide +kernel)
theorem ko_X6_writeKind : bs_MV mX6_writeKind 6 := ⟨kc_X6_writeKind, kini_X6, List.mem_of_getElem? (i := 674) (by decide +kernel), List.mem_of_getElem? (i := 30) (by decide +kernel), ⟨by decide +kernel, by decide +kernel, by decide +kernel⟩, by decide, rfl⟩
theorem kc_X6_rawKind : Cond.code yX6_rawKind mX6_rawKind.2.1 mX6_rawKind.2.2.1 mX6_rawKind.2.2.2.1 ∈ lw_tbl := List.mem_of_getElem? (i := 695) (by decide +kernel)
theorem ko_X6_rawKind : bs_MV mX6_rawKind 6 := ⟨kc_X6_rawKind, kini_X6, List.mem_of_getElem? (i := 694) (by decide +kernel), List.mem_of_getElem? (i := 34) (by decide +kernel), ⟨by decide +kernel, by decide +kernel, by decide +kernel⟩, by decide, rfl⟩
theorem kc_X6_freeKind : Cond.code yX6_freeKind mX6_freeKind.2.1 mX6_freeKind.2.2.1 mX6_freeKind.2.2.2.1 ∈ lw_tbl := List.mem_of_getElem? (i := 711) (by decide +kernel)
theorem ko_X6_freeKind : bs_MV mX6_freeKind 6 := ⟨kc_X6_freeKind, kini_X6, List.mem_of_getElem? (i := 710) (by decide +kernel), List.mem_of_getElem? (i := 37) (by decide +kernel), ⟨by decide +kernel, by decide +kernel, by decide +kernel⟩, by decide, rfl⟩
theorem kc_X6_doRead : Cond.code yX6_doRead mX6_doRead.2.1 mX6_doRead.2.2.1 mX6_doRead.2.2.2.1 ∈ lw_tbl := List.mem_of_getElem? (i := 667) (by decide +kernel)
theorem ko_X6_doRead : bs_MV mX6_doRead 6 := ⟨kc_X6_doRead, kini_X6, List.mem_of_getElem? (i := 666) (by decide +kernel), List.mem_of_getElem? (i := 29) (by decide +kernel), ⟨by decide +kernel, by decide +kernel, by decide +kernel⟩, by decide, rfl⟩
theorem kc_X6_doWrite : Cond.code yX6_doWrite mX6_doWrite.2.1 mX6_doWrite.2.2.1 mX6_doWrite.2.2.2.1 ∈ lw_tbl := List.mem_of_getElem? (i := 683) (by decide +kernel)
theorem ko_X6_doWrite : bs_MV mX6_doWrite 6 := ⟨kc_X6_doWrite, kini_X6, List.mem_of_getElem? (i := 682) (by decide +kernel), List.mem_of_getElem? (i := 32) (by decide +kernel), ⟨by decide +kernel, by decide +kernel, by decide +kernel⟩, by decide, rfl⟩
theorem kc_X6_insert : Cond.code yX6_insert mX6_insert.2.1 mX6_insert.2.2.1 mX6_insert.2.2.2.1 ∈ lw_tbl := List.mem_of_getElem? (i := 631) (by decide +kernel)
theorem ko_X6_insert : bs_MV mX6_insert 6 := ⟨kc_X6_insert, kini_X6, List.mem_of_getElem? (i := 630) (by decide +kernel), List.mem_of_getElem? (i := 21) (by decide +kernel), ⟨by decide +kernel, by decide +kernel, by decide +kernel⟩, by decide, rfl⟩
theorem kc_X6_newPointer : Cond.code yX6_newPointer mX6_newPointer.2.1 mX6_newPointer.2.2.1 mX6_newPointer.2.2.2.1 ∈ lw_tbl := List.mem_of_getElem? (i := 627) (by decide +kernel)
theorem ko_X6_newPointer : bs_MV mX6_newPointer 6 := ⟨kc_X6_newPointer, kini_X6, List.mem_of_getElem? (i := 626) (by decide +kernel), List.mem_of_getElem? (i := 20) (by decide +kernel), ⟨by decide +kernel, by decide +kernel, by decide +kernel⟩, by decide, rfl⟩
theorem kc_X6_allocate : Cond.code yX6_allocate mX6_allocate.2.1 mX6_allocate.2.2.1 mX6_allocate.2.2.2.1 ∈ lw_tbl := List.mem_of_getElem? (i := 616) (by decide +kernel)
theorem ko_X6_allocate : bs_MV mX6_allocate 6 := ⟨kc_X6_allocate, kini_X6, List.mem_of_getElem? (i := 614) (by decide +kernel), List.mem_of_getElem? (i := 615) (by decide +kernel), ⟨by decide +kernel, by decide +kernel, by decide +kernel⟩, by decide, rfl⟩
theorem kc_X6_read : Cond.code yX6_read mX6_read.2.1 mX6_read.2.2.1 mX6_read.2.2.2.1 ∈ lw_tbl := List.mem_of_getElem? (i := 635) (by decide +kernel)
theorem ko_X6_read : bs_MV mX6_read 6 := ⟨kc_X6_read, kini_X6, List.mem_of_getElem? (i := 633) (by decide +kernel), List.mem_of_getElem? (i := 634) (by decide +kernel), ⟨by decide +kernel, by decide +kernel, by decide +kernel⟩, by decide, rfl⟩
theorem kc_X6_write : Cond.code yX6_write mX6_write.2.1 mX6_write.2.2.1 mX6_write.2.2.2.1 ∈ lw_tbl := List.mem_of_getElem? (i := 671) (by decide +kernel)
theorem ko_X6_write : bs_MV mX6_write 6 := ⟨kc_X6_write, kini_X6, List.mem_of_getElem? (i := 669) (by decide +kernel), List.mem_of_getElem? (i := 670) (by decide +kernel), ⟨by decide +kernel, by decide +kernel, by decide +kernel⟩, by decide, rfl⟩
theorem kc_X6_reborrowKind : Cond.code yX6_reborrowKind mX6_reborrowKind.2.1 mX6_reborrowKind.2.2.1 mX6_reborrowKind.2.2.2.1 ∈ lw_tbl := List.mem_of_getElem? (i := 691) (by decide +kernel)
theorem ko_X6_reborrowKind : bs_MV mX6_reborrowKind 6 := ⟨kc_X6_reborrowKind, kini_X6, List.mem_of_getElem? (i := 690) (by decide +kernel), List.mem_of_getElem? (i := 33) (by decide +kernel), ⟨by decide +kernel, by decide +kernel, by decide +kernel⟩, by decide, rfl⟩
theorem kc_X6_sizeBy : Cond.code yX6_sizeBy mX6_sizeBy.2.1 mX6_sizeBy.2.2.1 mX6_sizeBy.2.2.2.1 ∈ lw_tbl := List.mem_of_getElem? (i := 699) (by decide +kernel)
theorem ko_X6_sizeBy : bs_MV mX6_sizeBy 6 := ⟨kc_X6_sizeBy, kini_X6, List.mem_of_getElem? (i := 698) (by decide +kernel), List.mem_of_getElem? (i := 35) (by decide +kernel), ⟨by decide +kernel, by decide +kernel, by decide +kernel⟩, by decide, rfl⟩
theorem kc_X6_put : Cond.code yX6_put mX6_put.2.1 mX6_put.2.2.1 mX6_put.2.2.2.1 ∈ lw_tbl := List.mem_of_getElem? (i := 703) (by decide +kernel)
theorem ko_X6_put : bs_MV mX6_put 6 := ⟨kc_X6_put, kini_X6, List.mem_of_getElem? (i := 702) (by decide +kernel), List.mem_of_getElem? (i := 36) (by decide +kernel), ⟨by decide +kernel, by decide +kernel, by decide +kernel⟩, by decide, rfl⟩
theorem kc_X6_reborrow : Cond.code yX6_reborrow mX6_reborrow.2.1 mX6_reborrow.2.2.1 mX6_reborrow.2.2.2.1 ∈ lw_tbl := List.mem_of_getElem? (i := 687) (by decide +kernel)
theorem ko_X6_reborrow : bs_MV mX6_reborrow 6 := ⟨kc_X6_reborrow, kini_X6, List.mem_of_getElem? (i := 685) (by decide +kernel), List.mem_of_getElem? (i := 686) (by decide +kernel), ⟨by decide +kernel, by decide +kernel, by decide +kernel⟩, by decide, rfl⟩
theorem kc_X6_free : Cond.code yX6_free mX6_free.2.1 mX6_free.2.2.1 mX6_free.2.2.2.1 ∈ lw_tbl := List.mem_of_getElem? (i := 707) (by decide +kernel)
theorem ko_X6_free : bs_MV mX6_free 6 := ⟨kc_X6_free, kini_X6, List.mem_of_getElem? (i := 705) (by decide +kernel), List.mem_of_getElem? (i := 706) (by decide +kernel), ⟨by decide +kernel, by decide +kernel, by decide +kernel⟩, by decide, rfl⟩
theorem kc_X6_enterCall : Cond.code yX6_enterCall mX6_enterCall.2.1 mX6_enterCall.2.2.1 mX6_enterCall.2.2.2.1 ∈ lw_tbl := List.mem_of_getElem? (i := 715) (by decide +kernel)
theorem ko_X6_enterCall : bs_MV mX6_enterCall 6 := ⟨kc_X6_enterCall, kini_X6, List.mem_of_getElem? (i := 713) (by decide +kernel), List.mem_of_getElem? (i := 714) (by decide +kernel), ⟨by decide +kernel, by decide +kernel, by decide +kernel⟩, by decide, rfl⟩
theorem kc_X6_leaveCall : Cond.code yX6_leaveCall mX6_leaveCall.2.1 mX6_leaveCall.2.2.1 mX6_leaveCall.2.2.2.1 ∈ lw_tbl := List.mem_of_getElem? (i := 719) (by decide +kernel)
theorem ko_X6_leaveCall : bs_MV mX6_leaveCall 6 := ⟨kc_X6_leaveCall, kini_X6, List.mem_of_getElem? (i := 717) (by decide +kernel), List.mem_of_getElem? (i := 718) (by decide +kernel), ⟨by decide +kernel, by decide +kernel, by decide +kernel⟩, by decide, rfl⟩
theorem kc_X6_checkRead : Cond.code yX6_checkRead mX6_checkRead.2.1 mX6_checkRead.2.2.1 mX6_checkRead.2.2.2.1 ∈ lw_tbl := List.mem_of_getElem? (i := 723) (by decide +kernel)
theorem ko_X6_checkRead : bs_MV mX6_checkRead 6 := ⟨kc_X6_checkRead, kini_X6, List.mem_of_getElem? (i := 721) (by decide +kernel), List.mem_of_getElem? (i := 722) (by decide +kernel), ⟨by decide +kernel, by decide +kernel, by decide +kernel⟩, by decide, rfl⟩
theorem kc_X6_checkWrite : Cond.code yX6_checkWrite mX6_checkWrite.2.1 mX6_checkWrite.2.2.1 mX6_checkWrite.2.2.2.1 ∈ lw_tbl := List.mem_of_getElem? (i := 727) (by decide +kernel)
theorem ko_X6_checkWrite : bs_MV mX6_checkWrite 6 := ⟨kc_X6_checkWrite, kini_X6, List.mem_of_getElem? (i := 725) (by decide +kernel), List.mem_of_getElem? (i := 726) (by decide +kernel), ⟨by decide +kernel, by decide +kernel, by decide +kernel⟩, by decide, rfl⟩
theorem kc_X6_checkFree : Cond.code yX6_checkFree mX6_checkFree.2.1 mX6_checkFree.2.2.1 mX6_checkFree.2.2.2.1 ∈ lw_tbl := List.mem_of_getElem? (i := 731) (by decide +kernel)
theorem ko_X6_checkFree : bs_MV mX6_checkFree 6 := ⟨kc_X6_checkFree, kini_X6, List.mem_of_getElem? (i := 729) (by decide +kernel), List.mem_of_getElem? (i := 730) (by decide +kernel), ⟨by decide +kernel, by decide +kernel, by decide +kernel⟩, by decide, rfl⟩
theorem kc_X6_removedByWrite : Cond.code yX6_removedByWrite mX6_removedByWrite.2.1 mX6_removedByWrite.2.2.1 mX6_removedByWrite.2.2.2.1 ∈ lw_tbl := List.mem_of_getElem? (i := 735) (by decide +kernel)
theorem ko_X6_removedByWrite : bs_MV mX6_removedByWrite 6 := ⟨kc_X6_removedByWrite, kini_X6, List.mem_of_getElem? (i := 733) (by decide +kernel), List.mem_of_getElem? (i := 734) (by decide +kernel), ⟨by decide +kernel, by decide +kernel, by decide +kernel⟩, by decide, rfl⟩
theorem kc_X6_isAllocation : Cond.code yX6_isAllocation mX6_isAllocation.2.1 mX6_isAllocation.2.2.1 mX6_isAllocation.2.2.2.1 ∈ lw_tbl := List.mem_of_getElem? (i := 747) (by decide +kernel)
theorem ko_X6_isAllocation : bs_MV mX6_isAllocation 6 := ⟨kc_X6_isAllocation, kini_X6, List.mem_of_getElem? (i := 746) (by decide +kernel), List.mem_of_getElem? (i := 39) (by decide +kernel), ⟨by decide +kernel, by decide +kernel, by decide +kernel⟩, by decide, rfl⟩
theorem kc_X6_isCellOf : Cond.code yX6_isCellOf mX6_isCellOf.2.1 mX6_isCellOf.2.2.1 mX6_isCellOf.2.2.2.1 ∈ lw_tbl := List.mem_of_getElem? (i := 743) (by decide +kernel)
theorem ko_X6_isCellOf : bs_MV mX6_isCellOf 6 := ⟨kc_X6_isCellOf, kini_X6, List.mem_of_getElem? (i := 742) (by decide +kernel), List.mem_of_getElem? (i := 38) (by decide +kernel), ⟨by decide +kernel, by decide +kernel, by decide +kernel⟩, by decide, rfl⟩
theorem kc_X6_placeOf : Cond.code yX6_placeOf mX6_placeOf.2.1 mX6_placeOf.2.2.1 mX6_placeOf.2.2.2.1 ∈ lw_tbl := List.mem_of_getElem? (i := 755) (by decide +kernel)
theorem ko_X6_placeOf : bs_MV mX6_placeOf 6 := ⟨kc_X6_placeOf, kini_X6, List.mem_of_getElem? (i := 754) (by decide +kernel), List.mem_of_getElem? (i := 40) (by decide +kernel), ⟨by decide +kernel, by decide +kernel, by decide +kernel⟩, by decide, rfl⟩
theorem kc_X6_stackSize : Cond.code yX6_stackSize mX6_stackSize.2.1 mX6_stackSize.2.2.1 mX6_stackSize.2.2.2.1 ∈ lw_tbl := List.mem_of_getElem? (i := 739) (by decide +kernel)
theorem ko_X6_stackSize : bs_MV mX6_stackSize 6 := ⟨kc_X6_stackSize, kini_X6, List.mem_of_getElem? (i := 737) (by decide +kernel), List.mem_of_getElem? (i := 738) (by decide +kernel), ⟨by decide +kernel, by decide +kernel, by decide +kernel⟩, by decide, rfl⟩
theorem kc_X6_itemTag : Cond.code yX6_itemTag mX6_itemTag.2.1 mX6_itemTag.2.2.1 mX6_itemTag.2.2.2.1 ∈ lw_tbl := List.mem_of_getElem? (i := 751) (by decide +kernel)
theorem ko_X6_itemTag : bs_MV mX6_itemTag 6 := ⟨kc_X6_itemTag, kini_X6, List.mem_of_getElem? (i := 749) (by decide +kernel), List.mem_of_getElem? (i := 750) (by decide +kernel), ⟨by decide +kernel, by decide +kernel, by decide +kernel⟩, by decide, rfl⟩
theorem kc_X6_itemPermission : Cond.code yX6_itemPermission mX6_itemPermission.2.1 mX6_itemPermission.2.2.1 mX6_itemPermission.2.2.2.1 ∈ lw_tbl := List.mem_of_getElem? (i := 759) (by decide +kernel)
theorem ko_X6_itemPermission : bs_MV mX6_itemPermission 6 := ⟨kc_X6_itemPermission, kini_X6, List.mem_of_getElem? (i := 757) (by decide +kernel), List.mem_of_getElem? (i := 758) (by decide +kernel), ⟨by decide +kernel, by decide +kernel, by decide +kernel⟩, by decide, rfl⟩
theorem kc_X6_itemProtected : Cond.code yX6_itemProtected mX6_itemProtected.2.1 mX6_itemProtected.2.2.1 mX6_itemProtected.2.2.2.1 ∈ lw_tbl := List.mem_of_getElem? (i := 763) (by decide +kernel)
theorem ko_X6_itemProtected : bs_MV mX6_itemProtected 6 := ⟨kc_X6_itemProtected, kini_X6, List.mem_of_getElem? (i := 761) (by decide +kernel), List.mem_of_getElem? (i := 762) (by decide +kernel), ⟨by decide +kernel, by decide +kernel, by decide +kernel⟩, by decide, rfl⟩
theorem kc_X6_allocationOf : Cond.code yX6_allocationOf mX6_allocationOf.2.1 mX6_allocationOf.2.2.1 mX6_allocationOf.2.2.2.1 ∈ lw_tbl := List.mem_of_getElem? (i := 767) (by decide +kernel)
theorem ko_X6_allocationOf : bs_MV mX6_allocationOf 6 := ⟨kc_X6_allocationOf, kini_X6, List.mem_of_getElem? (i := 765) (by decide +kernel), List.mem_of_getElem? (i := 766) (by decide +kernel), ⟨by decide +kernel, by decide +kernel, by decide +kernel⟩, by decide, rfl⟩
theorem kc_X6_parent : Cond.code yX6_parent mX6_parent.2.1 mX6_parent.2.2.1 mX6_parent.2.2.2.1 ∈ lw_tbl := List.mem_of_getElem? (i := 771) (by decide +kernel)
theorem ko_X6_parent : bs_MV mX6_parent 6 := ⟨kc_X6_parent, kini_X6, List.mem_of_getElem? (i := 769) (by decide +kernel), List.mem_of_getElem? (i := 770) (by decide +kernel), ⟨by decide +kernel, by decide +kernel, by decide +kernel⟩, by decide, rfl⟩
theorem kc_X6_liveOf : Cond.code yX6_liveOf mX6_liveOf.2.1 mX6_liveOf.2.2.1 mX6_liveOf.2.2.2.1 ∈ lw_tbl := List.mem_of_getElem? (i := 779) (by decide +kernel)
theorem ko_X6_liveOf : bs_MV mX6_liveOf 6 := ⟨kc_X6_liveOf, kini_X6, List.mem_of_getElem? (i := 778) (by decide +kernel), List.mem_of_getElem? (i := 41) (by decide +kernel), ⟨by decide +kernel, by decide +kernel, by decide +kernel⟩, by decide, rfl⟩
theorem kc_X6_liveCells : Cond.code yX6_liveCells mX6_liveCells.2.1 mX6_liveCells.2.2.1 mX6_liveCells.2.2.2.1 ∈ lw_tbl := List.mem_of_getElem? (i := 775) (by decide +kernel)
theorem ko_X6_liveCells : bs_MV mX6_liveCells 6 := ⟨kc_X6_liveCells, kini_X6, List.mem_of_getElem? (i := 773) (by decide +kernel), List.mem_of_getElem? (i := 774) (by decide +kernel), ⟨by decide +kernel, by decide +kernel, by decide +kernel⟩, by decide, rfl⟩
theorem kc_X6_isFreed : Cond.code yX6_isFreed mX6_isFreed.2.1 mX6_isFreed.2.2.1 mX6_isFreed.2.2.2.1 ∈ lw_tbl := List.mem_of_getElem? (i := 783) (by decide +kernel)
theorem ko_X6_isFreed : bs_MV mX6_isFreed 6 := ⟨kc_X6_isFreed, kini_X6, List.mem_of_getElem? (i := 781) (by decide +kernel), List.mem_of_getElem? (i := 782) (by decide +kernel), ⟨by decide +kernel, by decide +kernel, by decide +kernel⟩, by decide, rfl⟩
theorem kc_X6_pointerCount : Cond.code yX6_pointerCount mX6_pointerCount.2.1 mX6_pointerCount.2.2.1 mX6_pointerCount.2.2.2.1 ∈ lw_tbl := List.mem_of_getElem? (i := 787) (by decide +kernel)
theorem ko_X6_pointerCount : bs_MV mX6_pointerCount 6 := ⟨kc_X6_pointerCount, kini_X6, List.mem_of_getElem? (i := 785) (by decide +kernel), List.mem_of_getElem? (i := 786) (by decide +kernel), ⟨by decide +kernel, by decide +kernel, by decide +kernel⟩, by decide, rfl⟩
theorem kc_X6_callDepth : Cond.code yX6_callDepth mX6_callDepth.2.1 mX6_callDepth.2.2.1 mX6_callDepth.2.2.2.1 ∈ lw_tbl := List.mem_of_getElem? (i := 791) (by decide +kernel)
theorem ko_X6_callDepth : bs_MV mX6_callDepth 6 := ⟨kc_X6_callDepth, kini_X6, List.mem_of_getElem? (i := 789) (by decide +kernel), List.mem_of_getElem? (i := 790) (by decide +kernel), ⟨by decide +kernel, by decide +kernel, by decide +kernel⟩, by decide, rfl⟩
theorem kc_X6_violationCount : Cond.code yX6_violationCount mX6_violationCount.2.1 mX6_violationCount.2.2.1 mX6_violationCount.2.2.2.1 ∈ lw_tbl := List.mem_of_getElem? (i := 795) (by decide +kernel)
theorem ko_X6_violationCount : bs_MV mX6_violationCount 6 := ⟨kc_X6_violationCount, kini_X6, List.mem_of_getElem? (i := 793) (by decide +kernel), List.mem_of_getElem? (i := 794) (by decide +kernel), ⟨by decide +kernel, by decide +kernel, by decide +kernel⟩, by decide, rfl⟩
theorem kc_X6_violationKind : Cond.code yX6_violationKind mX6_violationKind.2.1 mX6_violationKind.2.2.1 mX6_violationKind.2.2.2.1 ∈ lw_tbl := List.mem_of_getElem? (i := 799) (by decide +kernel)
theorem ko_X6_violationKind : bs_MV mX6_violationKind 6 := ⟨kc_X6_violationKind, kini_X6, List.mem_of_getElem? (i := 797) (by decide +kernel), List.mem_of_getElem? (i := 798) (by decide +kernel), ⟨by decide +kernel, by decide +kernel, by decide +kernel⟩, by decide, rfl⟩
theorem kc_X6_violationCell : Cond.code yX6_violationCell mX6_violationCell.2.1 mX6_violationCell.2.2.1 mX6_violationCell.2.2.2.1 ∈ lw_tbl := List.mem_of_getElem? (i := 803) (by decide +kernel)
theorem ko_X6_violationCell : bs_MV mX6_violationCell 6 := ⟨kc_X6_violationCell, kini_X6, List.mem_of_getElem? (i := 801) (by decide +kernel), List.mem_of_getElem? (i := 802) (by decide +kernel), ⟨by decide +kernel, by decide +kernel, by decide +kernel⟩, by decide, rfl⟩
theorem kc_X6_errorCount : Cond.code yX6_errorCount mX6_errorCount.2.1 mX6_errorCount.2.2.1 mX6_errorCount.2.2.2.1 ∈ lw_tbl := List.mem_of_getElem? (i := 807) (by decide +kernel)
theorem ko_X6_errorCount : bs_MV mX6_errorCount 6 := ⟨kc_X6_errorCount, kini_X6, List.mem_of_getElem? (i := 805) (by decide +kernel), List.mem_of_getElem? (i := 806) (by decide +kernel), ⟨by decide +kernel, by decide +kernel, by decide +kernel⟩, by decide, rfl⟩
theorem kc_X6_append : Cond.code yX6_append mX6_append.2.1 mX6_append.2.2.1 mX6_append.2.2.2.1 ∈ lw_tbl := List.mem_of_getElem? (i := 811) (by decide +kernel)
theorem ko_X6_append : bs_MV mX6_append 6 := ⟨kc_X6_append, kini_X6, List.mem_of_getElem? (i := 809) (by decide +kernel), List.mem_of_getElem? (i := 810) (by decide +kernel), ⟨by decide +kernel, by decide +kernel, by decide +kernel⟩, by decide, rfl⟩
theorem kc_X6_clearText : Cond.code yX6_clearText mX6_clearText.2.1 mX6_clearText.2.2.1 mX6_clearText.2.2.2.1 ∈ lw_tbl := List.mem_of_getElem? (i := 815) (by decide +kernel)
theorem ko_X6_clearText : bs_MV mX6_clearText 6 := ⟨kc_X6_clearText, kini_X6, List.mem_of_getElem? (i := 813) (by decide +kernel), List.mem_of_getElem? (i := 814) (by decide +kernel), ⟨by decide +kernel, by decide +kernel, by decide +kernel⟩, by decide, rfl⟩
theorem kc_X6_isAt : Cond.code yX6_isAt mX6_isAt.2.1 mX6_isAt.2.2.1 mX6_isAt.2.2.2.1 ∈ lw_tbl := List.mem_of_getElem? (i := 831) (by decide +kernel)
theorem ko_X6_isAt : bs_MV mX6_isAt 6 := ⟨kc_X6_isAt, kini_X6, List.mem_of_getElem? (i := 830) (by decide +kernel), List.mem_of_getElem? (i := 44) (by decide +kernel), ⟨by decide +kernel, by decide +kernel, by decide +kernel⟩, by decide, rfl⟩
theorem kc_X6_blanks : Cond.code yX6_blanks mX6_blanks.2.1 mX6_blanks.2.2.1 mX6_blanks.2.2.2.1 ∈ lw_tbl := List.mem_of_getElem? (i := 827) (by decide +kernel)
theorem ko_X6_blanks : bs_MV mX6_blanks 6 := ⟨kc_X6_blanks, kini_X6, List.mem_of_getElem? (i := 826) (by decide +kernel), List.mem_of_getElem? (i := 43) (by decide +kernel), ⟨by decide +kernel, by decide +kernel, by decide +kernel⟩, by decide, rfl⟩
theorem kc_X6_manyOf : Cond.code yX6_manyOf mX6_manyOf.2.1 mX6_manyOf.2.2.1 mX6_manyOf.2.2.2.1 ∈ lw_tbl := List.mem_of_getElem? (i := 838) (by decide +kernel)
theorem ko_X6_manyOf : bs_MS mX6_manyOf := ⟨kc_X6_manyOf, kini_X6, List.mem_of_getElem? (i := 837) (by decide +kernel), ⟨by decide +kernel, by decide +kernel, by decide +kernel⟩, by decide⟩
theorem kc_X6_takesNumber : Cond.code yX6_takesNumber mX6_takesNumber.2.1 mX6_takesNumber.2.2.1 mX6_takesNumber.2.2.2.1 ∈ lw_tbl := List.mem_of_getElem? (i := 842) (by decide +kernel)
theorem ko_X6_takesNumber : bs_MV mX6_takesNumber 6 := ⟨kc_X6_takesNumber, kini_X6, List.mem_of_getElem? (i := 841) (by decide +kernel), List.mem_of_getElem? (i := 46) (by decide +kernel), ⟨by decide +kernel, by decide +kernel, by decide +kernel⟩, by decide, rfl⟩
theorem kc_X6_takesCommand : Cond.code yX6_takesCommand mX6_takesCommand.2.1 mX6_takesCommand.2.2.1 mX6_takesCommand.2.2.2.1 ∈ lw_tbl := List.mem_of_getElem? (i := 835) (by decide +kernel)
theorem ko_X6_takesCommand : bs_MV mX6_takesCommand 6 := ⟨kc_X6_takesCommand, kini_X6, List.mem_of_getElem? (i := 834) (by decide +kernel), List.mem_of_getElem? (i := 45) (by decide +kernel), ⟨by decide +kernel, by decide +kernel, by decide +kernel⟩, by decide, rfl⟩
theorem kc_X6_isRead : Cond.code yX6_isRead mX6_isRead.2.1 mX6_isRead.2.2.1 mX6_isRead.2.2.2.1 ∈ lw_tbl := List.mem_of_getElem? (i := 823) (by decide +kernel)
theorem ko_X6_isRead : bs_MV mX6_isRead 6 := ⟨kc_X6_isRead, kini_X6, List.mem_of_getElem? (i := 822) (by decide +kernel), List.mem_of_getElem? (i := 42) (by decide +kernel), ⟨by decide +kernel, by decide +kernel, by decide +kernel⟩, by decide, rfl⟩
theorem kc_X6_execute : Cond.code yX6_execute mX6_execute.2.1 mX6_execute.2.2.1 mX6_execute.2.2.2.1 ∈ lw_tbl := List.mem_of_getElem? (i := 850) (by decide +kernel)
theorem ko_X6_execute : bs_MV mX6_execute 6 := ⟨kc_X6_execute, kini_X6, List.mem_of_getElem? (i := 849) (by decide +kernel), List.mem_of_getElem? (i := 48) (by decide +kernel), ⟨by decide +kernel, by decide +kernel, by decide +kernel⟩, by decide, rfl⟩
theorem kc_X6_executeAll : Cond.code yX6_executeAll mX6_executeAll.2.1 mX6_executeAll.2.2.1 mX6_executeAll.2.2.2.1 ∈ lw_tbl := List.mem_of_getElem? (i := 846) (by decide +kernel)
theorem ko_X6_executeAll : bs_MV mX6_executeAll 6 := ⟨kc_X6_executeAll, kini_X6, List.mem_of_getElem? (i := 845) (by decide +kernel), List.mem_of_getElem? (i := 47) (by decide +kernel), ⟨by decide +kernel, by decide +kernel, by decide +kernel⟩, by decide, rfl⟩
theorem kc_X6_runScript : Cond.code yX6_runScript mX6_runScript.2.1 mX6_runScript.2.2.1 mX6_runScript.2.2.2.1 ∈ lw_tbl := List.mem_of_getElem? (i := 819) (by decide +kernel)
theorem ko_X6_runScript : bs_MV mX6_runScript 6 := ⟨kc_X6_runScript, kini_X6, List.mem_of_getElem? (i := 817) (by decide +kernel), List.mem_of_getElem? (i := 818) (by decide +kernel), ⟨by decide +kernel, by decide +kernel, by decide +kernel⟩, by decide, rfl⟩
theorem kc_X6_mix : Cond.code yX6_mix mX6_mix.2.1 mX6_mix.2.2.1 mX6_mix.2.2.2.1 ∈ lw_tbl := List.mem_of_getElem? (i := 866) (by decide +kernel)
theorem ko_X6_mix : bs_MV mX6_mix 6 := ⟨kc_X6_mix, kini_X6, List.mem_of_getElem? (i := 865) (by decide +kernel), List.mem_of_getElem? (i := 49) (by decide +kernel), ⟨by decide +kernel, by decide +kernel, by decide +kernel⟩, by decide, rfl⟩
theorem kc_X6_mixCell : Cond.code yX6_mixCell mX6_mixCell.2.1 mX6_mixCell.2.2.1 mX6_mixCell.2.2.2.1 ∈ lw_tbl := List.mem_of_getElem? (i := 871) (by decide +kernel)
theorem ko_X6_mixCell : bs_MV mX6_mixCell 6 := ⟨kc_X6_mixCell, kini_X6, List.mem_of_getElem? (i := 870) (by decide +kernel), List.mem_of_getElem? (i := 50) (by decide +kernel), ⟨by decide +kernel, by decide +kernel, by decide +kernel⟩, by decide, rfl⟩
theorem kc_X6_digest : Cond.code yX6_digest mX6_digest.2.1 mX6_digest.2.2.1 mX6_digest.2.2.2.1 ∈ lw_tbl := List.mem_of_getElem? (i := 861) (by decide +kernel)
theorem ko_X6_digest : bs_MV mX6_digest 6 := ⟨kc_X6_digest, kini_X6, List.mem_of_getElem? (i := 859) (by decide +kernel), List.mem_of_getElem? (i := 860) (by decide +kernel), ⟨by decide +kernel, by decide +kernel, by decide +kernel⟩, by decide, rfl⟩
theorem kk_L_7 : Cond.classLink RL 7 RX5 ∈ lw_tbl := List.mem_of_getElem? (i := 59) (by decide +kernel)
theorem kin_5 : Cond.instantiable RX5 10 ∈ lw_tbl := List.mem_of_getElem? (i := 60) (by decide +kernel)
theorem km_L_9 : Cond.methodLink RL 9 yX5_init ∈ lw_tbl := List.mem_of_getElem? (i := 61) (by decide +kernel)
theorem kob_X5 : Cond.methodLink RX5 3 objectInit ∈ lw_tbl := List.mem_of_getElem? (i := 64) (by decide +kernel)
theorem kk_X5_9 : Cond.classLink RX5 9 RX0 ∈ lw_tbl := List.mem_of_getElem? (i := 67) (by decide +kernel)
theorem kao_0 : Cond.arrayOver (.object RX0) ∈ lw_tbl := List.mem_of_getElem? (i := 68) (by decide +kernel)
theorem kk_X5_15 : Cond.classLink RX5 15 RX3 ∈ lw_tbl := List.mem_of_getElem? (i := 69) (by decide +kernel)
theorem kao_3 : Cond.arrayOver (.object RX3) ∈ lw_tbl := List.mem_of_getElem? (i := 70) (by decide +kernel)
theorem kk_X5_21 : Cond.classLink RX5 21 RX1 ∈ lw_tbl := List.mem_of_getElem? (i := 71) (by decide +kernel)
theorem kin_1 : Cond.instantiable RX1 3 ∈ lw_tbl := List.mem_of_getElem? (i := 72) (by decide +kernel)
theorem km_X5_23 : Cond.methodLink RX5 23 yX1_init ∈ lw_tbl := List.mem_of_getElem? (i := 73) (by decide +kernel)
theorem kob_X1 : Cond.methodLink RX1 3 objectInit ∈ lw_tbl := List.mem_of_getElem? (i := 76) (by decide +kernel)
theorem kf_X1_9 : bs_FL RX1 9 1 0 (.array .int) true := bs_fl cl_1 (by decide) rfl rfl rfl (Or.inl (List.mem_of_getElem? (i := 77) (by decide +kernel)))
theorem kF_X1_9 : bs_FF RX1 9 1 0 (.array .int) := bs_ff cl_1 (by decide) rfl rfl rfl (List.mem_of_getElem? (i := 77) (by decide +kernel))
theorem kf_X1_19 : bs_FL RX1 19 1 1 .int false := bs_fl cl_1 (by decide) rfl rfl rfl (Or.inl (List.mem_of_getElem? (i := 78) (by decide +kernel)))
theorem kf_X5_156 : bs_FL RX5 156 1 1 .int false := bs_fl cl_1 (by decide) rfl rfl rfl (Or.inr ⟨"BorrowStacks", List.mem_of_getElem? (i := 79) (by decide +kernel)⟩)
theorem kf_X1_15 : bs_FL RX1 15 1 2 .int false := bs_fl cl_1 (by decide) rfl rfl rfl (Or.inl (List.mem_of_getElem? (i := 80) (by decide +kernel)))
theorem kar_I : Cond.arrayClass .int ∈ lw_tbl := List.mem_of_getElem? (i := 88) (by decide +kernel)
theorem kk_X5_28 : Cond.classLink RX5 28 RX4 ∈ lw_tbl := List.mem_of_getElem? (i := 89) (by decide +kernel)
theorem kin_4 : Cond.instantiable RX4 6 ∈ lw_tbl := List.mem_of_getElem? (i := 90) (by decide +kernel)
theorem km_X5_30 : Cond.methodLink RX5 30 yX4_init ∈ lw_tbl := List.mem_of_getElem? (i := 91) (by decide +kernel)
theorem kob_X4 : Cond.methodLink RX4 3 objectInit ∈ lw_tbl := List.mem_of_getElem? (i := 94) (by decide +kernel)
theorem kf_X4_9 : bs_FL RX4 9 4 0 (.array .int) true := bs_fl cl_4 (by decide) rfl rfl rfl (Or.inl (List.mem_of_getElem? (i := 95) (by decide +kernel)))
theorem kF_X4_9 : bs_FF RX4 9 4 0 (.array .int) := bs_ff cl_4 (by decide) rfl rfl rfl (List.mem_of_getElem? (i := 95) (by decide +kernel))
theorem kf_X4_21 : bs_FL RX4 21 4 1 .int false := bs_fl cl_4 (by decide) rfl rfl rfl (Or.inl (List.mem_of_getElem? (i := 96) (by decide +kernel)))
theorem kf_X5_165 : bs_FL RX5 165 4 1 .int false := bs_fl cl_4 (by decide) rfl rfl rfl (Or.inr ⟨"BorrowStacks", List.mem_of_getElem? (i := 97) (by decide +kernel)⟩)
theorem kf_X4_15 : bs_FL RX4 15 4 2 (.array .int) true := bs_fl cl_4 (by decide) rfl rfl rfl (Or.inl (List.mem_of_getElem? (i := 98) (by decide +kernel)))
theorem kF_X4_15 : bs_FF RX4 15 4 2 (.array .int) := bs_ff cl_4 (by decide) rfl rfl rfl (List.mem_of_getElem? (i := 98) (by decide +kernel))
theorem kf_X5_241 : bs_FL RX5 241 4 2 (.array .int) true := bs_fl cl_4 (by decide) rfl rfl rfl (Or.inr ⟨"BorrowStacks", List.mem_of_getElem? (i := 99) (by decide +kernel)⟩)
theorem kf_X4_18 : bs_FL RX4 18 4 3 (.array .int) true := bs_fl cl_4 (by decide) rfl rfl rfl (Or.inl (List.mem_of_getElem? (i := 100) (by decide +kernel)))
theorem kF_X4_18 : bs_FF RX4 18 4 3 (.array .int) := bs_ff cl_4 (by decide) rfl rfl rfl (List.mem_of_getElem? (i := 100) (by decide +kernel))
theorem kf_X4_25 : bs_FL RX4 25 4 4 .int false := bs_fl cl_4 (by decide) rfl rfl rfl (Or.inl (List.mem_of_getElem? (i := 101) (by decide +kernel)))
theorem kf_X5_171 : bs_FL RX5 171 4 4 .int false := bs_fl cl_4 (by decide) rfl rfl rfl (Or.inr ⟨"BorrowStacks", List.mem_of_getElem? (i := 102) (by decide +kernel)⟩)
theorem kf_X4_28 : bs_FL RX4 28 4 5 .int false := bs_fl cl_4 (by decide) rfl rfl rfl (Or.inl (List.mem_of_getElem? (i := 103) (by decide +kernel)))
theorem kf_X5_11 : bs_FL RX5 11 5 0 (.array (.object "BorrowStacks$Allocation")) true := bs_fl cl_5 (by decide) rfl rfl rfl (Or.inl (List.mem_of_getElem? (i := 117) (by decide +kernel)))
theorem kF_X5_11 : bs_FF RX5 11 5 0 (.array (.object "BorrowStacks$Allocation")) := bs_ff cl_5 (by decide) rfl rfl rfl (List.mem_of_getElem? (i := 117) (by decide +kernel))
theorem kf_X5_186 : bs_FL RX5 186 5 1 .int false := bs_fl cl_5 (by decide) rfl rfl rfl (Or.inl (List.mem_of_getElem? (i := 118) (by decide +kernel)))
theorem kf_X5_17 : bs_FL RX5 17 5 2 (.array (.object "BorrowStacks$Pointer")) true := bs_fl cl_5 (by decide) rfl rfl rfl (Or.inl (List.mem_of_getElem? (i := 119) (by decide +kernel)))
theorem kF_X5_17 : bs_FF RX5 17 5 2 (.array (.object "BorrowStacks$Pointer")) := bs_ff cl_5 (by decide) rfl rfl rfl (List.mem_of_getElem? (i := 119) (by decide +kernel))
theorem kf_X5_153 : bs_FL RX5 153 5 3 .int false := bs_fl cl_5 (by decide) rfl rfl rfl (Or.inl (List.mem_of_getElem? (i := 120) (by decide +kernel)))
theorem kf_X5_24 : bs_FL RX5 24 5 4 (.object "BorrowStacks$Calls") true := bs_fl cl_5 (by decide) rfl rfl rfl (Or.inl (List.mem_of_getElem? (i := 121) (by decide +kernel)))
theorem kF_X5_24 : bs_FF RX5 24 5 4 (.object "BorrowStacks$Calls") := bs_ff cl_5 (by decide) rfl rfl rfl (List.mem_of_getElem? (i := 121) (by decide +kernel))
theorem kf_X5_31 : bs_FL RX5 31 5 5 (.object "BorrowStacks$Script") true := bs_fl cl_5 (by decide) rfl rfl rfl (Or.inl (List.mem_of_getElem? (i := 122) (by decide +kernel)))
theorem kF_X5_31 : bs_FF RX5 31 5 5 (.object "BorrowStacks$Script") := bs_ff cl_5 (by decide) rfl rfl rfl (List.mem_of_getElem? (i := 122) (by decide +kernel))
theorem kf_X5_35 : bs_FL RX5 35 5 6 (.array .int) true := bs_fl cl_5 (by decide) rfl rfl rfl (Or.inl (List.mem_of_getElem? (i := 123) (by decide +kernel)))
theorem kF_X5_35 : bs_FF RX5 35 5 6 (.array .int) := bs_ff cl_5 (by decide) rfl rfl rfl (List.mem_of_getElem? (i := 123) (by decide +kernel))
theorem kf_X5_159 : bs_FL RX5 159 5 7 .int false := bs_fl cl_5 (by decide) rfl rfl rfl (Or.inl (List.mem_of_getElem? (i := 124) (by decide +kernel)))
theorem kf_X5_39 : bs_FL RX5 39 5 8 .int false := bs_fl cl_5 (by decide) rfl rfl rfl (Or.inl (List.mem_of_getElem? (i := 125) (by decide +kernel)))
theorem kf_X5_43 : bs_FL RX5 43 5 9 .int false := bs_fl cl_5 (by decide) rfl rfl rfl (Or.inl (List.mem_of_getElem? (i := 126) (by decide +kernel)))
theorem km_L_13 : bs_ML RL 13 yX5_allocate := Or.inl (List.mem_of_getElem? (i := 148) (by decide +kernel))
theorem km_X5_46 : bs_ML RX5 46 yX5_performAllocate := Or.inl (List.mem_of_getElem? (i := 152) (by decide +kernel))
theorem kin_0 : Cond.instantiable RX0 3 ∈ lw_tbl := List.mem_of_getElem? (i := 156) (by decide +kernel)
theorem km_X5_193 : Cond.methodLink RX5 193 yX0_init ∈ lw_tbl := List.mem_of_getElem? (i := 157) (by decide +kernel)
theorem kob_X0 : Cond.methodLink RX0 3 objectInit ∈ lw_tbl := List.mem_of_getElem? (i := 160) (by decide +kernel)
theorem kk_X0_15 : Cond.classLink RX0 15 RX2 ∈ lw_tbl := List.mem_of_getElem? (i := 161) (by decide +kernel)
theorem kao_2 : Cond.arrayOver (.object RX2) ∈ lw_tbl := List.mem_of_getElem? (i := 162) (by decide +kernel)
theorem kin_2 : Cond.instantiable RX2 5 ∈ lw_tbl := List.mem_of_getElem? (i := 163) (by decide +kernel)
theorem km_X0_21 : Cond.methodLink RX0 21 yX2_init ∈ lw_tbl := List.mem_of_getElem? (i := 164) (by decide +kernel)
theorem kob_X2 : Cond.methodLink RX2 3 objectInit ∈ lw_tbl := List.mem_of_getElem? (i := 167) (by decide +kernel)
theorem kf_X2_9 : bs_FL RX2 9 2 0 (.array .int) true := bs_fl cl_2 (by decide) rfl rfl rfl (Or.inl (List.mem_of_getElem? (i := 168) (by decide +kernel)))
theorem kF_X2_9 : bs_FF RX2 9 2 0 (.array .int) := bs_ff cl_2 (by decide) rfl rfl rfl (List.mem_of_getElem? (i := 168) (by decide +kernel))
theorem kf_X5_124 : bs_FL RX5 124 2 0 (.array .int) true := bs_fl cl_2 (by decide) rfl rfl rfl (Or.inr ⟨"BorrowStacks", List.mem_of_getElem? (i := 169) (by decide +kernel)⟩)
theorem kf_X2_15 : bs_FL RX2 15 2 1 (.array .int) true := bs_fl cl_2 (by decide) rfl rfl rfl (Or.inl (List.mem_of_getElem? (i := 170) (by decide +kernel)))
theorem kF_X2_15 : bs_FF RX2 15 2 1 (.array .int) := bs_ff cl_2 (by decide) rfl rfl rfl (List.mem_of_getElem? (i := 170) (by decide +kernel))
theorem kf_X5_127 : bs_FL RX5 127 2 1 (.array .int) true := bs_fl cl_2 (by decide) rfl rfl rfl (Or.inr ⟨"BorrowStacks", List.mem_of_getElem? (i := 171) (by decide +kernel)⟩)
theorem kf_X2_18 : bs_FL RX2 18 2 2 (.array .int) true := bs_fl cl_2 (by decide) rfl rfl rfl (Or.inl (List.mem_of_getElem? (i := 172) (by decide +kernel)))
theorem kF_X2_18 : bs_FF RX2 18 2 2 (.array .int) := bs_ff cl_2 (by decide) rfl rfl rfl (List.mem_of_getElem? (i := 172) (by decide +kernel))
theorem kf_X5_130 : bs_FL RX5 130 2 2 (.array .int) true := bs_fl cl_2 (by decide) rfl rfl rfl (Or.inr ⟨"BorrowStacks", List.mem_of_getElem? (i := 173) (by decide +kernel)⟩)
theorem kf_X2_21 : bs_FL RX2 21 2 3 .int false := bs_fl cl_2 (by decide) rfl rfl rfl (Or.inl (List.mem_of_getElem? (i := 174) (by decide +kernel)))
theorem kf_X5_110 : bs_FL RX5 110 2 3 .int false := bs_fl cl_2 (by decide) rfl rfl rfl (Or.inr ⟨"BorrowStacks", List.mem_of_getElem? (i := 175) (by decide +kernel)⟩)
theorem kf_X2_63 : bs_FL RX2 63 2 4 .int false := bs_fl cl_2 (by decide) rfl rfl rfl (Or.inl (List.mem_of_getElem? (i := 176) (by decide +kernel)))
theorem kf_X5_207 : bs_FL RX5 207 2 4 .int false := bs_fl cl_2 (by decide) rfl rfl rfl (Or.inr ⟨"BorrowStacks", List.mem_of_getElem? (i := 177) (by decide +kernel)⟩)
theorem kf_X0_9 : bs_FL RX0 9 0 0 .int true := bs_fl cl_0 (by decide) rfl rfl rfl (Or.inl (List.mem_of_getElem? (i := 189) (by decide +kernel)))
theorem kF_X0_9 : bs_FF RX0 9 0 0 .int := bs_ff cl_0 (by decide) rfl rfl rfl (List.mem_of_getElem? (i := 189) (by decide +kernel))
theorem kf_X5_140 : bs_FL RX5 140 0 0 .int true := bs_fl cl_0 (by decide) rfl rfl rfl (Or.inr ⟨"BorrowStacks", List.mem_of_getElem? (i := 190) (by decide +kernel)⟩)
theorem kf_X0_17 : bs_FL RX0 17 0 1 (.array (.object "BorrowStacks$Cell")) true := bs_fl cl_0 (by decide) rfl rfl rfl (Or.inl (List.mem_of_getElem? (i := 191) (by decide +kernel)))
theorem kF_X0_17 : bs_FF RX0 17 0 1 (.array (.object "BorrowStacks$Cell")) := bs_ff cl_0 (by decide) rfl rfl rfl (List.mem_of_getElem? (i := 191) (by decide +kernel))
theorem kf_X5_103 : bs_FL RX5 103 0 1 (.array (.object "BorrowStacks$Cell")) true := bs_fl cl_0 (by decide) rfl rfl rfl (Or.inr ⟨"BorrowStacks", List.mem_of_getElem? (i := 192) (by decide +kernel)⟩)
theorem kf_X0_28 : bs_FL RX0 28 0 2 .boolean false := bs_fl cl_0 (by decide) rfl rfl rfl (Or.inl (List.mem_of_getElem? (i := 193) (by decide +kernel)))
theorem kf_X5_87 : bs_FL RX5 87 0 2 .boolean false := bs_fl cl_0 (by decide) rfl rfl rfl (Or.inr ⟨"BorrowStacks", List.mem_of_getElem? (i := 194) (by decide +kernel)⟩)
theorem km_X5_196 : bs_ML RX5 196 yX5_addPointer := Or.inl (List.mem_of_getElem? (i := 202) (by decide +kernel))
theorem kin_3 : Cond.instantiable RX3 2 ∈ lw_tbl := List.mem_of_getElem? (i := 206) (by decide +kernel)
theorem km_X5_244 : Cond.methodLink RX5 244 yX3_init ∈ lw_tbl := List.mem_of_getElem? (i := 207) (by decide +kernel)
theorem kob_X3 : Cond.methodLink RX3 1 objectInit ∈ lw_tbl := List.mem_of_getElem? (i := 210) (by decide +kernel)
theorem kf_X3_7 : bs_FL RX3 7 3 0 (.object "BorrowStacks$Allocation") true := bs_fl cl_3 (by decide) rfl rfl rfl (Or.inl (List.mem_of_getElem? (i := 211) (by decide +kernel)))
theorem kF_X3_7 : bs_FF RX3 7 3 0 (.object "BorrowStacks$Allocation") := bs_ff cl_3 (by decide) rfl rfl rfl (List.mem_of_getElem? (i := 211) (by decide +kernel))
theorem kf_X5_83 : bs_FL RX5 83 3 0 (.object "BorrowStacks$Allocation") true := bs_fl cl_3 (by decide) rfl rfl rfl (Or.inr ⟨"BorrowStacks", List.mem_of_getElem? (i := 212) (by decide +kernel)⟩)
theorem kf_X3_13 : bs_FL RX3 13 3 1 .int true := bs_fl cl_3 (by decide) rfl rfl rfl (Or.inl (List.mem_of_getElem? (i := 213) (by decide +kernel)))
theorem kF_X3_13 : bs_FF RX3 13 3 1 .int := bs_ff cl_3 (by decide) rfl rfl rfl (List.mem_of_getElem? (i := 213) (by decide +kernel))
theorem kf_X5_143 : bs_FL RX5 143 3 1 .int true := bs_fl cl_3 (by decide) rfl rfl rfl (Or.inr ⟨"BorrowStacks", List.mem_of_getElem? (i := 214) (by decide +kernel)⟩)
theorem km_X5_50 : bs_ML RX5 50 yX5_counted := Or.inl (List.mem_of_getElem? (i := 220) (by decide +kernel))
theorem km_L_18 : bs_ML RL 18 yX5_read := Or.inl (List.mem_of_getElem? (i := 224) (by decide +kernel))
theorem km_X5_53 : bs_ML RX5 53 yX5_performRead := Or.inl (List.mem_of_getElem? (i := 228) (by decide +kernel))
theorem km_X5_75 : bs_ML RX5 75 yX5_pointerAt := Or.inl (List.mem_of_getElem? (i := 232) (by decide +kernel))
theorem km_X5_79 : bs_ML RX5 79 yX5_cellThrough := Or.inl (List.mem_of_getElem? (i := 236) (by decide +kernel))
theorem km_X5_213 : bs_ML RX5 213 yX0_hasRange := Or.inl (List.mem_of_getElem? (i := 239) (by decide +kernel))
theorem km_X5_200 : bs_ML RX5 200 yX5_violated := Or.inl (List.mem_of_getElem? (i := 243) (by decide +kernel))
theorem km_X5_91 : bs_ML RX5 91 yX2_readViolation := Or.inl (List.mem_of_getElem? (i := 247) (by decide +kernel))
theorem km_X2_29 : bs_ML RX2 29 yX2_grantOfRead := Or.inl (List.mem_of_getElem? (i := 251) (by decide +kernel))
theorem km_X2_32 : bs_ML RX2 32 yX1_isActive := Or.inl (List.mem_of_getElem? (i := 255) (by decide +kernel))
theorem km_X5_203 : bs_ML RX5 203 yX2_applyRead := Or.inl (List.mem_of_getElem? (i := 259) (by decide +kernel))
theorem km_L_23 : bs_ML RL 23 yX5_write := Or.inl (List.mem_of_getElem? (i := 263) (by decide +kernel))
theorem km_X5_57 : bs_ML RX5 57 yX5_performWrite := Or.inl (List.mem_of_getElem? (i := 267) (by decide +kernel))
theorem km_X5_97 : bs_ML RX5 97 yX2_writeViolation := Or.inl (List.mem_of_getElem? (i := 271) (by decide +kernel))
theorem km_X2_25 : bs_ML RX2 25 yX2_grantOfWrite := Or.inl (List.mem_of_getElem? (i := 275) (by decide +kernel))
theorem km_X2_38 : bs_ML RX2 38 yX2_keptByWrite := Or.inl (List.mem_of_getElem? (i := 279) (by decide +kernel))
theorem km_X2_41 : bs_ML RX2 41 yX2_hasProtectedFrom := Or.inl (List.mem_of_getElem? (i := 283) (by decide +kernel))
theorem km_X5_210 : bs_ML RX5 210 yX2_applyWrite := Or.inl (List.mem_of_getElem? (i := 287) (by decide +kernel))
theorem km_L_28 : bs_ML RL 28 yX5_reborrow := Or.inl (List.mem_of_getElem? (i := 291) (by decide +kernel))
theorem km_X5_61 : bs_ML RX5 61 yX5_performReborrow := Or.inl (List.mem_of_getElem? (i := 295) (by decide +kernel))
theorem km_X5_217 : bs_ML RX5 217 yX2_reborrowViolation := Or.inl (List.mem_of_getElem? (i := 299) (by decide +kernel))
theorem km_X2_45 : bs_ML RX2 45 yX2_writeViolation := Or.inl (List.mem_of_getElem? (i := 303) (by decide +kernel))
theorem km_X2_49 : bs_ML RX2 49 yX2_readViolation := Or.inl (List.mem_of_getElem? (i := 304) (by decide +kernel))
theorem km_X5_221 : bs_ML RX5 221 yX2_hasRoomToReborrow := Or.inl (List.mem_of_getElem? (i := 305) (by decide +kernel))
theorem km_X5_224 : bs_ML RX5 224 yX1_innermost := Or.inl (List.mem_of_getElem? (i := 309) (by decide +kernel))
theorem km_X5_227 : bs_ML RX5 227 yX2_applyReborrow := Or.inl (List.mem_of_getElem? (i := 313) (by decide +kernel))
theorem km_X2_52 : bs_ML RX2 52 yX2_applyWrite := Or.inl (List.mem_of_getElem? (i := 317) (by decide +kernel))
theorem km_X2_56 : bs_ML RX2 56 yX2_insertItem := Or.inl (List.mem_of_getElem? (i := 318) (by decide +kernel))
theorem km_X2_60 : bs_ML RX2 60 yX2_applyRead := Or.inl (List.mem_of_getElem? (i := 322) (by decide +kernel))
theorem km_L_33 : bs_ML RL 33 yX5_free := Or.inl (List.mem_of_getElem? (i := 323) (by decide +kernel))
theorem km_X5_65 : bs_ML RX5 65 yX5_performFree := Or.inl (List.mem_of_getElem? (i := 327) (by decide +kernel))
theorem km_X5_100 : bs_ML RX5 100 yX0_firstCellAgainstFree := Or.inl (List.mem_of_getElem? (i := 331) (by decide +kernel))
theorem km_X0_24 : bs_ML RX0 24 yX2_freeViolation := Or.inl (List.mem_of_getElem? (i := 335) (by decide +kernel))
theorem km_X5_107 : bs_ML RX5 107 yX2_freeViolation := Or.inl (List.mem_of_getElem? (i := 339) (by decide +kernel))
theorem km_L_37 : bs_ML RL 37 yX5_enterCall := Or.inl (List.mem_of_getElem? (i := 340) (by decide +kernel))
theorem km_X5_68 : bs_ML RX5 68 yX5_performEnter := Or.inl (List.mem_of_getElem? (i := 344) (by decide +kernel))
theorem km_X5_231 : bs_ML RX5 231 yX1_enter := Or.inl (List.mem_of_getElem? (i := 348) (by decide +kernel))
theorem km_L_42 : bs_ML RL 42 yX5_leaveCall := Or.inl (List.mem_of_getElem? (i := 352) (by decide +kernel))
theorem km_X5_72 : bs_ML RX5 72 yX5_performLeave := Or.inl (List.mem_of_getElem? (i := 356) (by decide +kernel))
theorem km_X5_235 : bs_ML RX5 235 yX1_leave := Or.inl (List.mem_of_getElem? (i := 360) (by decide +kernel))
theorem km_L_46 : bs_ML RL 46 yX5_checkRead := Or.inl (List.mem_of_getElem? (i := 364) (by decide +kernel))
theorem km_L_50 : bs_ML RL 50 yX5_checkWrite := Or.inl (List.mem_of_getElem? (i := 368) (by decide +kernel))
theorem km_L_54 : bs_ML RL 54 yX5_checkFree := Or.inl (List.mem_of_getElem? (i := 372) (by decide +kernel))
theorem km_L_58 : bs_ML RL 58 yX5_removedByWrite := Or.inl (List.mem_of_getElem? (i := 376) (by decide +kernel))
theorem km_X5_113 : bs_ML RX5 113 yX2_keptByWrite := Or.inl (List.mem_of_getElem? (i := 380) (by decide +kernel))
theorem km_L_62 : bs_ML RL 62 yX5_stackSize := Or.inl (List.mem_of_getElem? (i := 381) (by decide +kernel))
theorem km_X5_116 : bs_ML RX5 116 yX5_cellAt := Or.inl (List.mem_of_getElem? (i := 385) (by decide +kernel))
theorem km_X5_149 : bs_ML RX5 149 yX5_allocationAt := Or.inl (List.mem_of_getElem? (i := 389) (by decide +kernel))
theorem km_L_66 : bs_ML RL 66 yX5_itemTag := Or.inl (List.mem_of_getElem? (i := 393) (by decide +kernel))
theorem km_X5_120 : bs_ML RX5 120 yX2_hasItem := Or.inl (List.mem_of_getElem? (i := 397) (by decide +kernel))
theorem km_L_70 : bs_ML RL 70 yX5_itemPermission := Or.inl (List.mem_of_getElem? (i := 401) (by decide +kernel))
theorem km_L_74 : bs_ML RL 74 yX5_itemProtected := Or.inl (List.mem_of_getElem? (i := 405) (by decide +kernel))
theorem km_X5_133 : bs_ML RX5 133 yX1_isActive := Or.inl (List.mem_of_getElem? (i := 409) (by decide +kernel))
theorem km_X5_136 : bs_ML RX5 136 yX5_asNumber := Or.inl (List.mem_of_getElem? (i := 410) (by decide +kernel))
theorem km_L_78 : bs_ML RL 78 yX5_allocationOf := Or.inl (List.mem_of_getElem? (i := 413) (by decide +kernel))
theorem km_L_82 : bs_ML RL 82 yX5_parent := Or.inl (List.mem_of_getElem? (i := 417) (by decide +kernel))
theorem km_L_86 : bs_ML RL 86 yX5_liveCells := Or.inl (List.mem_of_getElem? (i := 421) (by decide +kernel))
theorem km_X5_146 : bs_ML RX5 146 yX0_cellsAliveFor := Or.inl (List.mem_of_getElem? (i := 425) (by decide +kernel))
theorem km_X0_32 : bs_ML RX0 32 yX2_grantOfRead := Or.inl (List.mem_of_getElem? (i := 429) (by decide +kernel))
theorem km_L_90 : bs_ML RL 90 yX5_isFreed := Or.inl (List.mem_of_getElem? (i := 430) (by decide +kernel))
theorem km_L_94 : bs_ML RL 94 yX5_pointerCount := Or.inl (List.mem_of_getElem? (i := 434) (by decide +kernel))
theorem km_L_98 : bs_ML RL 98 yX5_callDepth := Or.inl (List.mem_of_getElem? (i := 438) (by decide +kernel))
theorem km_L_102 : bs_ML RL 102 yX5_violationCount := Or.inl (List.mem_of_getElem? (i := 442) (by decide +kernel))
theorem km_L_106 : bs_ML RL 106 yX5_violationKind := Or.inl (List.mem_of_getElem? (i := 446) (by decide +kernel))
theorem km_L_110 : bs_ML RL 110 yX5_violationCell := Or.inl (List.mem_of_getElem? (i := 450) (by decide +kernel))
theorem km_L_114 : bs_ML RL 114 yX5_errorCount := Or.inl (List.mem_of_getElem? (i := 454) (by decide +kernel))
theorem km_L_118 : bs_ML RL 118 yX5_append := Or.inl (List.mem_of_getElem? (i := 458) (by decide +kernel))
theorem km_X5_162 : bs_ML RX5 162 yX4_addByte := Or.inl (List.mem_of_getElem? (i := 462) (by decide +kernel))
theorem km_L_122 : bs_ML RL 122 yX5_clearText := Or.inl (List.mem_of_getElem? (i := 466) (by decide +kernel))
theorem km_L_126 : bs_ML RL 126 yX5_runScript := Or.inl (List.mem_of_getElem? (i := 470) (by decide +kernel))
theorem km_X5_168 : bs_ML RX5 168 yX4_parse := Or.inl (List.mem_of_getElem? (i := 474) (by decide +kernel))
theorem km_X4_31 : bs_ML RX4 31 yX4_skipSpaces := Or.inl (List.mem_of_getElem? (i := 478) (by decide +kernel))
theorem km_X4_34 : bs_ML RX4 34 yX4_parseCommand := Or.inl (List.mem_of_getElem? (i := 482) (by decide +kernel))
theorem km_X4_38 : bs_ML RX4 38 yX4_byteHere := Or.inl (List.mem_of_getElem? (i := 486) (by decide +kernel))
theorem km_X4_42 : bs_ML RX4 42 yX4_argumentsOf := Or.inl (List.mem_of_getElem? (i := 490) (by decide +kernel))
theorem km_X4_46 : bs_ML RX4 46 yX4_parseArgument := Or.inl (List.mem_of_getElem? (i := 493) (by decide +kernel))
theorem km_X4_50 : bs_ML RX4 50 yX4_isDigitHere := Or.inl (List.mem_of_getElem? (i := 497) (by decide +kernel))
theorem km_X5_174 : bs_ML RX5 174 yX5_performCommand := Or.inl (List.mem_of_getElem? (i := 501) (by decide +kernel))
theorem km_X5_238 : bs_ML RX5 238 yX4_argument := Or.inl (List.mem_of_getElem? (i := 505) (by decide +kernel))
theorem km_X5_177 : bs_ML RX5 177 yX5_isFailure := Or.inl (List.mem_of_getElem? (i := 509) (by decide +kernel))
theorem km_L_130 : bs_ML RL 130 yX5_digest := Or.inl (List.mem_of_getElem? (i := 512) (by decide +kernel))
theorem kj_X5_180 : Cond.constantLong RX5 180 (12011) ∈ lw_tbl := List.mem_of_getElem? (i := 516) (by decide +kernel)
theorem km_X5_182 : bs_ML RX5 182 yX5_mixed := Or.inl (List.mem_of_getElem? (i := 517) (by decide +kernel))
theorem kj_X5_247 : Cond.constantLong RX5 247 (31) ∈ lw_tbl := List.mem_of_getElem? (i := 520) (by decide +kernel)
theorem km_X5_189 : bs_ML RX5 189 yX0_mixedInto := Or.inl (List.mem_of_getElem? (i := 521) (by decide +kernel))
theorem km_X0_36 : bs_ML RX0 36 yX5_mixed := Or.inr ⟨"BorrowStacks", List.mem_of_getElem? (i := 525) (by decide +kernel)⟩
theorem km_X0_40 : bs_ML RX0 40 yX5_asNumber := Or.inr ⟨"BorrowStacks", List.mem_of_getElem? (i := 526) (by decide +kernel)⟩
theorem km_X0_44 : bs_ML RX0 44 yX2_mixedInto := Or.inl (List.mem_of_getElem? (i := 527) (by decide +kernel))
theorem km_X2_66 : bs_ML RX2 66 yX5_mixed := Or.inr ⟨"BorrowStacks", List.mem_of_getElem? (i := 531) (by decide +kernel)⟩
theorem km_X2_70 : bs_ML RX2 70 yX5_asNumber := Or.inr ⟨"BorrowStacks", List.mem_of_getElem? (i := 532) (by decide +kernel)⟩
theorem kk_L_10 : Cond.classLink RL 10 RX6 ∈ lw_tbl := List.mem_of_getElem? (i := 533) (by decide +kernel)
theorem kin_6 : Cond.instantiable RX6 24 ∈ lw_tbl := List.mem_of_getElem? (i := 534) (by decide +kernel)
theorem km_L_12 : Cond.methodLink RL 12 yX6_init ∈ lw_tbl := List.mem_of_getElem? (i := 535) (by decide +kernel)
theorem kob_X6 : Cond.methodLink RX6 1 objectInit ∈ lw_tbl := List.mem_of_getElem? (i := 538) (by decide +kernel)
theorem kf_X6_97 : bs_FL RX6 97 6 0 .int false := bs_fl cl_6 (by decide) rfl rfl rfl (Or.inl (List.mem_of_getElem? (i := 539) (by decide +kernel)))
theorem kf_X6_7 : bs_FL RX6 7 6 1 (.array .int) true := bs_fl cl_6 (by decide) rfl rfl rfl (Or.inl (List.mem_of_getElem? (i := 540) (by decide +kernel)))
theorem kF_X6_7 : bs_FF RX6 7 6 1 (.array .int) := bs_ff cl_6 (by decide) rfl rfl rfl (List.mem_of_getElem? (i := 540) (by decide +kernel))
theorem kf_X6_13 : bs_FL RX6 13 6 2 (.array .boolean) true := bs_fl cl_6 (by decide) rfl rfl rfl (Or.inl (List.mem_of_getElem? (i := 541) (by decide +kernel)))
theorem kF_X6_13 : bs_FF RX6 13 6 2 (.array .boolean) := bs_ff cl_6 (by decide) rfl rfl rfl (List.mem_of_getElem? (i := 541) (by decide +kernel))
theorem kf_X6_17 : bs_FL RX6 17 6 3 (.array .int) true := bs_fl cl_6 (by decide) rfl rfl rfl (Or.inl (List.mem_of_getElem? (i := 542) (by decide +kernel)))
theorem kF_X6_17 : bs_FF RX6 17 6 3 (.array .int) := bs_ff cl_6 (by decide) rfl rfl rfl (List.mem_of_getElem? (i := 542) (by decide +kernel))
theorem kf_X6_20 : bs_FL RX6 20 6 4 (.array .int) true := bs_fl cl_6 (by decide) rfl rfl rfl (Or.inl (List.mem_of_getElem? (i := 543) (by decide +kernel)))
theorem kF_X6_20 : bs_FF RX6 20 6 4 (.array .int) := bs_ff cl_6 (by decide) rfl rfl rfl (List.mem_of_getElem? (i := 543) (by decide +kernel))
theorem kf_X6_23 : bs_FL RX6 23 6 5 (.array .int) true := bs_fl cl_6 (by decide) rfl rfl rfl (Or.inl (List.mem_of_getElem? (i := 544) (by decide +kernel)))
theorem kF_X6_23 : bs_FF RX6 23 6 5 (.array .int) := bs_ff cl_6 (by decide) rfl rfl rfl (List.mem_of_getElem? (i := 544) (by decide +kernel))
theorem kf_X6_26 : bs_FL RX6 26 6 6 (.array .int) true := bs_fl cl_6 (by decide) rfl rfl rfl (Or.inl (List.mem_of_getElem? (i := 545) (by decide +kernel)))
theorem kF_X6_26 : bs_FF RX6 26 6 6 (.array .int) := bs_ff cl_6 (by decide) rfl rfl rfl (List.mem_of_getElem? (i := 545) (by decide +kernel))
theorem kf_X6_29 : bs_FL RX6 29 6 7 (.array .int) true := bs_fl cl_6 (by decide) rfl rfl rfl (Or.inl (List.mem_of_getElem? (i := 546) (by decide +kernel)))
theorem kF_X6_29 : bs_FF RX6 29 6 7 (.array .int) := bs_ff cl_6 (by decide) rfl rfl rfl (List.mem_of_getElem? (i := 546) (by decide +kernel))
theorem kf_X6_64 : bs_FL RX6 64 6 8 .int false := bs_fl cl_6 (by decide) rfl rfl rfl (Or.inl (List.mem_of_getElem? (i := 547) (by decide +kernel)))
theorem kf_X6_32 : bs_FL RX6 32 6 9 (.array .int) true := bs_fl cl_6 (by decide) rfl rfl rfl (Or.inl (List.mem_of_getElem? (i := 548) (by decide +kernel)))
theorem kF_X6_32 : bs_FF RX6 32 6 9 (.array .int) := bs_ff cl_6 (by decide) rfl rfl rfl (List.mem_of_getElem? (i := 548) (by decide +kernel))
theorem kf_X6_35 : bs_FL RX6 35 6 10 (.array .int) true := bs_fl cl_6 (by decide) rfl rfl rfl (Or.inl (List.mem_of_getElem? (i := 549) (by decide +kernel)))
theorem kF_X6_35 : bs_FF RX6 35 6 10 (.array .int) := bs_ff cl_6 (by decide) rfl rfl rfl (List.mem_of_getElem? (i := 549) (by decide +kernel))
theorem kf_X6_127 : bs_FL RX6 127 6 11 .int false := bs_fl cl_6 (by decide) rfl rfl rfl (Or.inl (List.mem_of_getElem? (i := 550) (by decide +kernel)))
theorem kf_X6_58 : bs_FL RX6 58 6 12 .int false := bs_fl cl_6 (by decide) rfl rfl rfl (Or.inl (List.mem_of_getElem? (i := 551) (by decide +kernel)))
theorem kf_X6_61 : bs_FL RX6 61 6 13 .int false := bs_fl cl_6 (by decide) rfl rfl rfl (Or.inl (List.mem_of_getElem? (i := 552) (by decide +kernel)))
theorem kf_X6_38 : bs_FL RX6 38 6 14 .int false := bs_fl cl_6 (by decide) rfl rfl rfl (Or.inl (List.mem_of_getElem? (i := 553) (by decide +kernel)))
theorem kf_X6_42 : bs_FL RX6 42 6 15 (.array .int) true := bs_fl cl_6 (by decide) rfl rfl rfl (Or.inl (List.mem_of_getElem? (i := 554) (by decide +kernel)))
theorem kF_X6_42 : bs_FF RX6 42 6 15 (.array .int) := bs_ff cl_6 (by decide) rfl rfl rfl (List.mem_of_getElem? (i := 554) (by decide +kernel))
theorem kf_X6_54 : bs_FL RX6 54 6 16 .boolean false := bs_fl cl_6 (by decide) rfl rfl rfl (Or.inl (List.mem_of_getElem? (i := 555) (by decide +kernel)))
theorem kf_X6_45 : bs_FL RX6 45 6 17 (.array .int) true := bs_fl cl_6 (by decide) rfl rfl rfl (Or.inl (List.mem_of_getElem? (i := 556) (by decide +kernel)))
theorem kF_X6_45 : bs_FF RX6 45 6 17 (.array .int) := bs_ff cl_6 (by decide) rfl rfl rfl (List.mem_of_getElem? (i := 556) (by decide +kernel))
theorem kf_X6_156 : bs_FL RX6 156 6 18 .int false := bs_fl cl_6 (by decide) rfl rfl rfl (Or.inl (List.mem_of_getElem? (i := 557) (by decide +kernel)))
theorem kf_X6_48 : bs_FL RX6 48 6 19 (.array .int) true := bs_fl cl_6 (by decide) rfl rfl rfl (Or.inl (List.mem_of_getElem? (i := 558) (by decide +kernel)))
theorem kF_X6_48 : bs_FF RX6 48 6 19 (.array .int) := bs_ff cl_6 (by decide) rfl rfl rfl (List.mem_of_getElem? (i := 558) (by decide +kernel))
theorem kf_X6_51 : bs_FL RX6 51 6 20 (.array .int) true := bs_fl cl_6 (by decide) rfl rfl rfl (Or.inl (List.mem_of_getElem? (i := 559) (by decide +kernel)))
theorem kF_X6_51 : bs_FF RX6 51 6 20 (.array .int) := bs_ff cl_6 (by decide) rfl rfl rfl (List.mem_of_getElem? (i := 559) (by decide +kernel))
theorem kf_X6_171 : bs_FL RX6 171 6 21 .int false := bs_fl cl_6 (by decide) rfl rfl rfl (Or.inl (List.mem_of_getElem? (i := 560) (by decide +kernel)))
theorem kf_X6_159 : bs_FL RX6 159 6 22 .int false := bs_fl cl_6 (by decide) rfl rfl rfl (Or.inl (List.mem_of_getElem? (i := 561) (by decide +kernel)))
theorem kf_X6_215 : bs_FL RX6 215 6 23 .long false := bs_fl cl_6 (by decide) rfl rfl rfl (Or.inl (List.mem_of_getElem? (i := 562) (by decide +kernel)))
theorem kar_Z : Cond.arrayClass .boolean ∈ lw_tbl := List.mem_of_getElem? (i := 612) (by decide +kernel)
theorem km_L_17 : bs_ML RL 17 yX6_allocate := Or.inl (List.mem_of_getElem? (i := 613) (by decide +kernel))
theorem km_X6_67 : bs_ML RX6 67 yX6_in := Or.inl (List.mem_of_getElem? (i := 617) (by decide +kernel))
theorem km_X6_93 : bs_ML RX6 93 yX6_error := Or.inl (List.mem_of_getElem? (i := 620) (by decide +kernel))
theorem km_X6_100 : bs_ML RX6 100 yX6_newPointer := Or.inl (List.mem_of_getElem? (i := 624) (by decide +kernel))
theorem km_X6_103 : bs_ML RX6 103 yX6_insert := Or.inl (List.mem_of_getElem? (i := 628) (by decide +kernel))
theorem km_L_22 : bs_ML RL 22 yX6_read := Or.inl (List.mem_of_getElem? (i := 632) (by decide +kernel))
theorem km_X6_107 : bs_ML RX6 107 yX6_isCell := Or.inl (List.mem_of_getElem? (i := 636) (by decide +kernel))
theorem km_X6_71 : bs_ML RX6 71 yX6_isPointer := Or.inl (List.mem_of_getElem? (i := 640) (by decide +kernel))
theorem km_X6_111 : bs_ML RX6 111 yX6_readKind := Or.inl (List.mem_of_getElem? (i := 644) (by decide +kernel))
theorem km_X6_75 : bs_ML RX6 75 yX6_cellOf := Or.inl (List.mem_of_getElem? (i := 648) (by decide +kernel))
theorem km_X6_79 : bs_ML RX6 79 yX6_granting := Or.inl (List.mem_of_getElem? (i := 652) (by decide +kernel))
theorem km_X6_83 : bs_ML RX6 83 yX6_isGuarded := Or.inl (List.mem_of_getElem? (i := 656) (by decide +kernel))
theorem km_X6_114 : bs_ML RX6 114 yX6_violate := Or.inl (List.mem_of_getElem? (i := 660) (by decide +kernel))
theorem km_X6_117 : bs_ML RX6 117 yX6_doRead := Or.inl (List.mem_of_getElem? (i := 664) (by decide +kernel))
theorem km_L_27 : bs_ML RL 27 yX6_write := Or.inl (List.mem_of_getElem? (i := 668) (by decide +kernel))
theorem km_X6_90 : bs_ML RX6 90 yX6_writeKind := Or.inl (List.mem_of_getElem? (i := 672) (by decide +kernel))
theorem km_X6_87 : bs_ML RX6 87 yX6_above := Or.inl (List.mem_of_getElem? (i := 676) (by decide +kernel))
theorem km_X6_121 : bs_ML RX6 121 yX6_doWrite := Or.inl (List.mem_of_getElem? (i := 680) (by decide +kernel))
theorem km_L_32 : bs_ML RL 32 yX6_reborrow := Or.inl (List.mem_of_getElem? (i := 684) (by decide +kernel))
theorem km_X6_130 : bs_ML RX6 130 yX6_reborrowKind := Or.inl (List.mem_of_getElem? (i := 688) (by decide +kernel))
theorem km_X6_124 : bs_ML RX6 124 yX6_rawKind := Or.inl (List.mem_of_getElem? (i := 692) (by decide +kernel))
theorem km_X6_134 : bs_ML RX6 134 yX6_sizeBy := Or.inl (List.mem_of_getElem? (i := 696) (by decide +kernel))
theorem km_X6_137 : bs_ML RX6 137 yX6_put := Or.inl (List.mem_of_getElem? (i := 700) (by decide +kernel))
theorem km_L_36 : bs_ML RL 36 yX6_free := Or.inl (List.mem_of_getElem? (i := 704) (by decide +kernel))
theorem km_X6_141 : bs_ML RX6 141 yX6_freeKind := Or.inl (List.mem_of_getElem? (i := 708) (by decide +kernel))
theorem km_L_41 : bs_ML RL 41 yX6_enterCall := Or.inl (List.mem_of_getElem? (i := 712) (by decide +kernel))
theorem km_L_45 : bs_ML RL 45 yX6_leaveCall := Or.inl (List.mem_of_getElem? (i := 716) (by decide +kernel))
theorem km_L_49 : bs_ML RL 49 yX6_checkRead := Or.inl (List.mem_of_getElem? (i := 720) (by decide +kernel))
theorem km_L_53 : bs_ML RL 53 yX6_checkWrite := Or.inl (List.mem_of_getElem? (i := 724) (by decide +kernel))
theorem km_L_57 : bs_ML RL 57 yX6_checkFree := Or.inl (List.mem_of_getElem? (i := 728) (by decide +kernel))
theorem km_L_61 : bs_ML RL 61 yX6_removedByWrite := Or.inl (List.mem_of_getElem? (i := 732) (by decide +kernel))
theorem km_L_65 : bs_ML RL 65 yX6_stackSize := Or.inl (List.mem_of_getElem? (i := 736) (by decide +kernel))
theorem km_X6_147 : bs_ML RX6 147 yX6_isCellOf := Or.inl (List.mem_of_getElem? (i := 740) (by decide +kernel))
theorem km_X6_144 : bs_ML RX6 144 yX6_isAllocation := Or.inl (List.mem_of_getElem? (i := 744) (by decide +kernel))
theorem km_L_69 : bs_ML RL 69 yX6_itemTag := Or.inl (List.mem_of_getElem? (i := 748) (by decide +kernel))
theorem km_X6_150 : bs_ML RX6 150 yX6_placeOf := Or.inl (List.mem_of_getElem? (i := 752) (by decide +kernel))
theorem km_L_73 : bs_ML RL 73 yX6_itemPermission := Or.inl (List.mem_of_getElem? (i := 756) (by decide +kernel))
theorem km_L_77 : bs_ML RL 77 yX6_itemProtected := Or.inl (List.mem_of_getElem? (i := 760) (by decide +kernel))
theorem km_L_81 : bs_ML RL 81 yX6_allocationOf := Or.inl (List.mem_of_getElem? (i := 764) (by decide +kernel))
theorem km_L_85 : bs_ML RL 85 yX6_parent := Or.inl (List.mem_of_getElem? (i := 768) (by decide +kernel))
theorem km_L_89 : bs_ML RL 89 yX6_liveCells := Or.inl (List.mem_of_getElem? (i := 772) (by decide +kernel))
theorem km_X6_153 : bs_ML RX6 153 yX6_liveOf := Or.inl (List.mem_of_getElem? (i := 776) (by decide +kernel))
theorem km_L_93 : bs_ML RL 93 yX6_isFreed := Or.inl (List.mem_of_getElem? (i := 780) (by decide +kernel))
theorem km_L_97 : bs_ML RL 97 yX6_pointerCount := Or.inl (List.mem_of_getElem? (i := 784) (by decide +kernel))
theorem km_L_101 : bs_ML RL 101 yX6_callDepth := Or.inl (List.mem_of_getElem? (i := 788) (by decide +kernel))
theorem km_L_105 : bs_ML RL 105 yX6_violationCount := Or.inl (List.mem_of_getElem? (i := 792) (by decide +kernel))
theorem km_L_109 : bs_ML RL 109 yX6_violationKind := Or.inl (List.mem_of_getElem? (i := 796) (by decide +kernel))
theorem km_L_113 : bs_ML RL 113 yX6_violationCell := Or.inl (List.mem_of_getElem? (i := 800) (by decide +kernel))
theorem km_L_117 : bs_ML RL 117 yX6_errorCount := Or.inl (List.mem_of_getElem? (i := 804) (by decide +kernel))
theorem km_L_121 : bs_ML RL 121 yX6_append := Or.inl (List.mem_of_getElem? (i := 808) (by decide +kernel))
theorem km_L_125 : bs_ML RL 125 yX6_clearText := Or.inl (List.mem_of_getElem? (i := 812) (by decide +kernel))
theorem km_L_129 : bs_ML RL 129 yX6_runScript := Or.inl (List.mem_of_getElem? (i := 816) (by decide +kernel))
theorem km_X6_207 : bs_ML RX6 207 yX6_isRead := Or.inl (List.mem_of_getElem? (i := 820) (by decide +kernel))
theorem km_X6_165 : bs_ML RX6 165 yX6_blanks := Or.inl (List.mem_of_getElem? (i := 824) (by decide +kernel))
theorem km_X6_162 : bs_ML RX6 162 yX6_isAt := Or.inl (List.mem_of_getElem? (i := 828) (by decide +kernel))
theorem km_X6_177 : bs_ML RX6 177 yX6_takesCommand := Or.inl (List.mem_of_getElem? (i := 832) (by decide +kernel))
theorem km_X6_168 : bs_ML RX6 168 yX6_manyOf := Or.inl (List.mem_of_getElem? (i := 836) (by decide +kernel))
theorem km_X6_174 : bs_ML RX6 174 yX6_takesNumber := Or.inl (List.mem_of_getElem? (i := 839) (by decide +kernel))
theorem km_X6_210 : bs_ML RX6 210 yX6_executeAll := Or.inl (List.mem_of_getElem? (i := 843) (by decide +kernel))
theorem km_X6_204 : bs_ML RX6 204 yX6_execute := Or.inl (List.mem_of_getElem? (i := 847) (by decide +kernel))
theorem km_X6_181 : bs_ML RX6 181 yX6_allocate := Or.inl (List.mem_of_getElem? (i := 851) (by decide +kernel))
theorem km_X6_184 : bs_ML RX6 184 yX6_read := Or.inl (List.mem_of_getElem? (i := 852) (by decide +kernel))
theorem km_X6_187 : bs_ML RX6 187 yX6_write := Or.inl (List.mem_of_getElem? (i := 853) (by decide +kernel))
theorem km_X6_190 : bs_ML RX6 190 yX6_reborrow := Or.inl (List.mem_of_getElem? (i := 854) (by decide +kernel))
theorem km_X6_194 : bs_ML RX6 194 yX6_free := Or.inl (List.mem_of_getElem? (i := 855) (by decide +kernel))
theorem km_X6_197 : bs_ML RX6 197 yX6_enterCall := Or.inl (List.mem_of_getElem? (i := 856) (by decide +kernel))
theorem km_X6_201 : bs_ML RX6 201 yX6_leaveCall := Or.inl (List.mem_of_getElem? (i := 857) (by decide +kernel))
theorem km_L_134 : bs_ML RL 134 yX6_digest := Or.inl (List.mem_of_getElem? (i := 858) (by decide +kernel))
theorem kj_X6_223 : Cond.constantLong RX6 223 (12011) ∈ lw_tbl := List.mem_of_getElem? (i := 862) (by decide +kernel)
theorem km_X6_219 : bs_ML RX6 219 yX6_mix := Or.inl (List.mem_of_getElem? (i := 863) (by decide +kernel))
theorem kj_X6_213 : Cond.constantLong RX6 213 (31) ∈ lw_tbl := List.mem_of_getElem? (i := 867) (by decide +kernel)
theorem km_X6_225 : bs_ML RX6 225 yX6_mixCell := Or.inl (List.mem_of_getElem? (i := 868) (by decide +kernel))
theorem kob_i : Cond.instanceMethod objectInit ∈ lw_tbl := List.mem_of_getElem? (i := 65) (by decide +kernel)
theorem kob_c : Cond.code objectInit ⟨#[0xb1]⟩ 1 none ∈ lw_tbl := List.mem_of_getElem? (i := 66) (by decide +kernel)
end
section
/-! the reference's state: its int fields and rows as one table of numbers (field, place), its hash; and its heap: a heap h0 with the reference's cells laid over it -/
abbrev MS : Type := Nat → Nat → Int32
def ms_u (σ : MS) (k i : Nat) (x : Int32) : MS := fun k' => if k' = k then upd (σ k) i x else σ k'
def mfs (A : Nat → Nat) (σ : MS) (hs : Int64) : List Value := [.int (σ 0 0), .ref (A 1), .ref (A 2), .ref (A 3), .ref (A 4), .ref (A 5), .ref (A 6), .ref (A 7), .int (σ 8 0), .ref (A 9), .ref (A 10), .int (σ 11 0), .int (σ 12 0), .int (σ 13 0), .int (σ 14 0), .ref (A 15), .int (σ 16 0), .ref (A 17), .int (σ 18 0), .ref (A 19), .ref (A 20), .int (σ 21 0), .int (σ 22 0), .long hs]
def mln (k : Nat) : Nat := match k with
  | 1 => 10
  | 2 => 10
  | 3 => 80
  | 4 => 80
  | 5 => 960
  | 6 => 960
  | 7 => 960
  | 9 => 60
  | 10 => 60
  | 15 => 3
  | 17 => 120
  | 19 => 60
  | 20 => 180
  | _ => 0
def mLa : List Nat := [1, 2, 3, 4, 5, 6, 7, 9, 10, 15, 17, 19, 20]
def mLi : List Nat := [0, 8, 11, 12, 13, 14, 16, 18, 21, 22]
def mtk (k : Nat) : Nat := if k = 2 then 1 else 0
def mOk (y : Nat) (A : Nat → Nat) : Prop := (∀ k, k ∈ mLa → A k ≠ y) ∧ ∀ k, k ∈ mLa → ∀ k', k' ∈ mLa → A k = A k' → k = k'
def mix (A : Nat → Nat) (a : Nat) : Option Nat := mLa.find? (fun k => A k == a)
def mh (G : GG) (h0 : Hp) (y : Nat) (A : Nat → Nat) (σ : MS) (hs : Int64) : Hp := fun a => if a = y then some (.inr (6, mfs A σ hs)) else match mix A a with
  | some k => some (.inl (G.2.1 (mtk k), mln k, .inl (σ k)))
  | none => h0 a
section MhRows
variable {G : GG} {h0 : Hp} {y : Nat} {A : Nat → Nat} {σ : MS} {hs : Int64}
theorem mix_some {a k : Nat} (h : mix A a = some k) : k ∈ mLa ∧ A k = a := ⟨List.mem_of_find?_eq_some h, by have := List.find?_some h; simpa using this⟩
theorem mix_at (hA : mOk y A) {k : Nat} (hk : k ∈ mLa) : mix A (A k) = some k := by
  cases h : mix A (A k) with
  | none =>
    have := List.find?_eq_none.mp h k hk
    simp at this
  | some j =>
    obtain ⟨h1, h2⟩ := mix_some h
    rw [hA.2 j h1 k hk h2]
theorem mh_y : mh G h0 y A σ hs y = some (.inr (6, mfs A σ hs)) := if_pos rfl
theorem mh_a (hA : mOk y A) (k : Nat) (hk : mLa.contains k = true) : mh G h0 y A σ hs (A k) = some (.inl (G.2.1 (mtk k), mln k, .inl (σ k))) := by
  have hk' : k ∈ mLa := by simpa using hk
  unfold mh
  rw [if_neg (hA.1 k hk'), mix_at hA hk']
theorem mh_o {a : Nat} (h1 : a ≠ y) (h2 : ∀ k, k ∈ mLa → A k ≠ a) : mh G h0 y A σ hs a = h0 a := by
  unfold mh
  rw [if_neg h1]
  cases h : mix A a with
  | none => rfl
  | some k => exact absurd (mix_some h).2 (h2 k (mix_some h).1)
theorem ms_u_k {k i : Nat} {x : Int32} : ms_u σ k i x k = upd (σ k) i x := if_pos rfl
theorem ms_u_n {k i k' : Nat} {x : Int32} (h : k' ≠ k) : ms_u σ k i x k' = σ k' := if_neg h
theorem mfs_u {k i : Nat} {x : Int32} (hk : k ∈ mLa) : mfs A (ms_u σ k i x) hs = mfs A σ hs := by
  have h : ∀ j, j ∉ mLa → ms_u σ k i x j = σ j := fun j hj => ms_u_n (fun e => hj (e ▸ hk))
  unfold mfs
  rw [h 0 (by decide), h 8 (by decide), h 11 (by decide), h 12 (by decide), h 13 (by decide), h 14 (by decide), h 16 (by decide), h 18 (by decide), h 21 (by decide), h 22 (by decide)]
theorem mh_ast (hA : mOk y A) {k i : Nat} {x : Int32} (hk : k ∈ mLa) : bs_set (mh G h0 y A σ hs) (A k) (.inl (G.2.1 (mtk k), mln k, .inl (upd (σ k) i x))) = mh G h0 y A (ms_u σ k i x) hs := by
  funext a
  by_cases ha : a = A k
  · subst ha
    rw [bs_set_self]
    unfold mh
    rw [if_neg (hA.1 k hk), mix_at hA hk]
    show some _ = some _
    rw [ms_u_k]
  · rw [bs_set_ne ha]
    unfold mh
    by_cases hy : a = y
    · rw [if_pos hy, if_pos hy, mfs_u hk]
    · rw [if_neg hy, if_neg hy]
      cases h : mix A a with
      | none => rfl
      | some j =>
        have hj : j ≠ k := fun e => ha (by rw [← e]; exact (mix_some h).2.symm)
        show some _ = some _
        rw [ms_u_n hj]
theorem mh_put {k : Nat} {x : Int32} (hk : k ∈ mLi) : bs_set (mh G h0 y A σ hs) y (.inr (6, (mfs A σ hs).set k (.int x))) = mh G h0 y A (ms_u σ k 0 x) hs := by
  have hfs : (mfs A σ hs).set k (.int x) = mfs A (ms_u σ k 0 x) hs := by
    simp only [mLi, List.mem_cons, List.not_mem_nil, or_false] at hk
    rcases hk with rfl | rfl | rfl | rfl | rfl | rfl | rfl | rfl | rfl | rfl <;> rfl
  funext a
  by_cases ha : a = y
  · subst ha
    rw [bs_set_self, mh_y, hfs]
  · rw [bs_set_ne ha]
    unfold mh
    rw [if_neg ha, if_neg ha]
    cases h : mix A a with
    | none => rfl
    | some j =>
      have hj : j ≠ k := fun e => by
        have h1 := (mix_some h).1
        subst e
        revert h1 hk
        simp only [mLi, mLa, List.mem_cons, List.not_mem_nil, or_false]
        omega
      show some _ = some _
      rw [ms_u_n hj]
theorem mh_putl {v : Int64} : bs_set (mh G h0 y A σ hs) y (.inr (6, (mfs A σ hs).set 23 (.long v))) = mh G h0 y A σ v := by
  funext a
  by_cases ha : a = y
  · subst ha
    rw [bs_set_self, mh_y]
    rfl
  · rw [bs_set_ne ha]
    unfold mh
    rw [if_neg ha, if_neg ha]
variable {X : State → Prop} {M : MI} {d bc bs : Nat} {pc : Nat} {lv : List (Nat × Value)} {st : List Value} {Q : Option Value → Hp → Prop}
theorem bm_ald {k : Nat} {i : Int32} {pc' : Nat} (hd : decode M.2.1 pc = .ok (.iaload, 1)) (hA : mOk y A) (hk : mLa.contains k = true) (hz : mtk k = 0) (n : Nat) (hi : i = nI n) (hn : n < mln k) (hp : pc + 1 = pc') (kk : bs_B G X M d bc bs (mh G h0 y A σ hs) pc' lv (.int (σ k n) :: st) Q) : bs_B G X M d bc bs (mh G h0 y A σ hs) pc lv (.int i :: .ref (A k) :: st) Q := by
  subst hi
  have h1 := mh_a (G := G) (h0 := h0) (σ := σ) (hs := hs) hA k hk
  rw [hz] at h1
  have hlt : mln k < 2 ^ 31 := by unfold mln; split <;> decide
  refine bs_iald hd h1 (vp_in_nI hn hlt) hp ?_
  rw [nI_clamp (Nat.lt_trans hn hlt)]
  exact kk
theorem bm_zld {i : Int32} {pc' : Nat} (hd : decode M.2.1 pc = .ok (.baload, 1)) (hA : mOk y A) (n : Nat) (hi : i = nI n) (hn : n < 10) (hp : pc + 1 = pc') (kk : bs_B G X M d bc bs (mh G h0 y A σ hs) pc' lv (.int (σ 2 n) :: st) Q) : bs_B G X M d bc bs (mh G h0 y A σ hs) pc lv (.int i :: .ref (A 2) :: st) Q := by
  subst hi
  refine bs_zald hd (mh_a hA 2 rfl) (vp_in_nI hn (by decide)) hp ?_
  rw [nI_clamp (Nat.lt_trans hn (by decide))]
  exact kk
theorem bm_ast {k : Nat} {i x : Int32} {pc' : Nat} (hd : decode M.2.1 pc = .ok (.iastore, 1)) (hA : mOk y A) (hk : mLa.contains k = true) (hz : mtk k = 0) (n : Nat) (hi : i = nI n) (hn : n < mln k) (hp : pc + 1 = pc') (kk : bs_B G X M d bc bs (mh G h0 y A (ms_u σ k n x) hs) pc' lv st Q) : bs_B G X M d bc bs (mh G h0 y A σ hs) pc lv (.int x :: .int i :: .ref (A k) :: st) Q := by
  subst hi
  have h1 := mh_a (G := G) (h0 := h0) (σ := σ) (hs := hs) hA k hk
  rw [hz] at h1
  have hlt : mln k < 2 ^ 31 := by unfold mln; split <;> decide
  refine bs_iast hd h1 (vp_in_nI hn hlt) hp ?_
  rw [nI_clamp (Nat.lt_trans hn hlt)]
  have h2 := mh_ast (G := G) (h0 := h0) (hs := hs) (σ := σ) hA (k := k) (i := n) (x := x) (by simpa using hk)
  rw [hz] at h2
  rw [h2]
  exact kk
theorem bm_zst {i x : Int32} {pc' : Nat} (hd : decode M.2.1 pc = .ok (.bastore, 1)) (hA : mOk y A) (n : Nat) (hi : i = nI n) (hn : n < 10) (hx : vp_nar .boolean x = x) (hp : pc + 1 = pc') (kk : bs_B G X M d bc bs (mh G h0 y A (ms_u σ 2 n x) hs) pc' lv st Q) : bs_B G X M d bc bs (mh G h0 y A σ hs) pc lv (.int x :: .int i :: .ref (A 2) :: st) Q := by
  subst hi
  refine bs_zast hd (mh_a hA 2 rfl) (vp_in_nI hn (by decide)) hp ?_
  rw [nI_clamp (Nat.lt_trans hn (by decide)), hx]
  have h2 := mh_ast (G := G) (h0 := h0) (hs := hs) (σ := σ) hA (k := 2) (i := n) (x := x) (by decide)
  have h3 : mtk 2 = 1 := rfl
  rw [h3] at h2
  show bs_B G X M d bc bs (bs_set (mh G h0 y A σ hs) (A 2) (.inl (G.2.1 1, mln 2, .inl (upd (σ 2) n x)))) pc' lv st Q
  rw [h2]
  exact kk
theorem bm_put {idx k : Nat} {ty : FieldType} {x : Int32} {pc' : Nat} (hl : bs_FL M.1.cls idx 6 k ty false) (hd : decode M.2.1 pc = .ok (.putfield idx, 3)) (hk : mLi.contains k = true) (hn : narrow ty (.int x) = .int x) (hfit : fits ty (.int x) = true) (hp : pc + 3 = pc') (kk : bs_B G X M d bc bs (mh G h0 y A (ms_u σ k 0 x) hs) pc' lv st Q) : bs_B G X M d bc bs (mh G h0 y A σ hs) pc lv (.int x :: .ref y :: st) Q := by
  have hk' : k ∈ mLi := by simpa using hk
  refine bs_putf hl hd mh_y hn hfit ?_ hp ?_
  · simp only [mLi, List.mem_cons, List.not_mem_nil, or_false] at hk'
    rcases hk' with rfl | rfl | rfl | rfl | rfl | rfl | rfl | rfl | rfl | rfl <;> rfl
  · rw [mh_put hk']
    exact kk
theorem bm_putl {idx : Nat} {x : Int64} {pc' : Nat} (hl : bs_FL M.1.cls idx 6 23 .long false) (hd : decode M.2.1 pc = .ok (.putfield idx, 3)) (hp : pc + 3 = pc') (kk : bs_B G X M d bc bs (mh G h0 y A σ x) pc' lv st Q) : bs_B G X M d bc bs (mh G h0 y A σ hs) pc lv (.long x :: .ref y :: st) Q := by
  refine bs_putf hl hd mh_y rfl rfl rfl hp ?_
  rw [mh_putl]
  exact kk
end MhRows
end
section
/-! numbers, and the functions that both sides compute -/
theorem nI_m1 (m : Nat) : nI m + Int32.ofInt (-1) = nI m - 1 := by
  rw [show Int32.ofInt (-1) = -1 from rfl, Int32.sub_eq_add_neg]
theorem nI_i1 (m : Nat) : nI m + Int32.ofInt 1 = nI (m + 1) := nI_1 m
theorem nI_12 (c k : Nat) : 12 * nI c + nI k = nI (12 * c + k) := by
  rw [show (12 : Int32) = nI 12 from rfl, pk_mul, nI_add]
theorem nI_8 (c k : Nat) : 8 * nI c + nI k = nI (8 * c + k) := by
  rw [show (8 : Int32) = nI 8 from rfl, pk_mul, nI_add]
def bI (b : Bool) : Int32 := if b then 1 else 0
theorem bI_01 (b : Bool) : bI b = 0 ∨ bI b = 1 := by cases b <;> decide
theorem bI_0 {b : Bool} : bI b = 0 ↔ b = false := by cases b <;> decide
theorem bI_n0 {b : Bool} : ¬ bI b = 0 ↔ b = true := by cases b <;> decide
def oI (o : Option Nat) : Int32 := match o with
  | none => -1
  | some k => nI k
/-- may an item of this permission grant: a write, a read -/
def okp (w : Bool) (p : Int32) : Bool := if w then decide (p < 2) else decide (¬ p = 3)
/-- the topmost granting item of the lowest n -/
def grf (tg pm : Nat → Int32) (t : Int32) (w : Bool) : Nat → Option Nat
  | 0 => none
  | n + 1 => if tg n = t ∧ okp w (pm n) = true then some n else grf tg pm t w n
/-- from place j on, f items: the first that isn't shared read-write -/
def srw (pm : Nat → Int32) : Nat → Nat → Nat
  | 0, j => j
  | f + 1, j => if pm j = 1 then srw pm f (j + 1) else j
/-- the first place above a granting item that does not stay by a write, of n -/
def abf (pm : Nat → Int32) (n k : Nat) : Nat := if pm k = 1 then srw pm (n - (k + 1)) (k + 1) else k + 1
/-- is one of the f items from j on protected -/
def gdf (pm gd : Nat → Int32) (all : Bool) : Nat → Nat → Bool
  | 0, _ => false
  | f + 1, j => ((all || decide (pm j = 0)) && decide (0 < gd j)) || gdf pm gd all f (j + 1)
theorem grf_lt {tg pm : Nat → Int32} {t : Int32} {w : Bool} : ∀ {n k : Nat}, grf tg pm t w n = some k → k < n
  | 0, k, h => by cases h
  | n + 1, k, h => by
    unfold grf at h
    split at h
    · cases h; omega
    · have := grf_lt (n := n) h; omega
theorem srw_le {pm : Nat → Int32} : ∀ (f j : Nat), j ≤ srw pm f j ∧ srw pm f j ≤ j + f
  | 0, j => by unfold srw; omega
  | f + 1, j => by
    unfold srw
    split
    · have := srw_le (pm := pm) f (j + 1); omega
    · omega
theorem abf_le {pm : Nat → Int32} {n k : Nat} (h : k < n) : k + 1 ≤ abf pm n k ∧ abf pm n k ≤ n := by
  unfold abf
  split
  · have := srw_le (pm := pm) (n - (k + 1)) (k + 1); omega
  · omega
def zN (x : Int32) : Nat := x.toNatClampNeg
theorem zN_nI {n : Nat} (h : n < 2 ^ 31) : zN (nI n) = n := nI_clamp h
/-- a number from 0 to b -/
def nn (x : Int32) (b : Nat) : Prop := x = nI (zN x) ∧ zN x ≤ b
theorem nn_nI {n b : Nat} (h : n ≤ b) (hb : b < 2 ^ 31) : nn (nI n) b := by
  have e : zN (nI n) = n := zN_nI (by omega)
  exact ⟨by rw [e], by rw [e]; exact h⟩
theorem nn_0 {b : Nat} : nn 0 b := ⟨rfl, Nat.zero_le b⟩
def inb (v : Int32) (n : Nat) : Bool := decide (0 ≤ v ∧ v ≤ nI n - 1)
theorem inb_nI {j n : Nat} (h : j < n) (hn : n < 2 ^ 31) : inb (nI j) n = true := by
  obtain ⟨m, rfl⟩ : ∃ m, n = m + 1 := ⟨n - 1, by omega⟩
  simp only [inb, decide_eq_true_eq, nI_pred]
  exact ⟨nI_pos' (by omega), nI_le (by omega) (by omega)⟩
theorem inb_t {v : Int32} {n : Nat} (hn : n < 2 ^ 31) (h : inb v n = true) : ∃ j, j < n ∧ v = nI j := by
  simp only [inb, decide_eq_true_eq] at h
  obtain ⟨j, hj, rfl⟩ := nI_of (x := v) (by rw [Int32.not_lt]; exact h.1)
  refine ⟨j, ?_, rfl⟩
  cases n with
  | zero =>
    exfalso
    have h1 := h.2
    rw [nI_0] at h1
    rw [Int32.le_iff_toInt_le, nI_toInt hj] at h1
    have : ((0 : Int32) - 1).toInt = -1 := by decide
    rw [this] at h1
    omega
  | succ m =>
    have h1 := h.2
    rw [nI_pred, Int32.le_iff_toInt_le, nI_toInt hj, nI_toInt (by omega)] at h1
    omega
theorem inb_lt {v : Int32} {n : Nat} (hn : n < 2 ^ 31) : inb v n = decide (0 ≤ v ∧ v < nI n) := by
  cases h : inb v n with
  | true =>
    obtain ⟨j, hj, rfl⟩ := inb_t hn h
    symm
    simp only [decide_eq_true_eq]
    exact ⟨nI_pos' (by omega), nI_lt hj hn⟩
  | false =>
    symm
    simp only [decide_eq_false_iff_not]
    rintro ⟨h1, h2⟩
    obtain ⟨j, hj, rfl⟩ := nI_of (x := v) (by rw [Int32.not_lt]; exact h1)
    rw [nI_ltI hj hn] at h2
    rw [inb_nI h2 hn] at h
    cases h
/-- the reference's rows are as they must be -/
def mInv (σ : Nat → Nat → Int32) : Prop := nn (σ 0 0) 10 ∧ nn (σ 8 0) 60 ∧ nn (σ 11 0) 5 ∧ nn (σ 18 0) 120 ∧ (∀ a, a < zN (σ 0 0) → nn (σ 1 a) 8 ∧ 1 ≤ zN (σ 1 a)) ∧ (∀ p, p < zN (σ 8 0) → nn (σ 9 p) 9 ∧ zN (σ 9 p) < zN (σ 0 0)) ∧ (∀ c, c < 80 → nn (σ 4 c) 12) ∧ (∀ c, 8 * zN (σ 0 0) ≤ c → c < 80 → σ 4 c = 0)
section MInv
variable {σ : Nat → Nat → Int32}
theorem mInv.nA (h : mInv σ) : nn (σ 0 0) 10 := h.1
theorem mInv.nP (h : mInv σ) : nn (σ 8 0) 60 := h.2.1
theorem mInv.dp (h : mInv σ) : nn (σ 11 0) 5 := h.2.2.1
theorem mInv.ln (h : mInv σ) : nn (σ 18 0) 120 := h.2.2.2.1
theorem mInv.cl (h : mInv σ) {a : Nat} (ha : a < zN (σ 0 0)) : nn (σ 1 a) 8 ∧ 1 ≤ zN (σ 1 a) := h.2.2.2.2.1 a ha
theorem mInv.ow (h : mInv σ) {p : Nat} (hp : p < zN (σ 8 0)) : nn (σ 9 p) 9 ∧ zN (σ 9 p) < zN (σ 0 0) := h.2.2.2.2.2.1 p hp
theorem mInv.sz (h : mInv σ) {c : Nat} (hc : c < 80) : nn (σ 4 c) 12 := h.2.2.2.2.2.2.1 c hc
theorem mInv.s0 (h : mInv σ) {c : Nat} (h1 : 8 * zN (σ 0 0) ≤ c) (hc : c < 80) : σ 4 c = 0 := h.2.2.2.2.2.2.2 c h1 hc
theorem mInv.owe (h : mInv σ) {p : Nat} (hp : p < zN (σ 8 0)) : σ 9 p = nI (zN (σ 9 p)) := (h.ow hp).1.1
theorem mInv.ow10 (h : mInv σ) {p : Nat} (hp : p < zN (σ 8 0)) : zN (σ 9 p) < 10 := by
  have := (h.ow hp).1.2; omega
theorem mInv.p60 (h : mInv σ) {p : Nat} (hp : p < zN (σ 8 0)) : p < 60 := by
  have := h.nP.2; omega
/-- a pointer of the state, a cell of its allocation -/
def isPc (σ : Nat → Nat → Int32) (p i : Nat) : Prop := p < zN (σ 8 0) ∧ i < zN (σ 1 (zN (σ 9 p)))
theorem mInv.cell (h : mInv σ) {p i : Nat} (hp : isPc σ p i) : i < 8 ∧ 8 * zN (σ 9 p) + i < 80 := by
  have h1 := (h.ow hp.1).2
  have h2 := h.nA.2
  have h3 := (h.cl h1).1.2
  have h4 := hp.2
  omega
end MInv
/-- is there such a pointer and cell -/
def isC (σ : Nat → Nat → Int32) (p c : Int32) : Bool := inb p (zN (σ 8 0)) && inb c (zN (σ 1 (zN (σ 9 (zN p)))))
theorem isC_nI {σ : Nat → Nat → Int32} (hI : mInv σ) {p i : Nat} (h : isPc σ p i) : isC σ (nI p) (nI i) = true := by
  have h1 := hI.p60 h.1
  have h2 := hI.nP.2
  have h3 := (hI.cl (hI.ow h.1).2).1.2
  unfold isC
  rw [zN_nI (by omega), inb_nI h.1 (by omega), inb_nI h.2 (by omega)]
  rfl
theorem isC_t {σ : Nat → Nat → Int32} (hI : mInv σ) {p c : Int32} (h : isC σ p c = true) : ∃ j i, p = nI j ∧ c = nI i ∧ isPc σ j i := by
  unfold isC at h
  rw [Bool.and_eq_true] at h
  have h2 := hI.nP.2
  obtain ⟨j, hj, rfl⟩ := inb_t (by omega) h.1
  have h1 := hI.p60 hj
  have h3 := (hI.cl (hI.ow hj).2).1.2
  have h4 := h.2
  rw [zN_nI (by omega)] at h4
  obtain ⟨i, hi, rfl⟩ := inb_t (by omega) h4
  exact ⟨j, i, rfl, rfl, hj, hi⟩
/-- the granting item of the cell c for a tag -/
def gr (σ : Nat → Nat → Int32) (c : Nat) (t : Int32) (w : Bool) : Option Nat := grf (fun k => σ 5 (12 * c + k)) (fun k => σ 6 (12 * c + k)) t w (zN (σ 4 c))
def ab (σ : Nat → Nat → Int32) (c k : Nat) : Nat := abf (fun k => σ 6 (12 * c + k)) (zN (σ 4 c)) k
def gd (σ : Nat → Nat → Int32) (c j : Nat) (all : Bool) : Bool := gdf (fun k => σ 6 (12 * c + k)) (fun k => σ 7 (12 * c + k)) all (zN (σ 4 c) - j) j
/-- which of all cells -/
def cO (σ : Nat → Nat → Int32) (p i : Nat) : Nat := 8 * zN (σ 9 p) + i
def rdK (σ : Nat → Nat → Int32) (p i : Nat) : Int32 := if ¬ σ 2 (zN (σ 9 p)) = 0 then 3 else match gr σ (cO σ p i) (nI p) false with
  | none => 1
  | some k => if gd σ (cO σ p i) (k + 1) false then 2 else 0
def wrK (σ : Nat → Nat → Int32) (p i : Nat) : Int32 := if ¬ σ 2 (zN (σ 9 p)) = 0 then 3 else match gr σ (cO σ p i) (nI p) true with
  | none => 1
  | some k => if gd σ (cO σ p i) (ab σ (cO σ p i) k) true then 2 else 0
def rwK (σ : Nat → Nat → Int32) (p i : Nat) : Int32 := if ¬ σ 2 (zN (σ 9 p)) = 0 then 3 else match gr σ (cO σ p i) (nI p) true with
  | none => 1
  | some _ => 0
def frK (σ : Nat → Nat → Int32) (p i : Nat) : Int32 := if ¬ wrK σ p i = 0 then wrK σ p i else if gd σ (cO σ p i) 0 true then 2 else 0
end
section
section Model1
variable {G : GG} {h0 : Hp} {y : Nat} {A : Nat → Nat} {σ : MS} {hs : Int64}
abbrev mQi (G : GG) (h0 : Hp) (y : Nat) (A : Nat → Nat) (σ : MS) (hs : Int64) (r : Int32) : Option Value → Hp → Prop := fun v h' => v = some (.int r) ∧ h' = mh G h0 y A σ hs
abbrev mQv (G : GG) (h0 : Hp) (y : Nat) (A : Nat → Nat) (σ : MS) (hs : Int64) : Option Value → Hp → Prop := fun v h' => v = none ∧ h' = mh G h0 y A σ hs
abbrev mB (G : GG) (h0 : Hp) (y : Nat) (A : Nat → Nat) (σ : MS) (hs : Int64) (M : MI) (d pc : Nat) (lv : List (Nat × Value)) (st : List Value) (Q : Option Value → Hp → Prop) : Prop := bs_B G (fun _ => True) M d 0 0 (mh G h0 y A σ hs) pc lv st Q
abbrev mSp (G : GG) (h0 : Hp) (y : Nat) (A : Nat → Nat) (σ : MS) (hs : Int64) (M : MI) (d : Nat) (vs : List Value) (Q : Option Value → Hp → Prop) : Prop := bs_Sp G M d 0 0 (.ref y :: vs) (mh G h0 y A σ hs) Q
theorem sm_in {h : Hp} {v lo hi : Int32} : bs_Sp G mX6_in 0 0 0 [.int v, .int lo, .int hi] h (fun r h' => r = some (.int (bI (decide (lo ≤ v ∧ v ≤ hi)))) ∧ h' = h) := by
  refine bs_Sp.of (by decide) rfl ?_
  refine bs_iload_n (pc' := 1) dX6_in_0 rfl rfl ?_
  refine bs_iload_n (pc' := 2) dX6_in_1 rfl rfl ?_
  refine bs_icmp_lt (tgt := 14) (pc' := 5) dX6_in_2 rfl rfl (fun c2 => ?_) (fun c2 => ?_)
  · refine bs_iconst (v := 0) (pc' := 15) dX6_in_14 (by decide) rfl ?_
    exact bs_zret dX6_in_15 rfl (by decide) ⟨by congr 2; first | (rw [bI, if_pos]; simp only [decide_eq_true_eq]; (simp only [Int32.lt_iff_toInt_lt, Int32.le_iff_toInt_le, ← Int32.toInt_inj, Int32.reduceToInt] at *; omega)) | (rw [bI, if_neg]; simp only [decide_eq_true_eq]; (simp only [Int32.lt_iff_toInt_lt, Int32.le_iff_toInt_le, ← Int32.toInt_inj, Int32.reduceToInt] at *; omega)), rfl⟩
  · refine bs_iload_n (pc' := 6) dX6_in_5 rfl rfl ?_
    refine bs_iload_n (pc' := 7) dX6_in_6 rfl rfl ?_
    refine bs_icmp_gt (tgt := 14) (pc' := 10) dX6_in_7 rfl rfl (fun c7 => ?_) (fun c7 => ?_)
    · refine bs_iconst (v := 0) (pc' := 15) dX6_in_14 (by decide) rfl ?_
      exact bs_zret dX6_in_15 rfl (by decide) ⟨by congr 2; first | (rw [bI, if_pos]; simp only [decide_eq_true_eq]; (simp only [Int32.lt_iff_toInt_lt, Int32.le_iff_toInt_le, ← Int32.toInt_inj, Int32.reduceToInt] at *; omega)) | (rw [bI, if_neg]; simp only [decide_eq_true_eq]; (simp only [Int32.lt_iff_toInt_lt, Int32.le_iff_toInt_le, ← Int32.toInt_inj, Int32.reduceToInt] at *; omega)), rfl⟩
    · refine bs_iconst (v := 1) (pc' := 11) dX6_in_10 (by decide) rfl ?_
      refine bs_goto (tgt := 15) dX6_in_11 rfl ?_
      exact bs_zret dX6_in_15 rfl (by decide) ⟨by congr 2; first | (rw [bI, if_pos]; simp only [decide_eq_true_eq]; (simp only [Int32.lt_iff_toInt_lt, Int32.le_iff_toInt_le, ← Int32.toInt_inj, Int32.reduceToInt] at *; omega)) | (rw [bI, if_neg]; simp only [decide_eq_true_eq]; (simp only [Int32.lt_iff_toInt_lt, Int32.le_iff_toInt_le, ← Int32.toInt_inj, Int32.reduceToInt] at *; omega)), rfl⟩
theorem sm_granting {c : Nat} {t : Int32} {w : Bool} (hA : mOk y A) (hI : mInv σ) (hc : c < 80) : mSp G h0 y A σ hs mX6_granting 0 [.int (nI c), .int t, .int (bI w)] (mQi G h0 y A σ hs (oI (gr σ c t w))) := by
  have hn := (hI.sz hc).2
  have hsz := (hI.sz hc).1
  unfold gr
  generalize zN (σ 4 c) = n at hn hsz ⊢
  refine bs_Sp.of (by decide) rfl ?_
  have loop : ∀ m, m ≤ n → ∀ x, x = nI m - 1 → mB G h0 y A σ hs mX6_granting 0 10 [(0, .ref y), (1, .int (nI c)), (2, .int t), (3, .int (bI w)), (4, .int x)] [] (mQi G h0 y A σ hs (oI (grf (fun k => σ 5 (12 * c + k)) (fun k => σ 6 (12 * c + k)) t w m))) := by
    intro m
    induction m with
    | zero =>
      intro _ x hx
      subst hx
      refine bs_iload (pc' := 12) dX6_granting_10 rfl rfl ?_
      refine bs_if_lt (tgt := 90) (pc' := 15) dX6_granting_12 rfl rfl (fun _ => ?_) (fun c12 => absurd (by decide) c12)
      refine bs_iconst (v := (-1)) (pc' := 91) dX6_granting_90 (by decide) rfl ?_
      exact bs_iret dX6_granting_91 rfl ⟨rfl, rfl⟩
    | succ m ih =>
      intro hm x hx
      rw [nI_pred] at hx
      subst hx
      have j58 : ∀ z, z = bI (okp w (σ 6 (12 * c + m))) → mB G h0 y A σ hs mX6_granting 0 58 [(0, .ref y), (1, .int (nI c)), (2, .int t), (3, .int (bI w)), (4, .int (nI m)), (5, .int (σ 6 (12 * c + m)))] [.int z] (mQi G h0 y A σ hs (oI (grf (fun k => σ 5 (12 * c + k)) (fun k => σ 6 (12 * c + k)) t w (m + 1)))) := by
        intro z hz
        subst hz
        refine bs_istore (pc' := 60) (lv' := [(0, _), (1, _), (2, _), (3, _), (4, _), (5, _), (6, _)]) dX6_granting_58 rfl rfl rfl ?_
        refine bs_aload_n (pc' := 61) dX6_granting_60 rfl rfl rfl ?_
        refine bs_getf (pc' := 64) kf_X6_23 dX6_granting_61 mh_y rfl rfl ?_
        refine bs_bipush (v := 12) (pc' := 66) dX6_granting_64 (by decide) rfl ?_
        refine bs_iload_n (pc' := 67) dX6_granting_66 rfl rfl ?_
        refine bs_imul (pc' := 68) dX6_granting_67 rfl ?_
        refine bs_iload (pc' := 70) dX6_granting_68 rfl rfl ?_
        refine bs_iadd (pc' := 71) dX6_granting_70 rfl ?_
        refine bm_ald (pc' := 72) dX6_granting_71 hA rfl rfl (12 * c + m) (nI_12 c m) (by show _ < 960; omega) rfl ?_
        refine bs_iload_n (pc' := 73) dX6_granting_72 rfl rfl ?_
        refine bs_icmp_ne (tgt := 84) (pc' := 76) dX6_granting_73 rfl rfl (fun c73 => ?_) (fun c73 => ?_)
        · have e : grf (fun k => σ 5 (12 * c + k)) (fun k => σ 6 (12 * c + k)) t w (m + 1) = grf (fun k => σ 5 (12 * c + k)) (fun k => σ 6 (12 * c + k)) t w m := by first | (rw [bI_0] at c78; simp [grf, c78]) | simp [grf, c73]
          rw [e]
          refine bs_iinc (pc' := 87) (lv' := [(0, _), (1, _), (2, _), (3, _), (4, _), (5, _), (6, _)]) dX6_granting_84 rfl rfl rfl rfl rfl ?_
          refine bs_goto (tgt := 10) dX6_granting_87 rfl ?_
          refine bs_sub (lv' := [(0, _), (1, _), (2, _), (3, _), (4, _)]) [0, 1, 2, 3, 4] rfl ?_
          exact ih (by omega) _ (nI_m1 m)
        · refine bs_iload (pc' := 78) dX6_granting_76 rfl rfl ?_
          refine bs_if_eq (tgt := 84) (pc' := 81) dX6_granting_78 rfl rfl (fun c78 => ?_) (fun c78 => ?_)
          · have e : grf (fun k => σ 5 (12 * c + k)) (fun k => σ 6 (12 * c + k)) t w (m + 1) = grf (fun k => σ 5 (12 * c + k)) (fun k => σ 6 (12 * c + k)) t w m := by first | (rw [bI_0] at c78; simp [grf, c78]) | simp [grf, c73]
            rw [e]
            refine bs_iinc (pc' := 87) (lv' := [(0, _), (1, _), (2, _), (3, _), (4, _), (5, _), (6, _)]) dX6_granting_84 rfl rfl rfl rfl rfl ?_
            refine bs_goto (tgt := 10) dX6_granting_87 rfl ?_
            refine bs_sub (lv' := [(0, _), (1, _), (2, _), (3, _), (4, _)]) [0, 1, 2, 3, 4] rfl ?_
            exact ih (by omega) _ (nI_m1 m)
          · refine bs_iload (pc' := 83) dX6_granting_81 rfl rfl ?_
            exact bs_iret dX6_granting_83 rfl ⟨by rw [bI_n0] at c78; simp [grf, oI, c73, c78], rfl⟩
      refine bs_iload (pc' := 12) dX6_granting_10 rfl rfl ?_
      refine bs_if_lt (tgt := 90) (pc' := 15) dX6_granting_12 rfl rfl (fun c12 => absurd c12 (nI_pos (by omega))) (fun _ => ?_)
      refine bs_aload_n (pc' := 16) dX6_granting_15 rfl rfl rfl ?_
      refine bs_getf (pc' := 19) kf_X6_26 dX6_granting_16 mh_y rfl rfl ?_
      refine bs_bipush (v := 12) (pc' := 21) dX6_granting_19 (by decide) rfl ?_
      refine bs_iload_n (pc' := 22) dX6_granting_21 rfl rfl ?_
      refine bs_imul (pc' := 23) dX6_granting_22 rfl ?_
      refine bs_iload (pc' := 25) dX6_granting_23 rfl rfl ?_
      refine bs_iadd (pc' := 26) dX6_granting_25 rfl ?_
      refine bm_ald (pc' := 27) dX6_granting_26 hA rfl rfl (12 * c + m) (nI_12 c m) (by show _ < 960; omega) rfl ?_
      refine bs_istore (pc' := 29) (lv' := [(0, _), (1, _), (2, _), (3, _), (4, _), (5, _)]) dX6_granting_27 rfl rfl rfl ?_
      refine bs_iload_n (pc' := 30) dX6_granting_29 rfl rfl ?_
      refine bs_if_eq (tgt := 47) (pc' := 33) dX6_granting_30 rfl rfl (fun c30 => ?_) (fun c30 => ?_)
      · refine bs_iload (pc' := 49) dX6_granting_47 rfl rfl ?_
        refine bs_iconst (v := 3) (pc' := 50) dX6_granting_49 (by decide) rfl ?_
        refine bs_icmp_eq (tgt := 57) (pc' := 53) dX6_granting_50 rfl rfl (fun c50 => ?_) (fun c50 => ?_)
        · refine bs_iconst (v := 0) (pc' := 58) dX6_granting_57 (by decide) rfl ?_
          exact j58 _ (by cases w <;> first | (exfalso; revert c30; decide) | simp [okp, bI, c36] | simp [okp, bI, c50] | (simp only [okp, bI]; simp; (simp only [Int32.lt_iff_toInt_lt, Int32.le_iff_toInt_le, ← Int32.toInt_inj, Int32.reduceToInt] at *; omega)))
        · refine bs_iconst (v := 1) (pc' := 54) dX6_granting_53 (by decide) rfl ?_
          refine bs_goto (tgt := 58) dX6_granting_54 rfl ?_
          exact j58 _ (by cases w <;> first | (exfalso; revert c30; decide) | simp [okp, bI, c36] | simp [okp, bI, c50] | (simp only [okp, bI]; simp; (simp only [Int32.lt_iff_toInt_lt, Int32.le_iff_toInt_le, ← Int32.toInt_inj, Int32.reduceToInt] at *; omega)))
      · refine bs_iload (pc' := 35) dX6_granting_33 rfl rfl ?_
        refine bs_iconst (v := 2) (pc' := 36) dX6_granting_35 (by decide) rfl ?_
        refine bs_icmp_ge (tgt := 43) (pc' := 39) dX6_granting_36 rfl rfl (fun c36 => ?_) (fun c36 => ?_)
        · refine bs_iconst (v := 0) (pc' := 44) dX6_granting_43 (by decide) rfl ?_
          refine bs_goto (tgt := 58) dX6_granting_44 rfl ?_
          exact j58 _ (by cases w <;> first | (exfalso; revert c30; decide) | simp [okp, bI, c36] | simp [okp, bI, c50] | (simp only [okp, bI]; simp; (simp only [Int32.lt_iff_toInt_lt, Int32.le_iff_toInt_le, ← Int32.toInt_inj, Int32.reduceToInt] at *; omega)))
        · refine bs_iconst (v := 1) (pc' := 40) dX6_granting_39 (by decide) rfl ?_
          refine bs_goto (tgt := 58) dX6_granting_40 rfl ?_
          exact j58 _ (by cases w <;> first | (exfalso; revert c30; decide) | simp [okp, bI, c36] | simp [okp, bI, c50] | (simp only [okp, bI]; simp; (simp only [Int32.lt_iff_toInt_lt, Int32.le_iff_toInt_le, ← Int32.toInt_inj, Int32.reduceToInt] at *; omega)))
  refine bs_aload_n (pc' := 1) dX6_granting_0 rfl rfl rfl ?_
  refine bs_getf (pc' := 4) kf_X6_20 dX6_granting_1 mh_y rfl rfl ?_
  refine bs_iload_n (pc' := 5) dX6_granting_4 rfl rfl ?_
  refine bm_ald (pc' := 6) dX6_granting_5 hA rfl rfl c rfl hc rfl ?_
  refine bs_iconst (v := 1) (pc' := 7) dX6_granting_6 (by decide) rfl ?_
  refine bs_isub (pc' := 8) dX6_granting_7 rfl ?_
  refine bs_istore (pc' := 10) (lv' := [(0, _), (1, _), (2, _), (3, _), (4, _)]) dX6_granting_8 rfl rfl rfl ?_
  exact loop n (Nat.le_refl n) _ (by rw [hsz])
theorem sm_error {code : Int32} (j : Nat) (hj : j < 3) (hc : code = -2 - nI j) (hA : mOk y A) : mSp G h0 y A σ hs mX6_error 0 [.int code] (mQi G h0 y A (ms_u σ 15 j (σ 15 j + (if σ 16 0 = 0 then 1 else 0))) hs code) := by
  have hi : (-2 : Int32) - code = nI j := by
    subst hc
    match j, hj with
    | 0, _ => decide
    | 1, _ => decide
    | 2, _ => decide
  refine bs_Sp.of (by decide) rfl ?_
  have j22 : ∀ z, z = (if σ 16 0 = 0 then (1 : Int32) else 0) → mB G h0 y A σ hs mX6_error 0 22 [(0, .ref y), (1, .int code)] [.int z, .int (σ 15 j), .int ((-2) - code), .ref (A 15)] (mQi G h0 y A (ms_u σ 15 j (σ 15 j + (if σ 16 0 = 0 then 1 else 0))) hs code) := by
    intro z hz
    subst hz
    refine bs_iadd (pc' := 23) dX6_error_22 rfl ?_
    refine bm_ast (pc' := 24) dX6_error_23 hA rfl rfl j hi hj rfl ?_
    refine bs_iload_n (pc' := 25) dX6_error_24 rfl rfl ?_
    exact bs_iret dX6_error_25 rfl ⟨rfl, rfl⟩
  refine bs_aload_n (pc' := 1) dX6_error_0 rfl rfl rfl ?_
  refine bs_getf (pc' := 4) kf_X6_42 dX6_error_1 mh_y rfl rfl ?_
  refine bs_bipush (v := (-2)) (pc' := 6) dX6_error_4 (by decide) rfl ?_
  refine bs_iload_n (pc' := 7) dX6_error_6 rfl rfl ?_
  refine bs_isub (pc' := 8) dX6_error_7 rfl ?_
  refine bs_dup2 (pc' := 9) dX6_error_8 rfl rfl rfl ?_
  refine bm_ald (pc' := 10) dX6_error_9 hA rfl rfl j hi hj rfl ?_
  refine bs_aload_n (pc' := 11) dX6_error_10 rfl rfl rfl ?_
  refine bs_getf (pc' := 14) kf_X6_54 dX6_error_11 mh_y rfl rfl ?_
  refine bs_if_eq (tgt := 21) (pc' := 17) dX6_error_14 rfl rfl (fun c14 => ?_) (fun c14 => ?_)
  · refine bs_iconst (v := 1) (pc' := 22) dX6_error_21 (by decide) rfl ?_
    exact j22 _ (by first | rw [if_pos c14] | rw [if_neg c14])
  · refine bs_iconst (v := 0) (pc' := 18) dX6_error_17 (by decide) rfl ?_
    refine bs_goto (tgt := 22) dX6_error_18 rfl ?_
    exact j22 _ (by first | rw [if_pos c14] | rw [if_neg c14])
theorem sm_violate {kd cell : Int32} (hA : mOk y A) : mSp G h0 y A σ hs mX6_violate 0 [.int kd, .int cell] (mQi G h0 y A (ms_u (ms_u (ms_u σ 12 0 (σ 12 0 + 1)) 13 0 kd) 14 0 cell) hs (-5)) := by
  refine bs_Sp.of (by decide) rfl ?_
  refine bs_aload_n (pc' := 1) dX6_violate_0 rfl rfl rfl ?_
  refine bs_dup (pc' := 2) dX6_violate_1 rfl rfl ?_
  refine bs_getf (pc' := 5) kf_X6_58 dX6_violate_2 mh_y rfl rfl ?_
  refine bs_iconst (v := 1) (pc' := 6) dX6_violate_5 (by decide) rfl ?_
  refine bs_iadd (pc' := 7) dX6_violate_6 rfl ?_
  refine bm_put (pc' := 10) kf_X6_58 dX6_violate_7 rfl rfl rfl rfl ?_
  refine bs_aload_n (pc' := 11) dX6_violate_10 rfl rfl rfl ?_
  refine bs_iload_n (pc' := 12) dX6_violate_11 rfl rfl ?_
  refine bm_put (pc' := 15) kf_X6_61 dX6_violate_12 rfl rfl rfl rfl ?_
  refine bs_aload_n (pc' := 16) dX6_violate_15 rfl rfl rfl ?_
  refine bs_iload_n (pc' := 17) dX6_violate_16 rfl rfl ?_
  refine bm_put (pc' := 20) kf_X6_38 dX6_violate_17 rfl rfl rfl rfl ?_
  refine bs_bipush (v := (-5)) (pc' := 22) dX6_violate_20 (by decide) rfl ?_
  exact bs_iret dX6_violate_22 rfl ⟨rfl, rfl⟩
theorem sm_isPointer {p : Int32} (hI : mInv σ) : mSp G h0 y A σ hs mX6_isPointer 1 [.int p] (mQi G h0 y A σ hs (bI (inb p (zN (σ 8 0))))) := by
  have h1 := hI.nP.1
  refine bs_Sp.of (by decide) rfl ?_
  refine bs_iload_n (pc' := 1) dX6_isPointer_0 rfl rfl ?_
  refine bs_iconst (v := 0) (pc' := 2) dX6_isPointer_1 (by decide) rfl ?_
  refine bs_aload_n (pc' := 3) dX6_isPointer_2 rfl rfl rfl ?_
  refine bs_getf (pc' := 6) kf_X6_64 dX6_isPointer_3 mh_y rfl rfl ?_
  refine bs_iconst (v := 1) (pc' := 7) dX6_isPointer_6 (by decide) rfl ?_
  refine bs_isub (pc' := 8) dX6_isPointer_7 rfl ?_
  refine bs_callS (N := mX6_in) (pc' := 11) dX6_isPointer_8 km_X6_67 ko_X6_in sm_in rfl rfl rfl (by omega) (Nat.le_refl _) (Nat.le_refl _) rfl ?_
  rintro _ _ ⟨rfl, rfl⟩
  exact bs_zret dX6_isPointer_11 rfl (bI_01 _) ⟨by rw [inb, ← h1], rfl⟩
theorem sm_isCell {p c : Int32} (hA : mOk y A) (hI : mInv σ) : mSp G h0 y A σ hs mX6_isCell 2 [.int p, .int c] (mQi G h0 y A σ hs (bI (isC σ p c))) := by
  have h60 := hI.nP.2
  refine bs_Sp.of (by decide) rfl ?_
  refine bs_aload_n (pc' := 1) dX6_isCell_0 rfl rfl rfl ?_
  refine bs_iload_n (pc' := 2) dX6_isCell_1 rfl rfl ?_
  refine bs_callV (N := mX6_isPointer) (pc' := 5) dX6_isCell_2 km_X6_71 ko_X6_isPointer (sm_isPointer hI) mh_y rfl rfl rfl (by omega) (Nat.le_refl _) (Nat.le_refl _) rfl ?_
  rintro _ _ ⟨rfl, rfl⟩
  refine bs_if_eq (tgt := 33) (pc' := 8) dX6_isCell_5 rfl rfl (fun c5 => ?_) (fun c5 => ?_)
  · refine bs_iconst (v := 0) (pc' := 34) dX6_isCell_33 (by decide) rfl ?_
    exact bs_zret dX6_isCell_34 rfl (by decide) ⟨by first | (rw [bI_0] at c5; rw [isC, c5]; rfl) | (have hz : zN (nI j) = j := zN_nI (by have := hI.p60 hj; omega); first | (rw [bI_n0] at c26; rw [isC, c5, hz, inb, ← hcl.1, c26]; rfl) | (rw [bI_0] at c26; rw [isC, c5, hz, inb, ← hcl.1, c26]; rfl)), rfl⟩
  · rw [bI_n0] at c5
    obtain ⟨j, hj, rfl⟩ := inb_t (by omega) c5
    have h10 := hI.ow10 hj
    have hcl := (hI.cl (hI.ow hj).2).1
    refine bs_iload_n (pc' := 9) dX6_isCell_8 rfl rfl ?_
    refine bs_iconst (v := 0) (pc' := 10) dX6_isCell_9 (by decide) rfl ?_
    refine bs_aload_n (pc' := 11) dX6_isCell_10 rfl rfl rfl ?_
    refine bs_getf (pc' := 14) kf_X6_7 dX6_isCell_11 mh_y rfl rfl ?_
    refine bs_aload_n (pc' := 15) dX6_isCell_14 rfl rfl rfl ?_
    refine bs_getf (pc' := 18) kf_X6_32 dX6_isCell_15 mh_y rfl rfl ?_
    refine bs_iload_n (pc' := 19) dX6_isCell_18 rfl rfl ?_
    refine bm_ald (pc' := 20) dX6_isCell_19 hA rfl rfl j rfl (hI.p60 hj) rfl ?_
    refine bm_ald (pc' := 21) dX6_isCell_20 hA rfl rfl (zN (σ 9 j)) (hI.owe hj) h10 rfl ?_
    refine bs_iconst (v := 1) (pc' := 22) dX6_isCell_21 (by decide) rfl ?_
    refine bs_isub (pc' := 23) dX6_isCell_22 rfl ?_
    refine bs_callS (N := mX6_in) (pc' := 26) dX6_isCell_23 km_X6_67 ko_X6_in sm_in rfl rfl rfl (by omega) (Nat.le_refl _) (Nat.le_refl _) rfl ?_
    rintro _ _ ⟨rfl, rfl⟩
    refine bs_if_eq (tgt := 33) (pc' := 29) dX6_isCell_26 rfl rfl (fun c26 => ?_) (fun c26 => ?_)
    · refine bs_iconst (v := 0) (pc' := 34) dX6_isCell_33 (by decide) rfl ?_
      exact bs_zret dX6_isCell_34 rfl (by decide) ⟨by first | (rw [bI_0] at c5; rw [isC, c5]; rfl) | (have hz : zN (nI j) = j := zN_nI (by have := hI.p60 hj; omega); first | (rw [bI_n0] at c26; rw [isC, c5, hz, inb, ← hcl.1, c26]; rfl) | (rw [bI_0] at c26; rw [isC, c5, hz, inb, ← hcl.1, c26]; rfl)), rfl⟩
    · refine bs_iconst (v := 1) (pc' := 30) dX6_isCell_29 (by decide) rfl ?_
      refine bs_goto (tgt := 34) dX6_isCell_30 rfl ?_
      exact bs_zret dX6_isCell_34 rfl (by decide) ⟨by first | (rw [bI_0] at c5; rw [isC, c5]; rfl) | (have hz : zN (nI j) = j := zN_nI (by have := hI.p60 hj; omega); first | (rw [bI_n0] at c26; rw [isC, c5, hz, inb, ← hcl.1, c26]; rfl) | (rw [bI_0] at c26; rw [isC, c5, hz, inb, ← hcl.1, c26]; rfl)), rfl⟩
theorem sm_cellOf {p i : Nat} (hA : mOk y A) (hI : mInv σ) (h : isPc σ p i) : mSp G h0 y A σ hs mX6_cellOf 0 [.int (nI p), .int (nI i)] (mQi G h0 y A σ hs (nI (cO σ p i))) := by
  have h1 := hI.owe h.1
  refine bs_Sp.of (by decide) rfl ?_
  refine bs_bipush (v := 8) (pc' := 2) dX6_cellOf_0 (by decide) rfl ?_
  refine bs_aload_n (pc' := 3) dX6_cellOf_2 rfl rfl rfl ?_
  refine bs_getf (pc' := 6) kf_X6_32 dX6_cellOf_3 mh_y rfl rfl ?_
  refine bs_iload_n (pc' := 7) dX6_cellOf_6 rfl rfl ?_
  refine bm_ald (pc' := 8) dX6_cellOf_7 hA rfl rfl p rfl (hI.p60 h.1) rfl ?_
  refine bs_imul (pc' := 9) dX6_cellOf_8 rfl ?_
  refine bs_iload_n (pc' := 10) dX6_cellOf_9 rfl rfl ?_
  refine bs_iadd (pc' := 11) dX6_cellOf_10 rfl ?_
  exact bs_iret dX6_cellOf_11 rfl ⟨by rw [h1, nI_8]; rfl, rfl⟩
theorem sm_above {c k : Nat} (hA : mOk y A) (hI : mInv σ) (hc : c < 80) (hk : k < zN (σ 4 c)) : mSp G h0 y A σ hs mX6_above 0 [.int (nI c), .int (nI k)] (mQi G h0 y A σ hs (nI (ab σ c k))) := by
  have hn := (hI.sz hc).2
  have hsz := (hI.sz hc).1
  unfold ab
  generalize zN (σ 4 c) = n at hn hsz hk ⊢
  refine bs_Sp.of (by decide) rfl ?_
  have loop : ∀ f j, j + f = n → mB G h0 y A σ hs mX6_above 0 19 [(0, .ref y), (1, .int (nI c)), (2, .int (nI k)), (3, .int (nI j))] [] (mQi G h0 y A σ hs (nI (srw (fun k => σ 6 (12 * c + k)) f j))) := by
    intro f
    induction f with
    | zero =>
      intro j hj
      refine bs_iload_n (pc' := 20) dX6_above_19 rfl rfl ?_
      refine bs_aload_n (pc' := 21) dX6_above_20 rfl rfl rfl ?_
      refine bs_getf (pc' := 24) kf_X6_20 dX6_above_21 mh_y rfl rfl ?_
      refine bs_iload_n (pc' := 25) dX6_above_24 rfl rfl ?_
      refine bm_ald (pc' := 26) dX6_above_25 hA rfl rfl c rfl hc rfl ?_
      refine bs_icmp_ge (tgt := 50) (pc' := 29) dX6_above_26 rfl rfl (fun _ => ?_) (fun c26 => absurd (by rw [hsz]; exact nI_le (by omega) (by omega)) c26)
      refine bs_iload_n (pc' := 51) dX6_above_50 rfl rfl ?_
      exact bs_iret dX6_above_51 rfl ⟨rfl, rfl⟩
    | succ f ih =>
      intro j hj
      refine bs_iload_n (pc' := 20) dX6_above_19 rfl rfl ?_
      refine bs_aload_n (pc' := 21) dX6_above_20 rfl rfl rfl ?_
      refine bs_getf (pc' := 24) kf_X6_20 dX6_above_21 mh_y rfl rfl ?_
      refine bs_iload_n (pc' := 25) dX6_above_24 rfl rfl ?_
      refine bm_ald (pc' := 26) dX6_above_25 hA rfl rfl c rfl hc rfl ?_
      refine bs_icmp_ge (tgt := 50) (pc' := 29) dX6_above_26 rfl rfl (fun c26 => absurd c26 (by rw [hsz]; exact nI_ge (by omega) (by omega))) (fun _ => ?_)
      refine bs_aload_n (pc' := 30) dX6_above_29 rfl rfl rfl ?_
      refine bs_getf (pc' := 33) kf_X6_26 dX6_above_30 mh_y rfl rfl ?_
      refine bs_bipush (v := 12) (pc' := 35) dX6_above_33 (by decide) rfl ?_
      refine bs_iload_n (pc' := 36) dX6_above_35 rfl rfl ?_
      refine bs_imul (pc' := 37) dX6_above_36 rfl ?_
      refine bs_iload_n (pc' := 38) dX6_above_37 rfl rfl ?_
      refine bs_iadd (pc' := 39) dX6_above_38 rfl ?_
      refine bm_ald (pc' := 40) dX6_above_39 hA rfl rfl (12 * c + j) (nI_12 c j) (by show _ < 960; omega) rfl ?_
      refine bs_iconst (v := 1) (pc' := 41) dX6_above_40 (by decide) rfl ?_
      refine bs_icmp_ne (tgt := 50) (pc' := 44) dX6_above_41 rfl rfl (fun c41 => ?_) (fun c41 => ?_)
      · refine bs_iload_n (pc' := 51) dX6_above_50 rfl rfl ?_
        exact bs_iret dX6_above_51 rfl ⟨by simp [srw, c41], rfl⟩
      · refine bs_iinc (pc' := 47) (lv' := [(0, _), (1, _), (2, _), (3, _)]) dX6_above_44 rfl (nI_i1 j) rfl rfl rfl ?_
        refine bs_goto (tgt := 19) dX6_above_47 rfl ?_
        have e : srw (fun k => σ 6 (12 * c + k)) (f + 1) j = srw (fun k => σ 6 (12 * c + k)) f (j + 1) := by simp [srw, c41]
        rw [e]
        exact ih (j + 1) (by omega)
  refine bs_iload_n (pc' := 1) dX6_above_0 rfl rfl ?_
  refine bs_iconst (v := 1) (pc' := 2) dX6_above_1 (by decide) rfl ?_
  refine bs_iadd (pc' := 3) dX6_above_2 rfl ?_
  refine bs_topi (nI (k + 1)) (nI_1 k) ?_
  refine bs_istore_n (pc' := 4) (lv' := [(0, _), (1, _), (2, _), (3, _)]) dX6_above_3 rfl rfl rfl ?_
  refine bs_aload_n (pc' := 5) dX6_above_4 rfl rfl rfl ?_
  refine bs_getf (pc' := 8) kf_X6_26 dX6_above_5 mh_y rfl rfl ?_
  refine bs_bipush (v := 12) (pc' := 10) dX6_above_8 (by decide) rfl ?_
  refine bs_iload_n (pc' := 11) dX6_above_10 rfl rfl ?_
  refine bs_imul (pc' := 12) dX6_above_11 rfl ?_
  refine bs_iload_n (pc' := 13) dX6_above_12 rfl rfl ?_
  refine bs_iadd (pc' := 14) dX6_above_13 rfl ?_
  refine bm_ald (pc' := 15) dX6_above_14 hA rfl rfl (12 * c + k) (nI_12 c k) (by show _ < 960; omega) rfl ?_
  refine bs_iconst (v := 1) (pc' := 16) dX6_above_15 (by decide) rfl ?_
  refine bs_icmp_ne (tgt := 50) (pc' := 19) dX6_above_16 rfl rfl (fun c16 => ?_) (fun c16 => ?_)
  · refine bs_iload_n (pc' := 51) dX6_above_50 rfl rfl ?_
    exact bs_iret dX6_above_51 rfl ⟨by simp [abf, c16], rfl⟩
  · have e : abf (fun k => σ 6 (12 * c + k)) n k = srw (fun k => σ 6 (12 * c + k)) (n - (k + 1)) (k + 1) := by simp [abf, c16]
    rw [e]
    exact loop _ _ (by omega)
end Model1
end
section
/-- the place behind the granting item; 0: none grants -/
def gs (o : Option Nat) : Nat := match o with
  | none => 0
  | some g => g + 1
theorem oI_1 (o : Option Nat) : oI o + 1 = nI (gs o) := by
  cases o with
  | none => decide
  | some g => exact nI_1 g
theorem gs_le {σ : Nat → Nat → Int32} {c : Nat} {t : Int32} {w : Bool} : gs (gr σ c t w) ≤ zN (σ 4 c) := by
  cases h : gr σ c t w with
  | none => exact Nat.zero_le _
  | some g => exact grf_lt h
theorem nI_ne_m1 {k : Nat} (h : k < 2 ^ 31) : ¬ nI k = -1 := by
  intro e
  have h1 := nI_toInt h
  rw [e] at h1
  have : ((-1 : Int32)).toInt = -1 := by decide
  omega
/-- unique items of a stretch of the rows become disabled -/
def dis (σ : Nat → Nat → Int32) (lo hi : Nat) : Nat → Nat → Int32 := fun k i => if k = 6 ∧ lo ≤ i ∧ i < hi ∧ σ 6 i = 0 then 3 else σ k i
theorem dis_0 (σ : Nat → Nat → Int32) (lo : Nat) : dis σ lo lo = σ := by
  funext k i
  unfold dis
  rw [if_neg (by omega)]
theorem dis_n {σ : Nat → Nat → Int32} {lo hi k : Nat} (h : k ≠ 6) : dis σ lo hi k = σ k := by
  funext i
  unfold dis
  rw [if_neg (fun q => h q.1)]
theorem dis_at {σ : Nat → Nat → Int32} {lo hi i : Nat} (h : hi ≤ i) : dis σ lo hi 6 i = σ 6 i := by
  unfold dis
  rw [if_neg (by omega)]
theorem dis_y {σ : Nat → Nat → Int32} {lo hi : Nat} (h : lo ≤ hi) (h6 : σ 6 hi = 0) : ms_u (dis σ lo hi) 6 hi 3 = dis σ lo (hi + 1) := by
  funext k i
  by_cases hk : k = 6
  · subst hk
    rw [ms_u_k]
    unfold upd
    by_cases hi' : i = hi
    · subst hi'
      rw [if_pos rfl]
      unfold dis
      rw [if_pos ⟨rfl, h, by omega, h6⟩]
    · rw [if_neg hi']
      unfold dis
      have e : (6 = 6 ∧ lo ≤ i ∧ i < hi ∧ σ 6 i = 0) ↔ (6 = 6 ∧ lo ≤ i ∧ i < hi + 1 ∧ σ 6 i = 0) := by
        constructor <;> rintro ⟨a, b, c, d⟩ <;> exact ⟨a, b, by omega, d⟩
      exact ite_congr (propext e) (fun _ => rfl) (fun _ => rfl)
  · rw [ms_u_n hk, dis_n hk, dis_n hk]
theorem dis_no {σ : Nat → Nat → Int32} {lo hi : Nat} (h6 : ¬ σ 6 hi = 0) : dis σ lo hi = dis σ lo (hi + 1) := by
  funext k i
  unfold dis
  have e : (k = 6 ∧ lo ≤ i ∧ i < hi ∧ σ 6 i = 0) ↔ (k = 6 ∧ lo ≤ i ∧ i < hi + 1 ∧ σ 6 i = 0) := by
    constructor
    · rintro ⟨a, b, c, d⟩; exact ⟨a, b, by omega, d⟩
    · rintro ⟨a, b, c, d⟩
      refine ⟨a, b, ?_, d⟩
      rcases Nat.lt_or_ge i hi with q | q
      · exact q
      · have : i = hi := by omega
        subst this
        exact absurd d h6
  exact ite_congr (propext e) (fun _ => rfl) (fun _ => rfl)
def dRd (σ : Nat → Nat → Int32) (p i : Nat) : Nat → Nat → Int32 := dis σ (12 * cO σ p i + gs (gr σ (cO σ p i) (nI p) false)) (12 * cO σ p i + zN (σ 4 (cO σ p i)))
def dWr (σ : Nat → Nat → Int32) (p i : Nat) : Nat → Nat → Int32 := match gr σ (cO σ p i) (nI p) true with
  | none => σ
  | some k => ms_u σ 4 (cO σ p i) (nI (ab σ (cO σ p i) k))
/-- in a row, the places from lo + 1 to hi get what stood one below -/
def shf (f : Nat → Int32) (lo hi : Nat) : Nat → Int32 := fun i => if lo < i ∧ i ≤ hi then f (i - 1) else f i
def sh3 (σ : Nat → Nat → Int32) (lo hi : Nat) : Nat → Nat → Int32 := fun k => if k = 5 ∨ k = 6 ∨ k = 7 then shf (σ k) lo hi else σ k
theorem shf_0 (f : Nat → Int32) (hi : Nat) : shf f hi hi = f := by
  funext i
  unfold shf
  rw [if_neg (by omega)]
theorem sh3_0 (σ : Nat → Nat → Int32) (hi : Nat) : sh3 σ hi hi = σ := by
  funext k
  unfold sh3
  split
  · rw [shf_0]
  · rfl
theorem shf_s {f : Nat → Int32} {lo hi : Nat} (h : lo < hi) : upd (shf f (lo + 1) hi) (lo + 1) (f lo) = shf f lo hi := by
  funext i
  unfold upd shf
  by_cases hi' : i = lo + 1
  · subst hi'
    rw [if_pos rfl, if_pos (by omega)]
    rfl
  · rw [if_neg hi']
    have e : (lo + 1 < i ∧ i ≤ hi) ↔ (lo < i ∧ i ≤ hi) := by constructor <;> intro h <;> omega
    simp only [e]
theorem shf_lo {f : Nat → Int32} {lo hi i : Nat} (h : i ≤ lo) : shf f lo hi i = f i := by
  unfold shf
  rw [if_neg (by omega)]
theorem sh3_s {σ : Nat → Nat → Int32} {lo hi : Nat} (h : lo < hi) : ms_u (ms_u (ms_u (sh3 σ (lo + 1) hi) 5 (lo + 1) (σ 5 lo)) 6 (lo + 1) (σ 6 lo)) 7 (lo + 1) (σ 7 lo) = sh3 σ lo hi := by
  funext k
  by_cases h7 : k = 7
  · subst h7
    rw [ms_u_k, ms_u_n (by decide), ms_u_n (by decide)]
    exact shf_s h
  · rw [ms_u_n h7]
    by_cases h6 : k = 6
    · subst h6
      rw [ms_u_k, ms_u_n (by decide)]
      exact shf_s h
    · rw [ms_u_n h6]
      by_cases h5 : k = 5
      · subst h5
        rw [ms_u_k]
        exact shf_s h
      · rw [ms_u_n h5]
        unfold sh3
        rw [if_neg (by omega), if_neg (by omega)]
/-- an item comes into the stack of the cell c at the place p -/
def ins (σ : Nat → Nat → Int32) (c p : Nat) (t q g : Int32) : Nat → Nat → Int32 := ms_u (ms_u (ms_u (ms_u (sh3 σ (12 * c + p) (12 * c + zN (σ 4 c))) 5 (12 * c + p) t) 6 (12 * c + p) q) 7 (12 * c + p) g) 4 c (σ 4 c + 1)
def nwP (σ : Nat → Nat → Int32) (al par : Int32) : Nat → Nat → Int32 := ms_u (ms_u (ms_u σ 9 (zN (σ 8 0)) al) 10 (zN (σ 8 0)) par) 8 0 (σ 8 0 + 1)
end
section
section Model2
variable {G : GG} {h0 : Hp} {y : Nat} {A : Nat → Nat} {σ : MS} {hs : Int64}
theorem sm_isGuarded {c j0 : Nat} {all : Bool} (hA : mOk y A) (hI : mInv σ) (hc : c < 80) (hj0 : j0 ≤ 13) : mSp G h0 y A σ hs mX6_isGuarded 0 [.int (nI c), .int (nI j0), .int (bI all)] (mQi G h0 y A σ hs (bI (gd σ c j0 all))) := by
  have hn := (hI.sz hc).2
  have hsz := (hI.sz hc).1
  unfold gd
  generalize zN (σ 4 c) = n at hn hsz ⊢
  refine bs_Sp.of (by decide) rfl ?_
  have loop : ∀ f j b, f = n - j → j ≤ 13 → mB G h0 y A σ hs mX6_isGuarded 0 6 [(0, .ref y), (1, .int (nI c)), (2, .int (nI j0)), (3, .int (bI all)), (4, .int (bI b)), (5, .int (nI j))] [] (mQi G h0 y A σ hs (bI (b || gdf (fun k => σ 6 (12 * c + k)) (fun k => σ 7 (12 * c + k)) all f j))) := by
    intro f
    induction f with
    | zero =>
      intro j b hj hj13
      refine bs_iload (pc' := 8) dX6_isGuarded_6 rfl rfl ?_
      refine bs_aload_n (pc' := 9) dX6_isGuarded_8 rfl rfl rfl ?_
      refine bs_getf (pc' := 12) kf_X6_20 dX6_isGuarded_9 mh_y rfl rfl ?_
      refine bs_iload_n (pc' := 13) dX6_isGuarded_12 rfl rfl ?_
      refine bm_ald (pc' := 14) dX6_isGuarded_13 hA rfl rfl c rfl hc rfl ?_
      refine bs_icmp_ge (tgt := 81) (pc' := 17) dX6_isGuarded_14 rfl rfl (fun _ => ?_) (fun c14 => absurd (by rw [hsz]; exact nI_le (by omega) (by omega)) c14)
      refine bs_iload (pc' := 83) dX6_isGuarded_81 rfl rfl ?_
      exact bs_zret dX6_isGuarded_83 rfl (bI_01 _) ⟨by simp [gdf], rfl⟩
    | succ f ih =>
      intro j b hj hj13
      have j73 : ∀ z w, z = bI (b || ((all || decide (σ 6 (12 * c + j) = 0)) && decide (0 < σ 7 (12 * c + j)))) → mB G h0 y A σ hs mX6_isGuarded 0 73 [(0, .ref y), (1, .int (nI c)), (2, .int (nI j0)), (3, .int (bI all)), (4, .int (bI b)), (5, .int (nI j)), (6, .int w)] [.int z] (mQi G h0 y A σ hs (bI (b || gdf (fun k => σ 6 (12 * c + k)) (fun k => σ 7 (12 * c + k)) all (f + 1) j))) := by
        intro z w hz
        subst hz
        refine bs_istore (pc' := 75) (lv' := [(0, _), (1, _), (2, _), (3, _), (4, _), (5, _), (6, _)]) dX6_isGuarded_73 rfl rfl rfl ?_
        refine bs_iinc (pc' := 78) (lv' := [(0, _), (1, _), (2, _), (3, _), (4, _), (5, _), (6, _)]) dX6_isGuarded_75 rfl (nI_i1 j) rfl rfl rfl ?_
        refine bs_goto (tgt := 6) dX6_isGuarded_78 rfl ?_
        refine bs_sub (lv' := [(0, _), (1, _), (2, _), (3, _), (4, _), (5, _)]) [0, 1, 2, 3, 4, 5] rfl ?_
        have e := ih (j + 1) (b || ((all || decide (σ 6 (12 * c + j) = 0)) && decide (0 < σ 7 (12 * c + j)))) (by omega) (by omega)
        rw [Bool.or_assoc] at e
        exact e
      have j41 : ∀ z, z = bI (all || decide (σ 6 (12 * c + j) = 0)) → mB G h0 y A σ hs mX6_isGuarded 0 41 [(0, .ref y), (1, .int (nI c)), (2, .int (nI j0)), (3, .int (bI all)), (4, .int (bI b)), (5, .int (nI j))] [.int z] (mQi G h0 y A σ hs (bI (b || gdf (fun k => σ 6 (12 * c + k)) (fun k => σ 7 (12 * c + k)) all (f + 1) j))) := by
        intro z hz
        subst hz
        refine bs_istore (pc' := 43) (lv' := [(0, _), (1, _), (2, _), (3, _), (4, _), (5, _), (6, _)]) dX6_isGuarded_41 rfl rfl rfl ?_
        refine bs_iload (pc' := 45) dX6_isGuarded_43 rfl rfl ?_
        refine bs_if_ne (tgt := 68) (pc' := 48) dX6_isGuarded_45 rfl rfl (fun c45 => ?_) (fun c45 => ?_)
        · refine bs_iconst (v := 1) (pc' := 69) dX6_isGuarded_68 (by decide) rfl ?_
          refine bs_goto (tgt := 73) dX6_isGuarded_69 rfl ?_
          exact j73 _ _ (by first | (rw [bI_n0] at c45; rw [c45]; rfl) | (rw [bI_0] at c45 c50; rw [c45, c50]; rfl) | (rw [bI_0] at c45; rw [bI_n0] at c50; rw [c45, c50, decide_eq_false (Int32.not_lt.mpr c65)]; rfl) | (rw [bI_0] at c45; rw [bI_n0] at c50; rw [c45, c50, decide_eq_true (Int32.not_le.mp c65)]; rfl))
        · refine bs_iload (pc' := 50) dX6_isGuarded_48 rfl rfl ?_
          refine bs_if_eq (tgt := 72) (pc' := 53) dX6_isGuarded_50 rfl rfl (fun c50 => ?_) (fun c50 => ?_)
          · refine bs_iconst (v := 0) (pc' := 73) dX6_isGuarded_72 (by decide) rfl ?_
            exact j73 _ _ (by first | (rw [bI_n0] at c45; rw [c45]; rfl) | (rw [bI_0] at c45 c50; rw [c45, c50]; rfl) | (rw [bI_0] at c45; rw [bI_n0] at c50; rw [c45, c50, decide_eq_false (Int32.not_lt.mpr c65)]; rfl) | (rw [bI_0] at c45; rw [bI_n0] at c50; rw [c45, c50, decide_eq_true (Int32.not_le.mp c65)]; rfl))
          · refine bs_aload_n (pc' := 54) dX6_isGuarded_53 rfl rfl rfl ?_
            refine bs_getf (pc' := 57) kf_X6_29 dX6_isGuarded_54 mh_y rfl rfl ?_
            refine bs_bipush (v := 12) (pc' := 59) dX6_isGuarded_57 (by decide) rfl ?_
            refine bs_iload_n (pc' := 60) dX6_isGuarded_59 rfl rfl ?_
            refine bs_imul (pc' := 61) dX6_isGuarded_60 rfl ?_
            refine bs_iload (pc' := 63) dX6_isGuarded_61 rfl rfl ?_
            refine bs_iadd (pc' := 64) dX6_isGuarded_63 rfl ?_
            refine bm_ald (pc' := 65) dX6_isGuarded_64 hA rfl rfl (12 * c + j) (nI_12 c j) (by show _ < 960; omega) rfl ?_
            refine bs_if_le (tgt := 72) (pc' := 68) dX6_isGuarded_65 rfl rfl (fun c65 => ?_) (fun c65 => ?_)
            · refine bs_iconst (v := 0) (pc' := 73) dX6_isGuarded_72 (by decide) rfl ?_
              exact j73 _ _ (by first | (rw [bI_n0] at c45; rw [c45]; rfl) | (rw [bI_0] at c45 c50; rw [c45, c50]; rfl) | (rw [bI_0] at c45; rw [bI_n0] at c50; rw [c45, c50, decide_eq_false (Int32.not_lt.mpr c65)]; rfl) | (rw [bI_0] at c45; rw [bI_n0] at c50; rw [c45, c50, decide_eq_true (Int32.not_le.mp c65)]; rfl))
            · refine bs_iconst (v := 1) (pc' := 69) dX6_isGuarded_68 (by decide) rfl ?_
              refine bs_goto (tgt := 73) dX6_isGuarded_69 rfl ?_
              exact j73 _ _ (by first | (rw [bI_n0] at c45; rw [c45]; rfl) | (rw [bI_0] at c45 c50; rw [c45, c50]; rfl) | (rw [bI_0] at c45; rw [bI_n0] at c50; rw [c45, c50, decide_eq_false (Int32.not_lt.mpr c65)]; rfl) | (rw [bI_0] at c45; rw [bI_n0] at c50; rw [c45, c50, decide_eq_true (Int32.not_le.mp c65)]; rfl))
      refine bs_iload (pc' := 8) dX6_isGuarded_6 rfl rfl ?_
      refine bs_aload_n (pc' := 9) dX6_isGuarded_8 rfl rfl rfl ?_
      refine bs_getf (pc' := 12) kf_X6_20 dX6_isGuarded_9 mh_y rfl rfl ?_
      refine bs_iload_n (pc' := 13) dX6_isGuarded_12 rfl rfl ?_
      refine bm_ald (pc' := 14) dX6_isGuarded_13 hA rfl rfl c rfl hc rfl ?_
      refine bs_icmp_ge (tgt := 81) (pc' := 17) dX6_isGuarded_14 rfl rfl (fun c14 => absurd c14 (by rw [hsz]; exact nI_ge (by omega) (by omega))) (fun _ => ?_)
      refine bs_iload_n (pc' := 18) dX6_isGuarded_17 rfl rfl ?_
      refine bs_if_ne (tgt := 36) (pc' := 21) dX6_isGuarded_18 rfl rfl (fun c18 => ?_) (fun c18 => ?_)
      · refine bs_iconst (v := 1) (pc' := 37) dX6_isGuarded_36 (by decide) rfl ?_
        refine bs_goto (tgt := 41) dX6_isGuarded_37 rfl ?_
        exact j41 _ (by first | (rw [bI_n0] at c18; simp [c18, bI]; done) | (rw [bI_0] at c18; simp [c18, c33, bI]; done))
      · refine bs_aload_n (pc' := 22) dX6_isGuarded_21 rfl rfl rfl ?_
        refine bs_getf (pc' := 25) kf_X6_26 dX6_isGuarded_22 mh_y rfl rfl ?_
        refine bs_bipush (v := 12) (pc' := 27) dX6_isGuarded_25 (by decide) rfl ?_
        refine bs_iload_n (pc' := 28) dX6_isGuarded_27 rfl rfl ?_
        refine bs_imul (pc' := 29) dX6_isGuarded_28 rfl ?_
        refine bs_iload (pc' := 31) dX6_isGuarded_29 rfl rfl ?_
        refine bs_iadd (pc' := 32) dX6_isGuarded_31 rfl ?_
        refine bm_ald (pc' := 33) dX6_isGuarded_32 hA rfl rfl (12 * c + j) (nI_12 c j) (by show _ < 960; omega) rfl ?_
        refine bs_if_ne (tgt := 40) (pc' := 36) dX6_isGuarded_33 rfl rfl (fun c33 => ?_) (fun c33 => ?_)
        · refine bs_iconst (v := 0) (pc' := 41) dX6_isGuarded_40 (by decide) rfl ?_
          exact j41 _ (by first | (rw [bI_n0] at c18; simp [c18, bI]; done) | (rw [bI_0] at c18; simp [c18, c33, bI]; done))
        · refine bs_iconst (v := 1) (pc' := 37) dX6_isGuarded_36 (by decide) rfl ?_
          refine bs_goto (tgt := 41) dX6_isGuarded_37 rfl ?_
          exact j41 _ (by first | (rw [bI_n0] at c18; simp [c18, bI]; done) | (rw [bI_0] at c18; simp [c18, c33, bI]; done))
  refine bs_iconst (v := 0) (pc' := 1) dX6_isGuarded_0 (by decide) rfl ?_
  refine bs_istore (pc' := 3) (lv' := [(0, _), (1, _), (2, _), (3, _), (4, _)]) dX6_isGuarded_1 rfl rfl rfl ?_
  refine bs_iload_n (pc' := 4) dX6_isGuarded_3 rfl rfl ?_
  refine bs_istore (pc' := 6) (lv' := [(0, _), (1, _), (2, _), (3, _), (4, _), (5, _)]) dX6_isGuarded_4 rfl rfl rfl ?_
  have e := loop (n - j0) j0 false rfl hj0
  exact e
theorem sm_readKind {p i : Nat} (hA : mOk y A) (hI : mInv σ) (h : isPc σ p i) : mSp G h0 y A σ hs mX6_readKind 1 [.int (nI p), .int (nI i)] (mQi G h0 y A σ hs (rdK σ p i)) := by
  have hc := (hI.cell h).2
  have hc : cO σ p i < 80 := hc
  refine bs_Sp.of (by decide) rfl ?_
  have j32 : σ 2 (zN (σ 9 p)) = 0 → mB G h0 y A σ hs mX6_readKind 1 32 [(0, .ref y), (1, .int (nI p)), (2, .int (nI i)), (3, .int (nI (cO σ p i))), (4, .int (oI (gr σ (cO σ p i) (nI p) false)))] [] (mQi G h0 y A σ hs (rdK σ p i)) := by
    intro hf
    cases hg : gr σ (cO σ p i) (nI p) false with
    | none =>
      refine bs_iload (pc' := 34) dX6_readKind_32 rfl rfl ?_
      refine bs_iconst (v := (-1)) (pc' := 35) dX6_readKind_34 (by decide) rfl ?_
      refine bs_icmp_ne (tgt := 42) (pc' := 38) dX6_readKind_35 rfl rfl (fun c35 => absurd (show oI none = -1 from rfl) c35) (fun _ => ?_)
      refine bs_iconst (v := 1) (pc' := 39) dX6_readKind_38 (by decide) rfl ?_
      refine bs_goto (tgt := 60) dX6_readKind_39 rfl ?_
      exact bs_iret dX6_readKind_60 rfl ⟨by simp [rdK, hf, hg], rfl⟩
    | some k =>
      have hk : k < zN (σ 4 (cO σ p i)) := grf_lt hg
      have hn := (hI.sz hc).2
      refine bs_iload (pc' := 34) dX6_readKind_32 rfl rfl ?_
      refine bs_iconst (v := (-1)) (pc' := 35) dX6_readKind_34 (by decide) rfl ?_
      refine bs_icmp_ne (tgt := 42) (pc' := 38) dX6_readKind_35 rfl rfl (fun _ => ?_) (fun c35 => absurd c35 (nI_ne_m1 (k := k) (by omega)))
      refine bs_aload_n (pc' := 43) dX6_readKind_42 rfl rfl rfl ?_
      refine bs_iload_n (pc' := 44) dX6_readKind_43 rfl rfl ?_
      refine bs_iload (pc' := 46) dX6_readKind_44 rfl rfl ?_
      refine bs_iconst (v := 1) (pc' := 47) dX6_readKind_46 (by decide) rfl ?_
      refine bs_iadd (pc' := 48) dX6_readKind_47 rfl ?_
      refine bs_topi (nI (k + 1)) (nI_1 k) ?_
      refine bs_iconst (v := 0) (pc' := 49) dX6_readKind_48 (by decide) rfl ?_
      refine bs_callV (N := mX6_isGuarded) (pc' := 52) dX6_readKind_49 km_X6_83 ko_X6_isGuarded (sm_isGuarded (all := false) hA hI hc (by omega)) mh_y rfl rfl rfl (by omega) (Nat.le_refl _) (Nat.le_refl _) rfl ?_
      rintro _ _ ⟨rfl, rfl⟩
      refine bs_if_eq (tgt := 59) (pc' := 55) dX6_readKind_52 rfl rfl (fun c52 => ?_) (fun c52 => ?_)
      · refine bs_iconst (v := 0) (pc' := 60) dX6_readKind_59 (by decide) rfl ?_
        exact bs_iret dX6_readKind_60 rfl ⟨by first | (rw [bI_0] at c52; simp [rdK, hf, hg, c52]; done) | (rw [bI_n0] at c52; simp [rdK, hf, hg, c52]; done), rfl⟩
      · refine bs_iconst (v := 2) (pc' := 56) dX6_readKind_55 (by decide) rfl ?_
        refine bs_goto (tgt := 60) dX6_readKind_56 rfl ?_
        exact bs_iret dX6_readKind_60 rfl ⟨by first | (rw [bI_0] at c52; simp [rdK, hf, hg, c52]; done) | (rw [bI_n0] at c52; simp [rdK, hf, hg, c52]; done), rfl⟩
  refine bs_aload_n (pc' := 1) dX6_readKind_0 rfl rfl rfl ?_
  refine bs_iload_n (pc' := 2) dX6_readKind_1 rfl rfl ?_
  refine bs_iload_n (pc' := 3) dX6_readKind_2 rfl rfl ?_
  refine bs_callV (N := mX6_cellOf) (pc' := 6) dX6_readKind_3 km_X6_75 ko_X6_cellOf (sm_cellOf hA hI h) mh_y rfl rfl rfl (by omega) (Nat.le_refl _) (Nat.le_refl _) rfl ?_
  rintro _ _ ⟨rfl, rfl⟩
  refine bs_istore_n (pc' := 7) (lv' := [(0, _), (1, _), (2, _), (3, _)]) dX6_readKind_6 rfl rfl rfl ?_
  refine bs_aload_n (pc' := 8) dX6_readKind_7 rfl rfl rfl ?_
  refine bs_getf (pc' := 11) kf_X6_13 dX6_readKind_8 mh_y rfl rfl ?_
  refine bs_aload_n (pc' := 12) dX6_readKind_11 rfl rfl rfl ?_
  refine bs_getf (pc' := 15) kf_X6_32 dX6_readKind_12 mh_y rfl rfl ?_
  refine bs_iload_n (pc' := 16) dX6_readKind_15 rfl rfl ?_
  refine bm_ald (pc' := 17) dX6_readKind_16 hA rfl rfl p rfl (hI.p60 h.1) rfl ?_
  refine bm_zld (pc' := 18) dX6_readKind_17 hA (zN (σ 9 p)) (hI.owe h.1) (hI.ow10 h.1) rfl ?_
  refine bs_if_eq (tgt := 23) (pc' := 21) dX6_readKind_18 rfl rfl (fun c18 => ?_) (fun c18 => ?_)
  · refine bs_aload_n (pc' := 24) dX6_readKind_23 rfl rfl rfl ?_
    refine bs_iload_n (pc' := 25) dX6_readKind_24 rfl rfl ?_
    refine bs_iload_n (pc' := 26) dX6_readKind_25 rfl rfl ?_
    refine bs_iconst (v := 0) (pc' := 27) dX6_readKind_26 (by decide) rfl ?_
    refine bs_callV (N := mX6_granting) (pc' := 30) dX6_readKind_27 km_X6_79 ko_X6_granting (sm_granting (w := false) hA hI hc) mh_y rfl rfl rfl (by omega) (Nat.le_refl _) (Nat.le_refl _) rfl ?_
    rintro _ _ ⟨rfl, rfl⟩
    refine bs_istore (pc' := 32) (lv' := [(0, _), (1, _), (2, _), (3, _), (4, _)]) dX6_readKind_30 rfl rfl rfl ?_
    exact j32 c18
  · refine bs_iconst (v := 3) (pc' := 22) dX6_readKind_21 (by decide) rfl ?_
    exact bs_iret dX6_readKind_22 rfl ⟨by simp [rdK, c18], rfl⟩
theorem sm_writeKind {p i : Nat} (hA : mOk y A) (hI : mInv σ) (h : isPc σ p i) : mSp G h0 y A σ hs mX6_writeKind 1 [.int (nI p), .int (nI i)] (mQi G h0 y A σ hs (wrK σ p i)) := by
  have hc := (hI.cell h).2
  have hc : cO σ p i < 80 := hc
  refine bs_Sp.of (by decide) rfl ?_
  have j32 : σ 2 (zN (σ 9 p)) = 0 → mB G h0 y A σ hs mX6_writeKind 1 32 [(0, .ref y), (1, .int (nI p)), (2, .int (nI i)), (3, .int (nI (cO σ p i))), (4, .int (oI (gr σ (cO σ p i) (nI p) true)))] [] (mQi G h0 y A σ hs (wrK σ p i)) := by
    intro hf
    cases hg : gr σ (cO σ p i) (nI p) true with
    | none =>
      refine bs_iload (pc' := 34) dX6_writeKind_32 rfl rfl ?_
      refine bs_iconst (v := (-1)) (pc' := 35) dX6_writeKind_34 (by decide) rfl ?_
      refine bs_icmp_ne (tgt := 42) (pc' := 38) dX6_writeKind_35 rfl rfl (fun c35 => absurd (show oI none = -1 from rfl) c35) (fun _ => ?_)
      refine bs_iconst (v := 1) (pc' := 39) dX6_writeKind_38 (by decide) rfl ?_
      refine bs_goto (tgt := 63) dX6_writeKind_39 rfl ?_
      exact bs_iret dX6_writeKind_63 rfl ⟨by simp [wrK, hf, hg], rfl⟩
    | some k =>
      have hk : k < zN (σ 4 (cO σ p i)) := grf_lt hg
      have hn := (hI.sz hc).2
      have hab := (abf_le (pm := fun k => σ 6 (12 * cO σ p i + k)) hk).2
      have hab : ab σ (cO σ p i) k ≤ zN (σ 4 (cO σ p i)) := hab
      refine bs_iload (pc' := 34) dX6_writeKind_32 rfl rfl ?_
      refine bs_iconst (v := (-1)) (pc' := 35) dX6_writeKind_34 (by decide) rfl ?_
      refine bs_icmp_ne (tgt := 42) (pc' := 38) dX6_writeKind_35 rfl rfl (fun _ => ?_) (fun c35 => absurd c35 (nI_ne_m1 (k := k) (by omega)))
      refine bs_aload_n (pc' := 43) dX6_writeKind_42 rfl rfl rfl ?_
      refine bs_iload_n (pc' := 44) dX6_writeKind_43 rfl rfl ?_
      refine bs_aload_n (pc' := 45) dX6_writeKind_44 rfl rfl rfl ?_
      refine bs_iload_n (pc' := 46) dX6_writeKind_45 rfl rfl ?_
      refine bs_iload (pc' := 48) dX6_writeKind_46 rfl rfl ?_
      refine bs_callV (N := mX6_above) (pc' := 51) dX6_writeKind_48 km_X6_87 ko_X6_above (sm_above hA hI hc hk) mh_y rfl rfl rfl (by omega) (Nat.le_refl _) (Nat.le_refl _) rfl ?_
      rintro _ _ ⟨rfl, rfl⟩
      refine bs_iconst (v := 1) (pc' := 52) dX6_writeKind_51 (by decide) rfl ?_
      refine bs_callV (N := mX6_isGuarded) (pc' := 55) dX6_writeKind_52 km_X6_83 ko_X6_isGuarded (sm_isGuarded (all := true) hA hI hc (by omega)) mh_y rfl rfl rfl (by omega) (Nat.le_refl _) (Nat.le_refl _) rfl ?_
      rintro _ _ ⟨rfl, rfl⟩
      refine bs_if_eq (tgt := 62) (pc' := 58) dX6_writeKind_55 rfl rfl (fun c55 => ?_) (fun c55 => ?_)
      · refine bs_iconst (v := 0) (pc' := 63) dX6_writeKind_62 (by decide) rfl ?_
        exact bs_iret dX6_writeKind_63 rfl ⟨by first | (rw [bI_0] at c55; simp [wrK, hf, hg, c55]; done) | (rw [bI_n0] at c55; simp [wrK, hf, hg, c55]; done), rfl⟩
      · refine bs_iconst (v := 2) (pc' := 59) dX6_writeKind_58 (by decide) rfl ?_
        refine bs_goto (tgt := 63) dX6_writeKind_59 rfl ?_
        exact bs_iret dX6_writeKind_63 rfl ⟨by first | (rw [bI_0] at c55; simp [wrK, hf, hg, c55]; done) | (rw [bI_n0] at c55; simp [wrK, hf, hg, c55]; done), rfl⟩
  refine bs_aload_n (pc' := 1) dX6_writeKind_0 rfl rfl rfl ?_
  refine bs_iload_n (pc' := 2) dX6_writeKind_1 rfl rfl ?_
  refine bs_iload_n (pc' := 3) dX6_writeKind_2 rfl rfl ?_
  refine bs_callV (N := mX6_cellOf) (pc' := 6) dX6_writeKind_3 km_X6_75 ko_X6_cellOf (sm_cellOf hA hI h) mh_y rfl rfl rfl (by omega) (Nat.le_refl _) (Nat.le_refl _) rfl ?_
  rintro _ _ ⟨rfl, rfl⟩
  refine bs_istore_n (pc' := 7) (lv' := [(0, _), (1, _), (2, _), (3, _)]) dX6_writeKind_6 rfl rfl rfl ?_
  refine bs_aload_n (pc' := 8) dX6_writeKind_7 rfl rfl rfl ?_
  refine bs_getf (pc' := 11) kf_X6_13 dX6_writeKind_8 mh_y rfl rfl ?_
  refine bs_aload_n (pc' := 12) dX6_writeKind_11 rfl rfl rfl ?_
  refine bs_getf (pc' := 15) kf_X6_32 dX6_writeKind_12 mh_y rfl rfl ?_
  refine bs_iload_n (pc' := 16) dX6_writeKind_15 rfl rfl ?_
  refine bm_ald (pc' := 17) dX6_writeKind_16 hA rfl rfl p rfl (hI.p60 h.1) rfl ?_
  refine bm_zld (pc' := 18) dX6_writeKind_17 hA (zN (σ 9 p)) (hI.owe h.1) (hI.ow10 h.1) rfl ?_
  refine bs_if_eq (tgt := 23) (pc' := 21) dX6_writeKind_18 rfl rfl (fun c18 => ?_) (fun c18 => ?_)
  · refine bs_aload_n (pc' := 24) dX6_writeKind_23 rfl rfl rfl ?_
    refine bs_iload_n (pc' := 25) dX6_writeKind_24 rfl rfl ?_
    refine bs_iload_n (pc' := 26) dX6_writeKind_25 rfl rfl ?_
    refine bs_iconst (v := 1) (pc' := 27) dX6_writeKind_26 (by decide) rfl ?_
    refine bs_callV (N := mX6_granting) (pc' := 30) dX6_writeKind_27 km_X6_79 ko_X6_granting (sm_granting (w := true) hA hI hc) mh_y rfl rfl rfl (by omega) (Nat.le_refl _) (Nat.le_refl _) rfl ?_
    rintro _ _ ⟨rfl, rfl⟩
    refine bs_istore (pc' := 32) (lv' := [(0, _), (1, _), (2, _), (3, _), (4, _)]) dX6_writeKind_30 rfl rfl rfl ?_
    exact j32 c18
  · refine bs_iconst (v := 3) (pc' := 22) dX6_writeKind_21 (by decide) rfl ?_
    exact bs_iret dX6_writeKind_22 rfl ⟨by simp [wrK, c18], rfl⟩
theorem sm_rawKind {p i : Nat} (hA : mOk y A) (hI : mInv σ) (h : isPc σ p i) : mSp G h0 y A σ hs mX6_rawKind 1 [.int (nI p), .int (nI i)] (mQi G h0 y A σ hs (rwK σ p i)) := by
  have hc := (hI.cell h).2
  have hc : cO σ p i < 80 := hc
  refine bs_Sp.of (by decide) rfl ?_
  have j28 : σ 2 (zN (σ 9 p)) = 0 → mB G h0 y A σ hs mX6_rawKind 1 28 [(0, .ref y), (1, .int (nI p)), (2, .int (nI i))] [.int (oI (gr σ (cO σ p i) (nI p) true))] (mQi G h0 y A σ hs (rwK σ p i)) := by
    intro hf
    cases hg : gr σ (cO σ p i) (nI p) true with
    | none =>
      refine bs_iconst (v := (-1)) (pc' := 29) dX6_rawKind_28 (by decide) rfl ?_
      refine bs_icmp_ne (tgt := 36) (pc' := 32) dX6_rawKind_29 rfl rfl (fun c29 => absurd (show oI none = -1 from rfl) c29) (fun _ => ?_)
      refine bs_iconst (v := 1) (pc' := 33) dX6_rawKind_32 (by decide) rfl ?_
      refine bs_goto (tgt := 37) dX6_rawKind_33 rfl ?_
      exact bs_iret dX6_rawKind_37 rfl ⟨by simp [rwK, hf, hg], rfl⟩
    | some k =>
      have hk : k < zN (σ 4 (cO σ p i)) := grf_lt hg
      have hn := (hI.sz hc).2
      refine bs_iconst (v := (-1)) (pc' := 29) dX6_rawKind_28 (by decide) rfl ?_
      refine bs_icmp_ne (tgt := 36) (pc' := 32) dX6_rawKind_29 rfl rfl (fun _ => ?_) (fun c29 => absurd c29 (nI_ne_m1 (k := k) (by omega)))
      refine bs_iconst (v := 0) (pc' := 37) dX6_rawKind_36 (by decide) rfl ?_
      exact bs_iret dX6_rawKind_37 rfl ⟨by simp [rwK, hf, hg], rfl⟩
  refine bs_aload_n (pc' := 1) dX6_rawKind_0 rfl rfl rfl ?_
  refine bs_getf (pc' := 4) kf_X6_13 dX6_rawKind_1 mh_y rfl rfl ?_
  refine bs_aload_n (pc' := 5) dX6_rawKind_4 rfl rfl rfl ?_
  refine bs_getf (pc' := 8) kf_X6_32 dX6_rawKind_5 mh_y rfl rfl ?_
  refine bs_iload_n (pc' := 9) dX6_rawKind_8 rfl rfl ?_
  refine bm_ald (pc' := 10) dX6_rawKind_9 hA rfl rfl p rfl (hI.p60 h.1) rfl ?_
  refine bm_zld (pc' := 11) dX6_rawKind_10 hA (zN (σ 9 p)) (hI.owe h.1) (hI.ow10 h.1) rfl ?_
  refine bs_if_eq (tgt := 16) (pc' := 14) dX6_rawKind_11 rfl rfl (fun c11 => ?_) (fun c11 => ?_)
  · refine bs_aload_n (pc' := 17) dX6_rawKind_16 rfl rfl rfl ?_
    refine bs_aload_n (pc' := 18) dX6_rawKind_17 rfl rfl rfl ?_
    refine bs_iload_n (pc' := 19) dX6_rawKind_18 rfl rfl ?_
    refine bs_iload_n (pc' := 20) dX6_rawKind_19 rfl rfl ?_
    refine bs_callV (N := mX6_cellOf) (pc' := 23) dX6_rawKind_20 km_X6_75 ko_X6_cellOf (sm_cellOf hA hI h) mh_y rfl rfl rfl (by omega) (Nat.le_refl _) (Nat.le_refl _) rfl ?_
    rintro _ _ ⟨rfl, rfl⟩
    refine bs_iload_n (pc' := 24) dX6_rawKind_23 rfl rfl ?_
    refine bs_iconst (v := 1) (pc' := 25) dX6_rawKind_24 (by decide) rfl ?_
    refine bs_callV (N := mX6_granting) (pc' := 28) dX6_rawKind_25 km_X6_79 ko_X6_granting (sm_granting (w := true) hA hI hc) mh_y rfl rfl rfl (by omega) (Nat.le_refl _) (Nat.le_refl _) rfl ?_
    rintro _ _ ⟨rfl, rfl⟩
    exact j28 c11
  · refine bs_iconst (v := 3) (pc' := 15) dX6_rawKind_14 (by decide) rfl ?_
    exact bs_iret dX6_rawKind_15 rfl ⟨by simp [rwK, c11], rfl⟩
theorem sm_freeKind {p i : Nat} (hA : mOk y A) (hI : mInv σ) (h : isPc σ p i) : mSp G h0 y A σ hs mX6_freeKind 2 [.int (nI p), .int (nI i)] (mQi G h0 y A σ hs (frK σ p i)) := by
  have hc := (hI.cell h).2
  have hc : cO σ p i < 80 := hc
  refine bs_Sp.of (by decide) rfl ?_
  refine bs_aload_n (pc' := 1) dX6_freeKind_0 rfl rfl rfl ?_
  refine bs_iload_n (pc' := 2) dX6_freeKind_1 rfl rfl ?_
  refine bs_iload_n (pc' := 3) dX6_freeKind_2 rfl rfl ?_
  refine bs_callV (N := mX6_writeKind) (pc' := 6) dX6_freeKind_3 km_X6_90 ko_X6_writeKind (sm_writeKind hA hI h) mh_y rfl rfl rfl (by omega) (Nat.le_refl _) (Nat.le_refl _) rfl ?_
  rintro _ _ ⟨rfl, rfl⟩
  refine bs_istore_n (pc' := 7) (lv' := [(0, _), (1, _), (2, _), (3, _)]) dX6_freeKind_6 rfl rfl rfl ?_
  refine bs_iload_n (pc' := 8) dX6_freeKind_7 rfl rfl ?_
  refine bs_if_eq (tgt := 15) (pc' := 11) dX6_freeKind_8 rfl rfl (fun c8 => ?_) (fun c8 => ?_)
  · refine bs_aload_n (pc' := 16) dX6_freeKind_15 rfl rfl rfl ?_
    refine bs_aload_n (pc' := 17) dX6_freeKind_16 rfl rfl rfl ?_
    refine bs_iload_n (pc' := 18) dX6_freeKind_17 rfl rfl ?_
    refine bs_iload_n (pc' := 19) dX6_freeKind_18 rfl rfl ?_
    refine bs_callV (N := mX6_cellOf) (pc' := 22) dX6_freeKind_19 km_X6_75 ko_X6_cellOf (sm_cellOf hA hI h) mh_y rfl rfl rfl (by omega) (Nat.le_refl _) (Nat.le_refl _) rfl ?_
    rintro _ _ ⟨rfl, rfl⟩
    refine bs_iconst (v := 0) (pc' := 23) dX6_freeKind_22 (by decide) rfl ?_
    refine bs_iconst (v := 1) (pc' := 24) dX6_freeKind_23 (by decide) rfl ?_
    refine bs_callV (N := mX6_isGuarded) (pc' := 27) dX6_freeKind_24 km_X6_83 ko_X6_isGuarded (sm_isGuarded (j0 := 0) (all := true) hA hI hc (by omega)) mh_y rfl rfl rfl (by omega) (Nat.le_refl _) (Nat.le_refl _) rfl ?_
    rintro _ _ ⟨rfl, rfl⟩
    refine bs_if_eq (tgt := 34) (pc' := 30) dX6_freeKind_27 rfl rfl (fun c27 => ?_) (fun c27 => ?_)
    · refine bs_iconst (v := 0) (pc' := 35) dX6_freeKind_34 (by decide) rfl ?_
      exact bs_iret dX6_freeKind_35 rfl ⟨by first | (simp [frK, c8]; done) | (rw [bI_0] at c27; simp [frK, c8, c27]; done) | (rw [bI_n0] at c27; simp [frK, c8, c27]; done), rfl⟩
    · refine bs_iconst (v := 2) (pc' := 31) dX6_freeKind_30 (by decide) rfl ?_
      refine bs_goto (tgt := 35) dX6_freeKind_31 rfl ?_
      exact bs_iret dX6_freeKind_35 rfl ⟨by first | (simp [frK, c8]; done) | (rw [bI_0] at c27; simp [frK, c8, c27]; done) | (rw [bI_n0] at c27; simp [frK, c8, c27]; done), rfl⟩
  · refine bs_iload_n (pc' := 12) dX6_freeKind_11 rfl rfl ?_
    refine bs_goto (tgt := 35) dX6_freeKind_12 rfl ?_
    exact bs_iret dX6_freeKind_35 rfl ⟨by first | (simp [frK, c8]; done) | (rw [bI_0] at c27; simp [frK, c8, c27]; done) | (rw [bI_n0] at c27; simp [frK, c8, c27]; done), rfl⟩
theorem sm_doRead {p i : Nat} (hA : mOk y A) (hI : mInv σ) (h : isPc σ p i) : mSp G h0 y A σ hs mX6_doRead 1 [.int (nI p), .int (nI i)] (mQv G h0 y A (dRd σ p i) hs) := by
  have hc := (hI.cell h).2
  have hc : cO σ p i < 80 := hc
  have hn := (hI.sz hc).2
  have hsz := (hI.sz hc).1
  have hg := gs_le (σ := σ) (c := cO σ p i) (t := nI p) (w := false)
  unfold dRd
  refine bs_Sp.of (by decide) rfl ?_
  have loop : ∀ f j, j + f = zN (σ 4 (cO σ p i)) → gs (gr σ (cO σ p i) (nI p) false) ≤ j → mB G h0 y A (dis σ (12 * cO σ p i + gs (gr σ (cO σ p i) (nI p) false)) (12 * cO σ p i + j)) hs mX6_doRead 1 18 [(0, .ref y), (1, .int (nI p)), (2, .int (nI i)), (3, .int (nI (cO σ p i))), (4, .int (nI j))] [] (mQv G h0 y A (dis σ (12 * cO σ p i + gs (gr σ (cO σ p i) (nI p) false)) (12 * cO σ p i + zN (σ 4 (cO σ p i)))) hs) := by
    intro f
    generalize hlo : 12 * cO σ p i + gs (gr σ (cO σ p i) (nI p) false) = lo
    induction f with
    | zero =>
      intro j hj hgj
      refine bs_iload (pc' := 20) dX6_doRead_18 rfl rfl ?_
      refine bs_aload_n (pc' := 21) dX6_doRead_20 rfl rfl rfl ?_
      refine bs_getf (pc' := 24) kf_X6_20 dX6_doRead_21 mh_y rfl rfl ?_
      refine bs_iload_n (pc' := 25) dX6_doRead_24 rfl rfl ?_
      refine bm_ald (pc' := 26) dX6_doRead_25 hA rfl rfl (cO σ p i) rfl hc rfl ?_
      refine bs_icmp_ge (tgt := 63) (pc' := 29) dX6_doRead_26 rfl rfl (fun _ => ?_) (fun c26 => absurd (by rw [dis_n (by decide), hsz]; exact nI_le (by omega) (by omega)) c26)
      exact bs_vret dX6_doRead_63 rfl ⟨rfl, by rw [show j = zN (σ 4 (cO σ p i)) by omega]⟩
    | succ f ih =>
      intro j hj hgj
      have e6 : dis σ lo (12 * cO σ p i + j) 6 (12 * cO σ p i + j) = σ 6 (12 * cO σ p i + j) := dis_at (Nat.le_refl _)
      refine bs_iload (pc' := 20) dX6_doRead_18 rfl rfl ?_
      refine bs_aload_n (pc' := 21) dX6_doRead_20 rfl rfl rfl ?_
      refine bs_getf (pc' := 24) kf_X6_20 dX6_doRead_21 mh_y rfl rfl ?_
      refine bs_iload_n (pc' := 25) dX6_doRead_24 rfl rfl ?_
      refine bm_ald (pc' := 26) dX6_doRead_25 hA rfl rfl (cO σ p i) rfl hc rfl ?_
      refine bs_icmp_ge (tgt := 63) (pc' := 29) dX6_doRead_26 rfl rfl (fun c26 => absurd c26 (by rw [dis_n (by decide), hsz]; exact nI_ge (by omega) (by omega))) (fun _ => ?_)
      refine bs_aload_n (pc' := 30) dX6_doRead_29 rfl rfl rfl ?_
      refine bs_getf (pc' := 33) kf_X6_26 dX6_doRead_30 mh_y rfl rfl ?_
      refine bs_bipush (v := 12) (pc' := 35) dX6_doRead_33 (by decide) rfl ?_
      refine bs_iload_n (pc' := 36) dX6_doRead_35 rfl rfl ?_
      refine bs_imul (pc' := 37) dX6_doRead_36 rfl ?_
      refine bs_iload (pc' := 39) dX6_doRead_37 rfl rfl ?_
      refine bs_iadd (pc' := 40) dX6_doRead_39 rfl ?_
      refine bm_ald (pc' := 41) dX6_doRead_40 hA rfl rfl (12 * cO σ p i + j) (nI_12 _ j) (by show _ < 960; omega) rfl ?_
      refine bs_if_ne (tgt := 57) (pc' := 44) dX6_doRead_41 rfl rfl (fun c41 => ?_) (fun c41 => ?_)
      · rw [e6] at c41
        first | rw [dis_no c41] | rw [dis_y (by omega) c41]
        refine bs_iinc (pc' := 60) (lv' := [(0, _), (1, _), (2, _), (3, _), (4, _)]) dX6_doRead_57 rfl (nI_i1 j) rfl rfl rfl ?_
        refine bs_goto (tgt := 18) dX6_doRead_60 rfl ?_
        exact ih (j + 1) (by omega) (by omega)
      · refine bs_aload_n (pc' := 45) dX6_doRead_44 rfl rfl rfl ?_
        refine bs_getf (pc' := 48) kf_X6_26 dX6_doRead_45 mh_y rfl rfl ?_
        refine bs_bipush (v := 12) (pc' := 50) dX6_doRead_48 (by decide) rfl ?_
        refine bs_iload_n (pc' := 51) dX6_doRead_50 rfl rfl ?_
        refine bs_imul (pc' := 52) dX6_doRead_51 rfl ?_
        refine bs_iload (pc' := 54) dX6_doRead_52 rfl rfl ?_
        refine bs_iadd (pc' := 55) dX6_doRead_54 rfl ?_
        refine bs_iconst (v := 3) (pc' := 56) dX6_doRead_55 (by decide) rfl ?_
        refine bm_ast (pc' := 57) dX6_doRead_56 hA rfl rfl (12 * cO σ p i + j) (nI_12 _ j) (by show _ < 960; omega) rfl ?_
        rw [e6] at c41
        first | rw [dis_no c41] | rw [dis_y (by omega) c41]
        refine bs_iinc (pc' := 60) (lv' := [(0, _), (1, _), (2, _), (3, _), (4, _)]) dX6_doRead_57 rfl (nI_i1 j) rfl rfl rfl ?_
        refine bs_goto (tgt := 18) dX6_doRead_60 rfl ?_
        exact ih (j + 1) (by omega) (by omega)
  refine bs_aload_n (pc' := 1) dX6_doRead_0 rfl rfl rfl ?_
  refine bs_iload_n (pc' := 2) dX6_doRead_1 rfl rfl ?_
  refine bs_iload_n (pc' := 3) dX6_doRead_2 rfl rfl ?_
  refine bs_callV (N := mX6_cellOf) (pc' := 6) dX6_doRead_3 km_X6_75 ko_X6_cellOf (sm_cellOf hA hI h) mh_y rfl rfl rfl (by omega) (Nat.le_refl _) (Nat.le_refl _) rfl ?_
  rintro _ _ ⟨rfl, rfl⟩
  refine bs_istore_n (pc' := 7) (lv' := [(0, _), (1, _), (2, _), (3, _)]) dX6_doRead_6 rfl rfl rfl ?_
  refine bs_aload_n (pc' := 8) dX6_doRead_7 rfl rfl rfl ?_
  refine bs_iload_n (pc' := 9) dX6_doRead_8 rfl rfl ?_
  refine bs_iload_n (pc' := 10) dX6_doRead_9 rfl rfl ?_
  refine bs_iconst (v := 0) (pc' := 11) dX6_doRead_10 (by decide) rfl ?_
  refine bs_callV (N := mX6_granting) (pc' := 14) dX6_doRead_11 km_X6_79 ko_X6_granting (sm_granting (w := false) hA hI hc) mh_y rfl rfl rfl (by omega) (Nat.le_refl _) (Nat.le_refl _) rfl ?_
  rintro _ _ ⟨rfl, rfl⟩
  refine bs_iconst (v := 1) (pc' := 15) dX6_doRead_14 (by decide) rfl ?_
  refine bs_iadd (pc' := 16) dX6_doRead_15 rfl ?_
  refine bs_topi _ (oI_1 _) ?_
  refine bs_istore (pc' := 18) (lv' := [(0, _), (1, _), (2, _), (3, _), (4, _)]) dX6_doRead_16 rfl rfl rfl ?_
  have e := loop (zN (σ 4 (cO σ p i)) - gs (gr σ (cO σ p i) (nI p) false)) _ (by omega) (Nat.le_refl _)
  rw [dis_0] at e
  exact e
theorem sm_doWrite {p i k : Nat} (hA : mOk y A) (hI : mInv σ) (h : isPc σ p i) (hg : gr σ (cO σ p i) (nI p) true = some k) : mSp G h0 y A σ hs mX6_doWrite 1 [.int (nI p), .int (nI i)] (mQv G h0 y A (dWr σ p i) hs) := by
  have hc := (hI.cell h).2
  have hc : cO σ p i < 80 := hc
  have hk : k < zN (σ 4 (cO σ p i)) := grf_lt hg
  have e : dWr σ p i = ms_u σ 4 (cO σ p i) (nI (ab σ (cO σ p i) k)) := by unfold dWr; rw [hg]
  rw [e]
  refine bs_Sp.of (by decide) rfl ?_
  refine bs_aload_n (pc' := 1) dX6_doWrite_0 rfl rfl rfl ?_
  refine bs_iload_n (pc' := 2) dX6_doWrite_1 rfl rfl ?_
  refine bs_iload_n (pc' := 3) dX6_doWrite_2 rfl rfl ?_
  refine bs_callV (N := mX6_cellOf) (pc' := 6) dX6_doWrite_3 km_X6_75 ko_X6_cellOf (sm_cellOf hA hI h) mh_y rfl rfl rfl (by omega) (Nat.le_refl _) (Nat.le_refl _) rfl ?_
  rintro _ _ ⟨rfl, rfl⟩
  refine bs_istore_n (pc' := 7) (lv' := [(0, _), (1, _), (2, _), (3, _)]) dX6_doWrite_6 rfl rfl rfl ?_
  refine bs_aload_n (pc' := 8) dX6_doWrite_7 rfl rfl rfl ?_
  refine bs_getf (pc' := 11) kf_X6_20 dX6_doWrite_8 mh_y rfl rfl ?_
  refine bs_iload_n (pc' := 12) dX6_doWrite_11 rfl rfl ?_
  refine bs_aload_n (pc' := 13) dX6_doWrite_12 rfl rfl rfl ?_
  refine bs_iload_n (pc' := 14) dX6_doWrite_13 rfl rfl ?_
  refine bs_aload_n (pc' := 15) dX6_doWrite_14 rfl rfl rfl ?_
  refine bs_iload_n (pc' := 16) dX6_doWrite_15 rfl rfl ?_
  refine bs_iload_n (pc' := 17) dX6_doWrite_16 rfl rfl ?_
  refine bs_iconst (v := 1) (pc' := 18) dX6_doWrite_17 (by decide) rfl ?_
  refine bs_callV (N := mX6_granting) (pc' := 21) dX6_doWrite_18 km_X6_79 ko_X6_granting (sm_granting (w := true) hA hI hc) mh_y rfl rfl rfl (by omega) (Nat.le_refl _) (Nat.le_refl _) rfl ?_
  rintro _ _ ⟨rfl, rfl⟩
  rw [hg]
  refine bs_callV (N := mX6_above) (pc' := 24) dX6_doWrite_21 km_X6_87 ko_X6_above (sm_above hA hI hc hk) mh_y rfl rfl rfl (by omega) (Nat.le_refl _) (Nat.le_refl _) rfl ?_
  rintro _ _ ⟨rfl, rfl⟩
  refine bm_ast (pc' := 25) dX6_doWrite_24 hA rfl rfl (cO σ p i) rfl hc rfl ?_
  exact bs_vret dX6_doWrite_25 rfl ⟨rfl, rfl⟩
theorem sm_newPointer {al par : Int32} (hA : mOk y A) (e : σ 8 0 = nI (zN (σ 8 0))) (h : zN (σ 8 0) < 60) : mSp G h0 y A σ hs mX6_newPointer 0 [.int al, .int par] (mQi G h0 y A (nwP σ al par) hs (σ 8 0)) := by
  refine bs_Sp.of (by decide) rfl ?_
  refine bs_aload_n (pc' := 1) dX6_newPointer_0 rfl rfl rfl ?_
  refine bs_getf (pc' := 4) kf_X6_32 dX6_newPointer_1 mh_y rfl rfl ?_
  refine bs_aload_n (pc' := 5) dX6_newPointer_4 rfl rfl rfl ?_
  refine bs_getf (pc' := 8) kf_X6_64 dX6_newPointer_5 mh_y rfl rfl ?_
  refine bs_iload_n (pc' := 9) dX6_newPointer_8 rfl rfl ?_
  refine bm_ast (pc' := 10) dX6_newPointer_9 hA rfl rfl (zN (σ 8 0)) e h rfl ?_
  refine bs_aload_n (pc' := 11) dX6_newPointer_10 rfl rfl rfl ?_
  refine bs_getf (pc' := 14) kf_X6_35 dX6_newPointer_11 mh_y rfl rfl ?_
  refine bs_aload_n (pc' := 15) dX6_newPointer_14 rfl rfl rfl ?_
  refine bs_getf (pc' := 18) kf_X6_64 dX6_newPointer_15 mh_y rfl rfl ?_
  refine bs_iload_n (pc' := 19) dX6_newPointer_18 rfl rfl ?_
  refine bm_ast (pc' := 20) dX6_newPointer_19 hA rfl rfl (zN (σ 8 0)) e h rfl ?_
  refine bs_aload_n (pc' := 21) dX6_newPointer_20 rfl rfl rfl ?_
  refine bs_dup (pc' := 22) dX6_newPointer_21 rfl rfl ?_
  refine bs_getf (pc' := 25) kf_X6_64 dX6_newPointer_22 mh_y rfl rfl ?_
  refine bs_iconst (v := 1) (pc' := 26) dX6_newPointer_25 (by decide) rfl ?_
  refine bs_iadd (pc' := 27) dX6_newPointer_26 rfl ?_
  refine bm_put (pc' := 30) kf_X6_64 dX6_newPointer_27 rfl rfl rfl rfl ?_
  refine bs_aload_n (pc' := 31) dX6_newPointer_30 rfl rfl rfl ?_
  refine bs_getf (pc' := 34) kf_X6_64 dX6_newPointer_31 mh_y rfl rfl ?_
  refine bs_iconst (v := 1) (pc' := 35) dX6_newPointer_34 (by decide) rfl ?_
  refine bs_isub (pc' := 36) dX6_newPointer_35 rfl ?_
  exact bs_iret dX6_newPointer_36 rfl ⟨by show some (Value.int (σ 8 0 + 1 - 1)) = _; rw [Int32.add_sub_cancel], rfl⟩
theorem sm_insert {c pl : Nat} {t q g : Int32} (hA : mOk y A) (hc : c < 80) (hsz : σ 4 c = nI (zN (σ 4 c))) (hn : zN (σ 4 c) < 12) (hp : pl ≤ zN (σ 4 c)) : mSp G h0 y A σ hs mX6_insert 0 [.int (nI c), .int (nI pl), .int t, .int q, .int g] (mQv G h0 y A (ins σ c pl t q g) hs) := by
  unfold ins
  generalize hN : zN (σ 4 c) = n at hn hp hsz ⊢
  refine bs_Sp.of (by decide) rfl ?_
  have loop : ∀ f j, j = pl + f → j ≤ n → mB G h0 y A (sh3 σ (12 * c + j) (12 * c + n)) hs mX6_insert 0 13 [(0, .ref y), (1, .int (nI c)), (2, .int (nI pl)), (3, .int t), (4, .int q), (5, .int g), (6, .int (nI (12 * c + j)))] [] (mQv G h0 y A (ms_u (ms_u (ms_u (ms_u (sh3 σ (12 * c + pl) (12 * c + n)) 5 (12 * c + pl) t) 6 (12 * c + pl) q) 7 (12 * c + pl) g) 4 c (σ 4 c + 1)) hs) := by
    intro f
    induction f with
    | zero =>
      intro j hj hjn
      have hj' : j = pl := by omega
      subst hj'
      refine bs_iload (pc' := 15) dX6_insert_13 rfl rfl ?_
      refine bs_bipush (v := 12) (pc' := 17) dX6_insert_15 (by decide) rfl ?_
      refine bs_iload_n (pc' := 18) dX6_insert_17 rfl rfl ?_
      refine bs_imul (pc' := 19) dX6_insert_18 rfl ?_
      refine bs_iload_n (pc' := 20) dX6_insert_19 rfl rfl ?_
      refine bs_iadd (pc' := 21) dX6_insert_20 rfl ?_
      refine bs_icmp_le (tgt := 78) (pc' := 24) dX6_insert_21 rfl rfl (fun _ => ?_) (fun c21 => absurd (by rw [nI_12]; exact nI_le (Nat.le_refl _) (by omega)) c21)
      refine bs_aload_n (pc' := 79) dX6_insert_78 rfl rfl rfl ?_
      refine bs_getf (pc' := 82) kf_X6_23 dX6_insert_79 mh_y rfl rfl ?_
      refine bs_bipush (v := 12) (pc' := 84) dX6_insert_82 (by decide) rfl ?_
      refine bs_iload_n (pc' := 85) dX6_insert_84 rfl rfl ?_
      refine bs_imul (pc' := 86) dX6_insert_85 rfl ?_
      refine bs_iload_n (pc' := 87) dX6_insert_86 rfl rfl ?_
      refine bs_iadd (pc' := 88) dX6_insert_87 rfl ?_
      refine bs_iload_n (pc' := 89) dX6_insert_88 rfl rfl ?_
      refine bm_ast (pc' := 90) dX6_insert_89 hA rfl rfl (12 * c + j) (nI_12 c j) (by show _ < 960; omega) rfl ?_
      refine bs_aload_n (pc' := 91) dX6_insert_90 rfl rfl rfl ?_
      refine bs_getf (pc' := 94) kf_X6_26 dX6_insert_91 mh_y rfl rfl ?_
      refine bs_bipush (v := 12) (pc' := 96) dX6_insert_94 (by decide) rfl ?_
      refine bs_iload_n (pc' := 97) dX6_insert_96 rfl rfl ?_
      refine bs_imul (pc' := 98) dX6_insert_97 rfl ?_
      refine bs_iload_n (pc' := 99) dX6_insert_98 rfl rfl ?_
      refine bs_iadd (pc' := 100) dX6_insert_99 rfl ?_
      refine bs_iload (pc' := 102) dX6_insert_100 rfl rfl ?_
      refine bm_ast (pc' := 103) dX6_insert_102 hA rfl rfl (12 * c + j) (nI_12 c j) (by show _ < 960; omega) rfl ?_
      refine bs_aload_n (pc' := 104) dX6_insert_103 rfl rfl rfl ?_
      refine bs_getf (pc' := 107) kf_X6_29 dX6_insert_104 mh_y rfl rfl ?_
      refine bs_bipush (v := 12) (pc' := 109) dX6_insert_107 (by decide) rfl ?_
      refine bs_iload_n (pc' := 110) dX6_insert_109 rfl rfl ?_
      refine bs_imul (pc' := 111) dX6_insert_110 rfl ?_
      refine bs_iload_n (pc' := 112) dX6_insert_111 rfl rfl ?_
      refine bs_iadd (pc' := 113) dX6_insert_112 rfl ?_
      refine bs_iload (pc' := 115) dX6_insert_113 rfl rfl ?_
      refine bm_ast (pc' := 116) dX6_insert_115 hA rfl rfl (12 * c + j) (nI_12 c j) (by show _ < 960; omega) rfl ?_
      refine bs_aload_n (pc' := 117) dX6_insert_116 rfl rfl rfl ?_
      refine bs_getf (pc' := 120) kf_X6_20 dX6_insert_117 mh_y rfl rfl ?_
      refine bs_iload_n (pc' := 121) dX6_insert_120 rfl rfl ?_
      refine bs_dup2 (pc' := 122) dX6_insert_121 rfl rfl rfl ?_
      refine bm_ald (pc' := 123) dX6_insert_122 hA rfl rfl c rfl hc rfl ?_
      refine bs_iconst (v := 1) (pc' := 124) dX6_insert_123 (by decide) rfl ?_
      refine bs_iadd (pc' := 125) dX6_insert_124 rfl ?_
      refine bm_ast (pc' := 126) dX6_insert_125 hA rfl rfl c rfl hc rfl ?_
      exact bs_vret dX6_insert_126 rfl ⟨rfl, rfl⟩
    | succ f ih =>
      intro j hj hjn
      obtain ⟨j', rfl⟩ : ∃ j', j = j' + 1 := ⟨j - 1, by omega⟩
      have e5 : ∀ k, k = 5 ∨ k = 6 ∨ k = 7 → sh3 σ (12 * c + (j' + 1)) (12 * c + n) k (12 * c + j') = σ k (12 * c + j') := fun k hk => by
        unfold sh3
        rw [if_pos hk]
        exact shf_lo (by omega)
      have ei : nI (12 * c + (j' + 1)) - 1 = nI (12 * c + j') := nI_pred (12 * c + j')
      refine bs_iload (pc' := 15) dX6_insert_13 rfl rfl ?_
      refine bs_bipush (v := 12) (pc' := 17) dX6_insert_15 (by decide) rfl ?_
      refine bs_iload_n (pc' := 18) dX6_insert_17 rfl rfl ?_
      refine bs_imul (pc' := 19) dX6_insert_18 rfl ?_
      refine bs_iload_n (pc' := 20) dX6_insert_19 rfl rfl ?_
      refine bs_iadd (pc' := 21) dX6_insert_20 rfl ?_
      refine bs_icmp_le (tgt := 78) (pc' := 24) dX6_insert_21 rfl rfl (fun c21 => absurd c21 (by rw [nI_12]; exact nI_ge (by omega) (by omega))) (fun _ => ?_)
      refine bs_aload_n (pc' := 25) dX6_insert_24 rfl rfl rfl ?_
      refine bs_getf (pc' := 28) kf_X6_23 dX6_insert_25 mh_y rfl rfl ?_
      refine bs_iload (pc' := 30) dX6_insert_28 rfl rfl ?_
      refine bs_aload_n (pc' := 31) dX6_insert_30 rfl rfl rfl ?_
      refine bs_getf (pc' := 34) kf_X6_23 dX6_insert_31 mh_y rfl rfl ?_
      refine bs_iload (pc' := 36) dX6_insert_34 rfl rfl ?_
      refine bs_iconst (v := 1) (pc' := 37) dX6_insert_36 (by decide) rfl ?_
      refine bs_isub (pc' := 38) dX6_insert_37 rfl ?_
      refine bm_ald (pc' := 39) dX6_insert_38 hA rfl rfl (12 * c + j') ei (by show _ < 960; omega) rfl ?_
      refine bm_ast (pc' := 40) dX6_insert_39 hA rfl rfl (12 * c + (j' + 1)) rfl (by show _ < 960; omega) rfl ?_
      refine bs_aload_n (pc' := 41) dX6_insert_40 rfl rfl rfl ?_
      refine bs_getf (pc' := 44) kf_X6_26 dX6_insert_41 mh_y rfl rfl ?_
      refine bs_iload (pc' := 46) dX6_insert_44 rfl rfl ?_
      refine bs_aload_n (pc' := 47) dX6_insert_46 rfl rfl rfl ?_
      refine bs_getf (pc' := 50) kf_X6_26 dX6_insert_47 mh_y rfl rfl ?_
      refine bs_iload (pc' := 52) dX6_insert_50 rfl rfl ?_
      refine bs_iconst (v := 1) (pc' := 53) dX6_insert_52 (by decide) rfl ?_
      refine bs_isub (pc' := 54) dX6_insert_53 rfl ?_
      refine bm_ald (pc' := 55) dX6_insert_54 hA rfl rfl (12 * c + j') ei (by show _ < 960; omega) rfl ?_
      refine bm_ast (pc' := 56) dX6_insert_55 hA rfl rfl (12 * c + (j' + 1)) rfl (by show _ < 960; omega) rfl ?_
      refine bs_aload_n (pc' := 57) dX6_insert_56 rfl rfl rfl ?_
      refine bs_getf (pc' := 60) kf_X6_29 dX6_insert_57 mh_y rfl rfl ?_
      refine bs_iload (pc' := 62) dX6_insert_60 rfl rfl ?_
      refine bs_aload_n (pc' := 63) dX6_insert_62 rfl rfl rfl ?_
      refine bs_getf (pc' := 66) kf_X6_29 dX6_insert_63 mh_y rfl rfl ?_
      refine bs_iload (pc' := 68) dX6_insert_66 rfl rfl ?_
      refine bs_iconst (v := 1) (pc' := 69) dX6_insert_68 (by decide) rfl ?_
      refine bs_isub (pc' := 70) dX6_insert_69 rfl ?_
      refine bm_ald (pc' := 71) dX6_insert_70 hA rfl rfl (12 * c + j') ei (by show _ < 960; omega) rfl ?_
      refine bm_ast (pc' := 72) dX6_insert_71 hA rfl rfl (12 * c + (j' + 1)) rfl (by show _ < 960; omega) rfl ?_
      refine bs_iinc (pc' := 75) (lv' := [(0, _), (1, _), (2, _), (3, _), (4, _), (5, _), (6, _)]) dX6_insert_72 rfl ((nI_m1 _).trans ei) rfl rfl rfl ?_
      refine bs_goto (tgt := 13) dX6_insert_75 rfl ?_
      have e := ih j' (by omega) (by omega)
      have e3 := sh3_s (σ := σ) (lo := 12 * c + j') (hi := 12 * c + n) (by omega)
      rw [← e3] at e
      have e4 : ms_u (ms_u (ms_u (sh3 σ (12 * c + (j' + 1)) (12 * c + n)) 5 (12 * c + (j' + 1)) (sh3 σ (12 * c + (j' + 1)) (12 * c + n) 5 (12 * c + j'))) 6 (12 * c + (j' + 1)) (sh3 σ (12 * c + (j' + 1)) (12 * c + n) 6 (12 * c + j'))) 7 (12 * c + (j' + 1)) (sh3 σ (12 * c + (j' + 1)) (12 * c + n) 7 (12 * c + j')) = ms_u (ms_u (ms_u (sh3 σ (12 * c + j' + 1) (12 * c + n)) 5 (12 * c + j' + 1) (σ 5 (12 * c + j'))) 6 (12 * c + j' + 1) (σ 6 (12 * c + j'))) 7 (12 * c + j' + 1) (σ 7 (12 * c + j')) := by
        rw [e5 5 (by decide), e5 6 (by decide), e5 7 (by decide)]
        rfl
      rw [← e4] at e
      exact e
  refine bs_bipush (v := 12) (pc' := 2) dX6_insert_0 (by decide) rfl ?_
  refine bs_iload_n (pc' := 3) dX6_insert_2 rfl rfl ?_
  refine bs_imul (pc' := 4) dX6_insert_3 rfl ?_
  refine bs_aload_n (pc' := 5) dX6_insert_4 rfl rfl rfl ?_
  refine bs_getf (pc' := 8) kf_X6_20 dX6_insert_5 mh_y rfl rfl ?_
  refine bs_iload_n (pc' := 9) dX6_insert_8 rfl rfl ?_
  refine bm_ald (pc' := 10) dX6_insert_9 hA rfl rfl c rfl hc rfl ?_
  refine bs_iadd (pc' := 11) dX6_insert_10 rfl ?_
  refine bs_topi (nI (12 * c + n)) (by rw [hsz, nI_12]) ?_
  refine bs_istore (pc' := 13) (lv' := [(0, _), (1, _), (2, _), (3, _), (4, _), (5, _), (6, _)]) dX6_insert_11 rfl rfl rfl ?_
  have e := loop (n - pl) n (by omega) (Nat.le_refl _)
  rw [sh3_0] at e
  exact e
end Model2
end
section
/-! what each call answers and leaves, over the reference's state -/
def err (σ : MS) (j : Nat) : MS := ms_u σ 15 j (σ 15 j + (if σ 16 0 = 0 then 1 else 0))
def vio (σ : MS) (kd c : Int32) : MS := ms_u (ms_u (ms_u σ 12 0 (σ 12 0 + 1)) 13 0 kd) 14 0 c
def s_read (σ : MS) (p c : Int32) : Int32 × MS := if isC σ p c = true then (if rdK σ (zN p) (zN c) = 0 then (σ 3 (cO σ (zN p) (zN c)), dRd σ (zN p) (zN c)) else (-5, vio σ (rdK σ (zN p) (zN c)) c)) else (-2, err σ 0)
def s_write (σ : MS) (p c v : Int32) : Int32 × MS := if isC σ p c = true ∧ 0 ≤ v ∧ v ≤ 99 then (if wrK σ (zN p) (zN c) = 0 then (σ 3 (cO σ (zN p) (zN c)), ms_u (dWr σ (zN p) (zN c)) 3 (cO σ (zN p) (zN c)) v) else (-5, vio σ (wrK σ (zN p) (zN c)) c)) else (-2, err σ 0)
/-- the lowest m cells of an allocation get their first item -/
def inl (σ : MS) (a : Nat) (p : Int32) : Nat → MS
  | 0 => σ
  | i + 1 => ins (inl σ a p i) (8 * a + i) 0 p 0 0
def alc (σ : MS) (m : Int32) : MS := inl (nwP (ms_u (ms_u σ 0 0 (σ 0 0 + 1)) 1 (zN (σ 0 0)) m) (σ 0 0) (-1)) (zN (σ 0 0)) (σ 8 0) (zN m)
def s_alloc (σ : MS) (m : Int32) : Int32 × MS := if 1 ≤ m ∧ m ≤ 8 then (if σ 0 0 = 10 ∨ σ 8 0 = 60 then (-4, err σ 2) else (σ 8 0, alc σ m)) else (-2, err σ 0)
def rbK (σ : MS) (p : Nat) (kd : Int32) (i : Nat) : Int32 := if kd = 0 then wrK σ p i else if kd = 1 then rdK σ p i else rwK σ p i
/-- the first of f cells from i on that isn't 0 -/
def fsV (K : Nat → Int32) : Nat → Nat → Option Nat
  | 0, _ => none
  | f + 1, i => if K i = 0 then fsV K f (i + 1) else some i
theorem fsV_lt {K : Nat → Int32} : ∀ {f i j : Nat}, fsV K f i = some j → i ≤ j ∧ j < i + f ∧ ¬ K j = 0
  | 0, i, j, h => by cases h
  | f + 1, i, j, h => by
    unfold fsV at h
    split at h
    · have := fsV_lt (f := f) h; exact ⟨by omega, by omega, this.2.2⟩
    · next hk => cases h; exact ⟨by omega, by omega, hk⟩
theorem fsV_none {K : Nat → Int32} : ∀ {f i : Nat}, fsV K f i = none → ∀ j, i ≤ j → j < i + f → K j = 0
  | 0, i, _, j, h1, h2 => by omega
  | f + 1, i, h, j, h1, h2 => by
    unfold fsV at h
    split at h
    · next hk =>
      by_cases e : j = i
      · rw [e]; exact hk
      · exact fsV_none (f := f) h j (by omega) (by omega)
    · cases h
/-- how many items a stack would have -/
def szB (σ : MS) (p : Nat) (kd : Int32) (i : Nat) : Nat := 1 + (if kd = 0 then (match gr σ (cO σ p i) (nI p) true with | none => 0 | some k => ab σ (cO σ p i) k) else zN (σ 4 (cO σ p i)))
def fit (σ : MS) (p : Nat) (kd : Int32) : Nat → Nat → Bool
  | 0, _ => true
  | f + 1, i => decide (szB σ p kd i ≤ 12) && fit σ p kd f (i + 1)
theorem fit_all {σ : MS} {p : Nat} {kd : Int32} : ∀ {f i : Nat}, fit σ p kd f i = true → ∀ j, i ≤ j → j < i + f → szB σ p kd j ≤ 12
  | 0, i, _, j, h1, h2 => by omega
  | f + 1, i, h, j, h1, h2 => by
    unfold fit at h
    rw [Bool.and_eq_true, decide_eq_true_eq] at h
    by_cases e : j = i
    · rw [e]; exact h.1
    · exact fit_all (f := f) h.2 j (by omega) (by omega)
def pt (σ : MS) (p : Nat) (kd : Int32) (i : Nat) (g : Int32) : MS := if kd = 0 then ins (dWr σ p i) (cO σ p i) (zN ((dWr σ p i) 4 (cO σ p i))) (σ 8 0) 0 g else if kd = 1 then ins (dRd σ p i) (cO σ p i) (zN (σ 4 (cO σ p i))) (σ 8 0) 2 g else ins σ (cO σ p i) (match gr σ (cO σ p i) (nI p) true with | none => 0 | some k => ab σ (cO σ p i) k) (σ 8 0) 1 g
def pts (σ : MS) (p : Nat) (kd g : Int32) : Nat → Nat → MS
  | 0, _ => σ
  | f + 1, i => pts (pt σ p kd i g) p kd g f (i + 1)
def s_reb (σ : MS) (p kd fr ct pr : Int32) : Int32 × MS :=
  if isC σ p fr = true ∧ (0 ≤ kd ∧ kd ≤ 2) ∧ (0 ≤ pr ∧ pr ≤ 1) ∧ (1 ≤ ct ∧ ct ≤ σ 1 (zN (σ 9 (zN p))) - fr) then
    (if pr = 1 ∧ σ 11 0 = 0 then (-3, err σ 1) else match fsV (rbK σ (zN p) kd) (zN ct) (zN fr) with
      | some i => (-5, vio σ (rbK σ (zN p) kd i) (nI i))
      | none => if σ 8 0 < 60 ∧ fit σ (zN p) kd (zN ct) (zN fr) = true then (σ 8 0, nwP (pts σ (zN p) kd (if pr = 1 then σ 11 0 else 0) (zN ct) (zN fr)) (σ 9 (zN p)) p) else (-4, err σ 2))
  else (-2, err σ 0)
def s_free (σ : MS) (p : Int32) : Int32 × MS := if inb p (zN (σ 8 0)) = true then (match fsV (frK σ (zN p)) (zN (σ 1 (zN (σ 9 (zN p))))) 0 with
    | some i => (-5, vio σ (frK σ (zN p) i) (nI i))
    | none => (σ 1 (zN (σ 9 (zN p))), ms_u σ 2 (zN (σ 9 (zN p))) 1)) else (-2, err σ 0)
def s_enter (σ : MS) : Int32 × MS := if σ 11 0 = 5 then (-4, err σ 2) else (σ 11 0 + 1, ms_u σ 11 0 (σ 11 0 + 1))
def clr (σ : MS) (n : Nat) : MS := fun k i => if k = 7 ∧ i < n ∧ σ 7 i = σ 11 0 then 0 else σ k i
theorem clr_0 (σ : MS) : clr σ 0 = σ := by
  funext k i
  unfold clr
  rw [if_neg (by omega)]
theorem clr_n {σ : MS} {n k : Nat} (h : k ≠ 7) : clr σ n k = σ k := by
  funext i
  unfold clr
  rw [if_neg (fun q => h q.1)]
theorem clr_at {σ : MS} {n i : Nat} (h : n ≤ i) : clr σ n 7 i = σ 7 i := by
  unfold clr
  rw [if_neg (by omega)]
theorem clr_s {σ : MS} {n : Nat} : ms_u (clr σ n) 7 n (if σ 7 n = σ 11 0 then 0 else σ 7 n) = clr σ (n + 1) := by
  funext k i
  by_cases hk : k = 7
  · subst hk
    rw [ms_u_k]
    unfold upd
    by_cases hi : i = n
    · subst hi
      rw [if_pos rfl]
      unfold clr
      by_cases hd : σ 7 i = σ 11 0
      · rw [if_pos hd, if_pos ⟨rfl, by omega, hd⟩]
      · rw [if_neg hd, if_neg (fun q => hd q.2.2)]
    · rw [if_neg hi]
      unfold clr
      have e : (7 = 7 ∧ i < n ∧ σ 7 i = σ 11 0) ↔ (7 = 7 ∧ i < n + 1 ∧ σ 7 i = σ 11 0) := by
        constructor <;> rintro ⟨a, b, c⟩ <;> exact ⟨a, by omega, c⟩
      exact ite_congr (propext e) (fun _ => rfl) (fun _ => rfl)
  · rw [ms_u_n hk, clr_n hk, clr_n hk]
def s_leave (σ : MS) : Int32 × MS := if σ 11 0 = 0 then (-3, err σ 1) else (σ 11 0 - 1, ms_u (clr σ 960) 11 0 (σ 11 0 - 1))
/-! the rows stay as they must be -/
theorem mInv_of {σ σ' : MS} (h : mInv σ) (e : ∀ k, k = 0 ∨ k = 1 ∨ k = 4 ∨ k = 8 ∨ k = 9 ∨ k = 11 ∨ k = 18 → σ' k = σ k) : mInv σ' := by
  unfold mInv
  rw [e 0 (by decide), e 1 (by decide), e 4 (by decide), e 8 (by decide), e 9 (by decide), e 11 (by decide), e 18 (by decide)]
  exact h
theorem mInv_u {σ : MS} {k i : Nat} {x : Int32} (h : mInv σ) (hk : ¬ (k = 0 ∨ k = 1 ∨ k = 4 ∨ k = 8 ∨ k = 9 ∨ k = 11 ∨ k = 18)) : mInv (ms_u σ k i x) := mInv_of h (fun j hj => ms_u_n (fun e => hk (e ▸ hj)))
theorem mInv_err {σ : MS} {j : Nat} (h : mInv σ) : mInv (err σ j) := mInv_u h (by decide)
theorem mInv_vio {σ : MS} {a b : Int32} (h : mInv σ) : mInv (vio σ a b) := mInv_u (mInv_u (mInv_u h (by decide)) (by decide)) (by decide)
theorem mInv_dRd {σ : MS} {p i : Nat} (h : mInv σ) : mInv (dRd σ p i) := mInv_of h (fun j hj => dis_n (by omega))
theorem mInv_4 {σ : MS} {c : Nat} {x : Int32} (h : mInv σ) (hx : nn x 12) (hc : c < 8 * zN (σ 0 0)) : mInv (ms_u σ 4 c x) := by
  obtain ⟨h1, h2, h3, h4, h5, h6, h7, h8⟩ := h
  unfold mInv
  rw [ms_u_n (k' := 0) (by decide), ms_u_n (k' := 1) (by decide), ms_u_n (k' := 8) (by decide), ms_u_n (k' := 9) (by decide), ms_u_n (k' := 11) (by decide), ms_u_n (k' := 18) (by decide), ms_u_k]
  refine ⟨h1, h2, h3, h4, h5, h6, fun c' hc' => ?_, fun c' h1' hc' => ?_⟩
  · unfold upd
    split
    · exact hx
    · exact h7 c' hc'
  · unfold upd
    rw [if_neg (by omega)]
    exact h8 c' h1' hc'
theorem mInv.c8 {σ : MS} (h : mInv σ) {p i : Nat} (hp : isPc σ p i) : cO σ p i < 8 * zN (σ 0 0) := by
  have h1 := (h.ow hp.1).2
  have h2 := (h.cell hp).1
  unfold cO
  omega
theorem mInv_dWr {σ : MS} {p i : Nat} (h : mInv σ) (hp : isPc σ p i) : mInv (dWr σ p i) := by
  unfold dWr
  split
  · exact h
  · next k hg =>
    have hn := (h.sz (h.cell hp).2).2
    have := (abf_le (pm := fun k => σ 6 (12 * cO σ p i + k)) (grf_lt hg)).2
    have hn : zN (σ 4 (cO σ p i)) ≤ 12 := hn
    exact mInv_4 h (nn_nI (Nat.le_trans this hn) (by decide)) (h.c8 hp)
theorem ins_n {σ : MS} {c p : Nat} {t q g : Int32} {k : Nat} (h : ¬ (k = 4 ∨ k = 5 ∨ k = 6 ∨ k = 7)) : ins σ c p t q g k = σ k := by
  unfold ins
  rw [ms_u_n (by omega), ms_u_n (by omega), ms_u_n (by omega), ms_u_n (by omega)]
  unfold sh3
  rw [if_neg (by omega)]
theorem ins_4 {σ : MS} {c p : Nat} {t q g : Int32} : ins σ c p t q g 4 = upd (σ 4) c (σ 4 c + 1) := by
  unfold ins
  rw [ms_u_k, ms_u_n (by decide), ms_u_n (by decide), ms_u_n (by decide)]
  unfold sh3
  rw [if_neg (by decide)]
theorem mInv_ins {σ : MS} {c p : Nat} {t q g : Int32} (h : mInv σ) (hs : zN (σ 4 c) < 12) (hc : c < 8 * zN (σ 0 0)) : mInv (ins σ c p t q g) := by
  have h8 : c < 80 := by have := h.nA.2; omega
  have e : σ 4 c + 1 = nI (zN (σ 4 c) + 1) := by
    have := (h.sz h8).1
    rw [this, nI_1, ← this]
  have := mInv_4 (c := c) (x := σ 4 c + 1) h (by rw [e]; exact nn_nI (by omega) (by decide)) hc
  refine mInv_of this (fun k hk => ?_)
  by_cases h4 : k = 4
  · subst h4
    rw [ins_4, ms_u_k]
  · rw [ins_n (by omega), ms_u_n h4]
/-- two states alike at the stack of a cell -/
def eqC (σ τ : MS) (c : Nat) : Prop := τ 4 c = σ 4 c ∧ ∀ k, k < 12 → τ 5 (12 * c + k) = σ 5 (12 * c + k) ∧ τ 6 (12 * c + k) = σ 6 (12 * c + k) ∧ τ 7 (12 * c + k) = σ 7 (12 * c + k)
theorem eqC.refl (σ : MS) (c : Nat) : eqC σ σ c := ⟨rfl, fun _ _ => ⟨rfl, rfl, rfl⟩⟩
theorem eqC.trans {σ τ υ : MS} {c : Nat} (h1 : eqC σ τ c) (h2 : eqC τ υ c) : eqC σ υ c := ⟨h2.1.trans h1.1, fun k hk => ⟨(h2.2 k hk).1.trans (h1.2 k hk).1, (h2.2 k hk).2.1.trans (h1.2 k hk).2.1, (h2.2 k hk).2.2.trans (h1.2 k hk).2.2⟩⟩
theorem grf_cong {tg tg' pm pm' : Nat → Int32} {t : Int32} {w : Bool} : ∀ {n : Nat}, (∀ k, k < n → tg' k = tg k ∧ pm' k = pm k) → grf tg' pm' t w n = grf tg pm t w n
  | 0, _ => rfl
  | n + 1, h => by
    unfold grf
    rw [(h n (by omega)).1, (h n (by omega)).2, grf_cong (n := n) (fun k hk => h k (by omega))]
theorem srw_cong {pm pm' : Nat → Int32} : ∀ {f j : Nat}, (∀ k, j ≤ k → k < j + f → pm' k = pm k) → srw pm' f j = srw pm f j
  | 0, _, _ => rfl
  | f + 1, j, h => by
    unfold srw
    rw [h j (by omega) (by omega), srw_cong (f := f) (fun k h1 h2 => h k (by omega) (by omega))]
theorem abf_cong {pm pm' : Nat → Int32} {n j : Nat} (hj : j < n) (h : ∀ k, k < n → pm' k = pm k) : abf pm' n j = abf pm n j := by
  unfold abf
  rw [h j hj, srw_cong (fun k h1 h2 => h k (by omega))]
theorem gdf_cong {pm pm' gd gd' : Nat → Int32} {all : Bool} : ∀ {f j : Nat}, (∀ k, j ≤ k → k < j + f → pm' k = pm k ∧ gd' k = gd k) → gdf pm' gd' all f j = gdf pm gd all f j
  | 0, _, _ => rfl
  | f + 1, j, h => by
    unfold gdf
    rw [(h j (by omega) (by omega)).1, (h j (by omega) (by omega)).2, gdf_cong (f := f) (fun k h1 h2 => h k (by omega) (by omega))]
theorem gr_cong {σ τ : MS} {c : Nat} {t : Int32} {w : Bool} (h : eqC σ τ c) (hn : zN (σ 4 c) ≤ 12) : gr τ c t w = gr σ c t w := by
  unfold gr
  rw [h.1]
  exact grf_cong (fun k hk => ⟨(h.2 k (by omega)).1, (h.2 k (by omega)).2.1⟩)
theorem ab_cong {σ τ : MS} {c j : Nat} (h : eqC σ τ c) (hn : zN (σ 4 c) ≤ 12) (hj : j < zN (σ 4 c)) : ab τ c j = ab σ c j := by
  unfold ab
  rw [h.1]
  exact abf_cong hj (fun k hk => (h.2 k (by omega)).2.1)
theorem dis_eqC {σ : MS} {lo hi c c' : Nat} (h1 : 12 * c ≤ lo) (h2 : hi ≤ 12 * c + 12) (hc : c' ≠ c) : eqC σ (dis σ lo hi) c' := by
  refine ⟨by rw [dis_n (by decide)], fun k hk => ⟨by rw [dis_n (by decide)], ?_, by rw [dis_n (by decide)]⟩⟩
  unfold dis
  rw [if_neg (by omega)]
theorem u4_eqC {σ : MS} {c c' : Nat} {x : Int32} (hc : c' ≠ c) : eqC σ (ms_u σ 4 c x) c' := by
  refine ⟨by rw [ms_u_k]; exact if_neg hc, fun k hk => ⟨by rw [ms_u_n (by decide)], by rw [ms_u_n (by decide)], by rw [ms_u_n (by decide)]⟩⟩
theorem ins_far {σ : MS} {c p : Nat} {t q g : Int32} {c' k j : Nat} (hj : j = 5 ∨ j = 6 ∨ j = 7) (hn : zN (σ 4 c) < 12) (hp : p ≤ zN (σ 4 c)) (hc : c' ≠ c) (hk : k < 12) : ins σ c p t q g j (12 * c' + k) = σ j (12 * c' + k) := by
  have hne : 12 * c' + k ≠ 12 * c + p := by omega
  unfold ins
  rw [ms_u_n (by omega)]
  have key : sh3 σ (12 * c + p) (12 * c + zN (σ 4 c)) j (12 * c' + k) = σ j (12 * c' + k) := by
    unfold sh3
    rw [if_pos hj]
    unfold shf
    rw [if_neg (by omega)]
  by_cases h7 : j = 7
  · subst h7
    rw [ms_u_k]
    unfold upd
    rw [if_neg hne, ms_u_n (by decide), ms_u_n (by decide)]
    exact key
  · rw [ms_u_n h7]
    by_cases h6 : j = 6
    · subst h6
      rw [ms_u_k]
      unfold upd
      rw [if_neg hne, ms_u_n (by decide)]
      exact key
    · rw [ms_u_n h6]
      have h5 : j = 5 := by omega
      subst h5
      rw [ms_u_k]
      unfold upd
      rw [if_neg hne]
      exact key
theorem ins_eqC {σ : MS} {c p : Nat} {t q g : Int32} {c' : Nat} (hn : zN (σ 4 c) < 12) (hp : p ≤ zN (σ 4 c)) (hc : c' ≠ c) : eqC σ (ins σ c p t q g) c' := by
  refine ⟨by rw [ins_4]; exact if_neg hc, fun k hk => ⟨ins_far (by decide) hn hp hc hk, ins_far (by decide) hn hp hc hk, ins_far (by decide) hn hp hc hk⟩⟩
end
section
theorem isPc_of {σ τ : MS} {p i : Nat} (h : isPc σ p i) (e8 : τ 8 = σ 8) (e9 : τ 9 = σ 9) (e1 : τ 1 = σ 1) : isPc τ p i := by
  unfold isPc
  rw [e8, e9, e1]
  exact h
theorem cO_of {σ τ : MS} {p i : Nat} (e9 : τ 9 = σ 9) : cO τ p i = cO σ p i := by
  unfold cO
  rw [e9]
theorem dRd_n {σ : MS} {p i k : Nat} (h : k ≠ 6) : dRd σ p i k = σ k := dis_n h
theorem dWr_n {σ : MS} {p i k : Nat} (h : k ≠ 4) : dWr σ p i k = σ k := by
  unfold dWr
  cases gr σ (cO σ p i) (nI p) true with
  | none => rfl
  | some j => exact ms_u_n h
theorem dWr_4 {σ : MS} {p i k : Nat} (h : gr σ (cO σ p i) (nI p) true = some k) : dWr σ p i 4 (cO σ p i) = nI (ab σ (cO σ p i) k) := by
  unfold dWr
  rw [h]
  show ms_u σ 4 _ _ 4 _ = _
  rw [ms_u_k]
  exact if_pos rfl
/-- what a put leaves -/
theorem pt_ok {σ : MS} {p i : Nat} {kd g : Int32} (hI : mInv σ) (h : isPc σ p i) (hg : ¬ kd = 1 → ∃ k, gr σ (cO σ p i) (nI p) true = some k) (hs : szB σ p kd i ≤ 12) :
    mInv (pt σ p kd i g) ∧ (∀ k, ¬ (k = 4 ∨ k = 5 ∨ k = 6 ∨ k = 7) → pt σ p kd i g k = σ k) ∧ ∀ c, c ≠ cO σ p i → eqC σ (pt σ p kd i g) c := by
  have hc : cO σ p i < 80 := (hI.cell h).2
  have hn := hI.sz hc
  have hn12 := hn.2
  have h8 := hI.c8 h
  unfold pt
  by_cases k0 : kd = 0
  · rw [if_pos k0]
    obtain ⟨k, hg⟩ := hg (by rw [k0]; decide)
    have hab : ab σ (cO σ p i) k ≤ _ := (abf_le (pm := fun k => σ 6 (12 * cO σ p i + k)) (grf_lt hg)).2
    have hz : zN (dWr σ p i 4 (cO σ p i)) = ab σ (cO σ p i) k := by rw [dWr_4 hg]; exact zN_nI (by omega)
    have hlt : zN (dWr σ p i 4 (cO σ p i)) < 12 := by
      rw [hz]
      rw [szB, if_pos k0, hg] at hs
      exact Nat.lt_of_succ_le (by rw [Nat.add_comm] at hs; exact hs)
    refine ⟨mInv_ins (mInv_dWr hI h) hlt (by rw [dWr_n (by decide)]; exact h8), fun k hk => ?_, fun c hc' => ?_⟩
    · rw [ins_n hk, dWr_n (by omega)]
    · refine eqC.trans (τ := dWr σ p i) ?_ (ins_eqC hlt (Nat.le_refl _) hc')
      unfold dWr
      rw [hg]
      exact u4_eqC hc'
  · rw [if_neg k0]
    have hs' : zN (σ 4 (cO σ p i)) < 12 := by rw [szB, if_neg k0] at hs; omega
    by_cases k1 : kd = 1
    · rw [if_pos k1]
      have e4 : dRd σ p i 4 = σ 4 := dRd_n (by decide)
      refine ⟨mInv_ins (mInv_dRd hI) (by rw [e4]; exact hs') (by rw [dRd_n (by decide)]; exact h8), fun k hk => ?_, fun c hc' => ?_⟩
      · rw [ins_n hk, dRd_n (by omega)]
      · refine eqC.trans (τ := dRd σ p i) (dis_eqC (by omega) (by omega) hc') (ins_eqC (by rw [e4]; exact hs') (by rw [e4]; exact Nat.le_refl _) hc')
    · rw [if_neg k1]
      obtain ⟨k, hg⟩ := hg k1
      rw [hg]
      have hab : ab σ (cO σ p i) k ≤ _ := (abf_le (pm := fun k => σ 6 (12 * cO σ p i + k)) (grf_lt hg)).2
      exact ⟨mInv_ins hI hs' h8, fun k hk => ins_n hk, fun c hc' => ins_eqC hs' hab hc'⟩
theorem szB_cong {σ τ : MS} {p i : Nat} {kd : Int32} (e9 : τ 9 = σ 9) (hn : zN (σ 4 (cO σ p i)) ≤ 12) (h : eqC σ τ (cO σ p i)) : szB τ p kd i = szB σ p kd i := by
  unfold szB
  rw [cO_of e9, gr_cong h hn, h.1]
  cases hg : gr σ (cO σ p i) (nI p) true with
  | none => rfl
  | some k =>
    show 1 + (if kd = 0 then ab τ (cO σ p i) k else _) = _
    rw [ab_cong h hn (grf_lt hg)]
/-- the questions -/
def s_ckR (σ : MS) (p c : Int32) : Int32 × MS := if isC σ p c = true then (rdK σ (zN p) (zN c), σ) else (-2, err σ 0)
def s_ckW (σ : MS) (p c : Int32) : Int32 × MS := if isC σ p c = true then (wrK σ (zN p) (zN c), σ) else (-2, err σ 0)
def s_ckF (σ : MS) (p : Int32) : Int32 × MS := if inb p (zN (σ 8 0)) = true then (match fsV (frK σ (zN p)) (zN (σ 1 (zN (σ 9 (zN p))))) 0 with
    | some i => (frK σ (zN p) i, σ)
    | none => (0, σ)) else (-2, err σ 0)
def s_rmv (σ : MS) (p c : Int32) : Int32 × MS := if isC σ p c = true then (if wrK σ (zN p) (zN c) = 0 then (match gr σ (cO σ (zN p) (zN c)) (nI (zN p)) true with
    | some k => (σ 4 (cO σ (zN p) (zN c)) - nI (ab σ (cO σ (zN p) (zN c)) k), σ)
    | none => (-1, σ)) else (-1, σ)) else (-2, err σ 0)
/-- an allocation's cell -/
def isA (σ : MS) (a c : Int32) : Bool := inb a (zN (σ 0 0)) && inb c (zN (σ 1 (zN a)))
theorem isA_t {σ : MS} (hI : mInv σ) {a c : Int32} (h : isA σ a c = true) : ∃ j i, a = nI j ∧ c = nI i ∧ j < zN (σ 0 0) ∧ i < zN (σ 1 j) ∧ j < 10 ∧ i < 8 := by
  unfold isA at h
  rw [Bool.and_eq_true] at h
  have h2 := hI.nA.2
  obtain ⟨j, hj, rfl⟩ := inb_t (by omega) h.1
  have h3 := (hI.cl hj).1.2
  have h4 := h.2
  rw [zN_nI (by omega)] at h4
  obtain ⟨i, hi, rfl⟩ := inb_t (by omega) h4
  exact ⟨j, i, rfl, rfl, hj, hi, by omega, by omega⟩
def isI (σ : MS) (a c x : Int32) : Bool := isA σ a c && inb x (zN (σ 4 (8 * zN a + zN c)))
def iPl (a c x : Int32) : Nat := 12 * (8 * zN a + zN c) + zN x
def s_siz (σ : MS) (a c : Int32) : Int32 × MS := if isA σ a c = true then (σ 4 (8 * zN a + zN c), σ) else (-2, err σ 0)
def s_itm (σ : MS) (k : Nat) (a c x : Int32) : Int32 × MS := if isI σ a c x = true then (σ k (iPl a c x), σ) else (-2, err σ 0)
def s_itp (σ : MS) (a c x : Int32) : Int32 × MS := if isI σ a c x = true then (if 0 < σ 7 (iPl a c x) then 1 else 0, σ) else (-2, err σ 0)
def s_ptr (σ : MS) (k : Nat) (p : Int32) : Int32 × MS := if inb p (zN (σ 8 0)) = true then (σ k (zN p), σ) else (-2, err σ 0)
/-- how many of f cells from i on have a live item of the pointer -/
def lvf (σ : MS) (p : Nat) : Nat → Nat → Nat
  | 0, _ => 0
  | f + 1, i => (if (gr σ (cO σ p i) (nI p) false).isSome then 1 else 0) + lvf σ p f (i + 1)
def lvO (σ : MS) (p : Nat) : Nat := if σ 2 (zN (σ 9 p)) = 0 then lvf σ p (zN (σ 1 (zN (σ 9 p)))) 0 else 0
def s_liv (σ : MS) (p : Int32) : Int32 × MS := if inb p (zN (σ 8 0)) = true then (nI (lvO σ (zN p)), σ) else (-2, err σ 0)
def s_frd (σ : MS) (a : Int32) : Int32 × MS := if inb a (zN (σ 0 0)) = true then (if σ 2 (zN a) = 0 then 0 else 1, σ) else (-2, err σ 0)
def s_erc (σ : MS) (k : Int32) : Int32 × MS := if 0 ≤ k ∧ k ≤ 2 then (σ 15 (zN k), σ) else (-2, err σ 0)
def s_app (σ : MS) (v : Int32) : Int32 × MS := if 0 ≤ v ∧ v ≤ 127 then (if σ 18 0 = 120 then (-4, err σ 2) else (σ 18 0 + 1, ms_u (ms_u σ 17 (zN (σ 18 0)) v) 18 0 (σ 18 0 + 1))) else (-2, err σ 0)
def s_clt (σ : MS) : Int32 × MS := (σ 18 0, ms_u σ 18 0 0)
end
section
section Model3
variable {G : GG} {h0 : Hp} {y : Nat} {A : Nat → Nat} {σ : MS} {hs : Int64}
abbrev mQ2 (G : GG) (h0 : Hp) (y : Nat) (A : Nat → Nat) (hs : Int64) (r : Int32 × MS) : Option Value → Hp → Prop := mQi G h0 y A r.2 hs r.1
theorem sm_read {p c : Int32} (hA : mOk y A) (hI : mInv σ) : mSp G h0 y A σ hs mX6_read 3 [.int p, .int c] (mQ2 G h0 y A hs (s_read σ p c)) := by
  refine bs_Sp.of (by decide) rfl ?_
  refine bs_aload_n (pc' := 1) dX6_read_0 rfl rfl rfl ?_
  refine bs_iload_n (pc' := 2) dX6_read_1 rfl rfl ?_
  refine bs_iload_n (pc' := 3) dX6_read_2 rfl rfl ?_
  refine bs_callV (N := mX6_isCell) (pc' := 6) dX6_read_3 km_X6_107 ko_X6_isCell (sm_isCell hA hI) mh_y rfl rfl rfl (by omega) (Nat.le_refl _) (Nat.le_refl _) rfl ?_
  rintro _ _ ⟨rfl, rfl⟩
  refine bs_if_ne (tgt := 16) (pc' := 9) dX6_read_6 rfl rfl (fun c6 => ?_) (fun c6 => ?_)
  · rw [bI_n0] at c6
    have hc6 := c6
    obtain ⟨j, i, rfl, rfl, hp⟩ := isC_t hI c6
    have hp8 := hI.cell hp
    have hz1 : zN (nI j) = j := zN_nI (by have := hI.p60 hp.1; omega)
    have hz2 : zN (nI i) = i := zN_nI (by omega)
    refine bs_aload_n (pc' := 17) dX6_read_16 rfl rfl rfl ?_
    refine bs_iload_n (pc' := 18) dX6_read_17 rfl rfl ?_
    refine bs_iload_n (pc' := 19) dX6_read_18 rfl rfl ?_
    refine bs_callV (N := mX6_readKind) (pc' := 22) dX6_read_19 km_X6_111 ko_X6_readKind (sm_readKind hA hI hp) mh_y rfl rfl rfl (by omega) (Nat.le_refl _) (Nat.le_refl _) rfl ?_
    rintro _ _ ⟨rfl, rfl⟩
    refine bs_istore_n (pc' := 23) (lv' := [(0, _), (1, _), (2, _), (3, _)]) dX6_read_22 rfl rfl rfl ?_
    refine bs_iload_n (pc' := 24) dX6_read_23 rfl rfl ?_
    refine bs_if_eq (tgt := 34) (pc' := 27) dX6_read_24 rfl rfl (fun c24 => ?_) (fun c24 => ?_)
    · refine bs_aload_n (pc' := 35) dX6_read_34 rfl rfl rfl ?_
      refine bs_iload_n (pc' := 36) dX6_read_35 rfl rfl ?_
      refine bs_iload_n (pc' := 37) dX6_read_36 rfl rfl ?_
      refine bs_callV (N := mX6_doRead) (pc' := 40) dX6_read_37 km_X6_117 ko_X6_doRead (sm_doRead hA hI hp) mh_y rfl rfl rfl (by omega) (Nat.le_refl _) (Nat.le_refl _) rfl ?_
      rintro _ _ ⟨rfl, rfl⟩
      refine bs_aload_n (pc' := 41) dX6_read_40 rfl rfl rfl ?_
      refine bs_getf (pc' := 44) kf_X6_17 dX6_read_41 mh_y rfl rfl ?_
      refine bs_aload_n (pc' := 45) dX6_read_44 rfl rfl rfl ?_
      refine bs_iload_n (pc' := 46) dX6_read_45 rfl rfl ?_
      refine bs_iload_n (pc' := 47) dX6_read_46 rfl rfl ?_
      refine bs_callV (N := mX6_cellOf) (pc' := 50) dX6_read_47 km_X6_75 ko_X6_cellOf (sm_cellOf hA (mInv_dRd hI) (by unfold isPc dRd; rw [dis_n (by decide), dis_n (by decide), dis_n (by decide)]; exact hp)) mh_y rfl rfl rfl (by omega) (Nat.le_refl _) (Nat.le_refl _) rfl ?_
      rintro _ _ ⟨rfl, rfl⟩
      refine bm_ald (pc' := 51) dX6_read_50 hA rfl rfl (cO (dRd σ j i) j i) rfl (by unfold cO dRd; rw [dis_n (by decide)]; exact hp8.2) rfl ?_
      have e : s_read σ (nI j) (nI i) = (σ 3 (cO σ j i), dRd σ j i) := by rw [s_read, if_pos hc6, hz1, hz2, if_pos c24]
      have e3 : dRd σ j i 3 (cO (dRd σ j i) j i) = σ 3 (cO σ j i) := by unfold cO dRd; rw [dis_n (by decide), dis_n (by decide)]
      exact bs_iret dX6_read_51 rfl ⟨by rw [e, e3], by rw [e]⟩
    · refine bs_aload_n (pc' := 28) dX6_read_27 rfl rfl rfl ?_
      refine bs_iload_n (pc' := 29) dX6_read_28 rfl rfl ?_
      refine bs_iload_n (pc' := 30) dX6_read_29 rfl rfl ?_
      refine bs_callV (N := mX6_violate) (pc' := 33) dX6_read_30 km_X6_114 ko_X6_violate (sm_violate hA) mh_y rfl rfl rfl (by omega) (Nat.le_refl _) (Nat.le_refl _) rfl ?_
      rintro _ _ ⟨rfl, rfl⟩
      have e : s_read σ (nI j) (nI i) = (-5, vio σ (rdK σ j i) (nI i)) := by rw [s_read, if_pos hc6, hz1, hz2, if_neg c24]
      exact bs_iret dX6_read_33 rfl ⟨by rw [e], by rw [e]; rfl⟩
  · refine bs_aload_n (pc' := 10) dX6_read_9 rfl rfl rfl ?_
    refine bs_bipush (v := (-2)) (pc' := 12) dX6_read_10 (by decide) rfl ?_
    refine bs_callV (N := mX6_error) (pc' := 15) dX6_read_12 km_X6_93 ko_X6_error (sm_error 0 (by decide) (by decide) hA) mh_y rfl rfl rfl (by omega) (Nat.le_refl _) (Nat.le_refl _) rfl ?_
    rintro _ _ ⟨rfl, rfl⟩
    have e : s_read σ p c = (-2, err σ 0) := if_neg (by rw [bI_0] at c6; rw [c6]; decide)
    exact bs_iret dX6_read_15 rfl ⟨by rw [e], by rw [e]; rfl⟩
theorem wrK_0 {p i : Nat} (h : wrK σ p i = 0) : σ 2 (zN (σ 9 p)) = 0 ∧ ∃ k, gr σ (cO σ p i) (nI p) true = some k := by
  unfold wrK at h
  split at h
  · exact absurd h (by decide)
  · next h2 =>
    refine ⟨Classical.not_not.mp h2, ?_⟩
    split at h
    · exact absurd h (by decide)
    · next k hk => exact ⟨k, hk⟩
theorem rwK_0 {p i : Nat} (h : rwK σ p i = 0) : σ 2 (zN (σ 9 p)) = 0 ∧ ∃ k, gr σ (cO σ p i) (nI p) true = some k := by
  unfold rwK at h
  split at h
  · exact absurd h (by decide)
  · next h2 =>
    refine ⟨Classical.not_not.mp h2, ?_⟩
    split at h
    · exact absurd h (by decide)
    · next k hk => exact ⟨k, hk⟩
theorem sm_write {p c v : Int32} (hA : mOk y A) (hI : mInv σ) : mSp G h0 y A σ hs mX6_write 3 [.int p, .int c, .int v] (mQ2 G h0 y A hs (s_write σ p c v)) := by
  refine bs_Sp.of (by decide) rfl ?_
  refine bs_aload_n (pc' := 1) dX6_write_0 rfl rfl rfl ?_
  refine bs_iload_n (pc' := 2) dX6_write_1 rfl rfl ?_
  refine bs_iload_n (pc' := 3) dX6_write_2 rfl rfl ?_
  refine bs_callV (N := mX6_isCell) (pc' := 6) dX6_write_3 km_X6_107 ko_X6_isCell (sm_isCell hA hI) mh_y rfl rfl rfl (by omega) (Nat.le_refl _) (Nat.le_refl _) rfl ?_
  rintro _ _ ⟨rfl, rfl⟩
  refine bs_if_eq (tgt := 19) (pc' := 9) dX6_write_6 rfl rfl (fun c6 => ?_) (fun c6 => ?_)
  · refine bs_aload_n (pc' := 20) dX6_write_19 rfl rfl rfl ?_
    refine bs_bipush (v := (-2)) (pc' := 22) dX6_write_20 (by decide) rfl ?_
    refine bs_callV (N := mX6_error) (pc' := 25) dX6_write_22 km_X6_93 ko_X6_error (sm_error 0 (by decide) (by decide) hA) mh_y rfl rfl rfl (by omega) (Nat.le_refl _) (Nat.le_refl _) rfl ?_
    rintro _ _ ⟨rfl, rfl⟩
    have e : s_write σ p c v = (-2, err σ 0) := if_neg (by first | (rw [bI_0] at c6; rw [c6]; exact fun q => absurd q.1 (by decide)) | (rw [bI_0, decide_eq_false_iff_not] at c16; exact fun q => c16 q.2))
    exact bs_iret dX6_write_25 rfl ⟨by rw [e], by rw [e]; rfl⟩
  · refine bs_iload_n (pc' := 10) dX6_write_9 rfl rfl ?_
    refine bs_iconst (v := 0) (pc' := 11) dX6_write_10 (by decide) rfl ?_
    refine bs_bipush (v := 99) (pc' := 13) dX6_write_11 (by decide) rfl ?_
    refine bs_callS (N := mX6_in) (pc' := 16) dX6_write_13 km_X6_67 ko_X6_in sm_in rfl rfl rfl (by omega) (Nat.le_refl _) (Nat.le_refl _) rfl ?_
    rintro _ _ ⟨rfl, rfl⟩
    refine bs_if_ne (tgt := 26) (pc' := 19) dX6_write_16 rfl rfl (fun c16 => ?_) (fun c16 => ?_)
    · rw [bI_n0] at c6 c16
      rw [decide_eq_true_eq] at c16
      have hc6 := c6
      obtain ⟨j, i, rfl, rfl, hp⟩ := isC_t hI c6
      have hp8 := hI.cell hp
      have hz1 : zN (nI j) = j := zN_nI (by have := hI.p60 hp.1; omega)
      have hz2 : zN (nI i) = i := zN_nI (by omega)
      refine bs_aload_n (pc' := 27) dX6_write_26 rfl rfl rfl ?_
      refine bs_iload_n (pc' := 28) dX6_write_27 rfl rfl ?_
      refine bs_iload_n (pc' := 29) dX6_write_28 rfl rfl ?_
      refine bs_callV (N := mX6_writeKind) (pc' := 32) dX6_write_29 km_X6_90 ko_X6_writeKind (sm_writeKind hA hI hp) mh_y rfl rfl rfl (by omega) (Nat.le_refl _) (Nat.le_refl _) rfl ?_
      rintro _ _ ⟨rfl, rfl⟩
      refine bs_istore (pc' := 34) (lv' := [(0, _), (1, _), (2, _), (3, _), (4, _)]) dX6_write_32 rfl rfl rfl ?_
      refine bs_iload (pc' := 36) dX6_write_34 rfl rfl ?_
      refine bs_if_eq (tgt := 47) (pc' := 39) dX6_write_36 rfl rfl (fun c36 => ?_) (fun c36 => ?_)
      · obtain ⟨-, k, hg⟩ := wrK_0 c36
        have eO : cO (dWr σ j i) j i = cO σ j i := by unfold cO; rw [dWr_n (by decide)]
        refine bs_aload_n (pc' := 48) dX6_write_47 rfl rfl rfl ?_
        refine bs_iload_n (pc' := 49) dX6_write_48 rfl rfl ?_
        refine bs_iload_n (pc' := 50) dX6_write_49 rfl rfl ?_
        refine bs_callV (N := mX6_doWrite) (pc' := 53) dX6_write_50 km_X6_121 ko_X6_doWrite (sm_doWrite hA hI hp hg) mh_y rfl rfl rfl (by omega) (Nat.le_refl _) (Nat.le_refl _) rfl ?_
        rintro _ _ ⟨rfl, rfl⟩
        refine bs_aload_n (pc' := 54) dX6_write_53 rfl rfl rfl ?_
        refine bs_iload_n (pc' := 55) dX6_write_54 rfl rfl ?_
        refine bs_iload_n (pc' := 56) dX6_write_55 rfl rfl ?_
        refine bs_callV (N := mX6_cellOf) (pc' := 59) dX6_write_56 km_X6_75 ko_X6_cellOf (sm_cellOf hA (mInv_dWr hI hp) (by unfold isPc; rw [dWr_n (by decide), dWr_n (by decide), dWr_n (by decide)]; exact hp)) mh_y rfl rfl rfl (by omega) (Nat.le_refl _) (Nat.le_refl _) rfl ?_
        rintro _ _ ⟨rfl, rfl⟩
        refine bs_istore (pc' := 61) (lv' := [(0, _), (1, _), (2, _), (3, _), (4, _), (5, _)]) dX6_write_59 rfl rfl rfl ?_
        refine bs_aload_n (pc' := 62) dX6_write_61 rfl rfl rfl ?_
        refine bs_getf (pc' := 65) kf_X6_17 dX6_write_62 mh_y rfl rfl ?_
        refine bs_iload (pc' := 67) dX6_write_65 rfl rfl ?_
        refine bm_ald (pc' := 68) dX6_write_67 hA rfl rfl (cO (dWr σ j i) j i) rfl (by rw [eO]; exact hp8.2) rfl ?_
        refine bs_istore (pc' := 70) (lv' := [(0, _), (1, _), (2, _), (3, _), (4, _), (5, _), (6, _)]) dX6_write_68 rfl rfl rfl ?_
        refine bs_aload_n (pc' := 71) dX6_write_70 rfl rfl rfl ?_
        refine bs_getf (pc' := 74) kf_X6_17 dX6_write_71 mh_y rfl rfl ?_
        refine bs_iload (pc' := 76) dX6_write_74 rfl rfl ?_
        refine bs_iload_n (pc' := 77) dX6_write_76 rfl rfl ?_
        refine bm_ast (pc' := 78) dX6_write_77 hA rfl rfl (cO (dWr σ j i) j i) rfl (by rw [eO]; exact hp8.2) rfl ?_
        refine bs_iload (pc' := 80) dX6_write_78 rfl rfl ?_
        have e : s_write σ (nI j) (nI i) v = (σ 3 (cO σ j i), ms_u (dWr σ j i) 3 (cO σ j i) v) := by rw [s_write, if_pos ⟨hc6, c16⟩, hz1, hz2, if_pos c36]
        exact bs_iret dX6_write_80 rfl ⟨by rw [e, eO, dWr_n (by decide)], by rw [e, eO]⟩
      · refine bs_aload_n (pc' := 40) dX6_write_39 rfl rfl rfl ?_
        refine bs_iload (pc' := 42) dX6_write_40 rfl rfl ?_
        refine bs_iload_n (pc' := 43) dX6_write_42 rfl rfl ?_
        refine bs_callV (N := mX6_violate) (pc' := 46) dX6_write_43 km_X6_114 ko_X6_violate (sm_violate hA) mh_y rfl rfl rfl (by omega) (Nat.le_refl _) (Nat.le_refl _) rfl ?_
        rintro _ _ ⟨rfl, rfl⟩
        have e : s_write σ (nI j) (nI i) v = (-5, vio σ (wrK σ j i) (nI i)) := by rw [s_write, if_pos ⟨hc6, c16⟩, hz1, hz2, if_neg c36]
        exact bs_iret dX6_write_46 rfl ⟨by rw [e], by rw [e]; rfl⟩
    · refine bs_aload_n (pc' := 20) dX6_write_19 rfl rfl rfl ?_
      refine bs_bipush (v := (-2)) (pc' := 22) dX6_write_20 (by decide) rfl ?_
      refine bs_callV (N := mX6_error) (pc' := 25) dX6_write_22 km_X6_93 ko_X6_error (sm_error 0 (by decide) (by decide) hA) mh_y rfl rfl rfl (by omega) (Nat.le_refl _) (Nat.le_refl _) rfl ?_
      rintro _ _ ⟨rfl, rfl⟩
      have e : s_write σ p c v = (-2, err σ 0) := if_neg (by first | (rw [bI_0] at c6; rw [c6]; exact fun q => absurd q.1 (by decide)) | (rw [bI_0, decide_eq_false_iff_not] at c16; exact fun q => c16 q.2))
      exact bs_iret dX6_write_25 rfl ⟨by rw [e], by rw [e]; rfl⟩
theorem sm_enterCall (hA : mOk y A) : mSp G h0 y A σ hs mX6_enterCall 1 [] (mQ2 G h0 y A hs (s_enter σ)) := by
  refine bs_Sp.of (by decide) rfl ?_
  refine bs_aload_n (pc' := 1) dX6_enterCall_0 rfl rfl rfl ?_
  refine bs_getf (pc' := 4) kf_X6_127 dX6_enterCall_1 mh_y rfl rfl ?_
  refine bs_iconst (v := 5) (pc' := 5) dX6_enterCall_4 (by decide) rfl ?_
  refine bs_icmp_ne (tgt := 15) (pc' := 8) dX6_enterCall_5 rfl rfl (fun c5 => ?_) (fun c5 => ?_)
  · refine bs_aload_n (pc' := 16) dX6_enterCall_15 rfl rfl rfl ?_
    refine bs_dup (pc' := 17) dX6_enterCall_16 rfl rfl ?_
    refine bs_getf (pc' := 20) kf_X6_127 dX6_enterCall_17 mh_y rfl rfl ?_
    refine bs_iconst (v := 1) (pc' := 21) dX6_enterCall_20 (by decide) rfl ?_
    refine bs_iadd (pc' := 22) dX6_enterCall_21 rfl ?_
    refine bm_put (pc' := 25) kf_X6_127 dX6_enterCall_22 rfl rfl rfl rfl ?_
    refine bs_aload_n (pc' := 26) dX6_enterCall_25 rfl rfl rfl ?_
    refine bs_getf (pc' := 29) kf_X6_127 dX6_enterCall_26 mh_y rfl rfl ?_
    have e : s_enter σ = (σ 11 0 + 1, ms_u σ 11 0 (σ 11 0 + 1)) := if_neg c5
    exact bs_iret dX6_enterCall_29 rfl ⟨by rw [e]; rfl, by rw [e]⟩
  · refine bs_aload_n (pc' := 9) dX6_enterCall_8 rfl rfl rfl ?_
    refine bs_bipush (v := (-4)) (pc' := 11) dX6_enterCall_9 (by decide) rfl ?_
    refine bs_callV (N := mX6_error) (pc' := 14) dX6_enterCall_11 km_X6_93 ko_X6_error (sm_error 2 (by decide) (by decide) hA) mh_y rfl rfl rfl (by omega) (Nat.le_refl _) (Nat.le_refl _) rfl ?_
    rintro _ _ ⟨rfl, rfl⟩
    have e : s_enter σ = (-4, err σ 2) := if_pos c5
    exact bs_iret dX6_enterCall_14 rfl ⟨by rw [e], by rw [e]; rfl⟩
theorem sm_leaveCall (hA : mOk y A) : mSp G h0 y A σ hs mX6_leaveCall 1 [] (mQ2 G h0 y A hs (s_leave σ)) := by
  refine bs_Sp.of (by decide) rfl ?_
  have loop : ¬ σ 11 0 = 0 → ∀ f j, j + f = 960 → mB G h0 y A (clr σ j) hs mX6_leaveCall 1 16 [(0, .ref y), (1, .int (nI j))] [] (mQ2 G h0 y A hs (s_leave σ)) := by
    intro c4 f
    induction f with
    | zero =>
      intro j hj
      have hj' : j = 960 := by omega
      subst hj'
      refine bs_iload_n (pc' := 17) dX6_leaveCall_16 rfl rfl ?_
      refine bs_sipush (v := 960) (pc' := 20) dX6_leaveCall_17 (by decide) rfl ?_
      refine bs_icmp_ge (tgt := 58) (pc' := 23) dX6_leaveCall_20 rfl rfl (fun _ => ?_) (fun c20 => absurd (by decide) c20)
      refine bs_aload_n (pc' := 59) dX6_leaveCall_58 rfl rfl rfl ?_
      refine bs_dup (pc' := 60) dX6_leaveCall_59 rfl rfl ?_
      refine bs_getf (pc' := 63) kf_X6_127 dX6_leaveCall_60 mh_y rfl rfl ?_
      refine bs_iconst (v := 1) (pc' := 64) dX6_leaveCall_63 (by decide) rfl ?_
      refine bs_isub (pc' := 65) dX6_leaveCall_64 rfl ?_
      refine bm_put (pc' := 68) kf_X6_127 dX6_leaveCall_65 rfl rfl rfl rfl ?_
      refine bs_aload_n (pc' := 69) dX6_leaveCall_68 rfl rfl rfl ?_
      refine bs_getf (pc' := 72) kf_X6_127 dX6_leaveCall_69 mh_y rfl rfl ?_
      have e : s_leave σ = (σ 11 0 - 1, ms_u (clr σ 960) 11 0 (σ 11 0 - 1)) := if_neg c4
      have e11 : clr σ 960 11 0 = σ 11 0 := by rw [clr_n (by decide)]
      exact bs_iret dX6_leaveCall_72 rfl ⟨by rw [e]; show some (Value.int (clr σ 960 11 0 - 1)) = _; rw [e11], by rw [e, e11]⟩
    | succ f ih =>
      intro j hj
      have e7 : clr σ j 7 j = σ 7 j := clr_at (Nat.le_refl _)
      have e11 : clr σ j 11 0 = σ 11 0 := by rw [clr_n (by decide)]
      have j51 : ∀ z, z = (if σ 7 j = σ 11 0 then 0 else σ 7 j) → mB G h0 y A (clr σ j) hs mX6_leaveCall 1 51 [(0, .ref y), (1, .int (nI j))] [.int z, .int (nI j), .ref (A 7)] (mQ2 G h0 y A hs (s_leave σ)) := by
        intro z hz
        subst hz
        refine bm_ast (pc' := 52) dX6_leaveCall_51 hA rfl rfl j rfl (by show _ < 960; omega) rfl ?_
        rw [clr_s]
        refine bs_iinc (pc' := 55) (lv' := [(0, _), (1, _)]) dX6_leaveCall_52 rfl (nI_i1 j) rfl rfl rfl ?_
        refine bs_goto (tgt := 16) dX6_leaveCall_55 rfl ?_
        exact ih (j + 1) (by omega)
      refine bs_iload_n (pc' := 17) dX6_leaveCall_16 rfl rfl ?_
      refine bs_sipush (v := 960) (pc' := 20) dX6_leaveCall_17 (by decide) rfl ?_
      refine bs_icmp_ge (tgt := 58) (pc' := 23) dX6_leaveCall_20 rfl rfl (fun c20 => absurd c20 (by exact nI_ge (b := 960) (by omega) (by decide))) (fun _ => ?_)
      refine bs_aload_n (pc' := 24) dX6_leaveCall_23 rfl rfl rfl ?_
      refine bs_getf (pc' := 27) kf_X6_29 dX6_leaveCall_24 mh_y rfl rfl ?_
      refine bs_iload_n (pc' := 28) dX6_leaveCall_27 rfl rfl ?_
      refine bs_aload_n (pc' := 29) dX6_leaveCall_28 rfl rfl rfl ?_
      refine bs_getf (pc' := 32) kf_X6_29 dX6_leaveCall_29 mh_y rfl rfl ?_
      refine bs_iload_n (pc' := 33) dX6_leaveCall_32 rfl rfl ?_
      refine bm_ald (pc' := 34) dX6_leaveCall_33 hA rfl rfl j rfl (by show _ < 960; omega) rfl ?_
      refine bs_aload_n (pc' := 35) dX6_leaveCall_34 rfl rfl rfl ?_
      refine bs_getf (pc' := 38) kf_X6_127 dX6_leaveCall_35 mh_y rfl rfl ?_
      refine bs_icmp_ne (tgt := 45) (pc' := 41) dX6_leaveCall_38 rfl rfl (fun c38 => ?_) (fun c38 => ?_)
      · refine bs_aload_n (pc' := 46) dX6_leaveCall_45 rfl rfl rfl ?_
        refine bs_getf (pc' := 49) kf_X6_29 dX6_leaveCall_46 mh_y rfl rfl ?_
        refine bs_iload_n (pc' := 50) dX6_leaveCall_49 rfl rfl ?_
        refine bm_ald (pc' := 51) dX6_leaveCall_50 hA rfl rfl j rfl (by show _ < 960; omega) rfl ?_
        rw [e7, e11] at c38
        exact j51 _ (by first | rw [if_pos c38] | rw [if_neg c38, e7])
      · refine bs_iconst (v := 0) (pc' := 42) dX6_leaveCall_41 (by decide) rfl ?_
        refine bs_goto (tgt := 51) dX6_leaveCall_42 rfl ?_
        rw [e7, e11] at c38
        exact j51 _ (by first | rw [if_pos c38] | rw [if_neg c38, e7])
  refine bs_aload_n (pc' := 1) dX6_leaveCall_0 rfl rfl rfl ?_
  refine bs_getf (pc' := 4) kf_X6_127 dX6_leaveCall_1 mh_y rfl rfl ?_
  refine bs_if_ne (tgt := 14) (pc' := 7) dX6_leaveCall_4 rfl rfl (fun c4 => ?_) (fun c4 => ?_)
  · refine bs_iconst (v := 0) (pc' := 15) dX6_leaveCall_14 (by decide) rfl ?_
    refine bs_istore_n (pc' := 16) (lv' := [(0, _), (1, _)]) dX6_leaveCall_15 rfl rfl rfl ?_
    have e := loop c4 960 0 rfl
    rw [clr_0] at e
    exact e
  · refine bs_aload_n (pc' := 8) dX6_leaveCall_7 rfl rfl rfl ?_
    refine bs_bipush (v := (-3)) (pc' := 10) dX6_leaveCall_8 (by decide) rfl ?_
    refine bs_callV (N := mX6_error) (pc' := 13) dX6_leaveCall_10 km_X6_93 ko_X6_error (sm_error 1 (by decide) (by decide) hA) mh_y rfl rfl rfl (by omega) (Nat.le_refl _) (Nat.le_refl _) rfl ?_
    rintro _ _ ⟨rfl, rfl⟩
    have e : s_leave σ = (-3, err σ 1) := if_pos c4
    exact bs_iret dX6_leaveCall_13 rfl ⟨by rw [e], by rw [e]; rfl⟩
theorem sm_free {p : Int32} (hA : mOk y A) (hI : mInv σ) : mSp G h0 y A σ hs mX6_free 3 [.int p] (mQ2 G h0 y A hs (s_free σ p)) := by
  refine bs_Sp.of (by decide) rfl ?_
  have loop : ∀ j n, j < zN (σ 8 0) → n = zN (σ 1 (zN (σ 9 j))) → ∀ f i, i + f = n → fsV (frK σ j) n 0 = fsV (frK σ j) f i → mB G h0 y A σ hs mX6_free 3 24 [(0, .ref y), (1, .int (nI j)), (2, .int (σ 9 j)), (3, .int (nI i))] [] (mQ2 G h0 y A hs (s_free σ (nI j))) := by
    intro j n hj hn f
    have h60 := hI.p60 hj
    have hz1 : zN (nI j) = j := zN_nI (by omega)
    have hnP := hI.nP.2
    have hib : inb (nI j) (zN (σ 8 0)) = true := inb_nI hj (by omega)
    have hcl := (hI.cl (hI.ow hj).2).1
    have hcl2 := hcl.2
    have h10 := hI.ow10 hj
    have howe := hI.owe hj
    induction f with
    | zero =>
      intro i hi hf
      have e : s_free σ (nI j) = (σ 1 (zN (σ 9 j)), ms_u σ 2 (zN (σ 9 j)) 1) := by
        rw [s_free, if_pos hib, hz1, ← hn, hf]
        rfl
      refine bs_iload_n (pc' := 25) dX6_free_24 rfl rfl ?_
      refine bs_aload_n (pc' := 26) dX6_free_25 rfl rfl rfl ?_
      refine bs_getf (pc' := 29) kf_X6_7 dX6_free_26 mh_y rfl rfl ?_
      refine bs_iload_n (pc' := 30) dX6_free_29 rfl rfl ?_
      refine bm_ald (pc' := 31) dX6_free_30 hA rfl rfl (zN (σ 9 j)) howe h10 rfl ?_
      refine bs_icmp_ge (tgt := 61) (pc' := 34) dX6_free_31 rfl rfl (fun _ => ?_) (fun c31 => absurd (by rw [hcl.1]; exact nI_le (by omega) (by omega)) c31)
      refine bs_aload_n (pc' := 62) dX6_free_61 rfl rfl rfl ?_
      refine bs_getf (pc' := 65) kf_X6_13 dX6_free_62 mh_y rfl rfl ?_
      refine bs_iload_n (pc' := 66) dX6_free_65 rfl rfl ?_
      refine bs_iconst (v := 1) (pc' := 67) dX6_free_66 (by decide) rfl ?_
      refine bm_zst (pc' := 68) dX6_free_67 hA (zN (σ 9 j)) howe h10 (by decide) rfl ?_
      refine bs_aload_n (pc' := 69) dX6_free_68 rfl rfl rfl ?_
      refine bs_getf (pc' := 72) kf_X6_7 dX6_free_69 mh_y rfl rfl ?_
      refine bs_iload_n (pc' := 73) dX6_free_72 rfl rfl ?_
      refine bm_ald (pc' := 74) dX6_free_73 hA rfl rfl (zN (σ 9 j)) howe h10 rfl ?_
      exact bs_iret dX6_free_74 rfl ⟨by rw [e]; rfl, by rw [e]⟩
    | succ f ih =>
      intro i hi hf
      have hic : isPc σ j i := ⟨hj, by omega⟩
      refine bs_iload_n (pc' := 25) dX6_free_24 rfl rfl ?_
      refine bs_aload_n (pc' := 26) dX6_free_25 rfl rfl rfl ?_
      refine bs_getf (pc' := 29) kf_X6_7 dX6_free_26 mh_y rfl rfl ?_
      refine bs_iload_n (pc' := 30) dX6_free_29 rfl rfl ?_
      refine bm_ald (pc' := 31) dX6_free_30 hA rfl rfl (zN (σ 9 j)) howe h10 rfl ?_
      refine bs_icmp_ge (tgt := 61) (pc' := 34) dX6_free_31 rfl rfl (fun c31 => absurd c31 (by rw [hcl.1]; exact nI_ge (by omega) (by omega))) (fun _ => ?_)
      refine bs_aload_n (pc' := 35) dX6_free_34 rfl rfl rfl ?_
      refine bs_iload_n (pc' := 36) dX6_free_35 rfl rfl ?_
      refine bs_iload_n (pc' := 37) dX6_free_36 rfl rfl ?_
      refine bs_callV (N := mX6_freeKind) (pc' := 40) dX6_free_37 km_X6_141 ko_X6_freeKind (sm_freeKind hA hI hic) mh_y rfl rfl rfl (by omega) (Nat.le_refl _) (Nat.le_refl _) rfl ?_
      rintro _ _ ⟨rfl, rfl⟩
      refine bs_istore (pc' := 42) (lv' := [(0, _), (1, _), (2, _), (3, _), (4, _)]) dX6_free_40 rfl rfl rfl ?_
      refine bs_iload (pc' := 44) dX6_free_42 rfl rfl ?_
      refine bs_if_eq (tgt := 55) (pc' := 47) dX6_free_44 rfl rfl (fun c44 => ?_) (fun c44 => ?_)
      · refine bs_iinc (pc' := 58) (lv' := [(0, _), (1, _), (2, _), (3, _), (4, _)]) dX6_free_55 rfl (nI_i1 i) rfl rfl rfl ?_
        refine bs_goto (tgt := 24) dX6_free_58 rfl ?_
        refine bs_sub (lv' := [(0, _), (1, _), (2, _), (3, _)]) [0, 1, 2, 3] rfl ?_
        exact ih (i + 1) (by omega) (by rw [hf]; show fsV (frK σ j) (f + 1) i = _; unfold fsV; rw [if_pos c44]; cases f <;> rfl)
      · refine bs_aload_n (pc' := 48) dX6_free_47 rfl rfl rfl ?_
        refine bs_iload (pc' := 50) dX6_free_48 rfl rfl ?_
        refine bs_iload_n (pc' := 51) dX6_free_50 rfl rfl ?_
        refine bs_callV (N := mX6_violate) (pc' := 54) dX6_free_51 km_X6_114 ko_X6_violate (sm_violate hA) mh_y rfl rfl rfl (by omega) (Nat.le_refl _) (Nat.le_refl _) rfl ?_
        rintro _ _ ⟨rfl, rfl⟩
        have e : s_free σ (nI j) = (-5, vio σ (frK σ j i) (nI i)) := by
          have e1 : fsV (frK σ j) (f + 1) i = some i := by unfold fsV; rw [if_neg c44]
          rw [s_free, if_pos hib, hz1, ← hn, hf, e1]
        exact bs_iret dX6_free_54 rfl ⟨by rw [e], by rw [e]; rfl⟩
  refine bs_aload_n (pc' := 1) dX6_free_0 rfl rfl rfl ?_
  refine bs_iload_n (pc' := 2) dX6_free_1 rfl rfl ?_
  refine bs_callV (N := mX6_isPointer) (pc' := 5) dX6_free_2 km_X6_71 ko_X6_isPointer (sm_isPointer hI) mh_y rfl rfl rfl (by omega) (Nat.le_refl _) (Nat.le_refl _) rfl ?_
  rintro _ _ ⟨rfl, rfl⟩
  refine bs_if_ne (tgt := 15) (pc' := 8) dX6_free_5 rfl rfl (fun c5 => ?_) (fun c5 => ?_)
  · rw [bI_n0] at c5
    obtain ⟨j, hj, rfl⟩ := inb_t (by have := hI.nP.2; omega) c5
    refine bs_aload_n (pc' := 16) dX6_free_15 rfl rfl rfl ?_
    refine bs_getf (pc' := 19) kf_X6_32 dX6_free_16 mh_y rfl rfl ?_
    refine bs_iload_n (pc' := 20) dX6_free_19 rfl rfl ?_
    refine bm_ald (pc' := 21) dX6_free_20 hA rfl rfl j rfl (hI.p60 hj) rfl ?_
    refine bs_istore_n (pc' := 22) (lv' := [(0, _), (1, _), (2, _)]) dX6_free_21 rfl rfl rfl ?_
    refine bs_iconst (v := 0) (pc' := 23) dX6_free_22 (by decide) rfl ?_
    refine bs_istore_n (pc' := 24) (lv' := [(0, _), (1, _), (2, _), (3, _)]) dX6_free_23 rfl rfl rfl ?_
    exact loop j _ hj rfl _ 0 (Nat.zero_add _) rfl
  · refine bs_aload_n (pc' := 9) dX6_free_8 rfl rfl rfl ?_
    refine bs_bipush (v := (-2)) (pc' := 11) dX6_free_9 (by decide) rfl ?_
    refine bs_callV (N := mX6_error) (pc' := 14) dX6_free_11 km_X6_93 ko_X6_error (sm_error 0 (by decide) (by decide) hA) mh_y rfl rfl rfl (by omega) (Nat.le_refl _) (Nat.le_refl _) rfl ?_
    rintro _ _ ⟨rfl, rfl⟩
    have e : s_free σ p = (-2, err σ 0) := if_neg (by rw [bI_0] at c5; rw [c5]; decide)
    exact bs_iret dX6_free_14 rfl ⟨by rw [e], by rw [e]; rfl⟩
theorem sm_reborrowKind {p i : Nat} {kd : Int32} (hA : mOk y A) (hI : mInv σ) (h : isPc σ p i) : mSp G h0 y A σ hs mX6_reborrowKind 2 [.int (nI p), .int kd, .int (nI i)] (mQi G h0 y A σ hs (rbK σ p kd i)) := by
  refine bs_Sp.of (by decide) rfl ?_
  refine bs_iload_n (pc' := 1) dX6_reborrowKind_0 rfl rfl ?_
  refine bs_if_ne (tgt := 13) (pc' := 4) dX6_reborrowKind_1 rfl rfl (fun c1 => ?_) (fun c1 => ?_)
  · refine bs_iload_n (pc' := 14) dX6_reborrowKind_13 rfl rfl ?_
    refine bs_iconst (v := 1) (pc' := 15) dX6_reborrowKind_14 (by decide) rfl ?_
    refine bs_icmp_ne (tgt := 27) (pc' := 18) dX6_reborrowKind_15 rfl rfl (fun c15 => ?_) (fun c15 => ?_)
    · refine bs_aload_n (pc' := 28) dX6_reborrowKind_27 rfl rfl rfl ?_
      refine bs_iload_n (pc' := 29) dX6_reborrowKind_28 rfl rfl ?_
      refine bs_iload_n (pc' := 30) dX6_reborrowKind_29 rfl rfl ?_
      refine bs_callV (N := mX6_rawKind) (pc' := 33) dX6_reborrowKind_30 km_X6_124 ko_X6_rawKind (sm_rawKind hA hI h) mh_y rfl rfl rfl (by omega) (Nat.le_refl _) (Nat.le_refl _) rfl ?_
      rintro _ _ ⟨rfl, rfl⟩
      exact bs_iret dX6_reborrowKind_33 rfl ⟨by first | rw [rbK, if_pos c1] | rw [rbK, if_neg c1, if_pos c15] | rw [rbK, if_neg c1, if_neg c15], rfl⟩
    · refine bs_aload_n (pc' := 19) dX6_reborrowKind_18 rfl rfl rfl ?_
      refine bs_iload_n (pc' := 20) dX6_reborrowKind_19 rfl rfl ?_
      refine bs_iload_n (pc' := 21) dX6_reborrowKind_20 rfl rfl ?_
      refine bs_callV (N := mX6_readKind) (pc' := 24) dX6_reborrowKind_21 km_X6_111 ko_X6_readKind (sm_readKind hA hI h) mh_y rfl rfl rfl (by omega) (Nat.le_refl _) (Nat.le_refl _) rfl ?_
      rintro _ _ ⟨rfl, rfl⟩
      refine bs_goto (tgt := 33) dX6_reborrowKind_24 rfl ?_
      exact bs_iret dX6_reborrowKind_33 rfl ⟨by first | rw [rbK, if_pos c1] | rw [rbK, if_neg c1, if_pos c15] | rw [rbK, if_neg c1, if_neg c15], rfl⟩
  · refine bs_aload_n (pc' := 5) dX6_reborrowKind_4 rfl rfl rfl ?_
    refine bs_iload_n (pc' := 6) dX6_reborrowKind_5 rfl rfl ?_
    refine bs_iload_n (pc' := 7) dX6_reborrowKind_6 rfl rfl ?_
    refine bs_callV (N := mX6_writeKind) (pc' := 10) dX6_reborrowKind_7 km_X6_90 ko_X6_writeKind (sm_writeKind hA hI h) mh_y rfl rfl rfl (by omega) (Nat.le_refl _) (Nat.le_refl _) rfl ?_
    rintro _ _ ⟨rfl, rfl⟩
    refine bs_goto (tgt := 33) dX6_reborrowKind_10 rfl ?_
    exact bs_iret dX6_reborrowKind_33 rfl ⟨by first | rw [rbK, if_pos c1] | rw [rbK, if_neg c1, if_pos c15] | rw [rbK, if_neg c1, if_neg c15], rfl⟩
theorem sm_sizeBy {p i : Nat} {kd : Int32} (hA : mOk y A) (hI : mInv σ) (h : isPc σ p i) (hg : kd = 0 → ∃ k, gr σ (cO σ p i) (nI p) true = some k) : mSp G h0 y A σ hs mX6_sizeBy 1 [.int (nI p), .int kd, .int (nI i)] (mQi G h0 y A σ hs (nI (szB σ p kd i))) := by
  have hc : cO σ p i < 80 := (hI.cell h).2
  refine bs_Sp.of (by decide) rfl ?_
  refine bs_aload_n (pc' := 1) dX6_sizeBy_0 rfl rfl rfl ?_
  refine bs_iload_n (pc' := 2) dX6_sizeBy_1 rfl rfl ?_
  refine bs_iload_n (pc' := 3) dX6_sizeBy_2 rfl rfl ?_
  refine bs_callV (N := mX6_cellOf) (pc' := 6) dX6_sizeBy_3 km_X6_75 ko_X6_cellOf (sm_cellOf hA hI h) mh_y rfl rfl rfl (by omega) (Nat.le_refl _) (Nat.le_refl _) rfl ?_
  rintro _ _ ⟨rfl, rfl⟩
  refine bs_istore (pc' := 8) (lv' := [(0, _), (1, _), (2, _), (3, _), (4, _)]) dX6_sizeBy_6 rfl rfl rfl ?_
  refine bs_iconst (v := 1) (pc' := 9) dX6_sizeBy_8 (by decide) rfl ?_
  refine bs_iload_n (pc' := 10) dX6_sizeBy_9 rfl rfl ?_
  refine bs_if_ne (tgt := 30) (pc' := 13) dX6_sizeBy_10 rfl rfl (fun c10 => ?_) (fun c10 => ?_)
  · refine bs_aload_n (pc' := 31) dX6_sizeBy_30 rfl rfl rfl ?_
    refine bs_getf (pc' := 34) kf_X6_20 dX6_sizeBy_31 mh_y rfl rfl ?_
    refine bs_iload (pc' := 36) dX6_sizeBy_34 rfl rfl ?_
    refine bm_ald (pc' := 37) dX6_sizeBy_36 hA rfl rfl (cO σ p i) rfl hc rfl ?_
    refine bs_iadd (pc' := 38) dX6_sizeBy_37 rfl ?_
    exact bs_iret dX6_sizeBy_38 rfl ⟨by first | (rw [szB, if_pos c10, hg]; exact congrArg (fun z => some (Value.int z)) (nI_add 1 _)) | (rw [szB, if_neg c10, ← nI_add, ← (hI.sz hc).1]; rfl), rfl⟩
  · obtain ⟨k, hg⟩ := hg c10
    refine bs_aload_n (pc' := 14) dX6_sizeBy_13 rfl rfl rfl ?_
    refine bs_iload (pc' := 16) dX6_sizeBy_14 rfl rfl ?_
    refine bs_aload_n (pc' := 17) dX6_sizeBy_16 rfl rfl rfl ?_
    refine bs_iload (pc' := 19) dX6_sizeBy_17 rfl rfl ?_
    refine bs_iload_n (pc' := 20) dX6_sizeBy_19 rfl rfl ?_
    refine bs_iconst (v := 1) (pc' := 21) dX6_sizeBy_20 (by decide) rfl ?_
    refine bs_callV (N := mX6_granting) (pc' := 24) dX6_sizeBy_21 km_X6_79 ko_X6_granting (sm_granting (w := true) hA hI hc) mh_y rfl rfl rfl (by omega) (Nat.le_refl _) (Nat.le_refl _) rfl ?_
    rintro _ _ ⟨rfl, rfl⟩
    rw [hg]
    refine bs_callV (N := mX6_above) (pc' := 27) dX6_sizeBy_24 km_X6_87 ko_X6_above (sm_above hA hI hc (grf_lt hg)) mh_y rfl rfl rfl (by omega) (Nat.le_refl _) (Nat.le_refl _) rfl ?_
    rintro _ _ ⟨rfl, rfl⟩
    refine bs_goto (tgt := 37) dX6_sizeBy_27 rfl ?_
    refine bs_iadd (pc' := 38) dX6_sizeBy_37 rfl ?_
    exact bs_iret dX6_sizeBy_38 rfl ⟨by first | (rw [szB, if_pos c10, hg]; exact congrArg (fun z => some (Value.int z)) (nI_add 1 _)) | (rw [szB, if_neg c10, ← nI_add, ← (hI.sz hc).1]; rfl), rfl⟩
theorem pt_gr {p i : Nat} {kd : Int32} (h : rbK σ p kd i = 0) (hk : ¬ kd = 1) : ∃ k, gr σ (cO σ p i) (nI p) true = some k := by
  unfold rbK at h
  split at h
  · exact (wrK_0 h).2
  · first | exact (rwK_0 h).2 | (rw [if_neg hk] at h; exact (rwK_0 h).2)
theorem sm_put {p i : Nat} {kd g : Int32} (hA : mOk y A) (hI : mInv σ) (h : isPc σ p i) (hg : ¬ kd = 1 → ∃ k, gr σ (cO σ p i) (nI p) true = some k) (hs12 : szB σ p kd i ≤ 12) : mSp G h0 y A σ hs mX6_put 2 [.int (nI p), .int kd, .int (nI i), .int g] (mQv G h0 y A (pt σ p kd i g) hs) := by
  have hc : cO σ p i < 80 := (hI.cell h).2
  have hn := hI.sz hc
  have hn12 := hn.2
  refine bs_Sp.of (by decide) rfl ?_
  refine bs_aload_n (pc' := 1) dX6_put_0 rfl rfl rfl ?_
  refine bs_iload_n (pc' := 2) dX6_put_1 rfl rfl ?_
  refine bs_iload_n (pc' := 3) dX6_put_2 rfl rfl ?_
  refine bs_callV (N := mX6_cellOf) (pc' := 6) dX6_put_3 km_X6_75 ko_X6_cellOf (sm_cellOf hA hI h) mh_y rfl rfl rfl (by omega) (Nat.le_refl _) (Nat.le_refl _) rfl ?_
  rintro _ _ ⟨rfl, rfl⟩
  refine bs_istore (pc' := 8) (lv' := [(0, _), (1, _), (2, _), (3, _), (4, _), (5, _)]) dX6_put_6 rfl rfl rfl ?_
  refine bs_aload_n (pc' := 9) dX6_put_8 rfl rfl rfl ?_
  refine bs_getf (pc' := 12) kf_X6_64 dX6_put_9 mh_y rfl rfl ?_
  refine bs_istore (pc' := 14) (lv' := [(0, _), (1, _), (2, _), (3, _), (4, _), (5, _), (6, _)]) dX6_put_12 rfl rfl rfl ?_
  refine bs_iload_n (pc' := 15) dX6_put_14 rfl rfl ?_
  refine bs_if_ne (tgt := 45) (pc' := 18) dX6_put_15 rfl rfl (fun c15 => ?_) (fun c15 => ?_)
  · refine bs_iload_n (pc' := 46) dX6_put_45 rfl rfl ?_
    refine bs_iconst (v := 1) (pc' := 47) dX6_put_46 (by decide) rfl ?_
    refine bs_icmp_ne (tgt := 77) (pc' := 50) dX6_put_47 rfl rfl (fun c47 => ?_) (fun c47 => ?_)
    · obtain ⟨k, hg⟩ := hg c47
      have hab := abf_le (pm := fun k => σ 6 (12 * cO σ p i + k)) (grf_lt hg)
      have hlt : zN (σ 4 (cO σ p i)) < 12 := by rw [szB, if_neg c15] at hs12; omega
      refine bs_aload_n (pc' := 78) dX6_put_77 rfl rfl rfl ?_
      refine bs_iload (pc' := 80) dX6_put_78 rfl rfl ?_
      refine bs_aload_n (pc' := 81) dX6_put_80 rfl rfl rfl ?_
      refine bs_iload (pc' := 83) dX6_put_81 rfl rfl ?_
      refine bs_aload_n (pc' := 84) dX6_put_83 rfl rfl rfl ?_
      refine bs_iload (pc' := 86) dX6_put_84 rfl rfl ?_
      refine bs_iload_n (pc' := 87) dX6_put_86 rfl rfl ?_
      refine bs_iconst (v := 1) (pc' := 88) dX6_put_87 (by decide) rfl ?_
      refine bs_callV (N := mX6_granting) (pc' := 91) dX6_put_88 km_X6_79 ko_X6_granting (sm_granting (w := true) hA hI hc) mh_y rfl rfl rfl (by omega) (Nat.le_refl _) (Nat.le_refl _) rfl ?_
      rintro _ _ ⟨rfl, rfl⟩
      rw [hg]
      refine bs_callV (N := mX6_above) (pc' := 94) dX6_put_91 km_X6_87 ko_X6_above (sm_above hA hI hc (grf_lt hg)) mh_y rfl rfl rfl (by omega) (Nat.le_refl _) (Nat.le_refl _) rfl ?_
      rintro _ _ ⟨rfl, rfl⟩
      refine bs_iload (pc' := 96) dX6_put_94 rfl rfl ?_
      refine bs_iconst (v := 1) (pc' := 97) dX6_put_96 (by decide) rfl ?_
      refine bs_iload (pc' := 99) dX6_put_97 rfl rfl ?_
      refine bs_callV (N := mX6_insert) (pc' := 102) dX6_put_99 km_X6_103 ko_X6_insert (sm_insert hA hc hn.1 hlt hab.2) mh_y rfl rfl rfl (by omega) (Nat.le_refl _) (Nat.le_refl _) rfl ?_
      rintro _ _ ⟨rfl, rfl⟩
      exact bs_vret dX6_put_102 rfl ⟨rfl, by first | rw [pt, if_pos c15] | (rw [pt, if_neg c15, if_pos c47, e4]; done) | (rw [pt, if_neg c15, if_neg c47, hg]; rfl)⟩
    · have hI' := mInv_dRd (p := p) (i := i) hI
      have e4 : dRd σ p i 4 = σ 4 := by unfold dRd; exact dis_n (by decide)
      have hlt : zN (dRd σ p i 4 (cO σ p i)) < 12 := by rw [e4]; rw [szB, if_neg c15] at hs12; omega
      refine bs_aload_n (pc' := 51) dX6_put_50 rfl rfl rfl ?_
      refine bs_iload_n (pc' := 52) dX6_put_51 rfl rfl ?_
      refine bs_iload_n (pc' := 53) dX6_put_52 rfl rfl ?_
      refine bs_callV (N := mX6_doRead) (pc' := 56) dX6_put_53 km_X6_117 ko_X6_doRead (sm_doRead hA hI h) mh_y rfl rfl rfl (by omega) (Nat.le_refl _) (Nat.le_refl _) rfl ?_
      rintro _ _ ⟨rfl, rfl⟩
      refine bs_aload_n (pc' := 57) dX6_put_56 rfl rfl rfl ?_
      refine bs_iload (pc' := 59) dX6_put_57 rfl rfl ?_
      refine bs_aload_n (pc' := 60) dX6_put_59 rfl rfl rfl ?_
      refine bs_getf (pc' := 63) kf_X6_20 dX6_put_60 mh_y rfl rfl ?_
      refine bs_iload (pc' := 65) dX6_put_63 rfl rfl ?_
      refine bm_ald (pc' := 66) dX6_put_65 hA rfl rfl (cO σ p i) rfl hc rfl ?_
      refine bs_topi _ (hI'.sz hc).1 ?_
      refine bs_iload (pc' := 68) dX6_put_66 rfl rfl ?_
      refine bs_iconst (v := 2) (pc' := 69) dX6_put_68 (by decide) rfl ?_
      refine bs_iload (pc' := 71) dX6_put_69 rfl rfl ?_
      refine bs_callV (N := mX6_insert) (pc' := 74) dX6_put_71 km_X6_103 ko_X6_insert (sm_insert hA hc (hI'.sz hc).1 hlt (Nat.le_refl _)) mh_y rfl rfl rfl (by omega) (Nat.le_refl _) (Nat.le_refl _) rfl ?_
      rintro _ _ ⟨rfl, rfl⟩
      refine bs_goto (tgt := 102) dX6_put_74 rfl ?_
      exact bs_vret dX6_put_102 rfl ⟨rfl, by first | rw [pt, if_pos c15] | (rw [pt, if_neg c15, if_pos c47, e4]; done) | (rw [pt, if_neg c15, if_neg c47, hg]; rfl)⟩
  · obtain ⟨k, hg⟩ := hg (by rw [c15]; decide)
    have hI' := mInv_dWr hI h
    have hab := abf_le (pm := fun k => σ 6 (12 * cO σ p i + k)) (grf_lt hg)
    have e4 : dWr σ p i 4 (cO σ p i) = nI (ab σ (cO σ p i) k) := by unfold dWr; rw [hg]; show ms_u σ 4 _ _ 4 _ = _; rw [ms_u_k]; exact if_pos rfl
    have hz : zN (dWr σ p i 4 (cO σ p i)) = ab σ (cO σ p i) k := by rw [e4]; exact zN_nI (by have : ab σ (cO σ p i) k ≤ _ := hab.2; omega)
    have hlt : zN (dWr σ p i 4 (cO σ p i)) < 12 := by rw [hz]; rw [szB, if_pos c15, hg] at hs12; exact Nat.lt_of_succ_le (by rw [Nat.add_comm] at hs12; exact hs12)
    refine bs_aload_n (pc' := 19) dX6_put_18 rfl rfl rfl ?_
    refine bs_iload_n (pc' := 20) dX6_put_19 rfl rfl ?_
    refine bs_iload_n (pc' := 21) dX6_put_20 rfl rfl ?_
    refine bs_callV (N := mX6_doWrite) (pc' := 24) dX6_put_21 km_X6_121 ko_X6_doWrite (sm_doWrite hA hI h hg) mh_y rfl rfl rfl (by omega) (Nat.le_refl _) (Nat.le_refl _) rfl ?_
    rintro _ _ ⟨rfl, rfl⟩
    refine bs_aload_n (pc' := 25) dX6_put_24 rfl rfl rfl ?_
    refine bs_iload (pc' := 27) dX6_put_25 rfl rfl ?_
    refine bs_aload_n (pc' := 28) dX6_put_27 rfl rfl rfl ?_
    refine bs_getf (pc' := 31) kf_X6_20 dX6_put_28 mh_y rfl rfl ?_
    refine bs_iload (pc' := 33) dX6_put_31 rfl rfl ?_
    refine bm_ald (pc' := 34) dX6_put_33 hA rfl rfl (cO σ p i) rfl hc rfl ?_
    refine bs_topi _ (hI'.sz hc).1 ?_
    refine bs_iload (pc' := 36) dX6_put_34 rfl rfl ?_
    refine bs_iconst (v := 0) (pc' := 37) dX6_put_36 (by decide) rfl ?_
    refine bs_iload (pc' := 39) dX6_put_37 rfl rfl ?_
    refine bs_callV (N := mX6_insert) (pc' := 42) dX6_put_39 km_X6_103 ko_X6_insert (sm_insert hA hc (hI'.sz hc).1 hlt (Nat.le_refl _)) mh_y rfl rfl rfl (by omega) (Nat.le_refl _) (Nat.le_refl _) rfl ?_
    rintro _ _ ⟨rfl, rfl⟩
    refine bs_goto (tgt := 102) dX6_put_42 rfl ?_
    exact bs_vret dX6_put_102 rfl ⟨rfl, by first | rw [pt, if_pos c15] | (rw [pt, if_neg c15, if_pos c47, e4]; done) | (rw [pt, if_neg c15, if_neg c47, hg]; rfl)⟩
theorem sm_allocate {m : Int32} (hA : mOk y A) (hI : mInv σ) : mSp G h0 y A σ hs mX6_allocate 1 [.int m] (mQ2 G h0 y A hs (s_alloc σ m)) := by
  have hnA := hI.nA
  have hnP := hI.nP
  refine bs_Sp.of (by decide) rfl ?_
  have loop : ∀ (τ : MS) a n (p : Int32), a < 10 → n ≤ 8 → (∀ c, 8 * a ≤ c → c < 80 → τ 4 c = 0) → ∀ f i, i + f = n → (∀ c, 8 * a + i ≤ c → c < 80 → inl τ a p i 4 c = 0) → mB G h0 y A (inl τ a p i) hs mX6_allocate 1 74 [(0, .ref y), (1, .int (nI n)), (2, .int (nI a)), (3, .int p), (4, .int (nI i))] [] (mQi G h0 y A (inl τ a p n) hs p) := by
    intro τ a n p ha hn h0s f
    induction f with
    | zero =>
      intro i hi hz
      have hi' : i = n := by omega
      subst hi'
      refine bs_iload (pc' := 76) dX6_allocate_74 rfl rfl ?_
      refine bs_iload_n (pc' := 77) dX6_allocate_76 rfl rfl ?_
      refine bs_icmp_ge (tgt := 101) (pc' := 80) dX6_allocate_77 rfl rfl (fun _ => ?_) (fun c77 => absurd (nI_le (Nat.le_refl _) (by omega)) c77)
      refine bs_iload_n (pc' := 102) dX6_allocate_101 rfl rfl ?_
      exact bs_iret dX6_allocate_102 rfl ⟨rfl, rfl⟩
    | succ f ih =>
      intro i hi hz
      have hc : 8 * a + i < 80 := by omega
      have h4 : inl τ a p i 4 (8 * a + i) = 0 := hz _ (Nat.le_refl _) hc
      refine bs_iload (pc' := 76) dX6_allocate_74 rfl rfl ?_
      refine bs_iload_n (pc' := 77) dX6_allocate_76 rfl rfl ?_
      refine bs_icmp_ge (tgt := 101) (pc' := 80) dX6_allocate_77 rfl rfl (fun c77 => absurd c77 (nI_ge (by omega) (by omega))) (fun _ => ?_)
      refine bs_aload_n (pc' := 81) dX6_allocate_80 rfl rfl rfl ?_
      refine bs_bipush (v := 8) (pc' := 83) dX6_allocate_81 (by decide) rfl ?_
      refine bs_iload_n (pc' := 84) dX6_allocate_83 rfl rfl ?_
      refine bs_imul (pc' := 85) dX6_allocate_84 rfl ?_
      refine bs_iload (pc' := 87) dX6_allocate_85 rfl rfl ?_
      refine bs_iadd (pc' := 88) dX6_allocate_87 rfl ?_
      refine bs_topi _ (nI_8 a i) ?_
      refine bs_iconst (v := 0) (pc' := 89) dX6_allocate_88 (by decide) rfl ?_
      refine bs_iload_n (pc' := 90) dX6_allocate_89 rfl rfl ?_
      refine bs_iconst (v := 0) (pc' := 91) dX6_allocate_90 (by decide) rfl ?_
      refine bs_iconst (v := 0) (pc' := 92) dX6_allocate_91 (by decide) rfl ?_
      refine bs_callV (N := mX6_insert) (pc' := 95) dX6_allocate_92 km_X6_103 ko_X6_insert (sm_insert (pl := 0) hA hc (by rw [h4]; rfl) (by rw [h4]; decide) (Nat.zero_le _)) mh_y rfl rfl rfl (by omega) (Nat.le_refl _) (Nat.le_refl _) rfl ?_
      rintro _ _ ⟨rfl, rfl⟩
      refine bs_iinc (pc' := 98) (lv' := [(0, _), (1, _), (2, _), (3, _), (4, _)]) dX6_allocate_95 rfl (nI_i1 i) rfl rfl rfl ?_
      refine bs_goto (tgt := 74) dX6_allocate_98 rfl ?_
      have e := ih (i + 1) (by omega) (fun c h1 h2 => by show ins (inl τ a p i) (8 * a + i) 0 p 0 0 4 c = 0; rw [ins_4]; show (if c = 8 * a + i then _ else _) = _; rw [if_neg (by omega)]; exact hz c (by omega) h2)
      exact e
  refine bs_iload_n (pc' := 1) dX6_allocate_0 rfl rfl ?_
  refine bs_iconst (v := 1) (pc' := 2) dX6_allocate_1 (by decide) rfl ?_
  refine bs_bipush (v := 8) (pc' := 4) dX6_allocate_2 (by decide) rfl ?_
  refine bs_callS (N := mX6_in) (pc' := 7) dX6_allocate_4 km_X6_67 ko_X6_in sm_in rfl rfl rfl (by omega) (Nat.le_refl _) (Nat.le_refl _) rfl ?_
  rintro _ _ ⟨rfl, rfl⟩
  refine bs_if_ne (tgt := 17) (pc' := 10) dX6_allocate_7 rfl rfl (fun c7 => ?_) (fun c7 => ?_)
  · rw [bI_n0, decide_eq_true_eq] at c7
    refine bs_aload_n (pc' := 18) dX6_allocate_17 rfl rfl rfl ?_
    refine bs_getf (pc' := 21) kf_X6_97 dX6_allocate_18 mh_y rfl rfl ?_
    refine bs_bipush (v := 10) (pc' := 23) dX6_allocate_21 (by decide) rfl ?_
    refine bs_icmp_eq (tgt := 35) (pc' := 26) dX6_allocate_23 rfl rfl (fun c23 => ?_) (fun c23 => ?_)
    · refine bs_aload_n (pc' := 36) dX6_allocate_35 rfl rfl rfl ?_
      refine bs_bipush (v := (-4)) (pc' := 38) dX6_allocate_36 (by decide) rfl ?_
      refine bs_callV (N := mX6_error) (pc' := 41) dX6_allocate_38 km_X6_93 ko_X6_error (sm_error 2 (by decide) (by decide) hA) mh_y rfl rfl rfl (by omega) (Nat.le_refl _) (Nat.le_refl _) rfl ?_
      rintro _ _ ⟨rfl, rfl⟩
      have e : s_alloc σ m = (-4, err σ 2) := by rw [s_alloc, if_pos c7, if_pos (by first | exact Or.inl c23 | exact Or.inr c32)]
      exact bs_iret dX6_allocate_41 rfl ⟨by rw [e], by rw [e]; rfl⟩
    · refine bs_aload_n (pc' := 27) dX6_allocate_26 rfl rfl rfl ?_
      refine bs_getf (pc' := 30) kf_X6_64 dX6_allocate_27 mh_y rfl rfl ?_
      refine bs_bipush (v := 60) (pc' := 32) dX6_allocate_30 (by decide) rfl ?_
      refine bs_icmp_ne (tgt := 42) (pc' := 35) dX6_allocate_32 rfl rfl (fun c32 => ?_) (fun c32 => ?_)
      · have e : s_alloc σ m = (σ 8 0, alc σ m) := by rw [s_alloc, if_pos c7, if_neg (fun q => q.elim c23 c32)]
        have ha : zN (σ 0 0) < 10 := by
          rcases Nat.lt_or_ge (zN (σ 0 0)) 10 with q | q
          · exact q
          · exact absurd (by rw [hnA.1, show zN (σ 0 0) = 10 by have := hnA.2; omega]; rfl) c23
        have hp : zN (σ 8 0) < 60 := by
          rcases Nat.lt_or_ge (zN (σ 8 0)) 60 with q | q
          · exact q
          · exact absurd (by rw [hnP.1, show zN (σ 8 0) = 60 by have := hnP.2; omega]; rfl) c32
        obtain ⟨n, hn, rfl⟩ : ∃ n, n ≤ 8 ∧ m = nI n := by
          obtain ⟨n, h1, h2⟩ := nI_of2 (x := m) (M := 8) (n := 8) rfl (by rw [Int32.not_lt]; exact Int32.le_trans (by decide) c7.1) c7.2
          exact ⟨n, h1, h2⟩
        have hzn : zN (nI n) = n := zN_nI (by omega)
        refine bs_aload_n (pc' := 43) dX6_allocate_42 rfl rfl rfl ?_
        refine bs_getf (pc' := 46) kf_X6_97 dX6_allocate_43 mh_y rfl rfl ?_
        refine bs_istore_n (pc' := 47) (lv' := [(0, _), (1, _), (2, _)]) dX6_allocate_46 rfl rfl rfl ?_
        refine bs_aload_n (pc' := 48) dX6_allocate_47 rfl rfl rfl ?_
        refine bs_dup (pc' := 49) dX6_allocate_48 rfl rfl ?_
        refine bs_getf (pc' := 52) kf_X6_97 dX6_allocate_49 mh_y rfl rfl ?_
        refine bs_iconst (v := 1) (pc' := 53) dX6_allocate_52 (by decide) rfl ?_
        refine bs_iadd (pc' := 54) dX6_allocate_53 rfl ?_
        refine bm_put (pc' := 57) kf_X6_97 dX6_allocate_54 rfl rfl rfl rfl ?_
        refine bs_aload_n (pc' := 58) dX6_allocate_57 rfl rfl rfl ?_
        refine bs_getf (pc' := 61) kf_X6_7 dX6_allocate_58 mh_y rfl rfl ?_
        refine bs_iload_n (pc' := 62) dX6_allocate_61 rfl rfl ?_
        refine bs_iload_n (pc' := 63) dX6_allocate_62 rfl rfl ?_
        refine bm_ast (pc' := 64) dX6_allocate_63 hA rfl rfl (zN (σ 0 0)) hnA.1 ha rfl ?_
        refine bs_aload_n (pc' := 65) dX6_allocate_64 rfl rfl rfl ?_
        refine bs_iload_n (pc' := 66) dX6_allocate_65 rfl rfl ?_
        refine bs_iconst (v := (-1)) (pc' := 67) dX6_allocate_66 (by decide) rfl ?_
        refine bs_callV (N := mX6_newPointer) (pc' := 70) dX6_allocate_67 km_X6_100 ko_X6_newPointer (sm_newPointer hA hnP.1 hp) mh_y rfl rfl rfl (by omega) (Nat.le_refl _) (Nat.le_refl _) rfl ?_
        rintro _ _ ⟨rfl, rfl⟩
        refine bs_istore_n (pc' := 71) (lv' := [(0, _), (1, _), (2, _), (3, _)]) dX6_allocate_70 rfl rfl rfl ?_
        refine bs_iconst (v := 0) (pc' := 72) dX6_allocate_71 (by decide) rfl ?_
        refine bs_istore (pc' := 74) (lv' := [(0, _), (1, _), (2, _), (3, _), (4, _)]) dX6_allocate_72 rfl rfl rfl ?_
        have h4 : ∀ c, 8 * zN (σ 0 0) ≤ c → c < 80 → nwP (ms_u (ms_u σ 0 0 (σ 0 0 + 1)) 1 (zN (σ 0 0)) (nI n)) (σ 0 0) (-1) 4 c = 0 := fun c h1 h2 => hI.s0 h1 h2
        have l := loop (nwP (ms_u (ms_u σ 0 0 (σ 0 0 + 1)) 1 (zN (σ 0 0)) (nI n)) (σ 0 0) (-1)) (zN (σ 0 0)) n (σ 8 0) ha hn h4 n 0 (Nat.zero_add _) (fun c h1 h2 => h4 c (by omega) h2)
        rw [e]
        unfold alc
        rw [hzn]
        rw [← hnA.1] at l
        exact l
      · refine bs_aload_n (pc' := 36) dX6_allocate_35 rfl rfl rfl ?_
        refine bs_bipush (v := (-4)) (pc' := 38) dX6_allocate_36 (by decide) rfl ?_
        refine bs_callV (N := mX6_error) (pc' := 41) dX6_allocate_38 km_X6_93 ko_X6_error (sm_error 2 (by decide) (by decide) hA) mh_y rfl rfl rfl (by omega) (Nat.le_refl _) (Nat.le_refl _) rfl ?_
        rintro _ _ ⟨rfl, rfl⟩
        have e : s_alloc σ m = (-4, err σ 2) := by rw [s_alloc, if_pos c7, if_pos (by first | exact Or.inl c23 | exact Or.inr c32)]
        exact bs_iret dX6_allocate_41 rfl ⟨by rw [e], by rw [e]; rfl⟩
  · refine bs_aload_n (pc' := 11) dX6_allocate_10 rfl rfl rfl ?_
    refine bs_bipush (v := (-2)) (pc' := 13) dX6_allocate_11 (by decide) rfl ?_
    refine bs_callV (N := mX6_error) (pc' := 16) dX6_allocate_13 km_X6_93 ko_X6_error (sm_error 0 (by decide) (by decide) hA) mh_y rfl rfl rfl (by omega) (Nat.le_refl _) (Nat.le_refl _) rfl ?_
    rintro _ _ ⟨rfl, rfl⟩
    have e : s_alloc σ m = (-2, err σ 0) := if_neg (by rw [bI_0, decide_eq_false_iff_not] at c7; exact c7)
    exact bs_iret dX6_allocate_16 rfl ⟨by rw [e], by rw [e]; rfl⟩
end Model3
end
section
section Model4
variable {G : GG} {h0 : Hp} {y : Nat} {A : Nat → Nat} {σ : MS} {hs : Int64}
theorem sm_reborrow {p kd fr ct pr : Int32} (hA : mOk y A) (hI : mInv σ) : mSp G h0 y A σ hs mX6_reborrow 3 [.int p, .int kd, .int fr, .int ct, .int pr] (mQ2 G h0 y A hs (s_reb σ p kd fr ct pr)) := by
  have hnP := hI.nP
  refine bs_Sp.of (by decide) rfl ?_
  have key : ∀ j i0 n, p = nI j → fr = nI i0 → ct = nI n → isPc σ j i0 → i0 + n ≤ zN (σ 1 (zN (σ 9 j))) → isC σ p fr = true → (0 ≤ kd ∧ kd ≤ 2) → (0 ≤ pr ∧ pr ≤ 1) → (1 ≤ ct ∧ ct ≤ σ 1 (zN (σ 9 (zN p))) - fr) → ¬ (pr = 1 ∧ σ 11 0 = 0) → mB G h0 y A σ hs mX6_reborrow 3 84 [(0, .ref y), (1, .int p), (2, .int kd), (3, .int fr), (4, .int ct), (5, .int pr)] [] (mQ2 G h0 y A hs (s_reb σ p kd fr ct pr)) := by
    intro j i0 n ep ef ec hp hin hC hk hr hct hrej
    have h60 := hI.p60 hp.1
    have hcl := (hI.cl (hI.ow hp.1).2).1.2
    have hz1 : zN p = j := by rw [ep]; exact zN_nI (by omega)
    have hz2 : zN fr = i0 := by rw [ef]; exact zN_nI (by omega)
    have hz3 : zN ct = n := by rw [ec]; exact zN_nI (by omega)
    have hpc : ∀ i, i < i0 + n → isPc σ j i := fun i hi => ⟨hp.1, by omega⟩
    have hc80 : ∀ i, i < i0 + n → cO σ j i < 80 := fun i hi => (hI.cell (hpc i hi)).2
    have es : s_reb σ p kd fr ct pr = match fsV (rbK σ j kd) n i0 with
        | some i => (-5, vio σ (rbK σ j kd i) (nI i))
        | none => if σ 8 0 < 60 ∧ fit σ j kd n i0 = true then (σ 8 0, nwP (pts σ j kd (if pr = 1 then σ 11 0 else 0) n i0) (σ 9 j) p) else (-4, err σ 2) := by
      rw [s_reb, if_pos ⟨hC, hk, hr, hct⟩, if_neg hrej, hz1, hz2, hz3]
      rfl
    have esum : fr + ct = nI (i0 + n) := by rw [ef, ec, nI_add]
    -- the third loop: the items come
    have loop3 : fsV (rbK σ j kd) n i0 = none → σ 8 0 < 60 → fit σ j kd n i0 = true → ∀ f i (τ : MS) (w : Int32), i + f = i0 + n → i0 ≤ i → mInv τ → (∀ k, ¬ (k = 4 ∨ k = 5 ∨ k = 6 ∨ k = 7) → τ k = σ k) → (∀ i', i ≤ i' → i' < i0 + n → eqC σ τ (cO σ j i')) → pts σ j kd (if pr = 1 then σ 11 0 else 0) n i0 = pts τ j kd (if pr = 1 then σ 11 0 else 0) f i → mB G h0 y A τ hs mX6_reborrow 3 200 [(0, .ref y), (1, .int p), (2, .int kd), (3, .int fr), (4, .int ct), (5, .int pr), (6, .int w), (7, .int (nI i))] [] (mQ2 G h0 y A hs (s_reb σ p kd fr ct pr)) := by
      intro hv hlt hfit f
      have e : s_reb σ p kd fr ct pr = (σ 8 0, nwP (pts σ j kd (if pr = 1 then σ 11 0 else 0) n i0) (σ 9 j) p) := by
        rw [es, hv]
        exact if_pos ⟨hlt, hfit⟩
      have hlt' : zN (σ 8 0) < 60 := by
        rw [hnP.1, show (60 : Int32) = nI 60 from rfl, nI_ltI (by have := hnP.2; omega) (by decide)] at hlt
        exact hlt
      induction f with
      | zero =>
        intro i τ w hi hii hIt hk τe hpts
        have e8 := hk 8 (by decide)
        have e9 := hk 9 (by decide)
        refine bs_iload (pc' := 202) dX6_reborrow_200 rfl rfl ?_
        refine bs_iload_n (pc' := 203) dX6_reborrow_202 rfl rfl ?_
        refine bs_iload (pc' := 205) dX6_reborrow_203 rfl rfl ?_
        refine bs_iadd (pc' := 206) dX6_reborrow_205 rfl ?_
        refine bs_icmp_ge (tgt := 237) (pc' := 209) dX6_reborrow_206 rfl rfl (fun _ => ?_) (fun c206 => absurd (by rw [esum]; exact nI_le (by omega) (by omega)) c206)
        refine bs_aload_n (pc' := 238) dX6_reborrow_237 rfl rfl rfl ?_
        refine bs_aload_n (pc' := 239) dX6_reborrow_238 rfl rfl rfl ?_
        refine bs_getf (pc' := 242) kf_X6_32 dX6_reborrow_239 mh_y rfl rfl ?_
        refine bs_iload_n (pc' := 243) dX6_reborrow_242 rfl rfl ?_
        refine bm_ald (pc' := 244) dX6_reborrow_243 hA rfl rfl j ep h60 rfl ?_
        refine bs_iload_n (pc' := 245) dX6_reborrow_244 rfl rfl ?_
        refine bs_callV (N := mX6_newPointer) (pc' := 248) dX6_reborrow_245 km_X6_100 ko_X6_newPointer (sm_newPointer hA (by rw [e8]; exact hnP.1) (by rw [e8]; exact hlt')) mh_y rfl rfl rfl (by omega) (Nat.le_refl _) (Nat.le_refl _) rfl ?_
        rintro _ _ ⟨rfl, rfl⟩
        exact bs_iret dX6_reborrow_248 rfl ⟨by rw [e, e8], by rw [e, hpts, e9]; rfl⟩
      | succ f ih =>
        intro i τ w hi hii hIt hk τe hpts
        have e8 := hk 8 (by decide)
        have e9 := hk 9 (by decide)
        have e1 := hk 1 (by decide)
        have e11 := hk 11 (by decide)
        have hi' : i < i0 + n := by omega
        have hn12 := (hI.sz (hc80 i hi')).2
        have hpt : isPc τ j i := isPc_of (hpc i hi') e8 e9 e1
        have hrb : rbK σ j kd i = 0 := fsV_none hv i hii (by omega)
        have hg : ¬ kd = 1 → ∃ k, gr τ (cO τ j i) (nI j) true = some k := fun h => by
          rw [cO_of e9, gr_cong (τe i (Nat.le_refl _) hi') hn12]
          exact pt_gr hrb h
        have hsz : szB τ j kd i ≤ 12 := by
          rw [szB_cong e9 hn12 (τe i (Nat.le_refl _) hi')]
          exact fit_all hfit i hii (by omega)
        have j228 : ∀ z, z = (if pr = 1 then σ 11 0 else 0) → mB G h0 y A τ hs mX6_reborrow 3 228 [(0, .ref y), (1, .int p), (2, .int kd), (3, .int fr), (4, .int ct), (5, .int pr), (6, .int w), (7, .int (nI i))] [.int z, .int (nI i), .int kd, .int p, .ref y] (mQ2 G h0 y A hs (s_reb σ p kd fr ct pr)) := by
          intro z hz
          obtain ⟨o1, o2, o3⟩ := pt_ok (g := z) hIt hpt hg hsz
          rw [ep]
          refine bs_callV (N := mX6_put) (pc' := 231) dX6_reborrow_228 km_X6_137 ko_X6_put (sm_put hA hIt hpt hg hsz) mh_y rfl rfl rfl (by omega) (Nat.le_refl _) (Nat.le_refl _) rfl ?_
          rintro _ _ ⟨rfl, rfl⟩
          rw [← ep]
          refine bs_iinc (pc' := 234) (lv' := [(0, _), (1, _), (2, _), (3, _), (4, _), (5, _), (6, _), (7, _)]) dX6_reborrow_231 rfl (nI_i1 i) rfl rfl rfl ?_
          refine bs_goto (tgt := 200) dX6_reborrow_234 rfl ?_
          exact ih (i + 1) (pt τ j kd i z) w (by omega) (by omega) o1 (fun k h => (o2 k h).trans (hk k h)) (fun i' h1 h2 => eqC.trans (τe i' (by omega) h2) (o3 _ (by rw [cO_of e9]; unfold cO; omega))) (by rw [hpts, hz]; rfl)
        refine bs_iload (pc' := 202) dX6_reborrow_200 rfl rfl ?_
        refine bs_iload_n (pc' := 203) dX6_reborrow_202 rfl rfl ?_
        refine bs_iload (pc' := 205) dX6_reborrow_203 rfl rfl ?_
        refine bs_iadd (pc' := 206) dX6_reborrow_205 rfl ?_
        refine bs_icmp_ge (tgt := 237) (pc' := 209) dX6_reborrow_206 rfl rfl (fun c206 => absurd c206 (by rw [esum]; exact nI_ge (by omega) (by omega))) (fun _ => ?_)
        refine bs_aload_n (pc' := 210) dX6_reborrow_209 rfl rfl rfl ?_
        refine bs_iload_n (pc' := 211) dX6_reborrow_210 rfl rfl ?_
        refine bs_iload_n (pc' := 212) dX6_reborrow_211 rfl rfl ?_
        refine bs_iload (pc' := 214) dX6_reborrow_212 rfl rfl ?_
        refine bs_iload (pc' := 216) dX6_reborrow_214 rfl rfl ?_
        refine bs_iconst (v := 1) (pc' := 217) dX6_reborrow_216 (by decide) rfl ?_
        refine bs_icmp_ne (tgt := 227) (pc' := 220) dX6_reborrow_217 rfl rfl (fun c217 => ?_) (fun c217 => ?_)
        · refine bs_iconst (v := 0) (pc' := 228) dX6_reborrow_227 (by decide) rfl ?_
          exact j228 _ (by first | rw [if_pos c217, e11] | rw [if_neg c217])
        · refine bs_aload_n (pc' := 221) dX6_reborrow_220 rfl rfl rfl ?_
          refine bs_getf (pc' := 224) kf_X6_127 dX6_reborrow_221 mh_y rfl rfl ?_
          refine bs_goto (tgt := 228) dX6_reborrow_224 rfl ?_
          exact j228 _ (by first | rw [if_pos c217, e11] | rw [if_neg c217])
    -- the second loop: is there room
    have loop2 : fsV (rbK σ j kd) n i0 = none → ∀ f i b, i + f = i0 + n → i0 ≤ i → (decide (σ 8 0 < 60) && fit σ j kd n i0) = (b && fit σ j kd f i) → mB G h0 y A σ hs mX6_reborrow 3 145 [(0, .ref y), (1, .int p), (2, .int kd), (3, .int fr), (4, .int ct), (5, .int pr), (6, .int (bI b)), (7, .int (nI i))] [] (mQ2 G h0 y A hs (s_reb σ p kd fr ct pr)) := by
      intro hv f
      induction f with
      | zero =>
        intro i b hi hii hb
        have hb : (decide (σ 8 0 < 60) && fit σ j kd n i0) = b := by rw [hb]; unfold fit; exact Bool.and_true b
        refine bs_iload (pc' := 147) dX6_reborrow_145 rfl rfl ?_
        refine bs_iload_n (pc' := 148) dX6_reborrow_147 rfl rfl ?_
        refine bs_iload (pc' := 150) dX6_reborrow_148 rfl rfl ?_
        refine bs_iadd (pc' := 151) dX6_reborrow_150 rfl ?_
        refine bs_icmp_ge (tgt := 185) (pc' := 154) dX6_reborrow_151 rfl rfl (fun _ => ?_) (fun c151 => absurd (by rw [esum]; exact nI_le (by omega) (by omega)) c151)
        refine bs_iload (pc' := 187) dX6_reborrow_185 rfl rfl ?_
        refine bs_if_ne (tgt := 197) (pc' := 190) dX6_reborrow_187 rfl rfl (fun c187 => ?_) (fun c187 => ?_)
        · refine bs_iload_n (pc' := 198) dX6_reborrow_197 rfl rfl ?_
          refine bs_istore (pc' := 200) (lv' := [(0, _), (1, _), (2, _), (3, _), (4, _), (5, _), (6, _), (7, _)]) dX6_reborrow_198 rfl rfl rfl ?_
          rw [bI_n0] at c187
          rw [c187, Bool.and_eq_true, decide_eq_true_eq] at hb
          have l := loop3 hv hb.1 hb.2 n i0 σ (bI b) rfl (Nat.le_refl _) hI (fun _ _ => rfl) (fun _ _ _ => eqC.refl _ _) rfl
          rw [← ef] at l
          exact l
        · refine bs_aload_n (pc' := 191) dX6_reborrow_190 rfl rfl rfl ?_
          refine bs_bipush (v := (-4)) (pc' := 193) dX6_reborrow_191 (by decide) rfl ?_
          refine bs_callV (N := mX6_error) (pc' := 196) dX6_reborrow_193 km_X6_93 ko_X6_error (sm_error 2 (by decide) (by decide) hA) mh_y rfl rfl rfl (by omega) (Nat.le_refl _) (Nat.le_refl _) rfl ?_
          rintro _ _ ⟨rfl, rfl⟩
          have e : s_reb σ p kd fr ct pr = (-4, err σ 2) := by
            rw [es, hv]
            rw [bI_0] at c187
            exact if_neg (fun q => by rw [c187, decide_eq_true q.1, q.2] at hb; exact absurd hb (by decide))
          exact bs_iret dX6_reborrow_196 rfl ⟨by rw [e], by rw [e]; rfl⟩
      | succ f ih =>
        intro i b hi hii hb
        have hi' : i < i0 + n := by omega
        have hrb : rbK σ j kd i = 0 := fsV_none hv i hii (by omega)
        have hn12 := (hI.sz (hc80 i hi')).2
        have hsz13 : szB σ j kd i ≤ 13 := by
          unfold szB
          split
          · split
            · omega
            · next k hg =>
              have : ab σ (cO σ j i) k ≤ _ := (abf_le (pm := fun k => σ 6 (12 * cO σ j i + k)) (grf_lt hg)).2
              omega
          · omega
        have j177 : ∀ z, z = bI (b && decide (szB σ j kd i ≤ 12)) → mB G h0 y A σ hs mX6_reborrow 3 177 [(0, .ref y), (1, .int p), (2, .int kd), (3, .int fr), (4, .int ct), (5, .int pr), (6, .int (bI b)), (7, .int (nI i))] [.int z] (mQ2 G h0 y A hs (s_reb σ p kd fr ct pr)) := by
          intro z hz
          subst hz
          refine bs_istore (pc' := 179) (lv' := [(0, _), (1, _), (2, _), (3, _), (4, _), (5, _), (6, _), (7, _)]) dX6_reborrow_177 rfl rfl rfl ?_
          refine bs_iinc (pc' := 182) (lv' := [(0, _), (1, _), (2, _), (3, _), (4, _), (5, _), (6, _), (7, _)]) dX6_reborrow_179 rfl (nI_i1 i) rfl rfl rfl ?_
          refine bs_goto (tgt := 145) dX6_reborrow_182 rfl ?_
          exact ih (i + 1) _ (by omega) (by omega) (by rw [hb, Bool.and_assoc]; rfl)
        refine bs_iload (pc' := 147) dX6_reborrow_145 rfl rfl ?_
        refine bs_iload_n (pc' := 148) dX6_reborrow_147 rfl rfl ?_
        refine bs_iload (pc' := 150) dX6_reborrow_148 rfl rfl ?_
        refine bs_iadd (pc' := 151) dX6_reborrow_150 rfl ?_
        refine bs_icmp_ge (tgt := 185) (pc' := 154) dX6_reborrow_151 rfl rfl (fun c151 => absurd c151 (by rw [esum]; exact nI_ge (by omega) (by omega))) (fun _ => ?_)
        refine bs_iload (pc' := 156) dX6_reborrow_154 rfl rfl ?_
        refine bs_if_eq (tgt := 176) (pc' := 159) dX6_reborrow_156 rfl rfl (fun c156 => ?_) (fun c156 => ?_)
        · refine bs_iconst (v := 0) (pc' := 177) dX6_reborrow_176 (by decide) rfl ?_
          exact j177 _ (by first | (rw [bI_0] at c156; rw [c156]; rfl) | (rw [bI_n0] at c156; rw [c156]; rw [show (12 : Int32) = nI 12 from rfl, nI_ltI (by decide) (by omega)] at c169; first | (rw [decide_eq_false (by omega)]; rfl) | (rw [decide_eq_true (by omega)]; rfl)))
        · rw [ep]
          refine bs_aload_n (pc' := 160) dX6_reborrow_159 rfl rfl rfl ?_
          refine bs_iload_n (pc' := 161) dX6_reborrow_160 rfl rfl ?_
          refine bs_iload_n (pc' := 162) dX6_reborrow_161 rfl rfl ?_
          refine bs_iload (pc' := 164) dX6_reborrow_162 rfl rfl ?_
          refine bs_callV (N := mX6_sizeBy) (pc' := 167) dX6_reborrow_164 km_X6_134 ko_X6_sizeBy (sm_sizeBy hA hI (hpc i hi') (fun h => pt_gr hrb (by rw [h]; decide))) mh_y rfl rfl rfl (by omega) (Nat.le_refl _) (Nat.le_refl _) rfl ?_
          rintro _ _ ⟨rfl, rfl⟩
          rw [← ep]
          refine bs_bipush (v := 12) (pc' := 169) dX6_reborrow_167 (by decide) rfl ?_
          refine bs_icmp_gt (tgt := 176) (pc' := 172) dX6_reborrow_169 rfl rfl (fun c169 => ?_) (fun c169 => ?_)
          · refine bs_iconst (v := 0) (pc' := 177) dX6_reborrow_176 (by decide) rfl ?_
            exact j177 _ (by first | (rw [bI_0] at c156; rw [c156]; rfl) | (rw [bI_n0] at c156; rw [c156]; rw [show (12 : Int32) = nI 12 from rfl, nI_ltI (by decide) (by omega)] at c169; first | (rw [decide_eq_false (by omega)]; rfl) | (rw [decide_eq_true (by omega)]; rfl)))
          · refine bs_iconst (v := 1) (pc' := 173) dX6_reborrow_172 (by decide) rfl ?_
            refine bs_goto (tgt := 177) dX6_reborrow_173 rfl ?_
            exact j177 _ (by first | (rw [bI_0] at c156; rw [c156]; rfl) | (rw [bI_n0] at c156; rw [c156]; rw [show (12 : Int32) = nI 12 from rfl, nI_ltI (by decide) (by omega)] at c169; first | (rw [decide_eq_false (by omega)]; rfl) | (rw [decide_eq_true (by omega)]; rfl)))
    -- the first loop: violations
    have loop1 : ∀ f i, i + f = i0 + n → i0 ≤ i → fsV (rbK σ j kd) n i0 = fsV (rbK σ j kd) f i → mB G h0 y A σ hs mX6_reborrow 3 87 [(0, .ref y), (1, .int p), (2, .int kd), (3, .int fr), (4, .int ct), (5, .int pr), (6, .int (nI i))] [] (mQ2 G h0 y A hs (s_reb σ p kd fr ct pr)) := by
      intro f
      induction f with
      | zero =>
        intro i hi hii hf
        have hv : fsV (rbK σ j kd) n i0 = none := hf
        refine bs_iload (pc' := 89) dX6_reborrow_87 rfl rfl ?_
        refine bs_iload_n (pc' := 90) dX6_reborrow_89 rfl rfl ?_
        refine bs_iload (pc' := 92) dX6_reborrow_90 rfl rfl ?_
        refine bs_iadd (pc' := 93) dX6_reborrow_92 rfl ?_
        refine bs_icmp_ge (tgt := 126) (pc' := 96) dX6_reborrow_93 rfl rfl (fun _ => ?_) (fun c93 => absurd (by rw [esum]; exact nI_le (by omega) (by omega)) c93)
        refine bs_aload_n (pc' := 127) dX6_reborrow_126 rfl rfl rfl ?_
        refine bs_getf (pc' := 130) kf_X6_64 dX6_reborrow_127 mh_y rfl rfl ?_
        refine bs_bipush (v := 60) (pc' := 132) dX6_reborrow_130 (by decide) rfl ?_
        refine bs_icmp_ge (tgt := 139) (pc' := 135) dX6_reborrow_132 rfl rfl (fun c132 => ?_) (fun c132 => ?_)
        · refine bs_iconst (v := 0) (pc' := 140) dX6_reborrow_139 (by decide) rfl ?_
          have l := loop2 hv n i0 (decide (σ 8 0 < 60)) rfl (Nat.le_refl _) rfl
          rw [← ef] at l
          refine bs_topi (bI (decide (σ 8 0 < 60))) (by first | (rw [decide_eq_false (Int32.not_lt.mpr c132)]; rfl) | (rw [decide_eq_true (Int32.not_le.mp c132)]; rfl)) ?_
          refine bs_istore (pc' := 142) (lv' := [(0, _), (1, _), (2, _), (3, _), (4, _), (5, _), (6, _)]) dX6_reborrow_140 rfl rfl rfl ?_
          refine bs_iload_n (pc' := 143) dX6_reborrow_142 rfl rfl ?_
          refine bs_istore (pc' := 145) (lv' := [(0, _), (1, _), (2, _), (3, _), (4, _), (5, _), (6, _), (7, _)]) dX6_reborrow_143 rfl rfl rfl ?_
          exact l
        · refine bs_iconst (v := 1) (pc' := 136) dX6_reborrow_135 (by decide) rfl ?_
          refine bs_goto (tgt := 140) dX6_reborrow_136 rfl ?_
          have l := loop2 hv n i0 (decide (σ 8 0 < 60)) rfl (Nat.le_refl _) rfl
          rw [← ef] at l
          refine bs_topi (bI (decide (σ 8 0 < 60))) (by first | (rw [decide_eq_false (Int32.not_lt.mpr c132)]; rfl) | (rw [decide_eq_true (Int32.not_le.mp c132)]; rfl)) ?_
          refine bs_istore (pc' := 142) (lv' := [(0, _), (1, _), (2, _), (3, _), (4, _), (5, _), (6, _)]) dX6_reborrow_140 rfl rfl rfl ?_
          refine bs_iload_n (pc' := 143) dX6_reborrow_142 rfl rfl ?_
          refine bs_istore (pc' := 145) (lv' := [(0, _), (1, _), (2, _), (3, _), (4, _), (5, _), (6, _), (7, _)]) dX6_reborrow_143 rfl rfl rfl ?_
          exact l
      | succ f ih =>
        intro i hi hii hf
        have hi' : i < i0 + n := by omega
        refine bs_iload (pc' := 89) dX6_reborrow_87 rfl rfl ?_
        refine bs_iload_n (pc' := 90) dX6_reborrow_89 rfl rfl ?_
        refine bs_iload (pc' := 92) dX6_reborrow_90 rfl rfl ?_
        refine bs_iadd (pc' := 93) dX6_reborrow_92 rfl ?_
        refine bs_icmp_ge (tgt := 126) (pc' := 96) dX6_reborrow_93 rfl rfl (fun c93 => absurd c93 (by rw [esum]; exact nI_ge (by omega) (by omega))) (fun _ => ?_)
        rw [ep]
        refine bs_aload_n (pc' := 97) dX6_reborrow_96 rfl rfl rfl ?_
        refine bs_iload_n (pc' := 98) dX6_reborrow_97 rfl rfl ?_
        refine bs_iload_n (pc' := 99) dX6_reborrow_98 rfl rfl ?_
        refine bs_iload (pc' := 101) dX6_reborrow_99 rfl rfl ?_
        refine bs_callV (N := mX6_reborrowKind) (pc' := 104) dX6_reborrow_101 km_X6_130 ko_X6_reborrowKind (sm_reborrowKind hA hI (hpc i hi')) mh_y rfl rfl rfl (by omega) (Nat.le_refl _) (Nat.le_refl _) rfl ?_
        rintro _ _ ⟨rfl, rfl⟩
        rw [← ep]
        refine bs_istore (pc' := 106) (lv' := [(0, _), (1, _), (2, _), (3, _), (4, _), (5, _), (6, _), (7, _)]) dX6_reborrow_104 rfl rfl rfl ?_
        refine bs_iload (pc' := 108) dX6_reborrow_106 rfl rfl ?_
        refine bs_if_eq (tgt := 120) (pc' := 111) dX6_reborrow_108 rfl rfl (fun c108 => ?_) (fun c108 => ?_)
        · refine bs_iinc (pc' := 123) (lv' := [(0, _), (1, _), (2, _), (3, _), (4, _), (5, _), (6, _), (7, _)]) dX6_reborrow_120 rfl (nI_i1 i) rfl rfl rfl ?_
          refine bs_goto (tgt := 87) dX6_reborrow_123 rfl ?_
          refine bs_sub (lv' := [(0, _), (1, _), (2, _), (3, _), (4, _), (5, _), (6, _)]) [0, 1, 2, 3, 4, 5, 6] rfl ?_
          exact ih (i + 1) (by omega) (by omega) (by rw [hf]; show fsV (rbK σ j kd) (f + 1) i = _; unfold fsV; rw [if_pos c108]; cases f <;> rfl)
        · refine bs_aload_n (pc' := 112) dX6_reborrow_111 rfl rfl rfl ?_
          refine bs_iload (pc' := 114) dX6_reborrow_112 rfl rfl ?_
          refine bs_iload (pc' := 116) dX6_reborrow_114 rfl rfl ?_
          refine bs_callV (N := mX6_violate) (pc' := 119) dX6_reborrow_116 km_X6_114 ko_X6_violate (sm_violate hA) mh_y rfl rfl rfl (by omega) (Nat.le_refl _) (Nat.le_refl _) rfl ?_
          rintro _ _ ⟨rfl, rfl⟩
          have e : s_reb σ p kd fr ct pr = (-5, vio σ (rbK σ j kd i) (nI i)) := by
            have e1 : fsV (rbK σ j kd) (f + 1) i = some i := by unfold fsV; rw [if_neg c108]
            rw [es, hf, e1]
          exact bs_iret dX6_reborrow_119 rfl ⟨by rw [e], by rw [e]; rfl⟩
    refine bs_iload_n (pc' := 85) dX6_reborrow_84 rfl rfl ?_
    refine bs_istore (pc' := 87) (lv' := [(0, _), (1, _), (2, _), (3, _), (4, _), (5, _), (6, _)]) dX6_reborrow_85 rfl rfl rfl ?_
    have l := loop1 n i0 rfl (Nat.le_refl _) rfl
    rw [← ef] at l
    exact l
  refine bs_aload_n (pc' := 1) dX6_reborrow_0 rfl rfl rfl ?_
  refine bs_iload_n (pc' := 2) dX6_reborrow_1 rfl rfl ?_
  refine bs_iload_n (pc' := 3) dX6_reborrow_2 rfl rfl ?_
  refine bs_callV (N := mX6_isCell) (pc' := 6) dX6_reborrow_3 km_X6_107 ko_X6_isCell (sm_isCell hA hI) mh_y rfl rfl rfl (by omega) (Nat.le_refl _) (Nat.le_refl _) rfl ?_
  rintro _ _ ⟨rfl, rfl⟩
  refine bs_if_eq (tgt := 28) (pc' := 9) dX6_reborrow_6 rfl rfl (fun c6 => ?_) (fun c6 => ?_)
  · refine bs_aload_n (pc' := 29) dX6_reborrow_28 rfl rfl rfl ?_
    refine bs_bipush (v := (-2)) (pc' := 31) dX6_reborrow_29 (by decide) rfl ?_
    refine bs_callV (N := mX6_error) (pc' := 34) dX6_reborrow_31 km_X6_93 ko_X6_error (sm_error 0 (by decide) (by decide) hA) mh_y rfl rfl rfl (by omega) (Nat.le_refl _) (Nat.le_refl _) rfl ?_
    rintro _ _ ⟨rfl, rfl⟩
    have e : s_reb σ p kd fr ct pr = (-2, err σ 0) := if_neg (by first | (rw [bI_0] at c6; rw [c6]; exact fun q => absurd q.1 (by decide)) | (rw [bI_0, decide_eq_false_iff_not] at c15; exact fun q => c15 q.2.1) | (rw [bI_0, decide_eq_false_iff_not] at c25; exact fun q => c25 q.2.2.1))
    exact bs_iret dX6_reborrow_34 rfl ⟨by rw [e], by rw [e]; rfl⟩
  · refine bs_iload_n (pc' := 10) dX6_reborrow_9 rfl rfl ?_
    refine bs_iconst (v := 0) (pc' := 11) dX6_reborrow_10 (by decide) rfl ?_
    refine bs_iconst (v := 2) (pc' := 12) dX6_reborrow_11 (by decide) rfl ?_
    refine bs_callS (N := mX6_in) (pc' := 15) dX6_reborrow_12 km_X6_67 ko_X6_in sm_in rfl rfl rfl (by omega) (Nat.le_refl _) (Nat.le_refl _) rfl ?_
    rintro _ _ ⟨rfl, rfl⟩
    refine bs_if_eq (tgt := 28) (pc' := 18) dX6_reborrow_15 rfl rfl (fun c15 => ?_) (fun c15 => ?_)
    · refine bs_aload_n (pc' := 29) dX6_reborrow_28 rfl rfl rfl ?_
      refine bs_bipush (v := (-2)) (pc' := 31) dX6_reborrow_29 (by decide) rfl ?_
      refine bs_callV (N := mX6_error) (pc' := 34) dX6_reborrow_31 km_X6_93 ko_X6_error (sm_error 0 (by decide) (by decide) hA) mh_y rfl rfl rfl (by omega) (Nat.le_refl _) (Nat.le_refl _) rfl ?_
      rintro _ _ ⟨rfl, rfl⟩
      have e : s_reb σ p kd fr ct pr = (-2, err σ 0) := if_neg (by first | (rw [bI_0] at c6; rw [c6]; exact fun q => absurd q.1 (by decide)) | (rw [bI_0, decide_eq_false_iff_not] at c15; exact fun q => c15 q.2.1) | (rw [bI_0, decide_eq_false_iff_not] at c25; exact fun q => c25 q.2.2.1))
      exact bs_iret dX6_reborrow_34 rfl ⟨by rw [e], by rw [e]; rfl⟩
    · refine bs_iload (pc' := 20) dX6_reborrow_18 rfl rfl ?_
      refine bs_iconst (v := 0) (pc' := 21) dX6_reborrow_20 (by decide) rfl ?_
      refine bs_iconst (v := 1) (pc' := 22) dX6_reborrow_21 (by decide) rfl ?_
      refine bs_callS (N := mX6_in) (pc' := 25) dX6_reborrow_22 km_X6_67 ko_X6_in sm_in rfl rfl rfl (by omega) (Nat.le_refl _) (Nat.le_refl _) rfl ?_
      rintro _ _ ⟨rfl, rfl⟩
      refine bs_if_ne (tgt := 35) (pc' := 28) dX6_reborrow_25 rfl rfl (fun c25 => ?_) (fun c25 => ?_)
      · rw [bI_n0] at c6 c15 c25
        rw [decide_eq_true_eq] at c15 c25
        obtain ⟨j, i0, ep, ef, hp⟩ := isC_t hI c6
        have h60 := hI.p60 hp.1
        have howe := hI.owe hp.1
        have h10 := hI.ow10 hp.1
        have hcl := (hI.cl (hI.ow hp.1).2).1
        have hcl2 := hcl.2
        have hz1 : zN p = j := by rw [ep]; exact zN_nI (by omega)
        have hp2 := hp.2
        refine bs_iload (pc' := 37) dX6_reborrow_35 rfl rfl ?_
        refine bs_iconst (v := 1) (pc' := 38) dX6_reborrow_37 (by decide) rfl ?_
        refine bs_aload_n (pc' := 39) dX6_reborrow_38 rfl rfl rfl ?_
        refine bs_getf (pc' := 42) kf_X6_7 dX6_reborrow_39 mh_y rfl rfl ?_
        refine bs_aload_n (pc' := 43) dX6_reborrow_42 rfl rfl rfl ?_
        refine bs_getf (pc' := 46) kf_X6_32 dX6_reborrow_43 mh_y rfl rfl ?_
        refine bs_iload_n (pc' := 47) dX6_reborrow_46 rfl rfl ?_
        refine bm_ald (pc' := 48) dX6_reborrow_47 hA rfl rfl j ep h60 rfl ?_
        refine bm_ald (pc' := 49) dX6_reborrow_48 hA rfl rfl (zN (σ 9 j)) howe h10 rfl ?_
        refine bs_iload_n (pc' := 50) dX6_reborrow_49 rfl rfl ?_
        refine bs_isub (pc' := 51) dX6_reborrow_50 rfl ?_
        refine bs_callS (N := mX6_in) (pc' := 54) dX6_reborrow_51 km_X6_67 ko_X6_in sm_in rfl rfl rfl (by omega) (Nat.le_refl _) (Nat.le_refl _) rfl ?_
        rintro _ _ ⟨rfl, rfl⟩
        refine bs_if_ne (tgt := 64) (pc' := 57) dX6_reborrow_54 rfl rfl (fun c54 => ?_) (fun c54 => ?_)
        · rw [bI_n0, decide_eq_true_eq] at c54
          obtain ⟨n, ec, hn⟩ : ∃ n, ct = nI n ∧ i0 + n ≤ zN (σ 1 (zN (σ 9 j))) := by
            have h1 := c54.2
            rw [hcl.1, ef, pk_sub (by omega)] at h1
            obtain ⟨n, a1, a2⟩ := nI_of2 (x := ct) (M := nI (zN (σ 1 (zN (σ 9 j))) - i0)) (n := zN (σ 1 (zN (σ 9 j))) - i0) (nI_toInt (by omega)) (by rw [Int32.not_lt]; exact Int32.le_trans (by decide) c54.1) h1
            exact ⟨n, a2, by omega⟩
          refine bs_iload (pc' := 66) dX6_reborrow_64 rfl rfl ?_
          refine bs_iconst (v := 1) (pc' := 67) dX6_reborrow_66 (by decide) rfl ?_
          refine bs_icmp_ne (tgt := 84) (pc' := 70) dX6_reborrow_67 rfl rfl (fun c67 => ?_) (fun c67 => ?_)
          · exact key j i0 n ep ef ec hp hn c6 c15 c25 (by rw [hz1]; exact c54) (by first | exact fun q => c67 q.1 | exact fun q => c74 q.2)
          · refine bs_aload_n (pc' := 71) dX6_reborrow_70 rfl rfl rfl ?_
            refine bs_getf (pc' := 74) kf_X6_127 dX6_reborrow_71 mh_y rfl rfl ?_
            refine bs_if_ne (tgt := 84) (pc' := 77) dX6_reborrow_74 rfl rfl (fun c74 => ?_) (fun c74 => ?_)
            · exact key j i0 n ep ef ec hp hn c6 c15 c25 (by rw [hz1]; exact c54) (by first | exact fun q => c67 q.1 | exact fun q => c74 q.2)
            · refine bs_aload_n (pc' := 78) dX6_reborrow_77 rfl rfl rfl ?_
              refine bs_bipush (v := (-3)) (pc' := 80) dX6_reborrow_78 (by decide) rfl ?_
              refine bs_callV (N := mX6_error) (pc' := 83) dX6_reborrow_80 km_X6_93 ko_X6_error (sm_error 1 (by decide) (by decide) hA) mh_y rfl rfl rfl (by omega) (Nat.le_refl _) (Nat.le_refl _) rfl ?_
              rintro _ _ ⟨rfl, rfl⟩
              have e : s_reb σ p kd fr ct pr = (-3, err σ 1) := by rw [s_reb, if_pos ⟨c6, c15, c25, by rw [hz1]; exact c54⟩, if_pos ⟨c67, c74⟩]
              exact bs_iret dX6_reborrow_83 rfl ⟨by rw [e], by rw [e]; rfl⟩
        · refine bs_aload_n (pc' := 58) dX6_reborrow_57 rfl rfl rfl ?_
          refine bs_bipush (v := (-2)) (pc' := 60) dX6_reborrow_58 (by decide) rfl ?_
          refine bs_callV (N := mX6_error) (pc' := 63) dX6_reborrow_60 km_X6_93 ko_X6_error (sm_error 0 (by decide) (by decide) hA) mh_y rfl rfl rfl (by omega) (Nat.le_refl _) (Nat.le_refl _) rfl ?_
          rintro _ _ ⟨rfl, rfl⟩
          have e : s_reb σ p kd fr ct pr = (-2, err σ 0) := if_neg (by rw [bI_0, decide_eq_false_iff_not] at c54; rw [hz1]; exact fun q => c54 q.2.2.2)
          exact bs_iret dX6_reborrow_63 rfl ⟨by rw [e], by rw [e]; rfl⟩
      · refine bs_aload_n (pc' := 29) dX6_reborrow_28 rfl rfl rfl ?_
        refine bs_bipush (v := (-2)) (pc' := 31) dX6_reborrow_29 (by decide) rfl ?_
        refine bs_callV (N := mX6_error) (pc' := 34) dX6_reborrow_31 km_X6_93 ko_X6_error (sm_error 0 (by decide) (by decide) hA) mh_y rfl rfl rfl (by omega) (Nat.le_refl _) (Nat.le_refl _) rfl ?_
        rintro _ _ ⟨rfl, rfl⟩
        have e : s_reb σ p kd fr ct pr = (-2, err σ 0) := if_neg (by first | (rw [bI_0] at c6; rw [c6]; exact fun q => absurd q.1 (by decide)) | (rw [bI_0, decide_eq_false_iff_not] at c15; exact fun q => c15 q.2.1) | (rw [bI_0, decide_eq_false_iff_not] at c25; exact fun q => c25 q.2.2.1))
        exact bs_iret dX6_reborrow_34 rfl ⟨by rw [e], by rw [e]; rfl⟩
end Model4
end
section
section Model5
variable {G : GG} {h0 : Hp} {y : Nat} {A : Nat → Nat} {σ : MS} {hs : Int64}
theorem sm_checkRead {p c : Int32} (hA : mOk y A) (hI : mInv σ) : mSp G h0 y A σ hs mX6_checkRead 3 [.int p, .int c] (mQ2 G h0 y A hs (s_ckR σ p c)) := by
  refine bs_Sp.of (by decide) rfl ?_
  refine bs_aload_n (pc' := 1) dX6_checkRead_0 rfl rfl rfl ?_
  refine bs_iload_n (pc' := 2) dX6_checkRead_1 rfl rfl ?_
  refine bs_iload_n (pc' := 3) dX6_checkRead_2 rfl rfl ?_
  refine bs_callV (N := mX6_isCell) (pc' := 6) dX6_checkRead_3 km_X6_107 ko_X6_isCell (sm_isCell hA hI) mh_y rfl rfl rfl (by omega) (Nat.le_refl _) (Nat.le_refl _) rfl ?_
  rintro _ _ ⟨rfl, rfl⟩
  refine bs_if_eq (tgt := 18) (pc' := 9) dX6_checkRead_6 rfl rfl (fun c6 => ?_) (fun c6 => ?_)
  · have e : s_ckR σ p c = (-2, err σ 0) := if_neg (by rw [bI_0] at c6; rw [c6]; decide)
    refine bs_aload_n (pc' := 19) dX6_checkRead_18 rfl rfl rfl ?_
    refine bs_bipush (v := (-2)) (pc' := 21) dX6_checkRead_19 (by decide) rfl ?_
    refine bs_callV (N := mX6_error) (pc' := 24) dX6_checkRead_21 km_X6_93 ko_X6_error (sm_error 0 (by decide) (by decide) hA) mh_y rfl rfl rfl (by omega) (Nat.le_refl _) (Nat.le_refl _) rfl ?_
    rintro _ _ ⟨rfl, rfl⟩
    exact bs_iret dX6_checkRead_24 rfl ⟨by rw [e], by rw [e] <;> rfl⟩
  · rw [bI_n0] at c6
    have hc6 := c6
    obtain ⟨j, i, rfl, rfl, hp⟩ := isC_t hI c6
    have hp8 := hI.cell hp
    have hz1 : zN (nI j) = j := zN_nI (by have := hI.p60 hp.1; omega)
    have hz2 : zN (nI i) = i := zN_nI (by omega)
    have e : s_ckR σ (nI j) (nI i) = (rdK σ j i, σ) := by rw [s_ckR, if_pos hc6, hz1, hz2]
    refine bs_aload_n (pc' := 10) dX6_checkRead_9 rfl rfl rfl ?_
    refine bs_iload_n (pc' := 11) dX6_checkRead_10 rfl rfl ?_
    refine bs_iload_n (pc' := 12) dX6_checkRead_11 rfl rfl ?_
    refine bs_callV (N := mX6_readKind) (pc' := 15) dX6_checkRead_12 km_X6_111 ko_X6_readKind (sm_readKind hA hI hp) mh_y rfl rfl rfl (by omega) (Nat.le_refl _) (Nat.le_refl _) rfl ?_
    rintro _ _ ⟨rfl, rfl⟩
    refine bs_goto (tgt := 24) dX6_checkRead_15 rfl ?_
    exact bs_iret dX6_checkRead_24 rfl ⟨by rw [e], by rw [e] <;> rfl⟩
theorem sm_checkWrite {p c : Int32} (hA : mOk y A) (hI : mInv σ) : mSp G h0 y A σ hs mX6_checkWrite 3 [.int p, .int c] (mQ2 G h0 y A hs (s_ckW σ p c)) := by
  refine bs_Sp.of (by decide) rfl ?_
  refine bs_aload_n (pc' := 1) dX6_checkWrite_0 rfl rfl rfl ?_
  refine bs_iload_n (pc' := 2) dX6_checkWrite_1 rfl rfl ?_
  refine bs_iload_n (pc' := 3) dX6_checkWrite_2 rfl rfl ?_
  refine bs_callV (N := mX6_isCell) (pc' := 6) dX6_checkWrite_3 km_X6_107 ko_X6_isCell (sm_isCell hA hI) mh_y rfl rfl rfl (by omega) (Nat.le_refl _) (Nat.le_refl _) rfl ?_
  rintro _ _ ⟨rfl, rfl⟩
  refine bs_if_eq (tgt := 18) (pc' := 9) dX6_checkWrite_6 rfl rfl (fun c6 => ?_) (fun c6 => ?_)
  · have e : s_ckW σ p c = (-2, err σ 0) := if_neg (by rw [bI_0] at c6; rw [c6]; decide)
    refine bs_aload_n (pc' := 19) dX6_checkWrite_18 rfl rfl rfl ?_
    refine bs_bipush (v := (-2)) (pc' := 21) dX6_checkWrite_19 (by decide) rfl ?_
    refine bs_callV (N := mX6_error) (pc' := 24) dX6_checkWrite_21 km_X6_93 ko_X6_error (sm_error 0 (by decide) (by decide) hA) mh_y rfl rfl rfl (by omega) (Nat.le_refl _) (Nat.le_refl _) rfl ?_
    rintro _ _ ⟨rfl, rfl⟩
    exact bs_iret dX6_checkWrite_24 rfl ⟨by rw [e], by rw [e] <;> rfl⟩
  · rw [bI_n0] at c6
    have hc6 := c6
    obtain ⟨j, i, rfl, rfl, hp⟩ := isC_t hI c6
    have hp8 := hI.cell hp
    have hz1 : zN (nI j) = j := zN_nI (by have := hI.p60 hp.1; omega)
    have hz2 : zN (nI i) = i := zN_nI (by omega)
    have e : s_ckW σ (nI j) (nI i) = (wrK σ j i, σ) := by rw [s_ckW, if_pos hc6, hz1, hz2]
    refine bs_aload_n (pc' := 10) dX6_checkWrite_9 rfl rfl rfl ?_
    refine bs_iload_n (pc' := 11) dX6_checkWrite_10 rfl rfl ?_
    refine bs_iload_n (pc' := 12) dX6_checkWrite_11 rfl rfl ?_
    refine bs_callV (N := mX6_writeKind) (pc' := 15) dX6_checkWrite_12 km_X6_90 ko_X6_writeKind (sm_writeKind hA hI hp) mh_y rfl rfl rfl (by omega) (Nat.le_refl _) (Nat.le_refl _) rfl ?_
    rintro _ _ ⟨rfl, rfl⟩
    refine bs_goto (tgt := 24) dX6_checkWrite_15 rfl ?_
    exact bs_iret dX6_checkWrite_24 rfl ⟨by rw [e], by rw [e] <;> rfl⟩
theorem sm_checkFree {p : Int32} (hA : mOk y A) (hI : mInv σ) : mSp G h0 y A σ hs mX6_checkFree 3 [.int p] (mQ2 G h0 y A hs (s_ckF σ p)) := by
  refine bs_Sp.of (by decide) rfl ?_
  have loop : ∀ j n, j < zN (σ 8 0) → n = zN (σ 1 (zN (σ 9 j))) → ∀ f i, i + f = n → fsV (frK σ j) n 0 = fsV (frK σ j) f i → mB G h0 y A σ hs mX6_checkFree 3 17 [(0, .ref y), (1, .int (nI j)), (2, .int (nI i))] [] (mQ2 G h0 y A hs (s_ckF σ (nI j))) := by
    intro j n hj hn f
    have h60 := hI.p60 hj
    have hz1 : zN (nI j) = j := zN_nI (by omega)
    have hnP := hI.nP.2
    have hib : inb (nI j) (zN (σ 8 0)) = true := inb_nI hj (by omega)
    have hcl := (hI.cl (hI.ow hj).2).1
    have hcl2 := hcl.2
    have h10 := hI.ow10 hj
    have howe := hI.owe hj
    induction f with
    | zero =>
      intro i hi hf
      have e : s_ckF σ (nI j) = (0, σ) := by
        rw [s_ckF, if_pos hib, hz1, ← hn, hf]
        rfl
      refine bs_iload_n (pc' := 18) dX6_checkFree_17 rfl rfl ?_
      refine bs_aload_n (pc' := 19) dX6_checkFree_18 rfl rfl rfl ?_
      refine bs_getf (pc' := 22) kf_X6_7 dX6_checkFree_19 mh_y rfl rfl ?_
      refine bs_aload_n (pc' := 23) dX6_checkFree_22 rfl rfl rfl ?_
      refine bs_getf (pc' := 26) kf_X6_32 dX6_checkFree_23 mh_y rfl rfl ?_
      refine bs_iload_n (pc' := 27) dX6_checkFree_26 rfl rfl ?_
      refine bm_ald (pc' := 28) dX6_checkFree_27 hA rfl rfl j rfl h60 rfl ?_
      refine bm_ald (pc' := 29) dX6_checkFree_28 hA rfl rfl (zN (σ 9 j)) howe h10 rfl ?_
      refine bs_icmp_ge (tgt := 51) (pc' := 32) dX6_checkFree_29 rfl rfl (fun _ => ?_) (fun c29 => absurd (by rw [hcl.1]; exact nI_le (by omega) (by omega)) c29)
      refine bs_iconst (v := 0) (pc' := 52) dX6_checkFree_51 (by decide) rfl ?_
      exact bs_iret dX6_checkFree_52 rfl ⟨by rw [e], by rw [e]⟩
    | succ f ih =>
      intro i hi hf
      have hic : isPc σ j i := ⟨hj, by omega⟩
      refine bs_iload_n (pc' := 18) dX6_checkFree_17 rfl rfl ?_
      refine bs_aload_n (pc' := 19) dX6_checkFree_18 rfl rfl rfl ?_
      refine bs_getf (pc' := 22) kf_X6_7 dX6_checkFree_19 mh_y rfl rfl ?_
      refine bs_aload_n (pc' := 23) dX6_checkFree_22 rfl rfl rfl ?_
      refine bs_getf (pc' := 26) kf_X6_32 dX6_checkFree_23 mh_y rfl rfl ?_
      refine bs_iload_n (pc' := 27) dX6_checkFree_26 rfl rfl ?_
      refine bm_ald (pc' := 28) dX6_checkFree_27 hA rfl rfl j rfl h60 rfl ?_
      refine bm_ald (pc' := 29) dX6_checkFree_28 hA rfl rfl (zN (σ 9 j)) howe h10 rfl ?_
      refine bs_icmp_ge (tgt := 51) (pc' := 32) dX6_checkFree_29 rfl rfl (fun c29 => absurd c29 (by rw [hcl.1]; exact nI_ge (by omega) (by omega))) (fun _ => ?_)
      refine bs_aload_n (pc' := 33) dX6_checkFree_32 rfl rfl rfl ?_
      refine bs_iload_n (pc' := 34) dX6_checkFree_33 rfl rfl ?_
      refine bs_iload_n (pc' := 35) dX6_checkFree_34 rfl rfl ?_
      refine bs_callV (N := mX6_freeKind) (pc' := 38) dX6_checkFree_35 km_X6_141 ko_X6_freeKind (sm_freeKind hA hI hic) mh_y rfl rfl rfl (by omega) (Nat.le_refl _) (Nat.le_refl _) rfl ?_
      rintro _ _ ⟨rfl, rfl⟩
      refine bs_istore_n (pc' := 39) (lv' := [(0, _), (1, _), (2, _), (3, _)]) dX6_checkFree_38 rfl rfl rfl ?_
      refine bs_iload_n (pc' := 40) dX6_checkFree_39 rfl rfl ?_
      refine bs_if_eq (tgt := 45) (pc' := 43) dX6_checkFree_40 rfl rfl (fun c40 => ?_) (fun c40 => ?_)
      · refine bs_iinc (pc' := 48) (lv' := [(0, _), (1, _), (2, _), (3, _)]) dX6_checkFree_45 rfl (nI_i1 i) rfl rfl rfl ?_
        refine bs_goto (tgt := 17) dX6_checkFree_48 rfl ?_
        refine bs_sub (lv' := [(0, _), (1, _), (2, _)]) [0, 1, 2] rfl ?_
        exact ih (i + 1) (by omega) (by rw [hf]; show fsV (frK σ j) (f + 1) i = _; unfold fsV; rw [if_pos c40]; cases f <;> rfl)
      · refine bs_iload_n (pc' := 44) dX6_checkFree_43 rfl rfl ?_
        have e : s_ckF σ (nI j) = (frK σ j i, σ) := by
          have e1 : fsV (frK σ j) (f + 1) i = some i := by unfold fsV; rw [if_neg c40]
          rw [s_ckF, if_pos hib, hz1, ← hn, hf, e1]
        exact bs_iret dX6_checkFree_44 rfl ⟨by rw [e], by rw [e]⟩
  refine bs_aload_n (pc' := 1) dX6_checkFree_0 rfl rfl rfl ?_
  refine bs_iload_n (pc' := 2) dX6_checkFree_1 rfl rfl ?_
  refine bs_callV (N := mX6_isPointer) (pc' := 5) dX6_checkFree_2 km_X6_71 ko_X6_isPointer (sm_isPointer hI) mh_y rfl rfl rfl (by omega) (Nat.le_refl _) (Nat.le_refl _) rfl ?_
  rintro _ _ ⟨rfl, rfl⟩
  refine bs_if_ne (tgt := 15) (pc' := 8) dX6_checkFree_5 rfl rfl (fun c5 => ?_) (fun c5 => ?_)
  · rw [bI_n0] at c5
    obtain ⟨j, hj, rfl⟩ := inb_t (by have := hI.nP.2; omega) c5
    refine bs_iconst (v := 0) (pc' := 16) dX6_checkFree_15 (by decide) rfl ?_
    refine bs_istore_n (pc' := 17) (lv' := [(0, _), (1, _), (2, _)]) dX6_checkFree_16 rfl rfl rfl ?_
    exact loop j _ hj rfl _ 0 (Nat.zero_add _) rfl
  · refine bs_aload_n (pc' := 9) dX6_checkFree_8 rfl rfl rfl ?_
    refine bs_bipush (v := (-2)) (pc' := 11) dX6_checkFree_9 (by decide) rfl ?_
    refine bs_callV (N := mX6_error) (pc' := 14) dX6_checkFree_11 km_X6_93 ko_X6_error (sm_error 0 (by decide) (by decide) hA) mh_y rfl rfl rfl (by omega) (Nat.le_refl _) (Nat.le_refl _) rfl ?_
    rintro _ _ ⟨rfl, rfl⟩
    have e : s_ckF σ p = (-2, err σ 0) := if_neg (by rw [bI_0] at c5; rw [c5]; decide)
    exact bs_iret dX6_checkFree_14 rfl ⟨by rw [e], by rw [e] <;> rfl⟩
theorem sm_removedByWrite {p c : Int32} (hA : mOk y A) (hI : mInv σ) : mSp G h0 y A σ hs mX6_removedByWrite 3 [.int p, .int c] (mQ2 G h0 y A hs (s_rmv σ p c)) := by
  refine bs_Sp.of (by decide) rfl ?_
  refine bs_aload_n (pc' := 1) dX6_removedByWrite_0 rfl rfl rfl ?_
  refine bs_iload_n (pc' := 2) dX6_removedByWrite_1 rfl rfl ?_
  refine bs_iload_n (pc' := 3) dX6_removedByWrite_2 rfl rfl ?_
  refine bs_callV (N := mX6_isCell) (pc' := 6) dX6_removedByWrite_3 km_X6_107 ko_X6_isCell (sm_isCell hA hI) mh_y rfl rfl rfl (by omega) (Nat.le_refl _) (Nat.le_refl _) rfl ?_
  rintro _ _ ⟨rfl, rfl⟩
  refine bs_if_ne (tgt := 16) (pc' := 9) dX6_removedByWrite_6 rfl rfl (fun c6 => ?_) (fun c6 => ?_)
  · rw [bI_n0] at c6
    have hc6 := c6
    obtain ⟨j, i, rfl, rfl, hp⟩ := isC_t hI c6
    have hp8 := hI.cell hp
    have hc : cO σ j i < 80 := hp8.2
    have hz1 : zN (nI j) = j := zN_nI (by have := hI.p60 hp.1; omega)
    have hz2 : zN (nI i) = i := zN_nI (by omega)
    refine bs_aload_n (pc' := 17) dX6_removedByWrite_16 rfl rfl rfl ?_
    refine bs_iload_n (pc' := 18) dX6_removedByWrite_17 rfl rfl ?_
    refine bs_iload_n (pc' := 19) dX6_removedByWrite_18 rfl rfl ?_
    refine bs_callV (N := mX6_writeKind) (pc' := 22) dX6_removedByWrite_19 km_X6_90 ko_X6_writeKind (sm_writeKind hA hI hp) mh_y rfl rfl rfl (by omega) (Nat.le_refl _) (Nat.le_refl _) rfl ?_
    rintro _ _ ⟨rfl, rfl⟩
    refine bs_if_eq (tgt := 27) (pc' := 25) dX6_removedByWrite_22 rfl rfl (fun c22 => ?_) (fun c22 => ?_)
    · obtain ⟨-, k, hg⟩ := wrK_0 c22
      refine bs_aload_n (pc' := 28) dX6_removedByWrite_27 rfl rfl rfl ?_
      refine bs_iload_n (pc' := 29) dX6_removedByWrite_28 rfl rfl ?_
      refine bs_iload_n (pc' := 30) dX6_removedByWrite_29 rfl rfl ?_
      refine bs_callV (N := mX6_cellOf) (pc' := 33) dX6_removedByWrite_30 km_X6_75 ko_X6_cellOf (sm_cellOf hA hI hp) mh_y rfl rfl rfl (by omega) (Nat.le_refl _) (Nat.le_refl _) rfl ?_
      rintro _ _ ⟨rfl, rfl⟩
      refine bs_istore_n (pc' := 34) (lv' := [(0, _), (1, _), (2, _), (3, _)]) dX6_removedByWrite_33 rfl rfl rfl ?_
      refine bs_aload_n (pc' := 35) dX6_removedByWrite_34 rfl rfl rfl ?_
      refine bs_getf (pc' := 38) kf_X6_20 dX6_removedByWrite_35 mh_y rfl rfl ?_
      refine bs_iload_n (pc' := 39) dX6_removedByWrite_38 rfl rfl ?_
      refine bm_ald (pc' := 40) dX6_removedByWrite_39 hA rfl rfl (cO σ j i) rfl hc rfl ?_
      refine bs_aload_n (pc' := 41) dX6_removedByWrite_40 rfl rfl rfl ?_
      refine bs_iload_n (pc' := 42) dX6_removedByWrite_41 rfl rfl ?_
      refine bs_aload_n (pc' := 43) dX6_removedByWrite_42 rfl rfl rfl ?_
      refine bs_iload_n (pc' := 44) dX6_removedByWrite_43 rfl rfl ?_
      refine bs_iload_n (pc' := 45) dX6_removedByWrite_44 rfl rfl ?_
      refine bs_iconst (v := 1) (pc' := 46) dX6_removedByWrite_45 (by decide) rfl ?_
      refine bs_callV (N := mX6_granting) (pc' := 49) dX6_removedByWrite_46 km_X6_79 ko_X6_granting (sm_granting (w := true) hA hI hc) mh_y rfl rfl rfl (by omega) (Nat.le_refl _) (Nat.le_refl _) rfl ?_
      rintro _ _ ⟨rfl, rfl⟩
      rw [hg]
      refine bs_callV (N := mX6_above) (pc' := 52) dX6_removedByWrite_49 km_X6_87 ko_X6_above (sm_above hA hI hc (grf_lt hg)) mh_y rfl rfl rfl (by omega) (Nat.le_refl _) (Nat.le_refl _) rfl ?_
      rintro _ _ ⟨rfl, rfl⟩
      refine bs_isub (pc' := 53) dX6_removedByWrite_52 rfl ?_
      have e : s_rmv σ (nI j) (nI i) = (σ 4 (cO σ j i) - nI (ab σ (cO σ j i) k), σ) := by rw [s_rmv, if_pos hc6, hz1, hz2, if_pos c22, hg]
      exact bs_iret dX6_removedByWrite_53 rfl ⟨by rw [e], by rw [e]⟩
    · refine bs_iconst (v := (-1)) (pc' := 26) dX6_removedByWrite_25 (by decide) rfl ?_
      have e : s_rmv σ (nI j) (nI i) = (-1, σ) := by rw [s_rmv, if_pos hc6, hz1, hz2, if_neg c22]
      exact bs_iret dX6_removedByWrite_26 rfl ⟨by rw [e], by rw [e]⟩
  · refine bs_aload_n (pc' := 10) dX6_removedByWrite_9 rfl rfl rfl ?_
    refine bs_bipush (v := (-2)) (pc' := 12) dX6_removedByWrite_10 (by decide) rfl ?_
    refine bs_callV (N := mX6_error) (pc' := 15) dX6_removedByWrite_12 km_X6_93 ko_X6_error (sm_error 0 (by decide) (by decide) hA) mh_y rfl rfl rfl (by omega) (Nat.le_refl _) (Nat.le_refl _) rfl ?_
    rintro _ _ ⟨rfl, rfl⟩
    have e : s_rmv σ p c = (-2, err σ 0) := if_neg (by rw [bI_0] at c6; rw [c6]; decide)
    exact bs_iret dX6_removedByWrite_15 rfl ⟨by rw [e], by rw [e] <;> rfl⟩
theorem sm_isAllocation {a : Int32} (hI : mInv σ) : mSp G h0 y A σ hs mX6_isAllocation 1 [.int a] (mQi G h0 y A σ hs (bI (inb a (zN (σ 0 0))))) := by
  have h1 := hI.nA.1
  refine bs_Sp.of (by decide) rfl ?_
  refine bs_iload_n (pc' := 1) dX6_isAllocation_0 rfl rfl ?_
  refine bs_iconst (v := 0) (pc' := 2) dX6_isAllocation_1 (by decide) rfl ?_
  refine bs_aload_n (pc' := 3) dX6_isAllocation_2 rfl rfl rfl ?_
  refine bs_getf (pc' := 6) kf_X6_97 dX6_isAllocation_3 mh_y rfl rfl ?_
  refine bs_iconst (v := 1) (pc' := 7) dX6_isAllocation_6 (by decide) rfl ?_
  refine bs_isub (pc' := 8) dX6_isAllocation_7 rfl ?_
  refine bs_callS (N := mX6_in) (pc' := 11) dX6_isAllocation_8 km_X6_67 ko_X6_in sm_in rfl rfl rfl (by omega) (Nat.le_refl _) (Nat.le_refl _) rfl ?_
  rintro _ _ ⟨rfl, rfl⟩
  exact bs_zret dX6_isAllocation_11 rfl (bI_01 _) ⟨by rw [inb, ← h1], rfl⟩
theorem sm_isCellOf {a c : Int32} (hA : mOk y A) (hI : mInv σ) : mSp G h0 y A σ hs mX6_isCellOf 2 [.int a, .int c] (mQi G h0 y A σ hs (bI (isA σ a c))) := by
  have h10 := hI.nA.2
  refine bs_Sp.of (by decide) rfl ?_
  refine bs_aload_n (pc' := 1) dX6_isCellOf_0 rfl rfl rfl ?_
  refine bs_iload_n (pc' := 2) dX6_isCellOf_1 rfl rfl ?_
  refine bs_callV (N := mX6_isAllocation) (pc' := 5) dX6_isCellOf_2 km_X6_144 ko_X6_isAllocation (sm_isAllocation hI) mh_y rfl rfl rfl (by omega) (Nat.le_refl _) (Nat.le_refl _) rfl ?_
  rintro _ _ ⟨rfl, rfl⟩
  refine bs_if_eq (tgt := 28) (pc' := 8) dX6_isCellOf_5 rfl rfl (fun c5 => ?_) (fun c5 => ?_)
  · refine bs_iconst (v := 0) (pc' := 29) dX6_isCellOf_28 (by decide) rfl ?_
    exact bs_zret dX6_isCellOf_29 rfl (by decide) ⟨by first | (rw [bI_0] at c5; rw [isA, c5]; rfl) | (have hz : zN (nI j) = j := zN_nI (by omega); first | (rw [bI_n0] at c21; rw [isA, c5, hz, inb, ← hcl.1, c21]; rfl) | (rw [bI_0] at c21; rw [isA, c5, hz, inb, ← hcl.1, c21]; rfl)), rfl⟩
  · rw [bI_n0] at c5
    obtain ⟨j, hj, rfl⟩ := inb_t (by omega) c5
    have hcl := (hI.cl hj).1
    refine bs_iload_n (pc' := 9) dX6_isCellOf_8 rfl rfl ?_
    refine bs_iconst (v := 0) (pc' := 10) dX6_isCellOf_9 (by decide) rfl ?_
    refine bs_aload_n (pc' := 11) dX6_isCellOf_10 rfl rfl rfl ?_
    refine bs_getf (pc' := 14) kf_X6_7 dX6_isCellOf_11 mh_y rfl rfl ?_
    refine bs_iload_n (pc' := 15) dX6_isCellOf_14 rfl rfl ?_
    refine bm_ald (pc' := 16) dX6_isCellOf_15 hA rfl rfl j rfl (by show _ < 10; omega) rfl ?_
    refine bs_iconst (v := 1) (pc' := 17) dX6_isCellOf_16 (by decide) rfl ?_
    refine bs_isub (pc' := 18) dX6_isCellOf_17 rfl ?_
    refine bs_callS (N := mX6_in) (pc' := 21) dX6_isCellOf_18 km_X6_67 ko_X6_in sm_in rfl rfl rfl (by omega) (Nat.le_refl _) (Nat.le_refl _) rfl ?_
    rintro _ _ ⟨rfl, rfl⟩
    refine bs_if_eq (tgt := 28) (pc' := 24) dX6_isCellOf_21 rfl rfl (fun c21 => ?_) (fun c21 => ?_)
    · refine bs_iconst (v := 0) (pc' := 29) dX6_isCellOf_28 (by decide) rfl ?_
      exact bs_zret dX6_isCellOf_29 rfl (by decide) ⟨by first | (rw [bI_0] at c5; rw [isA, c5]; rfl) | (have hz : zN (nI j) = j := zN_nI (by omega); first | (rw [bI_n0] at c21; rw [isA, c5, hz, inb, ← hcl.1, c21]; rfl) | (rw [bI_0] at c21; rw [isA, c5, hz, inb, ← hcl.1, c21]; rfl)), rfl⟩
    · refine bs_iconst (v := 1) (pc' := 25) dX6_isCellOf_24 (by decide) rfl ?_
      refine bs_goto (tgt := 29) dX6_isCellOf_25 rfl ?_
      exact bs_zret dX6_isCellOf_29 rfl (by decide) ⟨by first | (rw [bI_0] at c5; rw [isA, c5]; rfl) | (have hz : zN (nI j) = j := zN_nI (by omega); first | (rw [bI_n0] at c21; rw [isA, c5, hz, inb, ← hcl.1, c21]; rfl) | (rw [bI_0] at c21; rw [isA, c5, hz, inb, ← hcl.1, c21]; rfl)), rfl⟩
theorem sm_placeOf {a c x : Int32} (hA : mOk y A) (hI : mInv σ) : mSp G h0 y A σ hs mX6_placeOf 3 [.int a, .int c, .int x] (mQi G h0 y A σ hs (if isI σ a c x = true then nI (iPl a c x) else -1)) := by
  refine bs_Sp.of (by decide) rfl ?_
  have j35 : ∀ z, z = bI (isI σ a c x) → mB G h0 y A σ hs mX6_placeOf 3 35 [(0, .ref y), (1, .int a), (2, .int c), (3, .int x)] [.int z] (mQi G h0 y A σ hs (if isI σ a c x = true then nI (iPl a c x) else -1)) := by
    intro z hz
    subst hz
    refine bs_istore (pc' := 37) (lv' := [(0, _), (1, _), (2, _), (3, _), (4, _)]) dX6_placeOf_35 rfl rfl rfl ?_
    refine bs_iload (pc' := 39) dX6_placeOf_37 rfl rfl ?_
    refine bs_if_eq (tgt := 56) (pc' := 42) dX6_placeOf_39 rfl rfl (fun c39 => ?_) (fun c39 => ?_)
    · refine bs_iconst (v := (-1)) (pc' := 57) dX6_placeOf_56 (by decide) rfl ?_
      exact bs_iret dX6_placeOf_57 rfl ⟨by first | (rw [bI_0] at c39; rw [c39]; rfl) | (rw [bI_n0] at c39; rw [if_pos c39]; have h := c39; unfold isI at h; rw [Bool.and_eq_true] at h; obtain ⟨j, i, rfl, rfl, h1, h2, h3, h4⟩ := isA_t hI h.1; have hx := h.2; rw [zN_nI (by omega), zN_nI (by omega)] at hx; have h12 := (hI.sz (c := 8 * j + i) (by omega)).2; obtain ⟨k, hk, rfl⟩ := inb_t (by omega) hx; rw [iPl, zN_nI (by omega), zN_nI (by omega), zN_nI (by omega), nI_8, nI_12]), rfl⟩
    · refine bs_bipush (v := 12) (pc' := 44) dX6_placeOf_42 (by decide) rfl ?_
      refine bs_bipush (v := 8) (pc' := 46) dX6_placeOf_44 (by decide) rfl ?_
      refine bs_iload_n (pc' := 47) dX6_placeOf_46 rfl rfl ?_
      refine bs_imul (pc' := 48) dX6_placeOf_47 rfl ?_
      refine bs_iload_n (pc' := 49) dX6_placeOf_48 rfl rfl ?_
      refine bs_iadd (pc' := 50) dX6_placeOf_49 rfl ?_
      refine bs_imul (pc' := 51) dX6_placeOf_50 rfl ?_
      refine bs_iload_n (pc' := 52) dX6_placeOf_51 rfl rfl ?_
      refine bs_iadd (pc' := 53) dX6_placeOf_52 rfl ?_
      refine bs_goto (tgt := 57) dX6_placeOf_53 rfl ?_
      exact bs_iret dX6_placeOf_57 rfl ⟨by first | (rw [bI_0] at c39; rw [c39]; rfl) | (rw [bI_n0] at c39; rw [if_pos c39]; have h := c39; unfold isI at h; rw [Bool.and_eq_true] at h; obtain ⟨j, i, rfl, rfl, h1, h2, h3, h4⟩ := isA_t hI h.1; have hx := h.2; rw [zN_nI (by omega), zN_nI (by omega)] at hx; have h12 := (hI.sz (c := 8 * j + i) (by omega)).2; obtain ⟨k, hk, rfl⟩ := inb_t (by omega) hx; rw [iPl, zN_nI (by omega), zN_nI (by omega), zN_nI (by omega), nI_8, nI_12]), rfl⟩
  refine bs_aload_n (pc' := 1) dX6_placeOf_0 rfl rfl rfl ?_
  refine bs_iload_n (pc' := 2) dX6_placeOf_1 rfl rfl ?_
  refine bs_iload_n (pc' := 3) dX6_placeOf_2 rfl rfl ?_
  refine bs_callV (N := mX6_isCellOf) (pc' := 6) dX6_placeOf_3 km_X6_147 ko_X6_isCellOf (sm_isCellOf hA hI) mh_y rfl rfl rfl (by omega) (Nat.le_refl _) (Nat.le_refl _) rfl ?_
  rintro _ _ ⟨rfl, rfl⟩
  refine bs_if_eq (tgt := 34) (pc' := 9) dX6_placeOf_6 rfl rfl (fun c6 => ?_) (fun c6 => ?_)
  · refine bs_iconst (v := 0) (pc' := 35) dX6_placeOf_34 (by decide) rfl ?_
    exact j35 _ (by first | (rw [bI_0] at c6; rw [isI, c6]; rfl) | (first | (rw [bI_n0] at c27; rw [isI, c6, zN_nI (by omega), zN_nI (by omega), inb, ← hsz.1, c27]; rfl) | (rw [bI_0] at c27; rw [isI, c6, zN_nI (by omega), zN_nI (by omega), inb, ← hsz.1, c27]; rfl)))
  · rw [bI_n0] at c6
    obtain ⟨j, i, rfl, rfl, h1, h2, h3, h4⟩ := isA_t hI c6
    have hsz := hI.sz (c := 8 * j + i) (by omega)
    refine bs_iload_n (pc' := 10) dX6_placeOf_9 rfl rfl ?_
    refine bs_iconst (v := 0) (pc' := 11) dX6_placeOf_10 (by decide) rfl ?_
    refine bs_aload_n (pc' := 12) dX6_placeOf_11 rfl rfl rfl ?_
    refine bs_getf (pc' := 15) kf_X6_20 dX6_placeOf_12 mh_y rfl rfl ?_
    refine bs_bipush (v := 8) (pc' := 17) dX6_placeOf_15 (by decide) rfl ?_
    refine bs_iload_n (pc' := 18) dX6_placeOf_17 rfl rfl ?_
    refine bs_imul (pc' := 19) dX6_placeOf_18 rfl ?_
    refine bs_iload_n (pc' := 20) dX6_placeOf_19 rfl rfl ?_
    refine bs_iadd (pc' := 21) dX6_placeOf_20 rfl ?_
    refine bm_ald (pc' := 22) dX6_placeOf_21 hA rfl rfl (8 * j + i) (nI_8 j i) (by show _ < 80; omega) rfl ?_
    refine bs_iconst (v := 1) (pc' := 23) dX6_placeOf_22 (by decide) rfl ?_
    refine bs_isub (pc' := 24) dX6_placeOf_23 rfl ?_
    refine bs_callS (N := mX6_in) (pc' := 27) dX6_placeOf_24 km_X6_67 ko_X6_in sm_in rfl rfl rfl (by omega) (Nat.le_refl _) (Nat.le_refl _) rfl ?_
    rintro _ _ ⟨rfl, rfl⟩
    refine bs_if_eq (tgt := 34) (pc' := 30) dX6_placeOf_27 rfl rfl (fun c27 => ?_) (fun c27 => ?_)
    · refine bs_iconst (v := 0) (pc' := 35) dX6_placeOf_34 (by decide) rfl ?_
      exact j35 _ (by first | (rw [bI_0] at c6; rw [isI, c6]; rfl) | (first | (rw [bI_n0] at c27; rw [isI, c6, zN_nI (by omega), zN_nI (by omega), inb, ← hsz.1, c27]; rfl) | (rw [bI_0] at c27; rw [isI, c6, zN_nI (by omega), zN_nI (by omega), inb, ← hsz.1, c27]; rfl)))
    · refine bs_iconst (v := 1) (pc' := 31) dX6_placeOf_30 (by decide) rfl ?_
      refine bs_goto (tgt := 35) dX6_placeOf_31 rfl ?_
      exact j35 _ (by first | (rw [bI_0] at c6; rw [isI, c6]; rfl) | (first | (rw [bI_n0] at c27; rw [isI, c6, zN_nI (by omega), zN_nI (by omega), inb, ← hsz.1, c27]; rfl) | (rw [bI_0] at c27; rw [isI, c6, zN_nI (by omega), zN_nI (by omega), inb, ← hsz.1, c27]; rfl)))
theorem isI_t {a c x : Int32} (hI : mInv σ) (h : isI σ a c x = true) : ∃ j i k, a = nI j ∧ c = nI i ∧ x = nI k ∧ j < zN (σ 0 0) ∧ i < zN (σ 1 j) ∧ k < zN (σ 4 (8 * j + i)) ∧ j < 10 ∧ i < 8 ∧ k < 12 ∧ iPl a c x = 12 * (8 * j + i) + k := by
  unfold isI at h
  rw [Bool.and_eq_true] at h
  obtain ⟨j, i, rfl, rfl, h1, h2, h3, h4⟩ := isA_t hI h.1
  have hx := h.2
  rw [zN_nI (by omega), zN_nI (by omega)] at hx
  have h12 := (hI.sz (c := 8 * j + i) (by omega)).2
  obtain ⟨k, hk, rfl⟩ := inb_t (by omega) hx
  exact ⟨j, i, k, rfl, rfl, rfl, h1, h2, hk, h3, h4, by omega, by rw [iPl, zN_nI (by omega), zN_nI (by omega), zN_nI (by omega)]⟩
theorem sm_stackSize {a c : Int32} (hA : mOk y A) (hI : mInv σ) : mSp G h0 y A σ hs mX6_stackSize 3 [.int a, .int c] (mQ2 G h0 y A hs (s_siz σ a c)) := by
  refine bs_Sp.of (by decide) rfl ?_
  refine bs_aload_n (pc' := 1) dX6_stackSize_0 rfl rfl rfl ?_
  refine bs_iload_n (pc' := 2) dX6_stackSize_1 rfl rfl ?_
  refine bs_iload_n (pc' := 3) dX6_stackSize_2 rfl rfl ?_
  refine bs_callV (N := mX6_isCellOf) (pc' := 6) dX6_stackSize_3 km_X6_147 ko_X6_isCellOf (sm_isCellOf hA hI) mh_y rfl rfl rfl (by omega) (Nat.le_refl _) (Nat.le_refl _) rfl ?_
  rintro _ _ ⟨rfl, rfl⟩
  refine bs_if_eq (tgt := 23) (pc' := 9) dX6_stackSize_6 rfl rfl (fun c6 => ?_) (fun c6 => ?_)
  · have e : s_siz σ a c = (-2, err σ 0) := if_neg (by rw [bI_0] at c6; rw [c6]; decide)
    refine bs_aload_n (pc' := 24) dX6_stackSize_23 rfl rfl rfl ?_
    refine bs_bipush (v := (-2)) (pc' := 26) dX6_stackSize_24 (by decide) rfl ?_
    refine bs_callV (N := mX6_error) (pc' := 29) dX6_stackSize_26 km_X6_93 ko_X6_error (sm_error 0 (by decide) (by decide) hA) mh_y rfl rfl rfl (by omega) (Nat.le_refl _) (Nat.le_refl _) rfl ?_
    rintro _ _ ⟨rfl, rfl⟩
    exact bs_iret dX6_stackSize_29 rfl ⟨by rw [e], by rw [e] <;> rfl⟩
  · rw [bI_n0] at c6
    have hc6 := c6
    obtain ⟨j, i, rfl, rfl, h1, h2, h3, h4⟩ := isA_t hI c6
    have e : s_siz σ (nI j) (nI i) = (σ 4 (8 * j + i), σ) := by rw [s_siz, if_pos hc6, zN_nI (by omega), zN_nI (by omega)]
    refine bs_aload_n (pc' := 10) dX6_stackSize_9 rfl rfl rfl ?_
    refine bs_getf (pc' := 13) kf_X6_20 dX6_stackSize_10 mh_y rfl rfl ?_
    refine bs_bipush (v := 8) (pc' := 15) dX6_stackSize_13 (by decide) rfl ?_
    refine bs_iload_n (pc' := 16) dX6_stackSize_15 rfl rfl ?_
    refine bs_imul (pc' := 17) dX6_stackSize_16 rfl ?_
    refine bs_iload_n (pc' := 18) dX6_stackSize_17 rfl rfl ?_
    refine bs_iadd (pc' := 19) dX6_stackSize_18 rfl ?_
    refine bm_ald (pc' := 20) dX6_stackSize_19 hA rfl rfl (8 * j + i) (nI_8 j i) (by show _ < 80; omega) rfl ?_
    refine bs_goto (tgt := 29) dX6_stackSize_20 rfl ?_
    exact bs_iret dX6_stackSize_29 rfl ⟨by rw [e], by rw [e] <;> rfl⟩
theorem sm_itemTag {a c x : Int32} (hA : mOk y A) (hI : mInv σ) : mSp G h0 y A σ hs mX6_itemTag 4 [.int a, .int c, .int x] (mQ2 G h0 y A hs (s_itm σ 5 a c x)) := by
  refine bs_Sp.of (by decide) rfl ?_
  have j9 : mB G h0 y A σ hs mX6_itemTag 4 9 [(0, .ref y), (1, .int a), (2, .int c), (3, .int x), (4, .int (if isI σ a c x = true then nI (iPl a c x) else -1))] [] (mQ2 G h0 y A hs (s_itm σ 5 a c x)) := by
    by_cases h : isI σ a c x = true
    · obtain ⟨j, i, k, -, -, -, -, -, -, h1, h2, h3, ep⟩ := isI_t hI h
      have e : s_itm σ 5 a c x = (σ 5 (iPl a c x), σ) := if_pos h
      rw [if_pos h]
      refine bs_iload (pc' := 11) dX6_itemTag_9 rfl rfl ?_
      refine bs_iconst (v := (-1)) (pc' := 12) dX6_itemTag_11 (by decide) rfl ?_
      refine bs_icmp_ne (tgt := 24) (pc' := 15) dX6_itemTag_12 rfl rfl (fun _ => ?_) (fun c12 => absurd c12 (nI_ne_m1 (by omega)))
      refine bs_aload_n (pc' := 25) dX6_itemTag_24 rfl rfl rfl ?_
      refine bs_getf (pc' := 28) kf_X6_23 dX6_itemTag_25 mh_y rfl rfl ?_
      refine bs_iload (pc' := 30) dX6_itemTag_28 rfl rfl ?_
      refine bm_ald (pc' := 31) dX6_itemTag_30 hA rfl rfl (iPl a c x) rfl (by show _ < 960; omega) rfl ?_
      exact bs_iret dX6_itemTag_31 rfl ⟨by rw [e], by rw [e]⟩
    · have e : s_itm σ 5 a c x = (-2, err σ 0) := if_neg h
      rw [if_neg h]
      refine bs_iload (pc' := 11) dX6_itemTag_9 rfl rfl ?_
      refine bs_iconst (v := (-1)) (pc' := 12) dX6_itemTag_11 (by decide) rfl ?_
      refine bs_icmp_ne (tgt := 24) (pc' := 15) dX6_itemTag_12 rfl rfl (fun c12 => absurd rfl c12) (fun _ => ?_)
      refine bs_aload_n (pc' := 16) dX6_itemTag_15 rfl rfl rfl ?_
      refine bs_bipush (v := (-2)) (pc' := 18) dX6_itemTag_16 (by decide) rfl ?_
      refine bs_callV (N := mX6_error) (pc' := 21) dX6_itemTag_18 km_X6_93 ko_X6_error (sm_error 0 (by decide) (by decide) hA) mh_y rfl rfl rfl (by omega) (Nat.le_refl _) (Nat.le_refl _) rfl ?_
      rintro _ _ ⟨rfl, rfl⟩
      refine bs_goto (tgt := 31) dX6_itemTag_21 rfl ?_
      exact bs_iret dX6_itemTag_31 rfl ⟨by rw [e], by rw [e] <;> rfl⟩
  refine bs_aload_n (pc' := 1) dX6_itemTag_0 rfl rfl rfl ?_
  refine bs_iload_n (pc' := 2) dX6_itemTag_1 rfl rfl ?_
  refine bs_iload_n (pc' := 3) dX6_itemTag_2 rfl rfl ?_
  refine bs_iload_n (pc' := 4) dX6_itemTag_3 rfl rfl ?_
  refine bs_callV (N := mX6_placeOf) (pc' := 7) dX6_itemTag_4 km_X6_150 ko_X6_placeOf (sm_placeOf hA hI) mh_y rfl rfl rfl (by omega) (Nat.le_refl _) (Nat.le_refl _) rfl ?_
  rintro _ _ ⟨rfl, rfl⟩
  refine bs_istore (pc' := 9) (lv' := [(0, _), (1, _), (2, _), (3, _), (4, _)]) dX6_itemTag_7 rfl rfl rfl ?_
  exact j9
theorem sm_itemPermission {a c x : Int32} (hA : mOk y A) (hI : mInv σ) : mSp G h0 y A σ hs mX6_itemPermission 4 [.int a, .int c, .int x] (mQ2 G h0 y A hs (s_itm σ 6 a c x)) := by
  refine bs_Sp.of (by decide) rfl ?_
  have j9 : mB G h0 y A σ hs mX6_itemPermission 4 9 [(0, .ref y), (1, .int a), (2, .int c), (3, .int x), (4, .int (if isI σ a c x = true then nI (iPl a c x) else -1))] [] (mQ2 G h0 y A hs (s_itm σ 6 a c x)) := by
    by_cases h : isI σ a c x = true
    · obtain ⟨j, i, k, -, -, -, -, -, -, h1, h2, h3, ep⟩ := isI_t hI h
      have e : s_itm σ 6 a c x = (σ 6 (iPl a c x), σ) := if_pos h
      rw [if_pos h]
      refine bs_iload (pc' := 11) dX6_itemPermission_9 rfl rfl ?_
      refine bs_iconst (v := (-1)) (pc' := 12) dX6_itemPermission_11 (by decide) rfl ?_
      refine bs_icmp_ne (tgt := 24) (pc' := 15) dX6_itemPermission_12 rfl rfl (fun _ => ?_) (fun c12 => absurd c12 (nI_ne_m1 (by omega)))
      refine bs_aload_n (pc' := 25) dX6_itemPermission_24 rfl rfl rfl ?_
      refine bs_getf (pc' := 28) kf_X6_26 dX6_itemPermission_25 mh_y rfl rfl ?_
      refine bs_iload (pc' := 30) dX6_itemPermission_28 rfl rfl ?_
      refine bm_ald (pc' := 31) dX6_itemPermission_30 hA rfl rfl (iPl a c x) rfl (by show _ < 960; omega) rfl ?_
      exact bs_iret dX6_itemPermission_31 rfl ⟨by rw [e], by rw [e]⟩
    · have e : s_itm σ 6 a c x = (-2, err σ 0) := if_neg h
      rw [if_neg h]
      refine bs_iload (pc' := 11) dX6_itemPermission_9 rfl rfl ?_
      refine bs_iconst (v := (-1)) (pc' := 12) dX6_itemPermission_11 (by decide) rfl ?_
      refine bs_icmp_ne (tgt := 24) (pc' := 15) dX6_itemPermission_12 rfl rfl (fun c12 => absurd rfl c12) (fun _ => ?_)
      refine bs_aload_n (pc' := 16) dX6_itemPermission_15 rfl rfl rfl ?_
      refine bs_bipush (v := (-2)) (pc' := 18) dX6_itemPermission_16 (by decide) rfl ?_
      refine bs_callV (N := mX6_error) (pc' := 21) dX6_itemPermission_18 km_X6_93 ko_X6_error (sm_error 0 (by decide) (by decide) hA) mh_y rfl rfl rfl (by omega) (Nat.le_refl _) (Nat.le_refl _) rfl ?_
      rintro _ _ ⟨rfl, rfl⟩
      refine bs_goto (tgt := 31) dX6_itemPermission_21 rfl ?_
      exact bs_iret dX6_itemPermission_31 rfl ⟨by rw [e], by rw [e] <;> rfl⟩
  refine bs_aload_n (pc' := 1) dX6_itemPermission_0 rfl rfl rfl ?_
  refine bs_iload_n (pc' := 2) dX6_itemPermission_1 rfl rfl ?_
  refine bs_iload_n (pc' := 3) dX6_itemPermission_2 rfl rfl ?_
  refine bs_iload_n (pc' := 4) dX6_itemPermission_3 rfl rfl ?_
  refine bs_callV (N := mX6_placeOf) (pc' := 7) dX6_itemPermission_4 km_X6_150 ko_X6_placeOf (sm_placeOf hA hI) mh_y rfl rfl rfl (by omega) (Nat.le_refl _) (Nat.le_refl _) rfl ?_
  rintro _ _ ⟨rfl, rfl⟩
  refine bs_istore (pc' := 9) (lv' := [(0, _), (1, _), (2, _), (3, _), (4, _)]) dX6_itemPermission_7 rfl rfl rfl ?_
  exact j9
theorem sm_itemProtected {a c x : Int32} (hA : mOk y A) (hI : mInv σ) : mSp G h0 y A σ hs mX6_itemProtected 4 [.int a, .int c, .int x] (mQ2 G h0 y A hs (s_itp σ a c x)) := by
  refine bs_Sp.of (by decide) rfl ?_
  have j9 : mB G h0 y A σ hs mX6_itemProtected 4 9 [(0, .ref y), (1, .int a), (2, .int c), (3, .int x), (4, .int (if isI σ a c x = true then nI (iPl a c x) else -1))] [] (mQ2 G h0 y A hs (s_itp σ a c x)) := by
    by_cases h : isI σ a c x = true
    · obtain ⟨j, i, k, -, -, -, -, -, -, h1, h2, h3, ep⟩ := isI_t hI h
      have e : s_itp σ a c x = (if 0 < σ 7 (iPl a c x) then 1 else 0, σ) := if_pos h
      rw [if_pos h]
      refine bs_iload (pc' := 11) dX6_itemProtected_9 rfl rfl ?_
      refine bs_iconst (v := (-1)) (pc' := 12) dX6_itemProtected_11 (by decide) rfl ?_
      refine bs_icmp_ne (tgt := 24) (pc' := 15) dX6_itemProtected_12 rfl rfl (fun _ => ?_) (fun c12 => absurd c12 (nI_ne_m1 (by omega)))
      refine bs_aload_n (pc' := 25) dX6_itemProtected_24 rfl rfl rfl ?_
      refine bs_getf (pc' := 28) kf_X6_29 dX6_itemProtected_25 mh_y rfl rfl ?_
      refine bs_iload (pc' := 30) dX6_itemProtected_28 rfl rfl ?_
      refine bm_ald (pc' := 31) dX6_itemProtected_30 hA rfl rfl (iPl a c x) rfl (by show _ < 960; omega) rfl ?_
      refine bs_if_le (tgt := 38) (pc' := 34) dX6_itemProtected_31 rfl rfl (fun c31 => ?_) (fun c31 => ?_)
      · refine bs_iconst (v := 0) (pc' := 39) dX6_itemProtected_38 (by decide) rfl ?_
        exact bs_iret dX6_itemProtected_39 rfl ⟨by rw [e]; first | (rw [if_neg (Int32.not_lt.mpr c31)]; done) | (rw [if_pos (Int32.not_le.mp c31)]; done), by rw [e]⟩
      · refine bs_iconst (v := 1) (pc' := 35) dX6_itemProtected_34 (by decide) rfl ?_
        refine bs_goto (tgt := 39) dX6_itemProtected_35 rfl ?_
        exact bs_iret dX6_itemProtected_39 rfl ⟨by rw [e]; first | (rw [if_neg (Int32.not_lt.mpr c31)]; done) | (rw [if_pos (Int32.not_le.mp c31)]; done), by rw [e]⟩
    · have e : s_itp σ a c x = (-2, err σ 0) := if_neg h
      rw [if_neg h]
      refine bs_iload (pc' := 11) dX6_itemProtected_9 rfl rfl ?_
      refine bs_iconst (v := (-1)) (pc' := 12) dX6_itemProtected_11 (by decide) rfl ?_
      refine bs_icmp_ne (tgt := 24) (pc' := 15) dX6_itemProtected_12 rfl rfl (fun c12 => absurd rfl c12) (fun _ => ?_)
      refine bs_aload_n (pc' := 16) dX6_itemProtected_15 rfl rfl rfl ?_
      refine bs_bipush (v := (-2)) (pc' := 18) dX6_itemProtected_16 (by decide) rfl ?_
      refine bs_callV (N := mX6_error) (pc' := 21) dX6_itemProtected_18 km_X6_93 ko_X6_error (sm_error 0 (by decide) (by decide) hA) mh_y rfl rfl rfl (by omega) (Nat.le_refl _) (Nat.le_refl _) rfl ?_
      rintro _ _ ⟨rfl, rfl⟩
      refine bs_goto (tgt := 39) dX6_itemProtected_21 rfl ?_
      exact bs_iret dX6_itemProtected_39 rfl ⟨by rw [e], by rw [e] <;> rfl⟩
  refine bs_aload_n (pc' := 1) dX6_itemProtected_0 rfl rfl rfl ?_
  refine bs_iload_n (pc' := 2) dX6_itemProtected_1 rfl rfl ?_
  refine bs_iload_n (pc' := 3) dX6_itemProtected_2 rfl rfl ?_
  refine bs_iload_n (pc' := 4) dX6_itemProtected_3 rfl rfl ?_
  refine bs_callV (N := mX6_placeOf) (pc' := 7) dX6_itemProtected_4 km_X6_150 ko_X6_placeOf (sm_placeOf hA hI) mh_y rfl rfl rfl (by omega) (Nat.le_refl _) (Nat.le_refl _) rfl ?_
  rintro _ _ ⟨rfl, rfl⟩
  refine bs_istore (pc' := 9) (lv' := [(0, _), (1, _), (2, _), (3, _), (4, _)]) dX6_itemProtected_7 rfl rfl rfl ?_
  exact j9
theorem sm_allocationOf {p : Int32} (hA : mOk y A) (hI : mInv σ) : mSp G h0 y A σ hs mX6_allocationOf 2 [.int p] (mQ2 G h0 y A hs (s_ptr σ 9 p)) := by
  refine bs_Sp.of (by decide) rfl ?_
  refine bs_aload_n (pc' := 1) dX6_allocationOf_0 rfl rfl rfl ?_
  refine bs_iload_n (pc' := 2) dX6_allocationOf_1 rfl rfl ?_
  refine bs_callV (N := mX6_isPointer) (pc' := 5) dX6_allocationOf_2 km_X6_71 ko_X6_isPointer (sm_isPointer hI) mh_y rfl rfl rfl (by omega) (Nat.le_refl _) (Nat.le_refl _) rfl ?_
  rintro _ _ ⟨rfl, rfl⟩
  refine bs_if_eq (tgt := 17) (pc' := 8) dX6_allocationOf_5 rfl rfl (fun c5 => ?_) (fun c5 => ?_)
  · have e : s_ptr σ 9 p = (-2, err σ 0) := if_neg (by rw [bI_0] at c5; rw [c5]; decide)
    refine bs_aload_n (pc' := 18) dX6_allocationOf_17 rfl rfl rfl ?_
    refine bs_bipush (v := (-2)) (pc' := 20) dX6_allocationOf_18 (by decide) rfl ?_
    refine bs_callV (N := mX6_error) (pc' := 23) dX6_allocationOf_20 km_X6_93 ko_X6_error (sm_error 0 (by decide) (by decide) hA) mh_y rfl rfl rfl (by omega) (Nat.le_refl _) (Nat.le_refl _) rfl ?_
    rintro _ _ ⟨rfl, rfl⟩
    exact bs_iret dX6_allocationOf_23 rfl ⟨by rw [e], by rw [e] <;> rfl⟩
  · rw [bI_n0] at c5
    have hc5 := c5
    obtain ⟨j, hj, rfl⟩ := inb_t (by have := hI.nP.2; omega) c5
    have h60 := hI.p60 hj
    have e : s_ptr σ 9 (nI j) = (σ 9 j, σ) := by rw [s_ptr, if_pos hc5, zN_nI (by omega)]
    refine bs_aload_n (pc' := 9) dX6_allocationOf_8 rfl rfl rfl ?_
    refine bs_getf (pc' := 12) kf_X6_32 dX6_allocationOf_9 mh_y rfl rfl ?_
    refine bs_iload_n (pc' := 13) dX6_allocationOf_12 rfl rfl ?_
    refine bm_ald (pc' := 14) dX6_allocationOf_13 hA rfl rfl j rfl h60 rfl ?_
    refine bs_goto (tgt := 23) dX6_allocationOf_14 rfl ?_
    exact bs_iret dX6_allocationOf_23 rfl ⟨by rw [e], by rw [e] <;> rfl⟩
theorem sm_parent {p : Int32} (hA : mOk y A) (hI : mInv σ) : mSp G h0 y A σ hs mX6_parent 2 [.int p] (mQ2 G h0 y A hs (s_ptr σ 10 p)) := by
  refine bs_Sp.of (by decide) rfl ?_
  refine bs_aload_n (pc' := 1) dX6_parent_0 rfl rfl rfl ?_
  refine bs_iload_n (pc' := 2) dX6_parent_1 rfl rfl ?_
  refine bs_callV (N := mX6_isPointer) (pc' := 5) dX6_parent_2 km_X6_71 ko_X6_isPointer (sm_isPointer hI) mh_y rfl rfl rfl (by omega) (Nat.le_refl _) (Nat.le_refl _) rfl ?_
  rintro _ _ ⟨rfl, rfl⟩
  refine bs_if_eq (tgt := 17) (pc' := 8) dX6_parent_5 rfl rfl (fun c5 => ?_) (fun c5 => ?_)
  · have e : s_ptr σ 10 p = (-2, err σ 0) := if_neg (by rw [bI_0] at c5; rw [c5]; decide)
    refine bs_aload_n (pc' := 18) dX6_parent_17 rfl rfl rfl ?_
    refine bs_bipush (v := (-2)) (pc' := 20) dX6_parent_18 (by decide) rfl ?_
    refine bs_callV (N := mX6_error) (pc' := 23) dX6_parent_20 km_X6_93 ko_X6_error (sm_error 0 (by decide) (by decide) hA) mh_y rfl rfl rfl (by omega) (Nat.le_refl _) (Nat.le_refl _) rfl ?_
    rintro _ _ ⟨rfl, rfl⟩
    exact bs_iret dX6_parent_23 rfl ⟨by rw [e], by rw [e] <;> rfl⟩
  · rw [bI_n0] at c5
    have hc5 := c5
    obtain ⟨j, hj, rfl⟩ := inb_t (by have := hI.nP.2; omega) c5
    have h60 := hI.p60 hj
    have e : s_ptr σ 10 (nI j) = (σ 10 j, σ) := by rw [s_ptr, if_pos hc5, zN_nI (by omega)]
    refine bs_aload_n (pc' := 9) dX6_parent_8 rfl rfl rfl ?_
    refine bs_getf (pc' := 12) kf_X6_35 dX6_parent_9 mh_y rfl rfl ?_
    refine bs_iload_n (pc' := 13) dX6_parent_12 rfl rfl ?_
    refine bm_ald (pc' := 14) dX6_parent_13 hA rfl rfl j rfl h60 rfl ?_
    refine bs_goto (tgt := 23) dX6_parent_14 rfl ?_
    exact bs_iret dX6_parent_23 rfl ⟨by rw [e], by rw [e] <;> rfl⟩
theorem sm_liveOf {j : Nat} (hA : mOk y A) (hI : mInv σ) (hj : j < zN (σ 8 0)) : mSp G h0 y A σ hs mX6_liveOf 1 [.int (nI j)] (mQi G h0 y A σ hs (nI (lvO σ j))) := by
  have h60 := hI.p60 hj
  have hcl := (hI.cl (hI.ow hj).2).1
  have hcl2 := hcl.2
  have h10 := hI.ow10 hj
  have howe := hI.owe hj
  have hcl1 := (hI.cl (hI.ow hj).2).2
  refine bs_Sp.of (by decide) rfl ?_
  by_cases hf : σ 2 (zN (σ 9 j)) = 0
  · have loop : ∀ f i m, i + f = zN (σ 1 (zN (σ 9 j))) → mB G h0 y A σ hs mX6_liveOf 1 4 [(0, .ref y), (1, .int (nI j)), (2, .int (nI m)), (3, .int (nI i))] [] (mQi G h0 y A σ hs (nI (m + lvf σ j f i))) := by
      intro f
      induction f with
      | zero =>
        intro i m hi
        refine bs_iload_n (pc' := 5) dX6_liveOf_4 rfl rfl ?_
        refine bs_aload_n (pc' := 6) dX6_liveOf_5 rfl rfl rfl ?_
        refine bs_getf (pc' := 9) kf_X6_7 dX6_liveOf_6 mh_y rfl rfl ?_
        refine bs_aload_n (pc' := 10) dX6_liveOf_9 rfl rfl rfl ?_
        refine bs_getf (pc' := 13) kf_X6_32 dX6_liveOf_10 mh_y rfl rfl ?_
        refine bs_iload_n (pc' := 14) dX6_liveOf_13 rfl rfl ?_
        refine bm_ald (pc' := 15) dX6_liveOf_14 hA rfl rfl j rfl h60 rfl ?_
        refine bm_ald (pc' := 16) dX6_liveOf_15 hA rfl rfl (zN (σ 9 j)) howe h10 rfl ?_
        refine bs_icmp_ge (tgt := 63) (pc' := 19) dX6_liveOf_16 rfl rfl (fun _ => ?_) (fun c16 => absurd (by rw [hcl.1]; exact nI_le (by omega) (by omega)) c16)
        refine bs_iload_n (pc' := 64) dX6_liveOf_63 rfl rfl ?_
        exact bs_iret dX6_liveOf_64 rfl ⟨rfl, rfl⟩
      | succ f ih =>
        intro i m hi
        have hic : isPc σ j i := ⟨hj, by omega⟩
        have hc : cO σ j i < 80 := (hI.cell hic).2
        have hn12 := (hI.sz hc).2
        have j46 : mB G h0 y A σ hs mX6_liveOf 1 46 [(0, .ref y), (1, .int (nI j)), (2, .int (nI m)), (3, .int (nI i))] [.int (oI (gr σ (cO σ j i) (nI j) false)), .int (nI m)] (mQi G h0 y A σ hs (nI (m + lvf σ j (f + 1) i))) := by
          cases hg : gr σ (cO σ j i) (nI j) false with
          | none =>
            have e : lvf σ j (f + 1) i = lvf σ j f (i + 1) := by unfold lvf; rw [hg]; cases f <;> exact Nat.zero_add _
            rw [e]
            refine bs_iconst (v := (-1)) (pc' := 47) dX6_liveOf_46 (by decide) rfl ?_
            refine bs_icmp_eq (tgt := 54) (pc' := 50) dX6_liveOf_47 rfl rfl (fun _ => ?_) (fun c47 => absurd (show oI none = -1 from rfl) c47)
            refine bs_iconst (v := 0) (pc' := 55) dX6_liveOf_54 (by decide) rfl ?_
            refine bs_iadd (pc' := 56) dX6_liveOf_55 rfl ?_
            refine bs_topi (nI m) (by exact Int32.add_zero _) ?_
            refine bs_istore_n (pc' := 57) (lv' := [(0, _), (1, _), (2, _), (3, _)]) dX6_liveOf_56 rfl rfl rfl ?_
            refine bs_iinc (pc' := 60) (lv' := [(0, _), (1, _), (2, _), (3, _)]) dX6_liveOf_57 rfl (nI_i1 i) rfl rfl rfl ?_
            refine bs_goto (tgt := 4) dX6_liveOf_60 rfl ?_
            exact ih (i + 1) m (by omega)
          | some k =>
            have hk := grf_lt hg
            have e : m + lvf σ j (f + 1) i = (m + 1) + lvf σ j f (i + 1) := by
              have e1 : lvf σ j (f + 1) i = 1 + lvf σ j f (i + 1) := by rw [lvf, hg]; rfl
              omega
            rw [e]
            refine bs_iconst (v := (-1)) (pc' := 47) dX6_liveOf_46 (by decide) rfl ?_
            refine bs_icmp_eq (tgt := 54) (pc' := 50) dX6_liveOf_47 rfl rfl (fun c47 => absurd c47 (nI_ne_m1 (k := k) (by omega))) (fun _ => ?_)
            refine bs_iconst (v := 1) (pc' := 51) dX6_liveOf_50 (by decide) rfl ?_
            refine bs_goto (tgt := 55) dX6_liveOf_51 rfl ?_
            refine bs_iadd (pc' := 56) dX6_liveOf_55 rfl ?_
            refine bs_topi (nI (m + 1)) (nI_1 m) ?_
            refine bs_istore_n (pc' := 57) (lv' := [(0, _), (1, _), (2, _), (3, _)]) dX6_liveOf_56 rfl rfl rfl ?_
            refine bs_iinc (pc' := 60) (lv' := [(0, _), (1, _), (2, _), (3, _)]) dX6_liveOf_57 rfl (nI_i1 i) rfl rfl rfl ?_
            refine bs_goto (tgt := 4) dX6_liveOf_60 rfl ?_
            exact ih (i + 1) (m + 1) (by omega)
        refine bs_iload_n (pc' := 5) dX6_liveOf_4 rfl rfl ?_
        refine bs_aload_n (pc' := 6) dX6_liveOf_5 rfl rfl rfl ?_
        refine bs_getf (pc' := 9) kf_X6_7 dX6_liveOf_6 mh_y rfl rfl ?_
        refine bs_aload_n (pc' := 10) dX6_liveOf_9 rfl rfl rfl ?_
        refine bs_getf (pc' := 13) kf_X6_32 dX6_liveOf_10 mh_y rfl rfl ?_
        refine bs_iload_n (pc' := 14) dX6_liveOf_13 rfl rfl ?_
        refine bm_ald (pc' := 15) dX6_liveOf_14 hA rfl rfl j rfl h60 rfl ?_
        refine bm_ald (pc' := 16) dX6_liveOf_15 hA rfl rfl (zN (σ 9 j)) howe h10 rfl ?_
        refine bs_icmp_ge (tgt := 63) (pc' := 19) dX6_liveOf_16 rfl rfl (fun c16 => absurd c16 (by rw [hcl.1]; exact nI_ge (by omega) (by omega))) (fun _ => ?_)
        refine bs_aload_n (pc' := 20) dX6_liveOf_19 rfl rfl rfl ?_
        refine bs_getf (pc' := 23) kf_X6_13 dX6_liveOf_20 mh_y rfl rfl ?_
        refine bs_aload_n (pc' := 24) dX6_liveOf_23 rfl rfl rfl ?_
        refine bs_getf (pc' := 27) kf_X6_32 dX6_liveOf_24 mh_y rfl rfl ?_
        refine bs_iload_n (pc' := 28) dX6_liveOf_27 rfl rfl ?_
        refine bm_ald (pc' := 29) dX6_liveOf_28 hA rfl rfl j rfl h60 rfl ?_
        refine bm_zld (pc' := 30) dX6_liveOf_29 hA (zN (σ 9 j)) howe h10 rfl ?_
        refine bs_if_ne (tgt := 63) (pc' := 33) dX6_liveOf_30 rfl rfl (fun c30 => absurd hf c30) (fun _ => ?_)
        refine bs_iload_n (pc' := 34) dX6_liveOf_33 rfl rfl ?_
        refine bs_aload_n (pc' := 35) dX6_liveOf_34 rfl rfl rfl ?_
        refine bs_aload_n (pc' := 36) dX6_liveOf_35 rfl rfl rfl ?_
        refine bs_iload_n (pc' := 37) dX6_liveOf_36 rfl rfl ?_
        refine bs_iload_n (pc' := 38) dX6_liveOf_37 rfl rfl ?_
        refine bs_callV (N := mX6_cellOf) (pc' := 41) dX6_liveOf_38 km_X6_75 ko_X6_cellOf (sm_cellOf hA hI hic) mh_y rfl rfl rfl (by omega) (Nat.le_refl _) (Nat.le_refl _) rfl ?_
        rintro _ _ ⟨rfl, rfl⟩
        refine bs_iload_n (pc' := 42) dX6_liveOf_41 rfl rfl ?_
        refine bs_iconst (v := 0) (pc' := 43) dX6_liveOf_42 (by decide) rfl ?_
        refine bs_callV (N := mX6_granting) (pc' := 46) dX6_liveOf_43 km_X6_79 ko_X6_granting (sm_granting (w := false) hA hI hc) mh_y rfl rfl rfl (by omega) (Nat.le_refl _) (Nat.le_refl _) rfl ?_
        rintro _ _ ⟨rfl, rfl⟩
        exact j46
    refine bs_iconst (v := 0) (pc' := 1) dX6_liveOf_0 (by decide) rfl ?_
    refine bs_istore_n (pc' := 2) (lv' := [(0, _), (1, _), (2, _)]) dX6_liveOf_1 rfl rfl rfl ?_
    refine bs_iconst (v := 0) (pc' := 3) dX6_liveOf_2 (by decide) rfl ?_
    refine bs_istore_n (pc' := 4) (lv' := [(0, _), (1, _), (2, _), (3, _)]) dX6_liveOf_3 rfl rfl rfl ?_
    have e := loop (zN (σ 1 (zN (σ 9 j)))) 0 0 (Nat.zero_add _)
    rw [lvO, if_pos hf]
    rw [Nat.zero_add] at e
    exact e
  · refine bs_iconst (v := 0) (pc' := 1) dX6_liveOf_0 (by decide) rfl ?_
    refine bs_istore_n (pc' := 2) (lv' := [(0, _), (1, _), (2, _)]) dX6_liveOf_1 rfl rfl rfl ?_
    refine bs_iconst (v := 0) (pc' := 3) dX6_liveOf_2 (by decide) rfl ?_
    refine bs_istore_n (pc' := 4) (lv' := [(0, _), (1, _), (2, _), (3, _)]) dX6_liveOf_3 rfl rfl rfl ?_
    refine bs_iload_n (pc' := 5) dX6_liveOf_4 rfl rfl ?_
    refine bs_aload_n (pc' := 6) dX6_liveOf_5 rfl rfl rfl ?_
    refine bs_getf (pc' := 9) kf_X6_7 dX6_liveOf_6 mh_y rfl rfl ?_
    refine bs_aload_n (pc' := 10) dX6_liveOf_9 rfl rfl rfl ?_
    refine bs_getf (pc' := 13) kf_X6_32 dX6_liveOf_10 mh_y rfl rfl ?_
    refine bs_iload_n (pc' := 14) dX6_liveOf_13 rfl rfl ?_
    refine bm_ald (pc' := 15) dX6_liveOf_14 hA rfl rfl j rfl h60 rfl ?_
    refine bm_ald (pc' := 16) dX6_liveOf_15 hA rfl rfl (zN (σ 9 j)) howe h10 rfl ?_
    refine bs_icmp_ge (tgt := 63) (pc' := 19) dX6_liveOf_16 rfl rfl (fun c16 => absurd c16 (by rw [hcl.1]; exact nI_ge (a := 0) (by omega) (by omega))) (fun _ => ?_)
    refine bs_aload_n (pc' := 20) dX6_liveOf_19 rfl rfl rfl ?_
    refine bs_getf (pc' := 23) kf_X6_13 dX6_liveOf_20 mh_y rfl rfl ?_
    refine bs_aload_n (pc' := 24) dX6_liveOf_23 rfl rfl rfl ?_
    refine bs_getf (pc' := 27) kf_X6_32 dX6_liveOf_24 mh_y rfl rfl ?_
    refine bs_iload_n (pc' := 28) dX6_liveOf_27 rfl rfl ?_
    refine bm_ald (pc' := 29) dX6_liveOf_28 hA rfl rfl j rfl h60 rfl ?_
    refine bm_zld (pc' := 30) dX6_liveOf_29 hA (zN (σ 9 j)) howe h10 rfl ?_
    refine bs_if_ne (tgt := 63) (pc' := 33) dX6_liveOf_30 rfl rfl (fun _ => ?_) (fun c30 => absurd c30 hf)
    refine bs_iload_n (pc' := 64) dX6_liveOf_63 rfl rfl ?_
    exact bs_iret dX6_liveOf_64 rfl ⟨by rw [lvO, if_neg hf]; rfl, rfl⟩
theorem sm_liveCells {p : Int32} (hA : mOk y A) (hI : mInv σ) : mSp G h0 y A σ hs mX6_liveCells 2 [.int p] (mQ2 G h0 y A hs (s_liv σ p)) := by
  refine bs_Sp.of (by decide) rfl ?_
  refine bs_aload_n (pc' := 1) dX6_liveCells_0 rfl rfl rfl ?_
  refine bs_iload_n (pc' := 2) dX6_liveCells_1 rfl rfl ?_
  refine bs_callV (N := mX6_isPointer) (pc' := 5) dX6_liveCells_2 km_X6_71 ko_X6_isPointer (sm_isPointer hI) mh_y rfl rfl rfl (by omega) (Nat.le_refl _) (Nat.le_refl _) rfl ?_
  rintro _ _ ⟨rfl, rfl⟩
  refine bs_if_eq (tgt := 16) (pc' := 8) dX6_liveCells_5 rfl rfl (fun c5 => ?_) (fun c5 => ?_)
  · have e : s_liv σ p = (-2, err σ 0) := if_neg (by rw [bI_0] at c5; rw [c5]; decide)
    refine bs_aload_n (pc' := 17) dX6_liveCells_16 rfl rfl rfl ?_
    refine bs_bipush (v := (-2)) (pc' := 19) dX6_liveCells_17 (by decide) rfl ?_
    refine bs_callV (N := mX6_error) (pc' := 22) dX6_liveCells_19 km_X6_93 ko_X6_error (sm_error 0 (by decide) (by decide) hA) mh_y rfl rfl rfl (by omega) (Nat.le_refl _) (Nat.le_refl _) rfl ?_
    rintro _ _ ⟨rfl, rfl⟩
    exact bs_iret dX6_liveCells_22 rfl ⟨by rw [e], by rw [e] <;> rfl⟩
  · rw [bI_n0] at c5
    have hc5 := c5
    obtain ⟨j, hj, rfl⟩ := inb_t (by have := hI.nP.2; omega) c5
    have h60 := hI.p60 hj
    have e : s_liv σ (nI j) = (nI (lvO σ j), σ) := by rw [s_liv, if_pos hc5, zN_nI (by omega)]
    refine bs_aload_n (pc' := 9) dX6_liveCells_8 rfl rfl rfl ?_
    refine bs_iload_n (pc' := 10) dX6_liveCells_9 rfl rfl ?_
    refine bs_callV (N := mX6_liveOf) (pc' := 13) dX6_liveCells_10 km_X6_153 ko_X6_liveOf (sm_liveOf hA hI hj) mh_y rfl rfl rfl (by omega) (Nat.le_refl _) (Nat.le_refl _) rfl ?_
    rintro _ _ ⟨rfl, rfl⟩
    refine bs_goto (tgt := 22) dX6_liveCells_13 rfl ?_
    exact bs_iret dX6_liveCells_22 rfl ⟨by rw [e], by rw [e] <;> rfl⟩
theorem sm_isFreed {a : Int32} (hA : mOk y A) (hI : mInv σ) : mSp G h0 y A σ hs mX6_isFreed 2 [.int a] (mQ2 G h0 y A hs (s_frd σ a)) := by
  refine bs_Sp.of (by decide) rfl ?_
  refine bs_aload_n (pc' := 1) dX6_isFreed_0 rfl rfl rfl ?_
  refine bs_iload_n (pc' := 2) dX6_isFreed_1 rfl rfl ?_
  refine bs_callV (N := mX6_isAllocation) (pc' := 5) dX6_isFreed_2 km_X6_144 ko_X6_isAllocation (sm_isAllocation hI) mh_y rfl rfl rfl (by omega) (Nat.le_refl _) (Nat.le_refl _) rfl ?_
  rintro _ _ ⟨rfl, rfl⟩
  refine bs_if_ne (tgt := 17) (pc' := 8) dX6_isFreed_5 rfl rfl (fun c5 => ?_) (fun c5 => ?_)
  · rw [bI_n0] at c5
    have hc5 := c5
    have h10 := hI.nA.2
    obtain ⟨j, hj, rfl⟩ := inb_t (by omega) c5
    have e : s_frd σ (nI j) = (if σ 2 j = 0 then 0 else 1, σ) := by rw [s_frd, if_pos hc5, zN_nI (by omega)]
    refine bs_aload_n (pc' := 18) dX6_isFreed_17 rfl rfl rfl ?_
    refine bs_getf (pc' := 21) kf_X6_13 dX6_isFreed_18 mh_y rfl rfl ?_
    refine bs_iload_n (pc' := 22) dX6_isFreed_21 rfl rfl ?_
    refine bm_zld (pc' := 23) dX6_isFreed_22 hA j rfl (by omega) rfl ?_
    refine bs_if_eq (tgt := 30) (pc' := 26) dX6_isFreed_23 rfl rfl (fun c23 => ?_) (fun c23 => ?_)
    · refine bs_iconst (v := 0) (pc' := 31) dX6_isFreed_30 (by decide) rfl ?_
      exact bs_iret dX6_isFreed_31 rfl ⟨by rw [e]; first | done | (rw [if_pos c23]; done) | (rw [if_neg c23]; done), by rw [e]; first | done | rfl⟩
    · refine bs_iconst (v := 1) (pc' := 27) dX6_isFreed_26 (by decide) rfl ?_
      refine bs_goto (tgt := 31) dX6_isFreed_27 rfl ?_
      exact bs_iret dX6_isFreed_31 rfl ⟨by rw [e]; first | done | (rw [if_pos c23]; done) | (rw [if_neg c23]; done), by rw [e]; first | done | rfl⟩
  · have e : s_frd σ a = (-2, err σ 0) := if_neg (by rw [bI_0] at c5; rw [c5]; decide)
    refine bs_aload_n (pc' := 9) dX6_isFreed_8 rfl rfl rfl ?_
    refine bs_bipush (v := (-2)) (pc' := 11) dX6_isFreed_9 (by decide) rfl ?_
    refine bs_callV (N := mX6_error) (pc' := 14) dX6_isFreed_11 km_X6_93 ko_X6_error (sm_error 0 (by decide) (by decide) hA) mh_y rfl rfl rfl (by omega) (Nat.le_refl _) (Nat.le_refl _) rfl ?_
    rintro _ _ ⟨rfl, rfl⟩
    refine bs_goto (tgt := 31) dX6_isFreed_14 rfl ?_
    exact bs_iret dX6_isFreed_31 rfl ⟨by rw [e]; first | done | (rw [if_pos c23]; done) | (rw [if_neg c23]; done), by rw [e]; first | done | rfl⟩
theorem sm_pointerCount : mSp G h0 y A σ hs mX6_pointerCount 0 [] (mQi G h0 y A σ hs (σ 8 0)) := by
  refine bs_Sp.of (by decide) rfl ?_
  refine bs_aload_n (pc' := 1) dX6_pointerCount_0 rfl rfl rfl ?_
  refine bs_getf (pc' := 4) kf_X6_64 dX6_pointerCount_1 mh_y rfl rfl ?_
  exact bs_iret dX6_pointerCount_4 rfl ⟨rfl, rfl⟩
theorem sm_callDepth : mSp G h0 y A σ hs mX6_callDepth 0 [] (mQi G h0 y A σ hs (σ 11 0)) := by
  refine bs_Sp.of (by decide) rfl ?_
  refine bs_aload_n (pc' := 1) dX6_callDepth_0 rfl rfl rfl ?_
  refine bs_getf (pc' := 4) kf_X6_127 dX6_callDepth_1 mh_y rfl rfl ?_
  exact bs_iret dX6_callDepth_4 rfl ⟨rfl, rfl⟩
theorem sm_violationCount : mSp G h0 y A σ hs mX6_violationCount 0 [] (mQi G h0 y A σ hs (σ 12 0)) := by
  refine bs_Sp.of (by decide) rfl ?_
  refine bs_aload_n (pc' := 1) dX6_violationCount_0 rfl rfl rfl ?_
  refine bs_getf (pc' := 4) kf_X6_58 dX6_violationCount_1 mh_y rfl rfl ?_
  exact bs_iret dX6_violationCount_4 rfl ⟨rfl, rfl⟩
theorem sm_violationKind : mSp G h0 y A σ hs mX6_violationKind 0 [] (mQi G h0 y A σ hs (σ 13 0)) := by
  refine bs_Sp.of (by decide) rfl ?_
  refine bs_aload_n (pc' := 1) dX6_violationKind_0 rfl rfl rfl ?_
  refine bs_getf (pc' := 4) kf_X6_61 dX6_violationKind_1 mh_y rfl rfl ?_
  exact bs_iret dX6_violationKind_4 rfl ⟨rfl, rfl⟩
theorem sm_violationCell : mSp G h0 y A σ hs mX6_violationCell 0 [] (mQi G h0 y A σ hs (σ 14 0)) := by
  refine bs_Sp.of (by decide) rfl ?_
  refine bs_aload_n (pc' := 1) dX6_violationCell_0 rfl rfl rfl ?_
  refine bs_getf (pc' := 4) kf_X6_38 dX6_violationCell_1 mh_y rfl rfl ?_
  exact bs_iret dX6_violationCell_4 rfl ⟨rfl, rfl⟩
theorem sm_errorCount {k : Int32} (hA : mOk y A) : mSp G h0 y A σ hs mX6_errorCount 1 [.int k] (mQ2 G h0 y A hs (s_erc σ k)) := by
  refine bs_Sp.of (by decide) rfl ?_
  refine bs_iload_n (pc' := 1) dX6_errorCount_0 rfl rfl ?_
  refine bs_iconst (v := 0) (pc' := 2) dX6_errorCount_1 (by decide) rfl ?_
  refine bs_iconst (v := 2) (pc' := 3) dX6_errorCount_2 (by decide) rfl ?_
  refine bs_callS (N := mX6_in) (pc' := 6) dX6_errorCount_3 km_X6_67 ko_X6_in sm_in rfl rfl rfl (by omega) (Nat.le_refl _) (Nat.le_refl _) rfl ?_
  rintro _ _ ⟨rfl, rfl⟩
  refine bs_if_eq (tgt := 18) (pc' := 9) dX6_errorCount_6 rfl rfl (fun c6 => ?_) (fun c6 => ?_)
  · have e : s_erc σ k = (-2, err σ 0) := if_neg (by rw [bI_0, decide_eq_false_iff_not] at c6; exact c6)
    refine bs_aload_n (pc' := 19) dX6_errorCount_18 rfl rfl rfl ?_
    refine bs_bipush (v := (-2)) (pc' := 21) dX6_errorCount_19 (by decide) rfl ?_
    refine bs_callV (N := mX6_error) (pc' := 24) dX6_errorCount_21 km_X6_93 ko_X6_error (sm_error 0 (by decide) (by decide) hA) mh_y rfl rfl rfl (by omega) (Nat.le_refl _) (Nat.le_refl _) rfl ?_
    rintro _ _ ⟨rfl, rfl⟩
    exact bs_iret dX6_errorCount_24 rfl ⟨by rw [e], by rw [e] <;> rfl⟩
  · rw [bI_n0, decide_eq_true_eq] at c6
    obtain ⟨n, h1, e1⟩ := nI_of2 (x := k) (M := 2) (n := 2) rfl (by rw [Int32.not_lt]; exact c6.1) c6.2
    have e : s_erc σ k = (σ 15 n, σ) := by rw [s_erc, if_pos c6, e1, zN_nI (by omega)]
    refine bs_aload_n (pc' := 10) dX6_errorCount_9 rfl rfl rfl ?_
    refine bs_getf (pc' := 13) kf_X6_42 dX6_errorCount_10 mh_y rfl rfl ?_
    refine bs_iload_n (pc' := 14) dX6_errorCount_13 rfl rfl ?_
    refine bm_ald (pc' := 15) dX6_errorCount_14 hA rfl rfl n e1 (by show _ < 3; omega) rfl ?_
    refine bs_goto (tgt := 24) dX6_errorCount_15 rfl ?_
    exact bs_iret dX6_errorCount_24 rfl ⟨by rw [e], by rw [e] <;> rfl⟩
theorem sm_append {v : Int32} (hA : mOk y A) (hI : mInv σ) : mSp G h0 y A σ hs mX6_append 1 [.int v] (mQ2 G h0 y A hs (s_app σ v)) := by
  have hln := hI.ln
  refine bs_Sp.of (by decide) rfl ?_
  refine bs_iload_n (pc' := 1) dX6_append_0 rfl rfl ?_
  refine bs_iconst (v := 0) (pc' := 2) dX6_append_1 (by decide) rfl ?_
  refine bs_bipush (v := 127) (pc' := 4) dX6_append_2 (by decide) rfl ?_
  refine bs_callS (N := mX6_in) (pc' := 7) dX6_append_4 km_X6_67 ko_X6_in sm_in rfl rfl rfl (by omega) (Nat.le_refl _) (Nat.le_refl _) rfl ?_
  rintro _ _ ⟨rfl, rfl⟩
  refine bs_if_ne (tgt := 17) (pc' := 10) dX6_append_7 rfl rfl (fun c7 => ?_) (fun c7 => ?_)
  · rw [bI_n0, decide_eq_true_eq] at c7
    refine bs_aload_n (pc' := 18) dX6_append_17 rfl rfl rfl ?_
    refine bs_getf (pc' := 21) kf_X6_156 dX6_append_18 mh_y rfl rfl ?_
    refine bs_bipush (v := 120) (pc' := 23) dX6_append_21 (by decide) rfl ?_
    refine bs_icmp_ne (tgt := 33) (pc' := 26) dX6_append_23 rfl rfl (fun c23 => ?_) (fun c23 => ?_)
    · have hlt : zN (σ 18 0) < 120 := by
        rcases Nat.lt_or_ge (zN (σ 18 0)) 120 with q | q
        · exact q
        · exact absurd (by rw [hln.1, show zN (σ 18 0) = 120 by have := hln.2; omega]; rfl) c23
      refine bs_aload_n (pc' := 34) dX6_append_33 rfl rfl rfl ?_
      refine bs_getf (pc' := 37) kf_X6_45 dX6_append_34 mh_y rfl rfl ?_
      refine bs_aload_n (pc' := 38) dX6_append_37 rfl rfl rfl ?_
      refine bs_getf (pc' := 41) kf_X6_156 dX6_append_38 mh_y rfl rfl ?_
      refine bs_iload_n (pc' := 42) dX6_append_41 rfl rfl ?_
      refine bm_ast (pc' := 43) dX6_append_42 hA rfl rfl (zN (σ 18 0)) hln.1 hlt rfl ?_
      refine bs_aload_n (pc' := 44) dX6_append_43 rfl rfl rfl ?_
      refine bs_dup (pc' := 45) dX6_append_44 rfl rfl ?_
      refine bs_getf (pc' := 48) kf_X6_156 dX6_append_45 mh_y rfl rfl ?_
      refine bs_iconst (v := 1) (pc' := 49) dX6_append_48 (by decide) rfl ?_
      refine bs_iadd (pc' := 50) dX6_append_49 rfl ?_
      refine bm_put (pc' := 53) kf_X6_156 dX6_append_50 rfl rfl rfl rfl ?_
      refine bs_aload_n (pc' := 54) dX6_append_53 rfl rfl rfl ?_
      refine bs_getf (pc' := 57) kf_X6_156 dX6_append_54 mh_y rfl rfl ?_
      have e : s_app σ v = (σ 18 0 + 1, ms_u (ms_u σ 17 (zN (σ 18 0)) v) 18 0 (σ 18 0 + 1)) := by rw [s_app, if_pos c7, if_neg c23]
      exact bs_iret dX6_append_57 rfl ⟨by rw [e]; rfl, by rw [e] <;> rfl⟩
    · refine bs_aload_n (pc' := 27) dX6_append_26 rfl rfl rfl ?_
      refine bs_bipush (v := (-4)) (pc' := 29) dX6_append_27 (by decide) rfl ?_
      refine bs_callV (N := mX6_error) (pc' := 32) dX6_append_29 km_X6_93 ko_X6_error (sm_error 2 (by decide) (by decide) hA) mh_y rfl rfl rfl (by omega) (Nat.le_refl _) (Nat.le_refl _) rfl ?_
      rintro _ _ ⟨rfl, rfl⟩
      have e : s_app σ v = (-4, err σ 2) := by rw [s_app, if_pos c7, if_pos c23]
      exact bs_iret dX6_append_32 rfl ⟨by rw [e], by rw [e] <;> rfl⟩
  · refine bs_aload_n (pc' := 11) dX6_append_10 rfl rfl rfl ?_
    refine bs_bipush (v := (-2)) (pc' := 13) dX6_append_11 (by decide) rfl ?_
    refine bs_callV (N := mX6_error) (pc' := 16) dX6_append_13 km_X6_93 ko_X6_error (sm_error 0 (by decide) (by decide) hA) mh_y rfl rfl rfl (by omega) (Nat.le_refl _) (Nat.le_refl _) rfl ?_
    rintro _ _ ⟨rfl, rfl⟩
    have e : s_app σ v = (-2, err σ 0) := if_neg (by rw [bI_0, decide_eq_false_iff_not] at c7; exact c7)
    exact bs_iret dX6_append_16 rfl ⟨by rw [e], by rw [e] <;> rfl⟩
theorem sm_clearText : mSp G h0 y A σ hs mX6_clearText 0 [] (mQ2 G h0 y A hs (s_clt σ)) := by
  refine bs_Sp.of (by decide) rfl ?_
  refine bs_aload_n (pc' := 1) dX6_clearText_0 rfl rfl rfl ?_
  refine bs_getf (pc' := 4) kf_X6_156 dX6_clearText_1 mh_y rfl rfl ?_
  refine bs_istore_n (pc' := 5) (lv' := [(0, _), (1, _)]) dX6_clearText_4 rfl rfl rfl ?_
  refine bs_aload_n (pc' := 6) dX6_clearText_5 rfl rfl rfl ?_
  refine bs_iconst (v := 0) (pc' := 7) dX6_clearText_6 (by decide) rfl ?_
  refine bm_put (pc' := 10) kf_X6_156 dX6_clearText_7 rfl rfl rfl rfl ?_
  refine bs_iload_n (pc' := 11) dX6_clearText_10 rfl rfl ?_
  exact bs_iret dX6_clearText_11 rfl ⟨rfl, rfl⟩
end Model5
end
section
/-! each operation keeps the rows as they must be, and the script's rows as they were -/
theorem u_e (f : Nat → Int32) (i : Nat) : upd f i (f i) = f := by
  funext j
  unfold upd
  split
  · next h => rw [h]
  · rfl
theorem ms_u_e (σ : MS) (k i : Nat) : ms_u σ k i (σ k i) = σ := by
  funext j
  by_cases h : j = k
  · subst h
    rw [ms_u_k, u_e]
  · rw [ms_u_n h]
theorem ms_uu (σ : MS) (k i : Nat) (a b : Int32) : ms_u (ms_u σ k i a) k i b = ms_u σ k i b := by
  funext j
  by_cases h : j = k
  · subst h
    rw [ms_u_k, ms_u_k, ms_u_k]
    funext i'
    unfold upd
    split <;> rfl
  · rw [ms_u_n h, ms_u_n h, ms_u_n h]
theorem nwP_n {σ : MS} {a b : Int32} {k : Nat} (h : ¬ (k = 8 ∨ k = 9 ∨ k = 10)) : nwP σ a b k = σ k := by
  unfold nwP
  rw [ms_u_n (by omega), ms_u_n (by omega), ms_u_n (by omega)]
theorem nwP_8 {σ : MS} {a b : Int32} : nwP σ a b 8 0 = σ 8 0 + 1 := by
  unfold nwP
  rw [ms_u_k]
  exact if_pos rfl
theorem nwP_9 {σ : MS} {a b : Int32} : nwP σ a b 9 = upd (σ 9) (zN (σ 8 0)) a := by
  unfold nwP
  rw [ms_u_n (by decide), ms_u_n (by decide), ms_u_k]
theorem nwP_10 {σ : MS} {a b : Int32} : nwP σ a b 10 = upd (σ 10) (zN (σ 8 0)) b := by
  unfold nwP
  rw [ms_u_n (by decide), ms_u_k, ms_u_n (by decide)]
theorem zN_s {x : Int32} {b : Nat} (h : nn x b) (hb : b < 1000) : x + 1 = nI (zN x + 1) ∧ zN (x + 1) = zN x + 1 := by
  have e : x + 1 = nI (zN x + 1) := by
    have h1 := h.1
    rw [h1, nI_1, ← h1]
  refine ⟨e, ?_⟩
  rw [e]
  exact zN_nI (by have := h.2; omega)
theorem mInv_nwP {σ : MS} {a : Nat} {b : Int32} (h : mInv σ) (hp : zN (σ 8 0) < 60) (ha : a < zN (σ 0 0)) : mInv (nwP σ (nI a) b) := by
  obtain ⟨e1, e2⟩ := zN_s h.nP (by decide)
  have hA := h.nA.2
  have hza : zN (nI a) = a := zN_nI (by omega)
  unfold mInv
  rw [nwP_n (k := 0) (by decide), nwP_n (k := 1) (by decide), nwP_n (k := 4) (by decide), nwP_n (k := 11) (by decide), nwP_n (k := 18) (by decide), nwP_8, nwP_9]
  refine ⟨h.nA, ?_, h.dp, h.ln, fun a ha => h.cl ha, fun p hp' => ?_, fun c hc => h.sz hc, fun c h1 hc => h.s0 h1 hc⟩
  · rw [e1]; exact nn_nI (by omega) (by decide)
  · rw [e2] at hp'
    unfold upd
    by_cases q : p = zN (σ 8 0)
    · rw [if_pos q, hza]
      exact ⟨nn_nI (by omega) (by decide), ha⟩
    · rw [if_neg q]
      exact h.ow (by omega)
theorem pts_ok {p : Nat} {kd g : Int32} : ∀ (f i : Nat) (τ : MS), mInv τ → (∀ i', i ≤ i' → i' < i + f → isPc τ p i' ∧ (¬ kd = 1 → ∃ k, gr τ (cO τ p i') (nI p) true = some k) ∧ szB τ p kd i' ≤ 12) →
    mInv (pts τ p kd g f i) ∧ (∀ k, ¬ (k = 4 ∨ k = 5 ∨ k = 6 ∨ k = 7) → pts τ p kd g f i k = τ k) ∧ ∀ c, (∀ i', i ≤ i' → i' < i + f → c ≠ cO τ p i') → eqC τ (pts τ p kd g f i) c
  | 0, i, τ, hI, _ => ⟨hI, fun _ _ => rfl, fun c _ => eqC.refl τ c⟩
  | f + 1, i, τ, hI, h => by
    obtain ⟨h1, h2, h3⟩ := h i (Nat.le_refl _) (by omega)
    obtain ⟨o1, o2, o3⟩ := pt_ok (g := g) hI h1 h2 h3
    have e9 := o2 9 (by decide)
    obtain ⟨q1, q2, q3⟩ := pts_ok (p := p) (kd := kd) (g := g) f (i + 1) (pt τ p kd i g) o1 (fun i' a1 a2 => by
      obtain ⟨g1, g2, g3⟩ := h i' (by omega) (by omega)
      have hne : cO τ p i' ≠ cO τ p i := by unfold cO; omega
      have hq := o3 _ hne
      have hn12 : zN (τ 4 (cO τ p i')) ≤ 12 := (hI.sz (hI.cell g1).2).2
      refine ⟨isPc_of g1 (o2 8 (by decide)) e9 (o2 1 (by decide)), fun hk => ?_, ?_⟩
      · rw [cO_of e9, gr_cong hq hn12]
        exact g2 hk
      · rw [szB_cong e9 hn12 hq]
        exact g3)
    refine ⟨q1, fun k hk => (q2 k hk).trans (o2 k hk), fun c hc => eqC.trans (o3 c (hc i (Nat.le_refl _) (by omega))) (q3 c (fun i' a1 a2 => ?_))⟩
    rw [cO_of e9]
    exact hc i' (by omega) (by omega)
/-- the fields that a script's commands leave -/
def kScr (k : Nat) : Prop := k = 16 ∨ k = 17 ∨ k = 18 ∨ k = 19 ∨ k = 20 ∨ k = 21 ∨ k = 22
theorem err_k {σ : MS} {j k : Nat} (h : k ≠ 15) : err σ j k = σ k := ms_u_n h
theorem vio_k {σ : MS} {a b : Int32} {k : Nat} (h : ¬ (k = 12 ∨ k = 13 ∨ k = 14)) : vio σ a b k = σ k := by
  unfold vio
  rw [ms_u_n (by omega), ms_u_n (by omega), ms_u_n (by omega)]
theorem ok_read {σ : MS} {p c : Int32} (hI : mInv σ) : mInv (s_read σ p c).2 ∧ ∀ k, kScr k → (s_read σ p c).2 k = σ k := by
  unfold s_read kScr
  split
  · split
    · exact ⟨mInv_dRd hI, fun k hk => dRd_n (by omega)⟩
    · exact ⟨mInv_vio hI, fun k hk => vio_k (by omega)⟩
  · exact ⟨mInv_err hI, fun k hk => err_k (by omega)⟩
theorem ok_write {σ : MS} {p c v : Int32} (hI : mInv σ) : mInv (s_write σ p c v).2 ∧ ∀ k, kScr k → (s_write σ p c v).2 k = σ k := by
  unfold s_write kScr
  split
  · next h =>
    split
    · obtain ⟨j, i, rfl, rfl, hp⟩ := isC_t hI h.1
      have h60 := hI.p60 hp.1
      have h8 := (hI.cell hp).1
      rw [zN_nI (by omega), zN_nI (by omega)]
      exact ⟨mInv_u (mInv_dWr hI hp) (by decide), fun k hk => by show ms_u _ _ _ _ k = _; rw [ms_u_n (by omega), dWr_n (by omega)]⟩
    · exact ⟨mInv_vio hI, fun k hk => vio_k (by omega)⟩
  · exact ⟨mInv_err hI, fun k hk => err_k (by omega)⟩
theorem reb_pre {σ : MS} (hI : mInv σ) {p fr ct : Int32} (h1 : isC σ p fr = true) (h4 : 1 ≤ ct ∧ ct ≤ σ 1 (zN (σ 9 (zN p))) - fr) : ∃ j i n, p = nI j ∧ fr = nI i ∧ ct = nI n ∧ isPc σ j i ∧ 1 ≤ n ∧ i + n ≤ zN (σ 1 (zN (σ 9 j))) ∧ zN p = j ∧ zN fr = i ∧ zN ct = n := by
  obtain ⟨j, i, rfl, rfl, hp⟩ := isC_t hI h1
  have h60 := hI.p60 hp.1
  have h8 := (hI.cell hp).1
  have hcl := (hI.cl (hI.ow hp.1).2).1
  have hcl2 := hcl.2
  have hp2 := hp.2
  have e1 : zN (nI j) = j := zN_nI (by omega)
  have e2 : zN (nI i) = i := zN_nI (by omega)
  have h5 := h4.2
  rw [e1, hcl.1, pk_sub (by omega)] at h5
  obtain ⟨n, a1, rfl⟩ := nI_of2 (x := ct) (M := nI (zN (σ 1 (zN (σ 9 j))) - i)) (n := zN (σ 1 (zN (σ 9 j))) - i) (nI_toInt (by omega)) (by rw [Int32.not_lt]; exact Int32.le_trans (by decide) h4.1) h5
  have h6 := h4.1
  rw [show (1 : Int32) = nI 1 from rfl, nI_leI (by decide) (by omega)] at h6
  exact ⟨j, i, n, rfl, rfl, rfl, hp, h6, by omega, e1, e2, zN_nI (by omega)⟩
theorem ok_reb {σ : MS} {p kd fr ct pr : Int32} (hI : mInv σ) : mInv (s_reb σ p kd fr ct pr).2 ∧ ∀ k, kScr k → (s_reb σ p kd fr ct pr).2 k = σ k := by
  unfold s_reb kScr
  split
  · next h =>
    obtain ⟨h1, h2, h3, h4⟩ := h
    split
    · exact ⟨mInv_err hI, fun k hk => err_k (by omega)⟩
    · obtain ⟨j, i, n, rfl, rfl, rfl, hp, hn1, hn, e1, e2, e3⟩ := reb_pre hI h1 h4
      rw [e1, e2, e3]
      split
      · exact ⟨mInv_vio hI, fun k hk => vio_k (by omega)⟩
      · next hv =>
        split
        · next hf =>
          have hlt : zN (σ 8 0) < 60 := by
            have h9 := hf.1
            have hnP := hI.nP
            rw [hnP.1, show (60 : Int32) = nI 60 from rfl, nI_ltI (by have := hnP.2; omega) (by decide)] at h9
            exact h9
          have ow := hI.ow hp.1
          obtain ⟨q1, q2, -⟩ := pts_ok (p := j) (kd := kd) (g := if pr = 1 then σ 11 0 else 0) n i σ hI (fun i' a1 a2 => ⟨⟨hp.1, by omega⟩, fun hk => pt_gr (fsV_none hv i' a1 a2) hk, fit_all hf.2 i' a1 a2⟩)
          refine ⟨?_, fun k hk => ?_⟩
          · show mInv (nwP _ (σ 9 j) _)
            rw [ow.1.1]
            exact mInv_nwP q1 (by rw [q2 8 (by decide)]; exact hlt) (by rw [q2 0 (by decide)]; exact ow.2)
          · show nwP _ _ _ k = _
            rw [nwP_n (by omega), q2 k (by omega)]
        · exact ⟨mInv_err hI, fun k hk => err_k (by omega)⟩
  · exact ⟨mInv_err hI, fun k hk => err_k (by omega)⟩
theorem ok_free {σ : MS} {p : Int32} (hI : mInv σ) : mInv (s_free σ p).2 ∧ ∀ k, kScr k → (s_free σ p).2 k = σ k := by
  unfold s_free kScr
  split
  · split
    · exact ⟨mInv_vio hI, fun k hk => vio_k (by omega)⟩
    · exact ⟨mInv_u hI (by decide), fun k hk => ms_u_n (by omega)⟩
  · exact ⟨mInv_err hI, fun k hk => err_k (by omega)⟩
theorem mInv_11 {σ : MS} {x : Int32} (h : mInv σ) (hx : nn x 5) : mInv (ms_u σ 11 0 x) := by
  obtain ⟨h1, h2, h3, h4, h5, h6, h7, h8⟩ := h
  unfold mInv
  rw [ms_u_n (k' := 0) (by decide), ms_u_n (k' := 1) (by decide), ms_u_n (k' := 8) (by decide), ms_u_n (k' := 9) (by decide), ms_u_n (k' := 4) (by decide), ms_u_n (k' := 18) (by decide), ms_u_k]
  exact ⟨h1, h2, hx, h4, h5, h6, h7, h8⟩
theorem ok_enter {σ : MS} (hI : mInv σ) : mInv (s_enter σ).2 ∧ ∀ k, kScr k → (s_enter σ).2 k = σ k := by
  unfold s_enter kScr
  split
  · exact ⟨mInv_err hI, fun k hk => err_k (by omega)⟩
  · next h =>
    obtain ⟨e1, e2⟩ := zN_s hI.dp (by decide)
    refine ⟨mInv_11 hI ?_, fun k hk => ms_u_n (by omega)⟩
    rw [e1]
    refine nn_nI ?_ (by decide)
    have h5 := hI.dp
    rcases Nat.lt_or_ge (zN (σ 11 0)) 5 with q | q
    · omega
    · exact absurd (by rw [h5.1, show zN (σ 11 0) = 5 by have := h5.2; omega]; rfl) h
theorem ok_leave {σ : MS} (hI : mInv σ) : mInv (s_leave σ).2 ∧ ∀ k, kScr k → (s_leave σ).2 k = σ k := by
  unfold s_leave kScr
  split
  · exact ⟨mInv_err hI, fun k hk => err_k (by omega)⟩
  · next h =>
    have h5 := hI.dp
    have e : σ 11 0 - 1 = nI (zN (σ 11 0) - 1) := by
      have h0 : zN (σ 11 0) ≠ 0 := fun q => h (by rw [h5.1, q]; rfl)
      obtain ⟨m, hm⟩ : ∃ m, zN (σ 11 0) = m + 1 := ⟨zN (σ 11 0) - 1, by omega⟩
      rw [h5.1, hm, nI_pred, zN_nI (by have := h5.2; omega)]
      rfl
    refine ⟨mInv_11 (mInv_of hI (fun k hk => clr_n (by omega))) ?_, fun k hk => ?_⟩
    · rw [e]; exact nn_nI (by have := h5.2; omega) (by decide)
    · show ms_u _ _ _ _ k = _
      rw [ms_u_n (by omega), clr_n (by omega)]
theorem inl_ok {a : Nat} {p : Int32} : ∀ (i : Nat) (τ : MS), mInv τ → a < zN (τ 0 0) → i ≤ 8 → (∀ j, j < 8 → τ 4 (8 * a + j) = 0) → mInv (inl τ a p i) ∧ (∀ k, ¬ (k = 4 ∨ k = 5 ∨ k = 6 ∨ k = 7) → inl τ a p i k = τ k) ∧ (∀ j, i ≤ j → j < 8 → inl τ a p i 4 (8 * a + j) = 0)
  | 0, τ, hI, _, _, h0 => ⟨hI, fun _ _ => rfl, fun j _ h => h0 j h⟩
  | i + 1, τ, hI, ha, hi, h0 => by
    obtain ⟨q1, q2, q3⟩ := inl_ok (a := a) (p := p) i τ hI ha (by omega) h0
    have hz := q3 i (Nat.le_refl _) (by omega)
    refine ⟨mInv_ins q1 (by rw [hz]; decide) (by rw [q2 0 (by decide)]; omega), fun k hk => ?_, fun j h1 h2 => ?_⟩
    · show ins (inl τ a p i) _ _ _ _ _ k = _
      rw [ins_n hk, q2 k hk]
    · show ins (inl τ a p i) _ _ _ _ _ 4 _ = _
      rw [ins_4]
      unfold upd
      rw [if_neg (by omega)]
      exact q3 j (by omega) h2
theorem alc_pre {σ : MS} (hI : mInv σ) (h : ¬ (σ 0 0 = 10 ∨ σ 8 0 = 60)) : zN (σ 0 0) < 10 ∧ zN (σ 8 0) < 60 := by
  have hnA := hI.nA
  have hnP := hI.nP
  constructor
  · rcases Nat.lt_or_ge (zN (σ 0 0)) 10 with q | q
    · exact q
    · exact absurd (Or.inl (by rw [hnA.1, show zN (σ 0 0) = 10 by have := hnA.2; omega]; rfl)) h
  · rcases Nat.lt_or_ge (zN (σ 8 0)) 60 with q | q
    · exact q
    · exact absurd (Or.inr (by rw [hnP.1, show zN (σ 8 0) = 60 by have := hnP.2; omega]; rfl)) h
theorem m18 {m : Int32} (h : 1 ≤ m ∧ m ≤ 8) : ∃ n, 1 ≤ n ∧ n ≤ 8 ∧ m = nI n := by
  obtain ⟨n, h1, rfl⟩ := nI_of2 (x := m) (M := 8) (n := 8) rfl (by rw [Int32.not_lt]; exact Int32.le_trans (by decide) h.1) h.2
  have h6 := h.1
  rw [show (1 : Int32) = nI 1 from rfl, nI_leI (by decide) (by omega)] at h6
  exact ⟨n, h6, h1, rfl⟩
/-- the state ahead of the first items -/
def alp (σ : MS) (m : Int32) : MS := nwP (ms_u (ms_u σ 0 0 (σ 0 0 + 1)) 1 (zN (σ 0 0)) m) (σ 0 0) (-1)
theorem mInv_alp {σ : MS} {n : Nat} (hI : mInv σ) (hA : zN (σ 0 0) < 10) (hP : zN (σ 8 0) < 60) (h1 : 1 ≤ n) (h8 : n ≤ 8) : mInv (alp σ (nI n)) := by
  have hnA := hI.nA
  obtain ⟨e1, e2⟩ := zN_s hnA (by decide)
  have hzn : zN (nI n) = n := zN_nI (by omega)
  have hb : mInv (ms_u (ms_u σ 0 0 (σ 0 0 + 1)) 1 (zN (σ 0 0)) (nI n)) := by
    have f0 : ms_u (ms_u σ 0 0 (σ 0 0 + 1)) 1 (zN (σ 0 0)) (nI n) 0 0 = σ 0 0 + 1 := rfl
    have f1 : ms_u (ms_u σ 0 0 (σ 0 0 + 1)) 1 (zN (σ 0 0)) (nI n) 1 = upd (σ 1) (zN (σ 0 0)) (nI n) := rfl
    unfold mInv
    rw [f0, f1, e2]
    refine ⟨by rw [e1]; exact nn_nI (by omega) (by decide), hI.nP, hI.dp, hI.ln, fun a ha => ?_, fun p hp => ?_, fun c hc => hI.sz hc, fun c hc1 hc => hI.s0 (by omega) hc⟩
    · unfold upd
      by_cases q : a = zN (σ 0 0)
      · rw [if_pos q]
        exact ⟨nn_nI h8 (by decide), by rw [hzn]; exact h1⟩
      · rw [if_neg q]
        exact hI.cl (by omega)
    · have := hI.ow (p := p) hp
      exact ⟨this.1, Nat.lt_succ_of_lt this.2⟩
  unfold alp
  have hx : σ 0 0 = nI (zN (σ 0 0)) := hnA.1
  have := mInv_nwP (a := zN (σ 0 0)) (b := -1) hb hP (by show _ < zN (σ 0 0 + 1); rw [e2]; omega)
  rw [← hx] at this
  exact this
theorem ok_alloc {σ : MS} {m : Int32} (hI : mInv σ) : mInv (s_alloc σ m).2 ∧ ∀ k, kScr k → (s_alloc σ m).2 k = σ k := by
  unfold s_alloc kScr
  split
  · next h =>
    split
    · exact ⟨mInv_err hI, fun k hk => err_k (by omega)⟩
    · next hf =>
      obtain ⟨hA, hP⟩ := alc_pre hI hf
      obtain ⟨n, h1, h8, rfl⟩ := m18 h
      have hzn : zN (nI n) = n := zN_nI (by omega)
      obtain ⟨e1, e2⟩ := zN_s hI.nA (by decide)
      obtain ⟨q1, q2, -⟩ := inl_ok (a := zN (σ 0 0)) (p := σ 8 0) n (alp σ (nI n)) (mInv_alp hI hA hP h1 h8) (by show _ < zN (σ 0 0 + 1); rw [e2]; omega) h8 (fun j hj => hI.s0 (c := 8 * zN (σ 0 0) + j) (by omega) (by omega))
      show mInv (alc σ (nI n)) ∧ _
      unfold alc
      rw [hzn]
      refine ⟨q1, fun k hk => ?_⟩
      show inl (alp σ (nI n)) _ _ _ k = _
      rw [q2 k (by omega)]
      unfold alp
      rw [nwP_n (by omega), ms_u_n (by omega), ms_u_n (by omega)]
  · exact ⟨mInv_err hI, fun k hk => err_k (by omega)⟩
end
